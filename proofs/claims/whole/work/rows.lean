section
-- ===== PART A: goes FIRST, ahead of the names: the tables' words, and 'selects' of the private methods out of them =====
/-- a private method of a class that the tables say can be made, by its rows of tables_1 -/
def lw_okq (q : MethodName × Nat) : Prop := (q.1.cls ≠ "java/lang/invoke/MethodHandle" ∧ q.1.cls ≠ "java/lang/invoke/VarHandle") ∧ Cond.instantiable q.1.cls q.2 ∈ tables_1 ∧ Cond.privateMethod q.1 ∈ tables_1 ∧ Cond.instanceMethod q.1 ∈ tables_1
theorem lw_p0 : lw_okq (⟨"ParserParlour$Meaning", "start", "(I)V"⟩, 9) := ⟨⟨by decide +kernel, by decide +kernel⟩, List.mem_of_getElem? (i := 147) (by decide +kernel), List.mem_of_getElem? (i := 153) (by decide +kernel), List.mem_of_getElem? (i := 154) (by decide +kernel)⟩
theorem lw_p1 : lw_okq (⟨"ParserParlour", "hearOrder", "()I"⟩, 10) := ⟨⟨by decide +kernel, by decide +kernel⟩, List.mem_of_getElem? (i := 16) (by decide +kernel), List.mem_of_getElem? (i := 246) (by decide +kernel), List.mem_of_getElem? (i := 247) (by decide +kernel)⟩
theorem lw_p2 : lw_okq (⟨"ParserParlour", "dropQuestion", "()V"⟩, 10) := ⟨⟨by decide +kernel, by decide +kernel⟩, List.mem_of_getElem? (i := 16) (by decide +kernel), List.mem_of_getElem? (i := 250) (by decide +kernel), List.mem_of_getElem? (i := 251) (by decide +kernel)⟩
theorem lw_p3 : lw_okq (⟨"ParserParlour$Order", "readPart", "(LParserParlour$Words;)Z"⟩, 8) := ⟨⟨by decide +kernel, by decide +kernel⟩, List.mem_of_getElem? (i := 81) (by decide +kernel), List.mem_of_getElem? (i := 264) (by decide +kernel), List.mem_of_getElem? (i := 265) (by decide +kernel)⟩
theorem lw_p4 : lw_okq (⟨"ParserParlour$Order", "add", "(IILParserParlour$Words;)Z"⟩, 8) := ⟨⟨by decide +kernel, by decide +kernel⟩, List.mem_of_getElem? (i := 81) (by decide +kernel), List.mem_of_getElem? (i := 268) (by decide +kernel), List.mem_of_getElem? (i := 269) (by decide +kernel)⟩
theorem lw_p5 : lw_okq (⟨"ParserParlour$Order", "nextSingleRole", "()I"⟩, 8) := ⟨⟨by decide +kernel, by decide +kernel⟩, List.mem_of_getElem? (i := 81) (by decide +kernel), List.mem_of_getElem? (i := 272) (by decide +kernel), List.mem_of_getElem? (i := 273) (by decide +kernel)⟩
theorem lw_p6 : lw_okq (⟨"ParserParlour$Order", "readSingle", "(LParserParlour$Words;I)Z"⟩, 8) := ⟨⟨by decide +kernel, by decide +kernel⟩, List.mem_of_getElem? (i := 81) (by decide +kernel), List.mem_of_getElem? (i := 284) (by decide +kernel), List.mem_of_getElem? (i := 285) (by decide +kernel)⟩
theorem lw_p7 : lw_okq (⟨"ParserParlour$Order", "readHead", "(LParserParlour$Words;I)Z"⟩, 8) := ⟨⟨by decide +kernel, by decide +kernel⟩, List.mem_of_getElem? (i := 81) (by decide +kernel), List.mem_of_getElem? (i := 295) (by decide +kernel), List.mem_of_getElem? (i := 296) (by decide +kernel)⟩
theorem lw_p8 : lw_okq (⟨"ParserParlour", "lookAtOrder", "()I"⟩, 10) := ⟨⟨by decide +kernel, by decide +kernel⟩, List.mem_of_getElem? (i := 16) (by decide +kernel), List.mem_of_getElem? (i := 307) (by decide +kernel), List.mem_of_getElem? (i := 308) (by decide +kernel)⟩
theorem lw_p9 : lw_okq (⟨"ParserParlour$World", "held", "()I"⟩, 6) := ⟨⟨by decide +kernel, by decide +kernel⟩, List.mem_of_getElem? (i := 24) (by decide +kernel), List.mem_of_getElem? (i := 321) (by decide +kernel), List.mem_of_getElem? (i := 322) (by decide +kernel)⟩
theorem lw_p10 : lw_okq (⟨"ParserParlour$Meaning", "findPart", "(II)I"⟩, 9) := ⟨⟨by decide +kernel, by decide +kernel⟩, List.mem_of_getElem? (i := 147) (by decide +kernel), List.mem_of_getElem? (i := 326) (by decide +kernel), List.mem_of_getElem? (i := 327) (by decide +kernel)⟩
theorem lw_p11 : lw_okq (⟨"ParserParlour$Meaning", "findSingle", "(II)I"⟩, 9) := ⟨⟨by decide +kernel, by decide +kernel⟩, List.mem_of_getElem? (i := 147) (by decide +kernel), List.mem_of_getElem? (i := 330) (by decide +kernel), List.mem_of_getElem? (i := 331) (by decide +kernel)⟩
theorem lw_p12 : lw_okq (⟨"ParserParlour$Meaning", "orNothing", "(II)I"⟩, 9) := ⟨⟨by decide +kernel, by decide +kernel⟩, List.mem_of_getElem? (i := 147) (by decide +kernel), List.mem_of_getElem? (i := 335) (by decide +kernel), List.mem_of_getElem? (i := 336) (by decide +kernel)⟩
theorem lw_p13 : lw_okq (⟨"ParserParlour$Meaning", "fitting", "(I)I"⟩, 9) := ⟨⟨by decide +kernel, by decide +kernel⟩, List.mem_of_getElem? (i := 147) (by decide +kernel), List.mem_of_getElem? (i := 339) (by decide +kernel), List.mem_of_getElem? (i := 340) (by decide +kernel)⟩
theorem lw_p14 : lw_okq (⟨"ParserParlour$Meaning", "ask", "(II)I"⟩, 9) := ⟨⟨by decide +kernel, by decide +kernel⟩, List.mem_of_getElem? (i := 147) (by decide +kernel), List.mem_of_getElem? (i := 353) (by decide +kernel), List.mem_of_getElem? (i := 354) (by decide +kernel)⟩
theorem lw_p15 : lw_okq (⟨"ParserParlour$Meaning", "onlyOf", "(I)I"⟩, 9) := ⟨⟨by decide +kernel, by decide +kernel⟩, List.mem_of_getElem? (i := 147) (by decide +kernel), List.mem_of_getElem? (i := 357) (by decide +kernel), List.mem_of_getElem? (i := 358) (by decide +kernel)⟩
def lw_privs_1 : List (MethodName × Nat) := [(⟨"ParserParlour$Meaning", "start", "(I)V"⟩, 9), (⟨"ParserParlour", "hearOrder", "()I"⟩, 10), (⟨"ParserParlour", "dropQuestion", "()V"⟩, 10), (⟨"ParserParlour$Order", "readPart", "(LParserParlour$Words;)Z"⟩, 8), (⟨"ParserParlour$Order", "add", "(IILParserParlour$Words;)Z"⟩, 8), (⟨"ParserParlour$Order", "nextSingleRole", "()I"⟩, 8), (⟨"ParserParlour$Order", "readSingle", "(LParserParlour$Words;I)Z"⟩, 8), (⟨"ParserParlour$Order", "readHead", "(LParserParlour$Words;I)Z"⟩, 8), (⟨"ParserParlour", "lookAtOrder", "()I"⟩, 10), (⟨"ParserParlour$World", "held", "()I"⟩, 6), (⟨"ParserParlour$Meaning", "findPart", "(II)I"⟩, 9), (⟨"ParserParlour$Meaning", "findSingle", "(II)I"⟩, 9), (⟨"ParserParlour$Meaning", "orNothing", "(II)I"⟩, 9), (⟨"ParserParlour$Meaning", "fitting", "(I)I"⟩, 9), (⟨"ParserParlour$Meaning", "ask", "(II)I"⟩, 9), (⟨"ParserParlour$Meaning", "onlyOf", "(I)I"⟩, 9)]
theorem lw_r1 : ∀ q ∈ lw_privs_1, lw_okq q := List.forall_mem_cons.mpr ⟨lw_p0, List.forall_mem_cons.mpr ⟨lw_p1, List.forall_mem_cons.mpr ⟨lw_p2, List.forall_mem_cons.mpr ⟨lw_p3, List.forall_mem_cons.mpr ⟨lw_p4, List.forall_mem_cons.mpr ⟨lw_p5, List.forall_mem_cons.mpr ⟨lw_p6, List.forall_mem_cons.mpr ⟨lw_p7, List.forall_mem_cons.mpr ⟨lw_p8, List.forall_mem_cons.mpr ⟨lw_p9, List.forall_mem_cons.mpr ⟨lw_p10, List.forall_mem_cons.mpr ⟨lw_p11, List.forall_mem_cons.mpr ⟨lw_p12, List.forall_mem_cons.mpr ⟨lw_p13, List.forall_mem_cons.mpr ⟨lw_p14, List.forall_mem_cons.mpr ⟨lw_p15, fun _ h => absurd h List.not_mem_nil⟩⟩⟩⟩⟩⟩⟩⟩⟩⟩⟩⟩⟩⟩⟩⟩
theorem lw_p16 : lw_okq (⟨"ParserParlour", "carryOut", "()V"⟩, 10) := ⟨⟨by decide +kernel, by decide +kernel⟩, List.mem_of_getElem? (i := 16) (by decide +kernel), List.mem_of_getElem? (i := 366) (by decide +kernel), List.mem_of_getElem? (i := 367) (by decide +kernel)⟩
theorem lw_p17 : lw_okq (⟨"ParserParlour$World", "isWithin", "(II)Z"⟩, 6) := ⟨⟨by decide +kernel, by decide +kernel⟩, List.mem_of_getElem? (i := 24) (by decide +kernel), List.mem_of_getElem? (i := 380) (by decide +kernel), List.mem_of_getElem? (i := 381) (by decide +kernel)⟩
theorem lw_p18 : lw_okq (⟨"ParserParlour", "hearAnswer", "()I"⟩, 10) := ⟨⟨by decide +kernel, by decide +kernel⟩, List.mem_of_getElem? (i := 16) (by decide +kernel), List.mem_of_getElem? (i := 389) (by decide +kernel), List.mem_of_getElem? (i := 390) (by decide +kernel)⟩
theorem lw_p19 : lw_okq (⟨"java/lang/Throwable", "fillInStackTrace", "(I)Ljava/lang/Throwable;"⟩, 6) := ⟨⟨by decide +kernel, by decide +kernel⟩, List.mem_of_getElem? (i := 494) (by decide +kernel), List.mem_of_getElem? (i := 492) (by decide +kernel), List.mem_of_getElem? (i := 493) (by decide +kernel)⟩
theorem lw_p20 : lw_okq (⟨"ParserParlourModel", "mayBoth", "(ZZ)Z"⟩, 25) := ⟨⟨by decide +kernel, by decide +kernel⟩, List.mem_of_getElem? (i := 607) (by decide +kernel), List.mem_of_getElem? (i := 698) (by decide +kernel), List.mem_of_getElem? (i := 699) (by decide +kernel)⟩
theorem lw_p21 : lw_okq (⟨"ParserParlourModel", "isThing", "(I)Z"⟩, 25) := ⟨⟨by decide +kernel, by decide +kernel⟩, List.mem_of_getElem? (i := 607) (by decide +kernel), List.mem_of_getElem? (i := 706) (by decide +kernel), List.mem_of_getElem? (i := 707) (by decide +kernel)⟩
theorem lw_p22 : lw_okq (⟨"ParserParlourModel", "may", "(Z)Z"⟩, 25) := ⟨⟨by decide +kernel, by decide +kernel⟩, List.mem_of_getElem? (i := 607) (by decide +kernel), List.mem_of_getElem? (i := 710) (by decide +kernel), List.mem_of_getElem? (i := 711) (by decide +kernel)⟩
theorem lw_p23 : lw_okq (⟨"ParserParlourModel", "reachable", "()I"⟩, 25) := ⟨⟨by decide +kernel, by decide +kernel⟩, List.mem_of_getElem? (i := 607) (by decide +kernel), List.mem_of_getElem? (i := 722) (by decide +kernel), List.mem_of_getElem? (i := 723) (by decide +kernel)⟩
theorem lw_p24 : lw_okq (⟨"ParserParlourModel", "reaches", "(I)Z"⟩, 25) := ⟨⟨by decide +kernel, by decide +kernel⟩, List.mem_of_getElem? (i := 607) (by decide +kernel), List.mem_of_getElem? (i := 726) (by decide +kernel), List.mem_of_getElem? (i := 727) (by decide +kernel)⟩
theorem lw_p25 : lw_okq (⟨"ParserParlourModel", "understand", "()I"⟩, 25) := ⟨⟨by decide +kernel, by decide +kernel⟩, List.mem_of_getElem? (i := 607) (by decide +kernel), List.mem_of_getElem? (i := 754) (by decide +kernel), List.mem_of_getElem? (i := 755) (by decide +kernel)⟩
theorem lw_p26 : lw_okq (⟨"ParserParlourModel", "wrongOrder", "()I"⟩, 25) := ⟨⟨by decide +kernel, by decide +kernel⟩, List.mem_of_getElem? (i := 607) (by decide +kernel), List.mem_of_getElem? (i := 758) (by decide +kernel), List.mem_of_getElem? (i := 759) (by decide +kernel)⟩
theorem lw_p27 : lw_okq (⟨"ParserParlourModel", "perform", "()I"⟩, 25) := ⟨⟨by decide +kernel, by decide +kernel⟩, List.mem_of_getElem? (i := 607) (by decide +kernel), List.mem_of_getElem? (i := 765) (by decide +kernel), List.mem_of_getElem? (i := 766) (by decide +kernel)⟩
theorem lw_p28 : lw_okq (⟨"ParserParlourModel", "part", "()I"⟩, 25) := ⟨⟨by decide +kernel, by decide +kernel⟩, List.mem_of_getElem? (i := 607) (by decide +kernel), List.mem_of_getElem? (i := 769) (by decide +kernel), List.mem_of_getElem? (i := 770) (by decide +kernel)⟩
theorem lw_p29 : lw_okq (⟨"ParserParlourModel", "is", "(I)Z"⟩, 25) := ⟨⟨by decide +kernel, by decide +kernel⟩, List.mem_of_getElem? (i := 607) (by decide +kernel), List.mem_of_getElem? (i := 773) (by decide +kernel), List.mem_of_getElem? (i := 774) (by decide +kernel)⟩
theorem lw_p30 : lw_okq (⟨"ParserParlourModel", "fail", "(II)I"⟩, 25) := ⟨⟨by decide +kernel, by decide +kernel⟩, List.mem_of_getElem? (i := 607) (by decide +kernel), List.mem_of_getElem? (i := 777) (by decide +kernel), List.mem_of_getElem? (i := 778) (by decide +kernel)⟩
theorem lw_p31 : lw_okq (⟨"ParserParlourModel", "endOf", "(I)I"⟩, 25) := ⟨⟨by decide +kernel, by decide +kernel⟩, List.mem_of_getElem? (i := 607) (by decide +kernel), List.mem_of_getElem? (i := 781) (by decide +kernel), List.mem_of_getElem? (i := 782) (by decide +kernel)⟩
def lw_privs_2 : List (MethodName × Nat) := [(⟨"ParserParlour", "carryOut", "()V"⟩, 10), (⟨"ParserParlour$World", "isWithin", "(II)Z"⟩, 6), (⟨"ParserParlour", "hearAnswer", "()I"⟩, 10), (⟨"java/lang/Throwable", "fillInStackTrace", "(I)Ljava/lang/Throwable;"⟩, 6), (⟨"ParserParlourModel", "mayBoth", "(ZZ)Z"⟩, 25), (⟨"ParserParlourModel", "isThing", "(I)Z"⟩, 25), (⟨"ParserParlourModel", "may", "(Z)Z"⟩, 25), (⟨"ParserParlourModel", "reachable", "()I"⟩, 25), (⟨"ParserParlourModel", "reaches", "(I)Z"⟩, 25), (⟨"ParserParlourModel", "understand", "()I"⟩, 25), (⟨"ParserParlourModel", "wrongOrder", "()I"⟩, 25), (⟨"ParserParlourModel", "perform", "()I"⟩, 25), (⟨"ParserParlourModel", "part", "()I"⟩, 25), (⟨"ParserParlourModel", "is", "(I)Z"⟩, 25), (⟨"ParserParlourModel", "fail", "(II)I"⟩, 25), (⟨"ParserParlourModel", "endOf", "(I)I"⟩, 25)]
theorem lw_r2 : ∀ q ∈ lw_privs_2, lw_okq q := List.forall_mem_cons.mpr ⟨lw_p16, List.forall_mem_cons.mpr ⟨lw_p17, List.forall_mem_cons.mpr ⟨lw_p18, List.forall_mem_cons.mpr ⟨lw_p19, List.forall_mem_cons.mpr ⟨lw_p20, List.forall_mem_cons.mpr ⟨lw_p21, List.forall_mem_cons.mpr ⟨lw_p22, List.forall_mem_cons.mpr ⟨lw_p23, List.forall_mem_cons.mpr ⟨lw_p24, List.forall_mem_cons.mpr ⟨lw_p25, List.forall_mem_cons.mpr ⟨lw_p26, List.forall_mem_cons.mpr ⟨lw_p27, List.forall_mem_cons.mpr ⟨lw_p28, List.forall_mem_cons.mpr ⟨lw_p29, List.forall_mem_cons.mpr ⟨lw_p30, List.forall_mem_cons.mpr ⟨lw_p31, fun _ h => absurd h List.not_mem_nil⟩⟩⟩⟩⟩⟩⟩⟩⟩⟩⟩⟩⟩⟩⟩⟩
theorem lw_p32 : lw_okq (⟨"ParserParlourModel", "single", "(I)I"⟩, 25) := ⟨⟨by decide +kernel, by decide +kernel⟩, List.mem_of_getElem? (i := 607) (by decide +kernel), List.mem_of_getElem? (i := 785) (by decide +kernel), List.mem_of_getElem? (i := 786) (by decide +kernel)⟩
theorem lw_p33 : lw_okq (⟨"ParserParlourModel", "adjectivesUpTo", "(II)I"⟩, 25) := ⟨⟨by decide +kernel, by decide +kernel⟩, List.mem_of_getElem? (i := 607) (by decide +kernel), List.mem_of_getElem? (i := 789) (by decide +kernel), List.mem_of_getElem? (i := 790) (by decide +kernel)⟩
theorem lw_p34 : lw_okq (⟨"ParserParlourModel", "having", "(III)I"⟩, 25) := ⟨⟨by decide +kernel, by decide +kernel⟩, List.mem_of_getElem? (i := 607) (by decide +kernel), List.mem_of_getElem? (i := 793) (by decide +kernel), List.mem_of_getElem? (i := 794) (by decide +kernel)⟩
theorem lw_p35 : lw_okq (⟨"ParserParlourModel", "suited", "(II)I"⟩, 25) := ⟨⟨by decide +kernel, by decide +kernel⟩, List.mem_of_getElem? (i := 607) (by decide +kernel), List.mem_of_getElem? (i := 803) (by decide +kernel), List.mem_of_getElem? (i := 804) (by decide +kernel)⟩
theorem lw_p36 : lw_okq (⟨"ParserParlourModel", "suits", "(II)Z"⟩, 25) := ⟨⟨by decide +kernel, by decide +kernel⟩, List.mem_of_getElem? (i := 607) (by decide +kernel), List.mem_of_getElem? (i := 807) (by decide +kernel), List.mem_of_getElem? (i := 808) (by decide +kernel)⟩
theorem lw_p37 : lw_okq (⟨"ParserParlourModel", "isSingleAt", "(I)Z"⟩, 25) := ⟨⟨by decide +kernel, by decide +kernel⟩, List.mem_of_getElem? (i := 607) (by decide +kernel), List.mem_of_getElem? (i := 811) (by decide +kernel), List.mem_of_getElem? (i := 812) (by decide +kernel)⟩
theorem lw_p38 : lw_okq (⟨"ParserParlourModel", "failed", "()I"⟩, 25) := ⟨⟨by decide +kernel, by decide +kernel⟩, List.mem_of_getElem? (i := 607) (by decide +kernel), List.mem_of_getElem? (i := 815) (by decide +kernel), List.mem_of_getElem? (i := 816) (by decide +kernel)⟩
theorem lw_p39 : lw_okq (⟨"ParserParlourModel", "acts", "(I)Z"⟩, 25) := ⟨⟨by decide +kernel, by decide +kernel⟩, List.mem_of_getElem? (i := 607) (by decide +kernel), List.mem_of_getElem? (i := 819) (by decide +kernel), List.mem_of_getElem? (i := 820) (by decide +kernel)⟩
theorem lw_p40 : lw_okq (⟨"ParserParlourModel", "isInside", "(II)Z"⟩, 25) := ⟨⟨by decide +kernel, by decide +kernel⟩, List.mem_of_getElem? (i := 607) (by decide +kernel), List.mem_of_getElem? (i := 823) (by decide +kernel), List.mem_of_getElem? (i := 824) (by decide +kernel)⟩
theorem lw_p41 : lw_okq (⟨"ParserParlourModel", "wrongAnswer", "()I"⟩, 25) := ⟨⟨by decide +kernel, by decide +kernel⟩, List.mem_of_getElem? (i := 607) (by decide +kernel), List.mem_of_getElem? (i := 827) (by decide +kernel), List.mem_of_getElem? (i := 828) (by decide +kernel)⟩
def lw_privs_3 : List (MethodName × Nat) := [(⟨"ParserParlourModel", "single", "(I)I"⟩, 25), (⟨"ParserParlourModel", "adjectivesUpTo", "(II)I"⟩, 25), (⟨"ParserParlourModel", "having", "(III)I"⟩, 25), (⟨"ParserParlourModel", "suited", "(II)I"⟩, 25), (⟨"ParserParlourModel", "suits", "(II)Z"⟩, 25), (⟨"ParserParlourModel", "isSingleAt", "(I)Z"⟩, 25), (⟨"ParserParlourModel", "failed", "()I"⟩, 25), (⟨"ParserParlourModel", "acts", "(I)Z"⟩, 25), (⟨"ParserParlourModel", "isInside", "(II)Z"⟩, 25), (⟨"ParserParlourModel", "wrongAnswer", "()I"⟩, 25)]
theorem lw_r3 : ∀ q ∈ lw_privs_3, lw_okq q := List.forall_mem_cons.mpr ⟨lw_p32, List.forall_mem_cons.mpr ⟨lw_p33, List.forall_mem_cons.mpr ⟨lw_p34, List.forall_mem_cons.mpr ⟨lw_p35, List.forall_mem_cons.mpr ⟨lw_p36, List.forall_mem_cons.mpr ⟨lw_p37, List.forall_mem_cons.mpr ⟨lw_p38, List.forall_mem_cons.mpr ⟨lw_p39, List.forall_mem_cons.mpr ⟨lw_p40, List.forall_mem_cons.mpr ⟨lw_p41, fun _ h => absurd h List.not_mem_nil⟩⟩⟩⟩⟩⟩⟩⟩⟩⟩
def lw_privs : List (MethodName × Nat) := lw_privs_1 ++ (lw_privs_2 ++ (lw_privs_3))
def lw_tbl : List Cond := k2_sels lw_privs ++ tables_1
theorem lw_privs_ok : ∀ q ∈ lw_privs, lw_okq q := by
  show ∀ q ∈ lw_privs_1 ++ (lw_privs_2 ++ (lw_privs_3)), lw_okq q
  exact List.forall_mem_append.mpr ⟨lw_r1, List.forall_mem_append.mpr ⟨lw_r2, lw_r3⟩⟩
-- ===== end of PART A; then your names; then what follows =====
end
section
/-! ===== BEGIN words of one list among another's, by their places ===== -/
theorem goodIn_r {big : List Cond} (ws : List Cond) (ps : List Nat) (hp : ws = ps.filterMap (fun i => big[i]?)) (h : ws.all goodWord = true) : GoodIn big ws := by
  intro w hw
  have h1 := List.all_eq_true.mp h w hw
  rw [hp] at hw
  obtain ⟨i, -, hi⟩ := List.mem_filterMap.mp hw
  have hm : w ∈ big := by first | exact List.mem_of_getElem? hi | exact List.getElem?_mem hi
  exact ⟨hm, good_of_word h1⟩
theorem goodIn_app {big a b : List Cond} (ha : GoodIn big a) (hb : GoodIn big b) : GoodIn big (a ++ b) := fun w h => (List.mem_append.mp h).elim (ha w) (hb w)
theorem goodIn_ca {big a b : List Cond} {c : Cond} (ha : GoodIn big (c :: a)) (hb : GoodIn big b) : GoodIn big (c :: (a ++ b)) := fun w h => (List.mem_cons.mp h).elim (fun e => ha w (List.mem_cons.mpr (Or.inl e))) (fun h => (List.mem_append.mp h).elim (fun h => ha w (List.mem_cons.mpr (Or.inr h))) (hb w))
theorem goodIn_sub {big ws : List Cond} (hm : ∀ w ∈ ws, w ∈ big) (h : ws.all goodWord = true) : GoodIn big ws := fun w hw => ⟨hm w hw, good_of_word (List.all_eq_true.mp h w hw)⟩
/-! ===== END ===== -/

/-! ===== BEGIN exceptions that leave a method, and their catching by the caller (launches without stack traces) ===== -/
section VXA
/-! The laws vx_back, vx_callV, vx_callS, vx_callSW, vx_throw0, vx_throwS follow proofs of the library, with one case more: JvmDerived/Free/Laws.lean (Back.of_free), Shelf42/LK1.lean (callV, callS), Shelf/KitTraced.lean (throwNew0V, throwNewS). -/
/-- where a method has thrown q: the class by its name, the cell, what was written, the world -/
def vx_T (XC : String → State → State → Prop) (st : State) (q : Addr) (t : State) (mc ms : Nat) (free : Addr → Prop) : Prop :=
  ∃ (E : String) (ce : Cell) (L : List Loc), XC E st t ∧ t.heap[q]? = some ce ∧ ce.vm = .none ∧ st.vm.findClass E = some ce.cls ∧ st.WarmedH t.vm ∧ st.sameButNew ({ t with vm := st.vm } : State) L mc ms ∧ ∀ z ∈ L, free z.base
def vx_Q (Qc : Array Value → State → Outcome → State → Prop) (XC : String → State → State → Prop) (mc ms : Nat) (free : Addr → Prop) : Array Value → State → Outcome → State → Prop := fun a st o t =>
  (Qc a st o t ∧ ∃ L, FrameEnd st o t L mc ms ∧ ∀ q ∈ L, free q.base) ∨ ∃ q, o = .threw q ∧ vx_T XC st q t mc ms free
/-- a callee that returns or throws -/
def vx_Met (l : Launch) (y : MethodName) (ws : List Cond) (rm : Room) (Pc : Array Value → State → Prop) (Qc : Array Value → State → Outcome → State → Prop) (XC : String → State → State → Prop) (mc ms : Nat) (free : Addr → Prop) : Prop :=
  MetFree l y (headSpec ws rm) Pc (fun _ _ _ _ _ => True) (vx_Q Qc XC mc ms free)
def vx_Post (XC : String → State → State → Prop) (mc ms : Nat) (free : Addr → Prop) : Pt → Array Value → Addr → Pt → Prop := fun A a q B =>
  ∃ (g : JFrame) (mk : MethodId) (t : State) (L : List Loc) (E : String) (ce : Cell), B.U.heap = t.heap ∧ B.U.vm = t.vm ∧ XC E (A.U.calling g mk a) t ∧ t.heap[q]? = some ce ∧ ce.vm = .none ∧ A.U.vm.findClass E = some ce.cls ∧ B.locs = A.locs ++ L ∧ (∀ z ∈ L, free z.base) ∧ B.cells = A.cells + mc ∧ B.slots = A.slots + ms
def vx_Back (l : Launch) (R : Room) (p : Program) (e : Env) (below : List Frame) (s : State) (sargs : Array Value) (y : MethodName) (len W9 : Nat)
    (Pre : Pt → Array Value → Prop) (Post : Pt → Array Value → Option Value → Pt → Prop) (PostX : Pt → Array Value → Addr → Pt → Prop) : Prop :=
  ∀ (m : MethodId) (meth : Method) (c : Code) (A : Pt) (g : JFrame) (ig : Instr) (mk : MethodId) (a : Array Value),
    Stand p l e R s m sargs below meth c A.U A.locs A.cells A.slots → g.method = m → g.locals.size = c.maxLocals → decode c.code g.pc = .ok (ig, len) →
    2 * g.monitorRoom + (g.stack.map fun v => v.category).sum ≤ W9 → A.U.methodNamed? y = some mk → Pre A a →
    (∃ (v : Option Value) (B : Pt), Stand p l e R s m sargs below meth c B.U B.locs B.cells B.slots ∧ Post A a v B ∧
      Steps p.tables e below (doInvoke e (A.U.setTop g) [] mk a).1 (B.U.setTop { g with pc := g.pc + len, stack := v.toList ++ g.stack })) ∨
    (∃ (q : Addr) (B : Pt), Stand p l e R s m sargs below meth c B.U B.locs B.cells B.slots ∧ PostX A a q B ∧
      Steps p.tables e below (doInvoke e (A.U.setTop g) [] mk a).1 ((B.U.setTop g).pushFrame (.throwing q)))
section Payer
variable {l : Launch} {R : Room} {p : Program} {e : Env} {below : List Frame} {s : State} {sargs : Array Value} {y : MethodName} {len W9 : Nat}
theorem vx_back {ws : List Cond} {rm : Room} {Pc : Array Value → State → Prop} {Qc : Array Value → State → Outcome → State → Prop} {XC : String → State → State → Prop} {mc ms : Nat} {free : Addr → Prop} {bytes : ByteArray} {maxL : Nat} {ret : Option FieldType}
    (hM : vx_Met l y ws rm Pc Qc XC mc ms free) (hblind : FrameBlind Pc) (hrc : rm.cells = mc) (hrs : rm.slots = ms)
    (hframes : rm.frames + 1 ≤ R.frames) (hlocals : W9 + (maxL + 11) + rm.locals ≤ R.locals)
    (hws : ∀ w ∈ ws, ∀ a' U, s.WarmedH U.vm → w.before a' U = true) (hcode : Cond.code y bytes maxL ret ∈ ws) (hinit : ∀ a' U, s.WarmedH U.vm → (Cond.initialized y.cls).before a' U = true) :
    vx_Back l R p e below s sargs y len W9 (PreOf R mc ms Pc) (PostOf Qc mc ms free) (vx_Post XC mc ms free) := by
  intro m meth c A g ig mk a X hg hsize hdg hW hn hp
  have h1 : (headSpec ws rm).pre.before a A.U = true := atoms_intro fun w hw => hws w hw _ _ X.warmed
  have h2 : (Cond.code y bytes maxL ret).before a A.U = true := hws _ hcode _ _ X.warmed
  have h3 : (Cond.initialized y.cls).before a A.U = true := hinit _ _ X.warmed
  have h4 : A.cells + (headSpec ws rm).room.cells ≤ R.cells := by rw [show (headSpec ws rm).room.cells = mc from hrc]; exact hp.1
  have h5 : A.slots + (headSpec ws rm).room.slots ≤ R.slots := by rw [show (headSpec ws rm).room.slots = ms from hrs]; exact hp.2.1
  have hPc : Pc a (A.U.calling g mk a) := hblind _ _ _ _ hp.2.2
  obtain ⟨U, Ls, c0, s0⟩ := A
  dsimp only [Pt.U, Pt.locs, Pt.cells, Pt.slots] at h1 h2 h3 h4 h5 X hn hPc ⊢
  obtain ⟨methY, cY, hmY, hcY, -, hlY, -, -, -, -⟩ := Cond.code_spec hn h2
  obtain ⟨kY, hkY, -⟩ := className_of_methodNamed hn
  have hinitY : kY.init = .initialized := Cond.initialized_spec (findClass_of_methodNamed hn) hkY h3
  have h : At U g.method c below := by rw [hg]; exact X.here
  have hlocals9 : W9 + (maxL + 11) + (headSpec ws rm).room.locals ≤ R.locals := hlocals
  have happ : (headSpec ws rm).appliesLoose y e.platform (U.calling g mk a) = true :=
    Spec.appliesLoose_calling (g := g) h hdg hn hkY hinitY
      (X.room_calling (g := g) (R' := (headSpec ws rm).room) hsize hmY hcY hframes (by rw [hlY]; omega) h4 h5) h1
  obtain ⟨mid, hmid⟩ := h.above
  have hfr : (U.setTop g).frames = (.java g :: mid) ++ below := by rw [State.frames_setTop' g h.top, hmid]; rfl
  obtain ⟨o, s₂, hsteps, -, hend, hq⟩ := Steps.callFree hM p X.admits X.cas X.clock (acts := []) hfr happ hPc trivial
  have hq' : vx_Q Qc XC mc ms free a (U.calling g mk a) o s₂ := hq
  rw [State.frames_setTop' g h.top] at hend
  obtain ⟨g₀, hg0⟩ := Option.isSome_iff_exists.mp h.top
  obtain ⟨r, hr⟩ := State.topJava?_eq_some.mp hg0
  have hr' : (({ U with heap := s₂.heap, slotsUsed := s₂.slotsUsed } : State).setVm s₂.vm).frames = .java g₀ :: r := hr
  rcases hq' with ⟨hqc, L, hfe, hL⟩ | ⟨q, rfl, E, ce, L, hx, hce, hcv, hcl, hW₂, hsm, hL⟩
  · obtain ⟨⟨v, rfl⟩, hW₂, e2, q2, q3, q4, q5, q6⟩ := id hfe
    have e3 : s₂ = ({ (U.calling g mk a).setFrames s₂.frames with heap := s₂.heap, slotsUsed := s₂.slotsUsed } : State).setVm s₂.vm := by
      have : s₂ = ({ s₂ with vm := (U.calling g mk a).vm } : State).setVm s₂.vm := rfl
      rw [e2] at this
      exact this
    obtain ⟨c₂, i₂, len₂, hc₂, hd₂, hf₂⟩ := hend
    have hW' : U.WarmedH s₂.vm := hW₂
    have hcc : c₂ = c := by
      have h1 : s₂.code? g.method = U.code? g.method := by
        rw [State.code?_eq, State.code?_eq, hW'.alike.method?]
      exact Option.some.inj (hc₂.symm.trans (h1.trans h.code))
    subst hcc
    have hlen : len₂ = len := by rw [hdg] at hd₂; cases hd₂; rfl
    subst hlen
    have hs₂ : s₂ = (({ U with heap := s₂.heap, slotsUsed := s₂.slotsUsed } : State).setVm s₂.vm).setTop { g with pc := g.pc + len₂, stack := v.toList ++ g.stack } := by
      refine e3.trans ?_
      rw [hf₂, State.calling_eq h.top, State.setFrames_setFrames, State.setTop_of_frames _ hr', hr]
      rfl
    have hsame : U.sameButNew ({ U with heap := s₂.heap, slotsUsed := s₂.slotsUsed } : State) L mc ms := by
      refine ⟨?_, q2, q3, q4, q5, q6⟩
      obtain ⟨t, ht, -⟩ := State.frames_cons hr
      show ({ U with heap := s₂.heap, slotsUsed := s₂.slotsUsed } : State) = { U.setFrames U.frames with heap := s₂.heap, slotsUsed := s₂.slotsUsed }
      rw [State.setFrames_self ht]
    subst hg
    refine Or.inl ⟨v, ⟨(({ U with heap := s₂.heap, slotsUsed := s₂.slotsUsed } : State).setVm s₂.vm), Ls ++ L, c0 + mc, s0 + ms⟩,
      ⟨X.admits, X.cas, X.clock, X.frames, X.room, X.hears, X.method, X.code, (X.here.setHeapUsed s₂.heap s₂.slotsUsed).setVm hW'.alike, X.tail, State.WarmedH.trans X.warmed hW', X.limits, X.bytes, X.same.trans (hsame.setVm s.vm)⟩,
      ⟨g, mk, s₂, L, rfl, rfl, hqc, rfl, hL, rfl, rfl⟩, ?_⟩
    show Steps p.tables e below _ ((({ U with heap := s₂.heap, slotsUsed := s₂.slotsUsed } : State).setVm s₂.vm).setTop { g with pc := g.pc + len₂, stack := v.toList ++ g.stack })
    rw [← hs₂]
    exact hsteps
  · obtain ⟨e2, q2, q3, q4, q5, q6⟩ := id hsm
    have e3 : s₂ = ({ (U.calling g mk a).setFrames s₂.frames with heap := s₂.heap, slotsUsed := s₂.slotsUsed } : State).setVm s₂.vm := by
      have : s₂ = ({ s₂ with vm := (U.calling g mk a).vm } : State).setVm s₂.vm := rfl
      rw [e2] at this
      exact this
    have hf₂ : s₂.frames = .throwing q :: .java g :: U.frames.tail := hend
    have hW' : U.WarmedH s₂.vm := hW₂
    have hs₂ : s₂ = ((({ U with heap := s₂.heap, slotsUsed := s₂.slotsUsed } : State).setVm s₂.vm).setTop g).pushFrame (.throwing q) := by
      refine e3.trans ?_
      rw [hf₂, State.calling_eq h.top, State.setFrames_setFrames, State.pushFrame, State.frames_setTop _ hr', State.setTop_of_frames _ hr', State.setFrames_setFrames, hr]
      rfl
    have hsame : U.sameButNew ({ U with heap := s₂.heap, slotsUsed := s₂.slotsUsed } : State) L mc ms := by
      refine ⟨?_, q2, q3, q4, q5, q6⟩
      obtain ⟨t, ht, -⟩ := State.frames_cons hr
      show ({ U with heap := s₂.heap, slotsUsed := s₂.slotsUsed } : State) = { U.setFrames U.frames with heap := s₂.heap, slotsUsed := s₂.slotsUsed }
      rw [State.setFrames_self ht]
    subst hg
    refine Or.inr ⟨q, ⟨(({ U with heap := s₂.heap, slotsUsed := s₂.slotsUsed } : State).setVm s₂.vm), Ls ++ L, c0 + mc, s0 + ms⟩,
      ⟨X.admits, X.cas, X.clock, X.frames, X.room, X.hears, X.method, X.code, (X.here.setHeapUsed s₂.heap s₂.slotsUsed).setVm hW'.alike, X.tail, State.WarmedH.trans X.warmed hW', X.limits, X.bytes, X.same.trans (hsame.setVm s.vm)⟩,
      ⟨g, mk, s₂, L, E, ce, rfl, rfl, hx, hce, hcv, hcl, rfl, hL, rfl, rfl⟩, ?_⟩
    show Steps p.tables e below _ (((({ U with heap := s₂.heap, slotsUsed := s₂.slotsUsed } : State).setVm s₂.vm).setTop g).pushFrame (.throwing q))
    rw [← hs₂]
    exact hsteps
end Payer
section Calls
variable {p : Program} {l : Launch} {e : Env} {R : Room} {s : State} {m : MethodId} {args : Array Value} {below : List Frame} {meth : Method} {c : Code} {T : State} {locs : List Loc} {cells slots : Nat}
theorem vx_callV (X : Stand p l e R s m args below meth c T locs cells slots) (hexec : p.tables.exec = Jvm.exec) {own C : String} {index : Nat} {y : MethodName} {bytes : ByteArray} {maxL : Nat} {ret : Option FieldType}
    (hown : s.vm.findClass own = some m.cls) (hlink : (Cond.methodLink own index y).before args s = true) (hinst : (Cond.instanceMethod y).before args s = true) (hsel : (Cond.selects C y y).before args s = true)
    (hcode : (Cond.code y bytes maxL ret).before args s = true) (hy : y.cls ≠ "java/lang/invoke/MethodHandle" ∧ y.cls ≠ "java/lang/invoke/VarHandle")
    {W9 : Nat} {Pre : Pt → Array Value → Prop} {Post : Pt → Array Value → Option Value → Pt → Prop} {PostX : Pt → Array Value → Addr → Pt → Prop} (hK : vx_Back l R p e below s args y 3 W9 Pre Post PostX)
    {b : Addr} {cellB : Cell} (hcell : T.heap[b]? = some cellB) (hobj : cellB.vm.isStatics = false) (hcls : s.vm.findClass C = some cellB.cls)
    {g : JFrame} (hg : g.method = m) (hsize : g.locals.size = c.maxLocals) {argsL rest : List Value} (hlen : ∀ sig, parseMethodDescriptor y.desc = some sig → argsL.length = sig.parameters.length)
    (hstack : g.stack = argsL.reverse ++ .ref b :: rest) (hW : 2 * g.monitorRoom + (rest.map fun v => v.category).sum ≤ W9) (hdg : decode c.code g.pc = .ok (.invokevirtual index, 3))
    (hpre : ∀ vm₁, s.WarmedH vm₁ → Pre ⟨T.setVm vm₁, locs, cells, slots⟩ (Value.ref b :: argsL).toArray) :
    (∃ (v : Option Value) (vm₁ : Vm) (B : Pt), s.WarmedH vm₁ ∧ Stand p l e R s m args below meth c B.U B.locs B.cells B.slots ∧ Post ⟨T.setVm vm₁, locs, cells, slots⟩ (Value.ref b :: argsL).toArray v B ∧
      ∀ target, Steps p.tables e below (B.U.setTop { g with pc := g.pc + 3, stack := v.toList ++ rest }) target → Steps p.tables e below (T.setTop g) target) ∨
    (∃ (q : Addr) (vm₁ : Vm) (B : Pt), s.WarmedH vm₁ ∧ Stand p l e R s m args below meth c B.U B.locs B.cells B.slots ∧ PostX ⟨T.setVm vm₁, locs, cells, slots⟩ (Value.ref b :: argsL).toArray q B ∧
      Steps p.tables e below (T.setTop g) ((B.U.setTop { g with stack := rest }).pushFrame (.throwing q))) := by
  obtain ⟨mk, methM, hnamed, hmethM, hstM, habM⟩ := Cond.instanceMethod_spec hinst
  obtain ⟨methM', cM, hmethM', -, -, -, -, -, -, hsigM⟩ := Cond.code_spec hnamed hcode
  cases hmethM.symm.trans hmethM'
  obtain ⟨c2, r2, m2, q1, q2, q3, q4, kP, hkP, hkPi⟩ := Cond.selects_spec hsel
  cases hcls.symm.trans q1
  cases (State.methodFound?_of_named hnamed hy).symm.trans q2
  cases hnamed.symm.trans q3
  have hselP : selectMethod e.platform s.vm cellB.cls mk = .method mk := by rw [Launch.admits_selectMethod X.admits]; exact q4
  obtain ⟨vm₁, X₁, hstep₁⟩ := X.invokevirtual hexec hown hlink hnamed hmethM hstM hkP hkPi hy (a := b) (cell := cellB) hcell
    (fun z h => by rw [h] at hobj; cases hobj) hselP hmethM habM hkP hkPi (g := g) hg (argsL := argsL) (rest := rest) (hlen _ hsigM) hstack hdg
  rcases hK m meth c ⟨T.setVm vm₁, locs, cells, slots⟩ { g with stack := rest } (.invokevirtual index) mk (Value.ref b :: argsL).toArray X₁ hg hsize hdg hW (X₁.named hnamed) (hpre vm₁ X₁.warmed) with ⟨v, B, X', hpost, hsteps⟩ | ⟨q, B, X', hpost, hsteps⟩
  · exact Or.inl ⟨v, vm₁, B, X₁.warmed, X', hpost, fun target h => hstep₁ _ fun acts => by rw [doInvoke_state]; exact hsteps.trans h⟩
  · exact Or.inr ⟨q, vm₁, B, X₁.warmed, X', hpost, hstep₁ _ fun acts => by rw [doInvoke_state]; exact hsteps⟩
theorem vx_callS (X : Stand p l e R s m args below meth c T locs cells slots) (hexec : p.tables.exec = Jvm.exec) {own : String} {index : Nat} {y : MethodName} {bytes : ByteArray} {maxL : Nat} {ret : Option FieldType}
    (hown : s.vm.findClass own = some m.cls) (hlink : (Cond.methodLink own index y).before args s = true) (hstat : (Cond.static y).before args s = true) (hinit : (Cond.initialized y.cls).before args s = true)
    (hcode : (Cond.code y bytes maxL ret).before args s = true) (hy : y.cls ≠ "java/lang/invoke/MethodHandle" ∧ y.cls ≠ "java/lang/invoke/VarHandle")
    {W9 : Nat} {Pre : Pt → Array Value → Prop} {Post : Pt → Array Value → Option Value → Pt → Prop} {PostX : Pt → Array Value → Addr → Pt → Prop} (hK : vx_Back l R p e below s args y 3 W9 Pre Post PostX)
    {g : JFrame} (hg : g.method = m) (hsize : g.locals.size = c.maxLocals) {argsL rest : List Value} (hlen : ∀ sig, parseMethodDescriptor y.desc = some sig → argsL.length = sig.parameters.length)
    (hstack : g.stack = argsL.reverse ++ rest) (hW : 2 * g.monitorRoom + (rest.map fun v => v.category).sum ≤ W9) (hdg : decode c.code g.pc = .ok (.invokestatic index, 3))
    (hpre : ∀ vm₁, s.WarmedH vm₁ → Pre ⟨T.setVm vm₁, locs, cells, slots⟩ argsL.toArray) :
    (∃ (v : Option Value) (vm₁ : Vm) (B : Pt), s.WarmedH vm₁ ∧ Stand p l e R s m args below meth c B.U B.locs B.cells B.slots ∧ Post ⟨T.setVm vm₁, locs, cells, slots⟩ argsL.toArray v B ∧
      ∀ target, Steps p.tables e below (B.U.setTop { g with pc := g.pc + 3, stack := v.toList ++ rest }) target → Steps p.tables e below (T.setTop g) target) ∨
    (∃ (q : Addr) (vm₁ : Vm) (B : Pt), s.WarmedH vm₁ ∧ Stand p l e R s m args below meth c B.U B.locs B.cells B.slots ∧ PostX ⟨T.setVm vm₁, locs, cells, slots⟩ argsL.toArray q B ∧
      Steps p.tables e below (T.setTop g) ((B.U.setTop { g with stack := rest }).pushFrame (.throwing q))) := by
  obtain ⟨mk, hnamed⟩ := Cond.code_named hcode
  obtain ⟨methM, cM, hmethM, -, -, -, -, -, -, hsigM⟩ := Cond.code_spec hnamed hcode
  have hstatic : methM.isStatic = true := Cond.static_spec hnamed hmethM hstat
  obtain ⟨kP, hkP, -⟩ := className_of_methodNamed hnamed
  have hinitP : kP.init = .initialized := Cond.initialized_spec (findClass_of_methodNamed hnamed) hkP hinit
  obtain ⟨vm₁, X₁, hstep₁⟩ := X.invokestatic hexec hown hlink hnamed hmethM hstatic hkP hinitP hy (g := g) hg (argsL := argsL) (rest := rest) (hlen _ hsigM) hstack hdg
  rcases hK m meth c ⟨T.setVm vm₁, locs, cells, slots⟩ { g with stack := rest } (.invokestatic index) mk argsL.toArray X₁ hg hsize hdg hW (X₁.named hnamed) (hpre vm₁ X₁.warmed) with ⟨v, B, X', hpost, hsteps⟩ | ⟨q, B, X', hpost, hsteps⟩
  · exact Or.inl ⟨v, vm₁, B, X₁.warmed, X', hpost, fun target h => hstep₁ _ fun acts => by rw [doInvoke_state]; exact hsteps.trans h⟩
  · exact Or.inr ⟨q, vm₁, B, X₁.warmed, X', hpost, hstep₁ _ fun acts => by rw [doInvoke_state]; exact hsteps⟩
end Calls
theorem vx_cls {s : State} {T : State} {vm₁ : Vm} {E : String} {k : ClassId} (hW : s.WarmedH vm₁) (h : (T.setVm vm₁).vm.findClass E = some k) : s.vm.findClass E = some k := by
  have h1 : vm₁.findClass E = some k := h
  rw [hW.alike.findClass] at h1
  exact h1
/-- the method's frame g, with q thrown over it -/
def vx_W (p : Program) (l : Launch) (e : Env) (R : Room) (s : State) (m : MethodId) (args : Array Value) (below : List Frame) (meth : Method) (c : Code) (H : Heap) (locs : List Loc) (cells slots : Nat) (Q : State → Prop) (g : JFrame) (q : Addr) : Prop :=
  ∀ T : State, T.heap = H → Stand p l e R s m args below meth c T locs cells slots → ∃ t, Steps p.tables e below ((T.setTop g).pushFrame (.throwing q)) t ∧ Q t
def vx_Run (p : Program) (l : Launch) (e : Env) (R : Room) (s : State) (m : MethodId) (args : Array Value) (below : List Frame) (meth : Method) (c : Code) (H : Heap) (locs : List Loc) (cells slots mc ms : Nat) (g : JFrame) (rest : List Value) (Qa : State → Outcome → State → Prop) (XC : String → State → State → Prop) (free : Addr → Prop) : Prop :=
  ∀ T : State, T.heap = H → Stand p l e R s m args below meth c T locs cells slots →
    (∃ (v : Option Value) (st₀ t T' : State) (L : List Loc), st₀.heap = H ∧ Stand p l e R s m args below meth c T' (locs ++ L) (cells + mc) (slots + ms) ∧ (∀ q ∈ L, free q.base) ∧ T'.heap = t.heap ∧ T'.vm = t.vm ∧ Qa st₀ (.returned v) t ∧
      Goes p e below T g T' { g with pc := g.pc + 3, stack := v.toList ++ rest }) ∨
    (∃ (q : Addr) (st₀ t T' : State) (L : List Loc) (E : String) (ce : Cell), st₀.heap = H ∧ Stand p l e R s m args below meth c T' (locs ++ L) (cells + mc) (slots + ms) ∧ (∀ z ∈ L, free z.base) ∧ T'.heap = t.heap ∧ T'.vm = t.vm ∧ XC E st₀ t ∧ t.heap[q]? = some ce ∧ ce.vm = .none ∧ s.vm.findClass E = some ce.cls ∧
      Steps p.tables e below (T.setTop g) ((T'.setTop { g with stack := rest }).pushFrame (.throwing q)))
def vx_X {S : Type} (px : S → Prop) (B : String → S → State → Prop) (A : Nat → Prop) : String → State → State → Prop := fun E st t => ∃ u : S, px u ∧ B E u t ∧ va_F A st t
section Runs
variable {p : Program} {l : Launch} {e : Env} {R : Room} {s : State} {m : MethodId} {args : Array Value} {below : List Frame} {meth : Method} {c : Code} {H : Heap} {locs : List Loc} {cells slots : Nat}
variable {y : MethodName} {bytes cc : ByteArray} {maxL nL mc ms n index : Nat} {ret : Option FieldType} {ws : List Cond} {rm : Room} {Pc : Array Value → State → Prop} {Qc : Array Value → State → Outcome → State → Prop} {XC : String → State → State → Prop} {free : Addr → Prop} {Ts : List Cond} {own C : String} {b : Addr} {As rest : List Value} {g : JFrame}
theorem vx_callBack (cb : CallB R s args own index y bytes maxL ret ws rm mc ms n) (hM : vx_Met l y ws rm Pc Qc XC mc ms free) (hbl : FrameBlind Pc) : vx_Back l R p e below s args y 3 8 (PreOf R mc ms Pc) (PostOf Qc mc ms free) (vx_Post XC mc ms free) := by
  obtain ⟨hrc, hrs, hfr, hlo, hws, hcw, -, hini, -⟩ := cb
  exact vx_back (bytes := bytes) (maxL := maxL) (ret := ret) hM hbl hrc hrs hfr hlo hws hcw (fun a' U hW => word_at hW (Or.inl (by first | rfl | simp [Cond.onTables, Cond.keeps, Cond.steady])) hini)
theorem vx_runV (S : CallFix p m c cc nL s args Ts own) (hM : vx_Met l y ws rm Pc Qc XC mc ms free) (cw : CallW R s args own C index y bytes maxL ret ws rm mc ms n) (hp : PreV s H C b Pc As)
    (hg : g.method = m) (hn : As.length = n) (hsize : g.locals.size = nL) (hstack : g.stack = As.reverse ++ .ref b :: rest) (hW : 2 * g.monitorRoom + (rest.map fun v => v.category).sum ≤ 8) (hdg : decode cc g.pc = .ok (.invokevirtual index, 3)) (hf : cells + mc ≤ R.cells ∧ slots + ms ≤ R.slots) :
    vx_Run p l e R s m args below meth c H locs cells slots mc ms g rest (Qc (Value.ref b :: As).toArray) XC free := by
  have hK : vx_Back l R p e below s args y 3 8 (PreOf R mc ms Pc) (PostOf Qc mc ms free) (vx_Post XC mc ms free) := vx_callBack cw.1 hM hp.1
  obtain ⟨⟨-, -, -, -, -, -, hcode, -, hy, hlen, hl⟩, hin, hse⟩ := cw
  obtain ⟨hx, hb, hml, ho, -⟩ := S
  obtain ⟨-, ⟨cellB, hcB, hoB, hclB⟩, hPc⟩ := hp
  intro T hT X
  rcases vx_callV X hx (C := C) (bytes := bytes) (maxL := maxL) (ret := ret) ho hl hin hse hcode hy hK (by rw [hT]; exact hcB) hoB hclB hg (hsize.trans hml.symm) (argsL := As) (rest := rest) (fun sig h => hn.trans (hlen sig h)) hstack hW (by rw [hb]; exact hdg)
    (fun vm₁ hW₁ => ⟨hf.1, hf.2, hPc (T.setVm vm₁) hT hW₁⟩) with ⟨v, vm₁, ⟨U', l2, c2, s2⟩, hW₁, X', ⟨g', mk, t, L, e1, e2, hq, h1, hL, h2, h3⟩, st⟩ | ⟨q, vm₁, ⟨U', l2, c2, s2⟩, hW₁, X', ⟨g', mk, t, L, E, ce, e1, e2, hq, hce, hcv, hcl, h1, hL, h2, h3⟩, st⟩
  · dsimp only [Pt.U, Pt.locs, Pt.cells, Pt.slots] at X' e1 e2 h1 h2 h3 st
    subst h1; subst h2; subst h3
    exact Or.inl ⟨v, (T.setVm vm₁).calling g' mk (Value.ref b :: As).toArray, t, U', L, hT, X', hL, e1, e2, hq, st⟩
  · dsimp only [Pt.U, Pt.locs, Pt.cells, Pt.slots] at X' e1 e2 h1 h2 h3 st hcl
    subst h1; subst h2; subst h3
    exact Or.inr ⟨q, (T.setVm vm₁).calling g' mk (Value.ref b :: As).toArray, t, U', L, E, ce, hT, X', hL, e1, e2, hq, hce, hcv, vx_cls hW₁ hcl, st⟩
theorem vx_runS (S : CallFix p m c cc nL s args Ts own) (hM : vx_Met l y ws rm Pc Qc XC mc ms free) (cw : CallB R s args own index y bytes maxL ret ws rm mc ms n ∧ (Cond.static y).before args s = true) (hp : PreS s H Pc As)
    (hg : g.method = m) (hn : As.length = n) (hsize : g.locals.size = nL) (hstack : g.stack = As.reverse ++ rest) (hW : 2 * g.monitorRoom + (rest.map fun v => v.category).sum ≤ 8) (hdg : decode cc g.pc = .ok (.invokestatic index, 3)) (hf : cells + mc ≤ R.cells ∧ slots + ms ≤ R.slots) :
    vx_Run p l e R s m args below meth c H locs cells slots mc ms g rest (Qc As.toArray) XC free := by
  have hK : vx_Back l R p e below s args y 3 8 (PreOf R mc ms Pc) (PostOf Qc mc ms free) (vx_Post XC mc ms free) := vx_callBack cw.1 hM hp.1
  obtain ⟨⟨-, -, -, -, -, -, hcode, hini, hy, hlen, hl⟩, hstt⟩ := cw
  obtain ⟨hx, hb, hml, ho, -⟩ := S
  intro T hT X
  rcases vx_callS X hx (bytes := bytes) (maxL := maxL) (ret := ret) ho hl hstt hini hcode hy hK hg (hsize.trans hml.symm) (argsL := As) (rest := rest) (fun sig h => hn.trans (hlen sig h)) hstack hW (by rw [hb]; exact hdg)
    (fun vm₁ hW₁ => ⟨hf.1, hf.2, hp.2 (T.setVm vm₁) hT hW₁⟩) with ⟨v, vm₁, ⟨U', l2, c2, s2⟩, hW₁, X', ⟨g', mk, t, L, e1, e2, hq, h1, hL, h2, h3⟩, st⟩ | ⟨q, vm₁, ⟨U', l2, c2, s2⟩, hW₁, X', ⟨g', mk, t, L, E, ce, e1, e2, hq, hce, hcv, hcl, h1, hL, h2, h3⟩, st⟩
  · dsimp only [Pt.U, Pt.locs, Pt.cells, Pt.slots] at X' e1 e2 h1 h2 h3 st
    subst h1; subst h2; subst h3
    exact Or.inl ⟨v, (T.setVm vm₁).calling g' mk As.toArray, t, U', L, hT, X', hL, e1, e2, hq, st⟩
  · dsimp only [Pt.U, Pt.locs, Pt.cells, Pt.slots] at X' e1 e2 h1 h2 h3 st hcl
    subst h1; subst h2; subst h3
    exact Or.inr ⟨q, (T.setVm vm₁).calling g' mk As.toArray, t, U', L, E, ce, hT, X', hL, e1, e2, hq, hce, hcv, vx_cls hW₁ hcl, st⟩
end Runs
section Rows
variable {p : Program} {l : Launch} {e : Env} {R : Room} {s : State} {m : MethodId} {args : Array Value} {below : List Frame} {meth : Method} {c : Code} {H : Heap} {locs : List Loc} {cells slots : Nat} {Q : State → Prop}
variable {mc ms : Nat} {free : Addr → Prop} {A0 A1 : Nat → Prop} {H0 : Heap} {a : Array Value} {pc : Nat} {ls : Array Slot} {st0 rest : List Value}
theorem vx_keep {st₀ t T' : State} {L : List Loc} (h0 : st₀.heap = H) (e1 : T'.heap = t.heap) (hS : va_S A0 H0 H locs) (hA : ∀ q, q < H.size → A1 q → A0 q) (hf : ∀ q, free q → A0 q) (hL : ∀ q ∈ L, free q.base) (hF : va_F A1 st₀ t) :
    H.size ≤ T'.heap.size ∧ (∀ q : Nat, q < H.size → ¬ A1 q → T'.heap[q]? = H[q]?) ∧ va_S A0 H0 T'.heap (locs ++ L) := by
  obtain ⟨hz, hk⟩ := hF
  rw [h0] at hz hk
  exact ⟨by rw [e1]; exact hz, fun q h1 h2 => by rw [e1]; exact hk q h1 h2,
    ⟨Nat.le_trans hS.1 (by rw [e1]; exact hz), fun q h1 h2 => by rw [e1, hk q (Nat.lt_of_lt_of_le h1 hS.1) (fun z => h2 (hA q (Nat.lt_of_lt_of_le h1 hS.1) z))]; exact hS.2.1 q h1 h2, fun q hq => by
      rcases List.mem_append.mp hq with h | h
      · exact hS.2.2 q h
      · exact hf _ (hL q h)⟩⟩
theorem vx_calli {S SX : Type} {post : Int32 → S → Prop} {px : SX → Prop} {B : S → State → Prop} {BX : String → SX → State → Prop} {AX : Nat → Prop} (hr : vx_Run p l e R s m args below meth c H locs cells slots mc ms (F0 m pc ls st0) rest (va_Qi post B A1 a) (vx_X px BX AX) free) (hS : va_S A0 H0 H locs) (hA : ∀ q, q < H.size → A1 q → A0 q) (hf : ∀ q, free q → A0 q) (hAX : ∀ q, q < H.size → AX q → A0 q)
    (kx : ∀ (E : String) (ce : Cell) (q9 : Addr) (u : SX) (t : State) (H1 : Heap) (locs1 : List Loc), t.heap = H1 → s.vm.Alike t.vm → px u → BX E u t → H.size ≤ H1.size → (∀ q : Nat, q < H.size → ¬ AX q → H1[q]? = H[q]?) → va_S A0 H0 H1 locs1 → H1[q9]? = some ce → ce.vm = .none → s.vm.findClass E = some ce.cls → vx_W p l e R s m args below meth c H1 locs1 (cells + mc) (slots + ms) Q (F0 m pc ls rest) q9)
    (kk : ∀ (r : Int32) (u : S) (t : State) (H1 : Heap) (locs1 : List Loc), t.heap = H1 → s.vm.Alike t.vm → post r u → B u t → H.size ≤ H1.size → (∀ q : Nat, q < H.size → ¬ A1 q → H1[q]? = H[q]?) → va_S A0 H0 H1 locs1 → W p l e R s m args below meth c H1 locs1 (cells + mc) (slots + ms) Q (F0 m (pc + 3) ls (.int r :: rest))) : W p l e R s m args below meth c H locs cells slots Q (F0 m pc ls st0) := by
  intro T hT X
  rcases hr T hT X with ⟨v, st₀, t, T', L, h0, X', hL, e1, e2, ⟨⟨r, u, hv, hp, hb⟩, hF⟩, st⟩ | ⟨q, st₀, t, T', L, E, ce, h0, X', hL, e1, e2, ⟨u, hp, hb, hF⟩, hce, hcv, hcl, st⟩
  · cases hv
    obtain ⟨k1, k2, k3⟩ := vx_keep h0 e1 hS hA hf hL hF
    obtain ⟨t2, a1, b1⟩ := kk r u t T'.heap (locs ++ L) e1.symm (by rw [← e2]; exact X'.warmed.alike) hp hb k1 k2 k3 T' rfl X'
    exact ⟨t2, st t2 a1, b1⟩
  · obtain ⟨k1, k2, k3⟩ := vx_keep h0 e1 hS hAX hf hL hF
    obtain ⟨t2, a1, b1⟩ := kx E ce q u t T'.heap (locs ++ L) e1.symm (by rw [← e2]; exact X'.warmed.alike) hp hb k1 k2 k3 (by rw [e1]; exact hce) hcv hcl T' rfl X'
    exact ⟨t2, st.trans a1, b1⟩
theorem vx_calll {S SX : Type} {post : Int64 → S → Prop} {px : SX → Prop} {B : S → State → Prop} {BX : String → SX → State → Prop} {AX : Nat → Prop} (hr : vx_Run p l e R s m args below meth c H locs cells slots mc ms (F0 m pc ls st0) rest (va_Ql post B A1 a) (vx_X px BX AX) free) (hS : va_S A0 H0 H locs) (hA : ∀ q, q < H.size → A1 q → A0 q) (hf : ∀ q, free q → A0 q) (hAX : ∀ q, q < H.size → AX q → A0 q)
    (kx : ∀ (E : String) (ce : Cell) (q9 : Addr) (u : SX) (t : State) (H1 : Heap) (locs1 : List Loc), t.heap = H1 → s.vm.Alike t.vm → px u → BX E u t → H.size ≤ H1.size → (∀ q : Nat, q < H.size → ¬ AX q → H1[q]? = H[q]?) → va_S A0 H0 H1 locs1 → H1[q9]? = some ce → ce.vm = .none → s.vm.findClass E = some ce.cls → vx_W p l e R s m args below meth c H1 locs1 (cells + mc) (slots + ms) Q (F0 m pc ls rest) q9)
    (kk : ∀ (r : Int64) (u : S) (t : State) (H1 : Heap) (locs1 : List Loc), t.heap = H1 → s.vm.Alike t.vm → post r u → B u t → H.size ≤ H1.size → (∀ q : Nat, q < H.size → ¬ A1 q → H1[q]? = H[q]?) → va_S A0 H0 H1 locs1 → W p l e R s m args below meth c H1 locs1 (cells + mc) (slots + ms) Q (F0 m (pc + 3) ls (.long r :: rest))) : W p l e R s m args below meth c H locs cells slots Q (F0 m pc ls st0) := by
  intro T hT X
  rcases hr T hT X with ⟨v, st₀, t, T', L, h0, X', hL, e1, e2, ⟨⟨r, u, hv, hp, hb⟩, hF⟩, st⟩ | ⟨q, st₀, t, T', L, E, ce, h0, X', hL, e1, e2, ⟨u, hp, hb, hF⟩, hce, hcv, hcl, st⟩
  · cases hv
    obtain ⟨k1, k2, k3⟩ := vx_keep h0 e1 hS hA hf hL hF
    obtain ⟨t2, a1, b1⟩ := kk r u t T'.heap (locs ++ L) e1.symm (by rw [← e2]; exact X'.warmed.alike) hp hb k1 k2 k3 T' rfl X'
    exact ⟨t2, st t2 a1, b1⟩
  · obtain ⟨k1, k2, k3⟩ := vx_keep h0 e1 hS hAX hf hL hF
    obtain ⟨t2, a1, b1⟩ := kx E ce q u t T'.heap (locs ++ L) e1.symm (by rw [← e2]; exact X'.warmed.alike) hp hb k1 k2 k3 (by rw [e1]; exact hce) hcv hcl T' rfl X'
    exact ⟨t2, st.trans a1, b1⟩
theorem vx_callf {S SX : Type} {post : UInt32 → S → Prop} {px : SX → Prop} {B : S → State → Prop} {BX : String → SX → State → Prop} {AX : Nat → Prop} (hr : vx_Run p l e R s m args below meth c H locs cells slots mc ms (F0 m pc ls st0) rest (va_Qf post B A1 a) (vx_X px BX AX) free) (hS : va_S A0 H0 H locs) (hA : ∀ q, q < H.size → A1 q → A0 q) (hf : ∀ q, free q → A0 q) (hAX : ∀ q, q < H.size → AX q → A0 q)
    (kx : ∀ (E : String) (ce : Cell) (q9 : Addr) (u : SX) (t : State) (H1 : Heap) (locs1 : List Loc), t.heap = H1 → s.vm.Alike t.vm → px u → BX E u t → H.size ≤ H1.size → (∀ q : Nat, q < H.size → ¬ AX q → H1[q]? = H[q]?) → va_S A0 H0 H1 locs1 → H1[q9]? = some ce → ce.vm = .none → s.vm.findClass E = some ce.cls → vx_W p l e R s m args below meth c H1 locs1 (cells + mc) (slots + ms) Q (F0 m pc ls rest) q9)
    (kk : ∀ (r : UInt32) (u : S) (t : State) (H1 : Heap) (locs1 : List Loc), t.heap = H1 → s.vm.Alike t.vm → post r u → B u t → H.size ≤ H1.size → (∀ q : Nat, q < H.size → ¬ A1 q → H1[q]? = H[q]?) → va_S A0 H0 H1 locs1 → W p l e R s m args below meth c H1 locs1 (cells + mc) (slots + ms) Q (F0 m (pc + 3) ls (.float r :: rest))) : W p l e R s m args below meth c H locs cells slots Q (F0 m pc ls st0) := by
  intro T hT X
  rcases hr T hT X with ⟨v, st₀, t, T', L, h0, X', hL, e1, e2, ⟨⟨r, u, hv, hp, hb⟩, hF⟩, st⟩ | ⟨q, st₀, t, T', L, E, ce, h0, X', hL, e1, e2, ⟨u, hp, hb, hF⟩, hce, hcv, hcl, st⟩
  · cases hv
    obtain ⟨k1, k2, k3⟩ := vx_keep h0 e1 hS hA hf hL hF
    obtain ⟨t2, a1, b1⟩ := kk r u t T'.heap (locs ++ L) e1.symm (by rw [← e2]; exact X'.warmed.alike) hp hb k1 k2 k3 T' rfl X'
    exact ⟨t2, st t2 a1, b1⟩
  · obtain ⟨k1, k2, k3⟩ := vx_keep h0 e1 hS hAX hf hL hF
    obtain ⟨t2, a1, b1⟩ := kx E ce q u t T'.heap (locs ++ L) e1.symm (by rw [← e2]; exact X'.warmed.alike) hp hb k1 k2 k3 (by rw [e1]; exact hce) hcv hcl T' rfl X'
    exact ⟨t2, st.trans a1, b1⟩
theorem vx_calld {S SX : Type} {post : UInt64 → S → Prop} {px : SX → Prop} {B : S → State → Prop} {BX : String → SX → State → Prop} {AX : Nat → Prop} (hr : vx_Run p l e R s m args below meth c H locs cells slots mc ms (F0 m pc ls st0) rest (va_Qd post B A1 a) (vx_X px BX AX) free) (hS : va_S A0 H0 H locs) (hA : ∀ q, q < H.size → A1 q → A0 q) (hf : ∀ q, free q → A0 q) (hAX : ∀ q, q < H.size → AX q → A0 q)
    (kx : ∀ (E : String) (ce : Cell) (q9 : Addr) (u : SX) (t : State) (H1 : Heap) (locs1 : List Loc), t.heap = H1 → s.vm.Alike t.vm → px u → BX E u t → H.size ≤ H1.size → (∀ q : Nat, q < H.size → ¬ AX q → H1[q]? = H[q]?) → va_S A0 H0 H1 locs1 → H1[q9]? = some ce → ce.vm = .none → s.vm.findClass E = some ce.cls → vx_W p l e R s m args below meth c H1 locs1 (cells + mc) (slots + ms) Q (F0 m pc ls rest) q9)
    (kk : ∀ (r : UInt64) (u : S) (t : State) (H1 : Heap) (locs1 : List Loc), t.heap = H1 → s.vm.Alike t.vm → post r u → B u t → H.size ≤ H1.size → (∀ q : Nat, q < H.size → ¬ A1 q → H1[q]? = H[q]?) → va_S A0 H0 H1 locs1 → W p l e R s m args below meth c H1 locs1 (cells + mc) (slots + ms) Q (F0 m (pc + 3) ls (.double r :: rest))) : W p l e R s m args below meth c H locs cells slots Q (F0 m pc ls st0) := by
  intro T hT X
  rcases hr T hT X with ⟨v, st₀, t, T', L, h0, X', hL, e1, e2, ⟨⟨r, u, hv, hp, hb⟩, hF⟩, st⟩ | ⟨q, st₀, t, T', L, E, ce, h0, X', hL, e1, e2, ⟨u, hp, hb, hF⟩, hce, hcv, hcl, st⟩
  · cases hv
    obtain ⟨k1, k2, k3⟩ := vx_keep h0 e1 hS hA hf hL hF
    obtain ⟨t2, a1, b1⟩ := kk r u t T'.heap (locs ++ L) e1.symm (by rw [← e2]; exact X'.warmed.alike) hp hb k1 k2 k3 T' rfl X'
    exact ⟨t2, st t2 a1, b1⟩
  · obtain ⟨k1, k2, k3⟩ := vx_keep h0 e1 hS hAX hf hL hF
    obtain ⟨t2, a1, b1⟩ := kx E ce q u t T'.heap (locs ++ L) e1.symm (by rw [← e2]; exact X'.warmed.alike) hp hb k1 k2 k3 (by rw [e1]; exact hce) hcv hcl T' rfl X'
    exact ⟨t2, st.trans a1, b1⟩
theorem vx_callv {S SX : Type} {post : S → Prop} {px : SX → Prop} {B : S → State → Prop} {BX : String → SX → State → Prop} {AX : Nat → Prop} (hr : vx_Run p l e R s m args below meth c H locs cells slots mc ms (F0 m pc ls st0) rest (va_Qv post B A1 a) (vx_X px BX AX) free) (hS : va_S A0 H0 H locs) (hA : ∀ q, q < H.size → A1 q → A0 q) (hf : ∀ q, free q → A0 q) (hAX : ∀ q, q < H.size → AX q → A0 q)
    (kx : ∀ (E : String) (ce : Cell) (q9 : Addr) (u : SX) (t : State) (H1 : Heap) (locs1 : List Loc), t.heap = H1 → s.vm.Alike t.vm → px u → BX E u t → H.size ≤ H1.size → (∀ q : Nat, q < H.size → ¬ AX q → H1[q]? = H[q]?) → va_S A0 H0 H1 locs1 → H1[q9]? = some ce → ce.vm = .none → s.vm.findClass E = some ce.cls → vx_W p l e R s m args below meth c H1 locs1 (cells + mc) (slots + ms) Q (F0 m pc ls rest) q9)
    (kk : ∀ (u : S) (t : State) (H1 : Heap) (locs1 : List Loc), t.heap = H1 → s.vm.Alike t.vm → post u → B u t → H.size ≤ H1.size → (∀ q : Nat, q < H.size → ¬ A1 q → H1[q]? = H[q]?) → va_S A0 H0 H1 locs1 → W p l e R s m args below meth c H1 locs1 (cells + mc) (slots + ms) Q (F0 m (pc + 3) ls (rest))) : W p l e R s m args below meth c H locs cells slots Q (F0 m pc ls st0) := by
  intro T hT X
  rcases hr T hT X with ⟨v, st₀, t, T', L, h0, X', hL, e1, e2, ⟨⟨u, hv, hp, hb⟩, hF⟩, st⟩ | ⟨q, st₀, t, T', L, E, ce, h0, X', hL, e1, e2, ⟨u, hp, hb, hF⟩, hce, hcv, hcl, st⟩
  · cases hv
    obtain ⟨k1, k2, k3⟩ := vx_keep h0 e1 hS hA hf hL hF
    obtain ⟨t2, a1, b1⟩ := kk u t T'.heap (locs ++ L) e1.symm (by rw [← e2]; exact X'.warmed.alike) hp hb k1 k2 k3 T' rfl X'
    exact ⟨t2, st t2 a1, b1⟩
  · obtain ⟨k1, k2, k3⟩ := vx_keep h0 e1 hS hAX hf hL hF
    obtain ⟨t2, a1, b1⟩ := kx E ce q u t T'.heap (locs ++ L) e1.symm (by rw [← e2]; exact X'.warmed.alike) hp hb k1 k2 k3 (by rw [e1]; exact hce) hcv hcl T' rfl X'
    exact ⟨t2, st.trans a1, b1⟩
/-- caught by the row x of this method's table; the rows ahead don't take it -/
theorem vx_catch {own name : String} {E : String} {ce : Cell} {q : Addr} (hown : s.vm.findClass own = some m.cls) (pre : List ExceptionTableEntry) (x : ExceptionTableEntry) (suf : List ExceptionTableEntry) (hsplit : c.exceptionTable.toList = pre ++ x :: suf)
    (hpass : ∀ z ∈ pre, covers z pc = false ∨ (z.catchType ≠ 0 ∧ ∃ nm : String, (Cond.classLink own z.catchType nm).before args s = true ∧ va_Nc E nm s)) (hx : covers x pc = true) (h0 : x.catchType ≠ 0)
    (hlink : (Cond.classLink own x.catchType name).before args s = true) (hcast : (Cond.castable E name).before args s = true) (hcell : H[q]? = some ce) (hv : ce.vm = .none) (hcl : s.vm.findClass E = some ce.cls)
    (kk : W p l e R s m args below meth c H locs cells slots Q (F0 m x.handlerPc ls [.ref q])) : vx_W p l e R s m args below meth c H locs cells slots Q (F0 m pc ls rest) q := by
  intro T hT X
  have hpl : e.platform.magicAccessors = ({} : Platform).magicAccessors := by rw [X.admits.platform]
  obtain ⟨c3, c4, hc3, hc4, hasg⟩ := Cond.castable_spec hcast
  cases Option.some.inj (hc3.symm.trans hcl)
  obtain ⟨c5, hc5, hcl5⟩ := Cond.classLink_spec hown hlink e.platform hpl
  cases Option.some.inj (hc4.symm.trans hc5)
  obtain ⟨vm', X', st⟩ := X.thenCaughtThrough q (g := F0 m pc ls rest) rfl (Steps.refl _) (by rw [hT]; exact hcell) (by rw [hv]; rfl) (by obtain ⟨k9, h9, -⟩ := Vm.findClass_spec hcl; exact ⟨k9, h9⟩) pre x suf hsplit
    (fun z hz => by
      rcases hpass z hz with h | ⟨hz0, nm, hl1, hn1⟩
      · exact Or.inl h
      · obtain ⟨c6, hc6, hcl6⟩ := Cond.classLink_spec hown hl1 e.platform hpl
        obtain ⟨a8, b8, h1, h2, h3⟩ := hn1
        cases Option.some.inj (h1.symm.trans hcl)
        cases Option.some.inj (h2.symm.trans hc6)
        exact Or.inr ⟨hz0, _, hcl6, h3⟩) hx (Or.inr ⟨h0, c4, hcl5, hasg⟩)
  obtain ⟨t, a1, b1⟩ := kk (T.setVm vm') hT X'
  exact ⟨t, st.trans a1, b1⟩
end Rows
section Ends
variable {p : Program} {l : Launch} {e : Env} {R : Room} {s : State} {m : MethodId} {args : Array Value} {below : List Frame} {meth : Method} {c : Code} {H : Heap} {locs : List Loc} {cells slots : Nat} {Q : State → Prop}
variable {mc ms : Nat} {free : Addr → Prop} {A0 A1 : Nat → Prop} {H0 : Heap} {a : Array Value} {ls : Array Slot} {st0 rest : List Value}
variable {Qc : Array Value → State → Outcome → State → Prop} {XC : String → State → State → Prop}
/-- what a body that may throw owes at its end -/
def vx_MQ (below : List Frame) (Qc : Array Value → State → Outcome → State → Prop) (XC : String → State → State → Prop) (a : Array Value) (s : State) (mc ms : Nat) (free : Addr → Prop) : State → Prop := fun t =>
  ∃ o, t.status = .running ∧ Ended t below o ∧ vx_Q Qc XC mc ms free a s o t
theorem vx_ret {g : JFrame} {mc ms : Nat} (k : W p l e R s m args below meth c H locs cells slots (MQ below Qc args s mc ms free) g) : W p l e R s m args below meth c H locs cells slots (vx_MQ below Qc XC args s mc ms free) g := by
  intro T hT X
  obtain ⟨t, a1, o, b1, b2, b3, b4⟩ := k T hT X
  exact ⟨t, a1, o, b1, b2, Or.inl ⟨b3, b4⟩⟩
/-- not caught here: it goes on to the caller -/
theorem vx_widen {g : JFrame} {q : Addr} {k n : Nat} (h1 : cells ≤ k) (h2 : slots ≤ n) (kk : vx_W p l e R s m args below meth c H locs k n Q g q) : vx_W p l e R s m args below meth c H locs cells slots Q g q := fun T hT X => kk T hT (stand_widen X h1 h2)
theorem vx_out {pc : Nat} {E : String} {ce : Cell} {q : Addr} {mc ms : Nat} (hout : ∀ x ∈ c.exceptionTable.toList, covers x pc = false) (hlocks : meth.locks = false) (hcell : H[q]? = some ce) (hv : ce.vm = .none) (hcl : s.vm.findClass E = some ce.cls)
    (hx : ∀ t : State, t.heap = H → s.vm.Alike t.vm → XC E s t) (hf : ∀ z ∈ locs, free z.base) (hc : cells ≤ mc) (hs : slots ≤ ms) :
    vx_W p l e R s m args below meth c H locs cells slots (vx_MQ below Qc XC args s mc ms free) (F0 m pc ls rest) q := by
  intro T hT X
  obtain ⟨st1, hrun, hend, hW, hsm⟩ := X.leaveThrown q (g := F0 m pc ls rest) rfl rfl rfl hout hlocks
  have hcell9 : (T.setFrames (.throwing q :: below)).heap[q]? = some ce := by
    show T.heap[q]? = some ce
    rw [hT]; exact hcell
  exact ⟨_, st1, .threw q, hrun, hend, Or.inr ⟨q, rfl, E, ce, locs, hx _ hT hW.alike, hcell9, hv, hcl, hW, hsm.mono hc hs, hf⟩⟩
theorem vx_frame {U : State} {k n : Nat} (h : s.sameButNew ({ U with vm := s.vm } : State) locs k n) : s.heap.size ≤ U.heap.size ∧ ∀ q : Nat, q < s.heap.size → (∀ z ∈ locs, z.base ≠ q) → U.heap[q]? = s.heap[q]? := by
  obtain ⟨-, h2, -, -, -, h6⟩ := h
  refine ⟨h2, fun q hq hz => ?_⟩
  obtain ⟨c9, e1, e2, e3, e4⟩ := h6 q _ (Array.getElem?_eq_getElem hq)
  have hs : c9.slots = (s.heap[q]).slots := Array.ext_getElem? fun i => e4 i fun hm => hz _ hm rfl
  have h9 : c9 = s.heap[q] := by
    rw [hs] at e2
    exact e2
  have e5 : U.heap[q]? = some c9 := e1
  rw [e5, h9, Array.getElem?_eq_getElem hq]
/-- the words of a throw but the four that speak of the heap -/
def vx_no (w : Cond) : Bool := decide (w ≠ .isRef (.static Bundle.tN "UNASSIGNED_STACK" Bundle.steD)) && decide (w ≠ .isRef (.static Bundle.tN "SUPPRESSED_SENTINEL" Bundle.listD)) && decide (w ≠ .laysStatic Bundle.tN "UNASSIGNED_STACK" Bundle.steD) && decide (w ≠ .laysStatic Bundle.tN "SUPPRESSED_SENTINEL" Bundle.listD)
def vx_at0 (own : String) (ic : Nat) (X : String) (names : List String) : List Cond := (Bundle.ownAtoms0 own ic X names).filter vx_no
def vx_atS (own : String) (ic : Nat) (X : String) (names : List String) : List Cond := (Bundle.ownAtoms own ic X names).filter vx_no
/-- a word that the tables alone decide, or a good one -/
def vx_ot (w : Cond) : Bool := w.onTables || goodWord w
theorem vx_ot_at {args a' : Array Value} {s U : State} {w : Cond} (hW : s.WarmedH U.vm) (hvm : s.vm = U.vm) (hg : vx_ot w = true) (h : w.before args s = true) : w.before a' U = true := by
  simp only [vx_ot, Bool.or_eq_true] at hg
  rcases hg with hg | hg
  · exact va_tabs hg hvm h
  · exact word_at hW (good_of_word hg) h
/-- a list's words: the good ones out of the method's own list, the others by premises of their own -/
theorem vx_hat {args : Array Value} {s : State} {L B : List Cond} (h1 : ∀ w ∈ L.filter goodWord, w.before args s = true) (h2 : ∀ w ∈ L.filter (fun w => !goodWord w), w ∈ B) (h3 : ∀ w ∈ B, w.before args s = true) : ∀ w ∈ L, w.before args s = true := by
  intro w hw
  by_cases g : goodWord w = true
  · exact h1 w (List.mem_filter.mpr ⟨hw, g⟩)
  · refine h3 w (h2 w (List.mem_filter.mpr ⟨hw, ?_⟩))
    show (!goodWord w) = true
    cases hgw : goodWord w
    · rfl
    · exact absurd hgw g
theorem vx_c {args : Array Value} {s : State} {w : Cond} {B : List Cond} (h : w.before args s = true) (t : ∀ w ∈ B, w.before args s = true) : ∀ w' ∈ w :: B, w'.before args s = true := fun w' h' => (List.mem_cons.mp h').elim (fun e => by rw [e]; exact h) (t w')
theorem vx_n {args : Array Value} {s : State} : ∀ w ∈ ([] : List Cond), w.before args s = true := fun _ h => nomatch h
theorem vx_own {args : Array Value} {s : State} {L : List Cond} (h1 : ∀ w ∈ L.filter vx_no, w.before args s = true)
    (hU : (Cond.isRef (.static Bundle.tN "UNASSIGNED_STACK" Bundle.steD)).before args s = true) (hN : (Cond.isRef (.static Bundle.tN "SUPPRESSED_SENTINEL" Bundle.listD)).before args s = true)
    (lU : (Cond.laysStatic Bundle.tN "UNASSIGNED_STACK" Bundle.steD).before args s = true) (lN : (Cond.laysStatic Bundle.tN "SUPPRESSED_SENTINEL" Bundle.listD).before args s = true) : ∀ w ∈ L, w.before args s = true := by
  intro w hw
  by_cases e1 : w = .isRef (.static Bundle.tN "UNASSIGNED_STACK" Bundle.steD)
  · rw [e1]; exact hU
  · by_cases e2 : w = .isRef (.static Bundle.tN "SUPPRESSED_SENTINEL" Bundle.listD)
    · rw [e2]; exact hN
    · by_cases e3 : w = .laysStatic Bundle.tN "UNASSIGNED_STACK" Bundle.steD
      · rw [e3]; exact lU
      · by_cases e4 : w = .laysStatic Bundle.tN "SUPPRESSED_SENTINEL" Bundle.listD
        · rw [e4]; exact lN
        · exact h1 w (List.mem_filter.mpr ⟨hw, by unfold vx_no; rw [decide_eq_true e1, decide_eq_true e2, decide_eq_true e3, decide_eq_true e4]; rfl⟩)
/-- where a static field lies, its class's statics cell in H -/
def vx_L (C n d : String) (A : Nat → Prop) (U : State) (H : Heap) : Prop := ∃ (c : ClassId) (k : Class) (i : Nat) (f : Field) (a : Nat) (cell : Cell), U.vm.findClass C = some c ∧ U.fieldFound? C n d = some (c, k, i, f) ∧ f.isStatic = true ∧ k.statics = some a ∧ H[a]? = some cell ∧ cell.vm.isStatics = true ∧ cell.cls = c ∧ f.slot < cell.slots.size ∧ k.staticTypes[f.slot]? = some f.type ∧ ¬ A a
theorem vx_L.moved {C n d : String} {A : Nat → Prop} {u U : State} {H : Heap} (hvm : u.vm.Alike U.vm) (h : vx_L C n d A u H) : vx_L C n d A U H := by
  obtain ⟨c, k, i, f, a, cell, h1, h2, h3, h4, h5, h6, h7, h8, h9, h10⟩ := h
  obtain ⟨k', hi', he⟩ := State.fieldFound?_setVm hvm h2
  exact ⟨c, k', i, f, a, cell, by rw [hvm.findClass]; exact h1, hi', h3, by rw [he]; exact h4, h5, h6, h7, h8, by rw [he]; exact h9, h10⟩
theorem vx_L.kept {C n d : String} {A : Nat → Prop} {U : State} {H H1 : Heap} (h : vx_L C n d A U H) (hq : ∀ a : Nat, a < H.size → ¬ A a → H1[a]? = H[a]?) : vx_L C n d A U H1 := by
  obtain ⟨c, k, i, f, a, cell, h1, h2, h3, h4, h5, h6, h7, h8, h9, h10⟩ := h
  exact ⟨c, k, i, f, a, cell, h1, h2, h3, h4, by rw [hq a (Array.getElem?_eq_some_iff.mp h5).1 h10]; exact h5, h6, h7, h8, h9, h10⟩
theorem vx_L.narrow {C n d : String} {A B : Nat → Prop} {U : State} {H : Heap} (h : vx_L C n d A U H) (hAB : ∀ q, B q → A q) : vx_L C n d B U H := by
  obtain ⟨c, k, i, f, a, cell, h1, h2, h3, h4, h5, h6, h7, h8, h9, h10⟩ := h
  exact ⟨c, k, i, f, a, cell, h1, h2, h3, h4, h5, h6, h7, h8, h9, fun z => h10 (hAB _ z)⟩
theorem vx_L.word {C n d : String} {A : Nat → Prop} {s : State} {args : Array Value} (h : vx_L C n d A s s.heap) : (Cond.laysStatic C n d).before args s = true := by
  obtain ⟨c, k, i, f, a, cell, h1, h2, h3, h4, h5, h6, h7, h8, h9, -⟩ := h
  show (Cond.laysStatic C n d).holds args s none s [] = true
  exact Cond.laysStatic_of h1 h2 h3 h4 h5 h6 h7 h8 h9
/-- .. and what it holds: null or some reference -/
def vx_Zq (C n d : String) (A : Nat → Prop) (U : State) (H : Heap) : Prop := va_Zq C n d A U H ∧ vx_L C n d A U H
theorem vx_Zq.moved {C n d : String} {A : Nat → Prop} {u U : State} {H : Heap} (hvm : u.vm.Alike U.vm) (h : vx_Zq C n d A u H) : vx_Zq C n d A U H := ⟨va_Zq.moved hvm h.1, vx_L.moved hvm h.2⟩
theorem vx_Zq.kept {C n d : String} {A : Nat → Prop} {U : State} {H H1 : Heap} (h : vx_Zq C n d A U H) (hq : ∀ a : Nat, a < H.size → ¬ A a → H1[a]? = H[a]?) : vx_Zq C n d A U H1 := ⟨va_Zq.kept h.1 hq, vx_L.kept h.2 hq⟩
theorem vx_Zq.narrow {C n d : String} {A B : Nat → Prop} {U : State} {H : Heap} (h : vx_Zq C n d A U H) (hAB : ∀ q, B q → A q) : vx_Zq C n d B U H := ⟨va_Zq.narrow h.1 hAB, vx_L.narrow h.2 hAB⟩
theorem vx_Zqof {args : Array Value} {s : State} {C n d : String} {A : Nat → Prop} (hl : (Cond.laysStatic C n d).before args s = true) (hini : (Cond.initialized C).before args s = true) (h : (Cond.isRef (.static C n d)).before args s = true) (hA : ∀ a : Nat, a < s.heap.size → ¬ A a) : vx_Zq C n d A s s.heap := by
  refine ⟨va_Zqof hl hini h hA, ?_⟩
  obtain ⟨c, k, i, f, a, cell, h1, h2, h3, h4, h5, h6, h7, h8, h9⟩ := Cond.laysStatic_spec hl
  exact ⟨c, k, i, f, a, cell, h1, h2, h3, h4, h5, h6, h7, h8, h9, hA a (Array.getElem?_eq_some_iff.mp h5).1⟩
theorem vx_isRef {C n d : String} {v : Value} {A : Nat → Prop} {s : State} {args : Array Value} (h : va_Z C n d v A s s.heap) (hv : v.isRef = true) : (Cond.isRef (.static C n d)).before args s = true := by
  obtain ⟨cf, kf, fi, f, a, cell, h1, h2, h3, h4, h5, h6, h7, -⟩ := h
  have he : (Term.static C n d).eval args s none [] s = some v := by
    simp [Term.eval, State.fieldNamed?, h1, h2, h4, h5, h6, h7]
  simp only [Cond.before, Cond.holds, Cond.value, he]
  cases v <;> simp_all [Value.isRef]
theorem vx_isRefq {C n d : String} {A : Nat → Prop} {s : State} {args : Array Value} (h : va_Zq C n d A s s.heap) : (Cond.isRef (.static C n d)).before args s = true := by
  rcases h with h | ⟨t, h⟩
  · exact vx_isRef h rfl
  · exact vx_isRef h rfl
/-- the same frame, seen from here: as if the method were called anew in this heap -/
theorem vx_rebase {T : State} (X : Stand p l e R s m args below meth c T locs cells slots) {R' : Room} (hf : R'.frames ≤ R.frames) (hl : R'.locals ≤ R.locals) (hc : cells + R'.cells ≤ R.cells) (hs : slots + R'.slots ≤ R.slots) :
    Stand p l e R' ((T.setVm s.vm).setFrames (.invoking m args :: below)) m args below meth c T [] 0 0 := by
  have htop : (T.setVm s.vm).topJava?.isSome := X.here.top
  have hF : ((T.setVm s.vm).setFrames (.invoking m args :: below)).frames = .invoking m args :: below := State.frames_setFrames _ (State.cur_lt_of_top htop)
  obtain ⟨g₀, hg0⟩ := Option.isSome_iff_exists.mp htop
  obtain ⟨r, hr⟩ := State.topJava?_eq_some.mp hg0
  have hl9 : e.platform.stackLimits (T.setVm s.vm).me = e.platform.stackLimits s.me := X.limits
  have hb9 : (T.setVm s.vm).me.stackBytes = s.me.stackBytes := X.bytes
  refine ⟨X.admits, X.cas, X.clock, hF, ?_, X.hears, X.method, X.code, X.here, X.tail, X.warmed, ?_, ?_, ?_⟩
  · have h := X.room
    have hU : ((T.setVm s.vm).setFrames (.invoking m args :: below)).localsInUse = s.localsInUse := by
      rw [State.localsInUse_invoking hF (meth := meth) (c := c) X.method X.code, State.localsInUse_invoking X.frames X.method X.code]
    simp only [State.hasRoom, Bool.and_eq_true, decide_eq_true_eq] at h ⊢
    obtain ⟨⟨⟨⟨h1, h2, h3, h4, h5, h6⟩, h7⟩, h8⟩, h9⟩ := h
    rw [X.frames, List.length_cons] at h2 h3
    have q1 := X.heapSize
    have q2 := X.used
    simp only [hF, hU, List.length_cons, State.stackLimits_setFrames, State.stackBytes_setFrames, hl9, hb9]
    refine ⟨⟨⟨⟨by omega, by omega, by omega, by omega, by omega, h6⟩, ?_⟩, ?_⟩, X.book⟩
    · show T.heap.size + R'.cells ≤ e.platform.maxCells
      omega
    · show T.slotsUsed + R'.slots ≤ e.platform.maxSlots
      omega
  · rw [State.stackLimits_setFrames]; rfl
  · rw [State.stackBytes_setFrames]; rfl
  · refine ⟨?_, Nat.le_refl _, Nat.le_refl _, ?_, ?_, fun a c9 h9 => ⟨c9, h9, rfl, rfl, fun _ _ => rfl⟩⟩
    · obtain ⟨t, ht, -⟩ := State.frames_cons hr
      show T.setVm s.vm = { ((T.setVm s.vm).setFrames (.invoking m args :: below)).setFrames (T.setVm s.vm).frames with heap := T.heap, slotsUsed := T.slotsUsed }
      rw [State.setFrames_setFrames, State.setFrames_self ht]
      rfl
    · show T.slotsUsed = T.slotsUsed + ((T.heap.toList.drop T.heap.size).map (·.slots.size)).sum
      rw [List.drop_eq_nil_of_le (Nat.le_of_eq Array.length_toList)]
      rfl
    · show ((T.heap.toList.drop T.heap.size).map (·.slots.size)).sum ≤ 0
      rw [List.drop_eq_nil_of_le (Nat.le_of_eq Array.length_toList)]
      exact Nat.le_refl _
/-- 'throw new E()': new; dup; invokespecial; athrow -/
theorem vx_throw0 {cc : ByteArray} {pc : Nat} (hexec : p.tables.exec = Jvm.exec) (hb : c.code = cc) (hl : l.stackTraces = false) {own cls : String} {names : List String} {ik ic mc ms : Nat} {A : Nat → Prop}
    (hown : s.vm.findClass own = some m.cls) (hcls : Bundle.fit cls = true) (hnames : ∀ n ∈ names, Bundle.fit n = true)
    (hk : (Cond.classLink own ik cls).before args s = true) (hini : (Cond.initialized cls).before args s = true) (hat : ∀ w ∈ vx_at0 own ic cls names, w.before args s = true)
    (hgood : ∀ w ∈ Cond.classLink own ik cls :: Cond.initialized cls :: vx_at0 own ic cls names, vx_ot w = true)
    (hU : vx_Zq Bundle.tN "UNASSIGNED_STACK" Bundle.steD A s s.heap) (hN : vx_Zq Bundle.tN "SUPPRESSED_SENTINEL" Bundle.listD A s s.heap) (hS : va_S A s.heap H locs) (hsize : ls.size = c.maxLocals)
    (d0 : decode cc pc = .ok (.new ik, 3)) (d3 : decode cc (pc + 3) = .ok (.dup, 1)) (d4 : decode cc (pc + 4) = .ok (.invokespecial ic, 3)) (d7 : decode cc (pc + 7) = .ok (.athrow, 1))
    (hout : ∀ x ∈ c.exceptionTable.toList, covers x (pc + 7) = false)
    (hRframes : names.length + 3 < R.frames) (hRlocals : (rest.map fun v => v.category).sum + (13 * (names.length + 1) + 42) ≤ R.locals) (hRcells : cells + 1 ≤ R.cells) (hRslots : slots + 6 ≤ R.slots) (hlocks : meth.locks = false)
    (hx : ∀ t : State, s.vm.Alike t.vm → H.size ≤ t.heap.size → (∀ q : Nat, q < H.size → t.heap[q]? = H[q]?) → XC cls s t)
    (hf : ∀ z ∈ locs, free z.base) (hc : cells + 1 ≤ mc) (hs : slots + 6 ≤ ms) :
    W p l e R s m args below meth c H locs cells slots (vx_MQ below Qc XC args s mc ms free) (F0 m pc ls rest) := by
  intro T hT X
  have htr : e.platform.stackTraces = false := (show e.platform.stackTraces = l.stackTraces by rw [X.admits.platform]).trans hl
  have Y := vx_rebase X (R' := { frames := R.frames, locals := R.locals, cells := 1, slots := 6 }) (Nat.le_refl _) (Nat.le_refl _) hRcells hRslots
  obtain ⟨s', hA⟩ : ∃ z, z = (T.setVm s.vm).setFrames (.invoking m args :: below) := ⟨_, rfl⟩
  rw [← hA] at Y
  have hvm : s'.vm = s.vm := by rw [hA]; rfl
  have hhp : s'.heap = H := by rw [hA]; exact hT
  have hW0 : s.WarmedH s'.vm := by rw [hvm]; exact State.WarmedH.refl s
  have hat' : ∀ w ∈ vx_at0 own ic cls names, w.before args s' = true := fun w hw => vx_ot_at hW0 hvm.symm (hgood w (List.mem_cons_of_mem _ (List.mem_cons_of_mem _ hw))) (hat w hw)
  have hk' : (Cond.classLink own ik cls).before args s' = true := vx_ot_at hW0 hvm.symm (hgood _ List.mem_cons_self) hk
  have hini' : (Cond.initialized cls).before args s' = true := vx_ot_at hW0 hvm.symm (hgood _ (List.mem_cons_of_mem _ List.mem_cons_self)) hini
  have hU' : vx_Zq Bundle.tN "UNASSIGNED_STACK" Bundle.steD A s' s'.heap := by rw [hhp]; exact vx_Zq.moved hW0.alike (hU.kept hS.2.1)
  have hN' : vx_Zq Bundle.tN "SUPPRESSED_SENTINEL" Bundle.listD A s' s'.heap := by rw [hhp]; exact vx_Zq.moved hW0.alike (hN.kept hS.2.1)
  have h : ∀ w ∈ Bundle.ownAtoms0 own ic cls names, w.before args s' = true := vx_own hat' (vx_isRefq hU'.1) (vx_isRefq hN'.1) hU'.2.word hN'.2.word
  have hown' : s'.vm.findClass own = some m.cls := by rw [hvm]; exact hown
  have hins : (Cond.instantiable cls 6).before args s' = true := h _ (by simp [Bundle.ownAtoms0])
  obtain ⟨vm₁, cX, kX, hfX, hkX, -, -, X₁, st1⟩ := Y.newCold hexec (own := own) (C := cls) (index := ik) (n := 6) hown' hk' hins hini'
    (g := F0 m pc ls rest) rfl (by rw [hb]; exact d0) (Nat.le_refl _) (Nat.le_refl _)
  generalize hT1 : (T.setVm vm₁).pushCell { cls := cX, slots := kX.instanceTypes.map defaultValue, vm := .none } = T1 at X₁ st1
  have hcat : (Value.ref T.heap.size).category = 1 := rfl
  have hcellA : T1.heap[T.heap.size]? = some (freshCell cX kX) := by rw [← hT1]; exact State.heap_pushCell_size _ _
  have d3' : decode c.code (pc + 3) = .ok (.dup, 1) := by rw [hb]; exact d3
  obtain ⟨U, hsteps, hrun, hend, hW, hsame, ce, hce, hO⟩ := X₁.ctorThrow0 hexec htr (own := own) (cls := cls) (names := names) (ic := ic) hown' hcls hnames h (fun x hx => nomatch hx) hfX hkX hcellA (by rw [hhp, hT]; exact Nat.le_refl _)
    (g := { method := m, pc := pc + 4, locals := ls, stack := .ref T.heap.size :: .ref T.heap.size :: rest, locked := none }) rfl hsize rfl rfl (rest := rest) rfl
    (by rw [hb]; exact d4) (by rw [hb]; exact d7) hout hRframes (by simp only [List.map_cons, List.sum_cons, hcat]; omega) hlocks
  obtain ⟨f1, f2⟩ := vx_frame hsame
  rw [hhp] at f1 f2
  have hWs : s.WarmedH U.vm := State.WarmedH.trans hW0 hW
  have hcl : s.vm.findClass cls = some ce.cls := by
    have h9 := hO.cls
    rw [hvm] at h9
    exact h9
  have hall : s.sameButNew ({ U with vm := s.vm } : State) locs mc ms := by
    subst hA
    obtain ⟨e1, e2⟩ := hsame
    rw [State.setFrames_setFrames] at e1
    have h2 : (T.setVm s.vm).sameButNew ({ U with vm := s.vm } : State) [] (0 + 1) (0 + 6) := ⟨e1, e2⟩
    have h3 := X.same.trans h2
    rw [List.append_nil] at h3
    exact h3.mono hc hs
  refine ⟨U, ?_, .threw T.heap.size, hrun, hend, Or.inr ⟨T.heap.size, rfl, cls, ce, locs, hx U hWs.alike f1 (fun q hq => f2 q hq (fun z hz => nomatch hz)), hce, hO.vm, hcl, hWs, hall, hf⟩⟩
  refine st1 _ ?_
  show Steps p.tables e below (T1.setTop { method := m, pc := pc + 3, locals := ls, stack := .ref T.heap.size :: rest, locked := none }) _
  jvm_step X₁.here [X₁.here.top, hexec, d3', Value.category]
  exact hsteps
/-- 'throw new E("text")': new; dup; ldc; invokespecial; athrow -/
theorem vx_throwS {cc : ByteArray} {pc : Nat} (hexec : p.tables.exec = Jvm.exec) (hb : c.code = cc) (hl : l.stackTraces = false) {own cls text : String} {names : List String} {ik is ic mc ms sa : Nat} {A : Nat → Prop}
    (hown : s.vm.findClass own = some m.cls) (hcls : Bundle.fit cls = true) (hnames : ∀ n ∈ names, Bundle.fit n = true)
    (hk : (Cond.classLink own ik cls).before args s = true) (hini : (Cond.initialized cls).before args s = true) (hstr : vk_R own is text sa s) (hat : ∀ w ∈ vx_atS own ic cls names, w.before args s = true)
    (hgood : ∀ w ∈ Cond.classLink own ik cls :: Cond.initialized cls :: vx_atS own ic cls names, vx_ot w = true)
    (hU : vx_Zq Bundle.tN "UNASSIGNED_STACK" Bundle.steD A s s.heap) (hN : vx_Zq Bundle.tN "SUPPRESSED_SENTINEL" Bundle.listD A s s.heap) (hS : va_S A s.heap H locs) (hsize : ls.size = c.maxLocals)
    (d0 : decode cc pc = .ok (.new ik, 3)) (d3 : decode cc (pc + 3) = .ok (.dup, 1)) (d4 : decode cc (pc + 4) = .ok (.ldc is, 2)) (d6 : decode cc (pc + 6) = .ok (.invokespecial ic, 3)) (d9 : decode cc (pc + 9) = .ok (.athrow, 1))
    (hout : ∀ x ∈ c.exceptionTable.toList, covers x (pc + 9) = false)
    (hRframes : names.length + 3 < R.frames) (hRlocals : (rest.map fun v => v.category).sum + (13 * (names.length + 1) + 43) ≤ R.locals) (hRcells : cells + 1 ≤ R.cells) (hRslots : slots + 6 ≤ R.slots) (hlocks : meth.locks = false)
    (hx : ∀ t : State, s.vm.Alike t.vm → H.size ≤ t.heap.size → (∀ q : Nat, q < H.size → t.heap[q]? = H[q]?) → XC cls s t)
    (hf : ∀ z ∈ locs, free z.base) (hc : cells + 1 ≤ mc) (hs : slots + 6 ≤ ms) :
    W p l e R s m args below meth c H locs cells slots (vx_MQ below Qc XC args s mc ms free) (F0 m pc ls rest) := by
  intro T hT X
  have htr : e.platform.stackTraces = false := (show e.platform.stackTraces = l.stackTraces by rw [X.admits.platform]).trans hl
  have Y := vx_rebase X (R' := { frames := R.frames, locals := R.locals, cells := 1, slots := 6 }) (Nat.le_refl _) (Nat.le_refl _) hRcells hRslots
  obtain ⟨s', hA⟩ : ∃ z, z = (T.setVm s.vm).setFrames (.invoking m args :: below) := ⟨_, rfl⟩
  rw [← hA] at Y
  have hvm : s'.vm = s.vm := by rw [hA]; rfl
  have hhp : s'.heap = H := by rw [hA]; exact hT
  have hW0 : s.WarmedH s'.vm := by rw [hvm]; exact State.WarmedH.refl s
  have hat' : ∀ w ∈ vx_atS own ic cls names, w.before args s' = true := fun w hw => vx_ot_at hW0 hvm.symm (hgood w (List.mem_cons_of_mem _ (List.mem_cons_of_mem _ hw))) (hat w hw)
  have hk' : (Cond.classLink own ik cls).before args s' = true := vx_ot_at hW0 hvm.symm (hgood _ List.mem_cons_self) hk
  have hini' : (Cond.initialized cls).before args s' = true := vx_ot_at hW0 hvm.symm (hgood _ (List.mem_cons_of_mem _ List.mem_cons_self)) hini
  have hU' : vx_Zq Bundle.tN "UNASSIGNED_STACK" Bundle.steD A s' s'.heap := by rw [hhp]; exact vx_Zq.moved hW0.alike (hU.kept hS.2.1)
  have hN' : vx_Zq Bundle.tN "SUPPRESSED_SENTINEL" Bundle.listD A s' s'.heap := by rw [hhp]; exact vx_Zq.moved hW0.alike (hN.kept hS.2.1)
  have h : ∀ w ∈ Bundle.ownAtoms own ic cls names, w.before args s' = true := vx_own hat' (vx_isRefq hU'.1) (vx_isRefq hN'.1) hU'.2.word hN'.2.word
  have hown' : s'.vm.findClass own = some m.cls := by rw [hvm]; exact hown
  have hins : (Cond.instantiable cls 6).before args s' = true := h _ (by simp [Bundle.ownAtoms])
  obtain ⟨vm₁, cX, kX, hfX, hkX, -, -, X₁, st1⟩ := Y.newCold hexec (own := own) (C := cls) (index := ik) (n := 6) hown' hk' hins hini'
    (g := F0 m pc ls rest) rfl (by rw [hb]; exact d0) (Nat.le_refl _) (Nat.le_refl _)
  generalize hT1 : (T.setVm vm₁).pushCell { cls := cX, slots := kX.instanceTypes.map defaultValue, vm := .none } = T1 at X₁ st1
  have hcat : (Value.ref T.heap.size).category = 1 := rfl
  have hcellA : T1.heap[T.heap.size]? = some (freshCell cX kX) := by rw [← hT1]; exact State.heap_pushCell_size _ _
  have d3' : decode c.code (pc + 3) = .ok (.dup, 1) := by rw [hb]; exact d3
  have d4' : decode c.code (pc + 4) = .ok (.ldc is, 2) := by rw [hb]; exact d4
  have hstr' : vk_R own is text sa s' := vk_R.warm hW0 hstr
  obtain ⟨U, hsteps, hrun, hend, hW, hsame, ce, hce, hO⟩ := X₁.ctorThrowS hexec htr (own := own) (cls := cls) (names := names) (ic := ic) hown' hcls hnames h (fun x hx => nomatch hx) hfX hkX hcellA (by rw [hhp, hT]; exact Nat.le_refl _) (msg := .ref sa) rfl
    (g := { method := m, pc := pc + 6, locals := ls, stack := .ref sa :: .ref T.heap.size :: .ref T.heap.size :: rest, locked := none }) rfl hsize rfl rfl (rest := rest) rfl
    (by rw [hb]; exact d6) (by rw [hb]; exact d9) hout hRframes (by simp only [List.map_cons, List.sum_cons, hcat]; omega) hlocks
  obtain ⟨f1, f2⟩ := vx_frame hsame
  rw [hhp] at f1 f2
  have hWs : s.WarmedH U.vm := State.WarmedH.trans hW0 hW
  have hcl : s.vm.findClass cls = some ce.cls := by
    have h9 := hO.cls
    rw [hvm] at h9
    exact h9
  have hall : s.sameButNew ({ U with vm := s.vm } : State) locs mc ms := by
    subst hA
    obtain ⟨e1, e2⟩ := hsame
    rw [State.setFrames_setFrames] at e1
    have h2 : (T.setVm s.vm).sameButNew ({ U with vm := s.vm } : State) [] (0 + 1) (0 + 6) := ⟨e1, e2⟩
    have h3 := X.same.trans h2
    rw [List.append_nil] at h3
    exact h3.mono hc hs
  refine ⟨U, ?_, .threw T.heap.size, hrun, hend, Or.inr ⟨T.heap.size, rfl, cls, ce, locs, hx U hWs.alike f1 (fun q hq => f2 q hq (fun z hz => nomatch hz)), hce, hO.vm, hcl, hWs, hall, hf⟩⟩
  refine st1 _ ?_
  show Steps p.tables e below (T1.setTop { method := m, pc := pc + 3, locals := ls, stack := .ref T.heap.size :: rest, locked := none }) _
  jvm_step X₁.here [X₁.here.top, hexec, d3', Value.category]
  exact X₁.ldcString hexec (own := own) (text := text) (index := is) (a := sa) hown' hstr'.1 hstr'.2
    (g := { method := m, pc := pc + 4, locals := ls, stack := .ref T.heap.size :: .ref T.heap.size :: rest, locked := none }) rfl d4' _ hsteps
/-- 'throw new E("text")', the text by a wide index -/
theorem vx_throwSW {cc : ByteArray} {pc : Nat} (hexec : p.tables.exec = Jvm.exec) (hb : c.code = cc) (hl : l.stackTraces = false) {own cls text : String} {names : List String} {ik is ic mc ms sa : Nat} {A : Nat → Prop}
    (hown : s.vm.findClass own = some m.cls) (hcls : Bundle.fit cls = true) (hnames : ∀ n ∈ names, Bundle.fit n = true)
    (hk : (Cond.classLink own ik cls).before args s = true) (hini : (Cond.initialized cls).before args s = true) (hstr : vk_R own is text sa s) (hat : ∀ w ∈ vx_atS own ic cls names, w.before args s = true)
    (hgood : ∀ w ∈ Cond.classLink own ik cls :: Cond.initialized cls :: vx_atS own ic cls names, vx_ot w = true)
    (hU : vx_Zq Bundle.tN "UNASSIGNED_STACK" Bundle.steD A s s.heap) (hN : vx_Zq Bundle.tN "SUPPRESSED_SENTINEL" Bundle.listD A s s.heap) (hS : va_S A s.heap H locs) (hsize : ls.size = c.maxLocals)
    (d0 : decode cc pc = .ok (.new ik, 3)) (d3 : decode cc (pc + 3) = .ok (.dup, 1)) (d4 : decode cc (pc + 4) = .ok (.ldc_w is, 3)) (d7 : decode cc (pc + 7) = .ok (.invokespecial ic, 3)) (d10 : decode cc (pc + 10) = .ok (.athrow, 1))
    (hout : ∀ x ∈ c.exceptionTable.toList, covers x (pc + 10) = false)
    (hRframes : names.length + 3 < R.frames) (hRlocals : (rest.map fun v => v.category).sum + (13 * (names.length + 1) + 43) ≤ R.locals) (hRcells : cells + 1 ≤ R.cells) (hRslots : slots + 6 ≤ R.slots) (hlocks : meth.locks = false)
    (hx : ∀ t : State, s.vm.Alike t.vm → H.size ≤ t.heap.size → (∀ q : Nat, q < H.size → t.heap[q]? = H[q]?) → XC cls s t)
    (hf : ∀ z ∈ locs, free z.base) (hc : cells + 1 ≤ mc) (hs : slots + 6 ≤ ms) :
    W p l e R s m args below meth c H locs cells slots (vx_MQ below Qc XC args s mc ms free) (F0 m pc ls rest) := by
  intro T hT X
  have htr : e.platform.stackTraces = false := (show e.platform.stackTraces = l.stackTraces by rw [X.admits.platform]).trans hl
  have Y := vx_rebase X (R' := { frames := R.frames, locals := R.locals, cells := 1, slots := 6 }) (Nat.le_refl _) (Nat.le_refl _) hRcells hRslots
  obtain ⟨s', hA⟩ : ∃ z, z = (T.setVm s.vm).setFrames (.invoking m args :: below) := ⟨_, rfl⟩
  rw [← hA] at Y
  have hvm : s'.vm = s.vm := by rw [hA]; rfl
  have hhp : s'.heap = H := by rw [hA]; exact hT
  have hW0 : s.WarmedH s'.vm := by rw [hvm]; exact State.WarmedH.refl s
  have hat' : ∀ w ∈ vx_atS own ic cls names, w.before args s' = true := fun w hw => vx_ot_at hW0 hvm.symm (hgood w (List.mem_cons_of_mem _ (List.mem_cons_of_mem _ hw))) (hat w hw)
  have hk' : (Cond.classLink own ik cls).before args s' = true := vx_ot_at hW0 hvm.symm (hgood _ List.mem_cons_self) hk
  have hini' : (Cond.initialized cls).before args s' = true := vx_ot_at hW0 hvm.symm (hgood _ (List.mem_cons_of_mem _ List.mem_cons_self)) hini
  have hU' : vx_Zq Bundle.tN "UNASSIGNED_STACK" Bundle.steD A s' s'.heap := by rw [hhp]; exact vx_Zq.moved hW0.alike (hU.kept hS.2.1)
  have hN' : vx_Zq Bundle.tN "SUPPRESSED_SENTINEL" Bundle.listD A s' s'.heap := by rw [hhp]; exact vx_Zq.moved hW0.alike (hN.kept hS.2.1)
  have h : ∀ w ∈ Bundle.ownAtoms own ic cls names, w.before args s' = true := vx_own hat' (vx_isRefq hU'.1) (vx_isRefq hN'.1) hU'.2.word hN'.2.word
  have hown' : s'.vm.findClass own = some m.cls := by rw [hvm]; exact hown
  have hins : (Cond.instantiable cls 6).before args s' = true := h _ (by simp [Bundle.ownAtoms])
  obtain ⟨vm₁, cX, kX, hfX, hkX, -, -, X₁, st1⟩ := Y.newCold hexec (own := own) (C := cls) (index := ik) (n := 6) hown' hk' hins hini'
    (g := F0 m pc ls rest) rfl (by rw [hb]; exact d0) (Nat.le_refl _) (Nat.le_refl _)
  generalize hT1 : (T.setVm vm₁).pushCell { cls := cX, slots := kX.instanceTypes.map defaultValue, vm := .none } = T1 at X₁ st1
  have hcat : (Value.ref T.heap.size).category = 1 := rfl
  have hcellA : T1.heap[T.heap.size]? = some (freshCell cX kX) := by rw [← hT1]; exact State.heap_pushCell_size _ _
  have d3' : decode c.code (pc + 3) = .ok (.dup, 1) := by rw [hb]; exact d3
  have d4' : decode c.code (pc + 4) = .ok (.ldc_w is, 3) := by rw [hb]; exact d4
  have hstr' : vk_R own is text sa s' := vk_R.warm hW0 hstr
  obtain ⟨U, hsteps, hrun, hend, hW, hsame, ce, hce, hO⟩ := X₁.ctorThrowS hexec htr (own := own) (cls := cls) (names := names) (ic := ic) hown' hcls hnames h (fun x hx => nomatch hx) hfX hkX hcellA (by rw [hhp, hT]; exact Nat.le_refl _) (msg := .ref sa) rfl
    (g := { method := m, pc := pc + 7, locals := ls, stack := .ref sa :: .ref T.heap.size :: .ref T.heap.size :: rest, locked := none }) rfl hsize rfl rfl (rest := rest) rfl
    (by rw [hb]; exact d7) (by rw [hb]; exact d10) hout hRframes (by simp only [List.map_cons, List.sum_cons, hcat]; omega) hlocks
  obtain ⟨f1, f2⟩ := vx_frame hsame
  rw [hhp] at f1 f2
  have hWs : s.WarmedH U.vm := State.WarmedH.trans hW0 hW
  have hcl : s.vm.findClass cls = some ce.cls := by
    have h9 := hO.cls
    rw [hvm] at h9
    exact h9
  have hall : s.sameButNew ({ U with vm := s.vm } : State) locs mc ms := by
    subst hA
    obtain ⟨e1, e2⟩ := hsame
    rw [State.setFrames_setFrames] at e1
    have h2 : (T.setVm s.vm).sameButNew ({ U with vm := s.vm } : State) [] (0 + 1) (0 + 6) := ⟨e1, e2⟩
    have h3 := X.same.trans h2
    rw [List.append_nil] at h3
    exact h3.mono hc hs
  refine ⟨U, ?_, .threw T.heap.size, hrun, hend, Or.inr ⟨T.heap.size, rfl, cls, ce, locs, hx U hWs.alike f1 (fun q hq => f2 q hq (fun z hz => nomatch hz)), hce, hO.vm, hcl, hWs, hall, hf⟩⟩
  refine st1 _ ?_
  show Steps p.tables e below (T1.setTop { method := m, pc := pc + 3, locals := ls, stack := .ref T.heap.size :: rest, locked := none }) _
  jvm_step X₁.here [X₁.here.top, hexec, d3', Value.category]
  exact X₁.ldcStringW hexec (own := own) (text := text) (index := is) (a := sa) hown' hstr'.1 hstr'.2
    (g := { method := m, pc := pc + 4, locals := ls, stack := .ref T.heap.size :: .ref T.heap.size :: rest, locked := none }) rfl d4' _ hsteps
end Ends
section Bodies
variable {l : Launch}
theorem vx_ofW {y : MethodName} {ws ws' : List Cond} {rm : Room} {Pc : Array Value → State → Prop} {Qc : Array Value → State → Outcome → State → Prop} {XC : String → State → State → Prop} {mc ms : Nat} {free : Addr → Prop} {cc : ByteArray} {maxL : Nat} {ret : Option FieldType}
    (hy : plainName y.cls = true) (hw : ws = Cond.code y cc maxL ret :: ws')
    (body : ∀ p e s m args below meth c s₁, BodyLoose p l y (headSpec ws rm) cc maxL ret e s m args below meth c s₁ → c.maxLocals = maxL → (∀ x ∈ c.exceptionTable.toList, False) → Pc args s →
      W p l e (headSpec ws rm).room s m args below meth c s.heap [] 0 0 (vx_MQ below Qc XC args s mc ms free) (entryFrame m args maxL)) : vx_Met l y ws rm Pc Qc XC mc ms free := by
  refine MetFree.of_bodyS (code := cc) (maxLocals := maxL) (ret := ret) hy ?_ ?_
  · intro args s m h hn
    obtain ⟨meth, c, h1, h2, h3, h4, h5, h6, -, -⟩ := Cond.code_spec hn (atoms_spec (ws := ws) h _ (by rw [hw]; exact List.mem_cons_self))
    exact ⟨meth, c, h1, h2, h3, h4, h5, h6⟩
  · intro p e s m args below meth c s₁ B hml hP _
    have hh0 : s₁.heap = s.heap := by rw [B.state]; rfl
    have ht : ∀ x ∈ c.exceptionTable.toList, False := by
      obtain ⟨meth9, c9, h1, h2, -, -, -, -, h7, -⟩ := Cond.code_spec B.named (atoms_spec (ws := ws) B.pre _ (by rw [hw]; exact List.mem_cons_self))
      cases Option.some.inj (h1.symm.trans B.method)
      cases Option.some.inj (h2.symm.trans (Stand.of_body B).code)
      intro x hx
      rw [Array.isEmpty_iff.mp h7] at hx
      cases hx
    obtain ⟨t, a1, o, b1, b2, b3⟩ := body p e s m args below meth c s₁ B hml ht hP s₁ hh0 (Stand.of_body B)
    exact ⟨t, o, a1, b1, b2, b3⟩
/-- the table of a body with handlers -/
theorem vx_table {p : Program} {x y : MethodName} {S : Spec} {cc bytes : ByteArray} {maxL maxL' : Nat} {ret ret' : Option FieldType} {e : Env} {s s₁ : State} {m : MethodId} {args : Array Value} {below : List Frame} {meth : Method} {c : Code} {hh : List (Nat × Nat × Nat × Nat)}
    (B : BodyLoose p l y S cc maxL ret e s m args below meth c s₁) (h : (Cond.codeWith y bytes maxL' ret' hh).before args s = true) : c.exceptionTable.toList = tableOf hh := by
  obtain ⟨m9, meth9, c9, hn9, h1, h2, -, -, h6, -⟩ := Cond.codeWith_spec h
  cases Option.some.inj (hn9.symm.trans B.named)
  cases Option.some.inj (h1.symm.trans B.method)
  cases Option.some.inj (h2.symm.trans (Stand.of_body B).code)
  rw [← h6, table_eq]
end Bodies
end VXA
/-! ===== END ===== -/
/-! ===== BEGIN a static call of a method with an exception table ===== -/
section VXS
variable {p : Program} {l : Launch} {e : Env} {R : Room} {s : State} {m : MethodId} {args : Array Value} {below : List Frame} {meth : Method} {c : Code} {T : State} {H : Heap} {locs : List Loc} {cells slots : Nat}
abbrev vx_CSW (R : Room) (s : State) (args : Array Value) (own : String) (index : Nat) (y : MethodName) (bytes : ByteArray) (maxL : Nat) (ret : Option FieldType) (hh : List (Nat × Nat × Nat × Nat)) (ws : List Cond) (rm : Room) (mc ms n : Nat) : Prop :=
  (rm.cells = mc ∧ rm.slots = ms ∧ rm.frames + 1 ≤ R.frames ∧ 8 + (maxL + 11) + rm.locals ≤ R.locals ∧ (∀ w ∈ ws, ∀ (a' : Array Value) (U : State), s.WarmedH U.vm → w.before a' U = true) ∧ Cond.codeWith y bytes maxL ret hh ∈ ws) ∧
  (Cond.codeWith y bytes maxL ret hh).before args s = true ∧ (Cond.initialized y.cls).before args s = true ∧ (y.cls ≠ "java/lang/invoke/MethodHandle" ∧ y.cls ≠ "java/lang/invoke/VarHandle") ∧
  (∀ sig, parseMethodDescriptor y.desc = some sig → n = sig.parameters.length) ∧ (Cond.methodLink own index y).before args s = true ∧ (Cond.static y).before args s = true
theorem vx_cwSW {own : String} {index maxL mc ms : Nat} {y : MethodName} {bytes : ByteArray} {ret : Option FieldType} {hh : List (Nat × Nat × Nat × Nat)} {Ts ws ws' : List Cond} {rm : Room} (n : Nat) (ht : ∀ w ∈ Ts, w.before args s = true) (hT : GoodIn Ts (va_wsS own index y ws)) (hw : ws = Cond.codeWith y bytes maxL ret hh :: ws') (hrc : rm.cells = mc) (hrs : rm.slots = ms)
    (hd : y.cls ≠ "java/lang/invoke/MethodHandle" ∧ y.cls ≠ "java/lang/invoke/VarHandle" ∧ (parseMethodDescriptor y.desc).map (fun d => d.parameters.length) = some n) (hR : rm.frames + 1 ≤ R.frames ∧ 8 + (maxL + 11) + rm.locals ≤ R.locals) :
    vx_CSW R s args own index y bytes maxL ret hh ws rm mc ms n := by
  have ok : ∀ w ∈ va_wsS own index y ws, w.before args s = true := fun w h => ht w (hT w h).1
  have hG : GoodIn Ts ws := fun w h => hT w (by unfold va_wsS; exact List.mem_append_right _ h)
  have hc : Cond.codeWith y bytes maxL ret hh ∈ ws := by rw [hw]; exact List.mem_cons_self
  refine ⟨⟨hrc, hrs, hR.1, hR.2, pay_in ht hG, hc⟩, ht _ (hG _ hc).1, ok _ (by simp [va_wsS]), ⟨hd.1, hd.2.1⟩, fun sig h => ?_, ok _ (by simp [va_wsS]), ok _ (by simp [va_wsS])⟩
  have h2 := hd.2.2
  rw [h] at h2
  exact (Option.some.inj h2).symm
theorem vx_callSW (X : Stand p l e R s m args below meth c T locs cells slots) (hexec : p.tables.exec = Jvm.exec) {own : String} {index : Nat} {y : MethodName} {bytes : ByteArray} {maxL : Nat} {ret : Option FieldType} {hh : List (Nat × Nat × Nat × Nat)}
    (hown : s.vm.findClass own = some m.cls) (hlink : (Cond.methodLink own index y).before args s = true) (hstat : (Cond.static y).before args s = true) (hinit : (Cond.initialized y.cls).before args s = true)
    (hcode : (Cond.codeWith y bytes maxL ret hh).before args s = true) (hy : y.cls ≠ "java/lang/invoke/MethodHandle" ∧ y.cls ≠ "java/lang/invoke/VarHandle")
    {W9 : Nat} {Pre : Pt → Array Value → Prop} {Post : Pt → Array Value → Option Value → Pt → Prop} (hK : Back l R p e below s args y 3 W9 Pre Post)
    {g : JFrame} (hg : g.method = m) (hsize : g.locals.size = c.maxLocals) {argsL rest : List Value} (hlen : ∀ sig, parseMethodDescriptor y.desc = some sig → argsL.length = sig.parameters.length)
    (hstack : g.stack = argsL.reverse ++ rest) (hW : 2 * g.monitorRoom + (rest.map fun v => v.category).sum ≤ W9) (hdg : decode c.code g.pc = .ok (.invokestatic index, 3))
    (hpre : ∀ vm₁, s.WarmedH vm₁ → Pre ⟨T.setVm vm₁, locs, cells, slots⟩ argsL.toArray) :
    ∃ (v : Option Value) (vm₁ : Vm) (B : Pt), s.WarmedH vm₁ ∧ Stand p l e R s m args below meth c B.U B.locs B.cells B.slots ∧ Post ⟨T.setVm vm₁, locs, cells, slots⟩ argsL.toArray v B ∧
      ∀ target, Steps p.tables e below (B.U.setTop { g with pc := g.pc + 3, stack := v.toList ++ rest }) target → Steps p.tables e below (T.setTop g) target := by
  obtain ⟨mk, methM, cM, hnamed, hmethM, -, -, -, -, -, -, hsigM⟩ := Cond.codeWith_spec hcode
  have hstatic : methM.isStatic = true := Cond.static_spec hnamed hmethM hstat
  obtain ⟨kP, hkP, -⟩ := className_of_methodNamed hnamed
  have hinitP : kP.init = .initialized := Cond.initialized_spec (findClass_of_methodNamed hnamed) hkP hinit
  obtain ⟨vm₁, X₁, hstep₁⟩ := X.invokestatic hexec hown hlink hnamed hmethM hstatic hkP hinitP hy (g := g) hg (argsL := argsL) (rest := rest) (hlen _ hsigM) hstack hdg
  obtain ⟨v, B, X', hpost, hsteps⟩ := hK m meth c ⟨T.setVm vm₁, locs, cells, slots⟩ { g with stack := rest } (.invokestatic index) mk argsL.toArray X₁ hg hsize hdg hW (X₁.named hnamed) (hpre vm₁ X₁.warmed)
  exact ⟨v, vm₁, B, X₁.warmed, X', hpost, fun target h => hstep₁ _ fun acts => by rw [doInvoke_state]; exact hsteps.trans h⟩
theorem vx_runSW {y : MethodName} {bytes cc : ByteArray} {maxL nL mc ms n index : Nat} {ret : Option FieldType} {hh : List (Nat × Nat × Nat × Nat)} {ws : List Cond} {rm : Room} {Pc : Array Value → State → Prop} {Qc : Array Value → State → Outcome → State → Prop} {free : Addr → Prop} {Ts : List Cond} {own : String} {As rest : List Value} {g : JFrame}
    (S : CallFix p m c cc nL s args Ts own) (hM : Met l y ws rm Pc Qc mc ms free) (cw : vx_CSW R s args own index y bytes maxL ret hh ws rm mc ms n) (hp : PreS s H Pc As)
    (hg : g.method = m) (hn : As.length = n) (hsize : g.locals.size = nL) (hstack : g.stack = As.reverse ++ rest) (hW : 2 * g.monitorRoom + (rest.map fun v => v.category).sum ≤ 8) (hdg : decode cc g.pc = .ok (.invokestatic index, 3)) (hf : cells + mc ≤ R.cells ∧ slots + ms ≤ R.slots) :
    va_Run p l e R s m args below meth c H locs cells slots mc ms g rest (Qc As.toArray) (free) := by
  obtain ⟨⟨hrc, hrs, hfr, hlo, hws, hcw⟩, hcode, hini, hy, hlen, hl, hstt⟩ := cw
  have hK : Back l R p e below s args y 3 8 (PreOf R mc ms Pc) (PostOf Qc mc ms free) := va_backW (hh := hh) (bytes := bytes) (maxL := maxL) (ret := ret) hM hp.1 hrc hrs hfr hlo hws hcw (fun a' U hW => word_at hW (Or.inl (by first | rfl | simp [Cond.onTables, Cond.keeps, Cond.steady])) hini)
  obtain ⟨hx, hb, hml, ho, -⟩ := S
  intro T hT X
  obtain ⟨v, vm₁, ⟨U', l2, c2, s2⟩, hW₁, X', ⟨g', mk, t, L, e1, e2, hq, h1, hL, h2, h3⟩, st⟩ := vx_callSW X hx (hh := hh) (bytes := bytes) (maxL := maxL) (ret := ret) ho hl hstt hini hcode hy hK hg (hsize.trans hml.symm) (argsL := As) (rest := rest) (fun sig h => hn.trans (hlen sig h)) hstack hW (by rw [hb]; exact hdg)
    (fun vm₁ hW₁ => ⟨hf.1, hf.2, hp.2 (T.setVm vm₁) hT hW₁⟩)
  dsimp only [Pt.U, Pt.locs, Pt.cells, Pt.slots] at X' e1 e2 h1 h2 h3 st
  subst h1; subst h2; subst h3
  exact ⟨v, (T.setVm vm₁).calling g' mk As.toArray, t, U', L, hT, X', hL, e1, e2, hq, st⟩
/-- not caught here, past rows that name other classes: it goes on to the caller -/
theorem vx_outP {p : Program} {l : Launch} {e : Env} {R : Room} {s : State} {m : MethodId} {args : Array Value} {below : List Frame} {meth : Method} {c : Code} {H : Heap} {locs : List Loc} {cells slots : Nat} {free : Addr → Prop} {ls : Array Slot} {rest : List Value} {Qc : Array Value → State → Outcome → State → Prop} {XC : String → State → State → Prop}
    {pc : Nat} {own E : String} {ce : Cell} {q : Addr} {mc ms : Nat} (hown : s.vm.findClass own = some m.cls) (hlocks : meth.locks = false)
    (hpass : ∀ z ∈ c.exceptionTable.toList, covers z pc = false ∨ (z.catchType ≠ 0 ∧ ∃ nm : String, (Cond.classLink own z.catchType nm).before args s = true ∧ va_Nc E nm s)) (hcell : H[q]? = some ce) (hv : ce.vm = .none) (hcl : s.vm.findClass E = some ce.cls)
    (hx : ∀ t : State, t.heap = H → s.vm.Alike t.vm → XC E s t) (hf : ∀ z ∈ locs, free z.base) (hc : cells ≤ mc) (hs : slots ≤ ms) :
    vx_W p l e R s m args below meth c H locs cells slots (vx_MQ below Qc XC args s mc ms free) (F0 m pc ls rest) q := by
  intro T hT X
  have hpl : e.platform.magicAccessors = ({} : Platform).magicAccessors := by rw [X.admits.platform]
  obtain ⟨vm', hW', X', st⟩ := X.outThrough hlocks q (g := F0 m pc ls rest) rfl rfl rfl (cell := ce) (by rw [hT]; exact hcell) (by rw [hv]; rfl)
    (by obtain ⟨k9, h9, -⟩ := Vm.findClass_spec hcl; exact ⟨k9, h9⟩) (fun z hz => by
      rcases hpass z hz with h | ⟨hz0, nm, hl1, hn1⟩
      · exact Or.inl h
      · obtain ⟨c6, hc6, hcl6⟩ := Cond.classLink_spec hown hl1 e.platform hpl
        obtain ⟨a8, b8, h1, h2, h3⟩ := hn1
        cases Option.some.inj (h1.symm.trans hcl)
        cases Option.some.inj (h2.symm.trans hc6)
        exact Or.inr ⟨hz0, _, hcl6, h3⟩)
  obtain ⟨g₀, hfr⟩ := X'.frames_eq
  have hcell9 : ((T.setVm vm').setFrames (.throwing q :: below)).heap[q]? = some ce := by
    show T.heap[q]? = some ce
    rw [hT]; exact hcell
  have hend : Ended ((T.setVm vm').setFrames (.throwing q :: below)) below (.threw q) := State.frames_setFrames _ (State.cur_lt_of_frames hfr)
  refine ⟨(T.setVm vm').setFrames (.throwing q :: below), ?_, .threw q, X'.here.running, hend, Or.inr ⟨q, rfl, E, ce, locs, hx _ hT (X'.ends _).1.alike, hcell9, hv, hcl, (X'.ends _).1, (X'.ends _).2.mono hc hs, hf⟩⟩
  rw [X.pushThrowing_eq]
  exact st
/-- a thing of a world lies in the heap -/
theorem vx_lt {D : va_G} {cl : List vw_C} {ws : va_W} {H1 : Heap} (h : va_P D cl ws H1) {k : Nat} {q : Nat × va_E} (hk : ws[k]? = some q) : q.1 < H1.size := (h k q hk).lt
end VXS
/-! ===== END ===== -/
/-! ===== BEGIN methods with a table of their own: called by a name, returning or throwing ===== -/
section VXH
/-! vx_backW, vx_callVX, vx_callSX, vx_callVW, vx_runVW, vx_runVX, vx_runSX, vx_ofWH follow the same proofs as their sisters above (Free/Laws.lean, Shelf42/LK1.lean); vx_outP calls Shelf42/NT130.lean (outThrough). -/
section
variable {l : Launch} {R : Room} {p : Program} {e : Env} {below : List Frame} {s : State} {sargs : Array Value} {y : MethodName} {len W9 : Nat}
theorem vx_backW {ws : List Cond} {rm : Room} {Pc : Array Value → State → Prop} {Qc : Array Value → State → Outcome → State → Prop} {XC : String → State → State → Prop} {mc ms : Nat} {free : Addr → Prop} {bytes : ByteArray} {maxL : Nat} {ret : Option FieldType} {hh : List (Nat × Nat × Nat × Nat)}
    (hM : vx_Met l y ws rm Pc Qc XC mc ms free) (hblind : FrameBlind Pc) (hrc : rm.cells = mc) (hrs : rm.slots = ms)
    (hframes : rm.frames + 1 ≤ R.frames) (hlocals : W9 + (maxL + 11) + rm.locals ≤ R.locals)
    (hws : ∀ w ∈ ws, ∀ a' U, s.WarmedH U.vm → w.before a' U = true) (hcode : Cond.codeWith y bytes maxL ret hh ∈ ws) (hinit : ∀ a' U, s.WarmedH U.vm → (Cond.initialized y.cls).before a' U = true) :
    vx_Back l R p e below s sargs y len W9 (PreOf R mc ms Pc) (PostOf Qc mc ms free) (vx_Post XC mc ms free) := by
  intro m meth c A g ig mk a X hg hsize hdg hW hn hp
  have h1 : (headSpec ws rm).pre.before a A.U = true := atoms_intro fun w hw => hws w hw _ _ X.warmed
  have h2 : (Cond.codeWith y bytes maxL ret hh).before a A.U = true := hws _ hcode _ _ X.warmed
  have h3 : (Cond.initialized y.cls).before a A.U = true := hinit _ _ X.warmed
  have h4 : A.cells + (headSpec ws rm).room.cells ≤ R.cells := by rw [show (headSpec ws rm).room.cells = mc from hrc]; exact hp.1
  have h5 : A.slots + (headSpec ws rm).room.slots ≤ R.slots := by rw [show (headSpec ws rm).room.slots = ms from hrs]; exact hp.2.1
  have hPc : Pc a (A.U.calling g mk a) := hblind _ _ _ _ hp.2.2
  obtain ⟨U, Ls, c0, s0⟩ := A
  dsimp only [Pt.U, Pt.locs, Pt.cells, Pt.slots] at h1 h2 h3 h4 h5 X hn hPc ⊢
  obtain ⟨m9, methY, cY, hn9, hmY, hcY, -, hlY, -⟩ := Cond.codeWith_spec h2
  cases Option.some.inj (hn9.symm.trans hn)
  obtain ⟨kY, hkY, -⟩ := className_of_methodNamed hn
  have hinitY : kY.init = .initialized := Cond.initialized_spec (findClass_of_methodNamed hn) hkY h3
  have h : At U g.method c below := by rw [hg]; exact X.here
  have hlocals9 : W9 + (maxL + 11) + (headSpec ws rm).room.locals ≤ R.locals := hlocals
  have happ : (headSpec ws rm).appliesLoose y e.platform (U.calling g mk a) = true :=
    Spec.appliesLoose_calling (g := g) h hdg hn hkY hinitY
      (X.room_calling (g := g) (R' := (headSpec ws rm).room) hsize hmY hcY hframes (by rw [hlY]; omega) h4 h5) h1
  obtain ⟨mid, hmid⟩ := h.above
  have hfr : (U.setTop g).frames = (.java g :: mid) ++ below := by rw [State.frames_setTop' g h.top, hmid]; rfl
  obtain ⟨o, s₂, hsteps, -, hend, hq⟩ := Steps.callFree hM p X.admits X.cas X.clock (acts := []) hfr happ hPc trivial
  have hq' : vx_Q Qc XC mc ms free a (U.calling g mk a) o s₂ := hq
  rw [State.frames_setTop' g h.top] at hend
  obtain ⟨g₀, hg0⟩ := Option.isSome_iff_exists.mp h.top
  obtain ⟨r, hr⟩ := State.topJava?_eq_some.mp hg0
  have hr' : (({ U with heap := s₂.heap, slotsUsed := s₂.slotsUsed } : State).setVm s₂.vm).frames = .java g₀ :: r := hr
  rcases hq' with ⟨hqc, L, hfe, hL⟩ | ⟨q, rfl, E, ce, L, hx, hce, hcv, hcl, hW₂, hsm, hL⟩
  · obtain ⟨⟨v, rfl⟩, hW₂, e2, q2, q3, q4, q5, q6⟩ := id hfe
    have e3 : s₂ = ({ (U.calling g mk a).setFrames s₂.frames with heap := s₂.heap, slotsUsed := s₂.slotsUsed } : State).setVm s₂.vm := by
      have : s₂ = ({ s₂ with vm := (U.calling g mk a).vm } : State).setVm s₂.vm := rfl
      rw [e2] at this
      exact this
    obtain ⟨c₂, i₂, len₂, hc₂, hd₂, hf₂⟩ := hend
    have hW' : U.WarmedH s₂.vm := hW₂
    have hcc : c₂ = c := by
      have h1 : s₂.code? g.method = U.code? g.method := by
        rw [State.code?_eq, State.code?_eq, hW'.alike.method?]
      exact Option.some.inj (hc₂.symm.trans (h1.trans h.code))
    subst hcc
    have hlen : len₂ = len := by rw [hdg] at hd₂; cases hd₂; rfl
    subst hlen
    have hs₂ : s₂ = (({ U with heap := s₂.heap, slotsUsed := s₂.slotsUsed } : State).setVm s₂.vm).setTop { g with pc := g.pc + len₂, stack := v.toList ++ g.stack } := by
      refine e3.trans ?_
      rw [hf₂, State.calling_eq h.top, State.setFrames_setFrames, State.setTop_of_frames _ hr', hr]
      rfl
    have hsame : U.sameButNew ({ U with heap := s₂.heap, slotsUsed := s₂.slotsUsed } : State) L mc ms := by
      refine ⟨?_, q2, q3, q4, q5, q6⟩
      obtain ⟨t, ht, -⟩ := State.frames_cons hr
      show ({ U with heap := s₂.heap, slotsUsed := s₂.slotsUsed } : State) = { U.setFrames U.frames with heap := s₂.heap, slotsUsed := s₂.slotsUsed }
      rw [State.setFrames_self ht]
    subst hg
    refine Or.inl ⟨v, ⟨(({ U with heap := s₂.heap, slotsUsed := s₂.slotsUsed } : State).setVm s₂.vm), Ls ++ L, c0 + mc, s0 + ms⟩,
      ⟨X.admits, X.cas, X.clock, X.frames, X.room, X.hears, X.method, X.code, (X.here.setHeapUsed s₂.heap s₂.slotsUsed).setVm hW'.alike, X.tail, State.WarmedH.trans X.warmed hW', X.limits, X.bytes, X.same.trans (hsame.setVm s.vm)⟩,
      ⟨g, mk, s₂, L, rfl, rfl, hqc, rfl, hL, rfl, rfl⟩, ?_⟩
    show Steps p.tables e below _ ((({ U with heap := s₂.heap, slotsUsed := s₂.slotsUsed } : State).setVm s₂.vm).setTop { g with pc := g.pc + len₂, stack := v.toList ++ g.stack })
    rw [← hs₂]
    exact hsteps
  · obtain ⟨e2, q2, q3, q4, q5, q6⟩ := id hsm
    have e3 : s₂ = ({ (U.calling g mk a).setFrames s₂.frames with heap := s₂.heap, slotsUsed := s₂.slotsUsed } : State).setVm s₂.vm := by
      have : s₂ = ({ s₂ with vm := (U.calling g mk a).vm } : State).setVm s₂.vm := rfl
      rw [e2] at this
      exact this
    have hf₂ : s₂.frames = .throwing q :: .java g :: U.frames.tail := hend
    have hW' : U.WarmedH s₂.vm := hW₂
    have hs₂ : s₂ = ((({ U with heap := s₂.heap, slotsUsed := s₂.slotsUsed } : State).setVm s₂.vm).setTop g).pushFrame (.throwing q) := by
      refine e3.trans ?_
      rw [hf₂, State.calling_eq h.top, State.setFrames_setFrames, State.pushFrame, State.frames_setTop _ hr', State.setTop_of_frames _ hr', State.setFrames_setFrames, hr]
      rfl
    have hsame : U.sameButNew ({ U with heap := s₂.heap, slotsUsed := s₂.slotsUsed } : State) L mc ms := by
      refine ⟨?_, q2, q3, q4, q5, q6⟩
      obtain ⟨t, ht, -⟩ := State.frames_cons hr
      show ({ U with heap := s₂.heap, slotsUsed := s₂.slotsUsed } : State) = { U.setFrames U.frames with heap := s₂.heap, slotsUsed := s₂.slotsUsed }
      rw [State.setFrames_self ht]
    subst hg
    refine Or.inr ⟨q, ⟨(({ U with heap := s₂.heap, slotsUsed := s₂.slotsUsed } : State).setVm s₂.vm), Ls ++ L, c0 + mc, s0 + ms⟩,
      ⟨X.admits, X.cas, X.clock, X.frames, X.room, X.hears, X.method, X.code, (X.here.setHeapUsed s₂.heap s₂.slotsUsed).setVm hW'.alike, X.tail, State.WarmedH.trans X.warmed hW', X.limits, X.bytes, X.same.trans (hsame.setVm s.vm)⟩,
      ⟨g, mk, s₂, L, E, ce, rfl, rfl, hx, hce, hcv, hcl, rfl, hL, rfl, rfl⟩, ?_⟩
    show Steps p.tables e below _ (((({ U with heap := s₂.heap, slotsUsed := s₂.slotsUsed } : State).setVm s₂.vm).setTop g).pushFrame (.throwing q))
    rw [← hs₂]
    exact hsteps
end
variable {p : Program} {l : Launch} {e : Env} {R : Room} {s : State} {m : MethodId} {args : Array Value} {below : List Frame} {meth : Method} {c : Code} {T : State} {H : Heap} {locs : List Loc} {cells slots : Nat}
theorem vx_callVX (X : Stand p l e R s m args below meth c T locs cells slots) (hexec : p.tables.exec = Jvm.exec) {own C : String} {index : Nat} {y : MethodName} {bytes : ByteArray} {maxL : Nat} {ret : Option FieldType} {hh : List (Nat × Nat × Nat × Nat)}
    (hown : s.vm.findClass own = some m.cls) (hlink : (Cond.methodLink own index y).before args s = true) (hinst : (Cond.instanceMethod y).before args s = true) (hsel : (Cond.selects C y y).before args s = true)
    (hcode : (Cond.codeWith y bytes maxL ret hh).before args s = true) (hy : y.cls ≠ "java/lang/invoke/MethodHandle" ∧ y.cls ≠ "java/lang/invoke/VarHandle")
    {W9 : Nat} {Pre : Pt → Array Value → Prop} {Post : Pt → Array Value → Option Value → Pt → Prop} {PostX : Pt → Array Value → Addr → Pt → Prop} (hK : vx_Back l R p e below s args y 3 W9 Pre Post PostX)
    {b : Addr} {cellB : Cell} (hcell : T.heap[b]? = some cellB) (hobj : cellB.vm.isStatics = false) (hcls : s.vm.findClass C = some cellB.cls)
    {g : JFrame} (hg : g.method = m) (hsize : g.locals.size = c.maxLocals) {argsL rest : List Value} (hlen : ∀ sig, parseMethodDescriptor y.desc = some sig → argsL.length = sig.parameters.length)
    (hstack : g.stack = argsL.reverse ++ .ref b :: rest) (hW : 2 * g.monitorRoom + (rest.map fun v => v.category).sum ≤ W9) (hdg : decode c.code g.pc = .ok (.invokevirtual index, 3))
    (hpre : ∀ vm₁, s.WarmedH vm₁ → Pre ⟨T.setVm vm₁, locs, cells, slots⟩ (Value.ref b :: argsL).toArray) :
    (∃ (v : Option Value) (vm₁ : Vm) (B : Pt), s.WarmedH vm₁ ∧ Stand p l e R s m args below meth c B.U B.locs B.cells B.slots ∧ Post ⟨T.setVm vm₁, locs, cells, slots⟩ (Value.ref b :: argsL).toArray v B ∧
      ∀ target, Steps p.tables e below (B.U.setTop { g with pc := g.pc + 3, stack := v.toList ++ rest }) target → Steps p.tables e below (T.setTop g) target) ∨
    (∃ (q : Addr) (vm₁ : Vm) (B : Pt), s.WarmedH vm₁ ∧ Stand p l e R s m args below meth c B.U B.locs B.cells B.slots ∧ PostX ⟨T.setVm vm₁, locs, cells, slots⟩ (Value.ref b :: argsL).toArray q B ∧
      Steps p.tables e below (T.setTop g) ((B.U.setTop { g with stack := rest }).pushFrame (.throwing q))) := by
  obtain ⟨mk, methM, hnamed, hmethM, hstM, habM⟩ := Cond.instanceMethod_spec hinst
  obtain ⟨m8, methM', cM, hn8, hmethM', -, -, -, -, -, -, hsigM⟩ := Cond.codeWith_spec hcode
  cases Option.some.inj (hn8.symm.trans hnamed)
  cases hmethM.symm.trans hmethM'
  obtain ⟨c2, r2, m2, q1, q2, q3, q4, kP, hkP, hkPi⟩ := Cond.selects_spec hsel
  cases hcls.symm.trans q1
  cases (State.methodFound?_of_named hnamed hy).symm.trans q2
  cases hnamed.symm.trans q3
  have hselP : selectMethod e.platform s.vm cellB.cls mk = .method mk := by rw [Launch.admits_selectMethod X.admits]; exact q4
  obtain ⟨vm₁, X₁, hstep₁⟩ := X.invokevirtual hexec hown hlink hnamed hmethM hstM hkP hkPi hy (a := b) (cell := cellB) hcell
    (fun z h => by rw [h] at hobj; cases hobj) hselP hmethM habM hkP hkPi (g := g) hg (argsL := argsL) (rest := rest) (hlen _ hsigM) hstack hdg
  rcases hK m meth c ⟨T.setVm vm₁, locs, cells, slots⟩ { g with stack := rest } (.invokevirtual index) mk (Value.ref b :: argsL).toArray X₁ hg hsize hdg hW (X₁.named hnamed) (hpre vm₁ X₁.warmed) with ⟨v, B, X', hpost, hsteps⟩ | ⟨q, B, X', hpost, hsteps⟩
  · exact Or.inl ⟨v, vm₁, B, X₁.warmed, X', hpost, fun target h => hstep₁ _ fun acts => by rw [doInvoke_state]; exact hsteps.trans h⟩
  · exact Or.inr ⟨q, vm₁, B, X₁.warmed, X', hpost, hstep₁ _ fun acts => by rw [doInvoke_state]; exact hsteps⟩
theorem vx_callSX (X : Stand p l e R s m args below meth c T locs cells slots) (hexec : p.tables.exec = Jvm.exec) {own : String} {index : Nat} {y : MethodName} {bytes : ByteArray} {maxL : Nat} {ret : Option FieldType} {hh : List (Nat × Nat × Nat × Nat)}
    (hown : s.vm.findClass own = some m.cls) (hlink : (Cond.methodLink own index y).before args s = true) (hstat : (Cond.static y).before args s = true) (hinit : (Cond.initialized y.cls).before args s = true)
    (hcode : (Cond.codeWith y bytes maxL ret hh).before args s = true) (hy : y.cls ≠ "java/lang/invoke/MethodHandle" ∧ y.cls ≠ "java/lang/invoke/VarHandle")
    {W9 : Nat} {Pre : Pt → Array Value → Prop} {Post : Pt → Array Value → Option Value → Pt → Prop} {PostX : Pt → Array Value → Addr → Pt → Prop} (hK : vx_Back l R p e below s args y 3 W9 Pre Post PostX)
    {g : JFrame} (hg : g.method = m) (hsize : g.locals.size = c.maxLocals) {argsL rest : List Value} (hlen : ∀ sig, parseMethodDescriptor y.desc = some sig → argsL.length = sig.parameters.length)
    (hstack : g.stack = argsL.reverse ++ rest) (hW : 2 * g.monitorRoom + (rest.map fun v => v.category).sum ≤ W9) (hdg : decode c.code g.pc = .ok (.invokestatic index, 3))
    (hpre : ∀ vm₁, s.WarmedH vm₁ → Pre ⟨T.setVm vm₁, locs, cells, slots⟩ argsL.toArray) :
    (∃ (v : Option Value) (vm₁ : Vm) (B : Pt), s.WarmedH vm₁ ∧ Stand p l e R s m args below meth c B.U B.locs B.cells B.slots ∧ Post ⟨T.setVm vm₁, locs, cells, slots⟩ argsL.toArray v B ∧
      ∀ target, Steps p.tables e below (B.U.setTop { g with pc := g.pc + 3, stack := v.toList ++ rest }) target → Steps p.tables e below (T.setTop g) target) ∨
    (∃ (q : Addr) (vm₁ : Vm) (B : Pt), s.WarmedH vm₁ ∧ Stand p l e R s m args below meth c B.U B.locs B.cells B.slots ∧ PostX ⟨T.setVm vm₁, locs, cells, slots⟩ argsL.toArray q B ∧
      Steps p.tables e below (T.setTop g) ((B.U.setTop { g with stack := rest }).pushFrame (.throwing q))) := by
  obtain ⟨mk, methM, cM, hnamed, hmethM, -, -, -, -, -, -, hsigM⟩ := Cond.codeWith_spec hcode
  have hstatic : methM.isStatic = true := Cond.static_spec hnamed hmethM hstat
  obtain ⟨kP, hkP, -⟩ := className_of_methodNamed hnamed
  have hinitP : kP.init = .initialized := Cond.initialized_spec (findClass_of_methodNamed hnamed) hkP hinit
  obtain ⟨vm₁, X₁, hstep₁⟩ := X.invokestatic hexec hown hlink hnamed hmethM hstatic hkP hinitP hy (g := g) hg (argsL := argsL) (rest := rest) (hlen _ hsigM) hstack hdg
  rcases hK m meth c ⟨T.setVm vm₁, locs, cells, slots⟩ { g with stack := rest } (.invokestatic index) mk argsL.toArray X₁ hg hsize hdg hW (X₁.named hnamed) (hpre vm₁ X₁.warmed) with ⟨v, B, X', hpost, hsteps⟩ | ⟨q, B, X', hpost, hsteps⟩
  · exact Or.inl ⟨v, vm₁, B, X₁.warmed, X', hpost, fun target h => hstep₁ _ fun acts => by rw [doInvoke_state]; exact hsteps.trans h⟩
  · exact Or.inr ⟨q, vm₁, B, X₁.warmed, X', hpost, hstep₁ _ fun acts => by rw [doInvoke_state]; exact hsteps⟩
theorem vx_callVW (X : Stand p l e R s m args below meth c T locs cells slots) (hexec : p.tables.exec = Jvm.exec) {own C : String} {index : Nat} {y : MethodName} {bytes : ByteArray} {maxL : Nat} {ret : Option FieldType} {hh : List (Nat × Nat × Nat × Nat)}
    (hown : s.vm.findClass own = some m.cls) (hlink : (Cond.methodLink own index y).before args s = true) (hinst : (Cond.instanceMethod y).before args s = true) (hsel : (Cond.selects C y y).before args s = true)
    (hcode : (Cond.codeWith y bytes maxL ret hh).before args s = true) (hy : y.cls ≠ "java/lang/invoke/MethodHandle" ∧ y.cls ≠ "java/lang/invoke/VarHandle")
    {W9 : Nat} {Pre : Pt → Array Value → Prop} {Post : Pt → Array Value → Option Value → Pt → Prop} (hK : Back l R p e below s args y 3 W9 Pre Post)
    {b : Addr} {cellB : Cell} (hcell : T.heap[b]? = some cellB) (hobj : cellB.vm.isStatics = false) (hcls : s.vm.findClass C = some cellB.cls)
    {g : JFrame} (hg : g.method = m) (hsize : g.locals.size = c.maxLocals) {argsL rest : List Value} (hlen : ∀ sig, parseMethodDescriptor y.desc = some sig → argsL.length = sig.parameters.length)
    (hstack : g.stack = argsL.reverse ++ .ref b :: rest) (hW : 2 * g.monitorRoom + (rest.map fun v => v.category).sum ≤ W9) (hdg : decode c.code g.pc = .ok (.invokevirtual index, 3))
    (hpre : ∀ vm₁, s.WarmedH vm₁ → Pre ⟨T.setVm vm₁, locs, cells, slots⟩ (Value.ref b :: argsL).toArray) :
    ∃ (v : Option Value) (vm₁ : Vm) (B : Pt), s.WarmedH vm₁ ∧ Stand p l e R s m args below meth c B.U B.locs B.cells B.slots ∧ Post ⟨T.setVm vm₁, locs, cells, slots⟩ (Value.ref b :: argsL).toArray v B ∧
      ∀ target, Steps p.tables e below (B.U.setTop { g with pc := g.pc + 3, stack := v.toList ++ rest }) target → Steps p.tables e below (T.setTop g) target := by
  obtain ⟨mk, methM, hnamed, hmethM, hstM, habM⟩ := Cond.instanceMethod_spec hinst
  obtain ⟨m8, methM', cM, hn8, hmethM', -, -, -, -, -, -, hsigM⟩ := Cond.codeWith_spec hcode
  cases Option.some.inj (hn8.symm.trans hnamed)
  cases hmethM.symm.trans hmethM'
  obtain ⟨c2, r2, m2, q1, q2, q3, q4, kP, hkP, hkPi⟩ := Cond.selects_spec hsel
  cases hcls.symm.trans q1
  cases (State.methodFound?_of_named hnamed hy).symm.trans q2
  cases hnamed.symm.trans q3
  have hselP : selectMethod e.platform s.vm cellB.cls mk = .method mk := by rw [Launch.admits_selectMethod X.admits]; exact q4
  obtain ⟨vm₁, X₁, hstep₁⟩ := X.invokevirtual hexec hown hlink hnamed hmethM hstM hkP hkPi hy (a := b) (cell := cellB) hcell
    (fun z h => by rw [h] at hobj; cases hobj) hselP hmethM habM hkP hkPi (g := g) hg (argsL := argsL) (rest := rest) (hlen _ hsigM) hstack hdg
  obtain ⟨v, B, X', hpost, hsteps⟩ := hK m meth c ⟨T.setVm vm₁, locs, cells, slots⟩ { g with stack := rest } (.invokevirtual index) mk (Value.ref b :: argsL).toArray X₁ hg hsize hdg hW (X₁.named hnamed) (hpre vm₁ X₁.warmed)
  exact ⟨v, vm₁, B, X₁.warmed, X', hpost, fun target h => hstep₁ _ fun acts => by rw [doInvoke_state]; exact hsteps.trans h⟩
abbrev vx_CVW (R : Room) (s : State) (args : Array Value) (own C : String) (index : Nat) (y : MethodName) (bytes : ByteArray) (maxL : Nat) (ret : Option FieldType) (hh : List (Nat × Nat × Nat × Nat)) (ws : List Cond) (rm : Room) (mc ms n : Nat) : Prop :=
  (rm.cells = mc ∧ rm.slots = ms ∧ rm.frames + 1 ≤ R.frames ∧ 8 + (maxL + 11) + rm.locals ≤ R.locals ∧ (∀ w ∈ ws, ∀ (a' : Array Value) (U : State), s.WarmedH U.vm → w.before a' U = true) ∧ Cond.codeWith y bytes maxL ret hh ∈ ws) ∧
  (Cond.codeWith y bytes maxL ret hh).before args s = true ∧ (Cond.initialized y.cls).before args s = true ∧ (y.cls ≠ "java/lang/invoke/MethodHandle" ∧ y.cls ≠ "java/lang/invoke/VarHandle") ∧
  (∀ sig, parseMethodDescriptor y.desc = some sig → n = sig.parameters.length) ∧ (Cond.methodLink own index y).before args s = true ∧ (Cond.instanceMethod y).before args s = true ∧ (Cond.selects C y y).before args s = true
theorem vx_cwVW {own C : String} {index maxL mc ms : Nat} {y : MethodName} {bytes : ByteArray} {ret : Option FieldType} {hh : List (Nat × Nat × Nat × Nat)} {Ts ws ws' : List Cond} {rm : Room} (n : Nat) (ht : ∀ w ∈ Ts, w.before args s = true) (hT : GoodIn Ts (wsV own index C y ws)) (hw : ws = Cond.codeWith y bytes maxL ret hh :: ws') (hrc : rm.cells = mc) (hrs : rm.slots = ms)
    (hd : y.cls = C ∧ y.cls ≠ "java/lang/invoke/MethodHandle" ∧ y.cls ≠ "java/lang/invoke/VarHandle" ∧ (parseMethodDescriptor y.desc).map (fun d => d.parameters.length) = some n) (hR : rm.frames + 1 ≤ R.frames ∧ 8 + (maxL + 11) + rm.locals ≤ R.locals) :
    vx_CVW R s args own C index y bytes maxL ret hh ws rm mc ms n := by
  obtain ⟨hC, hd⟩ := hd
  subst hC
  have ok : ∀ w ∈ wsV own index y.cls y ws, w.before args s = true := fun w h => ht w (hT w h).1
  have hG : GoodIn Ts ws := fun w h => hT w (by unfold wsV; exact List.mem_append_right _ h)
  have hc : Cond.codeWith y bytes maxL ret hh ∈ ws := by rw [hw]; exact List.mem_cons_self
  refine ⟨⟨hrc, hrs, hR.1, hR.2, pay_in ht hG, hc⟩, ht _ (hG _ hc).1, ok _ (by simp [wsV]), ⟨hd.1, hd.2.1⟩, fun sig h => ?_, ok _ (by simp [wsV]), ok _ (by simp [wsV]), ok _ (by simp [wsV])⟩
  have h2 := hd.2.2
  rw [h] at h2
  exact (Option.some.inj h2).symm
theorem vx_runVW {y : MethodName} {bytes cc : ByteArray} {maxL nL mc ms n index : Nat} {ret : Option FieldType} {hh : List (Nat × Nat × Nat × Nat)} {ws : List Cond} {rm : Room} {Pc : Array Value → State → Prop} {Qc : Array Value → State → Outcome → State → Prop} {free : Addr → Prop} {Ts : List Cond} {own C : String} {b : Addr} {As rest : List Value} {g : JFrame}
    (S : CallFix p m c cc nL s args Ts own) (hM : Met l y ws rm Pc Qc mc ms free) (cw : vx_CVW R s args own C index y bytes maxL ret hh ws rm mc ms n) (hp : PreV s H C b Pc As)
    (hg : g.method = m) (hn : As.length = n) (hsize : g.locals.size = nL) (hstack : g.stack = As.reverse ++ .ref b :: rest) (hW : 2 * g.monitorRoom + (rest.map fun v => v.category).sum ≤ 8) (hdg : decode cc g.pc = .ok (.invokevirtual index, 3)) (hf : cells + mc ≤ R.cells ∧ slots + ms ≤ R.slots) :
    va_Run p l e R s m args below meth c H locs cells slots mc ms g rest (Qc (Value.ref b :: As).toArray) free := by
  obtain ⟨⟨hrc, hrs, hfr, hlo, hws, hcw⟩, hcode, hini, hy, hlen, hl, hin, hse⟩ := cw
  have hK : Back l R p e below s args y 3 8 (PreOf R mc ms Pc) (PostOf Qc mc ms free) := va_backW (hh := hh) (bytes := bytes) (maxL := maxL) (ret := ret) hM hp.1 hrc hrs hfr hlo hws hcw (fun a' U hW => word_at hW (Or.inl (by first | rfl | simp [Cond.onTables, Cond.keeps, Cond.steady])) hini)
  obtain ⟨hx, hb, hml, ho, -⟩ := S
  obtain ⟨-, ⟨cellB, hcB, hoB, hclB⟩, hPc⟩ := hp
  intro T hT X
  obtain ⟨v, vm₁, ⟨U', l2, c2, s2⟩, hW₁, X', ⟨g', mk, t, L, e1, e2, hq, h1, hL, h2, h3⟩, st⟩ := vx_callVW X hx (C := C) (hh := hh) (bytes := bytes) (maxL := maxL) (ret := ret) ho hl hin hse hcode hy hK (by rw [hT]; exact hcB) hoB hclB hg (hsize.trans hml.symm) (argsL := As) (rest := rest) (fun sig h => hn.trans (hlen sig h)) hstack hW (by rw [hb]; exact hdg)
    (fun vm₁ hW₁ => ⟨hf.1, hf.2, hPc (T.setVm vm₁) hT hW₁⟩)
  dsimp only [Pt.U, Pt.locs, Pt.cells, Pt.slots] at X' e1 e2 h1 h2 h3 st
  subst h1; subst h2; subst h3
  exact ⟨v, (T.setVm vm₁).calling g' mk (Value.ref b :: As).toArray, t, U', L, hT, X', hL, e1, e2, hq, st⟩
section
variable {y : MethodName} {bytes cc : ByteArray} {maxL nL mc ms n index : Nat} {ret : Option FieldType} {ws : List Cond} {rm : Room} {Pc : Array Value → State → Prop} {Qc : Array Value → State → Outcome → State → Prop} {XC : String → State → State → Prop} {free : Addr → Prop} {Ts : List Cond} {own C : String} {b : Addr} {As rest : List Value} {g : JFrame}
theorem vx_runVX {hh : List (Nat × Nat × Nat × Nat)} (S : CallFix p m c cc nL s args Ts own) (hM : vx_Met l y ws rm Pc Qc XC mc ms free) (cw : vx_CVW R s args own C index y bytes maxL ret hh ws rm mc ms n) (hp : PreV s H C b Pc As)
    (hg : g.method = m) (hn : As.length = n) (hsize : g.locals.size = nL) (hstack : g.stack = As.reverse ++ .ref b :: rest) (hW : 2 * g.monitorRoom + (rest.map fun v => v.category).sum ≤ 8) (hdg : decode cc g.pc = .ok (.invokevirtual index, 3)) (hf : cells + mc ≤ R.cells ∧ slots + ms ≤ R.slots) :
    vx_Run p l e R s m args below meth c H locs cells slots mc ms g rest (Qc (Value.ref b :: As).toArray) XC free := by
  obtain ⟨⟨hrc, hrs, hfr, hlo, hws, hcw⟩, hcode, hini, hy, hlen, hl, hin, hse⟩ := cw
  have hK : vx_Back l R p e below s args y 3 8 (PreOf R mc ms Pc) (PostOf Qc mc ms free) (vx_Post XC mc ms free) := vx_backW (hh := hh) (bytes := bytes) (maxL := maxL) (ret := ret) hM hp.1 hrc hrs hfr hlo hws hcw (fun a' U hW => word_at hW (Or.inl (by first | rfl | simp [Cond.onTables, Cond.keeps, Cond.steady])) hini)
  obtain ⟨hx, hb, hml, ho, -⟩ := S
  obtain ⟨-, ⟨cellB, hcB, hoB, hclB⟩, hPc⟩ := hp
  intro T hT X
  rcases vx_callVX X hx (C := C) (hh := hh) (bytes := bytes) (maxL := maxL) (ret := ret) ho hl hin hse hcode hy hK (by rw [hT]; exact hcB) hoB hclB hg (hsize.trans hml.symm) (argsL := As) (rest := rest) (fun sig h => hn.trans (hlen sig h)) hstack hW (by rw [hb]; exact hdg)
    (fun vm₁ hW₁ => ⟨hf.1, hf.2, hPc (T.setVm vm₁) hT hW₁⟩) with ⟨v, vm₁, ⟨U', l2, c2, s2⟩, hW₁, X', ⟨g', mk, t, L, e1, e2, hq, h1, hL, h2, h3⟩, st⟩ | ⟨q, vm₁, ⟨U', l2, c2, s2⟩, hW₁, X', ⟨g', mk, t, L, E, ce, e1, e2, hq, hce, hcv, hcl, h1, hL, h2, h3⟩, st⟩
  · dsimp only [Pt.U, Pt.locs, Pt.cells, Pt.slots] at X' e1 e2 h1 h2 h3 st
    subst h1; subst h2; subst h3
    exact Or.inl ⟨v, (T.setVm vm₁).calling g' mk (Value.ref b :: As).toArray, t, U', L, hT, X', hL, e1, e2, hq, st⟩
  · dsimp only [Pt.U, Pt.locs, Pt.cells, Pt.slots] at X' e1 e2 h1 h2 h3 st hcl
    subst h1; subst h2; subst h3
    exact Or.inr ⟨q, (T.setVm vm₁).calling g' mk (Value.ref b :: As).toArray, t, U', L, E, ce, hT, X', hL, e1, e2, hq, hce, hcv, vx_cls hW₁ hcl, st⟩
theorem vx_runSX {hh : List (Nat × Nat × Nat × Nat)} (S : CallFix p m c cc nL s args Ts own) (hM : vx_Met l y ws rm Pc Qc XC mc ms free) (cw : vx_CSW R s args own index y bytes maxL ret hh ws rm mc ms n) (hp : PreS s H Pc As)
    (hg : g.method = m) (hn : As.length = n) (hsize : g.locals.size = nL) (hstack : g.stack = As.reverse ++ rest) (hW : 2 * g.monitorRoom + (rest.map fun v => v.category).sum ≤ 8) (hdg : decode cc g.pc = .ok (.invokestatic index, 3)) (hf : cells + mc ≤ R.cells ∧ slots + ms ≤ R.slots) :
    vx_Run p l e R s m args below meth c H locs cells slots mc ms g rest (Qc As.toArray) XC free := by
  obtain ⟨⟨hrc, hrs, hfr, hlo, hws, hcw⟩, hcode, hini, hy, hlen, hl, hstt⟩ := cw
  have hK : vx_Back l R p e below s args y 3 8 (PreOf R mc ms Pc) (PostOf Qc mc ms free) (vx_Post XC mc ms free) := vx_backW (hh := hh) (bytes := bytes) (maxL := maxL) (ret := ret) hM hp.1 hrc hrs hfr hlo hws hcw (fun a' U hW => word_at hW (Or.inl (by first | rfl | simp [Cond.onTables, Cond.keeps, Cond.steady])) hini)
  obtain ⟨hx, hb, hml, ho, -⟩ := S
  intro T hT X
  rcases vx_callSX X hx (hh := hh) (bytes := bytes) (maxL := maxL) (ret := ret) ho hl hstt hini hcode hy hK hg (hsize.trans hml.symm) (argsL := As) (rest := rest) (fun sig h => hn.trans (hlen sig h)) hstack hW (by rw [hb]; exact hdg)
    (fun vm₁ hW₁ => ⟨hf.1, hf.2, hp.2 (T.setVm vm₁) hT hW₁⟩) with ⟨v, vm₁, ⟨U', l2, c2, s2⟩, hW₁, X', ⟨g', mk, t, L, e1, e2, hq, h1, hL, h2, h3⟩, st⟩ | ⟨q, vm₁, ⟨U', l2, c2, s2⟩, hW₁, X', ⟨g', mk, t, L, E, ce, e1, e2, hq, hce, hcv, hcl, h1, hL, h2, h3⟩, st⟩
  · dsimp only [Pt.U, Pt.locs, Pt.cells, Pt.slots] at X' e1 e2 h1 h2 h3 st
    subst h1; subst h2; subst h3
    exact Or.inl ⟨v, (T.setVm vm₁).calling g' mk As.toArray, t, U', L, hT, X', hL, e1, e2, hq, st⟩
  · dsimp only [Pt.U, Pt.locs, Pt.cells, Pt.slots] at X' e1 e2 h1 h2 h3 st hcl
    subst h1; subst h2; subst h3
    exact Or.inr ⟨q, (T.setVm vm₁).calling g' mk As.toArray, t, U', L, E, ce, hT, X', hL, e1, e2, hq, hce, hcv, vx_cls hW₁ hcl, st⟩
end
end VXH
theorem vx_ofWH {l : Launch} {y : MethodName} {ws ws' : List Cond} {rm : Room} {Pc : Array Value → State → Prop} {Qc : Array Value → State → Outcome → State → Prop} {XC : String → State → State → Prop} {mc ms : Nat} {free : Addr → Prop} {cc : ByteArray} {maxL : Nat} {ret : Option FieldType} {hh : List (Nat × Nat × Nat × Nat)}
    (hy : plainName y.cls = true) (hw : ws = Cond.codeWith y cc maxL ret hh :: ws')
    (body : ∀ p e s m args below meth c s₁, BodyLoose p l y (headSpec ws rm) cc maxL ret e s m args below meth c s₁ → c.maxLocals = maxL → Pc args s →
      W p l e (headSpec ws rm).room s m args below meth c s.heap [] 0 0 (vx_MQ below Qc XC args s mc ms free) (entryFrame m args maxL)) : vx_Met l y ws rm Pc Qc XC mc ms free := by
  refine MetFree.of_bodyS (code := cc) (maxLocals := maxL) (ret := ret) hy ?_ ?_
  · intro args s m h hn
    obtain ⟨m9, meth, c, hn9, h1, h2, h3, h4, -, h5, h6, -⟩ := Cond.codeWith_spec (atoms_spec (ws := ws) h _ (by rw [hw]; exact List.mem_cons_self))
    cases hn.symm.trans hn9
    exact ⟨meth, c, h1, h2, h3, h4, h5, h6⟩
  · intro p e s m args below meth c s₁ B hml hP _
    have hh0 : s₁.heap = s.heap := by rw [B.state]; rfl
    obtain ⟨t, a1, o, b1, b2, b3⟩ := body p e s m args below meth c s₁ B hml hP s₁ hh0 (Stand.of_body B)
    exact ⟨t, o, a1, b1, b2, b3⟩
/-! ===== END ===== -/
end
section
/-! ===== BEGIN printed: names, fields, word lists, decode rows ===== -/
def RX0 : String := "ParserParlour$Meaning"
def TX0 : u_T := fun k => match k with
  | 0 => ("ParserParlour$Meaning", "world", "LParserParlour$World;", true)
  | 1 => ("ParserParlour$Meaning", "order", "LParserParlour$Order;", true)
  | 2 => ("ParserParlour$Meaning", "memory", "LParserParlour$Memory;", true)
  | 3 => ("ParserParlour$Meaning", "reach", "I", false)
  | 4 => ("ParserParlour$Meaning", "result", "I", false)
  | 5 => ("ParserParlour$Meaning", "group", "I", false)
  | 6 => ("ParserParlour$Meaning", "target", "I", false)
  | 7 => ("ParserParlour$Meaning", "openPhrase", "I", false)
  | _ => ("ParserParlour$Meaning", "choice", "I", false)
def tyX0 : Nat → FieldType := fun k => match k with
  | 0 => .object "ParserParlour$World"
  | 1 => .object "ParserParlour$Order"
  | 2 => .object "ParserParlour$Memory"
  | 3 => .int
  | 4 => .int
  | 5 => .int
  | 6 => .int
  | 7 => .int
  | _ => .int
abbrev wsX00 : List Cond := u_ws RX0 TX0 9
theorem nmX0 : ∀ a, a < 9 → ∀ b, b < 9 → a ≠ b → (TX0 a).2.1 ≠ (TX0 b).2.1 := by decide +kernel
theorem tyX0_ok : ∀ k, k < 9 → parseFieldDescriptor (TX0 k).2.2.1 = some (tyX0 k) := by decide +kernel
abbrev cX0_init : ByteArray := prog_2_method_1_code
def yX0_init : MethodName := ⟨RX0, "<init>", "(LParserParlour$World;LParserParlour$Order;LParserParlour$Memory;)V"⟩
abbrev cX0_start : ByteArray := prog_2_method_2_code
def yX0_start : MethodName := ⟨RX0, "start", "(I)V"⟩
abbrev cX0_find : ByteArray := prog_2_method_3_code
def yX0_find : MethodName := ⟨RX0, "find", "()I"⟩
abbrev cX0_onlyOf : ByteArray := prog_2_method_4_code
def yX0_onlyOf : MethodName := ⟨RX0, "onlyOf", "(I)I"⟩
abbrev cX0_findPart : ByteArray := prog_2_method_5_code
def yX0_findPart : MethodName := ⟨RX0, "findPart", "(II)I"⟩
abbrev cX0_findSingle : ByteArray := prog_2_method_6_code
def yX0_findSingle : MethodName := ⟨RX0, "findSingle", "(II)I"⟩
abbrev cX0_fitting : ByteArray := prog_2_method_7_code
def yX0_fitting : MethodName := ⟨RX0, "fitting", "(I)I"⟩
abbrev cX0_orNothing : ByteArray := prog_2_method_8_code
def yX0_orNothing : MethodName := ⟨RX0, "orNothing", "(II)I"⟩
abbrev cX0_ask : ByteArray := prog_2_method_9_code
def yX0_ask : MethodName := ⟨RX0, "ask", "(II)I"⟩
def RX1 : String := "ParserParlour$Memory"
def TX1 : u_T := fun k => match k with
  | 0 => ("ParserParlour$Memory", "lastVerb", "I", false)
  | 1 => ("ParserParlour$Memory", "lastMeant", "I", false)
  | 2 => ("ParserParlour$Memory", "lastDone", "I", false)
  | 3 => ("ParserParlour$Memory", "lastTarget", "I", false)
  | _ => ("ParserParlour$Memory", "lastAlone", "I", false)
def tyX1 : Nat → FieldType := fun k => match k with
  | 0 => .int
  | 1 => .int
  | 2 => .int
  | 3 => .int
  | _ => .int
abbrev wsX10 : List Cond := u_ws RX1 TX1 5
theorem nmX1 : ∀ a, a < 5 → ∀ b, b < 5 → a ≠ b → (TX1 a).2.1 ≠ (TX1 b).2.1 := by decide +kernel
theorem tyX1_ok : ∀ k, k < 5 → parseFieldDescriptor (TX1 k).2.2.1 = some (tyX1 k) := by decide +kernel
abbrev cX1_init : ByteArray := prog_3_method_1_code
def yX1_init : MethodName := ⟨RX1, "<init>", "()V"⟩
abbrev cX1_keep : ByteArray := prog_3_method_2_code
def yX1_keep : MethodName := ⟨RX1, "keep", "(IIII)V"⟩
def RX2 : String := "ParserParlour$Order"
def TX2 : u_T := fun k => match k with
  | 0 => ("ParserParlour$Order", "orderVerb", "I", false)
  | 1 => ("ParserParlour$Order", "count", "I", false)
  | 2 => ("ParserParlour$Order", "roles", "[I", true)
  | 3 => ("ParserParlour$Order", "kinds", "[I", true)
  | 4 => ("ParserParlour$Order", "adjectiveSets", "[I", true)
  | 5 => ("ParserParlour$Order", "nouns", "[I", true)
  | 6 => ("ParserParlour$Order", "lastPlaces", "[I", true)
  | _ => ("ParserParlour$Order", "answers", "[I", true)
def tyX2 : Nat → FieldType := fun k => match k with
  | 0 => .int
  | 1 => .int
  | 2 => .array .int
  | 3 => .array .int
  | 4 => .array .int
  | 5 => .array .int
  | 6 => .array .int
  | _ => .array .int
abbrev wsX20 : List Cond := u_ws RX2 TX2 8
theorem nmX2 : ∀ a, a < 8 → ∀ b, b < 8 → a ≠ b → (TX2 a).2.1 ≠ (TX2 b).2.1 := by decide +kernel
theorem tyX2_ok : ∀ k, k < 8 → parseFieldDescriptor (TX2 k).2.2.1 = some (tyX2 k) := by decide +kernel
abbrev cX2_init : ByteArray := prog_4_method_1_code
def yX2_init : MethodName := ⟨RX2, "<init>", "()V"⟩
abbrev cX2_read : ByteArray := prog_4_method_2_code
def yX2_read : MethodName := ⟨RX2, "read", "(LParserParlour$Words;)Z"⟩
abbrev cX2_readPart : ByteArray := prog_4_method_3_code
def yX2_readPart : MethodName := ⟨RX2, "readPart", "(LParserParlour$Words;)Z"⟩
abbrev cX2_readSingle : ByteArray := prog_4_method_4_code
def yX2_readSingle : MethodName := ⟨RX2, "readSingle", "(LParserParlour$Words;I)Z"⟩
abbrev cX2_readHead : ByteArray := prog_4_method_5_code
def yX2_readHead : MethodName := ⟨RX2, "readHead", "(LParserParlour$Words;I)Z"⟩
abbrev cX2_nextSingleRole : ByteArray := prog_4_method_6_code
def yX2_nextSingleRole : MethodName := ⟨RX2, "nextSingleRole", "()I"⟩
abbrev cX2_add : ByteArray := prog_4_method_7_code
def yX2_add : MethodName := ⟨RX2, "add", "(IILParserParlour$Words;)Z"⟩
abbrev cX2_hasPhrase : ByteArray := prog_4_method_8_code
def yX2_hasPhrase : MethodName := ⟨RX2, "hasPhrase", "(I)Z"⟩
abbrev cX2_roleOf : ByteArray := prog_4_method_9_code
def yX2_roleOf : MethodName := ⟨RX2, "roleOf", "(I)I"⟩
abbrev cX2_lastPlaceOf : ByteArray := prog_4_method_10_code
def yX2_lastPlaceOf : MethodName := ⟨RX2, "lastPlaceOf", "(I)I"⟩
abbrev cX2_answer : ByteArray := prog_4_method_11_code
def yX2_answer : MethodName := ⟨RX2, "answer", "(II)V"⟩
def RX3 : String := "ParserParlour$Words"
def TX3 : u_T := fun k => match k with
  | 0 => ("ParserParlour$Words", "given", "[I", true)
  | 1 => ("ParserParlour$Words", "count", "I", false)
  | 2 => ("ParserParlour$Words", "place", "I", false)
  | 3 => ("ParserParlour$Words", "adjectives", "I", false)
  | _ => ("ParserParlour$Words", "noun", "I", false)
def tyX3 : Nat → FieldType := fun k => match k with
  | 0 => .array .int
  | 1 => .int
  | 2 => .int
  | 3 => .int
  | _ => .int
abbrev wsX30 : List Cond := u_ws RX3 TX3 5
theorem nmX3 : ∀ a, a < 5 → ∀ b, b < 5 → a ≠ b → (TX3 a).2.1 ≠ (TX3 b).2.1 := by decide +kernel
theorem tyX3_ok : ∀ k, k < 5 → parseFieldDescriptor (TX3 k).2.2.1 = some (tyX3 k) := by decide +kernel
abbrev cX3_init : ByteArray := prog_5_method_1_code
def yX3_init : MethodName := ⟨RX3, "<init>", "()V"⟩
abbrev cX3_clear : ByteArray := prog_5_method_2_code
def yX3_clear : MethodName := ⟨RX3, "clear", "()V"⟩
abbrev cX3_add : ByteArray := prog_5_method_3_code
def yX3_add : MethodName := ⟨RX3, "add", "(I)V"⟩
abbrev cX3_removeLast : ByteArray := prog_5_method_4_code
def yX3_removeLast : MethodName := ⟨RX3, "removeLast", "()I"⟩
abbrev cX3_atEnd : ByteArray := prog_5_method_5_code
def yX3_atEnd : MethodName := ⟨RX3, "atEnd", "()Z"⟩
abbrev cX3_peek : ByteArray := prog_5_method_6_code
def yX3_peek : MethodName := ⟨RX3, "peek", "()I"⟩
abbrev cX3_accept : ByteArray := prog_5_method_7_code
def yX3_accept : MethodName := ⟨RX3, "accept", "(I)Z"⟩
abbrev cX3_readAdjectives : ByteArray := prog_5_method_8_code
def yX3_readAdjectives : MethodName := ⟨RX3, "readAdjectives", "()V"⟩
abbrev cX3_acceptNoun : ByteArray := prog_5_method_9_code
def yX3_acceptNoun : MethodName := ⟨RX3, "acceptNoun", "(I)Z"⟩
abbrev cX3_readAnswer : ByteArray := prog_5_method_10_code
def yX3_readAnswer : MethodName := ⟨RX3, "readAnswer", "()Z"⟩
def RX4 : String := "ParserParlour$World"
def TX4 : u_T := fun k => match k with
  | 0 => ("ParserParlour$World", "nouns", "[I", true)
  | 1 => ("ParserParlour$World", "adjectiveSets", "[I", true)
  | 2 => ("ParserParlour$World", "holders", "[I", true)
  | 3 => ("ParserParlour$World", "count", "I", false)
  | 4 => ("ParserParlour$World", "boxes", "I", false)
  | _ => ("ParserParlour$World", "openBoxes", "I", false)
def tyX4 : Nat → FieldType := fun k => match k with
  | 0 => .array .int
  | 1 => .array .int
  | 2 => .array .int
  | 3 => .int
  | 4 => .int
  | _ => .int
abbrev wsX40 : List Cond := u_ws RX4 TX4 6
theorem nmX4 : ∀ a, a < 6 → ∀ b, b < 6 → a ≠ b → (TX4 a).2.1 ≠ (TX4 b).2.1 := by decide +kernel
theorem tyX4_ok : ∀ k, k < 6 → parseFieldDescriptor (TX4 k).2.2.1 = some (tyX4 k) := by decide +kernel
abbrev cX4_init : ByteArray := prog_6_method_1_code
def yX4_init : MethodName := ⟨RX4, "<init>", "()V"⟩
abbrev cX4_add : ByteArray := prog_6_method_2_code
def yX4_add : MethodName := ⟨RX4, "add", "(IIZ)I"⟩
abbrev cX4_has : ByteArray := prog_6_method_3_code
def yX4_has : MethodName := ⟨RX4, "has", "(I)Z"⟩
abbrev cX4_holderOf : ByteArray := prog_6_method_4_code
def yX4_holderOf : MethodName := ⟨RX4, "holderOf", "(I)I"⟩
abbrev cX4_reachable : ByteArray := prog_6_method_5_code
def yX4_reachable : MethodName := ⟨RX4, "reachable", "()I"⟩
abbrev cX4_described : ByteArray := prog_6_method_6_code
def yX4_described : MethodName := ⟨RX4, "described", "(III)I"⟩
abbrev cX4_suited : ByteArray := prog_6_method_7_code
def yX4_suited : MethodName := ⟨RX4, "suited", "(I)I"⟩
abbrev cX4_held : ByteArray := prog_6_method_8_code
def yX4_held : MethodName := ⟨RX4, "held", "()I"⟩
abbrev cX4_perform : ByteArray := prog_6_method_9_code
def yX4_perform : MethodName := ⟨RX4, "perform", "(III)Z"⟩
abbrev cX4_isWithin : ByteArray := prog_6_method_10_code
def yX4_isWithin : MethodName := ⟨RX4, "isWithin", "(II)Z"⟩
def RX5 : String := "ParserParlour"
def TX5 : u_T := fun k => match k with
  | 0 => ("ParserParlour", "world", "LParserParlour$World;", true)
  | 1 => ("ParserParlour", "words", "LParserParlour$Words;", true)
  | 2 => ("ParserParlour", "order", "LParserParlour$Order;", true)
  | 3 => ("ParserParlour", "memory", "LParserParlour$Memory;", true)
  | 4 => ("ParserParlour", "meaning", "LParserParlour$Meaning;", true)
  | 5 => ("ParserParlour", "lastOutcome", "I", false)
  | 6 => ("ParserParlour", "wrongPlace", "I", false)
  | 7 => ("ParserParlour", "askedThings", "I", false)
  | 8 => ("ParserParlour", "askedPhrase", "I", false)
  | _ => ("ParserParlour", "questionCount", "I", false)
def tyX5 : Nat → FieldType := fun k => match k with
  | 0 => .object "ParserParlour$World"
  | 1 => .object "ParserParlour$Words"
  | 2 => .object "ParserParlour$Order"
  | 3 => .object "ParserParlour$Memory"
  | 4 => .object "ParserParlour$Meaning"
  | 5 => .int
  | 6 => .int
  | 7 => .int
  | 8 => .int
  | _ => .int
abbrev wsX50 : List Cond := u_ws RX5 TX5 10
theorem nmX5 : ∀ a, a < 10 → ∀ b, b < 10 → a ≠ b → (TX5 a).2.1 ≠ (TX5 b).2.1 := by decide +kernel
theorem tyX5_ok : ∀ k, k < 10 → parseFieldDescriptor (TX5 k).2.2.1 = some (tyX5 k) := by decide +kernel
abbrev cX5_init : ByteArray := prog_1_method_1_code
def yX5_init : MethodName := ⟨RX5, "<init>", "()V"⟩
abbrev cX5_thing : ByteArray := prog_1_method_2_code
def yX5_thing : MethodName := ⟨RX5, "thing", "(IIZ)I"⟩
abbrev cX5_placeOf : ByteArray := prog_1_method_3_code
def yX5_placeOf : MethodName := ⟨RX5, "placeOf", "(I)I"⟩
abbrev cX5_isOpen : ByteArray := prog_1_method_4_code
def yX5_isOpen : MethodName := ⟨RX5, "isOpen", "(I)Z"⟩
abbrev cX5_inReach : ByteArray := prog_1_method_5_code
def yX5_inReach : MethodName := ⟨RX5, "inReach", "()I"⟩
abbrev cX5_word : ByteArray := prog_1_method_6_code
def yX5_word : MethodName := ⟨RX5, "word", "(I)I"⟩
abbrev cX5_back : ByteArray := prog_1_method_7_code
def yX5_back : MethodName := ⟨RX5, "back", "()I"⟩
abbrev cX5_say : ByteArray := prog_1_method_8_code
def yX5_say : MethodName := ⟨RX5, "say", "()I"⟩
abbrev cX5_outcome : ByteArray := prog_1_method_9_code
def yX5_outcome : MethodName := ⟨RX5, "outcome", "()I"⟩
abbrev cX5_wrongAt : ByteArray := prog_1_method_10_code
def yX5_wrongAt : MethodName := ⟨RX5, "wrongAt", "()I"⟩
abbrev cX5_verb : ByteArray := prog_1_method_11_code
def yX5_verb : MethodName := ⟨RX5, "verb", "()I"⟩
abbrev cX5_meant : ByteArray := prog_1_method_12_code
def yX5_meant : MethodName := ⟨RX5, "meant", "()I"⟩
abbrev cX5_done : ByteArray := prog_1_method_13_code
def yX5_done : MethodName := ⟨RX5, "done", "()I"⟩
abbrev cX5_into : ByteArray := prog_1_method_14_code
def yX5_into : MethodName := ⟨RX5, "into", "()I"⟩
abbrev cX5_asked : ByteArray := prog_1_method_15_code
def yX5_asked : MethodName := ⟨RX5, "asked", "()I"⟩
abbrev cX5_askedAt : ByteArray := prog_1_method_16_code
def yX5_askedAt : MethodName := ⟨RX5, "askedAt", "()I"⟩
abbrev cX5_questions : ByteArray := prog_1_method_17_code
def yX5_questions : MethodName := ⟨RX5, "questions", "()I"⟩
abbrev cX5_hearOrder : ByteArray := prog_1_method_18_code
def yX5_hearOrder : MethodName := ⟨RX5, "hearOrder", "()I"⟩
abbrev cX5_hearAnswer : ByteArray := prog_1_method_19_code
def yX5_hearAnswer : MethodName := ⟨RX5, "hearAnswer", "()I"⟩
abbrev cX5_dropQuestion : ByteArray := prog_1_method_20_code
def yX5_dropQuestion : MethodName := ⟨RX5, "dropQuestion", "()V"⟩
abbrev cX5_lookAtOrder : ByteArray := prog_1_method_21_code
def yX5_lookAtOrder : MethodName := ⟨RX5, "lookAtOrder", "()I"⟩
abbrev cX5_carryOut : ByteArray := prog_1_method_22_code
def yX5_carryOut : MethodName := ⟨RX5, "carryOut", "()V"⟩
abbrev cX5_contains : ByteArray := prog_1_method_23_code
def yX5_contains : MethodName := ⟨RX5, "contains", "(II)Z"⟩
abbrev cX5_isBetween : ByteArray := prog_1_method_24_code
def yX5_isBetween : MethodName := ⟨RX5, "isBetween", "(III)Z"⟩
abbrev cX5_isVerb : ByteArray := prog_1_method_25_code
def yX5_isVerb : MethodName := ⟨RX5, "isVerb", "(I)Z"⟩
abbrev cX5_isWord : ByteArray := prog_1_method_26_code
def yX5_isWord : MethodName := ⟨RX5, "isWord", "(I)Z"⟩
def RX6 : String := "ParserParlourModel"
def TX6 : u_T := fun k => match k with
  | 0 => ("ParserParlourModel", "things", "I", false)
  | 1 => ("ParserParlourModel", "noun", "[I", true)
  | 2 => ("ParserParlourModel", "adjectives", "[I", true)
  | 3 => ("ParserParlourModel", "box", "[Z", true)
  | 4 => ("ParserParlourModel", "open", "[Z", true)
  | 5 => ("ParserParlourModel", "place", "[I", true)
  | 6 => ("ParserParlourModel", "count", "I", false)
  | 7 => ("ParserParlourModel", "words", "[I", true)
  | 8 => ("ParserParlourModel", "outcome", "I", false)
  | 9 => ("ParserParlourModel", "wrongAt", "I", false)
  | 10 => ("ParserParlourModel", "verb", "I", false)
  | 11 => ("ParserParlourModel", "meant", "I", false)
  | 12 => ("ParserParlourModel", "done", "I", false)
  | 13 => ("ParserParlourModel", "into", "I", false)
  | 14 => ("ParserParlourModel", "it", "I", false)
  | 15 => ("ParserParlourModel", "questions", "I", false)
  | 16 => ("ParserParlourModel", "length", "I", false)
  | 17 => ("ParserParlourModel", "order", "[I", true)
  | 18 => ("ParserParlourModel", "answer", "[I", true)
  | 19 => ("ParserParlourModel", "asked", "I", false)
  | 20 => ("ParserParlourModel", "askedAt", "I", false)
  | 21 => ("ParserParlourModel", "at", "I", false)
  | 22 => ("ParserParlourModel", "failedAt", "I", false)
  | 23 => ("ParserParlourModel", "choice", "I", false)
  | _ => ("ParserParlourModel", "thrown", "I", false)
def tyX6 : Nat → FieldType := fun k => match k with
  | 0 => .int
  | 1 => .array .int
  | 2 => .array .int
  | 3 => .array .boolean
  | 4 => .array .boolean
  | 5 => .array .int
  | 6 => .int
  | 7 => .array .int
  | 8 => .int
  | 9 => .int
  | 10 => .int
  | 11 => .int
  | 12 => .int
  | 13 => .int
  | 14 => .int
  | 15 => .int
  | 16 => .int
  | 17 => .array .int
  | 18 => .array .int
  | 19 => .int
  | 20 => .int
  | 21 => .int
  | 22 => .int
  | 23 => .int
  | _ => .int
abbrev wsX60 : List Cond := u_ws RX6 TX6 25
theorem nmX6 : ∀ a, a < 25 → ∀ b, b < 25 → a ≠ b → (TX6 a).2.1 ≠ (TX6 b).2.1 := by decide +kernel
theorem tyX6_ok : ∀ k, k < 25 → parseFieldDescriptor (TX6 k).2.2.1 = some (tyX6 k) := by decide +kernel
abbrev cX6_init : ByteArray := prog_8_method_1_code
def yX6_init : MethodName := ⟨RX6, "<init>", "()V"⟩
abbrev cX6_thrown : ByteArray := prog_8_method_2_code
def yX6_thrown : MethodName := ⟨RX6, "thrown", "()I"⟩
abbrev cX6_may : ByteArray := prog_8_method_3_code
def yX6_may : MethodName := ⟨RX6, "may", "(Z)Z"⟩
abbrev cX6_mayBoth : ByteArray := prog_8_method_4_code
def yX6_mayBoth : MethodName := ⟨RX6, "mayBoth", "(ZZ)Z"⟩
abbrev cX6_thing : ByteArray := prog_8_method_5_code
def yX6_thing : MethodName := ⟨RX6, "thing", "(IIZ)I"⟩
abbrev cX6_isThing : ByteArray := prog_8_method_6_code
def yX6_isThing : MethodName := ⟨RX6, "isThing", "(I)Z"⟩
abbrev cX6_placeOf : ByteArray := prog_8_method_7_code
def yX6_placeOf : MethodName := ⟨RX6, "placeOf", "(I)I"⟩
abbrev cX6_isOpen : ByteArray := prog_8_method_8_code
def yX6_isOpen : MethodName := ⟨RX6, "isOpen", "(I)Z"⟩
abbrev cX6_reaches : ByteArray := prog_8_method_9_code
def yX6_reaches : MethodName := ⟨RX6, "reaches", "(I)Z"⟩
abbrev cX6_isInside : ByteArray := prog_8_method_10_code
def yX6_isInside : MethodName := ⟨RX6, "isInside", "(II)Z"⟩
abbrev cX6_reachable : ByteArray := prog_8_method_11_code
def yX6_reachable : MethodName := ⟨RX6, "reachable", "()I"⟩
abbrev cX6_inReach : ByteArray := prog_8_method_12_code
def yX6_inReach : MethodName := ⟨RX6, "inReach", "()I"⟩
abbrev cX6_suits : ByteArray := prog_8_method_13_code
def yX6_suits : MethodName := ⟨RX6, "suits", "(II)Z"⟩
abbrev cX6_suited : ByteArray := prog_8_method_14_code
def yX6_suited : MethodName := ⟨RX6, "suited", "(II)I"⟩
abbrev cX6_having : ByteArray := prog_8_method_15_code
def yX6_having : MethodName := ⟨RX6, "having", "(III)I"⟩
abbrev cX6_bits : ByteArray := prog_8_method_16_code
def yX6_bits : MethodName := ⟨RX6, "bits", "(I)I"⟩
abbrev cX6_lowest : ByteArray := prog_8_method_17_code
def yX6_lowest : MethodName := ⟨RX6, "lowest", "(I)I"⟩
abbrev cX6_isVerb : ByteArray := prog_8_method_18_code
def yX6_isVerb : MethodName := ⟨RX6, "isVerb", "(I)Z"⟩
abbrev cX6_isAdjective : ByteArray := prog_8_method_19_code
def yX6_isAdjective : MethodName := ⟨RX6, "isAdjective", "(I)Z"⟩
abbrev cX6_isNoun : ByteArray := prog_8_method_20_code
def yX6_isNoun : MethodName := ⟨RX6, "isNoun", "(I)Z"⟩
abbrev cX6_isPlural : ByteArray := prog_8_method_21_code
def yX6_isPlural : MethodName := ⟨RX6, "isPlural", "(I)Z"⟩
abbrev cX6_word : ByteArray := prog_8_method_22_code
def yX6_word : MethodName := ⟨RX6, "word", "(I)I"⟩
abbrev cX6_back : ByteArray := prog_8_method_23_code
def yX6_back : MethodName := ⟨RX6, "back", "()I"⟩
abbrev cX6_phrase : ByteArray := prog_8_method_24_code
def yX6_phrase : MethodName := ⟨RX6, "phrase", "(III)I"⟩
abbrev cX6_wrongOrder : ByteArray := prog_8_method_25_code
def yX6_wrongOrder : MethodName := ⟨RX6, "wrongOrder", "()I"⟩
abbrev cX6_wrongAnswer : ByteArray := prog_8_method_26_code
def yX6_wrongAnswer : MethodName := ⟨RX6, "wrongAnswer", "()I"⟩
abbrev cX6_is : ByteArray := prog_8_method_27_code
def yX6_is : MethodName := ⟨RX6, "is", "(I)Z"⟩
abbrev cX6_endOf : ByteArray := prog_8_method_28_code
def yX6_endOf : MethodName := ⟨RX6, "endOf", "(I)I"⟩
abbrev cX6_adjectivesUpTo : ByteArray := prog_8_method_29_code
def yX6_adjectivesUpTo : MethodName := ⟨RX6, "adjectivesUpTo", "(II)I"⟩
abbrev cX6_fail : ByteArray := prog_8_method_30_code
def yX6_fail : MethodName := ⟨RX6, "fail", "(II)I"⟩
abbrev cX6_single : ByteArray := prog_8_method_31_code
def yX6_single : MethodName := ⟨RX6, "single", "(I)I"⟩
abbrev cX6_part : ByteArray := prog_8_method_32_code
def yX6_part : MethodName := ⟨RX6, "part", "()I"⟩
abbrev cX6_isSingleAt : ByteArray := prog_8_method_33_code
def yX6_isSingleAt : MethodName := ⟨RX6, "isSingleAt", "(I)Z"⟩
abbrev cX6_perform : ByteArray := prog_8_method_34_code
def yX6_perform : MethodName := ⟨RX6, "perform", "()I"⟩
abbrev cX6_failed : ByteArray := prog_8_method_35_code
def yX6_failed : MethodName := ⟨RX6, "failed", "()I"⟩
abbrev cX6_acts : ByteArray := prog_8_method_36_code
def yX6_acts : MethodName := ⟨RX6, "acts", "(I)Z"⟩
abbrev cX6_say : ByteArray := prog_8_method_37_code
def yX6_say : MethodName := ⟨RX6, "say", "()I"⟩
abbrev cX6_understand : ByteArray := prog_8_method_38_code
def yX6_understand : MethodName := ⟨RX6, "understand", "()I"⟩
abbrev cX6_outcome : ByteArray := prog_8_method_39_code
def yX6_outcome : MethodName := ⟨RX6, "outcome", "()I"⟩
abbrev cX6_wrongAt : ByteArray := prog_8_method_40_code
def yX6_wrongAt : MethodName := ⟨RX6, "wrongAt", "()I"⟩
abbrev cX6_verb : ByteArray := prog_8_method_41_code
def yX6_verb : MethodName := ⟨RX6, "verb", "()I"⟩
abbrev cX6_meant : ByteArray := prog_8_method_42_code
def yX6_meant : MethodName := ⟨RX6, "meant", "()I"⟩
abbrev cX6_done : ByteArray := prog_8_method_43_code
def yX6_done : MethodName := ⟨RX6, "done", "()I"⟩
abbrev cX6_into : ByteArray := prog_8_method_44_code
def yX6_into : MethodName := ⟨RX6, "into", "()I"⟩
abbrev cX6_asked : ByteArray := prog_8_method_45_code
def yX6_asked : MethodName := ⟨RX6, "asked", "()I"⟩
abbrev cX6_askedAt : ByteArray := prog_8_method_46_code
def yX6_askedAt : MethodName := ⟨RX6, "askedAt", "()I"⟩
abbrev cX6_questions : ByteArray := prog_8_method_47_code
def yX6_questions : MethodName := ⟨RX6, "questions", "()I"⟩
def RJ6 : String := "java/lang/Integer"
def TJ6 : u_T := fun k => match k with
  | _ => ("", "", "", false)
def tyJ6 : Nat → FieldType := fun k => match k with
  | _ => .int
abbrev wsJ60 : List Cond := u_ws RJ6 TJ6 0
theorem nmJ6 : ∀ a, a < 0 → ∀ b, b < 0 → a ≠ b → (TJ6 a).2.1 ≠ (TJ6 b).2.1 := by decide +kernel
theorem tyJ6_ok : ∀ k, k < 0 → parseFieldDescriptor (TJ6 k).2.2.1 = some (tyJ6 k) := by decide +kernel
abbrev cJ6_bitCount_0f7a4 : ByteArray := prog_13_method_49_code
def yJ6_bitCount_0f7a4 : MethodName := ⟨RJ6, "bitCount", "(I)I"⟩
def RJ0 : String := "java/lang/String"
def TJ0 : u_T := fun k => match k with
  | _ => ("", "", "", false)
def tyJ0 : Nat → FieldType := fun k => match k with
  | _ => .int
abbrev wsJ00 : List Cond := u_ws RJ0 TJ0 0
theorem nmJ0 : ∀ a, a < 0 → ∀ b, b < 0 → a ≠ b → (TJ0 a).2.1 ≠ (TJ0 b).2.1 := by decide +kernel
theorem tyJ0_ok : ∀ k, k < 0 → parseFieldDescriptor (TJ0 k).2.2.1 = some (tyJ0 k) := by decide +kernel
def RL : String := "ParserParlourLaw"
abbrev cL_thing : ByteArray := method_3_code
def yL_thing : MethodName := ⟨RL, "thing", "(LParserParlour;IIZ[J)I"⟩
abbrev cL_placeOf : ByteArray := method_4_code
def yL_placeOf : MethodName := ⟨RL, "placeOf", "(LParserParlour;I[J)I"⟩
abbrev cL_isOpen : ByteArray := method_5_code
def yL_isOpen : MethodName := ⟨RL, "isOpen", "(LParserParlour;I[J)I"⟩
abbrev cL_word : ByteArray := method_6_code
def yL_word : MethodName := ⟨RL, "word", "(LParserParlour;I[J)I"⟩
abbrev cL_back : ByteArray := method_7_code
def yL_back : MethodName := ⟨RL, "back", "(LParserParlour;[J)I"⟩
abbrev cL_law : ByteArray := code
def yL_law : MethodName := ⟨RL, "law", "([I)Z"⟩
def wsX0_start : List Cond := .code yX0_start cX0_start 2 none :: ([.fieldLink RX0 27 "ParserParlour$Meaning" "reach" "I", .fieldLink RX0 31 "ParserParlour$Meaning" "result" "I", .fieldLink RX0 34 "ParserParlour$Meaning" "group" "I", .fieldLink RX0 37 "ParserParlour$Meaning" "target" "I", .fieldLink RX0 40 "ParserParlour$Meaning" "openPhrase" "I", .fieldLink RX0 43 "ParserParlour$Meaning" "choice" "I"] ++ wsX00)
def wsX0_init : List Cond := .code yX0_init cX0_init 4 none :: ([.methodLink RX0 3 objectInit, .instanceMethod objectInit, .code objectInit ⟨#[0xb1]⟩ 1 none, .fieldLink RX0 9 "ParserParlour$Meaning" "world" "LParserParlour$World;", .fieldLink RX0 15 "ParserParlour$Meaning" "order" "LParserParlour$Order;", .fieldLink RX0 19 "ParserParlour$Meaning" "memory" "LParserParlour$Memory;", .methodLink RX0 23 yX0_start, .instanceMethod yX0_start, .selects RX0 yX0_start yX0_start, .initialized RX0, .code yX0_start cX0_start 2 none, .fieldLink RX0 27 "ParserParlour$Meaning" "reach" "I", .fieldLink RX0 31 "ParserParlour$Meaning" "result" "I", .fieldLink RX0 34 "ParserParlour$Meaning" "group" "I", .fieldLink RX0 37 "ParserParlour$Meaning" "target" "I", .fieldLink RX0 40 "ParserParlour$Meaning" "openPhrase" "I", .fieldLink RX0 43 "ParserParlour$Meaning" "choice" "I"] ++ wsX00)
def wsX4_holderOf : List Cond := .code yX4_holderOf cX4_holderOf 2 (some .int) :: ([.fieldLink RX4 21 "ParserParlour$World" "count" "I", .fieldLink RX4 18 "ParserParlour$World" "holders" "[I"] ++ wsX40)
def wsX5_contains : List Cond := .code yX5_contains cX5_contains 2 (some .boolean) :: ([])
def wsX4_reachable : List Cond := .code yX4_reachable cX4_reachable 5 (some .int) :: ([.fieldLink RX4 21 "ParserParlour$World" "count" "I", .fieldLink RX4 28 "ParserParlour$World" "openBoxes" "I", .methodLink RX4 31 yX4_holderOf, .instanceMethod yX4_holderOf, .selects RX4 yX4_holderOf yX4_holderOf, .initialized RX4, .code yX4_holderOf cX4_holderOf 2 (some .int), .fieldLink RX4 18 "ParserParlour$World" "holders" "[I", .static yX5_contains, .initialized RX5, .code yX5_contains cX5_contains 2 (some .boolean)] ++ wsX40)
def wsX4_held : List Cond := .code yX4_held cX4_held 3 (some .int) :: ([.fieldLink RX4 21 "ParserParlour$World" "count" "I", .fieldLink RX4 18 "ParserParlour$World" "holders" "[I"] ++ wsX40)
def wsX4_suited : List Cond := .code yX4_suited cX4_suited 3 (some .int) :: ([.fieldLink RX4 25 "ParserParlour$World" "boxes" "I", .fieldLink RX4 28 "ParserParlour$World" "openBoxes" "I", .methodLink RX4 39 yX4_reachable, .instanceMethod yX4_reachable, .selects RX4 yX4_reachable yX4_reachable, .initialized RX4, .code yX4_reachable cX4_reachable 5 (some .int), .fieldLink RX4 21 "ParserParlour$World" "count" "I", .methodLink RX4 31 yX4_holderOf, .instanceMethod yX4_holderOf, .selects RX4 yX4_holderOf yX4_holderOf, .code yX4_holderOf cX4_holderOf 2 (some .int), .fieldLink RX4 18 "ParserParlour$World" "holders" "[I", .static yX5_contains, .initialized RX5, .code yX5_contains cX5_contains 2 (some .boolean), .methodLink RX4 43 yX4_held, .instanceMethod yX4_held, .selects RX4 yX4_held yX4_held, .code yX4_held cX4_held 3 (some .int)] ++ wsX40)
def wsX2_hasPhrase : List Cond := .code yX2_hasPhrase cX2_hasPhrase 2 (some .boolean) :: ([.fieldLink RX2 15 "ParserParlour$Order" "count" "I"] ++ wsX20)
def wsX2_roleOf : List Cond := .code yX2_roleOf cX2_roleOf 2 (some .int) :: ([.fieldLink RX2 18 "ParserParlour$Order" "roles" "[I", .methodLink RX2 88 yX2_hasPhrase, .instanceMethod yX2_hasPhrase, .selects RX2 yX2_hasPhrase yX2_hasPhrase, .initialized RX2, .code yX2_hasPhrase cX2_hasPhrase 2 (some .boolean), .fieldLink RX2 15 "ParserParlour$Order" "count" "I"] ++ wsX20)
def wsX0_orNothing : List Cond := .code yX0_orNothing cX0_orNothing 3 (some .int) :: ([.fieldLink RX0 31 "ParserParlour$Meaning" "result" "I", .fieldLink RX0 40 "ParserParlour$Meaning" "openPhrase" "I"] ++ wsX00)
def wsX4_described : List Cond := .code yX4_described cX4_described 7 (some .int) :: ([.fieldLink RX4 21 "ParserParlour$World" "count" "I", .fieldLink RX4 9 "ParserParlour$World" "nouns" "[I", .fieldLink RX4 15 "ParserParlour$World" "adjectiveSets" "[I"] ++ wsX40)
def wsX0_fitting : List Cond := .code yX0_fitting cX0_fitting 2 (some .int) :: ([.fieldLink RX0 15 "ParserParlour$Meaning" "order" "LParserParlour$Order;", .fieldLink RX0 9 "ParserParlour$Meaning" "world" "LParserParlour$World;", .fieldLink RX0 27 "ParserParlour$Meaning" "reach" "I", .methodLink RX0 81 yX2_hasPhrase, .instanceMethod yX2_hasPhrase, .selects RX2 yX2_hasPhrase yX2_hasPhrase, .initialized RX2, .code yX2_hasPhrase cX2_hasPhrase 2 (some .boolean), .fieldLink RX2 15 "ParserParlour$Order" "count" "I", .methodLink RX0 120 yX4_described, .instanceMethod yX4_described, .selects RX4 yX4_described yX4_described, .initialized RX4, .code yX4_described cX4_described 7 (some .int), .fieldLink RX4 21 "ParserParlour$World" "count" "I", .fieldLink RX4 9 "ParserParlour$World" "nouns" "[I", .fieldLink RX4 15 "ParserParlour$World" "adjectiveSets" "[I"] ++ wsX00 ++ wsX20 ++ wsX40)
def wsJ6_bitCount_0f7a4 : List Cond := .code yJ6_bitCount_0f7a4 cJ6_bitCount_0f7a4 1 (some .int) :: ([.constant RJ6 265 (1431655765), .constant RJ6 266 (858993459), .constant RJ6 267 (252645135)])
def wsX0_ask : List Cond := .code yX0_ask cX0_ask 3 (some .int) :: ([.fieldLink RX0 31 "ParserParlour$Meaning" "result" "I", .fieldLink RX0 40 "ParserParlour$Meaning" "openPhrase" "I", .fieldLink RX0 43 "ParserParlour$Meaning" "choice" "I"] ++ wsX00)
def wsX0_findSingle_r1 : List Cond := [Cond.fieldLink RX0 15 "ParserParlour$Meaning" "order" "LParserParlour$Order;", Cond.fieldLink RX0 19 "ParserParlour$Meaning" "memory" "LParserParlour$Memory;", Cond.fieldLink RX0 27 "ParserParlour$Meaning" "reach" "I", Cond.methodLink RX0 81 yX2_hasPhrase, Cond.instanceMethod yX2_hasPhrase, Cond.selects RX2 yX2_hasPhrase yX2_hasPhrase, Cond.initialized RX2, Cond.code yX2_hasPhrase cX2_hasPhrase 2 (some .boolean), Cond.fieldLink RX2 15 "ParserParlour$Order" "count" "I", Cond.methodLink RX0 94 yX0_orNothing, Cond.instanceMethod yX0_orNothing, Cond.selects RX0 yX0_orNothing yX0_orNothing, Cond.initialized RX0, Cond.code yX0_orNothing cX0_orNothing 3 (some .int), Cond.fieldLink RX0 31 "ParserParlour$Meaning" "result" "I", Cond.fieldLink RX0 40 "ParserParlour$Meaning" "openPhrase" "I", Cond.methodLink RX0 97 yX0_fitting, Cond.instanceMethod yX0_fitting, Cond.selects RX0 yX0_fitting yX0_fitting, Cond.code yX0_fitting cX0_fitting 2 (some .int), Cond.fieldLink RX0 9 "ParserParlour$Meaning" "world" "LParserParlour$World;", Cond.methodLink RX0 120 yX4_described, Cond.instanceMethod yX4_described, Cond.selects RX4 yX4_described yX4_described]
def wsX0_findSingle_r2 : List Cond := [Cond.initialized RX4, Cond.code yX4_described cX4_described 7 (some .int), Cond.fieldLink RX4 21 "ParserParlour$World" "count" "I", Cond.fieldLink RX4 9 "ParserParlour$World" "nouns" "[I", Cond.fieldLink RX4 15 "ParserParlour$World" "adjectiveSets" "[I", Cond.methodLink RX0 106 yJ6_bitCount_0f7a4, Cond.static yJ6_bitCount_0f7a4, Cond.initialized RJ6, Cond.code yJ6_bitCount_0f7a4 cJ6_bitCount_0f7a4 1 (some .int), Cond.constant RJ6 265 (1431655765), Cond.constant RJ6 266 (858993459), Cond.constant RJ6 267 (252645135), Cond.methodLink RX0 111 yX0_ask, Cond.instanceMethod yX0_ask, Cond.selects RX0 yX0_ask yX0_ask, Cond.code yX0_ask cX0_ask 3 (some .int), Cond.fieldLink RX0 43 "ParserParlour$Meaning" "choice" "I"]
def wsX0_findSingle : List Cond := .code yX0_findSingle cX0_findSingle 5 (some .int) :: ((wsX0_findSingle_r1 ++ wsX0_findSingle_r2) ++ wsX00 ++ wsX20 ++ wsX10 ++ wsX40)
def wsX0_findPart_r1 : List Cond := [Cond.fieldLink RX0 15 "ParserParlour$Meaning" "order" "LParserParlour$Order;", Cond.fieldLink RX0 31 "ParserParlour$Meaning" "result" "I", Cond.fieldLink RX0 19 "ParserParlour$Meaning" "memory" "LParserParlour$Memory;", Cond.fieldLink RX0 27 "ParserParlour$Meaning" "reach" "I", Cond.methodLink RX0 64 yX2_roleOf, Cond.instanceMethod yX2_roleOf, Cond.selects RX2 yX2_roleOf yX2_roleOf, Cond.initialized RX2, Cond.code yX2_roleOf cX2_roleOf 2 (some .int), Cond.fieldLink RX2 18 "ParserParlour$Order" "roles" "[I", Cond.methodLink RX2 88 yX2_hasPhrase, Cond.instanceMethod yX2_hasPhrase, Cond.selects RX2 yX2_hasPhrase yX2_hasPhrase, Cond.code yX2_hasPhrase cX2_hasPhrase 2 (some .boolean), Cond.fieldLink RX2 15 "ParserParlour$Order" "count" "I", Cond.methodLink RX0 71 yX0_findSingle, Cond.instanceMethod yX0_findSingle, Cond.selects RX0 yX0_findSingle yX0_findSingle, Cond.initialized RX0, Cond.code yX0_findSingle cX0_findSingle 5 (some .int), Cond.methodLink RX0 81 yX2_hasPhrase, Cond.methodLink RX0 94 yX0_orNothing, Cond.instanceMethod yX0_orNothing, Cond.selects RX0 yX0_orNothing yX0_orNothing]
def wsX0_findPart_r2 : List Cond := [Cond.code yX0_orNothing cX0_orNothing 3 (some .int), Cond.fieldLink RX0 40 "ParserParlour$Meaning" "openPhrase" "I", Cond.methodLink RX0 97 yX0_fitting, Cond.instanceMethod yX0_fitting, Cond.selects RX0 yX0_fitting yX0_fitting, Cond.code yX0_fitting cX0_fitting 2 (some .int), Cond.fieldLink RX0 9 "ParserParlour$Meaning" "world" "LParserParlour$World;", Cond.methodLink RX0 120 yX4_described, Cond.instanceMethod yX4_described, Cond.selects RX4 yX4_described yX4_described, Cond.initialized RX4, Cond.code yX4_described cX4_described 7 (some .int), Cond.fieldLink RX4 21 "ParserParlour$World" "count" "I", Cond.fieldLink RX4 9 "ParserParlour$World" "nouns" "[I", Cond.fieldLink RX4 15 "ParserParlour$World" "adjectiveSets" "[I", Cond.methodLink RX0 106 yJ6_bitCount_0f7a4, Cond.static yJ6_bitCount_0f7a4, Cond.initialized RJ6, Cond.code yJ6_bitCount_0f7a4 cJ6_bitCount_0f7a4 1 (some .int), Cond.constant RJ6 265 (1431655765), Cond.constant RJ6 266 (858993459), Cond.constant RJ6 267 (252645135), Cond.methodLink RX0 111 yX0_ask, Cond.instanceMethod yX0_ask]
def wsX0_findPart_r3 : List Cond := [Cond.selects RX0 yX0_ask yX0_ask, Cond.code yX0_ask cX0_ask 3 (some .int), Cond.fieldLink RX0 43 "ParserParlour$Meaning" "choice" "I"]
def wsX0_findPart : List Cond := .code yX0_findPart cX0_findPart 5 (some .int) :: ((wsX0_findPart_r1 ++ (wsX0_findPart_r2 ++ wsX0_findPart_r3)) ++ wsX00 ++ wsX20 ++ wsX10 ++ wsX40)
def wsX0_onlyOf : List Cond := .code yX0_onlyOf cX0_onlyOf 3 (some .int) :: ([.static yX5_contains, .initialized RX5, .code yX5_contains cX5_contains 2 (some .boolean)])
def wsX0_find_r1 : List Cond := [Cond.fieldLink RX0 9 "ParserParlour$Meaning" "world" "LParserParlour$World;", Cond.fieldLink RX0 15 "ParserParlour$Meaning" "order" "LParserParlour$Order;", Cond.fieldLink RX0 31 "ParserParlour$Meaning" "result" "I", Cond.fieldLink RX0 34 "ParserParlour$Meaning" "group" "I", Cond.fieldLink RX0 37 "ParserParlour$Meaning" "target" "I", Cond.methodLink RX0 46 yX4_reachable, Cond.instanceMethod yX4_reachable, Cond.selects RX4 yX4_reachable yX4_reachable, Cond.initialized RX4, Cond.code yX4_reachable cX4_reachable 5 (some .int), Cond.fieldLink RX4 21 "ParserParlour$World" "count" "I", Cond.fieldLink RX4 28 "ParserParlour$World" "openBoxes" "I", Cond.methodLink RX4 31 yX4_holderOf, Cond.instanceMethod yX4_holderOf, Cond.selects RX4 yX4_holderOf yX4_holderOf, Cond.code yX4_holderOf cX4_holderOf 2 (some .int), Cond.fieldLink RX4 18 "ParserParlour$World" "holders" "[I", Cond.static yX5_contains, Cond.initialized RX5, Cond.code yX5_contains cX5_contains 2 (some .boolean), Cond.methodLink RX0 23 yX0_start, Cond.instanceMethod yX0_start, Cond.selects RX0 yX0_start yX0_start, Cond.initialized RX0]
def wsX0_find_r2 : List Cond := [Cond.code yX0_start cX0_start 2 none, Cond.fieldLink RX0 27 "ParserParlour$Meaning" "reach" "I", Cond.fieldLink RX0 40 "ParserParlour$Meaning" "openPhrase" "I", Cond.fieldLink RX0 43 "ParserParlour$Meaning" "choice" "I", Cond.methodLink RX0 57 yX4_suited, Cond.instanceMethod yX4_suited, Cond.selects RX4 yX4_suited yX4_suited, Cond.code yX4_suited cX4_suited 3 (some .int), Cond.fieldLink RX4 25 "ParserParlour$World" "boxes" "I", Cond.methodLink RX4 39 yX4_reachable, Cond.methodLink RX4 43 yX4_held, Cond.instanceMethod yX4_held, Cond.selects RX4 yX4_held yX4_held, Cond.code yX4_held cX4_held 3 (some .int), Cond.methodLink RX0 64 yX2_roleOf, Cond.instanceMethod yX2_roleOf, Cond.selects RX2 yX2_roleOf yX2_roleOf, Cond.initialized RX2, Cond.code yX2_roleOf cX2_roleOf 2 (some .int), Cond.fieldLink RX2 18 "ParserParlour$Order" "roles" "[I", Cond.methodLink RX2 88 yX2_hasPhrase, Cond.instanceMethod yX2_hasPhrase, Cond.selects RX2 yX2_hasPhrase yX2_hasPhrase, Cond.code yX2_hasPhrase cX2_hasPhrase 2 (some .boolean)]
def wsX0_find_r3 : List Cond := [Cond.fieldLink RX2 15 "ParserParlour$Order" "count" "I", Cond.methodLink RX0 67 yX0_findPart, Cond.instanceMethod yX0_findPart, Cond.selects RX0 yX0_findPart yX0_findPart, Cond.code yX0_findPart cX0_findPart 5 (some .int), Cond.fieldLink RX0 19 "ParserParlour$Meaning" "memory" "LParserParlour$Memory;", Cond.methodLink RX0 71 yX0_findSingle, Cond.instanceMethod yX0_findSingle, Cond.selects RX0 yX0_findSingle yX0_findSingle, Cond.code yX0_findSingle cX0_findSingle 5 (some .int), Cond.methodLink RX0 81 yX2_hasPhrase, Cond.methodLink RX0 94 yX0_orNothing, Cond.instanceMethod yX0_orNothing, Cond.selects RX0 yX0_orNothing yX0_orNothing, Cond.code yX0_orNothing cX0_orNothing 3 (some .int), Cond.methodLink RX0 97 yX0_fitting, Cond.instanceMethod yX0_fitting, Cond.selects RX0 yX0_fitting yX0_fitting, Cond.code yX0_fitting cX0_fitting 2 (some .int), Cond.methodLink RX0 120 yX4_described, Cond.instanceMethod yX4_described, Cond.selects RX4 yX4_described yX4_described, Cond.code yX4_described cX4_described 7 (some .int), Cond.fieldLink RX4 9 "ParserParlour$World" "nouns" "[I"]
def wsX0_find_r4 : List Cond := [Cond.fieldLink RX4 15 "ParserParlour$World" "adjectiveSets" "[I", Cond.methodLink RX0 106 yJ6_bitCount_0f7a4, Cond.static yJ6_bitCount_0f7a4, Cond.initialized RJ6, Cond.code yJ6_bitCount_0f7a4 cJ6_bitCount_0f7a4 1 (some .int), Cond.constant RJ6 265 (1431655765), Cond.constant RJ6 266 (858993459), Cond.constant RJ6 267 (252645135), Cond.methodLink RX0 111 yX0_ask, Cond.instanceMethod yX0_ask, Cond.selects RX0 yX0_ask yX0_ask, Cond.code yX0_ask cX0_ask 3 (some .int), Cond.methodLink RX0 74 yX0_onlyOf, Cond.instanceMethod yX0_onlyOf, Cond.selects RX0 yX0_onlyOf yX0_onlyOf, Cond.code yX0_onlyOf cX0_onlyOf 3 (some .int)]
def wsX0_find : List Cond := .code yX0_find cX0_find 4 (some .int) :: ((wsX0_find_r1 ++ (wsX0_find_r2 ++ (wsX0_find_r3 ++ wsX0_find_r4))) ++ wsX00 ++ wsX20 ++ wsX40 ++ wsX10)
def wsX1_init : List Cond := .code yX1_init cX1_init 1 none :: ([.methodLink RX1 3 objectInit, .instanceMethod objectInit, .code objectInit ⟨#[0xb1]⟩ 1 none, .fieldLink RX1 9 "ParserParlour$Memory" "lastVerb" "I", .fieldLink RX1 15 "ParserParlour$Memory" "lastMeant" "I", .fieldLink RX1 18 "ParserParlour$Memory" "lastDone" "I", .fieldLink RX1 21 "ParserParlour$Memory" "lastTarget" "I", .fieldLink RX1 24 "ParserParlour$Memory" "lastAlone" "I"] ++ wsX10)
def wsX1_keep : List Cond := .code yX1_keep cX1_keep 5 none :: ([.fieldLink RX1 9 "ParserParlour$Memory" "lastVerb" "I", .fieldLink RX1 15 "ParserParlour$Memory" "lastMeant" "I", .fieldLink RX1 18 "ParserParlour$Memory" "lastDone" "I", .fieldLink RX1 21 "ParserParlour$Memory" "lastTarget" "I", .fieldLink RX1 24 "ParserParlour$Memory" "lastAlone" "I", .methodLink RX1 27 yJ6_bitCount_0f7a4, .static yJ6_bitCount_0f7a4, .initialized RJ6, .code yJ6_bitCount_0f7a4 cJ6_bitCount_0f7a4 1 (some .int), .constant RJ6 265 (1431655765), .constant RJ6 266 (858993459), .constant RJ6 267 (252645135)] ++ wsX10)
def wsX2_init : List Cond := .code yX2_init cX2_init 1 none :: ([.methodLink RX2 3 objectInit, .instanceMethod objectInit, .code objectInit ⟨#[0xb1]⟩ 1 none, .fieldLink RX2 9 "ParserParlour$Order" "orderVerb" "I", .fieldLink RX2 15 "ParserParlour$Order" "count" "I", .arrayClass .int, .fieldLink RX2 18 "ParserParlour$Order" "roles" "[I", .fieldLink RX2 22 "ParserParlour$Order" "kinds" "[I", .fieldLink RX2 25 "ParserParlour$Order" "adjectiveSets" "[I", .fieldLink RX2 28 "ParserParlour$Order" "nouns" "[I", .fieldLink RX2 31 "ParserParlour$Order" "lastPlaces" "[I", .fieldLink RX2 34 "ParserParlour$Order" "answers" "[I"] ++ wsX20)
def wsX3_peek : List Cond := .code yX3_peek cX3_peek 1 (some .int) :: ([.fieldLink RX3 19 "ParserParlour$Words" "place" "I", .fieldLink RX3 15 "ParserParlour$Words" "count" "I", .fieldLink RX3 9 "ParserParlour$Words" "given" "[I"] ++ wsX30)
def wsX3_accept : List Cond := .code yX3_accept cX3_accept 2 (some .boolean) :: ([.fieldLink RX3 19 "ParserParlour$Words" "place" "I", .methodLink RX3 28 yX3_peek, .instanceMethod yX3_peek, .selects RX3 yX3_peek yX3_peek, .initialized RX3, .code yX3_peek cX3_peek 1 (some .int), .fieldLink RX3 15 "ParserParlour$Words" "count" "I", .fieldLink RX3 9 "ParserParlour$Words" "given" "[I"] ++ wsX30)
def wsX2_add : List Cond := .code yX2_add cX2_add 4 (some .boolean) :: ([.fieldLink RX2 15 "ParserParlour$Order" "count" "I", .fieldLink RX2 18 "ParserParlour$Order" "roles" "[I", .fieldLink RX2 22 "ParserParlour$Order" "kinds" "[I", .fieldLink RX2 25 "ParserParlour$Order" "adjectiveSets" "[I", .fieldLink RX2 28 "ParserParlour$Order" "nouns" "[I", .fieldLink RX2 31 "ParserParlour$Order" "lastPlaces" "[I", .fieldLink RX2 34 "ParserParlour$Order" "answers" "[I"] ++ wsX20 ++ wsX30)
def wsX2_nextSingleRole : List Cond := .code yX2_nextSingleRole cX2_nextSingleRole 1 (some .int) :: ([.fieldLink RX2 15 "ParserParlour$Order" "count" "I", .methodLink RX2 78 yX2_roleOf, .instanceMethod yX2_roleOf, .selects RX2 yX2_roleOf yX2_roleOf, .initialized RX2, .code yX2_roleOf cX2_roleOf 2 (some .int), .fieldLink RX2 18 "ParserParlour$Order" "roles" "[I", .methodLink RX2 88 yX2_hasPhrase, .instanceMethod yX2_hasPhrase, .selects RX2 yX2_hasPhrase yX2_hasPhrase, .code yX2_hasPhrase cX2_hasPhrase 2 (some .boolean)] ++ wsX20)
def wsX5_isBetween : List Cond := .code yX5_isBetween cX5_isBetween 3 (some .boolean) :: ([])
def wsX3_readAdjectives : List Cond := .code yX3_readAdjectives cX3_readAdjectives 2 none :: ([.fieldLink RX3 22 "ParserParlour$Words" "adjectives" "I", .fieldLink RX3 25 "ParserParlour$Words" "noun" "I", .fieldLink RX3 19 "ParserParlour$Words" "place" "I", .methodLink RX3 28 yX3_peek, .instanceMethod yX3_peek, .selects RX3 yX3_peek yX3_peek, .initialized RX3, .code yX3_peek cX3_peek 1 (some .int), .fieldLink RX3 15 "ParserParlour$Words" "count" "I", .fieldLink RX3 9 "ParserParlour$Words" "given" "[I", .static yX5_isBetween, .initialized RX5, .code yX5_isBetween cX5_isBetween 3 (some .boolean)] ++ wsX30)
def wsX3_acceptNoun : List Cond := .code yX3_acceptNoun cX3_acceptNoun 2 (some .boolean) :: ([.fieldLink RX3 25 "ParserParlour$Words" "noun" "I", .fieldLink RX3 19 "ParserParlour$Words" "place" "I", .methodLink RX3 28 yX3_peek, .instanceMethod yX3_peek, .selects RX3 yX3_peek yX3_peek, .initialized RX3, .code yX3_peek cX3_peek 1 (some .int), .fieldLink RX3 15 "ParserParlour$Words" "count" "I", .fieldLink RX3 9 "ParserParlour$Words" "given" "[I", .static yX5_isBetween, .initialized RX5, .code yX5_isBetween cX5_isBetween 3 (some .boolean)] ++ wsX30)
def wsX2_readHead_r1 : List Cond := [Cond.methodLink RX2 72 yX3_acceptNoun, Cond.instanceMethod yX3_acceptNoun, Cond.selects RX3 yX3_acceptNoun yX3_acceptNoun, Cond.initialized RX3, Cond.code yX3_acceptNoun cX3_acceptNoun 2 (some .boolean), Cond.fieldLink RX3 25 "ParserParlour$Words" "noun" "I", Cond.fieldLink RX3 19 "ParserParlour$Words" "place" "I", Cond.methodLink RX3 28 yX3_peek, Cond.instanceMethod yX3_peek, Cond.selects RX3 yX3_peek yX3_peek, Cond.code yX3_peek cX3_peek 1 (some .int), Cond.fieldLink RX3 15 "ParserParlour$Words" "count" "I", Cond.fieldLink RX3 9 "ParserParlour$Words" "given" "[I", Cond.static yX5_isBetween, Cond.initialized RX5, Cond.code yX5_isBetween cX5_isBetween 3 (some .boolean), Cond.methodLink RX2 43 yX3_accept, Cond.instanceMethod yX3_accept, Cond.selects RX3 yX3_accept yX3_accept, Cond.code yX3_accept cX3_accept 2 (some .boolean), Cond.methodLink RX2 59 yX2_add, Cond.instanceMethod yX2_add, Cond.selects RX2 yX2_add yX2_add, Cond.initialized RX2]
def wsX2_readHead_r2 : List Cond := [Cond.code yX2_add cX2_add 4 (some .boolean), Cond.fieldLink RX2 15 "ParserParlour$Order" "count" "I", Cond.fieldLink RX2 18 "ParserParlour$Order" "roles" "[I", Cond.fieldLink RX2 22 "ParserParlour$Order" "kinds" "[I", Cond.fieldLink RX2 25 "ParserParlour$Order" "adjectiveSets" "[I", Cond.fieldLink RX2 28 "ParserParlour$Order" "nouns" "[I", Cond.fieldLink RX2 31 "ParserParlour$Order" "lastPlaces" "[I", Cond.fieldLink RX2 34 "ParserParlour$Order" "answers" "[I"]
def wsX2_readHead : List Cond := .code yX2_readHead cX2_readHead 3 (some .boolean) :: ((wsX2_readHead_r1 ++ wsX2_readHead_r2) ++ wsX30 ++ wsX20)
def wsX2_readSingle_r1 : List Cond := [Cond.methodLink RX2 43 yX3_accept, Cond.instanceMethod yX3_accept, Cond.selects RX3 yX3_accept yX3_accept, Cond.initialized RX3, Cond.code yX3_accept cX3_accept 2 (some .boolean), Cond.fieldLink RX3 19 "ParserParlour$Words" "place" "I", Cond.methodLink RX3 28 yX3_peek, Cond.instanceMethod yX3_peek, Cond.selects RX3 yX3_peek yX3_peek, Cond.code yX3_peek cX3_peek 1 (some .int), Cond.fieldLink RX3 15 "ParserParlour$Words" "count" "I", Cond.fieldLink RX3 9 "ParserParlour$Words" "given" "[I", Cond.methodLink RX2 59 yX2_add, Cond.instanceMethod yX2_add, Cond.selects RX2 yX2_add yX2_add, Cond.initialized RX2, Cond.code yX2_add cX2_add 4 (some .boolean), Cond.fieldLink RX2 15 "ParserParlour$Order" "count" "I", Cond.fieldLink RX2 18 "ParserParlour$Order" "roles" "[I", Cond.fieldLink RX2 22 "ParserParlour$Order" "kinds" "[I", Cond.fieldLink RX2 25 "ParserParlour$Order" "adjectiveSets" "[I", Cond.fieldLink RX2 28 "ParserParlour$Order" "nouns" "[I", Cond.fieldLink RX2 31 "ParserParlour$Order" "lastPlaces" "[I", Cond.fieldLink RX2 34 "ParserParlour$Order" "answers" "[I"]
def wsX2_readSingle_r2 : List Cond := [Cond.methodLink RX2 66 yX3_readAdjectives, Cond.instanceMethod yX3_readAdjectives, Cond.selects RX3 yX3_readAdjectives yX3_readAdjectives, Cond.code yX3_readAdjectives cX3_readAdjectives 2 none, Cond.fieldLink RX3 22 "ParserParlour$Words" "adjectives" "I", Cond.fieldLink RX3 25 "ParserParlour$Words" "noun" "I", Cond.static yX5_isBetween, Cond.initialized RX5, Cond.code yX5_isBetween cX5_isBetween 3 (some .boolean), Cond.methodLink RX2 75 yX2_readHead, Cond.instanceMethod yX2_readHead, Cond.selects RX2 yX2_readHead yX2_readHead, Cond.code yX2_readHead cX2_readHead 3 (some .boolean), Cond.methodLink RX2 72 yX3_acceptNoun, Cond.instanceMethod yX3_acceptNoun, Cond.selects RX3 yX3_acceptNoun yX3_acceptNoun, Cond.code yX3_acceptNoun cX3_acceptNoun 2 (some .boolean)]
def wsX2_readSingle : List Cond := .code yX2_readSingle cX2_readSingle 3 (some .boolean) :: ((wsX2_readSingle_r1 ++ wsX2_readSingle_r2) ++ wsX30 ++ wsX20)
def wsX2_readPart_r1 : List Cond := [Cond.methodLink RX2 43 yX3_accept, Cond.instanceMethod yX3_accept, Cond.selects RX3 yX3_accept yX3_accept, Cond.initialized RX3, Cond.code yX3_accept cX3_accept 2 (some .boolean), Cond.fieldLink RX3 19 "ParserParlour$Words" "place" "I", Cond.methodLink RX3 28 yX3_peek, Cond.instanceMethod yX3_peek, Cond.selects RX3 yX3_peek yX3_peek, Cond.code yX3_peek cX3_peek 1 (some .int), Cond.fieldLink RX3 15 "ParserParlour$Words" "count" "I", Cond.fieldLink RX3 9 "ParserParlour$Words" "given" "[I", Cond.methodLink RX2 59 yX2_add, Cond.instanceMethod yX2_add, Cond.selects RX2 yX2_add yX2_add, Cond.initialized RX2, Cond.code yX2_add cX2_add 4 (some .boolean), Cond.fieldLink RX2 15 "ParserParlour$Order" "count" "I", Cond.fieldLink RX2 18 "ParserParlour$Order" "roles" "[I", Cond.fieldLink RX2 22 "ParserParlour$Order" "kinds" "[I", Cond.fieldLink RX2 25 "ParserParlour$Order" "adjectiveSets" "[I", Cond.fieldLink RX2 28 "ParserParlour$Order" "nouns" "[I", Cond.fieldLink RX2 31 "ParserParlour$Order" "lastPlaces" "[I", Cond.fieldLink RX2 34 "ParserParlour$Order" "answers" "[I"]
def wsX2_readPart_r2 : List Cond := [Cond.methodLink RX2 37 yX3_peek, Cond.methodLink RX2 63 yX2_nextSingleRole, Cond.instanceMethod yX2_nextSingleRole, Cond.selects RX2 yX2_nextSingleRole yX2_nextSingleRole, Cond.code yX2_nextSingleRole cX2_nextSingleRole 1 (some .int), Cond.methodLink RX2 78 yX2_roleOf, Cond.instanceMethod yX2_roleOf, Cond.selects RX2 yX2_roleOf yX2_roleOf, Cond.code yX2_roleOf cX2_roleOf 2 (some .int), Cond.methodLink RX2 88 yX2_hasPhrase, Cond.instanceMethod yX2_hasPhrase, Cond.selects RX2 yX2_hasPhrase yX2_hasPhrase, Cond.code yX2_hasPhrase cX2_hasPhrase 2 (some .boolean), Cond.methodLink RX2 51 yX2_readSingle, Cond.instanceMethod yX2_readSingle, Cond.selects RX2 yX2_readSingle yX2_readSingle, Cond.code yX2_readSingle cX2_readSingle 3 (some .boolean), Cond.methodLink RX2 66 yX3_readAdjectives, Cond.instanceMethod yX3_readAdjectives, Cond.selects RX3 yX3_readAdjectives yX3_readAdjectives, Cond.code yX3_readAdjectives cX3_readAdjectives 2 none, Cond.fieldLink RX3 22 "ParserParlour$Words" "adjectives" "I", Cond.fieldLink RX3 25 "ParserParlour$Words" "noun" "I", Cond.static yX5_isBetween]
def wsX2_readPart_r3 : List Cond := [Cond.initialized RX5, Cond.code yX5_isBetween cX5_isBetween 3 (some .boolean), Cond.methodLink RX2 75 yX2_readHead, Cond.instanceMethod yX2_readHead, Cond.selects RX2 yX2_readHead yX2_readHead, Cond.code yX2_readHead cX2_readHead 3 (some .boolean), Cond.methodLink RX2 72 yX3_acceptNoun, Cond.instanceMethod yX3_acceptNoun, Cond.selects RX3 yX3_acceptNoun yX3_acceptNoun, Cond.code yX3_acceptNoun cX3_acceptNoun 2 (some .boolean)]
def wsX2_readPart : List Cond := .code yX2_readPart cX2_readPart 4 (some .boolean) :: ((wsX2_readPart_r1 ++ (wsX2_readPart_r2 ++ wsX2_readPart_r3)) ++ wsX30 ++ wsX20)
def wsX3_atEnd : List Cond := .code yX3_atEnd cX3_atEnd 1 (some .boolean) :: ([.fieldLink RX3 19 "ParserParlour$Words" "place" "I", .fieldLink RX3 15 "ParserParlour$Words" "count" "I"] ++ wsX30)
def wsX2_read_r1 : List Cond := [Cond.fieldLink RX2 15 "ParserParlour$Order" "count" "I", Cond.fieldLink RX2 9 "ParserParlour$Order" "orderVerb" "I", Cond.methodLink RX2 37 yX3_peek, Cond.instanceMethod yX3_peek, Cond.selects RX3 yX3_peek yX3_peek, Cond.initialized RX3, Cond.code yX3_peek cX3_peek 1 (some .int), Cond.fieldLink RX3 19 "ParserParlour$Words" "place" "I", Cond.fieldLink RX3 15 "ParserParlour$Words" "count" "I", Cond.fieldLink RX3 9 "ParserParlour$Words" "given" "[I", Cond.methodLink RX2 43 yX3_accept, Cond.instanceMethod yX3_accept, Cond.selects RX3 yX3_accept yX3_accept, Cond.code yX3_accept cX3_accept 2 (some .boolean), Cond.methodLink RX3 28 yX3_peek, Cond.methodLink RX2 47 yX2_readPart, Cond.instanceMethod yX2_readPart, Cond.selects RX2 yX2_readPart yX2_readPart, Cond.initialized RX2, Cond.code yX2_readPart cX2_readPart 4 (some .boolean), Cond.methodLink RX2 59 yX2_add, Cond.instanceMethod yX2_add, Cond.selects RX2 yX2_add yX2_add, Cond.code yX2_add cX2_add 4 (some .boolean)]
def wsX2_read_r2 : List Cond := [Cond.fieldLink RX2 18 "ParserParlour$Order" "roles" "[I", Cond.fieldLink RX2 22 "ParserParlour$Order" "kinds" "[I", Cond.fieldLink RX2 25 "ParserParlour$Order" "adjectiveSets" "[I", Cond.fieldLink RX2 28 "ParserParlour$Order" "nouns" "[I", Cond.fieldLink RX2 31 "ParserParlour$Order" "lastPlaces" "[I", Cond.fieldLink RX2 34 "ParserParlour$Order" "answers" "[I", Cond.methodLink RX2 63 yX2_nextSingleRole, Cond.instanceMethod yX2_nextSingleRole, Cond.selects RX2 yX2_nextSingleRole yX2_nextSingleRole, Cond.code yX2_nextSingleRole cX2_nextSingleRole 1 (some .int), Cond.methodLink RX2 78 yX2_roleOf, Cond.instanceMethod yX2_roleOf, Cond.selects RX2 yX2_roleOf yX2_roleOf, Cond.code yX2_roleOf cX2_roleOf 2 (some .int), Cond.methodLink RX2 88 yX2_hasPhrase, Cond.instanceMethod yX2_hasPhrase, Cond.selects RX2 yX2_hasPhrase yX2_hasPhrase, Cond.code yX2_hasPhrase cX2_hasPhrase 2 (some .boolean), Cond.methodLink RX2 51 yX2_readSingle, Cond.instanceMethod yX2_readSingle, Cond.selects RX2 yX2_readSingle yX2_readSingle, Cond.code yX2_readSingle cX2_readSingle 3 (some .boolean), Cond.methodLink RX2 66 yX3_readAdjectives, Cond.instanceMethod yX3_readAdjectives]
def wsX2_read_r3 : List Cond := [Cond.selects RX3 yX3_readAdjectives yX3_readAdjectives, Cond.code yX3_readAdjectives cX3_readAdjectives 2 none, Cond.fieldLink RX3 22 "ParserParlour$Words" "adjectives" "I", Cond.fieldLink RX3 25 "ParserParlour$Words" "noun" "I", Cond.static yX5_isBetween, Cond.initialized RX5, Cond.code yX5_isBetween cX5_isBetween 3 (some .boolean), Cond.methodLink RX2 75 yX2_readHead, Cond.instanceMethod yX2_readHead, Cond.selects RX2 yX2_readHead yX2_readHead, Cond.code yX2_readHead cX2_readHead 3 (some .boolean), Cond.methodLink RX2 72 yX3_acceptNoun, Cond.instanceMethod yX3_acceptNoun, Cond.selects RX3 yX3_acceptNoun yX3_acceptNoun, Cond.code yX3_acceptNoun cX3_acceptNoun 2 (some .boolean), Cond.methodLink RX2 55 yX3_atEnd, Cond.instanceMethod yX3_atEnd, Cond.selects RX3 yX3_atEnd yX3_atEnd, Cond.code yX3_atEnd cX3_atEnd 1 (some .boolean)]
def wsX2_read : List Cond := .code yX2_read cX2_read 4 (some .boolean) :: ((wsX2_read_r1 ++ (wsX2_read_r2 ++ wsX2_read_r3)) ++ wsX20 ++ wsX30)
def wsX2_lastPlaceOf : List Cond := .code yX2_lastPlaceOf cX2_lastPlaceOf 2 (some .int) :: ([.fieldLink RX2 31 "ParserParlour$Order" "lastPlaces" "[I", .methodLink RX2 88 yX2_hasPhrase, .instanceMethod yX2_hasPhrase, .selects RX2 yX2_hasPhrase yX2_hasPhrase, .initialized RX2, .code yX2_hasPhrase cX2_hasPhrase 2 (some .boolean), .fieldLink RX2 15 "ParserParlour$Order" "count" "I"] ++ wsX20)
def wsX2_answer : List Cond := .code yX2_answer cX2_answer 3 none :: ([.fieldLink RX2 34 "ParserParlour$Order" "answers" "[I", .methodLink RX2 88 yX2_hasPhrase, .instanceMethod yX2_hasPhrase, .selects RX2 yX2_hasPhrase yX2_hasPhrase, .initialized RX2, .code yX2_hasPhrase cX2_hasPhrase 2 (some .boolean), .fieldLink RX2 15 "ParserParlour$Order" "count" "I"] ++ wsX20)
def wsX3_init : List Cond := .code yX3_init cX3_init 1 none :: ([.methodLink RX3 3 objectInit, .instanceMethod objectInit, .code objectInit ⟨#[0xb1]⟩ 1 none, .arrayClass .int, .fieldLink RX3 9 "ParserParlour$Words" "given" "[I", .fieldLink RX3 15 "ParserParlour$Words" "count" "I", .fieldLink RX3 19 "ParserParlour$Words" "place" "I", .fieldLink RX3 22 "ParserParlour$Words" "adjectives" "I", .fieldLink RX3 25 "ParserParlour$Words" "noun" "I"] ++ wsX30)
def wsX3_clear : List Cond := .code yX3_clear cX3_clear 1 none :: ([.fieldLink RX3 15 "ParserParlour$Words" "count" "I", .fieldLink RX3 19 "ParserParlour$Words" "place" "I"] ++ wsX30)
def wsX3_add : List Cond := .code yX3_add cX3_add 2 none :: ([.fieldLink RX3 15 "ParserParlour$Words" "count" "I", .fieldLink RX3 9 "ParserParlour$Words" "given" "[I"] ++ wsX30)
def wsX3_removeLast : List Cond := .code yX3_removeLast cX3_removeLast 1 (some .int) :: ([.fieldLink RX3 15 "ParserParlour$Words" "count" "I", .fieldLink RX3 9 "ParserParlour$Words" "given" "[I"] ++ wsX30)
def wsX3_readAnswer_r1 : List Cond := [Cond.fieldLink RX3 22 "ParserParlour$Words" "adjectives" "I", Cond.methodLink RX3 36 yX3_accept, Cond.instanceMethod yX3_accept, Cond.selects RX3 yX3_accept yX3_accept, Cond.initialized RX3, Cond.code yX3_accept cX3_accept 2 (some .boolean), Cond.fieldLink RX3 19 "ParserParlour$Words" "place" "I", Cond.methodLink RX3 28 yX3_peek, Cond.instanceMethod yX3_peek, Cond.selects RX3 yX3_peek yX3_peek, Cond.code yX3_peek cX3_peek 1 (some .int), Cond.fieldLink RX3 15 "ParserParlour$Words" "count" "I", Cond.fieldLink RX3 9 "ParserParlour$Words" "given" "[I", Cond.methodLink RX3 40 yX3_readAdjectives, Cond.instanceMethod yX3_readAdjectives, Cond.selects RX3 yX3_readAdjectives yX3_readAdjectives, Cond.code yX3_readAdjectives cX3_readAdjectives 2 none, Cond.fieldLink RX3 25 "ParserParlour$Words" "noun" "I", Cond.static yX5_isBetween, Cond.initialized RX5, Cond.code yX5_isBetween cX5_isBetween 3 (some .boolean), Cond.methodLink RX3 43 yX3_acceptNoun, Cond.instanceMethod yX3_acceptNoun, Cond.selects RX3 yX3_acceptNoun yX3_acceptNoun]
def wsX3_readAnswer_r2 : List Cond := [Cond.code yX3_acceptNoun cX3_acceptNoun 2 (some .boolean), Cond.methodLink RX3 46 yX3_atEnd, Cond.instanceMethod yX3_atEnd, Cond.selects RX3 yX3_atEnd yX3_atEnd, Cond.code yX3_atEnd cX3_atEnd 1 (some .boolean)]
def wsX3_readAnswer : List Cond := .code yX3_readAnswer cX3_readAnswer 2 (some .boolean) :: ((wsX3_readAnswer_r1 ++ wsX3_readAnswer_r2) ++ wsX30)
def wsX4_init : List Cond := .code yX4_init cX4_init 1 none :: ([.methodLink RX4 3 objectInit, .instanceMethod objectInit, .code objectInit ⟨#[0xb1]⟩ 1 none, .arrayClass .int, .fieldLink RX4 9 "ParserParlour$World" "nouns" "[I", .fieldLink RX4 15 "ParserParlour$World" "adjectiveSets" "[I", .fieldLink RX4 18 "ParserParlour$World" "holders" "[I", .fieldLink RX4 21 "ParserParlour$World" "count" "I", .fieldLink RX4 25 "ParserParlour$World" "boxes" "I", .fieldLink RX4 28 "ParserParlour$World" "openBoxes" "I"] ++ wsX40)
def wsX4_add : List Cond := .code yX4_add cX4_add 5 (some .int) :: ([.fieldLink RX4 21 "ParserParlour$World" "count" "I", .fieldLink RX4 9 "ParserParlour$World" "nouns" "[I", .fieldLink RX4 15 "ParserParlour$World" "adjectiveSets" "[I", .fieldLink RX4 18 "ParserParlour$World" "holders" "[I", .fieldLink RX4 25 "ParserParlour$World" "boxes" "I"] ++ wsX40)
def wsX4_has : List Cond := .code yX4_has cX4_has 2 (some .boolean) :: ([.fieldLink RX4 21 "ParserParlour$World" "count" "I"] ++ wsX40)
def wsX4_isWithin : List Cond := .code yX4_isWithin cX4_isWithin 5 (some .boolean) :: ([.methodLink RX4 31 yX4_holderOf, .instanceMethod yX4_holderOf, .selects RX4 yX4_holderOf yX4_holderOf, .initialized RX4, .code yX4_holderOf cX4_holderOf 2 (some .int), .fieldLink RX4 21 "ParserParlour$World" "count" "I", .fieldLink RX4 18 "ParserParlour$World" "holders" "[I"] ++ wsX40)
def wsX4_perform_r1 : List Cond := [Cond.fieldLink RX4 18 "ParserParlour$World" "holders" "[I", Cond.fieldLink RX4 28 "ParserParlour$World" "openBoxes" "I", Cond.methodLink RX4 46 yX4_has, Cond.instanceMethod yX4_has, Cond.selects RX4 yX4_has yX4_has, Cond.initialized RX4, Cond.code yX4_has cX4_has 2 (some .boolean), Cond.fieldLink RX4 21 "ParserParlour$World" "count" "I", Cond.methodLink RX4 50 yX4_suited, Cond.instanceMethod yX4_suited, Cond.selects RX4 yX4_suited yX4_suited, Cond.code yX4_suited cX4_suited 3 (some .int), Cond.fieldLink RX4 25 "ParserParlour$World" "boxes" "I", Cond.methodLink RX4 39 yX4_reachable, Cond.instanceMethod yX4_reachable, Cond.selects RX4 yX4_reachable yX4_reachable, Cond.code yX4_reachable cX4_reachable 5 (some .int), Cond.methodLink RX4 31 yX4_holderOf, Cond.instanceMethod yX4_holderOf, Cond.selects RX4 yX4_holderOf yX4_holderOf, Cond.code yX4_holderOf cX4_holderOf 2 (some .int), Cond.static yX5_contains, Cond.initialized RX5, Cond.code yX5_contains cX5_contains 2 (some .boolean)]
def wsX4_perform_r2 : List Cond := [Cond.methodLink RX4 43 yX4_held, Cond.instanceMethod yX4_held, Cond.selects RX4 yX4_held yX4_held, Cond.code yX4_held cX4_held 3 (some .int), Cond.methodLink RX4 53 yX4_isWithin, Cond.instanceMethod yX4_isWithin, Cond.selects RX4 yX4_isWithin yX4_isWithin, Cond.code yX4_isWithin cX4_isWithin 5 (some .boolean)]
def wsX4_perform : List Cond := .code yX4_perform cX4_perform 4 (some .boolean) :: ((wsX4_perform_r1 ++ wsX4_perform_r2) ++ wsX40)
def wsX5_init_r1 : List Cond := [Cond.methodLink RX5 3 objectInit, Cond.instanceMethod objectInit, Cond.code objectInit ⟨#[0xb1]⟩ 1 none, Cond.classLink RX5 9 RX4, Cond.instantiable RX4 6, Cond.initialized RX4, Cond.fieldLink RX5 12 "ParserParlour" "world" "LParserParlour$World;", Cond.classLink RX5 16 RX3, Cond.instantiable RX3 5, Cond.initialized RX3, Cond.fieldLink RX5 19 "ParserParlour" "words" "LParserParlour$Words;", Cond.classLink RX5 23 RX2, Cond.instantiable RX2 8, Cond.initialized RX2, Cond.fieldLink RX5 26 "ParserParlour" "order" "LParserParlour$Order;", Cond.classLink RX5 30 RX1, Cond.instantiable RX1 5, Cond.initialized RX1, Cond.fieldLink RX5 33 "ParserParlour" "memory" "LParserParlour$Memory;", Cond.classLink RX5 37 RX0, Cond.instantiable RX0 9, Cond.initialized RX0, Cond.fieldLink RX5 42 "ParserParlour" "meaning" "LParserParlour$Meaning;", Cond.fieldLink RX5 46 "ParserParlour" "lastOutcome" "I"]
def wsX5_init_r2 : List Cond := [Cond.fieldLink RX5 50 "ParserParlour" "wrongPlace" "I", Cond.fieldLink RX5 53 "ParserParlour" "askedThings" "I", Cond.fieldLink RX5 56 "ParserParlour" "askedPhrase" "I", Cond.fieldLink RX5 59 "ParserParlour" "questionCount" "I", Cond.methodLink RX5 11 yX4_init, Cond.instanceMethod yX4_init, Cond.code yX4_init cX4_init 1 none, Cond.methodLink RX4 3 objectInit, Cond.arrayClass .int, Cond.fieldLink RX4 9 "ParserParlour$World" "nouns" "[I", Cond.fieldLink RX4 15 "ParserParlour$World" "adjectiveSets" "[I", Cond.fieldLink RX4 18 "ParserParlour$World" "holders" "[I", Cond.fieldLink RX4 21 "ParserParlour$World" "count" "I", Cond.fieldLink RX4 25 "ParserParlour$World" "boxes" "I", Cond.fieldLink RX4 28 "ParserParlour$World" "openBoxes" "I", Cond.methodLink RX5 18 yX3_init, Cond.instanceMethod yX3_init, Cond.code yX3_init cX3_init 1 none, Cond.methodLink RX3 3 objectInit, Cond.fieldLink RX3 9 "ParserParlour$Words" "given" "[I", Cond.fieldLink RX3 15 "ParserParlour$Words" "count" "I", Cond.fieldLink RX3 19 "ParserParlour$Words" "place" "I", Cond.fieldLink RX3 22 "ParserParlour$Words" "adjectives" "I", Cond.fieldLink RX3 25 "ParserParlour$Words" "noun" "I"]
def wsX5_init_r3 : List Cond := [Cond.methodLink RX5 25 yX2_init, Cond.instanceMethod yX2_init, Cond.code yX2_init cX2_init 1 none, Cond.methodLink RX2 3 objectInit, Cond.fieldLink RX2 9 "ParserParlour$Order" "orderVerb" "I", Cond.fieldLink RX2 15 "ParserParlour$Order" "count" "I", Cond.fieldLink RX2 18 "ParserParlour$Order" "roles" "[I", Cond.fieldLink RX2 22 "ParserParlour$Order" "kinds" "[I", Cond.fieldLink RX2 25 "ParserParlour$Order" "adjectiveSets" "[I", Cond.fieldLink RX2 28 "ParserParlour$Order" "nouns" "[I", Cond.fieldLink RX2 31 "ParserParlour$Order" "lastPlaces" "[I", Cond.fieldLink RX2 34 "ParserParlour$Order" "answers" "[I", Cond.methodLink RX5 32 yX1_init, Cond.instanceMethod yX1_init, Cond.code yX1_init cX1_init 1 none, Cond.methodLink RX1 3 objectInit, Cond.fieldLink RX1 9 "ParserParlour$Memory" "lastVerb" "I", Cond.fieldLink RX1 15 "ParserParlour$Memory" "lastMeant" "I", Cond.fieldLink RX1 18 "ParserParlour$Memory" "lastDone" "I", Cond.fieldLink RX1 21 "ParserParlour$Memory" "lastTarget" "I", Cond.fieldLink RX1 24 "ParserParlour$Memory" "lastAlone" "I", Cond.methodLink RX5 39 yX0_init, Cond.instanceMethod yX0_init, Cond.code yX0_init cX0_init 4 none]
def wsX5_init_r4 : List Cond := [Cond.methodLink RX0 3 objectInit, Cond.fieldLink RX0 9 "ParserParlour$Meaning" "world" "LParserParlour$World;", Cond.fieldLink RX0 15 "ParserParlour$Meaning" "order" "LParserParlour$Order;", Cond.fieldLink RX0 19 "ParserParlour$Meaning" "memory" "LParserParlour$Memory;", Cond.methodLink RX0 23 yX0_start, Cond.instanceMethod yX0_start, Cond.selects RX0 yX0_start yX0_start, Cond.code yX0_start cX0_start 2 none, Cond.fieldLink RX0 27 "ParserParlour$Meaning" "reach" "I", Cond.fieldLink RX0 31 "ParserParlour$Meaning" "result" "I", Cond.fieldLink RX0 34 "ParserParlour$Meaning" "group" "I", Cond.fieldLink RX0 37 "ParserParlour$Meaning" "target" "I", Cond.fieldLink RX0 40 "ParserParlour$Meaning" "openPhrase" "I", Cond.fieldLink RX0 43 "ParserParlour$Meaning" "choice" "I"]
def wsX5_init : List Cond := .code yX5_init cX5_init 1 none :: ((wsX5_init_r1 ++ (wsX5_init_r2 ++ (wsX5_init_r3 ++ wsX5_init_r4))) ++ wsX40 ++ wsX50 ++ wsX30 ++ wsX20 ++ wsX10 ++ wsX00)
def wsX5_thing : List Cond := .code yX5_thing cX5_thing 4 (some .int) :: ([.classLink RX5 62 "java/lang/IllegalArgumentException", .initialized "java/lang/IllegalArgumentException", .classLink RX5 74 "java/lang/IllegalStateException", .initialized "java/lang/IllegalStateException", .fieldLink RX5 12 "ParserParlour" "world" "LParserParlour$World;", .methodLink RX5 79 yX4_add, .instanceMethod yX4_add, .selects RX4 yX4_add yX4_add, .initialized RX4, .code yX4_add cX4_add 5 (some .int), .fieldLink RX4 21 "ParserParlour$World" "count" "I", .fieldLink RX4 9 "ParserParlour$World" "nouns" "[I", .fieldLink RX4 15 "ParserParlour$World" "adjectiveSets" "[I", .fieldLink RX4 18 "ParserParlour$World" "holders" "[I", .fieldLink RX4 25 "ParserParlour$World" "boxes" "I"] ++ wsX50 ++ wsX40 ++ (vx_atS RX5 66 "java/lang/IllegalArgumentException" ["java/lang/RuntimeException", "java/lang/Exception"]).filter goodWord ++ (vx_atS RX5 78 "java/lang/IllegalStateException" ["java/lang/RuntimeException", "java/lang/Exception"]).filter goodWord)
def wsX5_placeOf : List Cond := .code yX5_placeOf cX5_placeOf 2 (some .int) :: ([.classLink RX5 87 "java/lang/IndexOutOfBoundsException", .initialized "java/lang/IndexOutOfBoundsException", .fieldLink RX5 12 "ParserParlour" "world" "LParserParlour$World;", .methodLink RX5 83 yX4_has, .instanceMethod yX4_has, .selects RX4 yX4_has yX4_has, .initialized RX4, .code yX4_has cX4_has 2 (some .boolean), .fieldLink RX4 21 "ParserParlour$World" "count" "I", .methodLink RX5 92 yX4_holderOf, .instanceMethod yX4_holderOf, .selects RX4 yX4_holderOf yX4_holderOf, .code yX4_holderOf cX4_holderOf 2 (some .int), .fieldLink RX4 18 "ParserParlour$World" "holders" "[I"] ++ wsX50 ++ wsX40 ++ (vx_atS RX5 91 "java/lang/IndexOutOfBoundsException" ["java/lang/RuntimeException", "java/lang/Exception"]).filter goodWord)
def wsX5_isOpen : List Cond := .code yX5_isOpen cX5_isOpen 2 (some .boolean) :: ([.classLink RX5 87 "java/lang/IndexOutOfBoundsException", .initialized "java/lang/IndexOutOfBoundsException", .fieldLink RX5 12 "ParserParlour" "world" "LParserParlour$World;", .methodLink RX5 83 yX4_has, .instanceMethod yX4_has, .selects RX4 yX4_has yX4_has, .initialized RX4, .code yX4_has cX4_has 2 (some .boolean), .fieldLink RX4 21 "ParserParlour$World" "count" "I", .methodLink RX5 99 yX5_contains, .static yX5_contains, .initialized RX5, .code yX5_contains cX5_contains 2 (some .boolean)] ++ wsX50 ++ wsX40 ++ (vx_atS RX5 91 "java/lang/IndexOutOfBoundsException" ["java/lang/RuntimeException", "java/lang/Exception"]).filter goodWord)
def wsX5_inReach : List Cond := .code yX5_inReach cX5_inReach 1 (some .int) :: ([.fieldLink RX5 12 "ParserParlour" "world" "LParserParlour$World;", .methodLink RX5 103 yX4_reachable, .instanceMethod yX4_reachable, .selects RX4 yX4_reachable yX4_reachable, .initialized RX4, .code yX4_reachable cX4_reachable 5 (some .int), .fieldLink RX4 21 "ParserParlour$World" "count" "I", .fieldLink RX4 28 "ParserParlour$World" "openBoxes" "I", .methodLink RX4 31 yX4_holderOf, .instanceMethod yX4_holderOf, .selects RX4 yX4_holderOf yX4_holderOf, .code yX4_holderOf cX4_holderOf 2 (some .int), .fieldLink RX4 18 "ParserParlour$World" "holders" "[I", .static yX5_contains, .initialized RX5, .code yX5_contains cX5_contains 2 (some .boolean)] ++ wsX50 ++ wsX40)
def wsX5_isVerb : List Cond := .code yX5_isVerb cX5_isVerb 1 (some .boolean) :: ([])
def wsX5_isWord : List Cond := .code yX5_isWord cX5_isWord 1 (some .boolean) :: ([.methodLink RX5 126 yX5_isVerb, .static yX5_isVerb, .initialized RX5, .code yX5_isVerb cX5_isVerb 1 (some .boolean), .methodLink RX5 218 yX5_isBetween, .static yX5_isBetween, .code yX5_isBetween cX5_isBetween 3 (some .boolean)])
def wsX5_word : List Cond := .code yX5_word cX5_word 2 (some .int) :: ([.classLink RX5 62 "java/lang/IllegalArgumentException", .initialized "java/lang/IllegalArgumentException", .classLink RX5 74 "java/lang/IllegalStateException", .initialized "java/lang/IllegalStateException", .fieldLink RX5 19 "ParserParlour" "words" "LParserParlour$Words;", .methodLink RX5 107 yX5_isWord, .static yX5_isWord, .initialized RX5, .code yX5_isWord cX5_isWord 1 (some .boolean), .methodLink RX5 126 yX5_isVerb, .static yX5_isVerb, .code yX5_isVerb cX5_isVerb 1 (some .boolean), .methodLink RX5 218 yX5_isBetween, .static yX5_isBetween, .code yX5_isBetween cX5_isBetween 3 (some .boolean), .methodLink RX5 115 yX3_add, .instanceMethod yX3_add, .selects RX3 yX3_add yX3_add, .initialized RX3, .code yX3_add cX3_add 2 none, .fieldLink RX3 15 "ParserParlour$Words" "count" "I", .fieldLink RX3 9 "ParserParlour$Words" "given" "[I"] ++ wsX50 ++ wsX30 ++ (vx_atS RX5 66 "java/lang/IllegalArgumentException" ["java/lang/RuntimeException", "java/lang/Exception"]).filter goodWord ++ (vx_atS RX5 78 "java/lang/IllegalStateException" ["java/lang/RuntimeException", "java/lang/Exception"]).filter goodWord)
def wsX5_back : List Cond := .code yX5_back cX5_back 1 (some .int) :: ([.classLink RX5 74 "java/lang/IllegalStateException", .initialized "java/lang/IllegalStateException", .fieldLink RX5 19 "ParserParlour" "words" "LParserParlour$Words;", .methodLink RX5 120 yX3_removeLast, .instanceMethod yX3_removeLast, .selects RX3 yX3_removeLast yX3_removeLast, .initialized RX3, .code yX3_removeLast cX3_removeLast 1 (some .int), .fieldLink RX3 15 "ParserParlour$Words" "count" "I", .fieldLink RX3 9 "ParserParlour$Words" "given" "[I"] ++ wsX50 ++ wsX30 ++ (vx_atS RX5 78 "java/lang/IllegalStateException" ["java/lang/RuntimeException", "java/lang/Exception"]).filter goodWord)
def wsX5_dropQuestion : List Cond := .code yX5_dropQuestion cX5_dropQuestion 1 none :: ([.fieldLink RX5 53 "ParserParlour" "askedThings" "I", .fieldLink RX5 56 "ParserParlour" "askedPhrase" "I"] ++ wsX50)
def wsX5_carryOut_r1 : List Cond := [Cond.fieldLink RX5 42 "ParserParlour" "meaning" "LParserParlour$Meaning;", Cond.fieldLink RX5 12 "ParserParlour" "world" "LParserParlour$World;", Cond.fieldLink RX5 26 "ParserParlour" "order" "LParserParlour$Order;", Cond.fieldLink RX5 33 "ParserParlour" "memory" "LParserParlour$Memory;", Cond.methodLink RX5 99 yX5_contains, Cond.static yX5_contains, Cond.initialized RX5, Cond.code yX5_contains cX5_contains 2 (some .boolean), Cond.methodLink RX5 210 yX4_perform, Cond.instanceMethod yX4_perform, Cond.selects RX4 yX4_perform yX4_perform, Cond.initialized RX4, Cond.code yX4_perform cX4_perform 4 (some .boolean), Cond.fieldLink RX4 18 "ParserParlour$World" "holders" "[I", Cond.fieldLink RX4 28 "ParserParlour$World" "openBoxes" "I", Cond.methodLink RX4 46 yX4_has, Cond.instanceMethod yX4_has, Cond.selects RX4 yX4_has yX4_has, Cond.code yX4_has cX4_has 2 (some .boolean), Cond.fieldLink RX4 21 "ParserParlour$World" "count" "I", Cond.methodLink RX4 50 yX4_suited, Cond.instanceMethod yX4_suited, Cond.selects RX4 yX4_suited yX4_suited, Cond.code yX4_suited cX4_suited 3 (some .int)]
def wsX5_carryOut_r2 : List Cond := [Cond.fieldLink RX4 25 "ParserParlour$World" "boxes" "I", Cond.methodLink RX4 39 yX4_reachable, Cond.instanceMethod yX4_reachable, Cond.selects RX4 yX4_reachable yX4_reachable, Cond.code yX4_reachable cX4_reachable 5 (some .int), Cond.methodLink RX4 31 yX4_holderOf, Cond.instanceMethod yX4_holderOf, Cond.selects RX4 yX4_holderOf yX4_holderOf, Cond.code yX4_holderOf cX4_holderOf 2 (some .int), Cond.methodLink RX4 43 yX4_held, Cond.instanceMethod yX4_held, Cond.selects RX4 yX4_held yX4_held, Cond.code yX4_held cX4_held 3 (some .int), Cond.methodLink RX4 53 yX4_isWithin, Cond.instanceMethod yX4_isWithin, Cond.selects RX4 yX4_isWithin yX4_isWithin, Cond.code yX4_isWithin cX4_isWithin 5 (some .boolean), Cond.methodLink RX5 214 yX1_keep, Cond.instanceMethod yX1_keep, Cond.selects RX1 yX1_keep yX1_keep, Cond.initialized RX1, Cond.code yX1_keep cX1_keep 5 none, Cond.fieldLink RX1 9 "ParserParlour$Memory" "lastVerb" "I", Cond.fieldLink RX1 15 "ParserParlour$Memory" "lastMeant" "I"]
def wsX5_carryOut_r3 : List Cond := [Cond.fieldLink RX1 18 "ParserParlour$Memory" "lastDone" "I", Cond.fieldLink RX1 21 "ParserParlour$Memory" "lastTarget" "I", Cond.fieldLink RX1 24 "ParserParlour$Memory" "lastAlone" "I", Cond.methodLink RX1 27 yJ6_bitCount_0f7a4, Cond.static yJ6_bitCount_0f7a4, Cond.initialized RJ6, Cond.code yJ6_bitCount_0f7a4 cJ6_bitCount_0f7a4 1 (some .int), Cond.constant RJ6 265 (1431655765), Cond.constant RJ6 266 (858993459), Cond.constant RJ6 267 (252645135)]
def wsX5_carryOut : List Cond := .code yX5_carryOut cX5_carryOut 3 none :: ((wsX5_carryOut_r1 ++ (wsX5_carryOut_r2 ++ wsX5_carryOut_r3)) ++ wsX50 ++ wsX00 ++ wsX20 ++ wsX40 ++ wsX10)
def wsX5_lookAtOrder_r1 : List Cond := [Cond.fieldLink RX5 42 "ParserParlour" "meaning" "LParserParlour$Meaning;", Cond.fieldLink RX5 26 "ParserParlour" "order" "LParserParlour$Order;", Cond.fieldLink RX5 50 "ParserParlour" "wrongPlace" "I", Cond.fieldLink RX5 53 "ParserParlour" "askedThings" "I", Cond.fieldLink RX5 56 "ParserParlour" "askedPhrase" "I", Cond.methodLink RX5 189 yX0_find, Cond.instanceMethod yX0_find, Cond.selects RX0 yX0_find yX0_find, Cond.initialized RX0, Cond.code yX0_find cX0_find 4 (some .int), Cond.fieldLink RX0 9 "ParserParlour$Meaning" "world" "LParserParlour$World;", Cond.fieldLink RX0 15 "ParserParlour$Meaning" "order" "LParserParlour$Order;", Cond.fieldLink RX0 31 "ParserParlour$Meaning" "result" "I", Cond.fieldLink RX0 34 "ParserParlour$Meaning" "group" "I", Cond.fieldLink RX0 37 "ParserParlour$Meaning" "target" "I", Cond.methodLink RX0 46 yX4_reachable, Cond.instanceMethod yX4_reachable, Cond.selects RX4 yX4_reachable yX4_reachable, Cond.initialized RX4, Cond.code yX4_reachable cX4_reachable 5 (some .int), Cond.fieldLink RX4 21 "ParserParlour$World" "count" "I", Cond.fieldLink RX4 28 "ParserParlour$World" "openBoxes" "I", Cond.methodLink RX4 31 yX4_holderOf, Cond.instanceMethod yX4_holderOf]
def wsX5_lookAtOrder_r2 : List Cond := [Cond.selects RX4 yX4_holderOf yX4_holderOf, Cond.code yX4_holderOf cX4_holderOf 2 (some .int), Cond.fieldLink RX4 18 "ParserParlour$World" "holders" "[I", Cond.static yX5_contains, Cond.initialized RX5, Cond.code yX5_contains cX5_contains 2 (some .boolean), Cond.methodLink RX0 23 yX0_start, Cond.instanceMethod yX0_start, Cond.selects RX0 yX0_start yX0_start, Cond.code yX0_start cX0_start 2 none, Cond.fieldLink RX0 27 "ParserParlour$Meaning" "reach" "I", Cond.fieldLink RX0 40 "ParserParlour$Meaning" "openPhrase" "I", Cond.fieldLink RX0 43 "ParserParlour$Meaning" "choice" "I", Cond.methodLink RX0 57 yX4_suited, Cond.instanceMethod yX4_suited, Cond.selects RX4 yX4_suited yX4_suited, Cond.code yX4_suited cX4_suited 3 (some .int), Cond.fieldLink RX4 25 "ParserParlour$World" "boxes" "I", Cond.methodLink RX4 39 yX4_reachable, Cond.methodLink RX4 43 yX4_held, Cond.instanceMethod yX4_held, Cond.selects RX4 yX4_held yX4_held, Cond.code yX4_held cX4_held 3 (some .int), Cond.methodLink RX0 64 yX2_roleOf]
def wsX5_lookAtOrder_r3 : List Cond := [Cond.instanceMethod yX2_roleOf, Cond.selects RX2 yX2_roleOf yX2_roleOf, Cond.initialized RX2, Cond.code yX2_roleOf cX2_roleOf 2 (some .int), Cond.fieldLink RX2 18 "ParserParlour$Order" "roles" "[I", Cond.methodLink RX2 88 yX2_hasPhrase, Cond.instanceMethod yX2_hasPhrase, Cond.selects RX2 yX2_hasPhrase yX2_hasPhrase, Cond.code yX2_hasPhrase cX2_hasPhrase 2 (some .boolean), Cond.fieldLink RX2 15 "ParserParlour$Order" "count" "I", Cond.methodLink RX0 67 yX0_findPart, Cond.instanceMethod yX0_findPart, Cond.selects RX0 yX0_findPart yX0_findPart, Cond.code yX0_findPart cX0_findPart 5 (some .int), Cond.fieldLink RX0 19 "ParserParlour$Meaning" "memory" "LParserParlour$Memory;", Cond.methodLink RX0 71 yX0_findSingle, Cond.instanceMethod yX0_findSingle, Cond.selects RX0 yX0_findSingle yX0_findSingle, Cond.code yX0_findSingle cX0_findSingle 5 (some .int), Cond.methodLink RX0 81 yX2_hasPhrase, Cond.methodLink RX0 94 yX0_orNothing, Cond.instanceMethod yX0_orNothing, Cond.selects RX0 yX0_orNothing yX0_orNothing, Cond.code yX0_orNothing cX0_orNothing 3 (some .int)]
def wsX5_lookAtOrder_r4 : List Cond := [Cond.methodLink RX0 97 yX0_fitting, Cond.instanceMethod yX0_fitting, Cond.selects RX0 yX0_fitting yX0_fitting, Cond.code yX0_fitting cX0_fitting 2 (some .int), Cond.methodLink RX0 120 yX4_described, Cond.instanceMethod yX4_described, Cond.selects RX4 yX4_described yX4_described, Cond.code yX4_described cX4_described 7 (some .int), Cond.fieldLink RX4 9 "ParserParlour$World" "nouns" "[I", Cond.fieldLink RX4 15 "ParserParlour$World" "adjectiveSets" "[I", Cond.methodLink RX0 106 yJ6_bitCount_0f7a4, Cond.static yJ6_bitCount_0f7a4, Cond.initialized RJ6, Cond.code yJ6_bitCount_0f7a4 cJ6_bitCount_0f7a4 1 (some .int), Cond.constant RJ6 265 (1431655765), Cond.constant RJ6 266 (858993459), Cond.constant RJ6 267 (252645135), Cond.methodLink RX0 111 yX0_ask, Cond.instanceMethod yX0_ask, Cond.selects RX0 yX0_ask yX0_ask, Cond.code yX0_ask cX0_ask 3 (some .int), Cond.methodLink RX0 74 yX0_onlyOf, Cond.instanceMethod yX0_onlyOf, Cond.selects RX0 yX0_onlyOf yX0_onlyOf]
def wsX5_lookAtOrder_r5 : List Cond := [Cond.code yX0_onlyOf cX0_onlyOf 3 (some .int), Cond.methodLink RX5 150 yX2_lastPlaceOf, Cond.instanceMethod yX2_lastPlaceOf, Cond.selects RX2 yX2_lastPlaceOf yX2_lastPlaceOf, Cond.code yX2_lastPlaceOf cX2_lastPlaceOf 2 (some .int), Cond.fieldLink RX2 31 "ParserParlour$Order" "lastPlaces" "[I", Cond.methodLink RX5 198 yX5_carryOut, Cond.instanceMethod yX5_carryOut, Cond.selects RX5 yX5_carryOut yX5_carryOut, Cond.code yX5_carryOut cX5_carryOut 3 none, Cond.fieldLink RX5 12 "ParserParlour" "world" "LParserParlour$World;", Cond.fieldLink RX5 33 "ParserParlour" "memory" "LParserParlour$Memory;", Cond.methodLink RX5 99 yX5_contains, Cond.methodLink RX5 210 yX4_perform, Cond.instanceMethod yX4_perform, Cond.selects RX4 yX4_perform yX4_perform, Cond.code yX4_perform cX4_perform 4 (some .boolean), Cond.methodLink RX4 46 yX4_has, Cond.instanceMethod yX4_has, Cond.selects RX4 yX4_has yX4_has, Cond.code yX4_has cX4_has 2 (some .boolean), Cond.methodLink RX4 50 yX4_suited, Cond.methodLink RX4 53 yX4_isWithin, Cond.instanceMethod yX4_isWithin]
def wsX5_lookAtOrder_r6 : List Cond := [Cond.selects RX4 yX4_isWithin yX4_isWithin, Cond.code yX4_isWithin cX4_isWithin 5 (some .boolean), Cond.methodLink RX5 214 yX1_keep, Cond.instanceMethod yX1_keep, Cond.selects RX1 yX1_keep yX1_keep, Cond.initialized RX1, Cond.code yX1_keep cX1_keep 5 none, Cond.fieldLink RX1 9 "ParserParlour$Memory" "lastVerb" "I", Cond.fieldLink RX1 15 "ParserParlour$Memory" "lastMeant" "I", Cond.fieldLink RX1 18 "ParserParlour$Memory" "lastDone" "I", Cond.fieldLink RX1 21 "ParserParlour$Memory" "lastTarget" "I", Cond.fieldLink RX1 24 "ParserParlour$Memory" "lastAlone" "I", Cond.methodLink RX1 27 yJ6_bitCount_0f7a4]
def wsX5_lookAtOrder : List Cond := .code yX5_lookAtOrder cX5_lookAtOrder 2 (some .int) :: ((wsX5_lookAtOrder_r1 ++ (wsX5_lookAtOrder_r2 ++ (wsX5_lookAtOrder_r3 ++ (wsX5_lookAtOrder_r4 ++ (wsX5_lookAtOrder_r5 ++ wsX5_lookAtOrder_r6))))) ++ wsX50 ++ wsX00 ++ wsX20 ++ wsX40 ++ wsX10)
def wsX5_hearOrder_r1 : List Cond := [Cond.fieldLink RX5 26 "ParserParlour" "order" "LParserParlour$Order;", Cond.fieldLink RX5 19 "ParserParlour" "words" "LParserParlour$Words;", Cond.fieldLink RX5 50 "ParserParlour" "wrongPlace" "I", Cond.methodLink RX5 153 yX5_dropQuestion, Cond.instanceMethod yX5_dropQuestion, Cond.selects RX5 yX5_dropQuestion yX5_dropQuestion, Cond.initialized RX5, Cond.code yX5_dropQuestion cX5_dropQuestion 1 none, Cond.fieldLink RX5 53 "ParserParlour" "askedThings" "I", Cond.fieldLink RX5 56 "ParserParlour" "askedPhrase" "I", Cond.methodLink RX5 156 yX2_read, Cond.instanceMethod yX2_read, Cond.selects RX2 yX2_read yX2_read, Cond.initialized RX2, Cond.code yX2_read cX2_read 4 (some .boolean), Cond.fieldLink RX2 15 "ParserParlour$Order" "count" "I", Cond.fieldLink RX2 9 "ParserParlour$Order" "orderVerb" "I", Cond.methodLink RX2 37 yX3_peek, Cond.instanceMethod yX3_peek, Cond.selects RX3 yX3_peek yX3_peek, Cond.initialized RX3, Cond.code yX3_peek cX3_peek 1 (some .int), Cond.fieldLink RX3 19 "ParserParlour$Words" "place" "I", Cond.fieldLink RX3 15 "ParserParlour$Words" "count" "I"]
def wsX5_hearOrder_r2 : List Cond := [Cond.fieldLink RX3 9 "ParserParlour$Words" "given" "[I", Cond.methodLink RX2 43 yX3_accept, Cond.instanceMethod yX3_accept, Cond.selects RX3 yX3_accept yX3_accept, Cond.code yX3_accept cX3_accept 2 (some .boolean), Cond.methodLink RX3 28 yX3_peek, Cond.methodLink RX2 47 yX2_readPart, Cond.instanceMethod yX2_readPart, Cond.selects RX2 yX2_readPart yX2_readPart, Cond.code yX2_readPart cX2_readPart 4 (some .boolean), Cond.methodLink RX2 59 yX2_add, Cond.instanceMethod yX2_add, Cond.selects RX2 yX2_add yX2_add, Cond.code yX2_add cX2_add 4 (some .boolean), Cond.fieldLink RX2 18 "ParserParlour$Order" "roles" "[I", Cond.fieldLink RX2 22 "ParserParlour$Order" "kinds" "[I", Cond.fieldLink RX2 25 "ParserParlour$Order" "adjectiveSets" "[I", Cond.fieldLink RX2 28 "ParserParlour$Order" "nouns" "[I", Cond.fieldLink RX2 31 "ParserParlour$Order" "lastPlaces" "[I", Cond.fieldLink RX2 34 "ParserParlour$Order" "answers" "[I", Cond.methodLink RX2 63 yX2_nextSingleRole, Cond.instanceMethod yX2_nextSingleRole, Cond.selects RX2 yX2_nextSingleRole yX2_nextSingleRole, Cond.code yX2_nextSingleRole cX2_nextSingleRole 1 (some .int)]
def wsX5_hearOrder_r3 : List Cond := [Cond.methodLink RX2 78 yX2_roleOf, Cond.instanceMethod yX2_roleOf, Cond.selects RX2 yX2_roleOf yX2_roleOf, Cond.code yX2_roleOf cX2_roleOf 2 (some .int), Cond.methodLink RX2 88 yX2_hasPhrase, Cond.instanceMethod yX2_hasPhrase, Cond.selects RX2 yX2_hasPhrase yX2_hasPhrase, Cond.code yX2_hasPhrase cX2_hasPhrase 2 (some .boolean), Cond.methodLink RX2 51 yX2_readSingle, Cond.instanceMethod yX2_readSingle, Cond.selects RX2 yX2_readSingle yX2_readSingle, Cond.code yX2_readSingle cX2_readSingle 3 (some .boolean), Cond.methodLink RX2 66 yX3_readAdjectives, Cond.instanceMethod yX3_readAdjectives, Cond.selects RX3 yX3_readAdjectives yX3_readAdjectives, Cond.code yX3_readAdjectives cX3_readAdjectives 2 none, Cond.fieldLink RX3 22 "ParserParlour$Words" "adjectives" "I", Cond.fieldLink RX3 25 "ParserParlour$Words" "noun" "I", Cond.static yX5_isBetween, Cond.code yX5_isBetween cX5_isBetween 3 (some .boolean), Cond.methodLink RX2 75 yX2_readHead, Cond.instanceMethod yX2_readHead, Cond.selects RX2 yX2_readHead yX2_readHead, Cond.code yX2_readHead cX2_readHead 3 (some .boolean)]
def wsX5_hearOrder_r4 : List Cond := [Cond.methodLink RX2 72 yX3_acceptNoun, Cond.instanceMethod yX3_acceptNoun, Cond.selects RX3 yX3_acceptNoun yX3_acceptNoun, Cond.code yX3_acceptNoun cX3_acceptNoun 2 (some .boolean), Cond.methodLink RX2 55 yX3_atEnd, Cond.instanceMethod yX3_atEnd, Cond.selects RX3 yX3_atEnd yX3_atEnd, Cond.code yX3_atEnd cX3_atEnd 1 (some .boolean), Cond.methodLink RX5 163 yX5_lookAtOrder, Cond.instanceMethod yX5_lookAtOrder, Cond.selects RX5 yX5_lookAtOrder yX5_lookAtOrder, Cond.code yX5_lookAtOrder cX5_lookAtOrder 2 (some .int), Cond.fieldLink RX5 42 "ParserParlour" "meaning" "LParserParlour$Meaning;", Cond.methodLink RX5 189 yX0_find, Cond.instanceMethod yX0_find, Cond.selects RX0 yX0_find yX0_find, Cond.initialized RX0, Cond.code yX0_find cX0_find 4 (some .int), Cond.fieldLink RX0 9 "ParserParlour$Meaning" "world" "LParserParlour$World;", Cond.fieldLink RX0 15 "ParserParlour$Meaning" "order" "LParserParlour$Order;", Cond.fieldLink RX0 31 "ParserParlour$Meaning" "result" "I", Cond.fieldLink RX0 34 "ParserParlour$Meaning" "group" "I", Cond.fieldLink RX0 37 "ParserParlour$Meaning" "target" "I", Cond.methodLink RX0 46 yX4_reachable]
def wsX5_hearOrder_r5 : List Cond := [Cond.instanceMethod yX4_reachable, Cond.selects RX4 yX4_reachable yX4_reachable, Cond.initialized RX4, Cond.code yX4_reachable cX4_reachable 5 (some .int), Cond.fieldLink RX4 21 "ParserParlour$World" "count" "I", Cond.fieldLink RX4 28 "ParserParlour$World" "openBoxes" "I", Cond.methodLink RX4 31 yX4_holderOf, Cond.instanceMethod yX4_holderOf, Cond.selects RX4 yX4_holderOf yX4_holderOf, Cond.code yX4_holderOf cX4_holderOf 2 (some .int), Cond.fieldLink RX4 18 "ParserParlour$World" "holders" "[I", Cond.static yX5_contains, Cond.code yX5_contains cX5_contains 2 (some .boolean), Cond.methodLink RX0 23 yX0_start, Cond.instanceMethod yX0_start, Cond.selects RX0 yX0_start yX0_start, Cond.code yX0_start cX0_start 2 none, Cond.fieldLink RX0 27 "ParserParlour$Meaning" "reach" "I", Cond.fieldLink RX0 40 "ParserParlour$Meaning" "openPhrase" "I", Cond.fieldLink RX0 43 "ParserParlour$Meaning" "choice" "I", Cond.methodLink RX0 57 yX4_suited, Cond.instanceMethod yX4_suited, Cond.selects RX4 yX4_suited yX4_suited, Cond.code yX4_suited cX4_suited 3 (some .int)]
def wsX5_hearOrder_r6 : List Cond := [Cond.fieldLink RX4 25 "ParserParlour$World" "boxes" "I", Cond.methodLink RX4 39 yX4_reachable, Cond.methodLink RX4 43 yX4_held, Cond.instanceMethod yX4_held, Cond.selects RX4 yX4_held yX4_held, Cond.code yX4_held cX4_held 3 (some .int), Cond.methodLink RX0 64 yX2_roleOf, Cond.methodLink RX0 67 yX0_findPart, Cond.instanceMethod yX0_findPart, Cond.selects RX0 yX0_findPart yX0_findPart, Cond.code yX0_findPart cX0_findPart 5 (some .int), Cond.fieldLink RX0 19 "ParserParlour$Meaning" "memory" "LParserParlour$Memory;", Cond.methodLink RX0 71 yX0_findSingle, Cond.instanceMethod yX0_findSingle, Cond.selects RX0 yX0_findSingle yX0_findSingle, Cond.code yX0_findSingle cX0_findSingle 5 (some .int), Cond.methodLink RX0 81 yX2_hasPhrase, Cond.methodLink RX0 94 yX0_orNothing, Cond.instanceMethod yX0_orNothing, Cond.selects RX0 yX0_orNothing yX0_orNothing, Cond.code yX0_orNothing cX0_orNothing 3 (some .int), Cond.methodLink RX0 97 yX0_fitting, Cond.instanceMethod yX0_fitting, Cond.selects RX0 yX0_fitting yX0_fitting]
def wsX5_hearOrder_r7 : List Cond := [Cond.code yX0_fitting cX0_fitting 2 (some .int), Cond.methodLink RX0 120 yX4_described, Cond.instanceMethod yX4_described, Cond.selects RX4 yX4_described yX4_described, Cond.code yX4_described cX4_described 7 (some .int), Cond.fieldLink RX4 9 "ParserParlour$World" "nouns" "[I", Cond.fieldLink RX4 15 "ParserParlour$World" "adjectiveSets" "[I", Cond.methodLink RX0 106 yJ6_bitCount_0f7a4, Cond.static yJ6_bitCount_0f7a4, Cond.initialized RJ6, Cond.code yJ6_bitCount_0f7a4 cJ6_bitCount_0f7a4 1 (some .int), Cond.constant RJ6 265 (1431655765), Cond.constant RJ6 266 (858993459), Cond.constant RJ6 267 (252645135), Cond.methodLink RX0 111 yX0_ask, Cond.instanceMethod yX0_ask, Cond.selects RX0 yX0_ask yX0_ask, Cond.code yX0_ask cX0_ask 3 (some .int), Cond.methodLink RX0 74 yX0_onlyOf, Cond.instanceMethod yX0_onlyOf, Cond.selects RX0 yX0_onlyOf yX0_onlyOf, Cond.code yX0_onlyOf cX0_onlyOf 3 (some .int), Cond.methodLink RX5 150 yX2_lastPlaceOf, Cond.instanceMethod yX2_lastPlaceOf]
def wsX5_hearOrder_r8 : List Cond := [Cond.selects RX2 yX2_lastPlaceOf yX2_lastPlaceOf, Cond.code yX2_lastPlaceOf cX2_lastPlaceOf 2 (some .int), Cond.methodLink RX5 198 yX5_carryOut, Cond.instanceMethod yX5_carryOut, Cond.selects RX5 yX5_carryOut yX5_carryOut, Cond.code yX5_carryOut cX5_carryOut 3 none, Cond.fieldLink RX5 12 "ParserParlour" "world" "LParserParlour$World;", Cond.fieldLink RX5 33 "ParserParlour" "memory" "LParserParlour$Memory;", Cond.methodLink RX5 99 yX5_contains, Cond.methodLink RX5 210 yX4_perform, Cond.instanceMethod yX4_perform, Cond.selects RX4 yX4_perform yX4_perform, Cond.code yX4_perform cX4_perform 4 (some .boolean), Cond.methodLink RX4 46 yX4_has, Cond.instanceMethod yX4_has, Cond.selects RX4 yX4_has yX4_has, Cond.code yX4_has cX4_has 2 (some .boolean), Cond.methodLink RX4 50 yX4_suited, Cond.methodLink RX4 53 yX4_isWithin, Cond.instanceMethod yX4_isWithin, Cond.selects RX4 yX4_isWithin yX4_isWithin, Cond.code yX4_isWithin cX4_isWithin 5 (some .boolean), Cond.methodLink RX5 214 yX1_keep, Cond.instanceMethod yX1_keep]
def wsX5_hearOrder_r9 : List Cond := [Cond.selects RX1 yX1_keep yX1_keep, Cond.initialized RX1, Cond.code yX1_keep cX1_keep 5 none, Cond.fieldLink RX1 9 "ParserParlour$Memory" "lastVerb" "I", Cond.fieldLink RX1 15 "ParserParlour$Memory" "lastMeant" "I", Cond.fieldLink RX1 18 "ParserParlour$Memory" "lastDone" "I", Cond.fieldLink RX1 21 "ParserParlour$Memory" "lastTarget" "I", Cond.fieldLink RX1 24 "ParserParlour$Memory" "lastAlone" "I", Cond.methodLink RX1 27 yJ6_bitCount_0f7a4]
def wsX5_hearOrder : List Cond := .code yX5_hearOrder cX5_hearOrder 1 (some .int) :: ((wsX5_hearOrder_r1 ++ (wsX5_hearOrder_r2 ++ (wsX5_hearOrder_r3 ++ (wsX5_hearOrder_r4 ++ (wsX5_hearOrder_r5 ++ (wsX5_hearOrder_r6 ++ (wsX5_hearOrder_r7 ++ (wsX5_hearOrder_r8 ++ wsX5_hearOrder_r9)))))))) ++ wsX50 ++ wsX30 ++ wsX20 ++ wsX00 ++ wsX40 ++ wsX10)
def wsX5_hearAnswer_r1 : List Cond := [Cond.fieldLink RX5 19 "ParserParlour" "words" "LParserParlour$Words;", Cond.fieldLink RX5 50 "ParserParlour" "wrongPlace" "I", Cond.fieldLink RX5 12 "ParserParlour" "world" "LParserParlour$World;", Cond.fieldLink RX5 53 "ParserParlour" "askedThings" "I", Cond.fieldLink RX5 26 "ParserParlour" "order" "LParserParlour$Order;", Cond.fieldLink RX5 56 "ParserParlour" "askedPhrase" "I", Cond.methodLink RX5 166 yX3_readAnswer, Cond.instanceMethod yX3_readAnswer, Cond.selects RX3 yX3_readAnswer yX3_readAnswer, Cond.initialized RX3, Cond.code yX3_readAnswer cX3_readAnswer 2 (some .boolean), Cond.fieldLink RX3 22 "ParserParlour$Words" "adjectives" "I", Cond.methodLink RX3 36 yX3_accept, Cond.instanceMethod yX3_accept, Cond.selects RX3 yX3_accept yX3_accept, Cond.code yX3_accept cX3_accept 2 (some .boolean), Cond.fieldLink RX3 19 "ParserParlour$Words" "place" "I", Cond.methodLink RX3 28 yX3_peek, Cond.instanceMethod yX3_peek, Cond.selects RX3 yX3_peek yX3_peek, Cond.code yX3_peek cX3_peek 1 (some .int), Cond.fieldLink RX3 15 "ParserParlour$Words" "count" "I", Cond.fieldLink RX3 9 "ParserParlour$Words" "given" "[I", Cond.methodLink RX3 40 yX3_readAdjectives]
def wsX5_hearAnswer_r2 : List Cond := [Cond.instanceMethod yX3_readAdjectives, Cond.selects RX3 yX3_readAdjectives yX3_readAdjectives, Cond.code yX3_readAdjectives cX3_readAdjectives 2 none, Cond.fieldLink RX3 25 "ParserParlour$Words" "noun" "I", Cond.static yX5_isBetween, Cond.initialized RX5, Cond.code yX5_isBetween cX5_isBetween 3 (some .boolean), Cond.methodLink RX3 43 yX3_acceptNoun, Cond.instanceMethod yX3_acceptNoun, Cond.selects RX3 yX3_acceptNoun yX3_acceptNoun, Cond.code yX3_acceptNoun cX3_acceptNoun 2 (some .boolean), Cond.methodLink RX3 46 yX3_atEnd, Cond.instanceMethod yX3_atEnd, Cond.selects RX3 yX3_atEnd yX3_atEnd, Cond.code yX3_atEnd cX3_atEnd 1 (some .boolean), Cond.methodLink RX5 176 yX4_described, Cond.instanceMethod yX4_described, Cond.selects RX4 yX4_described yX4_described, Cond.initialized RX4, Cond.code yX4_described cX4_described 7 (some .int), Cond.fieldLink RX4 21 "ParserParlour$World" "count" "I", Cond.fieldLink RX4 9 "ParserParlour$World" "nouns" "[I", Cond.fieldLink RX4 15 "ParserParlour$World" "adjectiveSets" "[I", Cond.methodLink RX5 180 yJ6_bitCount_0f7a4]
def wsX5_hearAnswer_r3 : List Cond := [Cond.static yJ6_bitCount_0f7a4, Cond.initialized RJ6, Cond.code yJ6_bitCount_0f7a4 cJ6_bitCount_0f7a4 1 (some .int), Cond.constant RJ6 265 (1431655765), Cond.constant RJ6 266 (858993459), Cond.constant RJ6 267 (252645135), Cond.methodLink RX5 185 yX2_answer, Cond.instanceMethod yX2_answer, Cond.selects RX2 yX2_answer yX2_answer, Cond.initialized RX2, Cond.code yX2_answer cX2_answer 3 none, Cond.fieldLink RX2 34 "ParserParlour$Order" "answers" "[I", Cond.methodLink RX2 88 yX2_hasPhrase, Cond.instanceMethod yX2_hasPhrase, Cond.selects RX2 yX2_hasPhrase yX2_hasPhrase, Cond.code yX2_hasPhrase cX2_hasPhrase 2 (some .boolean), Cond.fieldLink RX2 15 "ParserParlour$Order" "count" "I", Cond.methodLink RX5 153 yX5_dropQuestion, Cond.instanceMethod yX5_dropQuestion, Cond.selects RX5 yX5_dropQuestion yX5_dropQuestion, Cond.code yX5_dropQuestion cX5_dropQuestion 1 none, Cond.methodLink RX5 163 yX5_lookAtOrder, Cond.instanceMethod yX5_lookAtOrder, Cond.selects RX5 yX5_lookAtOrder yX5_lookAtOrder]
def wsX5_hearAnswer_r4 : List Cond := [Cond.code yX5_lookAtOrder cX5_lookAtOrder 2 (some .int), Cond.fieldLink RX5 42 "ParserParlour" "meaning" "LParserParlour$Meaning;", Cond.methodLink RX5 189 yX0_find, Cond.instanceMethod yX0_find, Cond.selects RX0 yX0_find yX0_find, Cond.initialized RX0, Cond.code yX0_find cX0_find 4 (some .int), Cond.fieldLink RX0 9 "ParserParlour$Meaning" "world" "LParserParlour$World;", Cond.fieldLink RX0 15 "ParserParlour$Meaning" "order" "LParserParlour$Order;", Cond.fieldLink RX0 31 "ParserParlour$Meaning" "result" "I", Cond.fieldLink RX0 34 "ParserParlour$Meaning" "group" "I", Cond.fieldLink RX0 37 "ParserParlour$Meaning" "target" "I", Cond.methodLink RX0 46 yX4_reachable, Cond.instanceMethod yX4_reachable, Cond.selects RX4 yX4_reachable yX4_reachable, Cond.code yX4_reachable cX4_reachable 5 (some .int), Cond.fieldLink RX4 28 "ParserParlour$World" "openBoxes" "I", Cond.methodLink RX4 31 yX4_holderOf, Cond.instanceMethod yX4_holderOf, Cond.selects RX4 yX4_holderOf yX4_holderOf, Cond.code yX4_holderOf cX4_holderOf 2 (some .int), Cond.fieldLink RX4 18 "ParserParlour$World" "holders" "[I", Cond.static yX5_contains, Cond.code yX5_contains cX5_contains 2 (some .boolean)]
def wsX5_hearAnswer_r5 : List Cond := [Cond.methodLink RX0 23 yX0_start, Cond.instanceMethod yX0_start, Cond.selects RX0 yX0_start yX0_start, Cond.code yX0_start cX0_start 2 none, Cond.fieldLink RX0 27 "ParserParlour$Meaning" "reach" "I", Cond.fieldLink RX0 40 "ParserParlour$Meaning" "openPhrase" "I", Cond.fieldLink RX0 43 "ParserParlour$Meaning" "choice" "I", Cond.methodLink RX0 57 yX4_suited, Cond.instanceMethod yX4_suited, Cond.selects RX4 yX4_suited yX4_suited, Cond.code yX4_suited cX4_suited 3 (some .int), Cond.fieldLink RX4 25 "ParserParlour$World" "boxes" "I", Cond.methodLink RX4 39 yX4_reachable, Cond.methodLink RX4 43 yX4_held, Cond.instanceMethod yX4_held, Cond.selects RX4 yX4_held yX4_held, Cond.code yX4_held cX4_held 3 (some .int), Cond.methodLink RX0 64 yX2_roleOf, Cond.instanceMethod yX2_roleOf, Cond.selects RX2 yX2_roleOf yX2_roleOf, Cond.code yX2_roleOf cX2_roleOf 2 (some .int), Cond.fieldLink RX2 18 "ParserParlour$Order" "roles" "[I", Cond.methodLink RX0 67 yX0_findPart, Cond.instanceMethod yX0_findPart]
def wsX5_hearAnswer_r6 : List Cond := [Cond.selects RX0 yX0_findPart yX0_findPart, Cond.code yX0_findPart cX0_findPart 5 (some .int), Cond.fieldLink RX0 19 "ParserParlour$Meaning" "memory" "LParserParlour$Memory;", Cond.methodLink RX0 71 yX0_findSingle, Cond.instanceMethod yX0_findSingle, Cond.selects RX0 yX0_findSingle yX0_findSingle, Cond.code yX0_findSingle cX0_findSingle 5 (some .int), Cond.methodLink RX0 81 yX2_hasPhrase, Cond.methodLink RX0 94 yX0_orNothing, Cond.instanceMethod yX0_orNothing, Cond.selects RX0 yX0_orNothing yX0_orNothing, Cond.code yX0_orNothing cX0_orNothing 3 (some .int), Cond.methodLink RX0 97 yX0_fitting, Cond.instanceMethod yX0_fitting, Cond.selects RX0 yX0_fitting yX0_fitting, Cond.code yX0_fitting cX0_fitting 2 (some .int), Cond.methodLink RX0 120 yX4_described, Cond.methodLink RX0 106 yJ6_bitCount_0f7a4, Cond.methodLink RX0 111 yX0_ask, Cond.instanceMethod yX0_ask, Cond.selects RX0 yX0_ask yX0_ask, Cond.code yX0_ask cX0_ask 3 (some .int), Cond.methodLink RX0 74 yX0_onlyOf, Cond.instanceMethod yX0_onlyOf]
def wsX5_hearAnswer_r7 : List Cond := [Cond.selects RX0 yX0_onlyOf yX0_onlyOf, Cond.code yX0_onlyOf cX0_onlyOf 3 (some .int), Cond.methodLink RX5 150 yX2_lastPlaceOf, Cond.instanceMethod yX2_lastPlaceOf, Cond.selects RX2 yX2_lastPlaceOf yX2_lastPlaceOf, Cond.code yX2_lastPlaceOf cX2_lastPlaceOf 2 (some .int), Cond.fieldLink RX2 31 "ParserParlour$Order" "lastPlaces" "[I", Cond.methodLink RX5 198 yX5_carryOut, Cond.instanceMethod yX5_carryOut, Cond.selects RX5 yX5_carryOut yX5_carryOut, Cond.code yX5_carryOut cX5_carryOut 3 none, Cond.fieldLink RX5 33 "ParserParlour" "memory" "LParserParlour$Memory;", Cond.methodLink RX5 99 yX5_contains, Cond.methodLink RX5 210 yX4_perform, Cond.instanceMethod yX4_perform, Cond.selects RX4 yX4_perform yX4_perform, Cond.code yX4_perform cX4_perform 4 (some .boolean), Cond.methodLink RX4 46 yX4_has, Cond.instanceMethod yX4_has, Cond.selects RX4 yX4_has yX4_has, Cond.code yX4_has cX4_has 2 (some .boolean), Cond.methodLink RX4 50 yX4_suited, Cond.methodLink RX4 53 yX4_isWithin, Cond.instanceMethod yX4_isWithin]
def wsX5_hearAnswer_r8 : List Cond := [Cond.selects RX4 yX4_isWithin yX4_isWithin, Cond.code yX4_isWithin cX4_isWithin 5 (some .boolean), Cond.methodLink RX5 214 yX1_keep, Cond.instanceMethod yX1_keep, Cond.selects RX1 yX1_keep yX1_keep, Cond.initialized RX1, Cond.code yX1_keep cX1_keep 5 none, Cond.fieldLink RX1 9 "ParserParlour$Memory" "lastVerb" "I", Cond.fieldLink RX1 15 "ParserParlour$Memory" "lastMeant" "I", Cond.fieldLink RX1 18 "ParserParlour$Memory" "lastDone" "I", Cond.fieldLink RX1 21 "ParserParlour$Memory" "lastTarget" "I", Cond.fieldLink RX1 24 "ParserParlour$Memory" "lastAlone" "I", Cond.methodLink RX1 27 yJ6_bitCount_0f7a4]
def wsX5_hearAnswer : List Cond := .code yX5_hearAnswer cX5_hearAnswer 2 (some .int) :: ((wsX5_hearAnswer_r1 ++ (wsX5_hearAnswer_r2 ++ (wsX5_hearAnswer_r3 ++ (wsX5_hearAnswer_r4 ++ (wsX5_hearAnswer_r5 ++ (wsX5_hearAnswer_r6 ++ (wsX5_hearAnswer_r7 ++ wsX5_hearAnswer_r8))))))) ++ wsX50 ++ wsX30 ++ wsX40 ++ wsX20 ++ wsX00 ++ wsX10)
def wsX5_say_r1 : List Cond := [Cond.fieldLink RX5 50 "ParserParlour" "wrongPlace" "I", Cond.fieldLink RX5 19 "ParserParlour" "words" "LParserParlour$Words;", Cond.fieldLink RX5 46 "ParserParlour" "lastOutcome" "I", Cond.fieldLink RX5 53 "ParserParlour" "askedThings" "I", Cond.fieldLink RX5 59 "ParserParlour" "questionCount" "I", Cond.methodLink RX5 123 yX3_peek, Cond.instanceMethod yX3_peek, Cond.selects RX3 yX3_peek yX3_peek, Cond.initialized RX3, Cond.code yX3_peek cX3_peek 1 (some .int), Cond.fieldLink RX3 19 "ParserParlour$Words" "place" "I", Cond.fieldLink RX3 15 "ParserParlour$Words" "count" "I", Cond.fieldLink RX3 9 "ParserParlour$Words" "given" "[I", Cond.methodLink RX5 126 yX5_isVerb, Cond.static yX5_isVerb, Cond.initialized RX5, Cond.code yX5_isVerb cX5_isVerb 1 (some .boolean), Cond.methodLink RX5 129 yX5_hearOrder, Cond.instanceMethod yX5_hearOrder, Cond.selects RX5 yX5_hearOrder yX5_hearOrder, Cond.code yX5_hearOrder cX5_hearOrder 1 (some .int), Cond.fieldLink RX5 26 "ParserParlour" "order" "LParserParlour$Order;", Cond.methodLink RX5 153 yX5_dropQuestion, Cond.instanceMethod yX5_dropQuestion]
def wsX5_say_r2 : List Cond := [Cond.selects RX5 yX5_dropQuestion yX5_dropQuestion, Cond.code yX5_dropQuestion cX5_dropQuestion 1 none, Cond.fieldLink RX5 56 "ParserParlour" "askedPhrase" "I", Cond.methodLink RX5 156 yX2_read, Cond.instanceMethod yX2_read, Cond.selects RX2 yX2_read yX2_read, Cond.initialized RX2, Cond.code yX2_read cX2_read 4 (some .boolean), Cond.fieldLink RX2 15 "ParserParlour$Order" "count" "I", Cond.fieldLink RX2 9 "ParserParlour$Order" "orderVerb" "I", Cond.methodLink RX2 37 yX3_peek, Cond.methodLink RX2 43 yX3_accept, Cond.instanceMethod yX3_accept, Cond.selects RX3 yX3_accept yX3_accept, Cond.code yX3_accept cX3_accept 2 (some .boolean), Cond.methodLink RX3 28 yX3_peek, Cond.methodLink RX2 47 yX2_readPart, Cond.instanceMethod yX2_readPart, Cond.selects RX2 yX2_readPart yX2_readPart, Cond.code yX2_readPart cX2_readPart 4 (some .boolean), Cond.methodLink RX2 59 yX2_add, Cond.instanceMethod yX2_add, Cond.selects RX2 yX2_add yX2_add, Cond.code yX2_add cX2_add 4 (some .boolean)]
def wsX5_say_r3 : List Cond := [Cond.fieldLink RX2 18 "ParserParlour$Order" "roles" "[I", Cond.fieldLink RX2 22 "ParserParlour$Order" "kinds" "[I", Cond.fieldLink RX2 25 "ParserParlour$Order" "adjectiveSets" "[I", Cond.fieldLink RX2 28 "ParserParlour$Order" "nouns" "[I", Cond.fieldLink RX2 31 "ParserParlour$Order" "lastPlaces" "[I", Cond.fieldLink RX2 34 "ParserParlour$Order" "answers" "[I", Cond.methodLink RX2 63 yX2_nextSingleRole, Cond.instanceMethod yX2_nextSingleRole, Cond.selects RX2 yX2_nextSingleRole yX2_nextSingleRole, Cond.code yX2_nextSingleRole cX2_nextSingleRole 1 (some .int), Cond.methodLink RX2 78 yX2_roleOf, Cond.instanceMethod yX2_roleOf, Cond.selects RX2 yX2_roleOf yX2_roleOf, Cond.code yX2_roleOf cX2_roleOf 2 (some .int), Cond.methodLink RX2 88 yX2_hasPhrase, Cond.instanceMethod yX2_hasPhrase, Cond.selects RX2 yX2_hasPhrase yX2_hasPhrase, Cond.code yX2_hasPhrase cX2_hasPhrase 2 (some .boolean), Cond.methodLink RX2 51 yX2_readSingle, Cond.instanceMethod yX2_readSingle, Cond.selects RX2 yX2_readSingle yX2_readSingle, Cond.code yX2_readSingle cX2_readSingle 3 (some .boolean), Cond.methodLink RX2 66 yX3_readAdjectives, Cond.instanceMethod yX3_readAdjectives]
def wsX5_say_r4 : List Cond := [Cond.selects RX3 yX3_readAdjectives yX3_readAdjectives, Cond.code yX3_readAdjectives cX3_readAdjectives 2 none, Cond.fieldLink RX3 22 "ParserParlour$Words" "adjectives" "I", Cond.fieldLink RX3 25 "ParserParlour$Words" "noun" "I", Cond.static yX5_isBetween, Cond.code yX5_isBetween cX5_isBetween 3 (some .boolean), Cond.methodLink RX2 75 yX2_readHead, Cond.instanceMethod yX2_readHead, Cond.selects RX2 yX2_readHead yX2_readHead, Cond.code yX2_readHead cX2_readHead 3 (some .boolean), Cond.methodLink RX2 72 yX3_acceptNoun, Cond.instanceMethod yX3_acceptNoun, Cond.selects RX3 yX3_acceptNoun yX3_acceptNoun, Cond.code yX3_acceptNoun cX3_acceptNoun 2 (some .boolean), Cond.methodLink RX2 55 yX3_atEnd, Cond.instanceMethod yX3_atEnd, Cond.selects RX3 yX3_atEnd yX3_atEnd, Cond.code yX3_atEnd cX3_atEnd 1 (some .boolean), Cond.methodLink RX5 163 yX5_lookAtOrder, Cond.instanceMethod yX5_lookAtOrder, Cond.selects RX5 yX5_lookAtOrder yX5_lookAtOrder, Cond.code yX5_lookAtOrder cX5_lookAtOrder 2 (some .int), Cond.fieldLink RX5 42 "ParserParlour" "meaning" "LParserParlour$Meaning;", Cond.methodLink RX5 189 yX0_find]
def wsX5_say_r5 : List Cond := [Cond.instanceMethod yX0_find, Cond.selects RX0 yX0_find yX0_find, Cond.initialized RX0, Cond.code yX0_find cX0_find 4 (some .int), Cond.fieldLink RX0 9 "ParserParlour$Meaning" "world" "LParserParlour$World;", Cond.fieldLink RX0 15 "ParserParlour$Meaning" "order" "LParserParlour$Order;", Cond.fieldLink RX0 31 "ParserParlour$Meaning" "result" "I", Cond.fieldLink RX0 34 "ParserParlour$Meaning" "group" "I", Cond.fieldLink RX0 37 "ParserParlour$Meaning" "target" "I", Cond.methodLink RX0 46 yX4_reachable, Cond.instanceMethod yX4_reachable, Cond.selects RX4 yX4_reachable yX4_reachable, Cond.initialized RX4, Cond.code yX4_reachable cX4_reachable 5 (some .int), Cond.fieldLink RX4 21 "ParserParlour$World" "count" "I", Cond.fieldLink RX4 28 "ParserParlour$World" "openBoxes" "I", Cond.methodLink RX4 31 yX4_holderOf, Cond.instanceMethod yX4_holderOf, Cond.selects RX4 yX4_holderOf yX4_holderOf, Cond.code yX4_holderOf cX4_holderOf 2 (some .int), Cond.fieldLink RX4 18 "ParserParlour$World" "holders" "[I", Cond.static yX5_contains, Cond.code yX5_contains cX5_contains 2 (some .boolean), Cond.methodLink RX0 23 yX0_start]
def wsX5_say_r6 : List Cond := [Cond.instanceMethod yX0_start, Cond.selects RX0 yX0_start yX0_start, Cond.code yX0_start cX0_start 2 none, Cond.fieldLink RX0 27 "ParserParlour$Meaning" "reach" "I", Cond.fieldLink RX0 40 "ParserParlour$Meaning" "openPhrase" "I", Cond.fieldLink RX0 43 "ParserParlour$Meaning" "choice" "I", Cond.methodLink RX0 57 yX4_suited, Cond.instanceMethod yX4_suited, Cond.selects RX4 yX4_suited yX4_suited, Cond.code yX4_suited cX4_suited 3 (some .int), Cond.fieldLink RX4 25 "ParserParlour$World" "boxes" "I", Cond.methodLink RX4 39 yX4_reachable, Cond.methodLink RX4 43 yX4_held, Cond.instanceMethod yX4_held, Cond.selects RX4 yX4_held yX4_held, Cond.code yX4_held cX4_held 3 (some .int), Cond.methodLink RX0 64 yX2_roleOf, Cond.methodLink RX0 67 yX0_findPart, Cond.instanceMethod yX0_findPart, Cond.selects RX0 yX0_findPart yX0_findPart, Cond.code yX0_findPart cX0_findPart 5 (some .int), Cond.fieldLink RX0 19 "ParserParlour$Meaning" "memory" "LParserParlour$Memory;", Cond.methodLink RX0 71 yX0_findSingle, Cond.instanceMethod yX0_findSingle]
def wsX5_say_r7 : List Cond := [Cond.selects RX0 yX0_findSingle yX0_findSingle, Cond.code yX0_findSingle cX0_findSingle 5 (some .int), Cond.methodLink RX0 81 yX2_hasPhrase, Cond.methodLink RX0 94 yX0_orNothing, Cond.instanceMethod yX0_orNothing, Cond.selects RX0 yX0_orNothing yX0_orNothing, Cond.code yX0_orNothing cX0_orNothing 3 (some .int), Cond.methodLink RX0 97 yX0_fitting, Cond.instanceMethod yX0_fitting, Cond.selects RX0 yX0_fitting yX0_fitting, Cond.code yX0_fitting cX0_fitting 2 (some .int), Cond.methodLink RX0 120 yX4_described, Cond.instanceMethod yX4_described, Cond.selects RX4 yX4_described yX4_described, Cond.code yX4_described cX4_described 7 (some .int), Cond.fieldLink RX4 9 "ParserParlour$World" "nouns" "[I", Cond.fieldLink RX4 15 "ParserParlour$World" "adjectiveSets" "[I", Cond.methodLink RX0 106 yJ6_bitCount_0f7a4, Cond.static yJ6_bitCount_0f7a4, Cond.initialized RJ6, Cond.code yJ6_bitCount_0f7a4 cJ6_bitCount_0f7a4 1 (some .int), Cond.constant RJ6 265 (1431655765), Cond.constant RJ6 266 (858993459), Cond.constant RJ6 267 (252645135)]
def wsX5_say_r8 : List Cond := [Cond.methodLink RX0 111 yX0_ask, Cond.instanceMethod yX0_ask, Cond.selects RX0 yX0_ask yX0_ask, Cond.code yX0_ask cX0_ask 3 (some .int), Cond.methodLink RX0 74 yX0_onlyOf, Cond.instanceMethod yX0_onlyOf, Cond.selects RX0 yX0_onlyOf yX0_onlyOf, Cond.code yX0_onlyOf cX0_onlyOf 3 (some .int), Cond.methodLink RX5 150 yX2_lastPlaceOf, Cond.instanceMethod yX2_lastPlaceOf, Cond.selects RX2 yX2_lastPlaceOf yX2_lastPlaceOf, Cond.code yX2_lastPlaceOf cX2_lastPlaceOf 2 (some .int), Cond.methodLink RX5 198 yX5_carryOut, Cond.instanceMethod yX5_carryOut, Cond.selects RX5 yX5_carryOut yX5_carryOut, Cond.code yX5_carryOut cX5_carryOut 3 none, Cond.fieldLink RX5 12 "ParserParlour" "world" "LParserParlour$World;", Cond.fieldLink RX5 33 "ParserParlour" "memory" "LParserParlour$Memory;", Cond.methodLink RX5 99 yX5_contains, Cond.methodLink RX5 210 yX4_perform, Cond.instanceMethod yX4_perform, Cond.selects RX4 yX4_perform yX4_perform, Cond.code yX4_perform cX4_perform 4 (some .boolean), Cond.methodLink RX4 46 yX4_has]
def wsX5_say_r9 : List Cond := [Cond.instanceMethod yX4_has, Cond.selects RX4 yX4_has yX4_has, Cond.code yX4_has cX4_has 2 (some .boolean), Cond.methodLink RX4 50 yX4_suited, Cond.methodLink RX4 53 yX4_isWithin, Cond.instanceMethod yX4_isWithin, Cond.selects RX4 yX4_isWithin yX4_isWithin, Cond.code yX4_isWithin cX4_isWithin 5 (some .boolean), Cond.methodLink RX5 214 yX1_keep, Cond.instanceMethod yX1_keep, Cond.selects RX1 yX1_keep yX1_keep, Cond.initialized RX1, Cond.code yX1_keep cX1_keep 5 none, Cond.fieldLink RX1 9 "ParserParlour$Memory" "lastVerb" "I", Cond.fieldLink RX1 15 "ParserParlour$Memory" "lastMeant" "I", Cond.fieldLink RX1 18 "ParserParlour$Memory" "lastDone" "I", Cond.fieldLink RX1 21 "ParserParlour$Memory" "lastTarget" "I", Cond.fieldLink RX1 24 "ParserParlour$Memory" "lastAlone" "I", Cond.methodLink RX1 27 yJ6_bitCount_0f7a4, Cond.methodLink RX5 132 yX5_hearAnswer, Cond.instanceMethod yX5_hearAnswer, Cond.selects RX5 yX5_hearAnswer yX5_hearAnswer, Cond.code yX5_hearAnswer cX5_hearAnswer 2 (some .int), Cond.methodLink RX5 166 yX3_readAnswer]
def wsX5_say_r10 : List Cond := [Cond.instanceMethod yX3_readAnswer, Cond.selects RX3 yX3_readAnswer yX3_readAnswer, Cond.code yX3_readAnswer cX3_readAnswer 2 (some .boolean), Cond.methodLink RX3 36 yX3_accept, Cond.methodLink RX3 40 yX3_readAdjectives, Cond.methodLink RX3 43 yX3_acceptNoun, Cond.methodLink RX3 46 yX3_atEnd, Cond.methodLink RX5 176 yX4_described, Cond.methodLink RX5 180 yJ6_bitCount_0f7a4, Cond.methodLink RX5 185 yX2_answer, Cond.instanceMethod yX2_answer, Cond.selects RX2 yX2_answer yX2_answer, Cond.code yX2_answer cX2_answer 3 none, Cond.methodLink RX5 135 yX3_clear, Cond.instanceMethod yX3_clear, Cond.selects RX3 yX3_clear yX3_clear, Cond.code yX3_clear cX3_clear 1 none]
def wsX5_say : List Cond := .code yX5_say cX5_say 1 (some .int) :: ((wsX5_say_r1 ++ (wsX5_say_r2 ++ (wsX5_say_r3 ++ (wsX5_say_r4 ++ (wsX5_say_r5 ++ (wsX5_say_r6 ++ (wsX5_say_r7 ++ (wsX5_say_r8 ++ (wsX5_say_r9 ++ wsX5_say_r10))))))))) ++ wsX50 ++ wsX30 ++ wsX20 ++ wsX00 ++ wsX40 ++ wsX10)
def wsX5_outcome : List Cond := .code yX5_outcome cX5_outcome 1 (some .int) :: ([.fieldLink RX5 46 "ParserParlour" "lastOutcome" "I"] ++ wsX50)
def wsX5_wrongAt : List Cond := .code yX5_wrongAt cX5_wrongAt 1 (some .int) :: ([.fieldLink RX5 50 "ParserParlour" "wrongPlace" "I"] ++ wsX50)
def wsX5_verb : List Cond := .code yX5_verb cX5_verb 1 (some .int) :: ([.fieldLink RX5 33 "ParserParlour" "memory" "LParserParlour$Memory;"] ++ wsX50 ++ wsX10)
def wsX5_meant : List Cond := .code yX5_meant cX5_meant 1 (some .int) :: ([.fieldLink RX5 33 "ParserParlour" "memory" "LParserParlour$Memory;"] ++ wsX50 ++ wsX10)
def wsX5_done : List Cond := .code yX5_done cX5_done 1 (some .int) :: ([.fieldLink RX5 33 "ParserParlour" "memory" "LParserParlour$Memory;"] ++ wsX50 ++ wsX10)
def wsX5_into : List Cond := .code yX5_into cX5_into 1 (some .int) :: ([.fieldLink RX5 33 "ParserParlour" "memory" "LParserParlour$Memory;"] ++ wsX50 ++ wsX10)
def wsX5_asked : List Cond := .code yX5_asked cX5_asked 1 (some .int) :: ([.fieldLink RX5 53 "ParserParlour" "askedThings" "I"] ++ wsX50)
def wsX5_askedAt : List Cond := .code yX5_askedAt cX5_askedAt 1 (some .int) :: ([.fieldLink RX5 53 "ParserParlour" "askedThings" "I", .fieldLink RX5 26 "ParserParlour" "order" "LParserParlour$Order;", .fieldLink RX5 56 "ParserParlour" "askedPhrase" "I", .methodLink RX5 150 yX2_lastPlaceOf, .instanceMethod yX2_lastPlaceOf, .selects RX2 yX2_lastPlaceOf yX2_lastPlaceOf, .initialized RX2, .code yX2_lastPlaceOf cX2_lastPlaceOf 2 (some .int), .fieldLink RX2 31 "ParserParlour$Order" "lastPlaces" "[I", .methodLink RX2 88 yX2_hasPhrase, .instanceMethod yX2_hasPhrase, .selects RX2 yX2_hasPhrase yX2_hasPhrase, .code yX2_hasPhrase cX2_hasPhrase 2 (some .boolean), .fieldLink RX2 15 "ParserParlour$Order" "count" "I"] ++ wsX50 ++ wsX20)
def wsX5_questions : List Cond := .code yX5_questions cX5_questions 1 (some .int) :: ([.fieldLink RX5 59 "ParserParlour" "questionCount" "I"] ++ wsX50)
def wsX6_init : List Cond := .code yX6_init cX6_init 1 none :: ([.methodLink RX6 1 objectInit, .instanceMethod objectInit, .code objectInit ⟨#[0xb1]⟩ 1 none, .arrayClass .int, .fieldLink RX6 7 "ParserParlourModel" "noun" "[I", .fieldLink RX6 13 "ParserParlourModel" "adjectives" "[I", .arrayClass .boolean, .fieldLink RX6 16 "ParserParlourModel" "box" "[Z", .fieldLink RX6 20 "ParserParlourModel" "open" "[Z", .fieldLink RX6 23 "ParserParlourModel" "place" "[I", .fieldLink RX6 26 "ParserParlourModel" "words" "[I", .fieldLink RX6 29 "ParserParlourModel" "outcome" "I", .fieldLink RX6 33 "ParserParlourModel" "wrongAt" "I", .fieldLink RX6 36 "ParserParlourModel" "verb" "I", .fieldLink RX6 39 "ParserParlourModel" "into" "I", .fieldLink RX6 42 "ParserParlourModel" "it" "I", .fieldLink RX6 45 "ParserParlourModel" "order" "[I", .fieldLink RX6 48 "ParserParlourModel" "answer" "[I", .fieldLink RX6 51 "ParserParlourModel" "askedAt" "I"] ++ wsX60)
def wsX6_thrown : List Cond := .code yX6_thrown cX6_thrown 1 (some .int) :: ([.fieldLink RX6 54 "ParserParlourModel" "thrown" "I"] ++ wsX60)
def wsX6_may : List Cond := .code yX6_may cX6_may 2 (some .boolean) :: ([.fieldLink RX6 54 "ParserParlourModel" "thrown" "I"] ++ wsX60)
def wsX6_mayBoth : List Cond := .code yX6_mayBoth cX6_mayBoth 3 (some .boolean) :: ([.fieldLink RX6 54 "ParserParlourModel" "thrown" "I"] ++ wsX60)
def wsX6_thing : List Cond := .code yX6_thing cX6_thing 4 (some .int) :: ([.fieldLink RX6 57 "ParserParlourModel" "things" "I", .fieldLink RX6 7 "ParserParlourModel" "noun" "[I", .fieldLink RX6 13 "ParserParlourModel" "adjectives" "[I", .fieldLink RX6 16 "ParserParlourModel" "box" "[Z", .fieldLink RX6 23 "ParserParlourModel" "place" "[I", .methodLink RX6 60 yX6_mayBoth, .instanceMethod yX6_mayBoth, .selects RX6 yX6_mayBoth yX6_mayBoth, .initialized RX6, .code yX6_mayBoth cX6_mayBoth 3 (some .boolean), .fieldLink RX6 54 "ParserParlourModel" "thrown" "I"] ++ wsX60)
def wsX6_isThing : List Cond := .code yX6_isThing cX6_isThing 2 (some .boolean) :: ([.fieldLink RX6 57 "ParserParlourModel" "things" "I"] ++ wsX60)
def wsX6_placeOf : List Cond := .code yX6_placeOf cX6_placeOf 2 (some .int) :: ([.fieldLink RX6 23 "ParserParlourModel" "place" "[I", .methodLink RX6 64 yX6_isThing, .instanceMethod yX6_isThing, .selects RX6 yX6_isThing yX6_isThing, .initialized RX6, .code yX6_isThing cX6_isThing 2 (some .boolean), .fieldLink RX6 57 "ParserParlourModel" "things" "I", .methodLink RX6 68 yX6_may, .instanceMethod yX6_may, .selects RX6 yX6_may yX6_may, .code yX6_may cX6_may 2 (some .boolean), .fieldLink RX6 54 "ParserParlourModel" "thrown" "I"] ++ wsX60)
def wsX6_isOpen : List Cond := .code yX6_isOpen cX6_isOpen 2 (some .boolean) :: ([.fieldLink RX6 20 "ParserParlourModel" "open" "[Z", .methodLink RX6 64 yX6_isThing, .instanceMethod yX6_isThing, .selects RX6 yX6_isThing yX6_isThing, .initialized RX6, .code yX6_isThing cX6_isThing 2 (some .boolean), .fieldLink RX6 57 "ParserParlourModel" "things" "I", .methodLink RX6 68 yX6_may, .instanceMethod yX6_may, .selects RX6 yX6_may yX6_may, .code yX6_may cX6_may 2 (some .boolean), .fieldLink RX6 54 "ParserParlourModel" "thrown" "I"] ++ wsX60)
def wsX6_reaches : List Cond := .code yX6_reaches cX6_reaches 3 (some .boolean) :: ([.fieldLink RX6 23 "ParserParlourModel" "place" "[I", .fieldLink RX6 20 "ParserParlourModel" "open" "[Z"] ++ wsX60)
def wsX6_isInside : List Cond := .code yX6_isInside cX6_isInside 4 (some .boolean) :: ([.fieldLink RX6 23 "ParserParlourModel" "place" "[I"] ++ wsX60)
def wsX6_reachable : List Cond := .code yX6_reachable cX6_reachable 3 (some .int) :: ([.fieldLink RX6 57 "ParserParlourModel" "things" "I", .methodLink RX6 72 yX6_reaches, .instanceMethod yX6_reaches, .selects RX6 yX6_reaches yX6_reaches, .initialized RX6, .code yX6_reaches cX6_reaches 3 (some .boolean), .fieldLink RX6 23 "ParserParlourModel" "place" "[I", .fieldLink RX6 20 "ParserParlourModel" "open" "[Z"] ++ wsX60)
def wsX6_inReach : List Cond := .code yX6_inReach cX6_inReach 1 (some .int) :: ([.fieldLink RX6 54 "ParserParlourModel" "thrown" "I", .methodLink RX6 75 yX6_reachable, .instanceMethod yX6_reachable, .selects RX6 yX6_reachable yX6_reachable, .initialized RX6, .code yX6_reachable cX6_reachable 3 (some .int), .fieldLink RX6 57 "ParserParlourModel" "things" "I", .methodLink RX6 72 yX6_reaches, .instanceMethod yX6_reaches, .selects RX6 yX6_reaches yX6_reaches, .code yX6_reaches cX6_reaches 3 (some .boolean), .fieldLink RX6 23 "ParserParlourModel" "place" "[I", .fieldLink RX6 20 "ParserParlourModel" "open" "[Z"] ++ wsX60)
def wsX6_suits : List Cond := .code yX6_suits cX6_suits 4 (some .boolean) :: ([.fieldLink RX6 23 "ParserParlourModel" "place" "[I", .fieldLink RX6 16 "ParserParlourModel" "box" "[Z", .fieldLink RX6 20 "ParserParlourModel" "open" "[Z", .methodLink RX6 72 yX6_reaches, .instanceMethod yX6_reaches, .selects RX6 yX6_reaches yX6_reaches, .initialized RX6, .code yX6_reaches cX6_reaches 3 (some .boolean)] ++ wsX60)
def wsX6_suited : List Cond := .code yX6_suited cX6_suited 5 (some .int) :: ([.fieldLink RX6 57 "ParserParlourModel" "things" "I", .methodLink RX6 79 yX6_suits, .instanceMethod yX6_suits, .selects RX6 yX6_suits yX6_suits, .initialized RX6, .code yX6_suits cX6_suits 4 (some .boolean), .fieldLink RX6 23 "ParserParlourModel" "place" "[I", .fieldLink RX6 16 "ParserParlourModel" "box" "[Z", .fieldLink RX6 20 "ParserParlourModel" "open" "[Z", .methodLink RX6 72 yX6_reaches, .instanceMethod yX6_reaches, .selects RX6 yX6_reaches yX6_reaches, .code yX6_reaches cX6_reaches 3 (some .boolean)] ++ wsX60)
def wsX6_having : List Cond := .code yX6_having cX6_having 7 (some .int) :: ([.fieldLink RX6 57 "ParserParlourModel" "things" "I", .fieldLink RX6 13 "ParserParlourModel" "adjectives" "[I", .fieldLink RX6 7 "ParserParlourModel" "noun" "[I"] ++ wsX60)
def wsX6_bits : List Cond := .code yX6_bits cX6_bits 3 (some .int) :: ([])
def wsX6_lowest : List Cond := .code yX6_lowest cX6_lowest 2 (some .int) :: ([])
def wsX6_isVerb : List Cond := .code yX6_isVerb cX6_isVerb 1 (some .boolean) :: ([])
def wsX6_isAdjective : List Cond := .code yX6_isAdjective cX6_isAdjective 1 (some .boolean) :: ([])
def wsX6_isNoun : List Cond := .code yX6_isNoun cX6_isNoun 1 (some .boolean) :: ([])
def wsX6_isPlural : List Cond := .code yX6_isPlural cX6_isPlural 1 (some .boolean) :: ([])
def wsX6_word : List Cond := .code yX6_word cX6_word 3 (some .int) :: ([.fieldLink RX6 95 "ParserParlourModel" "count" "I", .fieldLink RX6 26 "ParserParlourModel" "words" "[I", .methodLink RX6 83 yX6_isVerb, .static yX6_isVerb, .initialized RX6, .code yX6_isVerb cX6_isVerb 1 (some .boolean), .methodLink RX6 86 yX6_isAdjective, .static yX6_isAdjective, .code yX6_isAdjective cX6_isAdjective 1 (some .boolean), .methodLink RX6 89 yX6_isNoun, .static yX6_isNoun, .code yX6_isNoun cX6_isNoun 1 (some .boolean), .methodLink RX6 92 yX6_isPlural, .static yX6_isPlural, .code yX6_isPlural cX6_isPlural 1 (some .boolean), .methodLink RX6 60 yX6_mayBoth, .instanceMethod yX6_mayBoth, .selects RX6 yX6_mayBoth yX6_mayBoth, .code yX6_mayBoth cX6_mayBoth 3 (some .boolean), .fieldLink RX6 54 "ParserParlourModel" "thrown" "I"] ++ wsX60)
def wsX6_back : List Cond := .code yX6_back cX6_back 1 (some .int) :: ([.fieldLink RX6 95 "ParserParlourModel" "count" "I", .fieldLink RX6 26 "ParserParlourModel" "words" "[I", .methodLink RX6 68 yX6_may, .instanceMethod yX6_may, .selects RX6 yX6_may yX6_may, .initialized RX6, .code yX6_may cX6_may 2 (some .boolean), .fieldLink RX6 54 "ParserParlourModel" "thrown" "I"] ++ wsX60)
def wsX6_phrase : List Cond := .code yX6_phrase cX6_phrase 6 (some .int) :: ([.methodLink RX6 86 yX6_isAdjective, .static yX6_isAdjective, .initialized RX6, .code yX6_isAdjective cX6_isAdjective 1 (some .boolean), .methodLink RX6 89 yX6_isNoun, .static yX6_isNoun, .code yX6_isNoun cX6_isNoun 1 (some .boolean), .methodLink RX6 92 yX6_isPlural, .static yX6_isPlural, .code yX6_isPlural cX6_isPlural 1 (some .boolean)])
def wsX6_wrongOrder : List Cond := .code yX6_wrongOrder cX6_wrongOrder 8 (some .int) :: ([.fieldLink RX6 95 "ParserParlourModel" "count" "I", .fieldLink RX6 26 "ParserParlourModel" "words" "[I", .methodLink RX6 86 yX6_isAdjective, .static yX6_isAdjective, .initialized RX6, .code yX6_isAdjective cX6_isAdjective 1 (some .boolean), .methodLink RX6 92 yX6_isPlural, .static yX6_isPlural, .code yX6_isPlural cX6_isPlural 1 (some .boolean), .methodLink RX6 98 yX6_phrase, .static yX6_phrase, .code yX6_phrase cX6_phrase 6 (some .int), .methodLink RX6 89 yX6_isNoun, .static yX6_isNoun, .code yX6_isNoun cX6_isNoun 1 (some .boolean)] ++ wsX60)
def wsX6_wrongAnswer : List Cond := .code yX6_wrongAnswer cX6_wrongAnswer 6 (some .int) :: ([.fieldLink RX6 95 "ParserParlourModel" "count" "I", .fieldLink RX6 26 "ParserParlourModel" "words" "[I", .methodLink RX6 86 yX6_isAdjective, .static yX6_isAdjective, .initialized RX6, .code yX6_isAdjective cX6_isAdjective 1 (some .boolean), .methodLink RX6 89 yX6_isNoun, .static yX6_isNoun, .code yX6_isNoun cX6_isNoun 1 (some .boolean)] ++ wsX60)
def wsX6_is : List Cond := .code yX6_is cX6_is 2 (some .boolean) :: ([.fieldLink RX6 102 "ParserParlourModel" "at" "I", .fieldLink RX6 105 "ParserParlourModel" "length" "I", .fieldLink RX6 45 "ParserParlourModel" "order" "[I"] ++ wsX60)
def wsX6_endOf : List Cond := .code yX6_endOf cX6_endOf 3 (some .int) :: ([.fieldLink RX6 45 "ParserParlourModel" "order" "[I", .methodLink RX6 86 yX6_isAdjective, .static yX6_isAdjective, .initialized RX6, .code yX6_isAdjective cX6_isAdjective 1 (some .boolean)] ++ wsX60)
def wsX6_adjectivesUpTo : List Cond := .code yX6_adjectivesUpTo cX6_adjectivesUpTo 5 (some .int) :: ([.fieldLink RX6 45 "ParserParlourModel" "order" "[I", .methodLink RX6 86 yX6_isAdjective, .static yX6_isAdjective, .initialized RX6, .code yX6_isAdjective cX6_isAdjective 1 (some .boolean)] ++ wsX60)
def wsX6_fail : List Cond := .code yX6_fail cX6_fail 3 (some .int) :: ([.fieldLink RX6 108 "ParserParlourModel" "failedAt" "I", .fieldLink RX6 111 "ParserParlourModel" "choice" "I"] ++ wsX60)
def wsX6_single_r1 : List Cond := [Cond.fieldLink RX6 102 "ParserParlourModel" "at" "I", Cond.fieldLink RX6 48 "ParserParlourModel" "answer" "[I", Cond.fieldLink RX6 45 "ParserParlourModel" "order" "[I", Cond.fieldLink RX6 42 "ParserParlourModel" "it" "I", Cond.methodLink RX6 114 yX6_endOf, Cond.instanceMethod yX6_endOf, Cond.selects RX6 yX6_endOf yX6_endOf, Cond.initialized RX6, Cond.code yX6_endOf cX6_endOf 3 (some .int), Cond.methodLink RX6 86 yX6_isAdjective, Cond.static yX6_isAdjective, Cond.code yX6_isAdjective cX6_isAdjective 1 (some .boolean), Cond.methodLink RX6 72 yX6_reaches, Cond.instanceMethod yX6_reaches, Cond.selects RX6 yX6_reaches yX6_reaches, Cond.code yX6_reaches cX6_reaches 3 (some .boolean), Cond.fieldLink RX6 23 "ParserParlourModel" "place" "[I", Cond.fieldLink RX6 20 "ParserParlourModel" "open" "[Z", Cond.methodLink RX6 118 yX6_fail, Cond.instanceMethod yX6_fail, Cond.selects RX6 yX6_fail yX6_fail, Cond.code yX6_fail cX6_fail 3 (some .int), Cond.fieldLink RX6 108 "ParserParlourModel" "failedAt" "I", Cond.fieldLink RX6 111 "ParserParlourModel" "choice" "I"]
def wsX6_single_r2 : List Cond := [Cond.methodLink RX6 75 yX6_reachable, Cond.instanceMethod yX6_reachable, Cond.selects RX6 yX6_reachable yX6_reachable, Cond.code yX6_reachable cX6_reachable 3 (some .int), Cond.fieldLink RX6 57 "ParserParlourModel" "things" "I", Cond.methodLink RX6 122 yX6_adjectivesUpTo, Cond.instanceMethod yX6_adjectivesUpTo, Cond.selects RX6 yX6_adjectivesUpTo yX6_adjectivesUpTo, Cond.code yX6_adjectivesUpTo cX6_adjectivesUpTo 5 (some .int), Cond.methodLink RX6 125 yX6_having, Cond.instanceMethod yX6_having, Cond.selects RX6 yX6_having yX6_having, Cond.code yX6_having cX6_having 7 (some .int), Cond.fieldLink RX6 13 "ParserParlourModel" "adjectives" "[I", Cond.fieldLink RX6 7 "ParserParlourModel" "noun" "[I", Cond.methodLink RX6 128 yX6_bits, Cond.static yX6_bits, Cond.code yX6_bits cX6_bits 3 (some .int), Cond.methodLink RX6 131 yX6_lowest, Cond.static yX6_lowest, Cond.code yX6_lowest cX6_lowest 2 (some .int), Cond.methodLink RX6 134 yX6_suited, Cond.instanceMethod yX6_suited, Cond.selects RX6 yX6_suited yX6_suited]
def wsX6_single_r3 : List Cond := [Cond.code yX6_suited cX6_suited 5 (some .int), Cond.methodLink RX6 79 yX6_suits, Cond.instanceMethod yX6_suits, Cond.selects RX6 yX6_suits yX6_suits, Cond.code yX6_suits cX6_suits 4 (some .boolean), Cond.fieldLink RX6 16 "ParserParlourModel" "box" "[Z"]
def wsX6_single : List Cond := .code yX6_single cX6_single 6 (some .int) :: ((wsX6_single_r1 ++ (wsX6_single_r2 ++ wsX6_single_r3)) ++ wsX60)
def wsX6_isSingleAt : List Cond := .code yX6_isSingleAt cX6_isSingleAt 3 (some .boolean) :: ([.fieldLink RX6 45 "ParserParlourModel" "order" "[I", .methodLink RX6 114 yX6_endOf, .instanceMethod yX6_endOf, .selects RX6 yX6_endOf yX6_endOf, .initialized RX6, .code yX6_endOf cX6_endOf 3 (some .int), .methodLink RX6 86 yX6_isAdjective, .static yX6_isAdjective, .code yX6_isAdjective cX6_isAdjective 1 (some .boolean), .methodLink RX6 89 yX6_isNoun, .static yX6_isNoun, .code yX6_isNoun cX6_isNoun 1 (some .boolean)] ++ wsX60)
def wsX6_part_r1 : List Cond := [Cond.fieldLink RX6 102 "ParserParlourModel" "at" "I", Cond.fieldLink RX6 140 "ParserParlourModel" "meant" "I", Cond.fieldLink RX6 105 "ParserParlourModel" "length" "I", Cond.fieldLink RX6 45 "ParserParlourModel" "order" "[I", Cond.methodLink RX6 137 yX6_is, Cond.instanceMethod yX6_is, Cond.selects RX6 yX6_is yX6_is, Cond.initialized RX6, Cond.code yX6_is cX6_is 2 (some .boolean), Cond.methodLink RX6 75 yX6_reachable, Cond.instanceMethod yX6_reachable, Cond.selects RX6 yX6_reachable yX6_reachable, Cond.code yX6_reachable cX6_reachable 3 (some .int), Cond.fieldLink RX6 57 "ParserParlourModel" "things" "I", Cond.methodLink RX6 72 yX6_reaches, Cond.instanceMethod yX6_reaches, Cond.selects RX6 yX6_reaches yX6_reaches, Cond.code yX6_reaches cX6_reaches 3 (some .boolean), Cond.fieldLink RX6 23 "ParserParlourModel" "place" "[I", Cond.fieldLink RX6 20 "ParserParlourModel" "open" "[Z", Cond.methodLink RX6 118 yX6_fail, Cond.instanceMethod yX6_fail, Cond.selects RX6 yX6_fail yX6_fail, Cond.code yX6_fail cX6_fail 3 (some .int)]
def wsX6_part_r2 : List Cond := [Cond.fieldLink RX6 108 "ParserParlourModel" "failedAt" "I", Cond.fieldLink RX6 111 "ParserParlourModel" "choice" "I", Cond.methodLink RX6 114 yX6_endOf, Cond.instanceMethod yX6_endOf, Cond.selects RX6 yX6_endOf yX6_endOf, Cond.code yX6_endOf cX6_endOf 3 (some .int), Cond.methodLink RX6 86 yX6_isAdjective, Cond.static yX6_isAdjective, Cond.code yX6_isAdjective cX6_isAdjective 1 (some .boolean), Cond.methodLink RX6 92 yX6_isPlural, Cond.static yX6_isPlural, Cond.code yX6_isPlural cX6_isPlural 1 (some .boolean), Cond.methodLink RX6 143 yX6_single, Cond.instanceMethod yX6_single, Cond.selects RX6 yX6_single yX6_single, Cond.code yX6_single cX6_single 6 (some .int), Cond.fieldLink RX6 48 "ParserParlourModel" "answer" "[I", Cond.fieldLink RX6 42 "ParserParlourModel" "it" "I", Cond.methodLink RX6 122 yX6_adjectivesUpTo, Cond.instanceMethod yX6_adjectivesUpTo, Cond.selects RX6 yX6_adjectivesUpTo yX6_adjectivesUpTo, Cond.code yX6_adjectivesUpTo cX6_adjectivesUpTo 5 (some .int), Cond.methodLink RX6 125 yX6_having, Cond.instanceMethod yX6_having]
def wsX6_part_r3 : List Cond := [Cond.selects RX6 yX6_having yX6_having, Cond.code yX6_having cX6_having 7 (some .int), Cond.fieldLink RX6 13 "ParserParlourModel" "adjectives" "[I", Cond.fieldLink RX6 7 "ParserParlourModel" "noun" "[I", Cond.methodLink RX6 128 yX6_bits, Cond.static yX6_bits, Cond.code yX6_bits cX6_bits 3 (some .int), Cond.methodLink RX6 131 yX6_lowest, Cond.static yX6_lowest, Cond.code yX6_lowest cX6_lowest 2 (some .int), Cond.methodLink RX6 134 yX6_suited, Cond.instanceMethod yX6_suited, Cond.selects RX6 yX6_suited yX6_suited, Cond.code yX6_suited cX6_suited 5 (some .int), Cond.methodLink RX6 79 yX6_suits, Cond.instanceMethod yX6_suits, Cond.selects RX6 yX6_suits yX6_suits, Cond.code yX6_suits cX6_suits 4 (some .boolean), Cond.fieldLink RX6 16 "ParserParlourModel" "box" "[Z", Cond.methodLink RX6 146 yX6_isSingleAt, Cond.instanceMethod yX6_isSingleAt, Cond.selects RX6 yX6_isSingleAt yX6_isSingleAt, Cond.code yX6_isSingleAt cX6_isSingleAt 3 (some .boolean), Cond.methodLink RX6 89 yX6_isNoun]
def wsX6_part_r4 : List Cond := [Cond.static yX6_isNoun, Cond.code yX6_isNoun cX6_isNoun 1 (some .boolean)]
def wsX6_part : List Cond := .code yX6_part cX6_part 7 (some .int) :: ((wsX6_part_r1 ++ (wsX6_part_r2 ++ (wsX6_part_r3 ++ wsX6_part_r4))) ++ wsX60)
def wsX6_failed : List Cond := .code yX6_failed cX6_failed 1 (some .int) :: ([.fieldLink RX6 111 "ParserParlourModel" "choice" "I", .fieldLink RX6 108 "ParserParlourModel" "failedAt" "I", .fieldLink RX6 33 "ParserParlourModel" "wrongAt" "I", .fieldLink RX6 149 "ParserParlourModel" "asked" "I", .fieldLink RX6 51 "ParserParlourModel" "askedAt" "I"] ++ wsX60)
def wsX6_acts : List Cond := .code yX6_acts cX6_acts 2 (some .boolean) :: ([.fieldLink RX6 36 "ParserParlourModel" "verb" "I", .fieldLink RX6 39 "ParserParlourModel" "into" "I", .fieldLink RX6 23 "ParserParlourModel" "place" "[I", .fieldLink RX6 20 "ParserParlourModel" "open" "[Z", .methodLink RX6 79 yX6_suits, .instanceMethod yX6_suits, .selects RX6 yX6_suits yX6_suits, .initialized RX6, .code yX6_suits cX6_suits 4 (some .boolean), .fieldLink RX6 16 "ParserParlourModel" "box" "[Z", .methodLink RX6 72 yX6_reaches, .instanceMethod yX6_reaches, .selects RX6 yX6_reaches yX6_reaches, .code yX6_reaches cX6_reaches 3 (some .boolean), .methodLink RX6 164 yX6_isInside, .instanceMethod yX6_isInside, .selects RX6 yX6_isInside yX6_isInside, .code yX6_isInside cX6_isInside 4 (some .boolean)] ++ wsX60)
def wsX6_perform_r1 : List Cond := [Cond.fieldLink RX6 149 "ParserParlourModel" "asked" "I", Cond.fieldLink RX6 51 "ParserParlourModel" "askedAt" "I", Cond.fieldLink RX6 102 "ParserParlourModel" "at" "I", Cond.fieldLink RX6 45 "ParserParlourModel" "order" "[I", Cond.fieldLink RX6 36 "ParserParlourModel" "verb" "I", Cond.fieldLink RX6 140 "ParserParlourModel" "meant" "I", Cond.fieldLink RX6 39 "ParserParlourModel" "into" "I", Cond.fieldLink RX6 42 "ParserParlourModel" "it" "I", Cond.fieldLink RX6 158 "ParserParlourModel" "done" "I", Cond.fieldLink RX6 57 "ParserParlourModel" "things" "I", Cond.methodLink RX6 152 yX6_part, Cond.instanceMethod yX6_part, Cond.selects RX6 yX6_part yX6_part, Cond.initialized RX6, Cond.code yX6_part cX6_part 7 (some .int), Cond.fieldLink RX6 105 "ParserParlourModel" "length" "I", Cond.methodLink RX6 137 yX6_is, Cond.instanceMethod yX6_is, Cond.selects RX6 yX6_is yX6_is, Cond.code yX6_is cX6_is 2 (some .boolean), Cond.methodLink RX6 75 yX6_reachable, Cond.instanceMethod yX6_reachable, Cond.selects RX6 yX6_reachable yX6_reachable, Cond.code yX6_reachable cX6_reachable 3 (some .int)]
def wsX6_perform_r2 : List Cond := [Cond.methodLink RX6 72 yX6_reaches, Cond.instanceMethod yX6_reaches, Cond.selects RX6 yX6_reaches yX6_reaches, Cond.code yX6_reaches cX6_reaches 3 (some .boolean), Cond.fieldLink RX6 23 "ParserParlourModel" "place" "[I", Cond.fieldLink RX6 20 "ParserParlourModel" "open" "[Z", Cond.methodLink RX6 118 yX6_fail, Cond.instanceMethod yX6_fail, Cond.selects RX6 yX6_fail yX6_fail, Cond.code yX6_fail cX6_fail 3 (some .int), Cond.fieldLink RX6 108 "ParserParlourModel" "failedAt" "I", Cond.fieldLink RX6 111 "ParserParlourModel" "choice" "I", Cond.methodLink RX6 114 yX6_endOf, Cond.instanceMethod yX6_endOf, Cond.selects RX6 yX6_endOf yX6_endOf, Cond.code yX6_endOf cX6_endOf 3 (some .int), Cond.methodLink RX6 86 yX6_isAdjective, Cond.static yX6_isAdjective, Cond.code yX6_isAdjective cX6_isAdjective 1 (some .boolean), Cond.methodLink RX6 92 yX6_isPlural, Cond.static yX6_isPlural, Cond.code yX6_isPlural cX6_isPlural 1 (some .boolean), Cond.methodLink RX6 143 yX6_single, Cond.instanceMethod yX6_single]
def wsX6_perform_r3 : List Cond := [Cond.selects RX6 yX6_single yX6_single, Cond.code yX6_single cX6_single 6 (some .int), Cond.fieldLink RX6 48 "ParserParlourModel" "answer" "[I", Cond.methodLink RX6 122 yX6_adjectivesUpTo, Cond.instanceMethod yX6_adjectivesUpTo, Cond.selects RX6 yX6_adjectivesUpTo yX6_adjectivesUpTo, Cond.code yX6_adjectivesUpTo cX6_adjectivesUpTo 5 (some .int), Cond.methodLink RX6 125 yX6_having, Cond.instanceMethod yX6_having, Cond.selects RX6 yX6_having yX6_having, Cond.code yX6_having cX6_having 7 (some .int), Cond.fieldLink RX6 13 "ParserParlourModel" "adjectives" "[I", Cond.fieldLink RX6 7 "ParserParlourModel" "noun" "[I", Cond.methodLink RX6 128 yX6_bits, Cond.static yX6_bits, Cond.code yX6_bits cX6_bits 3 (some .int), Cond.methodLink RX6 131 yX6_lowest, Cond.static yX6_lowest, Cond.code yX6_lowest cX6_lowest 2 (some .int), Cond.methodLink RX6 134 yX6_suited, Cond.instanceMethod yX6_suited, Cond.selects RX6 yX6_suited yX6_suited, Cond.code yX6_suited cX6_suited 5 (some .int), Cond.methodLink RX6 79 yX6_suits]
def wsX6_perform_r4 : List Cond := [Cond.instanceMethod yX6_suits, Cond.selects RX6 yX6_suits yX6_suits, Cond.code yX6_suits cX6_suits 4 (some .boolean), Cond.fieldLink RX6 16 "ParserParlourModel" "box" "[Z", Cond.methodLink RX6 146 yX6_isSingleAt, Cond.instanceMethod yX6_isSingleAt, Cond.selects RX6 yX6_isSingleAt yX6_isSingleAt, Cond.code yX6_isSingleAt cX6_isSingleAt 3 (some .boolean), Cond.methodLink RX6 89 yX6_isNoun, Cond.static yX6_isNoun, Cond.code yX6_isNoun cX6_isNoun 1 (some .boolean), Cond.methodLink RX6 155 yX6_failed, Cond.instanceMethod yX6_failed, Cond.selects RX6 yX6_failed yX6_failed, Cond.code yX6_failed cX6_failed 1 (some .int), Cond.fieldLink RX6 33 "ParserParlourModel" "wrongAt" "I", Cond.methodLink RX6 161 yX6_acts, Cond.instanceMethod yX6_acts, Cond.selects RX6 yX6_acts yX6_acts, Cond.code yX6_acts cX6_acts 2 (some .boolean), Cond.methodLink RX6 164 yX6_isInside, Cond.instanceMethod yX6_isInside, Cond.selects RX6 yX6_isInside yX6_isInside, Cond.code yX6_isInside cX6_isInside 4 (some .boolean)]
def wsX6_perform : List Cond := .code yX6_perform cX6_perform 4 (some .int) :: ((wsX6_perform_r1 ++ (wsX6_perform_r2 ++ (wsX6_perform_r3 ++ wsX6_perform_r4))) ++ wsX60)
def wsX6_understand_r1 : List Cond := [Cond.fieldLink RX6 95 "ParserParlourModel" "count" "I", Cond.fieldLink RX6 26 "ParserParlourModel" "words" "[I", Cond.fieldLink RX6 149 "ParserParlourModel" "asked" "I", Cond.fieldLink RX6 51 "ParserParlourModel" "askedAt" "I", Cond.fieldLink RX6 33 "ParserParlourModel" "wrongAt" "I", Cond.fieldLink RX6 105 "ParserParlourModel" "length" "I", Cond.fieldLink RX6 45 "ParserParlourModel" "order" "[I", Cond.fieldLink RX6 48 "ParserParlourModel" "answer" "[I", Cond.methodLink RX6 83 yX6_isVerb, Cond.static yX6_isVerb, Cond.initialized RX6, Cond.code yX6_isVerb cX6_isVerb 1 (some .boolean), Cond.methodLink RX6 173 yX6_wrongOrder, Cond.instanceMethod yX6_wrongOrder, Cond.selects RX6 yX6_wrongOrder yX6_wrongOrder, Cond.code yX6_wrongOrder cX6_wrongOrder 8 (some .int), Cond.methodLink RX6 86 yX6_isAdjective, Cond.static yX6_isAdjective, Cond.code yX6_isAdjective cX6_isAdjective 1 (some .boolean), Cond.methodLink RX6 92 yX6_isPlural, Cond.static yX6_isPlural, Cond.code yX6_isPlural cX6_isPlural 1 (some .boolean), Cond.methodLink RX6 98 yX6_phrase, Cond.static yX6_phrase]
def wsX6_understand_r2 : List Cond := [Cond.code yX6_phrase cX6_phrase 6 (some .int), Cond.methodLink RX6 89 yX6_isNoun, Cond.static yX6_isNoun, Cond.code yX6_isNoun cX6_isNoun 1 (some .boolean), Cond.methodLink RX6 176 yX6_perform, Cond.instanceMethod yX6_perform, Cond.selects RX6 yX6_perform yX6_perform, Cond.code yX6_perform cX6_perform 4 (some .int), Cond.fieldLink RX6 102 "ParserParlourModel" "at" "I", Cond.fieldLink RX6 36 "ParserParlourModel" "verb" "I", Cond.fieldLink RX6 140 "ParserParlourModel" "meant" "I", Cond.fieldLink RX6 39 "ParserParlourModel" "into" "I", Cond.fieldLink RX6 42 "ParserParlourModel" "it" "I", Cond.fieldLink RX6 158 "ParserParlourModel" "done" "I", Cond.fieldLink RX6 57 "ParserParlourModel" "things" "I", Cond.methodLink RX6 152 yX6_part, Cond.instanceMethod yX6_part, Cond.selects RX6 yX6_part yX6_part, Cond.code yX6_part cX6_part 7 (some .int), Cond.methodLink RX6 137 yX6_is, Cond.instanceMethod yX6_is, Cond.selects RX6 yX6_is yX6_is, Cond.code yX6_is cX6_is 2 (some .boolean), Cond.methodLink RX6 75 yX6_reachable]
def wsX6_understand_r3 : List Cond := [Cond.instanceMethod yX6_reachable, Cond.selects RX6 yX6_reachable yX6_reachable, Cond.code yX6_reachable cX6_reachable 3 (some .int), Cond.methodLink RX6 72 yX6_reaches, Cond.instanceMethod yX6_reaches, Cond.selects RX6 yX6_reaches yX6_reaches, Cond.code yX6_reaches cX6_reaches 3 (some .boolean), Cond.fieldLink RX6 23 "ParserParlourModel" "place" "[I", Cond.fieldLink RX6 20 "ParserParlourModel" "open" "[Z", Cond.methodLink RX6 118 yX6_fail, Cond.instanceMethod yX6_fail, Cond.selects RX6 yX6_fail yX6_fail, Cond.code yX6_fail cX6_fail 3 (some .int), Cond.fieldLink RX6 108 "ParserParlourModel" "failedAt" "I", Cond.fieldLink RX6 111 "ParserParlourModel" "choice" "I", Cond.methodLink RX6 114 yX6_endOf, Cond.instanceMethod yX6_endOf, Cond.selects RX6 yX6_endOf yX6_endOf, Cond.code yX6_endOf cX6_endOf 3 (some .int), Cond.methodLink RX6 143 yX6_single, Cond.instanceMethod yX6_single, Cond.selects RX6 yX6_single yX6_single, Cond.code yX6_single cX6_single 6 (some .int), Cond.methodLink RX6 122 yX6_adjectivesUpTo]
def wsX6_understand_r4 : List Cond := [Cond.instanceMethod yX6_adjectivesUpTo, Cond.selects RX6 yX6_adjectivesUpTo yX6_adjectivesUpTo, Cond.code yX6_adjectivesUpTo cX6_adjectivesUpTo 5 (some .int), Cond.methodLink RX6 125 yX6_having, Cond.instanceMethod yX6_having, Cond.selects RX6 yX6_having yX6_having, Cond.code yX6_having cX6_having 7 (some .int), Cond.fieldLink RX6 13 "ParserParlourModel" "adjectives" "[I", Cond.fieldLink RX6 7 "ParserParlourModel" "noun" "[I", Cond.methodLink RX6 128 yX6_bits, Cond.static yX6_bits, Cond.code yX6_bits cX6_bits 3 (some .int), Cond.methodLink RX6 131 yX6_lowest, Cond.static yX6_lowest, Cond.code yX6_lowest cX6_lowest 2 (some .int), Cond.methodLink RX6 134 yX6_suited, Cond.instanceMethod yX6_suited, Cond.selects RX6 yX6_suited yX6_suited, Cond.code yX6_suited cX6_suited 5 (some .int), Cond.methodLink RX6 79 yX6_suits, Cond.instanceMethod yX6_suits, Cond.selects RX6 yX6_suits yX6_suits, Cond.code yX6_suits cX6_suits 4 (some .boolean), Cond.fieldLink RX6 16 "ParserParlourModel" "box" "[Z"]
def wsX6_understand_r5 : List Cond := [Cond.methodLink RX6 146 yX6_isSingleAt, Cond.instanceMethod yX6_isSingleAt, Cond.selects RX6 yX6_isSingleAt yX6_isSingleAt, Cond.code yX6_isSingleAt cX6_isSingleAt 3 (some .boolean), Cond.methodLink RX6 155 yX6_failed, Cond.instanceMethod yX6_failed, Cond.selects RX6 yX6_failed yX6_failed, Cond.code yX6_failed cX6_failed 1 (some .int), Cond.methodLink RX6 161 yX6_acts, Cond.instanceMethod yX6_acts, Cond.selects RX6 yX6_acts yX6_acts, Cond.code yX6_acts cX6_acts 2 (some .boolean), Cond.methodLink RX6 164 yX6_isInside, Cond.instanceMethod yX6_isInside, Cond.selects RX6 yX6_isInside yX6_isInside, Cond.code yX6_isInside cX6_isInside 4 (some .boolean), Cond.methodLink RX6 179 yX6_wrongAnswer, Cond.instanceMethod yX6_wrongAnswer, Cond.selects RX6 yX6_wrongAnswer yX6_wrongAnswer, Cond.code yX6_wrongAnswer cX6_wrongAnswer 6 (some .int)]
def wsX6_understand : List Cond := .code yX6_understand cX6_understand 4 (some .int) :: ((wsX6_understand_r1 ++ (wsX6_understand_r2 ++ (wsX6_understand_r3 ++ (wsX6_understand_r4 ++ wsX6_understand_r5)))) ++ wsX60)
def wsX6_say_r1 : List Cond := [Cond.fieldLink RX6 54 "ParserParlourModel" "thrown" "I", Cond.fieldLink RX6 33 "ParserParlourModel" "wrongAt" "I", Cond.fieldLink RX6 29 "ParserParlourModel" "outcome" "I", Cond.fieldLink RX6 170 "ParserParlourModel" "questions" "I", Cond.fieldLink RX6 95 "ParserParlourModel" "count" "I", Cond.methodLink RX6 167 yX6_understand, Cond.instanceMethod yX6_understand, Cond.selects RX6 yX6_understand yX6_understand, Cond.initialized RX6, Cond.code yX6_understand cX6_understand 4 (some .int), Cond.fieldLink RX6 26 "ParserParlourModel" "words" "[I", Cond.fieldLink RX6 149 "ParserParlourModel" "asked" "I", Cond.fieldLink RX6 51 "ParserParlourModel" "askedAt" "I", Cond.fieldLink RX6 105 "ParserParlourModel" "length" "I", Cond.fieldLink RX6 45 "ParserParlourModel" "order" "[I", Cond.fieldLink RX6 48 "ParserParlourModel" "answer" "[I", Cond.methodLink RX6 83 yX6_isVerb, Cond.static yX6_isVerb, Cond.code yX6_isVerb cX6_isVerb 1 (some .boolean), Cond.methodLink RX6 173 yX6_wrongOrder, Cond.instanceMethod yX6_wrongOrder, Cond.selects RX6 yX6_wrongOrder yX6_wrongOrder, Cond.code yX6_wrongOrder cX6_wrongOrder 8 (some .int), Cond.methodLink RX6 86 yX6_isAdjective]
def wsX6_say_r2 : List Cond := [Cond.static yX6_isAdjective, Cond.code yX6_isAdjective cX6_isAdjective 1 (some .boolean), Cond.methodLink RX6 92 yX6_isPlural, Cond.static yX6_isPlural, Cond.code yX6_isPlural cX6_isPlural 1 (some .boolean), Cond.methodLink RX6 98 yX6_phrase, Cond.static yX6_phrase, Cond.code yX6_phrase cX6_phrase 6 (some .int), Cond.methodLink RX6 89 yX6_isNoun, Cond.static yX6_isNoun, Cond.code yX6_isNoun cX6_isNoun 1 (some .boolean), Cond.methodLink RX6 176 yX6_perform, Cond.instanceMethod yX6_perform, Cond.selects RX6 yX6_perform yX6_perform, Cond.code yX6_perform cX6_perform 4 (some .int), Cond.fieldLink RX6 102 "ParserParlourModel" "at" "I", Cond.fieldLink RX6 36 "ParserParlourModel" "verb" "I", Cond.fieldLink RX6 140 "ParserParlourModel" "meant" "I", Cond.fieldLink RX6 39 "ParserParlourModel" "into" "I", Cond.fieldLink RX6 42 "ParserParlourModel" "it" "I", Cond.fieldLink RX6 158 "ParserParlourModel" "done" "I", Cond.fieldLink RX6 57 "ParserParlourModel" "things" "I", Cond.methodLink RX6 152 yX6_part, Cond.instanceMethod yX6_part]
def wsX6_say_r3 : List Cond := [Cond.selects RX6 yX6_part yX6_part, Cond.code yX6_part cX6_part 7 (some .int), Cond.methodLink RX6 137 yX6_is, Cond.instanceMethod yX6_is, Cond.selects RX6 yX6_is yX6_is, Cond.code yX6_is cX6_is 2 (some .boolean), Cond.methodLink RX6 75 yX6_reachable, Cond.instanceMethod yX6_reachable, Cond.selects RX6 yX6_reachable yX6_reachable, Cond.code yX6_reachable cX6_reachable 3 (some .int), Cond.methodLink RX6 72 yX6_reaches, Cond.instanceMethod yX6_reaches, Cond.selects RX6 yX6_reaches yX6_reaches, Cond.code yX6_reaches cX6_reaches 3 (some .boolean), Cond.fieldLink RX6 23 "ParserParlourModel" "place" "[I", Cond.fieldLink RX6 20 "ParserParlourModel" "open" "[Z", Cond.methodLink RX6 118 yX6_fail, Cond.instanceMethod yX6_fail, Cond.selects RX6 yX6_fail yX6_fail, Cond.code yX6_fail cX6_fail 3 (some .int), Cond.fieldLink RX6 108 "ParserParlourModel" "failedAt" "I", Cond.fieldLink RX6 111 "ParserParlourModel" "choice" "I", Cond.methodLink RX6 114 yX6_endOf, Cond.instanceMethod yX6_endOf]
def wsX6_say_r4 : List Cond := [Cond.selects RX6 yX6_endOf yX6_endOf, Cond.code yX6_endOf cX6_endOf 3 (some .int), Cond.methodLink RX6 143 yX6_single, Cond.instanceMethod yX6_single, Cond.selects RX6 yX6_single yX6_single, Cond.code yX6_single cX6_single 6 (some .int), Cond.methodLink RX6 122 yX6_adjectivesUpTo, Cond.instanceMethod yX6_adjectivesUpTo, Cond.selects RX6 yX6_adjectivesUpTo yX6_adjectivesUpTo, Cond.code yX6_adjectivesUpTo cX6_adjectivesUpTo 5 (some .int), Cond.methodLink RX6 125 yX6_having, Cond.instanceMethod yX6_having, Cond.selects RX6 yX6_having yX6_having, Cond.code yX6_having cX6_having 7 (some .int), Cond.fieldLink RX6 13 "ParserParlourModel" "adjectives" "[I", Cond.fieldLink RX6 7 "ParserParlourModel" "noun" "[I", Cond.methodLink RX6 128 yX6_bits, Cond.static yX6_bits, Cond.code yX6_bits cX6_bits 3 (some .int), Cond.methodLink RX6 131 yX6_lowest, Cond.static yX6_lowest, Cond.code yX6_lowest cX6_lowest 2 (some .int), Cond.methodLink RX6 134 yX6_suited, Cond.instanceMethod yX6_suited]
def wsX6_say_r5 : List Cond := [Cond.selects RX6 yX6_suited yX6_suited, Cond.code yX6_suited cX6_suited 5 (some .int), Cond.methodLink RX6 79 yX6_suits, Cond.instanceMethod yX6_suits, Cond.selects RX6 yX6_suits yX6_suits, Cond.code yX6_suits cX6_suits 4 (some .boolean), Cond.fieldLink RX6 16 "ParserParlourModel" "box" "[Z", Cond.methodLink RX6 146 yX6_isSingleAt, Cond.instanceMethod yX6_isSingleAt, Cond.selects RX6 yX6_isSingleAt yX6_isSingleAt, Cond.code yX6_isSingleAt cX6_isSingleAt 3 (some .boolean), Cond.methodLink RX6 155 yX6_failed, Cond.instanceMethod yX6_failed, Cond.selects RX6 yX6_failed yX6_failed, Cond.code yX6_failed cX6_failed 1 (some .int), Cond.methodLink RX6 161 yX6_acts, Cond.instanceMethod yX6_acts, Cond.selects RX6 yX6_acts yX6_acts, Cond.code yX6_acts cX6_acts 2 (some .boolean), Cond.methodLink RX6 164 yX6_isInside, Cond.instanceMethod yX6_isInside, Cond.selects RX6 yX6_isInside yX6_isInside, Cond.code yX6_isInside cX6_isInside 4 (some .boolean), Cond.methodLink RX6 179 yX6_wrongAnswer]
def wsX6_say_r6 : List Cond := [Cond.instanceMethod yX6_wrongAnswer, Cond.selects RX6 yX6_wrongAnswer yX6_wrongAnswer, Cond.code yX6_wrongAnswer cX6_wrongAnswer 6 (some .int)]
def wsX6_say : List Cond := .code yX6_say cX6_say 1 (some .int) :: ((wsX6_say_r1 ++ (wsX6_say_r2 ++ (wsX6_say_r3 ++ (wsX6_say_r4 ++ (wsX6_say_r5 ++ wsX6_say_r6))))) ++ wsX60)
def wsX6_outcome : List Cond := .code yX6_outcome cX6_outcome 1 (some .int) :: ([.fieldLink RX6 54 "ParserParlourModel" "thrown" "I", .fieldLink RX6 29 "ParserParlourModel" "outcome" "I"] ++ wsX60)
def wsX6_wrongAt : List Cond := .code yX6_wrongAt cX6_wrongAt 1 (some .int) :: ([.fieldLink RX6 54 "ParserParlourModel" "thrown" "I", .fieldLink RX6 33 "ParserParlourModel" "wrongAt" "I"] ++ wsX60)
def wsX6_verb : List Cond := .code yX6_verb cX6_verb 1 (some .int) :: ([.fieldLink RX6 54 "ParserParlourModel" "thrown" "I", .fieldLink RX6 36 "ParserParlourModel" "verb" "I"] ++ wsX60)
def wsX6_meant : List Cond := .code yX6_meant cX6_meant 1 (some .int) :: ([.fieldLink RX6 54 "ParserParlourModel" "thrown" "I", .fieldLink RX6 140 "ParserParlourModel" "meant" "I"] ++ wsX60)
def wsX6_done : List Cond := .code yX6_done cX6_done 1 (some .int) :: ([.fieldLink RX6 54 "ParserParlourModel" "thrown" "I", .fieldLink RX6 158 "ParserParlourModel" "done" "I"] ++ wsX60)
def wsX6_into : List Cond := .code yX6_into cX6_into 1 (some .int) :: ([.fieldLink RX6 54 "ParserParlourModel" "thrown" "I", .fieldLink RX6 39 "ParserParlourModel" "into" "I"] ++ wsX60)
def wsX6_asked : List Cond := .code yX6_asked cX6_asked 1 (some .int) :: ([.fieldLink RX6 54 "ParserParlourModel" "thrown" "I", .fieldLink RX6 149 "ParserParlourModel" "asked" "I"] ++ wsX60)
def wsX6_askedAt : List Cond := .code yX6_askedAt cX6_askedAt 1 (some .int) :: ([.fieldLink RX6 54 "ParserParlourModel" "thrown" "I", .fieldLink RX6 51 "ParserParlourModel" "askedAt" "I"] ++ wsX60)
def wsX6_questions : List Cond := .code yX6_questions cX6_questions 1 (some .int) :: ([.fieldLink RX6 54 "ParserParlourModel" "thrown" "I", .fieldLink RX6 170 "ParserParlourModel" "questions" "I"] ++ wsX60)
def wsL_thing : List Cond := .codeWith yL_thing cL_thing 6 (some .int) [(0, 12, 15, 13), (0, 12, 19, 15)] :: ([.classLink RL 13 "java/lang/IllegalArgumentException", .classLink RL 15 "java/lang/IllegalStateException", .methodLink RL 7 yX5_thing, .instanceMethod yX5_thing, .selects RX5 yX5_thing yX5_thing, .initialized RX5, .code yX5_thing cX5_thing 4 (some .int), .classLink RX5 62 "java/lang/IllegalArgumentException", .initialized "java/lang/IllegalArgumentException", .classLink RX5 74 "java/lang/IllegalStateException", .initialized "java/lang/IllegalStateException", .fieldLink RX5 12 "ParserParlour" "world" "LParserParlour$World;", .methodLink RX5 79 yX4_add, .instanceMethod yX4_add, .selects RX4 yX4_add yX4_add, .initialized RX4, .code yX4_add cX4_add 5 (some .int), .fieldLink RX4 21 "ParserParlour$World" "count" "I", .fieldLink RX4 9 "ParserParlour$World" "nouns" "[I", .fieldLink RX4 15 "ParserParlour$World" "adjectiveSets" "[I", .fieldLink RX4 18 "ParserParlour$World" "holders" "[I", .fieldLink RX4 25 "ParserParlour$World" "boxes" "I"] ++ wsX50 ++ wsX40 ++ (vx_atS RX5 66 "java/lang/IllegalArgumentException" ["java/lang/RuntimeException", "java/lang/Exception"]).filter goodWord ++ (vx_atS RX5 78 "java/lang/IllegalStateException" ["java/lang/RuntimeException", "java/lang/Exception"]).filter goodWord)
def wsL_placeOf : List Cond := .codeWith yL_placeOf cL_placeOf 4 (some .int) [(0, 9, 12, 21)] :: ([.classLink RL 21 "java/lang/IndexOutOfBoundsException", .methodLink RL 17 yX5_placeOf, .instanceMethod yX5_placeOf, .selects RX5 yX5_placeOf yX5_placeOf, .initialized RX5, .code yX5_placeOf cX5_placeOf 2 (some .int), .classLink RX5 87 "java/lang/IndexOutOfBoundsException", .initialized "java/lang/IndexOutOfBoundsException", .fieldLink RX5 12 "ParserParlour" "world" "LParserParlour$World;", .methodLink RX5 83 yX4_has, .instanceMethod yX4_has, .selects RX4 yX4_has yX4_has, .initialized RX4, .code yX4_has cX4_has 2 (some .boolean), .fieldLink RX4 21 "ParserParlour$World" "count" "I", .methodLink RX5 92 yX4_holderOf, .instanceMethod yX4_holderOf, .selects RX4 yX4_holderOf yX4_holderOf, .code yX4_holderOf cX4_holderOf 2 (some .int), .fieldLink RX4 18 "ParserParlour$World" "holders" "[I"] ++ wsX50 ++ wsX40 ++ (vx_atS RX5 91 "java/lang/IndexOutOfBoundsException" ["java/lang/RuntimeException", "java/lang/Exception"]).filter goodWord)
def wsL_isOpen : List Cond := .codeWith yL_isOpen cL_isOpen 4 (some .int) [(0, 16, 19, 21)] :: ([.classLink RL 21 "java/lang/IndexOutOfBoundsException", .methodLink RL 23 yX5_isOpen, .instanceMethod yX5_isOpen, .selects RX5 yX5_isOpen yX5_isOpen, .initialized RX5, .code yX5_isOpen cX5_isOpen 2 (some .boolean), .classLink RX5 87 "java/lang/IndexOutOfBoundsException", .initialized "java/lang/IndexOutOfBoundsException", .fieldLink RX5 12 "ParserParlour" "world" "LParserParlour$World;", .methodLink RX5 83 yX4_has, .instanceMethod yX4_has, .selects RX4 yX4_has yX4_has, .initialized RX4, .code yX4_has cX4_has 2 (some .boolean), .fieldLink RX4 21 "ParserParlour$World" "count" "I", .methodLink RX5 99 yX5_contains, .static yX5_contains, .code yX5_contains cX5_contains 2 (some .boolean)] ++ wsX50 ++ wsX40 ++ (vx_atS RX5 91 "java/lang/IndexOutOfBoundsException" ["java/lang/RuntimeException", "java/lang/Exception"]).filter goodWord)
def wsL_word_r1 : List Cond := [Cond.classLink RL 13 "java/lang/IllegalArgumentException", Cond.classLink RL 15 "java/lang/IllegalStateException", Cond.methodLink RL 27 yX5_word, Cond.instanceMethod yX5_word, Cond.selects RX5 yX5_word yX5_word, Cond.initialized RX5, Cond.code yX5_word cX5_word 2 (some .int), Cond.classLink RX5 62 "java/lang/IllegalArgumentException", Cond.initialized "java/lang/IllegalArgumentException", Cond.classLink RX5 74 "java/lang/IllegalStateException", Cond.initialized "java/lang/IllegalStateException", Cond.fieldLink RX5 19 "ParserParlour" "words" "LParserParlour$Words;", Cond.methodLink RX5 107 yX5_isWord, Cond.static yX5_isWord, Cond.code yX5_isWord cX5_isWord 1 (some .boolean), Cond.methodLink RX5 126 yX5_isVerb, Cond.static yX5_isVerb, Cond.code yX5_isVerb cX5_isVerb 1 (some .boolean), Cond.methodLink RX5 218 yX5_isBetween, Cond.static yX5_isBetween, Cond.code yX5_isBetween cX5_isBetween 3 (some .boolean), Cond.methodLink RX5 115 yX3_add, Cond.instanceMethod yX3_add, Cond.selects RX3 yX3_add yX3_add]
def wsL_word_r2 : List Cond := [Cond.initialized RX3, Cond.code yX3_add cX3_add 2 none, Cond.fieldLink RX3 15 "ParserParlour$Words" "count" "I", Cond.fieldLink RX3 9 "ParserParlour$Words" "given" "[I"]
def wsL_word : List Cond := .codeWith yL_word cL_word 4 (some .int) [(0, 9, 12, 13), (0, 9, 15, 15)] :: ((wsL_word_r1 ++ wsL_word_r2) ++ wsX50 ++ wsX30 ++ (vx_atS RX5 66 "java/lang/IllegalArgumentException" ["java/lang/RuntimeException", "java/lang/Exception"]).filter goodWord ++ (vx_atS RX5 78 "java/lang/IllegalStateException" ["java/lang/RuntimeException", "java/lang/Exception"]).filter goodWord)
def wsL_back : List Cond := .codeWith yL_back cL_back 3 (some .int) [(0, 8, 11, 15)] :: ([.classLink RL 15 "java/lang/IllegalStateException", .methodLink RL 30 yX5_back, .instanceMethod yX5_back, .selects RX5 yX5_back yX5_back, .initialized RX5, .code yX5_back cX5_back 1 (some .int), .classLink RX5 74 "java/lang/IllegalStateException", .initialized "java/lang/IllegalStateException", .fieldLink RX5 19 "ParserParlour" "words" "LParserParlour$Words;", .methodLink RX5 120 yX3_removeLast, .instanceMethod yX3_removeLast, .selects RX3 yX3_removeLast yX3_removeLast, .initialized RX3, .code yX3_removeLast cX3_removeLast 1 (some .int), .fieldLink RX3 15 "ParserParlour$Words" "count" "I", .fieldLink RX3 9 "ParserParlour$Words" "given" "[I"] ++ wsX50 ++ wsX30 ++ (vx_atS RX5 78 "java/lang/IllegalStateException" ["java/lang/RuntimeException", "java/lang/Exception"]).filter goodWord)
def wsL_law0_r1 : List Cond := [Cond.classLink RL 8 RX5, Cond.instantiable RX5 10, Cond.initialized RX5, Cond.classLink RL 35 RX6, Cond.instantiable RX6 25, Cond.initialized RX6, Cond.arrayClass .long, Cond.methodLink RL 34 yX5_init, Cond.instanceMethod yX5_init, Cond.code yX5_init cX5_init 1 none, Cond.methodLink RX5 3 objectInit, Cond.instanceMethod objectInit, Cond.code objectInit ⟨#[0xb1]⟩ 1 none, Cond.classLink RX5 9 RX4, Cond.instantiable RX4 6, Cond.initialized RX4, Cond.fieldLink RX5 12 "ParserParlour" "world" "LParserParlour$World;", Cond.classLink RX5 16 RX3, Cond.instantiable RX3 5, Cond.initialized RX3, Cond.fieldLink RX5 19 "ParserParlour" "words" "LParserParlour$Words;", Cond.classLink RX5 23 RX2, Cond.instantiable RX2 8, Cond.initialized RX2]
def wsL_law0_r2 : List Cond := [Cond.fieldLink RX5 26 "ParserParlour" "order" "LParserParlour$Order;", Cond.classLink RX5 30 RX1, Cond.instantiable RX1 5, Cond.initialized RX1, Cond.fieldLink RX5 33 "ParserParlour" "memory" "LParserParlour$Memory;", Cond.classLink RX5 37 RX0, Cond.instantiable RX0 9, Cond.initialized RX0, Cond.fieldLink RX5 42 "ParserParlour" "meaning" "LParserParlour$Meaning;", Cond.fieldLink RX5 46 "ParserParlour" "lastOutcome" "I", Cond.fieldLink RX5 50 "ParserParlour" "wrongPlace" "I", Cond.fieldLink RX5 53 "ParserParlour" "askedThings" "I", Cond.fieldLink RX5 56 "ParserParlour" "askedPhrase" "I", Cond.fieldLink RX5 59 "ParserParlour" "questionCount" "I", Cond.methodLink RX5 11 yX4_init, Cond.instanceMethod yX4_init, Cond.code yX4_init cX4_init 1 none, Cond.methodLink RX4 3 objectInit, Cond.arrayClass .int, Cond.fieldLink RX4 9 "ParserParlour$World" "nouns" "[I", Cond.fieldLink RX4 15 "ParserParlour$World" "adjectiveSets" "[I", Cond.fieldLink RX4 18 "ParserParlour$World" "holders" "[I", Cond.fieldLink RX4 21 "ParserParlour$World" "count" "I", Cond.fieldLink RX4 25 "ParserParlour$World" "boxes" "I"]
def wsL_law0_r3 : List Cond := [Cond.fieldLink RX4 28 "ParserParlour$World" "openBoxes" "I", Cond.methodLink RX5 18 yX3_init, Cond.instanceMethod yX3_init, Cond.code yX3_init cX3_init 1 none, Cond.methodLink RX3 3 objectInit, Cond.fieldLink RX3 9 "ParserParlour$Words" "given" "[I", Cond.fieldLink RX3 15 "ParserParlour$Words" "count" "I", Cond.fieldLink RX3 19 "ParserParlour$Words" "place" "I", Cond.fieldLink RX3 22 "ParserParlour$Words" "adjectives" "I", Cond.fieldLink RX3 25 "ParserParlour$Words" "noun" "I", Cond.methodLink RX5 25 yX2_init, Cond.instanceMethod yX2_init, Cond.code yX2_init cX2_init 1 none, Cond.methodLink RX2 3 objectInit, Cond.fieldLink RX2 9 "ParserParlour$Order" "orderVerb" "I", Cond.fieldLink RX2 15 "ParserParlour$Order" "count" "I", Cond.fieldLink RX2 18 "ParserParlour$Order" "roles" "[I", Cond.fieldLink RX2 22 "ParserParlour$Order" "kinds" "[I", Cond.fieldLink RX2 25 "ParserParlour$Order" "adjectiveSets" "[I", Cond.fieldLink RX2 28 "ParserParlour$Order" "nouns" "[I", Cond.fieldLink RX2 31 "ParserParlour$Order" "lastPlaces" "[I", Cond.fieldLink RX2 34 "ParserParlour$Order" "answers" "[I", Cond.methodLink RX5 32 yX1_init, Cond.instanceMethod yX1_init]
def wsL_law0_r4 : List Cond := [Cond.code yX1_init cX1_init 1 none, Cond.methodLink RX1 3 objectInit, Cond.fieldLink RX1 9 "ParserParlour$Memory" "lastVerb" "I", Cond.fieldLink RX1 15 "ParserParlour$Memory" "lastMeant" "I", Cond.fieldLink RX1 18 "ParserParlour$Memory" "lastDone" "I", Cond.fieldLink RX1 21 "ParserParlour$Memory" "lastTarget" "I", Cond.fieldLink RX1 24 "ParserParlour$Memory" "lastAlone" "I", Cond.methodLink RX5 39 yX0_init, Cond.instanceMethod yX0_init, Cond.code yX0_init cX0_init 4 none, Cond.methodLink RX0 3 objectInit, Cond.fieldLink RX0 9 "ParserParlour$Meaning" "world" "LParserParlour$World;", Cond.fieldLink RX0 15 "ParserParlour$Meaning" "order" "LParserParlour$Order;", Cond.fieldLink RX0 19 "ParserParlour$Meaning" "memory" "LParserParlour$Memory;", Cond.methodLink RX0 23 yX0_start, Cond.instanceMethod yX0_start, Cond.selects RX0 yX0_start yX0_start, Cond.code yX0_start cX0_start 2 none, Cond.fieldLink RX0 27 "ParserParlour$Meaning" "reach" "I", Cond.fieldLink RX0 31 "ParserParlour$Meaning" "result" "I", Cond.fieldLink RX0 34 "ParserParlour$Meaning" "group" "I", Cond.fieldLink RX0 37 "ParserParlour$Meaning" "target" "I", Cond.fieldLink RX0 40 "ParserParlour$Meaning" "openPhrase" "I", Cond.fieldLink RX0 43 "ParserParlour$Meaning" "choice" "I"]
def wsL_law0_r5 : List Cond := [Cond.methodLink RL 37 yX6_init, Cond.instanceMethod yX6_init, Cond.code yX6_init cX6_init 1 none, Cond.methodLink RX6 1 objectInit, Cond.fieldLink RX6 7 "ParserParlourModel" "noun" "[I", Cond.fieldLink RX6 13 "ParserParlourModel" "adjectives" "[I", Cond.arrayClass .boolean, Cond.fieldLink RX6 16 "ParserParlourModel" "box" "[Z", Cond.fieldLink RX6 20 "ParserParlourModel" "open" "[Z", Cond.fieldLink RX6 23 "ParserParlourModel" "place" "[I", Cond.fieldLink RX6 26 "ParserParlourModel" "words" "[I", Cond.fieldLink RX6 29 "ParserParlourModel" "outcome" "I", Cond.fieldLink RX6 33 "ParserParlourModel" "wrongAt" "I", Cond.fieldLink RX6 36 "ParserParlourModel" "verb" "I", Cond.fieldLink RX6 39 "ParserParlourModel" "into" "I", Cond.fieldLink RX6 42 "ParserParlourModel" "it" "I", Cond.fieldLink RX6 45 "ParserParlourModel" "order" "[I", Cond.fieldLink RX6 48 "ParserParlourModel" "answer" "[I", Cond.fieldLink RX6 51 "ParserParlourModel" "askedAt" "I", Cond.methodLink RL 38 yL_thing, Cond.static yL_thing, Cond.initialized RL, Cond.codeWith yL_thing cL_thing 6 (some .int) [(0, 12, 15, 13), (0, 12, 19, 15)], Cond.classLink RL 13 "java/lang/IllegalArgumentException"]
def wsL_law0_r6 : List Cond := [Cond.classLink RL 15 "java/lang/IllegalStateException", Cond.methodLink RL 7 yX5_thing, Cond.instanceMethod yX5_thing, Cond.selects RX5 yX5_thing yX5_thing, Cond.code yX5_thing cX5_thing 4 (some .int), Cond.classLink RX5 62 "java/lang/IllegalArgumentException", Cond.initialized "java/lang/IllegalArgumentException", Cond.classLink RX5 74 "java/lang/IllegalStateException", Cond.initialized "java/lang/IllegalStateException", Cond.methodLink RX5 79 yX4_add, Cond.instanceMethod yX4_add, Cond.selects RX4 yX4_add yX4_add, Cond.code yX4_add cX4_add 5 (some .int), Cond.methodLink RL 43 yX6_thing, Cond.instanceMethod yX6_thing, Cond.selects RX6 yX6_thing yX6_thing, Cond.code yX6_thing cX6_thing 4 (some .int), Cond.fieldLink RX6 57 "ParserParlourModel" "things" "I", Cond.methodLink RX6 60 yX6_mayBoth, Cond.instanceMethod yX6_mayBoth, Cond.selects RX6 yX6_mayBoth yX6_mayBoth, Cond.code yX6_mayBoth cX6_mayBoth 3 (some .boolean), Cond.fieldLink RX6 54 "ParserParlourModel" "thrown" "I", Cond.methodLink RL 44 yX6_thrown]
def wsL_law0_r7 : List Cond := [Cond.instanceMethod yX6_thrown, Cond.selects RX6 yX6_thrown yX6_thrown, Cond.code yX6_thrown cX6_thrown 1 (some .int), Cond.methodLink RL 47 yL_placeOf, Cond.static yL_placeOf, Cond.codeWith yL_placeOf cL_placeOf 4 (some .int) [(0, 9, 12, 21)], Cond.classLink RL 21 "java/lang/IndexOutOfBoundsException", Cond.methodLink RL 17 yX5_placeOf, Cond.instanceMethod yX5_placeOf, Cond.selects RX5 yX5_placeOf yX5_placeOf, Cond.code yX5_placeOf cX5_placeOf 2 (some .int), Cond.classLink RX5 87 "java/lang/IndexOutOfBoundsException", Cond.initialized "java/lang/IndexOutOfBoundsException", Cond.methodLink RX5 83 yX4_has, Cond.instanceMethod yX4_has, Cond.selects RX4 yX4_has yX4_has, Cond.code yX4_has cX4_has 2 (some .boolean), Cond.methodLink RX5 92 yX4_holderOf, Cond.instanceMethod yX4_holderOf, Cond.selects RX4 yX4_holderOf yX4_holderOf, Cond.code yX4_holderOf cX4_holderOf 2 (some .int), Cond.methodLink RL 50 yX6_placeOf, Cond.instanceMethod yX6_placeOf, Cond.selects RX6 yX6_placeOf yX6_placeOf]
def wsL_law0_r8 : List Cond := [Cond.code yX6_placeOf cX6_placeOf 2 (some .int), Cond.methodLink RX6 64 yX6_isThing, Cond.instanceMethod yX6_isThing, Cond.selects RX6 yX6_isThing yX6_isThing, Cond.code yX6_isThing cX6_isThing 2 (some .boolean), Cond.methodLink RX6 68 yX6_may, Cond.instanceMethod yX6_may, Cond.selects RX6 yX6_may yX6_may, Cond.code yX6_may cX6_may 2 (some .boolean), Cond.methodLink RL 51 yL_isOpen, Cond.static yL_isOpen, Cond.codeWith yL_isOpen cL_isOpen 4 (some .int) [(0, 16, 19, 21)], Cond.methodLink RL 23 yX5_isOpen, Cond.instanceMethod yX5_isOpen, Cond.selects RX5 yX5_isOpen yX5_isOpen, Cond.code yX5_isOpen cX5_isOpen 2 (some .boolean), Cond.methodLink RX5 99 yX5_contains, Cond.static yX5_contains, Cond.code yX5_contains cX5_contains 2 (some .boolean), Cond.methodLink RL 53 yX6_isOpen, Cond.instanceMethod yX6_isOpen, Cond.selects RX6 yX6_isOpen yX6_isOpen, Cond.code yX6_isOpen cX6_isOpen 2 (some .boolean), Cond.methodLink RL 54 yX5_inReach]
def wsL_law0_r9 : List Cond := [Cond.instanceMethod yX5_inReach, Cond.selects RX5 yX5_inReach yX5_inReach, Cond.code yX5_inReach cX5_inReach 1 (some .int), Cond.methodLink RX5 103 yX4_reachable, Cond.instanceMethod yX4_reachable, Cond.selects RX4 yX4_reachable yX4_reachable, Cond.code yX4_reachable cX4_reachable 5 (some .int), Cond.methodLink RX4 31 yX4_holderOf, Cond.methodLink RL 57 yX6_inReach, Cond.instanceMethod yX6_inReach, Cond.selects RX6 yX6_inReach yX6_inReach, Cond.code yX6_inReach cX6_inReach 1 (some .int), Cond.methodLink RX6 75 yX6_reachable, Cond.instanceMethod yX6_reachable, Cond.selects RX6 yX6_reachable yX6_reachable, Cond.code yX6_reachable cX6_reachable 3 (some .int), Cond.methodLink RX6 72 yX6_reaches, Cond.instanceMethod yX6_reaches, Cond.selects RX6 yX6_reaches yX6_reaches, Cond.code yX6_reaches cX6_reaches 3 (some .boolean), Cond.methodLink RL 58 yL_word, Cond.static yL_word, Cond.codeWith yL_word cL_word 4 (some .int) [(0, 9, 12, 13), (0, 9, 15, 15)], Cond.methodLink RL 27 yX5_word]
def wsL_law0_r10 : List Cond := [Cond.instanceMethod yX5_word, Cond.selects RX5 yX5_word yX5_word, Cond.code yX5_word cX5_word 2 (some .int), Cond.methodLink RX5 107 yX5_isWord, Cond.static yX5_isWord, Cond.code yX5_isWord cX5_isWord 1 (some .boolean), Cond.methodLink RX5 126 yX5_isVerb, Cond.static yX5_isVerb, Cond.code yX5_isVerb cX5_isVerb 1 (some .boolean), Cond.methodLink RX5 218 yX5_isBetween, Cond.static yX5_isBetween, Cond.code yX5_isBetween cX5_isBetween 3 (some .boolean), Cond.methodLink RX5 115 yX3_add, Cond.instanceMethod yX3_add, Cond.selects RX3 yX3_add yX3_add, Cond.code yX3_add cX3_add 2 none, Cond.methodLink RL 60 yX6_word, Cond.instanceMethod yX6_word, Cond.selects RX6 yX6_word yX6_word, Cond.code yX6_word cX6_word 3 (some .int), Cond.fieldLink RX6 95 "ParserParlourModel" "count" "I", Cond.methodLink RX6 83 yX6_isVerb, Cond.static yX6_isVerb, Cond.code yX6_isVerb cX6_isVerb 1 (some .boolean)]
def wsL_law0_r11 : List Cond := [Cond.methodLink RX6 86 yX6_isAdjective, Cond.static yX6_isAdjective, Cond.code yX6_isAdjective cX6_isAdjective 1 (some .boolean), Cond.methodLink RX6 89 yX6_isNoun, Cond.static yX6_isNoun, Cond.code yX6_isNoun cX6_isNoun 1 (some .boolean), Cond.methodLink RX6 92 yX6_isPlural, Cond.static yX6_isPlural, Cond.code yX6_isPlural cX6_isPlural 1 (some .boolean), Cond.methodLink RL 61 yL_back, Cond.static yL_back, Cond.codeWith yL_back cL_back 3 (some .int) [(0, 8, 11, 15)], Cond.methodLink RL 30 yX5_back, Cond.instanceMethod yX5_back, Cond.selects RX5 yX5_back yX5_back, Cond.code yX5_back cX5_back 1 (some .int), Cond.methodLink RX5 120 yX3_removeLast, Cond.instanceMethod yX3_removeLast, Cond.selects RX3 yX3_removeLast yX3_removeLast, Cond.code yX3_removeLast cX3_removeLast 1 (some .int), Cond.methodLink RL 64 yX6_back, Cond.instanceMethod yX6_back, Cond.selects RX6 yX6_back yX6_back, Cond.code yX6_back cX6_back 1 (some .int)]
def wsL_law0_r12 : List Cond := [Cond.methodLink RL 65 yX5_say, Cond.instanceMethod yX5_say, Cond.selects RX5 yX5_say yX5_say, Cond.code yX5_say cX5_say 1 (some .int), Cond.methodLink RX5 123 yX3_peek, Cond.instanceMethod yX3_peek, Cond.selects RX3 yX3_peek yX3_peek, Cond.code yX3_peek cX3_peek 1 (some .int), Cond.methodLink RX5 129 yX5_hearOrder, Cond.instanceMethod yX5_hearOrder, Cond.selects RX5 yX5_hearOrder yX5_hearOrder, Cond.code yX5_hearOrder cX5_hearOrder 1 (some .int), Cond.methodLink RX5 153 yX5_dropQuestion, Cond.instanceMethod yX5_dropQuestion, Cond.selects RX5 yX5_dropQuestion yX5_dropQuestion, Cond.code yX5_dropQuestion cX5_dropQuestion 1 none, Cond.methodLink RX5 156 yX2_read, Cond.instanceMethod yX2_read, Cond.selects RX2 yX2_read yX2_read, Cond.code yX2_read cX2_read 4 (some .boolean), Cond.methodLink RX2 37 yX3_peek, Cond.methodLink RX2 43 yX3_accept, Cond.instanceMethod yX3_accept, Cond.selects RX3 yX3_accept yX3_accept]
def wsL_law0_r13 : List Cond := [Cond.code yX3_accept cX3_accept 2 (some .boolean), Cond.methodLink RX3 28 yX3_peek, Cond.methodLink RX2 47 yX2_readPart, Cond.instanceMethod yX2_readPart, Cond.selects RX2 yX2_readPart yX2_readPart, Cond.code yX2_readPart cX2_readPart 4 (some .boolean), Cond.methodLink RX2 59 yX2_add, Cond.instanceMethod yX2_add, Cond.selects RX2 yX2_add yX2_add, Cond.code yX2_add cX2_add 4 (some .boolean), Cond.methodLink RX2 63 yX2_nextSingleRole, Cond.instanceMethod yX2_nextSingleRole, Cond.selects RX2 yX2_nextSingleRole yX2_nextSingleRole, Cond.code yX2_nextSingleRole cX2_nextSingleRole 1 (some .int), Cond.methodLink RX2 78 yX2_roleOf, Cond.instanceMethod yX2_roleOf, Cond.selects RX2 yX2_roleOf yX2_roleOf, Cond.code yX2_roleOf cX2_roleOf 2 (some .int), Cond.methodLink RX2 88 yX2_hasPhrase, Cond.instanceMethod yX2_hasPhrase, Cond.selects RX2 yX2_hasPhrase yX2_hasPhrase, Cond.code yX2_hasPhrase cX2_hasPhrase 2 (some .boolean), Cond.methodLink RX2 51 yX2_readSingle, Cond.instanceMethod yX2_readSingle]
def wsL_law0_r14 : List Cond := [Cond.selects RX2 yX2_readSingle yX2_readSingle, Cond.code yX2_readSingle cX2_readSingle 3 (some .boolean), Cond.methodLink RX2 66 yX3_readAdjectives, Cond.instanceMethod yX3_readAdjectives, Cond.selects RX3 yX3_readAdjectives yX3_readAdjectives, Cond.code yX3_readAdjectives cX3_readAdjectives 2 none, Cond.methodLink RX2 75 yX2_readHead, Cond.instanceMethod yX2_readHead, Cond.selects RX2 yX2_readHead yX2_readHead, Cond.code yX2_readHead cX2_readHead 3 (some .boolean), Cond.methodLink RX2 72 yX3_acceptNoun, Cond.instanceMethod yX3_acceptNoun, Cond.selects RX3 yX3_acceptNoun yX3_acceptNoun, Cond.code yX3_acceptNoun cX3_acceptNoun 2 (some .boolean), Cond.methodLink RX2 55 yX3_atEnd, Cond.instanceMethod yX3_atEnd, Cond.selects RX3 yX3_atEnd yX3_atEnd, Cond.code yX3_atEnd cX3_atEnd 1 (some .boolean), Cond.methodLink RX5 163 yX5_lookAtOrder, Cond.instanceMethod yX5_lookAtOrder, Cond.selects RX5 yX5_lookAtOrder yX5_lookAtOrder, Cond.code yX5_lookAtOrder cX5_lookAtOrder 2 (some .int), Cond.methodLink RX5 189 yX0_find, Cond.instanceMethod yX0_find]
def wsL_law0_r15 : List Cond := [Cond.selects RX0 yX0_find yX0_find, Cond.code yX0_find cX0_find 4 (some .int), Cond.methodLink RX0 46 yX4_reachable, Cond.methodLink RX0 57 yX4_suited, Cond.instanceMethod yX4_suited, Cond.selects RX4 yX4_suited yX4_suited, Cond.code yX4_suited cX4_suited 3 (some .int), Cond.methodLink RX4 39 yX4_reachable, Cond.methodLink RX4 43 yX4_held, Cond.instanceMethod yX4_held, Cond.selects RX4 yX4_held yX4_held, Cond.code yX4_held cX4_held 3 (some .int), Cond.methodLink RX0 64 yX2_roleOf, Cond.methodLink RX0 67 yX0_findPart, Cond.instanceMethod yX0_findPart, Cond.selects RX0 yX0_findPart yX0_findPart, Cond.code yX0_findPart cX0_findPart 5 (some .int), Cond.methodLink RX0 71 yX0_findSingle, Cond.instanceMethod yX0_findSingle, Cond.selects RX0 yX0_findSingle yX0_findSingle, Cond.code yX0_findSingle cX0_findSingle 5 (some .int), Cond.methodLink RX0 81 yX2_hasPhrase, Cond.methodLink RX0 94 yX0_orNothing, Cond.instanceMethod yX0_orNothing]
def wsL_law0_r16 : List Cond := [Cond.selects RX0 yX0_orNothing yX0_orNothing, Cond.code yX0_orNothing cX0_orNothing 3 (some .int), Cond.methodLink RX0 97 yX0_fitting, Cond.instanceMethod yX0_fitting, Cond.selects RX0 yX0_fitting yX0_fitting, Cond.code yX0_fitting cX0_fitting 2 (some .int), Cond.methodLink RX0 120 yX4_described, Cond.instanceMethod yX4_described, Cond.selects RX4 yX4_described yX4_described, Cond.code yX4_described cX4_described 7 (some .int), Cond.methodLink RX0 106 yJ6_bitCount_0f7a4, Cond.static yJ6_bitCount_0f7a4, Cond.initialized RJ6, Cond.code yJ6_bitCount_0f7a4 cJ6_bitCount_0f7a4 1 (some .int), Cond.constant RJ6 265 (1431655765), Cond.constant RJ6 266 (858993459), Cond.constant RJ6 267 (252645135), Cond.methodLink RX0 111 yX0_ask, Cond.instanceMethod yX0_ask, Cond.selects RX0 yX0_ask yX0_ask, Cond.code yX0_ask cX0_ask 3 (some .int), Cond.methodLink RX0 74 yX0_onlyOf, Cond.instanceMethod yX0_onlyOf, Cond.selects RX0 yX0_onlyOf yX0_onlyOf]
def wsL_law0_r17 : List Cond := [Cond.code yX0_onlyOf cX0_onlyOf 3 (some .int), Cond.methodLink RX5 150 yX2_lastPlaceOf, Cond.instanceMethod yX2_lastPlaceOf, Cond.selects RX2 yX2_lastPlaceOf yX2_lastPlaceOf, Cond.code yX2_lastPlaceOf cX2_lastPlaceOf 2 (some .int), Cond.methodLink RX5 198 yX5_carryOut, Cond.instanceMethod yX5_carryOut, Cond.selects RX5 yX5_carryOut yX5_carryOut, Cond.code yX5_carryOut cX5_carryOut 3 none, Cond.methodLink RX5 210 yX4_perform, Cond.instanceMethod yX4_perform, Cond.selects RX4 yX4_perform yX4_perform, Cond.code yX4_perform cX4_perform 4 (some .boolean), Cond.methodLink RX4 46 yX4_has, Cond.methodLink RX4 50 yX4_suited, Cond.methodLink RX4 53 yX4_isWithin, Cond.instanceMethod yX4_isWithin, Cond.selects RX4 yX4_isWithin yX4_isWithin, Cond.code yX4_isWithin cX4_isWithin 5 (some .boolean), Cond.methodLink RX5 214 yX1_keep, Cond.instanceMethod yX1_keep, Cond.selects RX1 yX1_keep yX1_keep, Cond.code yX1_keep cX1_keep 5 none, Cond.methodLink RX1 27 yJ6_bitCount_0f7a4]
def wsL_law0_r18 : List Cond := [Cond.methodLink RX5 132 yX5_hearAnswer, Cond.instanceMethod yX5_hearAnswer, Cond.selects RX5 yX5_hearAnswer yX5_hearAnswer, Cond.code yX5_hearAnswer cX5_hearAnswer 2 (some .int), Cond.methodLink RX5 166 yX3_readAnswer, Cond.instanceMethod yX3_readAnswer, Cond.selects RX3 yX3_readAnswer yX3_readAnswer, Cond.code yX3_readAnswer cX3_readAnswer 2 (some .boolean), Cond.methodLink RX3 36 yX3_accept, Cond.methodLink RX3 40 yX3_readAdjectives, Cond.methodLink RX3 43 yX3_acceptNoun, Cond.methodLink RX3 46 yX3_atEnd, Cond.methodLink RX5 176 yX4_described, Cond.methodLink RX5 180 yJ6_bitCount_0f7a4, Cond.methodLink RX5 185 yX2_answer, Cond.instanceMethod yX2_answer, Cond.selects RX2 yX2_answer yX2_answer, Cond.code yX2_answer cX2_answer 3 none, Cond.methodLink RX5 135 yX3_clear, Cond.instanceMethod yX3_clear, Cond.selects RX3 yX3_clear yX3_clear, Cond.code yX3_clear cX3_clear 1 none, Cond.methodLink RL 68 yX6_say, Cond.instanceMethod yX6_say]
def wsL_law0_r19 : List Cond := [Cond.selects RX6 yX6_say yX6_say, Cond.code yX6_say cX6_say 1 (some .int), Cond.fieldLink RX6 170 "ParserParlourModel" "questions" "I", Cond.methodLink RX6 167 yX6_understand, Cond.instanceMethod yX6_understand, Cond.selects RX6 yX6_understand yX6_understand, Cond.code yX6_understand cX6_understand 4 (some .int), Cond.fieldLink RX6 149 "ParserParlourModel" "asked" "I", Cond.fieldLink RX6 105 "ParserParlourModel" "length" "I", Cond.methodLink RX6 173 yX6_wrongOrder, Cond.instanceMethod yX6_wrongOrder, Cond.selects RX6 yX6_wrongOrder yX6_wrongOrder, Cond.code yX6_wrongOrder cX6_wrongOrder 8 (some .int), Cond.methodLink RX6 98 yX6_phrase, Cond.static yX6_phrase, Cond.code yX6_phrase cX6_phrase 6 (some .int), Cond.methodLink RX6 176 yX6_perform, Cond.instanceMethod yX6_perform, Cond.selects RX6 yX6_perform yX6_perform, Cond.code yX6_perform cX6_perform 4 (some .int), Cond.fieldLink RX6 102 "ParserParlourModel" "at" "I", Cond.fieldLink RX6 140 "ParserParlourModel" "meant" "I", Cond.fieldLink RX6 158 "ParserParlourModel" "done" "I", Cond.methodLink RX6 152 yX6_part]
def wsL_law0_r20 : List Cond := [Cond.instanceMethod yX6_part, Cond.selects RX6 yX6_part yX6_part, Cond.code yX6_part cX6_part 7 (some .int), Cond.methodLink RX6 137 yX6_is, Cond.instanceMethod yX6_is, Cond.selects RX6 yX6_is yX6_is, Cond.code yX6_is cX6_is 2 (some .boolean), Cond.methodLink RX6 118 yX6_fail, Cond.instanceMethod yX6_fail, Cond.selects RX6 yX6_fail yX6_fail, Cond.code yX6_fail cX6_fail 3 (some .int), Cond.fieldLink RX6 108 "ParserParlourModel" "failedAt" "I", Cond.fieldLink RX6 111 "ParserParlourModel" "choice" "I", Cond.methodLink RX6 114 yX6_endOf, Cond.instanceMethod yX6_endOf, Cond.selects RX6 yX6_endOf yX6_endOf, Cond.code yX6_endOf cX6_endOf 3 (some .int), Cond.methodLink RX6 143 yX6_single, Cond.instanceMethod yX6_single, Cond.selects RX6 yX6_single yX6_single, Cond.code yX6_single cX6_single 6 (some .int), Cond.methodLink RX6 122 yX6_adjectivesUpTo, Cond.instanceMethod yX6_adjectivesUpTo, Cond.selects RX6 yX6_adjectivesUpTo yX6_adjectivesUpTo]
def wsL_law0_r21 : List Cond := [Cond.code yX6_adjectivesUpTo cX6_adjectivesUpTo 5 (some .int), Cond.methodLink RX6 125 yX6_having, Cond.instanceMethod yX6_having, Cond.selects RX6 yX6_having yX6_having, Cond.code yX6_having cX6_having 7 (some .int), Cond.methodLink RX6 128 yX6_bits, Cond.static yX6_bits, Cond.code yX6_bits cX6_bits 3 (some .int), Cond.methodLink RX6 131 yX6_lowest, Cond.static yX6_lowest, Cond.code yX6_lowest cX6_lowest 2 (some .int), Cond.methodLink RX6 134 yX6_suited, Cond.instanceMethod yX6_suited, Cond.selects RX6 yX6_suited yX6_suited, Cond.code yX6_suited cX6_suited 5 (some .int), Cond.methodLink RX6 79 yX6_suits, Cond.instanceMethod yX6_suits, Cond.selects RX6 yX6_suits yX6_suits, Cond.code yX6_suits cX6_suits 4 (some .boolean), Cond.methodLink RX6 146 yX6_isSingleAt, Cond.instanceMethod yX6_isSingleAt, Cond.selects RX6 yX6_isSingleAt yX6_isSingleAt, Cond.code yX6_isSingleAt cX6_isSingleAt 3 (some .boolean), Cond.methodLink RX6 155 yX6_failed]
def wsL_law0_r22 : List Cond := [Cond.instanceMethod yX6_failed, Cond.selects RX6 yX6_failed yX6_failed, Cond.code yX6_failed cX6_failed 1 (some .int), Cond.methodLink RX6 161 yX6_acts, Cond.instanceMethod yX6_acts, Cond.selects RX6 yX6_acts yX6_acts, Cond.code yX6_acts cX6_acts 2 (some .boolean), Cond.methodLink RX6 164 yX6_isInside, Cond.instanceMethod yX6_isInside, Cond.selects RX6 yX6_isInside yX6_isInside, Cond.code yX6_isInside cX6_isInside 4 (some .boolean), Cond.methodLink RX6 179 yX6_wrongAnswer, Cond.instanceMethod yX6_wrongAnswer, Cond.selects RX6 yX6_wrongAnswer yX6_wrongAnswer, Cond.code yX6_wrongAnswer cX6_wrongAnswer 6 (some .int), Cond.methodLink RL 69 yX5_outcome, Cond.instanceMethod yX5_outcome, Cond.selects RX5 yX5_outcome yX5_outcome, Cond.code yX5_outcome cX5_outcome 1 (some .int), Cond.methodLink RL 72 yX6_outcome, Cond.instanceMethod yX6_outcome, Cond.selects RX6 yX6_outcome yX6_outcome, Cond.code yX6_outcome cX6_outcome 1 (some .int), Cond.methodLink RL 73 yX5_wrongAt]
def wsL_law0_r23 : List Cond := [Cond.instanceMethod yX5_wrongAt, Cond.selects RX5 yX5_wrongAt yX5_wrongAt, Cond.code yX5_wrongAt cX5_wrongAt 1 (some .int), Cond.methodLink RL 76 yX6_wrongAt, Cond.instanceMethod yX6_wrongAt, Cond.selects RX6 yX6_wrongAt yX6_wrongAt, Cond.code yX6_wrongAt cX6_wrongAt 1 (some .int), Cond.methodLink RL 77 yX5_verb, Cond.instanceMethod yX5_verb, Cond.selects RX5 yX5_verb yX5_verb, Cond.code yX5_verb cX5_verb 1 (some .int), Cond.methodLink RL 80 yX6_verb, Cond.instanceMethod yX6_verb, Cond.selects RX6 yX6_verb yX6_verb, Cond.code yX6_verb cX6_verb 1 (some .int), Cond.methodLink RL 81 yX5_meant, Cond.instanceMethod yX5_meant, Cond.selects RX5 yX5_meant yX5_meant, Cond.code yX5_meant cX5_meant 1 (some .int), Cond.methodLink RL 84 yX6_meant, Cond.instanceMethod yX6_meant, Cond.selects RX6 yX6_meant yX6_meant, Cond.code yX6_meant cX6_meant 1 (some .int), Cond.methodLink RL 85 yX5_done]
def wsL_law0_r24 : List Cond := [Cond.instanceMethod yX5_done, Cond.selects RX5 yX5_done yX5_done, Cond.code yX5_done cX5_done 1 (some .int), Cond.methodLink RL 88 yX6_done, Cond.instanceMethod yX6_done, Cond.selects RX6 yX6_done yX6_done, Cond.code yX6_done cX6_done 1 (some .int), Cond.methodLink RL 89 yX5_into, Cond.instanceMethod yX5_into, Cond.selects RX5 yX5_into yX5_into, Cond.code yX5_into cX5_into 1 (some .int), Cond.methodLink RL 92 yX6_into, Cond.instanceMethod yX6_into, Cond.selects RX6 yX6_into yX6_into, Cond.code yX6_into cX6_into 1 (some .int), Cond.methodLink RL 93 yX5_asked, Cond.instanceMethod yX5_asked, Cond.selects RX5 yX5_asked yX5_asked, Cond.code yX5_asked cX5_asked 1 (some .int), Cond.methodLink RL 96 yX6_asked, Cond.instanceMethod yX6_asked, Cond.selects RX6 yX6_asked yX6_asked, Cond.code yX6_asked cX6_asked 1 (some .int), Cond.methodLink RL 97 yX5_askedAt]
def wsL_law0_r25 : List Cond := [Cond.instanceMethod yX5_askedAt, Cond.selects RX5 yX5_askedAt yX5_askedAt, Cond.code yX5_askedAt cX5_askedAt 1 (some .int), Cond.methodLink RL 100 yX6_askedAt, Cond.instanceMethod yX6_askedAt, Cond.selects RX6 yX6_askedAt yX6_askedAt, Cond.code yX6_askedAt cX6_askedAt 1 (some .int), Cond.methodLink RL 101 yX5_questions, Cond.instanceMethod yX5_questions, Cond.selects RX5 yX5_questions yX5_questions, Cond.code yX5_questions cX5_questions 1 (some .int), Cond.methodLink RL 104 yX6_questions, Cond.instanceMethod yX6_questions, Cond.selects RX6 yX6_questions yX6_questions, Cond.code yX6_questions cX6_questions 1 (some .int)]
def wsL_law0 : List Cond := (wsL_law0_r1 ++ (wsL_law0_r2 ++ (wsL_law0_r3 ++ (wsL_law0_r4 ++ (wsL_law0_r5 ++ (wsL_law0_r6 ++ (wsL_law0_r7 ++ (wsL_law0_r8 ++ (wsL_law0_r9 ++ (wsL_law0_r10 ++ (wsL_law0_r11 ++ (wsL_law0_r12 ++ (wsL_law0_r13 ++ (wsL_law0_r14 ++ (wsL_law0_r15 ++ (wsL_law0_r16 ++ (wsL_law0_r17 ++ (wsL_law0_r18 ++ (wsL_law0_r19 ++ (wsL_law0_r20 ++ (wsL_law0_r21 ++ (wsL_law0_r22 ++ (wsL_law0_r23 ++ (wsL_law0_r24 ++ wsL_law0_r25)))))))))))))))))))))))) ++ wsX50 ++ wsX60 ++ wsX40 ++ wsX30 ++ wsX20 ++ wsX10 ++ wsX00 ++ ([] : List Cond)
def wsL_law : List Cond := wsL_law0 ++ (vx_atS RX5 66 "java/lang/IllegalArgumentException" ["java/lang/RuntimeException", "java/lang/Exception"]).filter goodWord ++ (vx_atS RX5 78 "java/lang/IllegalStateException" ["java/lang/RuntimeException", "java/lang/Exception"]).filter goodWord ++ (vx_atS RX5 91 "java/lang/IndexOutOfBoundsException" ["java/lang/RuntimeException", "java/lang/Exception"]).filter goodWord
end
section
set_option maxRecDepth 20000 in
theorem in_wsL_law0_r1 : ∀ w ∈ wsL_law0_r1, w ∈ lw_tbl := fun w h => (goodIn_p wsL_law0_r1 [61, 64] (by decide +kernel) (by decide +kernel) w h).1
set_option maxRecDepth 20000 in
theorem in_wsL_law0_r2 : ∀ w ∈ wsL_law0_r2, w ∈ lw_tbl := fun w h => (goodIn_p wsL_law0_r2 [69] (by decide +kernel) (by decide +kernel) w h).1
set_option maxRecDepth 20000 in
theorem in_wsL_law0_r3 : ∀ w ∈ wsL_law0_r3, w ∈ lw_tbl := fun w h => (goodIn_p wsL_law0_r3 [97, 126] (by decide +kernel) (by decide +kernel) w h).1
set_option maxRecDepth 20000 in
theorem in_wsL_law0_r4 : ∀ w ∈ wsL_law0_r4, w ∈ lw_tbl := fun w h => (goodIn_p wsL_law0_r4 [164, 192, 197] (by decide +kernel) (by decide +kernel) w h).1
set_option maxRecDepth 20000 in
theorem in_wsL_law0_r5 : ∀ w ∈ wsL_law0_r5, w ∈ lw_tbl := fun w h => (goodIn_p wsL_law0_r5 [652] (by decide +kernel) (by decide +kernel) w h).1
set_option maxRecDepth 20000 in
theorem in_wsL_law0_r6 : ∀ w ∈ wsL_law0_r6, w ∈ lw_tbl := fun w h => (goodIn_p wsL_law0_r6 [496, 585, 738, 742] (by decide +kernel) (by decide +kernel) w h).1
set_option maxRecDepth 20000 in
theorem in_wsL_law0_r7 : ∀ w ∈ wsL_law0_r7, w ∈ lw_tbl := fun w h => (goodIn_p wsL_law0_r7 [734, 593, 419, 272] (by decide +kernel) (by decide +kernel) w h).1
set_option maxRecDepth 20000 in
theorem in_wsL_law0_r8 : ∀ w ∈ wsL_law0_r8, w ∈ lw_tbl := fun w h => (goodIn_p wsL_law0_r8 [746, 750, 754, 618, 275, 758] (by decide +kernel) (by decide +kernel) w h).1
set_option maxRecDepth 20000 in
theorem in_wsL_law0_r9 : ∀ w ∈ wsL_law0_r9, w ∈ lw_tbl := fun w h => (goodIn_p wsL_law0_r9 [264, 268, 762, 766, 770] (by decide +kernel) (by decide +kernel) w h).1
set_option maxRecDepth 20000 in
theorem in_wsL_law0_r10 : ∀ w ∈ wsL_law0_r10, w ∈ lw_tbl := fun w h => (goodIn_p wsL_law0_r10 [625, 628, 286, 335, 635, 774, 777] (by decide +kernel) (by decide +kernel) w h).1
set_option maxRecDepth 20000 in
theorem in_wsL_law0_r11 : ∀ w ∈ wsL_law0_r11, w ∈ lw_tbl := fun w h => (goodIn_p wsL_law0_r11 [780, 783, 786, 642, 647, 790] (by decide +kernel) (by decide +kernel) w h).1
set_option maxRecDepth 20000 in
theorem in_wsL_law0_r12 : ∀ w ∈ wsL_law0_r12, w ∈ lw_tbl := fun w h => (goodIn_p wsL_law0_r12 [279, 283, 290, 294, 298] (by decide +kernel) (by decide +kernel) w h).1
set_option maxRecDepth 20000 in
theorem in_wsL_law0_r13 : ∀ w ∈ wsL_law0_r13, w ∈ lw_tbl := fun w h => (goodIn_p wsL_law0_r13 [303, 308, 312, 316, 320, 324] (by decide +kernel) (by decide +kernel) w h).1
set_option maxRecDepth 20000 in
theorem in_wsL_law0_r14 : ∀ w ∈ wsL_law0_r14, w ∈ lw_tbl := fun w h => (goodIn_p wsL_law0_r14 [328, 332, 339, 343, 347, 351] (by decide +kernel) (by decide +kernel) w h).1
set_option maxRecDepth 20000 in
theorem in_wsL_law0_r15 : ∀ w ∈ wsL_law0_r15, w ∈ lw_tbl := fun w h => (goodIn_p wsL_law0_r15 [355, 360, 365, 370, 374] (by decide +kernel) (by decide +kernel) w h).1
set_option maxRecDepth 20000 in
theorem in_wsL_law0_r16 : ∀ w ∈ wsL_law0_r16, w ∈ lw_tbl := fun w h => (goodIn_p wsL_law0_r16 [379, 383, 387, 390, 397] (by decide +kernel) (by decide +kernel) w h).1
set_option maxRecDepth 20000 in
theorem in_wsL_law0_r17 : ∀ w ∈ wsL_law0_r17, w ∈ lw_tbl := fun w h => (goodIn_p wsL_law0_r17 [401, 406, 410, 415, 424, 428] (by decide +kernel) (by decide +kernel) w h).1
set_option maxRecDepth 20000 in
theorem in_wsL_law0_r18 : ∀ w ∈ wsL_law0_r18, w ∈ lw_tbl := fun w h => (goodIn_p wsL_law0_r18 [433, 437, 447, 451] (by decide +kernel) (by decide +kernel) w h).1
set_option maxRecDepth 20000 in
theorem in_wsL_law0_r19 : ∀ w ∈ wsL_law0_r19, w ∈ lw_tbl := fun w h => (goodIn_p wsL_law0_r19 [794, 798, 802, 805, 809] (by decide +kernel) (by decide +kernel) w h).1
set_option maxRecDepth 20000 in
theorem in_wsL_law0_r20 : ∀ w ∈ wsL_law0_r20, w ∈ lw_tbl := fun w h => (goodIn_p wsL_law0_r20 [813, 817, 821, 825, 829] (by decide +kernel) (by decide +kernel) w h).1
set_option maxRecDepth 20000 in
theorem in_wsL_law0_r21 : ∀ w ∈ wsL_law0_r21, w ∈ lw_tbl := fun w h => (goodIn_p wsL_law0_r21 [833, 837, 840, 843, 847, 851, 855] (by decide +kernel) (by decide +kernel) w h).1
set_option maxRecDepth 20000 in
theorem in_wsL_law0_r22 : ∀ w ∈ wsL_law0_r22, w ∈ lw_tbl := fun w h => (goodIn_p wsL_law0_r22 [859, 863, 867, 871, 455, 875] (by decide +kernel) (by decide +kernel) w h).1
set_option maxRecDepth 20000 in
theorem in_wsL_law0_r23 : ∀ w ∈ wsL_law0_r23, w ∈ lw_tbl := fun w h => (goodIn_p wsL_law0_r23 [459, 879, 463, 883, 467, 887] (by decide +kernel) (by decide +kernel) w h).1
set_option maxRecDepth 20000 in
theorem in_wsL_law0_r24 : ∀ w ∈ wsL_law0_r24, w ∈ lw_tbl := fun w h => (goodIn_p wsL_law0_r24 [471, 891, 475, 895, 479, 899] (by decide +kernel) (by decide +kernel) w h).1
set_option maxRecDepth 20000 in
theorem in_wsL_law0_r25 : ∀ w ∈ wsL_law0_r25, w ∈ lw_tbl := fun w h => (goodIn_p wsL_law0_r25 [483, 903, 487, 907] (by decide +kernel) (by decide +kernel) w h).1
theorem in_wsX50 : ∀ w ∈ wsX50, w ∈ lw_tbl := by decide +kernel
theorem in_wsX60 : ∀ w ∈ wsX60, w ∈ lw_tbl := by decide +kernel
theorem in_wsX40 : ∀ w ∈ wsX40, w ∈ lw_tbl := by decide +kernel
theorem in_wsX30 : ∀ w ∈ wsX30, w ∈ lw_tbl := by decide +kernel
theorem in_wsX20 : ∀ w ∈ wsX20, w ∈ lw_tbl := by decide +kernel
theorem in_wsX10 : ∀ w ∈ wsX10, w ∈ lw_tbl := by decide +kernel
theorem in_wsX00 : ∀ w ∈ wsX00, w ∈ lw_tbl := by decide +kernel
theorem wsL_law_in0 : ∀ w ∈ wsL_law0, w ∈ lw_tbl := by
  intro w h
  unfold wsL_law0 at h
  rcases List.mem_append.mp h with h | h
  · rcases List.mem_append.mp h with h | h
    · rcases List.mem_append.mp h with h | h
      · rcases List.mem_append.mp h with h | h
        · rcases List.mem_append.mp h with h | h
          · rcases List.mem_append.mp h with h | h
            · rcases List.mem_append.mp h with h | h
              · rcases List.mem_append.mp h with h | h
                · rcases List.mem_append.mp h with h | h
                  · exact in_wsL_law0_r1 w h
                  · rcases List.mem_append.mp h with h | h
                    · exact in_wsL_law0_r2 w h
                    · rcases List.mem_append.mp h with h | h
                      · exact in_wsL_law0_r3 w h
                      · rcases List.mem_append.mp h with h | h
                        · exact in_wsL_law0_r4 w h
                        · rcases List.mem_append.mp h with h | h
                          · exact in_wsL_law0_r5 w h
                          · rcases List.mem_append.mp h with h | h
                            · exact in_wsL_law0_r6 w h
                            · rcases List.mem_append.mp h with h | h
                              · exact in_wsL_law0_r7 w h
                              · rcases List.mem_append.mp h with h | h
                                · exact in_wsL_law0_r8 w h
                                · rcases List.mem_append.mp h with h | h
                                  · exact in_wsL_law0_r9 w h
                                  · rcases List.mem_append.mp h with h | h
                                    · exact in_wsL_law0_r10 w h
                                    · rcases List.mem_append.mp h with h | h
                                      · exact in_wsL_law0_r11 w h
                                      · rcases List.mem_append.mp h with h | h
                                        · exact in_wsL_law0_r12 w h
                                        · rcases List.mem_append.mp h with h | h
                                          · exact in_wsL_law0_r13 w h
                                          · rcases List.mem_append.mp h with h | h
                                            · exact in_wsL_law0_r14 w h
                                            · rcases List.mem_append.mp h with h | h
                                              · exact in_wsL_law0_r15 w h
                                              · rcases List.mem_append.mp h with h | h
                                                · exact in_wsL_law0_r16 w h
                                                · rcases List.mem_append.mp h with h | h
                                                  · exact in_wsL_law0_r17 w h
                                                  · rcases List.mem_append.mp h with h | h
                                                    · exact in_wsL_law0_r18 w h
                                                    · rcases List.mem_append.mp h with h | h
                                                      · exact in_wsL_law0_r19 w h
                                                      · rcases List.mem_append.mp h with h | h
                                                        · exact in_wsL_law0_r20 w h
                                                        · rcases List.mem_append.mp h with h | h
                                                          · exact in_wsL_law0_r21 w h
                                                          · rcases List.mem_append.mp h with h | h
                                                            · exact in_wsL_law0_r22 w h
                                                            · rcases List.mem_append.mp h with h | h
                                                              · exact in_wsL_law0_r23 w h
                                                              · rcases List.mem_append.mp h with h | h
                                                                · exact in_wsL_law0_r24 w h
                                                                · exact in_wsL_law0_r25 w h
                · exact in_wsX50 w h
              · exact in_wsX60 w h
            · exact in_wsX40 w h
          · exact in_wsX30 w h
        · exact in_wsX20 w h
      · exact in_wsX10 w h
    · exact in_wsX00 w h
  · cases h
end
section
theorem wsL_law_x0 : ∀ w ∈ (vx_atS RX5 66 "java/lang/IllegalArgumentException" ["java/lang/RuntimeException", "java/lang/Exception"]).filter goodWord, w ∈ lw_tbl := by decide +kernel
theorem wsL_law_x1 : ∀ w ∈ (vx_atS RX5 78 "java/lang/IllegalStateException" ["java/lang/RuntimeException", "java/lang/Exception"]).filter goodWord, w ∈ lw_tbl := by decide +kernel
theorem wsL_law_x2 : ∀ w ∈ (vx_atS RX5 91 "java/lang/IndexOutOfBoundsException" ["java/lang/RuntimeException", "java/lang/Exception"]).filter goodWord, w ∈ lw_tbl := by decide +kernel
end
section
theorem wsL_law_in : ∀ w ∈ wsL_law, w ∈ lw_tbl := fun w h => (List.mem_append.mp h).elim (fun h => (List.mem_append.mp h).elim (fun h => (List.mem_append.mp h).elim (fun h => wsL_law_in0 w h) (fun h => wsL_law_x0 w h)) (fun h => wsL_law_x1 w h)) (fun h => wsL_law_x2 w h)
theorem inlX0 : ∀ w ∈ wsX00, w ∈ wsL_law := fun _ h => List.mem_append_left _ (List.mem_append_left _ (List.mem_append_left _ (List.mem_append_left _ (List.mem_append_right _ h))))
theorem inX0 : ∀ w ∈ wsX00, w ∈ lw_tbl := fun w h => wsL_law_in w (inlX0 w h)
theorem inlX1 : ∀ w ∈ wsX10, w ∈ wsL_law := fun _ h => List.mem_append_left _ (List.mem_append_left _ (List.mem_append_left _ (List.mem_append_left _ (List.mem_append_left _ (List.mem_append_right _ h)))))
theorem inX1 : ∀ w ∈ wsX10, w ∈ lw_tbl := fun w h => wsL_law_in w (inlX1 w h)
theorem inlX2 : ∀ w ∈ wsX20, w ∈ wsL_law := fun _ h => List.mem_append_left _ (List.mem_append_left _ (List.mem_append_left _ (List.mem_append_left _ (List.mem_append_left _ (List.mem_append_left _ (List.mem_append_right _ h))))))
theorem inX2 : ∀ w ∈ wsX20, w ∈ lw_tbl := fun w h => wsL_law_in w (inlX2 w h)
theorem inlX3 : ∀ w ∈ wsX30, w ∈ wsL_law := fun _ h => List.mem_append_left _ (List.mem_append_left _ (List.mem_append_left _ (List.mem_append_left _ (List.mem_append_left _ (List.mem_append_left _ (List.mem_append_left _ (List.mem_append_right _ h)))))))
theorem inX3 : ∀ w ∈ wsX30, w ∈ lw_tbl := fun w h => wsL_law_in w (inlX3 w h)
theorem inlX4 : ∀ w ∈ wsX40, w ∈ wsL_law := fun _ h => List.mem_append_left _ (List.mem_append_left _ (List.mem_append_left _ (List.mem_append_left _ (List.mem_append_left _ (List.mem_append_left _ (List.mem_append_left _ (List.mem_append_left _ (List.mem_append_right _ h))))))))
theorem inX4 : ∀ w ∈ wsX40, w ∈ lw_tbl := fun w h => wsL_law_in w (inlX4 w h)
theorem inlX5 : ∀ w ∈ wsX50, w ∈ wsL_law := fun _ h => List.mem_append_left _ (List.mem_append_left _ (List.mem_append_left _ (List.mem_append_left _ (List.mem_append_left _ (List.mem_append_left _ (List.mem_append_left _ (List.mem_append_left _ (List.mem_append_left _ (List.mem_append_left _ (List.mem_append_right _ h))))))))))
theorem inX5 : ∀ w ∈ wsX50, w ∈ lw_tbl := fun w h => wsL_law_in w (inlX5 w h)
theorem inlX6 : ∀ w ∈ wsX60, w ∈ wsL_law := fun _ h => List.mem_append_left _ (List.mem_append_left _ (List.mem_append_left _ (List.mem_append_left _ (List.mem_append_left _ (List.mem_append_left _ (List.mem_append_left _ (List.mem_append_left _ (List.mem_append_left _ (List.mem_append_right _ h)))))))))
theorem inX6 : ∀ w ∈ wsX60, w ∈ lw_tbl := fun w h => wsL_law_in w (inlX6 w h)
theorem inJ6 : ∀ w ∈ wsJ60, w ∈ lw_tbl := by decide +kernel
theorem inJ0 : ∀ w ∈ wsJ00, w ∈ lw_tbl := by decide +kernel
set_option maxRecDepth 20000 in
theorem ggX0_init_X0_start : GoodIn wsX0_init wsX0_start := goodIn_r _ [11, 12, 13, 14, 15, 16, 17, 18, 19, 20, 21, 22, 23, 24, 25, 26] (by decide +kernel) (by decide +kernel)
set_option maxRecDepth 20000 in
theorem gX0_init_X0_start : GoodIn wsX0_init (wsV RX0 23 RX0 yX0_start wsX0_start) := goodIn_app (goodIn_of _ (by decide +kernel)) ggX0_init_X0_start
theorem dX0_init_0 : decode cX0_init 0 = .ok (.aload_n 0, 1) := by decide +kernel
theorem dX0_init_1 : decode cX0_init 1 = .ok (.invokespecial 3, 3) := by decide +kernel
theorem dX0_init_4 : decode cX0_init 4 = .ok (.aload_n 0, 1) := by decide +kernel
theorem dX0_init_5 : decode cX0_init 5 = .ok (.aload_n 1, 1) := by decide +kernel
theorem dX0_init_6 : decode cX0_init 6 = .ok (.putfield 9, 3) := by decide +kernel
theorem dX0_init_9 : decode cX0_init 9 = .ok (.aload_n 0, 1) := by decide +kernel
theorem dX0_init_10 : decode cX0_init 10 = .ok (.aload_n 2, 1) := by decide +kernel
theorem dX0_init_11 : decode cX0_init 11 = .ok (.putfield 15, 3) := by decide +kernel
theorem dX0_init_14 : decode cX0_init 14 = .ok (.aload_n 0, 1) := by decide +kernel
theorem dX0_init_15 : decode cX0_init 15 = .ok (.aload_n 3, 1) := by decide +kernel
theorem dX0_init_16 : decode cX0_init 16 = .ok (.putfield 19, 3) := by decide +kernel
theorem dX0_init_19 : decode cX0_init 19 = .ok (.aload_n 0, 1) := by decide +kernel
theorem dX0_init_20 : decode cX0_init 20 = .ok (.iconst 0, 1) := by decide +kernel
theorem dX0_init_21 : decode cX0_init 21 = .ok (.invokevirtual 23, 3) := by decide +kernel
theorem dX0_init_24 : decode cX0_init 24 = .ok (.return_, 1) := by decide +kernel
theorem dX0_start_0 : decode cX0_start 0 = .ok (.aload_n 0, 1) := by decide +kernel
theorem dX0_start_1 : decode cX0_start 1 = .ok (.iload_n 1, 1) := by decide +kernel
theorem dX0_start_2 : decode cX0_start 2 = .ok (.putfield 27, 3) := by decide +kernel
theorem dX0_start_5 : decode cX0_start 5 = .ok (.aload_n 0, 1) := by decide +kernel
theorem dX0_start_6 : decode cX0_start 6 = .ok (.iconst 0, 1) := by decide +kernel
theorem dX0_start_7 : decode cX0_start 7 = .ok (.putfield 31, 3) := by decide +kernel
theorem dX0_start_10 : decode cX0_start 10 = .ok (.aload_n 0, 1) := by decide +kernel
theorem dX0_start_11 : decode cX0_start 11 = .ok (.iconst 0, 1) := by decide +kernel
theorem dX0_start_12 : decode cX0_start 12 = .ok (.putfield 34, 3) := by decide +kernel
theorem dX0_start_15 : decode cX0_start 15 = .ok (.aload_n 0, 1) := by decide +kernel
theorem dX0_start_16 : decode cX0_start 16 = .ok (.iconst (-1), 1) := by decide +kernel
theorem dX0_start_17 : decode cX0_start 17 = .ok (.putfield 37, 3) := by decide +kernel
theorem dX0_start_20 : decode cX0_start 20 = .ok (.aload_n 0, 1) := by decide +kernel
theorem dX0_start_21 : decode cX0_start 21 = .ok (.iconst (-1), 1) := by decide +kernel
theorem dX0_start_22 : decode cX0_start 22 = .ok (.putfield 40, 3) := by decide +kernel
theorem dX0_start_25 : decode cX0_start 25 = .ok (.aload_n 0, 1) := by decide +kernel
theorem dX0_start_26 : decode cX0_start 26 = .ok (.iconst 0, 1) := by decide +kernel
theorem dX0_start_27 : decode cX0_start 27 = .ok (.putfield 43, 3) := by decide +kernel
theorem dX0_start_30 : decode cX0_start 30 = .ok (.return_, 1) := by decide +kernel
set_option maxRecDepth 20000 in
theorem ggX0_find_X4_reachable : GoodIn wsX0_find wsX4_reachable := goodIn_r _ [10, 11, 12, 13, 14, 15, 9, 16, 17, 18, 19, 20, 106, 107, 108, 109, 110, 111] (by decide +kernel) (by decide +kernel)
set_option maxRecDepth 20000 in
theorem gX0_find_X4_reachable : GoodIn wsX0_find (wsV RX0 46 RX4 yX4_reachable wsX4_reachable) := goodIn_app (goodIn_of _ (by decide +kernel)) ggX0_find_X4_reachable
set_option maxRecDepth 20000 in
theorem ggX0_find_X0_start : GoodIn wsX0_find wsX0_start := goodIn_r _ [25, 26, 3, 4, 5, 27, 28, 89, 90, 91, 92, 93, 94, 95, 96, 97] (by decide +kernel) (by decide +kernel)
set_option maxRecDepth 20000 in
theorem gX0_find_X0_start : GoodIn wsX0_find (wsV RX0 23 RX0 yX0_start wsX0_start) := goodIn_app (goodIn_of _ (by decide +kernel)) ggX0_find_X0_start
set_option maxRecDepth 20000 in
theorem ggX0_find_X4_suited : GoodIn wsX0_find wsX4_suited := goodIn_r _ [32, 33, 12, 34, 7, 8, 9, 10, 11, 13, 14, 15, 16, 17, 18, 19, 20, 35, 36, 37, 38, 106, 107, 108, 109, 110, 111] (by decide +kernel) (by decide +kernel)
set_option maxRecDepth 20000 in
theorem gX0_find_X4_suited : GoodIn wsX0_find (wsV RX0 57 RX4 yX4_suited wsX4_suited) := goodIn_app (goodIn_of _ (by decide +kernel)) ggX0_find_X4_suited
set_option maxRecDepth 20000 in
theorem ggX0_find_X2_roleOf : GoodIn wsX0_find wsX2_roleOf := goodIn_r _ [43, 44, 45, 46, 47, 42, 48, 49, 98, 99, 100, 101, 102, 103, 104, 105] (by decide +kernel) (by decide +kernel)
set_option maxRecDepth 20000 in
theorem gX0_find_X2_roleOf : GoodIn wsX0_find (wsV RX0 64 RX2 yX2_roleOf wsX2_roleOf) := goodIn_app (goodIn_of _ (by decide +kernel)) ggX0_find_X2_roleOf
set_option maxRecDepth 20000 in
theorem ggX0_find_X0_findPart : GoodIn wsX0_find wsX0_findPart := goodIn_r _ [53, 2, 3, 54, 26, 39, 40, 41, 42, 43, 44, 45, 46, 47, 48, 49, 55, 56, 57, 24, 58, 59, 60, 61, 62, 63, 27, 64, 65, 66, 67, 1, 68, 69, 70, 9, 71, 11, 72, 73, 74, 75, 76, 77, 78, 79, 80, 81, 82, 83, 84, 28, 89, 90, 91, 92, 93, 94, 95, 96, 97, 98, 99, 100, 101, 102, 103, 104, 105, 112, 113, 114, 115, 116, 106, 107, 108, 109, 110, 111] (by decide +kernel) (by decide +kernel)
set_option maxRecDepth 20000 in
theorem gX0_find_X0_findPart : GoodIn wsX0_find (wsV RX0 67 RX0 yX0_findPart wsX0_findPart) := goodIn_app (goodIn_of _ (by decide +kernel)) ggX0_find_X0_findPart
set_option maxRecDepth 20000 in
theorem ggX0_find_X0_findSingle : GoodIn wsX0_find wsX0_findSingle := goodIn_r _ [58, 2, 54, 26, 59, 46, 47, 42, 48, 49, 60, 61, 62, 24, 63, 3, 27, 64, 65, 66, 67, 1, 68, 69, 70, 9, 71, 11, 72, 73, 74, 75, 76, 77, 78, 79, 80, 81, 82, 83, 84, 28, 89, 90, 91, 92, 93, 94, 95, 96, 97, 98, 99, 100, 101, 102, 103, 104, 105, 112, 113, 114, 115, 116, 106, 107, 108, 109, 110, 111] (by decide +kernel) (by decide +kernel)
set_option maxRecDepth 20000 in
theorem gX0_find_X0_findSingle : GoodIn wsX0_find (wsV RX0 71 RX0 yX0_findSingle wsX0_findSingle) := goodIn_app (goodIn_of _ (by decide +kernel)) ggX0_find_X0_findSingle
set_option maxRecDepth 20000 in
theorem ggX0_find_X0_onlyOf : GoodIn wsX0_find wsX0_onlyOf := goodIn_r _ [88, 18, 19, 20] (by decide +kernel) (by decide +kernel)
set_option maxRecDepth 20000 in
theorem gX0_find_X0_onlyOf : GoodIn wsX0_find (wsV RX0 74 RX0 yX0_onlyOf wsX0_onlyOf) := goodIn_app (goodIn_of _ (by decide +kernel)) ggX0_find_X0_onlyOf
theorem dX0_find_0 : decode cX0_find 0 = .ok (.aload_n 0, 1) := by decide +kernel
theorem dX0_find_1 : decode cX0_find 1 = .ok (.aload_n 0, 1) := by decide +kernel
theorem dX0_find_2 : decode cX0_find 2 = .ok (.getfield 9, 3) := by decide +kernel
theorem dX0_find_5 : decode cX0_find 5 = .ok (.invokevirtual 46, 3) := by decide +kernel
theorem dX0_find_8 : decode cX0_find 8 = .ok (.invokevirtual 23, 3) := by decide +kernel
theorem dX0_find_11 : decode cX0_find 11 = .ok (.aload_n 0, 1) := by decide +kernel
theorem dX0_find_12 : decode cX0_find 12 = .ok (.getfield 9, 3) := by decide +kernel
theorem dX0_find_15 : decode cX0_find 15 = .ok (.aload_n 0, 1) := by decide +kernel
theorem dX0_find_16 : decode cX0_find 16 = .ok (.getfield 15, 3) := by decide +kernel
theorem dX0_find_19 : decode cX0_find 19 = .ok (.getfield 52, 3) := by decide +kernel
theorem dX0_find_22 : decode cX0_find 22 = .ok (.invokevirtual 57, 3) := by decide +kernel
theorem dX0_find_25 : decode cX0_find 25 = .ok (.istore_n 1, 1) := by decide +kernel
theorem dX0_find_26 : decode cX0_find 26 = .ok (.iconst 0, 1) := by decide +kernel
theorem dX0_find_27 : decode cX0_find 27 = .ok (.istore_n 2, 1) := by decide +kernel
theorem dX0_find_28 : decode cX0_find 28 = .ok (.iload_n 2, 1) := by decide +kernel
theorem dX0_find_29 : decode cX0_find 29 = .ok (.aload_n 0, 1) := by decide +kernel
theorem dX0_find_30 : decode cX0_find 30 = .ok (.getfield 15, 3) := by decide +kernel
theorem dX0_find_33 : decode cX0_find 33 = .ok (.getfield 61, 3) := by decide +kernel
theorem dX0_find_36 : decode cX0_find 36 = .ok (.if_icmp .ge 74, 3) := by decide +kernel
theorem dX0_find_39 : decode cX0_find 39 = .ok (.aload_n 0, 1) := by decide +kernel
theorem dX0_find_40 : decode cX0_find 40 = .ok (.getfield 31, 3) := by decide +kernel
theorem dX0_find_43 : decode cX0_find 43 = .ok (.ifCond .ne 67, 3) := by decide +kernel
theorem dX0_find_46 : decode cX0_find 46 = .ok (.aload_n 0, 1) := by decide +kernel
theorem dX0_find_47 : decode cX0_find 47 = .ok (.getfield 15, 3) := by decide +kernel
theorem dX0_find_50 : decode cX0_find 50 = .ok (.iload_n 2, 1) := by decide +kernel
theorem dX0_find_51 : decode cX0_find 51 = .ok (.invokevirtual 64, 3) := by decide +kernel
theorem dX0_find_54 : decode cX0_find 54 = .ok (.istore_n 3, 1) := by decide +kernel
theorem dX0_find_55 : decode cX0_find 55 = .ok (.iload_n 3, 1) := by decide +kernel
theorem dX0_find_56 : decode cX0_find 56 = .ok (.ifCond .ne 21, 3) := by decide +kernel
theorem dX0_find_59 : decode cX0_find 59 = .ok (.aload_n 0, 1) := by decide +kernel
theorem dX0_find_60 : decode cX0_find 60 = .ok (.dup, 1) := by decide +kernel
theorem dX0_find_61 : decode cX0_find 61 = .ok (.getfield 34, 3) := by decide +kernel
theorem dX0_find_64 : decode cX0_find 64 = .ok (.aload_n 0, 1) := by decide +kernel
theorem dX0_find_65 : decode cX0_find 65 = .ok (.iload_n 2, 1) := by decide +kernel
theorem dX0_find_66 : decode cX0_find 66 = .ok (.iload_n 1, 1) := by decide +kernel
theorem dX0_find_67 : decode cX0_find 67 = .ok (.invokevirtual 67, 3) := by decide +kernel
theorem dX0_find_70 : decode cX0_find 70 = .ok (.ior, 1) := by decide +kernel
theorem dX0_find_71 : decode cX0_find 71 = .ok (.putfield 34, 3) := by decide +kernel
theorem dX0_find_74 : decode cX0_find 74 = .ok (.goto 30, 3) := by decide +kernel
theorem dX0_find_77 : decode cX0_find 77 = .ok (.iload_n 3, 1) := by decide +kernel
theorem dX0_find_78 : decode cX0_find 78 = .ok (.iconst 2, 1) := by decide +kernel
theorem dX0_find_79 : decode cX0_find 79 = .ok (.if_icmp .ne 25, 3) := by decide +kernel
theorem dX0_find_82 : decode cX0_find 82 = .ok (.aload_n 0, 1) := by decide +kernel
theorem dX0_find_83 : decode cX0_find 83 = .ok (.aload_n 0, 1) := by decide +kernel
theorem dX0_find_84 : decode cX0_find 84 = .ok (.aload_n 0, 1) := by decide +kernel
theorem dX0_find_85 : decode cX0_find 85 = .ok (.iload_n 2, 1) := by decide +kernel
theorem dX0_find_86 : decode cX0_find 86 = .ok (.aload_n 0, 1) := by decide +kernel
theorem dX0_find_87 : decode cX0_find 87 = .ok (.getfield 9, 3) := by decide +kernel
theorem dX0_find_90 : decode cX0_find 90 = .ok (.bipush 16, 2) := by decide +kernel
theorem dX0_find_92 : decode cX0_find 92 = .ok (.invokevirtual 57, 3) := by decide +kernel
theorem dX0_find_95 : decode cX0_find 95 = .ok (.invokevirtual 71, 3) := by decide +kernel
theorem dX0_find_98 : decode cX0_find 98 = .ok (.invokevirtual 74, 3) := by decide +kernel
theorem dX0_find_101 : decode cX0_find 101 = .ok (.putfield 37, 3) := by decide +kernel
theorem dX0_find_104 : decode cX0_find 104 = .ok (.iinc 2 1, 3) := by decide +kernel
theorem dX0_find_107 : decode cX0_find 107 = .ok (.goto (-79), 3) := by decide +kernel
theorem dX0_find_110 : decode cX0_find 110 = .ok (.aload_n 0, 1) := by decide +kernel
theorem dX0_find_111 : decode cX0_find 111 = .ok (.getfield 31, 3) := by decide +kernel
theorem dX0_find_114 : decode cX0_find 114 = .ok (.ireturn, 1) := by decide +kernel
set_option maxRecDepth 20000 in
theorem ggX0_onlyOf_X5_contains : GoodIn wsX0_onlyOf wsX5_contains := goodIn_r _ [3] (by decide +kernel) (by decide +kernel)
set_option maxRecDepth 20000 in
theorem gX0_onlyOf_X5_contains_n77 : GoodIn wsX0_onlyOf (wsX5_contains) := ggX0_onlyOf_X5_contains
theorem dX0_onlyOf_0 : decode cX0_onlyOf 0 = .ok (.iconst 0, 1) := by decide +kernel
theorem dX0_onlyOf_1 : decode cX0_onlyOf 1 = .ok (.istore_n 2, 1) := by decide +kernel
theorem dX0_onlyOf_2 : decode cX0_onlyOf 2 = .ok (.iload_n 2, 1) := by decide +kernel
theorem dX0_onlyOf_3 : decode cX0_onlyOf 3 = .ok (.bipush 12, 2) := by decide +kernel
theorem dX0_onlyOf_5 : decode cX0_onlyOf 5 = .ok (.if_icmp .ge 19, 3) := by decide +kernel
theorem dX0_onlyOf_8 : decode cX0_onlyOf 8 = .ok (.iload_n 1, 1) := by decide +kernel
theorem dX0_onlyOf_9 : decode cX0_onlyOf 9 = .ok (.iload_n 2, 1) := by decide +kernel
theorem dX0_onlyOf_10 : decode cX0_onlyOf 10 = .ok (.invokestatic 77, 3) := by decide +kernel
theorem dX0_onlyOf_13 : decode cX0_onlyOf 13 = .ok (.ifCond .eq 5, 3) := by decide +kernel
theorem dX0_onlyOf_16 : decode cX0_onlyOf 16 = .ok (.iload_n 2, 1) := by decide +kernel
theorem dX0_onlyOf_17 : decode cX0_onlyOf 17 = .ok (.ireturn, 1) := by decide +kernel
theorem dX0_onlyOf_18 : decode cX0_onlyOf 18 = .ok (.iinc 2 1, 3) := by decide +kernel
theorem dX0_onlyOf_21 : decode cX0_onlyOf 21 = .ok (.goto (-19), 3) := by decide +kernel
theorem dX0_onlyOf_24 : decode cX0_onlyOf 24 = .ok (.iconst (-1), 1) := by decide +kernel
theorem dX0_onlyOf_25 : decode cX0_onlyOf 25 = .ok (.ireturn, 1) := by decide +kernel
set_option maxRecDepth 20000 in
theorem ggX0_findPart_X2_roleOf : GoodIn wsX0_findPart wsX2_roleOf := goodIn_r _ [9, 10, 11, 12, 13, 8, 14, 15, 61, 62, 63, 64, 65, 66, 67, 68] (by decide +kernel) (by decide +kernel)
set_option maxRecDepth 20000 in
theorem gX0_findPart_X2_roleOf : GoodIn wsX0_findPart (wsV RX0 64 RX2 yX2_roleOf wsX2_roleOf) := goodIn_app (goodIn_of _ (by decide +kernel)) ggX0_findPart_X2_roleOf
set_option maxRecDepth 20000 in
theorem ggX0_findPart_X0_findSingle : GoodIn wsX0_findPart wsX0_findSingle := goodIn_r _ [20, 1, 3, 4, 21, 12, 13, 8, 14, 15, 22, 23, 24, 19, 25, 2, 26, 27, 28, 29, 30, 31, 32, 33, 34, 35, 36, 37, 38, 39, 40, 41, 42, 43, 44, 45, 46, 47, 48, 49, 50, 51, 52, 53, 54, 55, 56, 57, 58, 59, 60, 61, 62, 63, 64, 65, 66, 67, 68, 69, 70, 71, 72, 73, 74, 75, 76, 77, 78, 79] (by decide +kernel) (by decide +kernel)
set_option maxRecDepth 20000 in
theorem gX0_findPart_X0_findSingle : GoodIn wsX0_findPart (wsV RX0 71 RX0 yX0_findSingle wsX0_findSingle) := goodIn_app (goodIn_of _ (by decide +kernel)) ggX0_findPart_X0_findSingle
set_option maxRecDepth 20000 in
theorem ggX0_findPart_X2_hasPhrase : GoodIn wsX0_findPart wsX2_hasPhrase := goodIn_r _ [14, 15, 61, 62, 63, 64, 65, 66, 67, 68] (by decide +kernel) (by decide +kernel)
set_option maxRecDepth 20000 in
theorem gX0_findPart_X2_hasPhrase : GoodIn wsX0_findPart (wsV RX0 81 RX2 yX2_hasPhrase wsX2_hasPhrase) := goodIn_app (goodIn_of _ (by decide +kernel)) ggX0_findPart_X2_hasPhrase
set_option maxRecDepth 20000 in
theorem ggX0_findPart_X0_orNothing : GoodIn wsX0_findPart wsX0_orNothing := goodIn_r _ [25, 2, 26, 52, 53, 54, 55, 56, 57, 58, 59, 60] (by decide +kernel) (by decide +kernel)
set_option maxRecDepth 20000 in
theorem gX0_findPart_X0_orNothing : GoodIn wsX0_findPart (wsV RX0 94 RX0 yX0_orNothing wsX0_orNothing) := goodIn_app (goodIn_of _ (by decide +kernel)) ggX0_findPart_X0_orNothing
set_option maxRecDepth 20000 in
theorem ggX0_findPart_X0_fitting : GoodIn wsX0_findPart wsX0_fitting := goodIn_r _ [30, 1, 31, 4, 21, 12, 13, 8, 14, 15, 32, 33, 34, 35, 36, 37, 38, 39, 52, 53, 54, 55, 56, 57, 58, 59, 60, 61, 62, 63, 64, 65, 66, 67, 68, 74, 75, 76, 77, 78, 79] (by decide +kernel) (by decide +kernel)
set_option maxRecDepth 20000 in
theorem gX0_findPart_X0_fitting : GoodIn wsX0_findPart (wsV RX0 97 RX0 yX0_fitting wsX0_fitting) := goodIn_app (goodIn_of _ (by decide +kernel)) ggX0_findPart_X0_fitting
theorem dX0_findPart_0 : decode cX0_findPart 0 = .ok (.iconst 0, 1) := by decide +kernel
theorem dX0_findPart_1 : decode cX0_findPart 1 = .ok (.istore_n 3, 1) := by decide +kernel
theorem dX0_findPart_2 : decode cX0_findPart 2 = .ok (.iload_n 1, 1) := by decide +kernel
theorem dX0_findPart_3 : decode cX0_findPart 3 = .ok (.iconst 1, 1) := by decide +kernel
theorem dX0_findPart_4 : decode cX0_findPart 4 = .ok (.iadd, 1) := by decide +kernel
theorem dX0_findPart_5 : decode cX0_findPart 5 = .ok (.istore 4, 2) := by decide +kernel
theorem dX0_findPart_7 : decode cX0_findPart 7 = .ok (.iload 4, 2) := by decide +kernel
theorem dX0_findPart_9 : decode cX0_findPart 9 = .ok (.aload_n 0, 1) := by decide +kernel
theorem dX0_findPart_10 : decode cX0_findPart 10 = .ok (.getfield 15, 3) := by decide +kernel
theorem dX0_findPart_13 : decode cX0_findPart 13 = .ok (.getfield 61, 3) := by decide +kernel
theorem dX0_findPart_16 : decode cX0_findPart 16 = .ok (.if_icmp .ge 42, 3) := by decide +kernel
theorem dX0_findPart_19 : decode cX0_findPart 19 = .ok (.aload_n 0, 1) := by decide +kernel
theorem dX0_findPart_20 : decode cX0_findPart 20 = .ok (.getfield 31, 3) := by decide +kernel
theorem dX0_findPart_23 : decode cX0_findPart 23 = .ok (.ifCond .ne 35, 3) := by decide +kernel
theorem dX0_findPart_26 : decode cX0_findPart 26 = .ok (.aload_n 0, 1) := by decide +kernel
theorem dX0_findPart_27 : decode cX0_findPart 27 = .ok (.getfield 15, 3) := by decide +kernel
theorem dX0_findPart_30 : decode cX0_findPart 30 = .ok (.iload 4, 2) := by decide +kernel
theorem dX0_findPart_32 : decode cX0_findPart 32 = .ok (.invokevirtual 64, 3) := by decide +kernel
theorem dX0_findPart_35 : decode cX0_findPart 35 = .ok (.iconst 1, 1) := by decide +kernel
theorem dX0_findPart_36 : decode cX0_findPart 36 = .ok (.if_icmp .eq 6, 3) := by decide +kernel
theorem dX0_findPart_39 : decode cX0_findPart 39 = .ok (.goto 19, 3) := by decide +kernel
theorem dX0_findPart_42 : decode cX0_findPart 42 = .ok (.iload_n 3, 1) := by decide +kernel
theorem dX0_findPart_43 : decode cX0_findPart 43 = .ok (.aload_n 0, 1) := by decide +kernel
theorem dX0_findPart_44 : decode cX0_findPart 44 = .ok (.iload 4, 2) := by decide +kernel
theorem dX0_findPart_46 : decode cX0_findPart 46 = .ok (.iload_n 2, 1) := by decide +kernel
theorem dX0_findPart_47 : decode cX0_findPart 47 = .ok (.invokevirtual 71, 3) := by decide +kernel
theorem dX0_findPart_50 : decode cX0_findPart 50 = .ok (.ior, 1) := by decide +kernel
theorem dX0_findPart_51 : decode cX0_findPart 51 = .ok (.istore_n 3, 1) := by decide +kernel
theorem dX0_findPart_52 : decode cX0_findPart 52 = .ok (.iinc 4 1, 3) := by decide +kernel
theorem dX0_findPart_55 : decode cX0_findPart 55 = .ok (.goto (-48), 3) := by decide +kernel
theorem dX0_findPart_58 : decode cX0_findPart 58 = .ok (.aload_n 0, 1) := by decide +kernel
theorem dX0_findPart_59 : decode cX0_findPart 59 = .ok (.getfield 31, 3) := by decide +kernel
theorem dX0_findPart_62 : decode cX0_findPart 62 = .ok (.ifCond .ne 14, 3) := by decide +kernel
theorem dX0_findPart_65 : decode cX0_findPart 65 = .ok (.aload_n 0, 1) := by decide +kernel
theorem dX0_findPart_66 : decode cX0_findPart 66 = .ok (.getfield 15, 3) := by decide +kernel
theorem dX0_findPart_69 : decode cX0_findPart 69 = .ok (.iload_n 1, 1) := by decide +kernel
theorem dX0_findPart_70 : decode cX0_findPart 70 = .ok (.invokevirtual 81, 3) := by decide +kernel
theorem dX0_findPart_73 : decode cX0_findPart 73 = .ok (.ifCond .ne 5, 3) := by decide +kernel
theorem dX0_findPart_76 : decode cX0_findPart 76 = .ok (.iconst 0, 1) := by decide +kernel
theorem dX0_findPart_77 : decode cX0_findPart 77 = .ok (.ireturn, 1) := by decide +kernel
theorem dX0_findPart_78 : decode cX0_findPart 78 = .ok (.aload_n 0, 1) := by decide +kernel
theorem dX0_findPart_79 : decode cX0_findPart 79 = .ok (.getfield 15, 3) := by decide +kernel
theorem dX0_findPart_82 : decode cX0_findPart 82 = .ok (.getfield 85, 3) := by decide +kernel
theorem dX0_findPart_85 : decode cX0_findPart 85 = .ok (.iload_n 1, 1) := by decide +kernel
theorem dX0_findPart_86 : decode cX0_findPart 86 = .ok (.iaload, 1) := by decide +kernel
theorem dX0_findPart_87 : decode cX0_findPart 87 = .ok (.lookupswitch 60 #[(11, 43), (15, 25)], 25) := by decide +kernel
theorem dX0_findPart_112 : decode cX0_findPart 112 = .ok (.aload_n 0, 1) := by decide +kernel
theorem dX0_findPart_113 : decode cX0_findPart 113 = .ok (.aload_n 0, 1) := by decide +kernel
theorem dX0_findPart_114 : decode cX0_findPart 114 = .ok (.getfield 19, 3) := by decide +kernel
theorem dX0_findPart_117 : decode cX0_findPart 117 = .ok (.getfield 89, 3) := by decide +kernel
theorem dX0_findPart_120 : decode cX0_findPart 120 = .ok (.aload_n 0, 1) := by decide +kernel
theorem dX0_findPart_121 : decode cX0_findPart 121 = .ok (.getfield 27, 3) := by decide +kernel
theorem dX0_findPart_124 : decode cX0_findPart 124 = .ok (.iand, 1) := by decide +kernel
theorem dX0_findPart_125 : decode cX0_findPart 125 = .ok (.iload_n 1, 1) := by decide +kernel
theorem dX0_findPart_126 : decode cX0_findPart 126 = .ok (.invokevirtual 94, 3) := by decide +kernel
theorem dX0_findPart_129 : decode cX0_findPart 129 = .ok (.ireturn, 1) := by decide +kernel
theorem dX0_findPart_130 : decode cX0_findPart 130 = .ok (.aload_n 0, 1) := by decide +kernel
theorem dX0_findPart_131 : decode cX0_findPart 131 = .ok (.aload_n 0, 1) := by decide +kernel
theorem dX0_findPart_132 : decode cX0_findPart 132 = .ok (.iload_n 1, 1) := by decide +kernel
theorem dX0_findPart_133 : decode cX0_findPart 133 = .ok (.invokevirtual 97, 3) := by decide +kernel
theorem dX0_findPart_136 : decode cX0_findPart 136 = .ok (.iload_n 2, 1) := by decide +kernel
theorem dX0_findPart_137 : decode cX0_findPart 137 = .ok (.iand, 1) := by decide +kernel
theorem dX0_findPart_138 : decode cX0_findPart 138 = .ok (.iload_n 3, 1) := by decide +kernel
theorem dX0_findPart_139 : decode cX0_findPart 139 = .ok (.iconst (-1), 1) := by decide +kernel
theorem dX0_findPart_140 : decode cX0_findPart 140 = .ok (.ixor, 1) := by decide +kernel
theorem dX0_findPart_141 : decode cX0_findPart 141 = .ok (.iand, 1) := by decide +kernel
theorem dX0_findPart_142 : decode cX0_findPart 142 = .ok (.iload_n 1, 1) := by decide +kernel
theorem dX0_findPart_143 : decode cX0_findPart 143 = .ok (.invokevirtual 94, 3) := by decide +kernel
theorem dX0_findPart_146 : decode cX0_findPart 146 = .ok (.ireturn, 1) := by decide +kernel
theorem dX0_findPart_147 : decode cX0_findPart 147 = .ok (.aload_n 0, 1) := by decide +kernel
theorem dX0_findPart_148 : decode cX0_findPart 148 = .ok (.iload_n 1, 1) := by decide +kernel
theorem dX0_findPart_149 : decode cX0_findPart 149 = .ok (.iload_n 2, 1) := by decide +kernel
theorem dX0_findPart_150 : decode cX0_findPart 150 = .ok (.invokevirtual 71, 3) := by decide +kernel
theorem dX0_findPart_153 : decode cX0_findPart 153 = .ok (.ireturn, 1) := by decide +kernel
set_option maxRecDepth 20000 in
theorem ggX0_findSingle_X2_hasPhrase : GoodIn wsX0_findSingle wsX2_hasPhrase := goodIn_r _ [8, 9, 51, 52, 53, 54, 55, 56, 57, 58] (by decide +kernel) (by decide +kernel)
set_option maxRecDepth 20000 in
theorem gX0_findSingle_X2_hasPhrase : GoodIn wsX0_findSingle (wsV RX0 81 RX2 yX2_hasPhrase wsX2_hasPhrase) := goodIn_app (goodIn_of _ (by decide +kernel)) ggX0_findSingle_X2_hasPhrase
set_option maxRecDepth 20000 in
theorem ggX0_findSingle_X0_orNothing : GoodIn wsX0_findSingle wsX0_orNothing := goodIn_r _ [14, 15, 16, 42, 43, 44, 45, 46, 47, 48, 49, 50] (by decide +kernel) (by decide +kernel)
set_option maxRecDepth 20000 in
theorem gX0_findSingle_X0_orNothing : GoodIn wsX0_findSingle (wsV RX0 94 RX0 yX0_orNothing wsX0_orNothing) := goodIn_app (goodIn_of _ (by decide +kernel)) ggX0_findSingle_X0_orNothing
set_option maxRecDepth 20000 in
theorem ggX0_findSingle_X0_fitting : GoodIn wsX0_findSingle wsX0_fitting := goodIn_r _ [20, 1, 21, 3, 4, 5, 6, 7, 8, 9, 22, 23, 24, 25, 26, 27, 28, 29, 42, 43, 44, 45, 46, 47, 48, 49, 50, 51, 52, 53, 54, 55, 56, 57, 58, 64, 65, 66, 67, 68, 69] (by decide +kernel) (by decide +kernel)
set_option maxRecDepth 20000 in
theorem gX0_findSingle_X0_fitting : GoodIn wsX0_findSingle (wsV RX0 97 RX0 yX0_fitting wsX0_fitting) := goodIn_app (goodIn_of _ (by decide +kernel)) ggX0_findSingle_X0_fitting
set_option maxRecDepth 20000 in
theorem ggX0_findSingle_J6_bitCount_0f7a4 : GoodIn wsX0_findSingle wsJ6_bitCount_0f7a4 := goodIn_r _ [33, 34, 35, 36] (by decide +kernel) (by decide +kernel)
set_option maxRecDepth 20000 in
theorem gX0_findSingle_J6_bitCount_0f7a4 : GoodIn wsX0_findSingle (va_wsS RX0 106 yJ6_bitCount_0f7a4 wsJ6_bitCount_0f7a4) := goodIn_app (goodIn_of _ (by decide +kernel)) ggX0_findSingle_J6_bitCount_0f7a4
set_option maxRecDepth 20000 in
theorem ggX0_findSingle_X0_ask : GoodIn wsX0_findSingle wsX0_ask := goodIn_r _ [40, 15, 16, 41, 42, 43, 44, 45, 46, 47, 48, 49, 50] (by decide +kernel) (by decide +kernel)
set_option maxRecDepth 20000 in
theorem gX0_findSingle_X0_ask : GoodIn wsX0_findSingle (wsV RX0 111 RX0 yX0_ask wsX0_ask) := goodIn_app (goodIn_of _ (by decide +kernel)) ggX0_findSingle_X0_ask
theorem dX0_findSingle_0 : decode cX0_findSingle 0 = .ok (.aload_n 0, 1) := by decide +kernel
theorem dX0_findSingle_1 : decode cX0_findSingle 1 = .ok (.getfield 15, 3) := by decide +kernel
theorem dX0_findSingle_4 : decode cX0_findSingle 4 = .ok (.iload_n 1, 1) := by decide +kernel
theorem dX0_findSingle_5 : decode cX0_findSingle 5 = .ok (.invokevirtual 81, 3) := by decide +kernel
theorem dX0_findSingle_8 : decode cX0_findSingle 8 = .ok (.ifCond .ne 5, 3) := by decide +kernel
theorem dX0_findSingle_11 : decode cX0_findSingle 11 = .ok (.iconst 0, 1) := by decide +kernel
theorem dX0_findSingle_12 : decode cX0_findSingle 12 = .ok (.ireturn, 1) := by decide +kernel
theorem dX0_findSingle_13 : decode cX0_findSingle 13 = .ok (.aload_n 0, 1) := by decide +kernel
theorem dX0_findSingle_14 : decode cX0_findSingle 14 = .ok (.getfield 15, 3) := by decide +kernel
theorem dX0_findSingle_17 : decode cX0_findSingle 17 = .ok (.getfield 100, 3) := by decide +kernel
theorem dX0_findSingle_20 : decode cX0_findSingle 20 = .ok (.iload_n 1, 1) := by decide +kernel
theorem dX0_findSingle_21 : decode cX0_findSingle 21 = .ok (.iaload, 1) := by decide +kernel
theorem dX0_findSingle_22 : decode cX0_findSingle 22 = .ok (.ifCond .eq 13, 3) := by decide +kernel
theorem dX0_findSingle_25 : decode cX0_findSingle 25 = .ok (.aload_n 0, 1) := by decide +kernel
theorem dX0_findSingle_26 : decode cX0_findSingle 26 = .ok (.getfield 15, 3) := by decide +kernel
theorem dX0_findSingle_29 : decode cX0_findSingle 29 = .ok (.getfield 100, 3) := by decide +kernel
theorem dX0_findSingle_32 : decode cX0_findSingle 32 = .ok (.iload_n 1, 1) := by decide +kernel
theorem dX0_findSingle_33 : decode cX0_findSingle 33 = .ok (.iaload, 1) := by decide +kernel
theorem dX0_findSingle_34 : decode cX0_findSingle 34 = .ok (.ireturn, 1) := by decide +kernel
theorem dX0_findSingle_35 : decode cX0_findSingle 35 = .ok (.aload_n 0, 1) := by decide +kernel
theorem dX0_findSingle_36 : decode cX0_findSingle 36 = .ok (.getfield 15, 3) := by decide +kernel
theorem dX0_findSingle_39 : decode cX0_findSingle 39 = .ok (.getfield 85, 3) := by decide +kernel
theorem dX0_findSingle_42 : decode cX0_findSingle 42 = .ok (.iload_n 1, 1) := by decide +kernel
theorem dX0_findSingle_43 : decode cX0_findSingle 43 = .ok (.iaload, 1) := by decide +kernel
theorem dX0_findSingle_44 : decode cX0_findSingle 44 = .ok (.bipush 14, 2) := by decide +kernel
theorem dX0_findSingle_46 : decode cX0_findSingle 46 = .ok (.if_icmp .ne 21, 3) := by decide +kernel
theorem dX0_findSingle_49 : decode cX0_findSingle 49 = .ok (.aload_n 0, 1) := by decide +kernel
theorem dX0_findSingle_50 : decode cX0_findSingle 50 = .ok (.aload_n 0, 1) := by decide +kernel
theorem dX0_findSingle_51 : decode cX0_findSingle 51 = .ok (.getfield 19, 3) := by decide +kernel
theorem dX0_findSingle_54 : decode cX0_findSingle 54 = .ok (.getfield 103, 3) := by decide +kernel
theorem dX0_findSingle_57 : decode cX0_findSingle 57 = .ok (.aload_n 0, 1) := by decide +kernel
theorem dX0_findSingle_58 : decode cX0_findSingle 58 = .ok (.getfield 27, 3) := by decide +kernel
theorem dX0_findSingle_61 : decode cX0_findSingle 61 = .ok (.iand, 1) := by decide +kernel
theorem dX0_findSingle_62 : decode cX0_findSingle 62 = .ok (.iload_n 1, 1) := by decide +kernel
theorem dX0_findSingle_63 : decode cX0_findSingle 63 = .ok (.invokevirtual 94, 3) := by decide +kernel
theorem dX0_findSingle_66 : decode cX0_findSingle 66 = .ok (.ireturn, 1) := by decide +kernel
theorem dX0_findSingle_67 : decode cX0_findSingle 67 = .ok (.aload_n 0, 1) := by decide +kernel
theorem dX0_findSingle_68 : decode cX0_findSingle 68 = .ok (.iload_n 1, 1) := by decide +kernel
theorem dX0_findSingle_69 : decode cX0_findSingle 69 = .ok (.invokevirtual 97, 3) := by decide +kernel
theorem dX0_findSingle_72 : decode cX0_findSingle 72 = .ok (.istore_n 3, 1) := by decide +kernel
theorem dX0_findSingle_73 : decode cX0_findSingle 73 = .ok (.iload_n 3, 1) := by decide +kernel
theorem dX0_findSingle_74 : decode cX0_findSingle 74 = .ok (.invokestatic 106, 3) := by decide +kernel
theorem dX0_findSingle_77 : decode cX0_findSingle 77 = .ok (.iconst 1, 1) := by decide +kernel
theorem dX0_findSingle_78 : decode cX0_findSingle 78 = .ok (.if_icmp .gt 10, 3) := by decide +kernel
theorem dX0_findSingle_81 : decode cX0_findSingle 81 = .ok (.aload_n 0, 1) := by decide +kernel
theorem dX0_findSingle_82 : decode cX0_findSingle 82 = .ok (.iload_n 3, 1) := by decide +kernel
theorem dX0_findSingle_83 : decode cX0_findSingle 83 = .ok (.iload_n 1, 1) := by decide +kernel
theorem dX0_findSingle_84 : decode cX0_findSingle 84 = .ok (.invokevirtual 94, 3) := by decide +kernel
theorem dX0_findSingle_87 : decode cX0_findSingle 87 = .ok (.ireturn, 1) := by decide +kernel
theorem dX0_findSingle_88 : decode cX0_findSingle 88 = .ok (.iload_n 3, 1) := by decide +kernel
theorem dX0_findSingle_89 : decode cX0_findSingle 89 = .ok (.iload_n 2, 1) := by decide +kernel
theorem dX0_findSingle_90 : decode cX0_findSingle 90 = .ok (.iand, 1) := by decide +kernel
theorem dX0_findSingle_91 : decode cX0_findSingle 91 = .ok (.istore 4, 2) := by decide +kernel
theorem dX0_findSingle_93 : decode cX0_findSingle 93 = .ok (.iload 4, 2) := by decide +kernel
theorem dX0_findSingle_95 : decode cX0_findSingle 95 = .ok (.invokestatic 106, 3) := by decide +kernel
theorem dX0_findSingle_98 : decode cX0_findSingle 98 = .ok (.iconst 1, 1) := by decide +kernel
theorem dX0_findSingle_99 : decode cX0_findSingle 99 = .ok (.if_icmp .ne 8, 3) := by decide +kernel
theorem dX0_findSingle_102 : decode cX0_findSingle 102 = .ok (.iload 4, 2) := by decide +kernel
theorem dX0_findSingle_104 : decode cX0_findSingle 104 = .ok (.goto 19, 3) := by decide +kernel
theorem dX0_findSingle_107 : decode cX0_findSingle 107 = .ok (.aload_n 0, 1) := by decide +kernel
theorem dX0_findSingle_108 : decode cX0_findSingle 108 = .ok (.iload 4, 2) := by decide +kernel
theorem dX0_findSingle_110 : decode cX0_findSingle 110 = .ok (.ifCond .ne 7, 3) := by decide +kernel
theorem dX0_findSingle_113 : decode cX0_findSingle 113 = .ok (.iload_n 3, 1) := by decide +kernel
theorem dX0_findSingle_114 : decode cX0_findSingle 114 = .ok (.goto 5, 3) := by decide +kernel
theorem dX0_findSingle_117 : decode cX0_findSingle 117 = .ok (.iload 4, 2) := by decide +kernel
theorem dX0_findSingle_119 : decode cX0_findSingle 119 = .ok (.iload_n 1, 1) := by decide +kernel
theorem dX0_findSingle_120 : decode cX0_findSingle 120 = .ok (.invokevirtual 111, 3) := by decide +kernel
theorem dX0_findSingle_123 : decode cX0_findSingle 123 = .ok (.ireturn, 1) := by decide +kernel
set_option maxRecDepth 20000 in
theorem ggX0_fitting_X2_hasPhrase : GoodIn wsX0_fitting wsX2_hasPhrase := goodIn_r _ [8, 9, 27, 28, 29, 30, 31, 32, 33, 34] (by decide +kernel) (by decide +kernel)
set_option maxRecDepth 20000 in
theorem gX0_fitting_X2_hasPhrase : GoodIn wsX0_fitting (wsV RX0 81 RX2 yX2_hasPhrase wsX2_hasPhrase) := goodIn_app (goodIn_of _ (by decide +kernel)) ggX0_fitting_X2_hasPhrase
set_option maxRecDepth 20000 in
theorem ggX0_fitting_X4_described : GoodIn wsX0_fitting wsX4_described := goodIn_r _ [14, 15, 16, 17, 35, 36, 37, 38, 39, 40] (by decide +kernel) (by decide +kernel)
set_option maxRecDepth 20000 in
theorem gX0_fitting_X4_described : GoodIn wsX0_fitting (wsV RX0 120 RX4 yX4_described wsX4_described) := goodIn_app (goodIn_of _ (by decide +kernel)) ggX0_fitting_X4_described
theorem dX0_fitting_0 : decode cX0_fitting 0 = .ok (.aload_n 0, 1) := by decide +kernel
theorem dX0_fitting_1 : decode cX0_fitting 1 = .ok (.getfield 15, 3) := by decide +kernel
theorem dX0_fitting_4 : decode cX0_fitting 4 = .ok (.iload_n 1, 1) := by decide +kernel
theorem dX0_fitting_5 : decode cX0_fitting 5 = .ok (.invokevirtual 81, 3) := by decide +kernel
theorem dX0_fitting_8 : decode cX0_fitting 8 = .ok (.ifCond .ne 5, 3) := by decide +kernel
theorem dX0_fitting_11 : decode cX0_fitting 11 = .ok (.iconst 0, 1) := by decide +kernel
theorem dX0_fitting_12 : decode cX0_fitting 12 = .ok (.ireturn, 1) := by decide +kernel
theorem dX0_fitting_13 : decode cX0_fitting 13 = .ok (.aload_n 0, 1) := by decide +kernel
theorem dX0_fitting_14 : decode cX0_fitting 14 = .ok (.getfield 9, 3) := by decide +kernel
theorem dX0_fitting_17 : decode cX0_fitting 17 = .ok (.aload_n 0, 1) := by decide +kernel
theorem dX0_fitting_18 : decode cX0_fitting 18 = .ok (.getfield 27, 3) := by decide +kernel
theorem dX0_fitting_21 : decode cX0_fitting 21 = .ok (.aload_n 0, 1) := by decide +kernel
theorem dX0_fitting_22 : decode cX0_fitting 22 = .ok (.getfield 15, 3) := by decide +kernel
theorem dX0_fitting_25 : decode cX0_fitting 25 = .ok (.getfield 114, 3) := by decide +kernel
theorem dX0_fitting_28 : decode cX0_fitting 28 = .ok (.iload_n 1, 1) := by decide +kernel
theorem dX0_fitting_29 : decode cX0_fitting 29 = .ok (.iaload, 1) := by decide +kernel
theorem dX0_fitting_30 : decode cX0_fitting 30 = .ok (.aload_n 0, 1) := by decide +kernel
theorem dX0_fitting_31 : decode cX0_fitting 31 = .ok (.getfield 15, 3) := by decide +kernel
theorem dX0_fitting_34 : decode cX0_fitting 34 = .ok (.getfield 117, 3) := by decide +kernel
theorem dX0_fitting_37 : decode cX0_fitting 37 = .ok (.iload_n 1, 1) := by decide +kernel
theorem dX0_fitting_38 : decode cX0_fitting 38 = .ok (.iaload, 1) := by decide +kernel
theorem dX0_fitting_39 : decode cX0_fitting 39 = .ok (.invokevirtual 120, 3) := by decide +kernel
theorem dX0_fitting_42 : decode cX0_fitting 42 = .ok (.ireturn, 1) := by decide +kernel
theorem dX0_orNothing_0 : decode cX0_orNothing 0 = .ok (.iload_n 1, 1) := by decide +kernel
theorem dX0_orNothing_1 : decode cX0_orNothing 1 = .ok (.ifCond .ne 13, 3) := by decide +kernel
theorem dX0_orNothing_4 : decode cX0_orNothing 4 = .ok (.aload_n 0, 1) := by decide +kernel
theorem dX0_orNothing_5 : decode cX0_orNothing 5 = .ok (.iconst 5, 1) := by decide +kernel
theorem dX0_orNothing_6 : decode cX0_orNothing 6 = .ok (.putfield 31, 3) := by decide +kernel
theorem dX0_orNothing_9 : decode cX0_orNothing 9 = .ok (.aload_n 0, 1) := by decide +kernel
theorem dX0_orNothing_10 : decode cX0_orNothing 10 = .ok (.iload_n 2, 1) := by decide +kernel
theorem dX0_orNothing_11 : decode cX0_orNothing 11 = .ok (.putfield 40, 3) := by decide +kernel
theorem dX0_orNothing_14 : decode cX0_orNothing 14 = .ok (.iload_n 1, 1) := by decide +kernel
theorem dX0_orNothing_15 : decode cX0_orNothing 15 = .ok (.ireturn, 1) := by decide +kernel
theorem dX0_ask_0 : decode cX0_ask 0 = .ok (.aload_n 0, 1) := by decide +kernel
theorem dX0_ask_1 : decode cX0_ask 1 = .ok (.iconst 1, 1) := by decide +kernel
theorem dX0_ask_2 : decode cX0_ask 2 = .ok (.putfield 31, 3) := by decide +kernel
theorem dX0_ask_5 : decode cX0_ask 5 = .ok (.aload_n 0, 1) := by decide +kernel
theorem dX0_ask_6 : decode cX0_ask 6 = .ok (.iload_n 2, 1) := by decide +kernel
theorem dX0_ask_7 : decode cX0_ask 7 = .ok (.putfield 40, 3) := by decide +kernel
theorem dX0_ask_10 : decode cX0_ask 10 = .ok (.aload_n 0, 1) := by decide +kernel
theorem dX0_ask_11 : decode cX0_ask 11 = .ok (.iload_n 1, 1) := by decide +kernel
theorem dX0_ask_12 : decode cX0_ask 12 = .ok (.putfield 43, 3) := by decide +kernel
theorem dX0_ask_15 : decode cX0_ask 15 = .ok (.iconst 0, 1) := by decide +kernel
theorem dX0_ask_16 : decode cX0_ask 16 = .ok (.ireturn, 1) := by decide +kernel
theorem dX1_init_0 : decode cX1_init 0 = .ok (.aload_n 0, 1) := by decide +kernel
theorem dX1_init_1 : decode cX1_init 1 = .ok (.invokespecial 3, 3) := by decide +kernel
theorem dX1_init_4 : decode cX1_init 4 = .ok (.aload_n 0, 1) := by decide +kernel
theorem dX1_init_5 : decode cX1_init 5 = .ok (.iconst (-1), 1) := by decide +kernel
theorem dX1_init_6 : decode cX1_init 6 = .ok (.putfield 9, 3) := by decide +kernel
theorem dX1_init_9 : decode cX1_init 9 = .ok (.aload_n 0, 1) := by decide +kernel
theorem dX1_init_10 : decode cX1_init 10 = .ok (.iconst 0, 1) := by decide +kernel
theorem dX1_init_11 : decode cX1_init 11 = .ok (.putfield 15, 3) := by decide +kernel
theorem dX1_init_14 : decode cX1_init 14 = .ok (.aload_n 0, 1) := by decide +kernel
theorem dX1_init_15 : decode cX1_init 15 = .ok (.iconst 0, 1) := by decide +kernel
theorem dX1_init_16 : decode cX1_init 16 = .ok (.putfield 18, 3) := by decide +kernel
theorem dX1_init_19 : decode cX1_init 19 = .ok (.aload_n 0, 1) := by decide +kernel
theorem dX1_init_20 : decode cX1_init 20 = .ok (.iconst (-1), 1) := by decide +kernel
theorem dX1_init_21 : decode cX1_init 21 = .ok (.putfield 21, 3) := by decide +kernel
theorem dX1_init_24 : decode cX1_init 24 = .ok (.aload_n 0, 1) := by decide +kernel
theorem dX1_init_25 : decode cX1_init 25 = .ok (.iconst 0, 1) := by decide +kernel
theorem dX1_init_26 : decode cX1_init 26 = .ok (.putfield 24, 3) := by decide +kernel
theorem dX1_init_29 : decode cX1_init 29 = .ok (.return_, 1) := by decide +kernel
set_option maxRecDepth 20000 in
theorem ggX1_keep_J6_bitCount_0f7a4 : GoodIn wsX1_keep wsJ6_bitCount_0f7a4 := goodIn_r _ [9, 10, 11, 12] (by decide +kernel) (by decide +kernel)
set_option maxRecDepth 20000 in
theorem gX1_keep_J6_bitCount_0f7a4 : GoodIn wsX1_keep (va_wsS RX1 27 yJ6_bitCount_0f7a4 wsJ6_bitCount_0f7a4) := goodIn_app (goodIn_of _ (by decide +kernel)) ggX1_keep_J6_bitCount_0f7a4
theorem dX1_keep_0 : decode cX1_keep 0 = .ok (.aload_n 0, 1) := by decide +kernel
theorem dX1_keep_1 : decode cX1_keep 1 = .ok (.iload_n 1, 1) := by decide +kernel
theorem dX1_keep_2 : decode cX1_keep 2 = .ok (.putfield 9, 3) := by decide +kernel
theorem dX1_keep_5 : decode cX1_keep 5 = .ok (.aload_n 0, 1) := by decide +kernel
theorem dX1_keep_6 : decode cX1_keep 6 = .ok (.iload_n 2, 1) := by decide +kernel
theorem dX1_keep_7 : decode cX1_keep 7 = .ok (.putfield 15, 3) := by decide +kernel
theorem dX1_keep_10 : decode cX1_keep 10 = .ok (.aload_n 0, 1) := by decide +kernel
theorem dX1_keep_11 : decode cX1_keep 11 = .ok (.iload_n 3, 1) := by decide +kernel
theorem dX1_keep_12 : decode cX1_keep 12 = .ok (.putfield 18, 3) := by decide +kernel
theorem dX1_keep_15 : decode cX1_keep 15 = .ok (.aload_n 0, 1) := by decide +kernel
theorem dX1_keep_16 : decode cX1_keep 16 = .ok (.iload 4, 2) := by decide +kernel
theorem dX1_keep_18 : decode cX1_keep 18 = .ok (.putfield 21, 3) := by decide +kernel
theorem dX1_keep_21 : decode cX1_keep 21 = .ok (.iload_n 2, 1) := by decide +kernel
theorem dX1_keep_22 : decode cX1_keep 22 = .ok (.invokestatic 27, 3) := by decide +kernel
theorem dX1_keep_25 : decode cX1_keep 25 = .ok (.iconst 1, 1) := by decide +kernel
theorem dX1_keep_26 : decode cX1_keep 26 = .ok (.if_icmp .ne 8, 3) := by decide +kernel
theorem dX1_keep_29 : decode cX1_keep 29 = .ok (.aload_n 0, 1) := by decide +kernel
theorem dX1_keep_30 : decode cX1_keep 30 = .ok (.iload_n 2, 1) := by decide +kernel
theorem dX1_keep_31 : decode cX1_keep 31 = .ok (.putfield 24, 3) := by decide +kernel
theorem dX1_keep_34 : decode cX1_keep 34 = .ok (.return_, 1) := by decide +kernel
theorem dX2_init_0 : decode cX2_init 0 = .ok (.aload_n 0, 1) := by decide +kernel
theorem dX2_init_1 : decode cX2_init 1 = .ok (.invokespecial 3, 3) := by decide +kernel
theorem dX2_init_4 : decode cX2_init 4 = .ok (.aload_n 0, 1) := by decide +kernel
theorem dX2_init_5 : decode cX2_init 5 = .ok (.iconst (-1), 1) := by decide +kernel
theorem dX2_init_6 : decode cX2_init 6 = .ok (.putfield 9, 3) := by decide +kernel
theorem dX2_init_9 : decode cX2_init 9 = .ok (.aload_n 0, 1) := by decide +kernel
theorem dX2_init_10 : decode cX2_init 10 = .ok (.iconst 0, 1) := by decide +kernel
theorem dX2_init_11 : decode cX2_init 11 = .ok (.putfield 15, 3) := by decide +kernel
theorem dX2_init_14 : decode cX2_init 14 = .ok (.aload_n 0, 1) := by decide +kernel
theorem dX2_init_15 : decode cX2_init 15 = .ok (.bipush 24, 2) := by decide +kernel
theorem dX2_init_17 : decode cX2_init 17 = .ok (.newarray .int, 2) := by decide +kernel
theorem dX2_init_19 : decode cX2_init 19 = .ok (.putfield 18, 3) := by decide +kernel
theorem dX2_init_22 : decode cX2_init 22 = .ok (.aload_n 0, 1) := by decide +kernel
theorem dX2_init_23 : decode cX2_init 23 = .ok (.bipush 24, 2) := by decide +kernel
theorem dX2_init_25 : decode cX2_init 25 = .ok (.newarray .int, 2) := by decide +kernel
theorem dX2_init_27 : decode cX2_init 27 = .ok (.putfield 22, 3) := by decide +kernel
theorem dX2_init_30 : decode cX2_init 30 = .ok (.aload_n 0, 1) := by decide +kernel
theorem dX2_init_31 : decode cX2_init 31 = .ok (.bipush 24, 2) := by decide +kernel
theorem dX2_init_33 : decode cX2_init 33 = .ok (.newarray .int, 2) := by decide +kernel
theorem dX2_init_35 : decode cX2_init 35 = .ok (.putfield 25, 3) := by decide +kernel
theorem dX2_init_38 : decode cX2_init 38 = .ok (.aload_n 0, 1) := by decide +kernel
theorem dX2_init_39 : decode cX2_init 39 = .ok (.bipush 24, 2) := by decide +kernel
theorem dX2_init_41 : decode cX2_init 41 = .ok (.newarray .int, 2) := by decide +kernel
theorem dX2_init_43 : decode cX2_init 43 = .ok (.putfield 28, 3) := by decide +kernel
theorem dX2_init_46 : decode cX2_init 46 = .ok (.aload_n 0, 1) := by decide +kernel
theorem dX2_init_47 : decode cX2_init 47 = .ok (.bipush 24, 2) := by decide +kernel
theorem dX2_init_49 : decode cX2_init 49 = .ok (.newarray .int, 2) := by decide +kernel
theorem dX2_init_51 : decode cX2_init 51 = .ok (.putfield 31, 3) := by decide +kernel
theorem dX2_init_54 : decode cX2_init 54 = .ok (.aload_n 0, 1) := by decide +kernel
theorem dX2_init_55 : decode cX2_init 55 = .ok (.bipush 24, 2) := by decide +kernel
theorem dX2_init_57 : decode cX2_init 57 = .ok (.newarray .int, 2) := by decide +kernel
theorem dX2_init_59 : decode cX2_init 59 = .ok (.putfield 34, 3) := by decide +kernel
theorem dX2_init_62 : decode cX2_init 62 = .ok (.return_, 1) := by decide +kernel
set_option maxRecDepth 20000 in
theorem ggX2_read_X3_peek : GoodIn wsX2_read wsX3_peek := goodIn_r _ [7, 8, 9, 10, 76, 77, 78, 79, 80] (by decide +kernel) (by decide +kernel)
set_option maxRecDepth 20000 in
theorem gX2_read_X3_peek : GoodIn wsX2_read (wsV RX2 37 RX3 yX3_peek wsX3_peek) := goodIn_app (goodIn_of _ (by decide +kernel)) ggX2_read_X3_peek
set_option maxRecDepth 20000 in
theorem ggX2_read_X3_accept : GoodIn wsX2_read wsX3_accept := goodIn_r _ [14, 8, 15, 4, 5, 6, 7, 9, 10, 76, 77, 78, 79, 80] (by decide +kernel) (by decide +kernel)
set_option maxRecDepth 20000 in
theorem gX2_read_X3_accept : GoodIn wsX2_read (wsV RX2 43 RX3 yX3_accept wsX3_accept) := goodIn_app (goodIn_of _ (by decide +kernel)) ggX2_read_X3_accept
set_option maxRecDepth 20000 in
theorem ggX2_read_X2_readPart : GoodIn wsX2_read wsX2_readPart := goodIn_r _ [20, 11, 12, 13, 6, 14, 8, 15, 4, 5, 7, 9, 10, 21, 22, 23, 19, 24, 1, 25, 26, 27, 28, 29, 30, 3, 31, 32, 33, 34, 35, 36, 37, 38, 39, 40, 41, 42, 43, 44, 45, 46, 47, 48, 49, 50, 51, 52, 53, 54, 55, 56, 57, 58, 59, 60, 61, 62, 63, 76, 77, 78, 79, 80, 68, 69, 70, 71, 72, 73, 74, 75] (by decide +kernel) (by decide +kernel)
set_option maxRecDepth 20000 in
theorem gX2_read_X2_readPart : GoodIn wsX2_read (wsV RX2 47 RX2 yX2_readPart wsX2_readPart) := goodIn_app (goodIn_of _ (by decide +kernel)) ggX2_read_X2_readPart
set_option maxRecDepth 20000 in
theorem ggX2_read_X2_readSingle : GoodIn wsX2_read wsX2_readSingle := goodIn_r _ [46, 11, 12, 13, 6, 14, 8, 15, 4, 5, 7, 9, 10, 21, 22, 23, 19, 24, 1, 25, 26, 27, 28, 29, 30, 47, 48, 49, 50, 51, 52, 53, 54, 55, 56, 57, 58, 59, 60, 61, 62, 63, 76, 77, 78, 79, 80, 68, 69, 70, 71, 72, 73, 74, 75] (by decide +kernel) (by decide +kernel)
set_option maxRecDepth 20000 in
theorem gX2_read_X2_readSingle : GoodIn wsX2_read (wsV RX2 51 RX2 yX2_readSingle wsX2_readSingle) := goodIn_app (goodIn_of _ (by decide +kernel)) ggX2_read_X2_readSingle
set_option maxRecDepth 20000 in
theorem ggX2_read_X3_atEnd : GoodIn wsX2_read wsX3_atEnd := goodIn_r _ [67, 8, 9, 76, 77, 78, 79, 80] (by decide +kernel) (by decide +kernel)
set_option maxRecDepth 20000 in
theorem gX2_read_X3_atEnd : GoodIn wsX2_read (wsV RX2 55 RX3 yX3_atEnd wsX3_atEnd) := goodIn_app (goodIn_of _ (by decide +kernel)) ggX2_read_X3_atEnd
theorem dX2_read_0 : decode cX2_read 0 = .ok (.aload_n 0, 1) := by decide +kernel
theorem dX2_read_1 : decode cX2_read 1 = .ok (.iconst 0, 1) := by decide +kernel
theorem dX2_read_2 : decode cX2_read 2 = .ok (.putfield 15, 3) := by decide +kernel
theorem dX2_read_5 : decode cX2_read 5 = .ok (.aload_n 0, 1) := by decide +kernel
theorem dX2_read_6 : decode cX2_read 6 = .ok (.aload_n 1, 1) := by decide +kernel
theorem dX2_read_7 : decode cX2_read 7 = .ok (.invokevirtual 37, 3) := by decide +kernel
theorem dX2_read_10 : decode cX2_read 10 = .ok (.putfield 9, 3) := by decide +kernel
theorem dX2_read_13 : decode cX2_read 13 = .ok (.aload_n 1, 1) := by decide +kernel
theorem dX2_read_14 : decode cX2_read 14 = .ok (.aload_n 0, 1) := by decide +kernel
theorem dX2_read_15 : decode cX2_read 15 = .ok (.getfield 9, 3) := by decide +kernel
theorem dX2_read_18 : decode cX2_read 18 = .ok (.invokevirtual 43, 3) := by decide +kernel
theorem dX2_read_21 : decode cX2_read 21 = .ok (.pop, 1) := by decide +kernel
theorem dX2_read_22 : decode cX2_read 22 = .ok (.iconst 1, 1) := by decide +kernel
theorem dX2_read_23 : decode cX2_read 23 = .ok (.istore_n 2, 1) := by decide +kernel
theorem dX2_read_24 : decode cX2_read 24 = .ok (.iconst 0, 1) := by decide +kernel
theorem dX2_read_25 : decode cX2_read 25 = .ok (.istore_n 3, 1) := by decide +kernel
theorem dX2_read_26 : decode cX2_read 26 = .ok (.iload_n 3, 1) := by decide +kernel
theorem dX2_read_27 : decode cX2_read 27 = .ok (.bipush 24, 2) := by decide +kernel
theorem dX2_read_29 : decode cX2_read 29 = .ok (.if_icmp .ge 30, 3) := by decide +kernel
theorem dX2_read_32 : decode cX2_read 32 = .ok (.iload_n 2, 1) := by decide +kernel
theorem dX2_read_33 : decode cX2_read 33 = .ok (.ifCond .eq 26, 3) := by decide +kernel
theorem dX2_read_36 : decode cX2_read 36 = .ok (.aload_n 0, 1) := by decide +kernel
theorem dX2_read_37 : decode cX2_read 37 = .ok (.aload_n 1, 1) := by decide +kernel
theorem dX2_read_38 : decode cX2_read 38 = .ok (.invokevirtual 47, 3) := by decide +kernel
theorem dX2_read_41 : decode cX2_read 41 = .ok (.ifCond .ne 5, 3) := by decide +kernel
theorem dX2_read_44 : decode cX2_read 44 = .ok (.iconst 0, 1) := by decide +kernel
theorem dX2_read_45 : decode cX2_read 45 = .ok (.ireturn, 1) := by decide +kernel
theorem dX2_read_46 : decode cX2_read 46 = .ok (.aload_n 1, 1) := by decide +kernel
theorem dX2_read_47 : decode cX2_read 47 = .ok (.bipush 13, 2) := by decide +kernel
theorem dX2_read_49 : decode cX2_read 49 = .ok (.invokevirtual 43, 3) := by decide +kernel
theorem dX2_read_52 : decode cX2_read 52 = .ok (.istore_n 2, 1) := by decide +kernel
theorem dX2_read_53 : decode cX2_read 53 = .ok (.iinc 3 1, 3) := by decide +kernel
theorem dX2_read_56 : decode cX2_read 56 = .ok (.goto (-30), 3) := by decide +kernel
theorem dX2_read_59 : decode cX2_read 59 = .ok (.aload_n 0, 1) := by decide +kernel
theorem dX2_read_60 : decode cX2_read 60 = .ok (.getfield 9, 3) := by decide +kernel
theorem dX2_read_63 : decode cX2_read 63 = .ok (.iconst 2, 1) := by decide +kernel
theorem dX2_read_64 : decode cX2_read 64 = .ok (.if_icmp .ne 23, 3) := by decide +kernel
theorem dX2_read_67 : decode cX2_read 67 = .ok (.aload_n 1, 1) := by decide +kernel
theorem dX2_read_68 : decode cX2_read 68 = .ok (.bipush 16, 2) := by decide +kernel
theorem dX2_read_70 : decode cX2_read 70 = .ok (.invokevirtual 43, 3) := by decide +kernel
theorem dX2_read_73 : decode cX2_read 73 = .ok (.ifCond .eq 12, 3) := by decide +kernel
theorem dX2_read_76 : decode cX2_read 76 = .ok (.aload_n 0, 1) := by decide +kernel
theorem dX2_read_77 : decode cX2_read 77 = .ok (.aload_n 1, 1) := by decide +kernel
theorem dX2_read_78 : decode cX2_read 78 = .ok (.iconst 2, 1) := by decide +kernel
theorem dX2_read_79 : decode cX2_read 79 = .ok (.invokevirtual 51, 3) := by decide +kernel
theorem dX2_read_82 : decode cX2_read 82 = .ok (.ifCond .ne 5, 3) := by decide +kernel
theorem dX2_read_85 : decode cX2_read 85 = .ok (.iconst 0, 1) := by decide +kernel
theorem dX2_read_86 : decode cX2_read 86 = .ok (.ireturn, 1) := by decide +kernel
theorem dX2_read_87 : decode cX2_read 87 = .ok (.aload_n 1, 1) := by decide +kernel
theorem dX2_read_88 : decode cX2_read 88 = .ok (.invokevirtual 55, 3) := by decide +kernel
theorem dX2_read_91 : decode cX2_read 91 = .ok (.ireturn, 1) := by decide +kernel
set_option maxRecDepth 20000 in
theorem ggX2_readPart_X3_accept : GoodIn wsX2_readPart wsX3_accept := goodIn_r _ [5, 6, 7, 8, 9, 4, 10, 11, 12, 59, 60, 61, 62, 63] (by decide +kernel) (by decide +kernel)
set_option maxRecDepth 20000 in
theorem gX2_readPart_X3_accept : GoodIn wsX2_readPart (wsV RX2 43 RX3 yX3_accept wsX3_accept) := goodIn_app (goodIn_of _ (by decide +kernel)) ggX2_readPart_X3_accept
set_option maxRecDepth 20000 in
theorem ggX2_readPart_X2_add : GoodIn wsX2_readPart wsX2_add := goodIn_r _ [17, 18, 19, 20, 21, 22, 23, 24, 64, 65, 66, 67, 68, 69, 70, 71, 59, 60, 61, 62, 63] (by decide +kernel) (by decide +kernel)
set_option maxRecDepth 20000 in
theorem gX2_readPart_X2_add : GoodIn wsX2_readPart (wsV RX2 59 RX2 yX2_add wsX2_add) := goodIn_app (goodIn_of _ (by decide +kernel)) ggX2_readPart_X2_add
set_option maxRecDepth 20000 in
theorem ggX2_readPart_X3_peek : GoodIn wsX2_readPart wsX3_peek := goodIn_r _ [10, 6, 11, 12, 59, 60, 61, 62, 63] (by decide +kernel) (by decide +kernel)
set_option maxRecDepth 20000 in
theorem gX2_readPart_X3_peek : GoodIn wsX2_readPart (wsV RX2 37 RX3 yX3_peek wsX3_peek) := goodIn_app (goodIn_of _ (by decide +kernel)) ggX2_readPart_X3_peek
set_option maxRecDepth 20000 in
theorem ggX2_readPart_X2_nextSingleRole : GoodIn wsX2_readPart wsX2_nextSingleRole := goodIn_r _ [29, 18, 30, 31, 32, 16, 33, 19, 34, 35, 36, 37, 64, 65, 66, 67, 68, 69, 70, 71] (by decide +kernel) (by decide +kernel)
set_option maxRecDepth 20000 in
theorem gX2_readPart_X2_nextSingleRole : GoodIn wsX2_readPart (wsV RX2 63 RX2 yX2_nextSingleRole wsX2_nextSingleRole) := goodIn_app (goodIn_of _ (by decide +kernel)) ggX2_readPart_X2_nextSingleRole
set_option maxRecDepth 20000 in
theorem ggX2_readPart_X2_readSingle : GoodIn wsX2_readPart wsX2_readSingle := goodIn_r _ [41, 1, 2, 3, 4, 5, 6, 7, 8, 9, 10, 11, 12, 13, 14, 15, 16, 17, 18, 19, 20, 21, 22, 23, 24, 42, 43, 44, 45, 46, 47, 48, 49, 50, 51, 52, 53, 54, 55, 56, 57, 58, 59, 60, 61, 62, 63, 64, 65, 66, 67, 68, 69, 70, 71] (by decide +kernel) (by decide +kernel)
set_option maxRecDepth 20000 in
theorem gX2_readPart_X2_readSingle : GoodIn wsX2_readPart (wsV RX2 51 RX2 yX2_readSingle wsX2_readSingle) := goodIn_app (goodIn_of _ (by decide +kernel)) ggX2_readPart_X2_readSingle
set_option maxRecDepth 20000 in
theorem ggX2_readPart_X3_readAdjectives : GoodIn wsX2_readPart wsX3_readAdjectives := goodIn_r _ [45, 46, 47, 6, 7, 8, 9, 4, 10, 11, 12, 48, 49, 50, 59, 60, 61, 62, 63] (by decide +kernel) (by decide +kernel)
set_option maxRecDepth 20000 in
theorem gX2_readPart_X3_readAdjectives : GoodIn wsX2_readPart (wsV RX2 66 RX3 yX3_readAdjectives wsX3_readAdjectives) := goodIn_app (goodIn_of _ (by decide +kernel)) ggX2_readPart_X3_readAdjectives
set_option maxRecDepth 20000 in
theorem ggX2_readPart_X3_acceptNoun : GoodIn wsX2_readPart wsX3_acceptNoun := goodIn_r _ [58, 47, 6, 7, 8, 9, 4, 10, 11, 12, 48, 49, 50, 59, 60, 61, 62, 63] (by decide +kernel) (by decide +kernel)
set_option maxRecDepth 20000 in
theorem gX2_readPart_X3_acceptNoun : GoodIn wsX2_readPart (wsV RX2 72 RX3 yX3_acceptNoun wsX3_acceptNoun) := goodIn_app (goodIn_of _ (by decide +kernel)) ggX2_readPart_X3_acceptNoun
set_option maxRecDepth 20000 in
theorem ggX2_readPart_X2_readHead : GoodIn wsX2_readPart wsX2_readHead := goodIn_r _ [54, 55, 56, 57, 4, 58, 47, 6, 7, 8, 9, 10, 11, 12, 48, 49, 50, 1, 2, 3, 5, 13, 14, 15, 16, 17, 18, 19, 20, 21, 22, 23, 24, 59, 60, 61, 62, 63, 64, 65, 66, 67, 68, 69, 70, 71] (by decide +kernel) (by decide +kernel)
set_option maxRecDepth 20000 in
theorem gX2_readPart_X2_readHead : GoodIn wsX2_readPart (wsV RX2 75 RX2 yX2_readHead wsX2_readHead) := goodIn_app (goodIn_of _ (by decide +kernel)) ggX2_readPart_X2_readHead
theorem dX2_readPart_0 : decode cX2_readPart 0 = .ok (.aload_n 1, 1) := by decide +kernel
theorem dX2_readPart_1 : decode cX2_readPart 1 = .ok (.bipush 15, 2) := by decide +kernel
theorem dX2_readPart_3 : decode cX2_readPart 3 = .ok (.invokevirtual 43, 3) := by decide +kernel
theorem dX2_readPart_6 : decode cX2_readPart 6 = .ok (.ifCond .eq 12, 3) := by decide +kernel
theorem dX2_readPart_9 : decode cX2_readPart 9 = .ok (.aload_n 0, 1) := by decide +kernel
theorem dX2_readPart_10 : decode cX2_readPart 10 = .ok (.bipush 15, 2) := by decide +kernel
theorem dX2_readPart_12 : decode cX2_readPart 12 = .ok (.iconst 0, 1) := by decide +kernel
theorem dX2_readPart_13 : decode cX2_readPart 13 = .ok (.aload_n 1, 1) := by decide +kernel
theorem dX2_readPart_14 : decode cX2_readPart 14 = .ok (.invokevirtual 59, 3) := by decide +kernel
theorem dX2_readPart_17 : decode cX2_readPart 17 = .ok (.ireturn, 1) := by decide +kernel
theorem dX2_readPart_18 : decode cX2_readPart 18 = .ok (.aload_n 1, 1) := by decide +kernel
theorem dX2_readPart_19 : decode cX2_readPart 19 = .ok (.invokevirtual 37, 3) := by decide +kernel
theorem dX2_readPart_22 : decode cX2_readPart 22 = .ok (.bipush 14, 2) := by decide +kernel
theorem dX2_readPart_24 : decode cX2_readPart 24 = .ok (.if_icmp .ne 13, 3) := by decide +kernel
theorem dX2_readPart_27 : decode cX2_readPart 27 = .ok (.aload_n 0, 1) := by decide +kernel
theorem dX2_readPart_28 : decode cX2_readPart 28 = .ok (.aload_n 1, 1) := by decide +kernel
theorem dX2_readPart_29 : decode cX2_readPart 29 = .ok (.aload_n 0, 1) := by decide +kernel
theorem dX2_readPart_30 : decode cX2_readPart 30 = .ok (.invokevirtual 63, 3) := by decide +kernel
theorem dX2_readPart_33 : decode cX2_readPart 33 = .ok (.invokevirtual 51, 3) := by decide +kernel
theorem dX2_readPart_36 : decode cX2_readPart 36 = .ok (.ireturn, 1) := by decide +kernel
theorem dX2_readPart_37 : decode cX2_readPart 37 = .ok (.aload_n 1, 1) := by decide +kernel
theorem dX2_readPart_38 : decode cX2_readPart 38 = .ok (.bipush 11, 2) := by decide +kernel
theorem dX2_readPart_40 : decode cX2_readPart 40 = .ok (.invokevirtual 43, 3) := by decide +kernel
theorem dX2_readPart_43 : decode cX2_readPart 43 = .ok (.istore_n 2, 1) := by decide +kernel
theorem dX2_readPart_44 : decode cX2_readPart 44 = .ok (.iload_n 2, 1) := by decide +kernel
theorem dX2_readPart_45 : decode cX2_readPart 45 = .ok (.ifCond .ne 10, 3) := by decide +kernel
theorem dX2_readPart_48 : decode cX2_readPart 48 = .ok (.aload_n 1, 1) := by decide +kernel
theorem dX2_readPart_49 : decode cX2_readPart 49 = .ok (.bipush 10, 2) := by decide +kernel
theorem dX2_readPart_51 : decode cX2_readPart 51 = .ok (.invokevirtual 43, 3) := by decide +kernel
theorem dX2_readPart_54 : decode cX2_readPart 54 = .ok (.pop, 1) := by decide +kernel
theorem dX2_readPart_55 : decode cX2_readPart 55 = .ok (.aload_n 1, 1) := by decide +kernel
theorem dX2_readPart_56 : decode cX2_readPart 56 = .ok (.invokevirtual 66, 3) := by decide +kernel
theorem dX2_readPart_59 : decode cX2_readPart 59 = .ok (.iload_n 2, 1) := by decide +kernel
theorem dX2_readPart_60 : decode cX2_readPart 60 = .ok (.ifCond .eq 14, 3) := by decide +kernel
theorem dX2_readPart_63 : decode cX2_readPart 63 = .ok (.aload_n 1, 1) := by decide +kernel
theorem dX2_readPart_64 : decode cX2_readPart 64 = .ok (.getfield 69, 3) := by decide +kernel
theorem dX2_readPart_67 : decode cX2_readPart 67 = .ok (.ifCond .ne 7, 3) := by decide +kernel
theorem dX2_readPart_70 : decode cX2_readPart 70 = .ok (.iconst 1, 1) := by decide +kernel
theorem dX2_readPart_71 : decode cX2_readPart 71 = .ok (.goto 4, 3) := by decide +kernel
theorem dX2_readPart_74 : decode cX2_readPart 74 = .ok (.iconst 0, 1) := by decide +kernel
theorem dX2_readPart_75 : decode cX2_readPart 75 = .ok (.istore_n 3, 1) := by decide +kernel
theorem dX2_readPart_76 : decode cX2_readPart 76 = .ok (.aload_n 1, 1) := by decide +kernel
theorem dX2_readPart_77 : decode cX2_readPart 77 = .ok (.bipush 40, 2) := by decide +kernel
theorem dX2_readPart_79 : decode cX2_readPart 79 = .ok (.invokevirtual 72, 3) := by decide +kernel
theorem dX2_readPart_82 : decode cX2_readPart 82 = .ok (.ifCond .ne 29, 3) := by decide +kernel
theorem dX2_readPart_85 : decode cX2_readPart 85 = .ok (.iload_n 3, 1) := by decide +kernel
theorem dX2_readPart_86 : decode cX2_readPart 86 = .ok (.ifCond .ne 25, 3) := by decide +kernel
theorem dX2_readPart_89 : decode cX2_readPart 89 = .ok (.iload_n 2, 1) := by decide +kernel
theorem dX2_readPart_90 : decode cX2_readPart 90 = .ok (.ifCond .ne 19, 3) := by decide +kernel
theorem dX2_readPart_93 : decode cX2_readPart 93 = .ok (.aload_n 0, 1) := by decide +kernel
theorem dX2_readPart_94 : decode cX2_readPart 94 = .ok (.aload_n 1, 1) := by decide +kernel
theorem dX2_readPart_95 : decode cX2_readPart 95 = .ok (.aload_n 0, 1) := by decide +kernel
theorem dX2_readPart_96 : decode cX2_readPart 96 = .ok (.invokevirtual 63, 3) := by decide +kernel
theorem dX2_readPart_99 : decode cX2_readPart 99 = .ok (.invokevirtual 75, 3) := by decide +kernel
theorem dX2_readPart_102 : decode cX2_readPart 102 = .ok (.ifCond .eq 7, 3) := by decide +kernel
theorem dX2_readPart_105 : decode cX2_readPart 105 = .ok (.iconst 1, 1) := by decide +kernel
theorem dX2_readPart_106 : decode cX2_readPart 106 = .ok (.goto 4, 3) := by decide +kernel
theorem dX2_readPart_109 : decode cX2_readPart 109 = .ok (.iconst 0, 1) := by decide +kernel
theorem dX2_readPart_110 : decode cX2_readPart 110 = .ok (.ireturn, 1) := by decide +kernel
theorem dX2_readPart_111 : decode cX2_readPart 111 = .ok (.aload_n 0, 1) := by decide +kernel
theorem dX2_readPart_112 : decode cX2_readPart 112 = .ok (.bipush 11, 2) := by decide +kernel
theorem dX2_readPart_114 : decode cX2_readPart 114 = .ok (.iconst 0, 1) := by decide +kernel
theorem dX2_readPart_115 : decode cX2_readPart 115 = .ok (.aload_n 1, 1) := by decide +kernel
theorem dX2_readPart_116 : decode cX2_readPart 116 = .ok (.invokevirtual 59, 3) := by decide +kernel
theorem dX2_readPart_119 : decode cX2_readPart 119 = .ok (.ifCond .eq 25, 3) := by decide +kernel
theorem dX2_readPart_122 : decode cX2_readPart 122 = .ok (.aload_n 1, 1) := by decide +kernel
theorem dX2_readPart_123 : decode cX2_readPart 123 = .ok (.bipush 12, 2) := by decide +kernel
theorem dX2_readPart_125 : decode cX2_readPart 125 = .ok (.invokevirtual 43, 3) := by decide +kernel
theorem dX2_readPart_128 : decode cX2_readPart 128 = .ok (.ifCond .eq 12, 3) := by decide +kernel
theorem dX2_readPart_131 : decode cX2_readPart 131 = .ok (.aload_n 0, 1) := by decide +kernel
theorem dX2_readPart_132 : decode cX2_readPart 132 = .ok (.aload_n 1, 1) := by decide +kernel
theorem dX2_readPart_133 : decode cX2_readPart 133 = .ok (.iconst 1, 1) := by decide +kernel
theorem dX2_readPart_134 : decode cX2_readPart 134 = .ok (.invokevirtual 51, 3) := by decide +kernel
theorem dX2_readPart_137 : decode cX2_readPart 137 = .ok (.ifCond .eq 7, 3) := by decide +kernel
theorem dX2_readPart_140 : decode cX2_readPart 140 = .ok (.iconst 1, 1) := by decide +kernel
theorem dX2_readPart_141 : decode cX2_readPart 141 = .ok (.goto 4, 3) := by decide +kernel
theorem dX2_readPart_144 : decode cX2_readPart 144 = .ok (.iconst 0, 1) := by decide +kernel
theorem dX2_readPart_145 : decode cX2_readPart 145 = .ok (.ireturn, 1) := by decide +kernel
set_option maxRecDepth 20000 in
theorem ggX2_readSingle_X3_accept : GoodIn wsX2_readSingle wsX3_accept := goodIn_r _ [5, 6, 7, 8, 9, 4, 10, 11, 12, 42, 43, 44, 45, 46] (by decide +kernel) (by decide +kernel)
set_option maxRecDepth 20000 in
theorem gX2_readSingle_X3_accept : GoodIn wsX2_readSingle (wsV RX2 43 RX3 yX3_accept wsX3_accept) := goodIn_app (goodIn_of _ (by decide +kernel)) ggX2_readSingle_X3_accept
set_option maxRecDepth 20000 in
theorem ggX2_readSingle_X2_add : GoodIn wsX2_readSingle wsX2_add := goodIn_r _ [17, 18, 19, 20, 21, 22, 23, 24, 47, 48, 49, 50, 51, 52, 53, 54, 42, 43, 44, 45, 46] (by decide +kernel) (by decide +kernel)
set_option maxRecDepth 20000 in
theorem gX2_readSingle_X2_add : GoodIn wsX2_readSingle (wsV RX2 59 RX2 yX2_add wsX2_add) := goodIn_app (goodIn_of _ (by decide +kernel)) ggX2_readSingle_X2_add
set_option maxRecDepth 20000 in
theorem ggX2_readSingle_X3_readAdjectives : GoodIn wsX2_readSingle wsX3_readAdjectives := goodIn_r _ [28, 29, 30, 6, 7, 8, 9, 4, 10, 11, 12, 31, 32, 33, 42, 43, 44, 45, 46] (by decide +kernel) (by decide +kernel)
set_option maxRecDepth 20000 in
theorem gX2_readSingle_X3_readAdjectives : GoodIn wsX2_readSingle (wsV RX2 66 RX3 yX3_readAdjectives wsX3_readAdjectives) := goodIn_app (goodIn_of _ (by decide +kernel)) ggX2_readSingle_X3_readAdjectives
set_option maxRecDepth 20000 in
theorem ggX2_readSingle_X2_readHead : GoodIn wsX2_readSingle wsX2_readHead := goodIn_r _ [37, 38, 39, 40, 4, 41, 30, 6, 7, 8, 9, 10, 11, 12, 31, 32, 33, 1, 2, 3, 5, 13, 14, 15, 16, 17, 18, 19, 20, 21, 22, 23, 24, 42, 43, 44, 45, 46, 47, 48, 49, 50, 51, 52, 53, 54] (by decide +kernel) (by decide +kernel)
set_option maxRecDepth 20000 in
theorem gX2_readSingle_X2_readHead : GoodIn wsX2_readSingle (wsV RX2 75 RX2 yX2_readHead wsX2_readHead) := goodIn_app (goodIn_of _ (by decide +kernel)) ggX2_readSingle_X2_readHead
theorem dX2_readSingle_0 : decode cX2_readSingle 0 = .ok (.aload_n 1, 1) := by decide +kernel
theorem dX2_readSingle_1 : decode cX2_readSingle 1 = .ok (.bipush 14, 2) := by decide +kernel
theorem dX2_readSingle_3 : decode cX2_readSingle 3 = .ok (.invokevirtual 43, 3) := by decide +kernel
theorem dX2_readSingle_6 : decode cX2_readSingle 6 = .ok (.ifCond .eq 12, 3) := by decide +kernel
theorem dX2_readSingle_9 : decode cX2_readSingle 9 = .ok (.aload_n 0, 1) := by decide +kernel
theorem dX2_readSingle_10 : decode cX2_readSingle 10 = .ok (.bipush 14, 2) := by decide +kernel
theorem dX2_readSingle_12 : decode cX2_readSingle 12 = .ok (.iload_n 2, 1) := by decide +kernel
theorem dX2_readSingle_13 : decode cX2_readSingle 13 = .ok (.aload_n 1, 1) := by decide +kernel
theorem dX2_readSingle_14 : decode cX2_readSingle 14 = .ok (.invokevirtual 59, 3) := by decide +kernel
theorem dX2_readSingle_17 : decode cX2_readSingle 17 = .ok (.ireturn, 1) := by decide +kernel
theorem dX2_readSingle_18 : decode cX2_readSingle 18 = .ok (.aload_n 1, 1) := by decide +kernel
theorem dX2_readSingle_19 : decode cX2_readSingle 19 = .ok (.bipush 10, 2) := by decide +kernel
theorem dX2_readSingle_21 : decode cX2_readSingle 21 = .ok (.invokevirtual 43, 3) := by decide +kernel
theorem dX2_readSingle_24 : decode cX2_readSingle 24 = .ok (.pop, 1) := by decide +kernel
theorem dX2_readSingle_25 : decode cX2_readSingle 25 = .ok (.aload_n 1, 1) := by decide +kernel
theorem dX2_readSingle_26 : decode cX2_readSingle 26 = .ok (.invokevirtual 66, 3) := by decide +kernel
theorem dX2_readSingle_29 : decode cX2_readSingle 29 = .ok (.aload_n 0, 1) := by decide +kernel
theorem dX2_readSingle_30 : decode cX2_readSingle 30 = .ok (.aload_n 1, 1) := by decide +kernel
theorem dX2_readSingle_31 : decode cX2_readSingle 31 = .ok (.iload_n 2, 1) := by decide +kernel
theorem dX2_readSingle_32 : decode cX2_readSingle 32 = .ok (.invokevirtual 75, 3) := by decide +kernel
theorem dX2_readSingle_35 : decode cX2_readSingle 35 = .ok (.ireturn, 1) := by decide +kernel
set_option maxRecDepth 20000 in
theorem ggX2_readHead_X3_acceptNoun : GoodIn wsX2_readHead wsX3_acceptNoun := goodIn_r _ [5, 6, 7, 8, 9, 10, 4, 11, 12, 13, 14, 15, 16, 33, 34, 35, 36, 37] (by decide +kernel) (by decide +kernel)
set_option maxRecDepth 20000 in
theorem gX2_readHead_X3_acceptNoun : GoodIn wsX2_readHead (wsV RX2 72 RX3 yX3_acceptNoun wsX3_acceptNoun) := goodIn_app (goodIn_of _ (by decide +kernel)) ggX2_readHead_X3_acceptNoun
set_option maxRecDepth 20000 in
theorem ggX2_readHead_X3_accept : GoodIn wsX2_readHead wsX3_accept := goodIn_r _ [20, 7, 8, 9, 10, 4, 11, 12, 13, 33, 34, 35, 36, 37] (by decide +kernel) (by decide +kernel)
set_option maxRecDepth 20000 in
theorem gX2_readHead_X3_accept : GoodIn wsX2_readHead (wsV RX2 43 RX3 yX3_accept wsX3_accept) := goodIn_app (goodIn_of _ (by decide +kernel)) ggX2_readHead_X3_accept
set_option maxRecDepth 20000 in
theorem ggX2_readHead_X2_add : GoodIn wsX2_readHead wsX2_add := goodIn_r _ [25, 26, 27, 28, 29, 30, 31, 32, 38, 39, 40, 41, 42, 43, 44, 45, 33, 34, 35, 36, 37] (by decide +kernel) (by decide +kernel)
set_option maxRecDepth 20000 in
theorem gX2_readHead_X2_add : GoodIn wsX2_readHead (wsV RX2 59 RX2 yX2_add wsX2_add) := goodIn_app (goodIn_of _ (by decide +kernel)) ggX2_readHead_X2_add
theorem dX2_readHead_0 : decode cX2_readHead 0 = .ok (.aload_n 1, 1) := by decide +kernel
theorem dX2_readHead_1 : decode cX2_readHead 1 = .ok (.bipush 30, 2) := by decide +kernel
theorem dX2_readHead_3 : decode cX2_readHead 3 = .ok (.invokevirtual 72, 3) := by decide +kernel
theorem dX2_readHead_6 : decode cX2_readHead 6 = .ok (.ifCond .ne 19, 3) := by decide +kernel
theorem dX2_readHead_9 : decode cX2_readHead 9 = .ok (.aload_n 1, 1) := by decide +kernel
theorem dX2_readHead_10 : decode cX2_readHead 10 = .ok (.getfield 69, 3) := by decide +kernel
theorem dX2_readHead_13 : decode cX2_readHead 13 = .ok (.ifCond .eq 21, 3) := by decide +kernel
theorem dX2_readHead_16 : decode cX2_readHead 16 = .ok (.aload_n 1, 1) := by decide +kernel
theorem dX2_readHead_17 : decode cX2_readHead 17 = .ok (.bipush 17, 2) := by decide +kernel
theorem dX2_readHead_19 : decode cX2_readHead 19 = .ok (.invokevirtual 43, 3) := by decide +kernel
theorem dX2_readHead_22 : decode cX2_readHead 22 = .ok (.ifCond .eq 12, 3) := by decide +kernel
theorem dX2_readHead_25 : decode cX2_readHead 25 = .ok (.aload_n 0, 1) := by decide +kernel
theorem dX2_readHead_26 : decode cX2_readHead 26 = .ok (.bipush 17, 2) := by decide +kernel
theorem dX2_readHead_28 : decode cX2_readHead 28 = .ok (.iload_n 2, 1) := by decide +kernel
theorem dX2_readHead_29 : decode cX2_readHead 29 = .ok (.aload_n 1, 1) := by decide +kernel
theorem dX2_readHead_30 : decode cX2_readHead 30 = .ok (.invokevirtual 59, 3) := by decide +kernel
theorem dX2_readHead_33 : decode cX2_readHead 33 = .ok (.ireturn, 1) := by decide +kernel
theorem dX2_readHead_34 : decode cX2_readHead 34 = .ok (.iconst 0, 1) := by decide +kernel
theorem dX2_readHead_35 : decode cX2_readHead 35 = .ok (.ireturn, 1) := by decide +kernel
set_option maxRecDepth 20000 in
theorem ggX2_nextSingleRole_X2_roleOf : GoodIn wsX2_nextSingleRole wsX2_roleOf := goodIn_r _ [6, 7, 8, 9, 10, 5, 11, 1, 12, 13, 14, 15, 16, 17, 18, 19] (by decide +kernel) (by decide +kernel)
set_option maxRecDepth 20000 in
theorem gX2_nextSingleRole_X2_roleOf : GoodIn wsX2_nextSingleRole (wsV RX2 78 RX2 yX2_roleOf wsX2_roleOf) := goodIn_app (goodIn_of _ (by decide +kernel)) ggX2_nextSingleRole_X2_roleOf
theorem dX2_nextSingleRole_0 : decode cX2_nextSingleRole 0 = .ok (.aload_n 0, 1) := by decide +kernel
theorem dX2_nextSingleRole_1 : decode cX2_nextSingleRole 1 = .ok (.aload_n 0, 1) := by decide +kernel
theorem dX2_nextSingleRole_2 : decode cX2_nextSingleRole 2 = .ok (.getfield 15, 3) := by decide +kernel
theorem dX2_nextSingleRole_5 : decode cX2_nextSingleRole 5 = .ok (.iconst 1, 1) := by decide +kernel
theorem dX2_nextSingleRole_6 : decode cX2_nextSingleRole 6 = .ok (.isub, 1) := by decide +kernel
theorem dX2_nextSingleRole_7 : decode cX2_nextSingleRole 7 = .ok (.invokevirtual 78, 3) := by decide +kernel
theorem dX2_nextSingleRole_10 : decode cX2_nextSingleRole 10 = .ok (.iconst 1, 1) := by decide +kernel
theorem dX2_nextSingleRole_11 : decode cX2_nextSingleRole 11 = .ok (.if_icmp .ne 7, 3) := by decide +kernel
theorem dX2_nextSingleRole_14 : decode cX2_nextSingleRole 14 = .ok (.iconst 1, 1) := by decide +kernel
theorem dX2_nextSingleRole_15 : decode cX2_nextSingleRole 15 = .ok (.goto 4, 3) := by decide +kernel
theorem dX2_nextSingleRole_18 : decode cX2_nextSingleRole 18 = .ok (.iconst 0, 1) := by decide +kernel
theorem dX2_nextSingleRole_19 : decode cX2_nextSingleRole 19 = .ok (.ireturn, 1) := by decide +kernel
theorem dX2_add_0 : decode cX2_add 0 = .ok (.aload_n 0, 1) := by decide +kernel
theorem dX2_add_1 : decode cX2_add 1 = .ok (.getfield 15, 3) := by decide +kernel
theorem dX2_add_4 : decode cX2_add 4 = .ok (.ifCond .lt 12, 3) := by decide +kernel
theorem dX2_add_7 : decode cX2_add 7 = .ok (.aload_n 0, 1) := by decide +kernel
theorem dX2_add_8 : decode cX2_add 8 = .ok (.getfield 15, 3) := by decide +kernel
theorem dX2_add_11 : decode cX2_add 11 = .ok (.bipush 24, 2) := by decide +kernel
theorem dX2_add_13 : decode cX2_add 13 = .ok (.if_icmp .lt 5, 3) := by decide +kernel
theorem dX2_add_16 : decode cX2_add 16 = .ok (.iconst 0, 1) := by decide +kernel
theorem dX2_add_17 : decode cX2_add 17 = .ok (.ireturn, 1) := by decide +kernel
theorem dX2_add_18 : decode cX2_add 18 = .ok (.aload_n 0, 1) := by decide +kernel
theorem dX2_add_19 : decode cX2_add 19 = .ok (.getfield 18, 3) := by decide +kernel
theorem dX2_add_22 : decode cX2_add 22 = .ok (.aload_n 0, 1) := by decide +kernel
theorem dX2_add_23 : decode cX2_add 23 = .ok (.getfield 15, 3) := by decide +kernel
theorem dX2_add_26 : decode cX2_add 26 = .ok (.iload_n 2, 1) := by decide +kernel
theorem dX2_add_27 : decode cX2_add 27 = .ok (.iastore, 1) := by decide +kernel
theorem dX2_add_28 : decode cX2_add 28 = .ok (.aload_n 0, 1) := by decide +kernel
theorem dX2_add_29 : decode cX2_add 29 = .ok (.getfield 22, 3) := by decide +kernel
theorem dX2_add_32 : decode cX2_add 32 = .ok (.aload_n 0, 1) := by decide +kernel
theorem dX2_add_33 : decode cX2_add 33 = .ok (.getfield 15, 3) := by decide +kernel
theorem dX2_add_36 : decode cX2_add 36 = .ok (.iload_n 1, 1) := by decide +kernel
theorem dX2_add_37 : decode cX2_add 37 = .ok (.iastore, 1) := by decide +kernel
theorem dX2_add_38 : decode cX2_add 38 = .ok (.aload_n 0, 1) := by decide +kernel
theorem dX2_add_39 : decode cX2_add 39 = .ok (.getfield 25, 3) := by decide +kernel
theorem dX2_add_42 : decode cX2_add 42 = .ok (.aload_n 0, 1) := by decide +kernel
theorem dX2_add_43 : decode cX2_add 43 = .ok (.getfield 15, 3) := by decide +kernel
theorem dX2_add_46 : decode cX2_add 46 = .ok (.aload_n 3, 1) := by decide +kernel
theorem dX2_add_47 : decode cX2_add 47 = .ok (.getfield 69, 3) := by decide +kernel
theorem dX2_add_50 : decode cX2_add 50 = .ok (.iastore, 1) := by decide +kernel
theorem dX2_add_51 : decode cX2_add 51 = .ok (.aload_n 0, 1) := by decide +kernel
theorem dX2_add_52 : decode cX2_add 52 = .ok (.getfield 28, 3) := by decide +kernel
theorem dX2_add_55 : decode cX2_add 55 = .ok (.aload_n 0, 1) := by decide +kernel
theorem dX2_add_56 : decode cX2_add 56 = .ok (.getfield 15, 3) := by decide +kernel
theorem dX2_add_59 : decode cX2_add 59 = .ok (.aload_n 3, 1) := by decide +kernel
theorem dX2_add_60 : decode cX2_add 60 = .ok (.getfield 82, 3) := by decide +kernel
theorem dX2_add_63 : decode cX2_add 63 = .ok (.iastore, 1) := by decide +kernel
theorem dX2_add_64 : decode cX2_add 64 = .ok (.aload_n 0, 1) := by decide +kernel
theorem dX2_add_65 : decode cX2_add 65 = .ok (.getfield 31, 3) := by decide +kernel
theorem dX2_add_68 : decode cX2_add 68 = .ok (.aload_n 0, 1) := by decide +kernel
theorem dX2_add_69 : decode cX2_add 69 = .ok (.getfield 15, 3) := by decide +kernel
theorem dX2_add_72 : decode cX2_add 72 = .ok (.aload_n 3, 1) := by decide +kernel
theorem dX2_add_73 : decode cX2_add 73 = .ok (.getfield 85, 3) := by decide +kernel
theorem dX2_add_76 : decode cX2_add 76 = .ok (.iconst 1, 1) := by decide +kernel
theorem dX2_add_77 : decode cX2_add 77 = .ok (.isub, 1) := by decide +kernel
theorem dX2_add_78 : decode cX2_add 78 = .ok (.iastore, 1) := by decide +kernel
theorem dX2_add_79 : decode cX2_add 79 = .ok (.aload_n 0, 1) := by decide +kernel
theorem dX2_add_80 : decode cX2_add 80 = .ok (.getfield 34, 3) := by decide +kernel
theorem dX2_add_83 : decode cX2_add 83 = .ok (.aload_n 0, 1) := by decide +kernel
theorem dX2_add_84 : decode cX2_add 84 = .ok (.getfield 15, 3) := by decide +kernel
theorem dX2_add_87 : decode cX2_add 87 = .ok (.iconst 0, 1) := by decide +kernel
theorem dX2_add_88 : decode cX2_add 88 = .ok (.iastore, 1) := by decide +kernel
theorem dX2_add_89 : decode cX2_add 89 = .ok (.aload_n 0, 1) := by decide +kernel
theorem dX2_add_90 : decode cX2_add 90 = .ok (.dup, 1) := by decide +kernel
theorem dX2_add_91 : decode cX2_add 91 = .ok (.getfield 15, 3) := by decide +kernel
theorem dX2_add_94 : decode cX2_add 94 = .ok (.iconst 1, 1) := by decide +kernel
theorem dX2_add_95 : decode cX2_add 95 = .ok (.iadd, 1) := by decide +kernel
theorem dX2_add_96 : decode cX2_add 96 = .ok (.putfield 15, 3) := by decide +kernel
theorem dX2_add_99 : decode cX2_add 99 = .ok (.iconst 1, 1) := by decide +kernel
theorem dX2_add_100 : decode cX2_add 100 = .ok (.ireturn, 1) := by decide +kernel
theorem dX2_hasPhrase_0 : decode cX2_hasPhrase 0 = .ok (.iload_n 1, 1) := by decide +kernel
theorem dX2_hasPhrase_1 : decode cX2_hasPhrase 1 = .ok (.ifCond .lt 21, 3) := by decide +kernel
theorem dX2_hasPhrase_4 : decode cX2_hasPhrase 4 = .ok (.iload_n 1, 1) := by decide +kernel
theorem dX2_hasPhrase_5 : decode cX2_hasPhrase 5 = .ok (.aload_n 0, 1) := by decide +kernel
theorem dX2_hasPhrase_6 : decode cX2_hasPhrase 6 = .ok (.getfield 15, 3) := by decide +kernel
theorem dX2_hasPhrase_9 : decode cX2_hasPhrase 9 = .ok (.if_icmp .ge 13, 3) := by decide +kernel
theorem dX2_hasPhrase_12 : decode cX2_hasPhrase 12 = .ok (.iload_n 1, 1) := by decide +kernel
theorem dX2_hasPhrase_13 : decode cX2_hasPhrase 13 = .ok (.bipush 24, 2) := by decide +kernel
theorem dX2_hasPhrase_15 : decode cX2_hasPhrase 15 = .ok (.if_icmp .ge 7, 3) := by decide +kernel
theorem dX2_hasPhrase_18 : decode cX2_hasPhrase 18 = .ok (.iconst 1, 1) := by decide +kernel
theorem dX2_hasPhrase_19 : decode cX2_hasPhrase 19 = .ok (.goto 4, 3) := by decide +kernel
theorem dX2_hasPhrase_22 : decode cX2_hasPhrase 22 = .ok (.iconst 0, 1) := by decide +kernel
theorem dX2_hasPhrase_23 : decode cX2_hasPhrase 23 = .ok (.ireturn, 1) := by decide +kernel
set_option maxRecDepth 20000 in
theorem ggX2_roleOf_X2_hasPhrase : GoodIn wsX2_roleOf wsX2_hasPhrase := goodIn_r _ [6, 7, 8, 9, 10, 11, 12, 13, 14, 15] (by decide +kernel) (by decide +kernel)
set_option maxRecDepth 20000 in
theorem gX2_roleOf_X2_hasPhrase : GoodIn wsX2_roleOf (wsV RX2 88 RX2 yX2_hasPhrase wsX2_hasPhrase) := goodIn_app (goodIn_of _ (by decide +kernel)) ggX2_roleOf_X2_hasPhrase
theorem dX2_roleOf_0 : decode cX2_roleOf 0 = .ok (.aload_n 0, 1) := by decide +kernel
theorem dX2_roleOf_1 : decode cX2_roleOf 1 = .ok (.iload_n 1, 1) := by decide +kernel
theorem dX2_roleOf_2 : decode cX2_roleOf 2 = .ok (.invokevirtual 88, 3) := by decide +kernel
theorem dX2_roleOf_5 : decode cX2_roleOf 5 = .ok (.ifCond .eq 12, 3) := by decide +kernel
theorem dX2_roleOf_8 : decode cX2_roleOf 8 = .ok (.aload_n 0, 1) := by decide +kernel
theorem dX2_roleOf_9 : decode cX2_roleOf 9 = .ok (.getfield 18, 3) := by decide +kernel
theorem dX2_roleOf_12 : decode cX2_roleOf 12 = .ok (.iload_n 1, 1) := by decide +kernel
theorem dX2_roleOf_13 : decode cX2_roleOf 13 = .ok (.iaload, 1) := by decide +kernel
theorem dX2_roleOf_14 : decode cX2_roleOf 14 = .ok (.goto 4, 3) := by decide +kernel
theorem dX2_roleOf_17 : decode cX2_roleOf 17 = .ok (.iconst 0, 1) := by decide +kernel
theorem dX2_roleOf_18 : decode cX2_roleOf 18 = .ok (.ireturn, 1) := by decide +kernel
set_option maxRecDepth 20000 in
theorem ggX2_lastPlaceOf_X2_hasPhrase : GoodIn wsX2_lastPlaceOf wsX2_hasPhrase := goodIn_r _ [6, 7, 8, 9, 10, 11, 12, 13, 14, 15] (by decide +kernel) (by decide +kernel)
set_option maxRecDepth 20000 in
theorem gX2_lastPlaceOf_X2_hasPhrase : GoodIn wsX2_lastPlaceOf (wsV RX2 88 RX2 yX2_hasPhrase wsX2_hasPhrase) := goodIn_app (goodIn_of _ (by decide +kernel)) ggX2_lastPlaceOf_X2_hasPhrase
theorem dX2_lastPlaceOf_0 : decode cX2_lastPlaceOf 0 = .ok (.aload_n 0, 1) := by decide +kernel
theorem dX2_lastPlaceOf_1 : decode cX2_lastPlaceOf 1 = .ok (.iload_n 1, 1) := by decide +kernel
theorem dX2_lastPlaceOf_2 : decode cX2_lastPlaceOf 2 = .ok (.invokevirtual 88, 3) := by decide +kernel
theorem dX2_lastPlaceOf_5 : decode cX2_lastPlaceOf 5 = .ok (.ifCond .eq 12, 3) := by decide +kernel
theorem dX2_lastPlaceOf_8 : decode cX2_lastPlaceOf 8 = .ok (.aload_n 0, 1) := by decide +kernel
theorem dX2_lastPlaceOf_9 : decode cX2_lastPlaceOf 9 = .ok (.getfield 31, 3) := by decide +kernel
theorem dX2_lastPlaceOf_12 : decode cX2_lastPlaceOf 12 = .ok (.iload_n 1, 1) := by decide +kernel
theorem dX2_lastPlaceOf_13 : decode cX2_lastPlaceOf 13 = .ok (.iaload, 1) := by decide +kernel
theorem dX2_lastPlaceOf_14 : decode cX2_lastPlaceOf 14 = .ok (.goto 4, 3) := by decide +kernel
theorem dX2_lastPlaceOf_17 : decode cX2_lastPlaceOf 17 = .ok (.iconst (-1), 1) := by decide +kernel
theorem dX2_lastPlaceOf_18 : decode cX2_lastPlaceOf 18 = .ok (.ireturn, 1) := by decide +kernel
set_option maxRecDepth 20000 in
theorem ggX2_answer_X2_hasPhrase : GoodIn wsX2_answer wsX2_hasPhrase := goodIn_r _ [6, 7, 8, 9, 10, 11, 12, 13, 14, 15] (by decide +kernel) (by decide +kernel)
set_option maxRecDepth 20000 in
theorem gX2_answer_X2_hasPhrase : GoodIn wsX2_answer (wsV RX2 88 RX2 yX2_hasPhrase wsX2_hasPhrase) := goodIn_app (goodIn_of _ (by decide +kernel)) ggX2_answer_X2_hasPhrase
theorem dX2_answer_0 : decode cX2_answer 0 = .ok (.aload_n 0, 1) := by decide +kernel
theorem dX2_answer_1 : decode cX2_answer 1 = .ok (.iload_n 1, 1) := by decide +kernel
theorem dX2_answer_2 : decode cX2_answer 2 = .ok (.invokevirtual 88, 3) := by decide +kernel
theorem dX2_answer_5 : decode cX2_answer 5 = .ok (.ifCond .eq 10, 3) := by decide +kernel
theorem dX2_answer_8 : decode cX2_answer 8 = .ok (.aload_n 0, 1) := by decide +kernel
theorem dX2_answer_9 : decode cX2_answer 9 = .ok (.getfield 34, 3) := by decide +kernel
theorem dX2_answer_12 : decode cX2_answer 12 = .ok (.iload_n 1, 1) := by decide +kernel
theorem dX2_answer_13 : decode cX2_answer 13 = .ok (.iload_n 2, 1) := by decide +kernel
theorem dX2_answer_14 : decode cX2_answer 14 = .ok (.iastore, 1) := by decide +kernel
theorem dX2_answer_15 : decode cX2_answer 15 = .ok (.return_, 1) := by decide +kernel
theorem dX3_init_0 : decode cX3_init 0 = .ok (.aload_n 0, 1) := by decide +kernel
theorem dX3_init_1 : decode cX3_init 1 = .ok (.invokespecial 3, 3) := by decide +kernel
theorem dX3_init_4 : decode cX3_init 4 = .ok (.aload_n 0, 1) := by decide +kernel
theorem dX3_init_5 : decode cX3_init 5 = .ok (.bipush 24, 2) := by decide +kernel
theorem dX3_init_7 : decode cX3_init 7 = .ok (.newarray .int, 2) := by decide +kernel
theorem dX3_init_9 : decode cX3_init 9 = .ok (.putfield 9, 3) := by decide +kernel
theorem dX3_init_12 : decode cX3_init 12 = .ok (.aload_n 0, 1) := by decide +kernel
theorem dX3_init_13 : decode cX3_init 13 = .ok (.iconst 0, 1) := by decide +kernel
theorem dX3_init_14 : decode cX3_init 14 = .ok (.putfield 15, 3) := by decide +kernel
theorem dX3_init_17 : decode cX3_init 17 = .ok (.aload_n 0, 1) := by decide +kernel
theorem dX3_init_18 : decode cX3_init 18 = .ok (.iconst 0, 1) := by decide +kernel
theorem dX3_init_19 : decode cX3_init 19 = .ok (.putfield 19, 3) := by decide +kernel
theorem dX3_init_22 : decode cX3_init 22 = .ok (.aload_n 0, 1) := by decide +kernel
theorem dX3_init_23 : decode cX3_init 23 = .ok (.iconst 0, 1) := by decide +kernel
theorem dX3_init_24 : decode cX3_init 24 = .ok (.putfield 22, 3) := by decide +kernel
theorem dX3_init_27 : decode cX3_init 27 = .ok (.aload_n 0, 1) := by decide +kernel
theorem dX3_init_28 : decode cX3_init 28 = .ok (.iconst (-1), 1) := by decide +kernel
theorem dX3_init_29 : decode cX3_init 29 = .ok (.putfield 25, 3) := by decide +kernel
theorem dX3_init_32 : decode cX3_init 32 = .ok (.return_, 1) := by decide +kernel
theorem dX3_clear_0 : decode cX3_clear 0 = .ok (.aload_n 0, 1) := by decide +kernel
theorem dX3_clear_1 : decode cX3_clear 1 = .ok (.iconst 0, 1) := by decide +kernel
theorem dX3_clear_2 : decode cX3_clear 2 = .ok (.putfield 15, 3) := by decide +kernel
theorem dX3_clear_5 : decode cX3_clear 5 = .ok (.aload_n 0, 1) := by decide +kernel
theorem dX3_clear_6 : decode cX3_clear 6 = .ok (.iconst 0, 1) := by decide +kernel
theorem dX3_clear_7 : decode cX3_clear 7 = .ok (.putfield 19, 3) := by decide +kernel
theorem dX3_clear_10 : decode cX3_clear 10 = .ok (.return_, 1) := by decide +kernel
theorem dX3_add_0 : decode cX3_add 0 = .ok (.aload_n 0, 1) := by decide +kernel
theorem dX3_add_1 : decode cX3_add 1 = .ok (.getfield 15, 3) := by decide +kernel
theorem dX3_add_4 : decode cX3_add 4 = .ok (.ifCond .lt 32, 3) := by decide +kernel
theorem dX3_add_7 : decode cX3_add 7 = .ok (.aload_n 0, 1) := by decide +kernel
theorem dX3_add_8 : decode cX3_add 8 = .ok (.getfield 15, 3) := by decide +kernel
theorem dX3_add_11 : decode cX3_add 11 = .ok (.bipush 24, 2) := by decide +kernel
theorem dX3_add_13 : decode cX3_add 13 = .ok (.if_icmp .ge 23, 3) := by decide +kernel
theorem dX3_add_16 : decode cX3_add 16 = .ok (.aload_n 0, 1) := by decide +kernel
theorem dX3_add_17 : decode cX3_add 17 = .ok (.getfield 9, 3) := by decide +kernel
theorem dX3_add_20 : decode cX3_add 20 = .ok (.aload_n 0, 1) := by decide +kernel
theorem dX3_add_21 : decode cX3_add 21 = .ok (.getfield 15, 3) := by decide +kernel
theorem dX3_add_24 : decode cX3_add 24 = .ok (.iload_n 1, 1) := by decide +kernel
theorem dX3_add_25 : decode cX3_add 25 = .ok (.iastore, 1) := by decide +kernel
theorem dX3_add_26 : decode cX3_add 26 = .ok (.aload_n 0, 1) := by decide +kernel
theorem dX3_add_27 : decode cX3_add 27 = .ok (.dup, 1) := by decide +kernel
theorem dX3_add_28 : decode cX3_add 28 = .ok (.getfield 15, 3) := by decide +kernel
theorem dX3_add_31 : decode cX3_add 31 = .ok (.iconst 1, 1) := by decide +kernel
theorem dX3_add_32 : decode cX3_add 32 = .ok (.iadd, 1) := by decide +kernel
theorem dX3_add_33 : decode cX3_add 33 = .ok (.putfield 15, 3) := by decide +kernel
theorem dX3_add_36 : decode cX3_add 36 = .ok (.return_, 1) := by decide +kernel
theorem dX3_removeLast_0 : decode cX3_removeLast 0 = .ok (.aload_n 0, 1) := by decide +kernel
theorem dX3_removeLast_1 : decode cX3_removeLast 1 = .ok (.getfield 15, 3) := by decide +kernel
theorem dX3_removeLast_4 : decode cX3_removeLast 4 = .ok (.ifCond .le 12, 3) := by decide +kernel
theorem dX3_removeLast_7 : decode cX3_removeLast 7 = .ok (.aload_n 0, 1) := by decide +kernel
theorem dX3_removeLast_8 : decode cX3_removeLast 8 = .ok (.getfield 15, 3) := by decide +kernel
theorem dX3_removeLast_11 : decode cX3_removeLast 11 = .ok (.bipush 24, 2) := by decide +kernel
theorem dX3_removeLast_13 : decode cX3_removeLast 13 = .ok (.if_icmp .le 5, 3) := by decide +kernel
theorem dX3_removeLast_16 : decode cX3_removeLast 16 = .ok (.iconst (-1), 1) := by decide +kernel
theorem dX3_removeLast_17 : decode cX3_removeLast 17 = .ok (.ireturn, 1) := by decide +kernel
theorem dX3_removeLast_18 : decode cX3_removeLast 18 = .ok (.aload_n 0, 1) := by decide +kernel
theorem dX3_removeLast_19 : decode cX3_removeLast 19 = .ok (.dup, 1) := by decide +kernel
theorem dX3_removeLast_20 : decode cX3_removeLast 20 = .ok (.getfield 15, 3) := by decide +kernel
theorem dX3_removeLast_23 : decode cX3_removeLast 23 = .ok (.iconst 1, 1) := by decide +kernel
theorem dX3_removeLast_24 : decode cX3_removeLast 24 = .ok (.isub, 1) := by decide +kernel
theorem dX3_removeLast_25 : decode cX3_removeLast 25 = .ok (.putfield 15, 3) := by decide +kernel
theorem dX3_removeLast_28 : decode cX3_removeLast 28 = .ok (.aload_n 0, 1) := by decide +kernel
theorem dX3_removeLast_29 : decode cX3_removeLast 29 = .ok (.getfield 9, 3) := by decide +kernel
theorem dX3_removeLast_32 : decode cX3_removeLast 32 = .ok (.aload_n 0, 1) := by decide +kernel
theorem dX3_removeLast_33 : decode cX3_removeLast 33 = .ok (.getfield 15, 3) := by decide +kernel
theorem dX3_removeLast_36 : decode cX3_removeLast 36 = .ok (.iaload, 1) := by decide +kernel
theorem dX3_removeLast_37 : decode cX3_removeLast 37 = .ok (.ireturn, 1) := by decide +kernel
theorem dX3_atEnd_0 : decode cX3_atEnd 0 = .ok (.aload_n 0, 1) := by decide +kernel
theorem dX3_atEnd_1 : decode cX3_atEnd 1 = .ok (.getfield 19, 3) := by decide +kernel
theorem dX3_atEnd_4 : decode cX3_atEnd 4 = .ok (.aload_n 0, 1) := by decide +kernel
theorem dX3_atEnd_5 : decode cX3_atEnd 5 = .ok (.getfield 15, 3) := by decide +kernel
theorem dX3_atEnd_8 : decode cX3_atEnd 8 = .ok (.if_icmp .ne 7, 3) := by decide +kernel
theorem dX3_atEnd_11 : decode cX3_atEnd 11 = .ok (.iconst 1, 1) := by decide +kernel
theorem dX3_atEnd_12 : decode cX3_atEnd 12 = .ok (.goto 4, 3) := by decide +kernel
theorem dX3_atEnd_15 : decode cX3_atEnd 15 = .ok (.iconst 0, 1) := by decide +kernel
theorem dX3_atEnd_16 : decode cX3_atEnd 16 = .ok (.ireturn, 1) := by decide +kernel
theorem dX3_peek_0 : decode cX3_peek 0 = .ok (.aload_n 0, 1) := by decide +kernel
theorem dX3_peek_1 : decode cX3_peek 1 = .ok (.getfield 19, 3) := by decide +kernel
theorem dX3_peek_4 : decode cX3_peek 4 = .ok (.ifCond .lt 35, 3) := by decide +kernel
theorem dX3_peek_7 : decode cX3_peek 7 = .ok (.aload_n 0, 1) := by decide +kernel
theorem dX3_peek_8 : decode cX3_peek 8 = .ok (.getfield 19, 3) := by decide +kernel
theorem dX3_peek_11 : decode cX3_peek 11 = .ok (.aload_n 0, 1) := by decide +kernel
theorem dX3_peek_12 : decode cX3_peek 12 = .ok (.getfield 15, 3) := by decide +kernel
theorem dX3_peek_15 : decode cX3_peek 15 = .ok (.if_icmp .ge 24, 3) := by decide +kernel
theorem dX3_peek_18 : decode cX3_peek 18 = .ok (.aload_n 0, 1) := by decide +kernel
theorem dX3_peek_19 : decode cX3_peek 19 = .ok (.getfield 19, 3) := by decide +kernel
theorem dX3_peek_22 : decode cX3_peek 22 = .ok (.bipush 24, 2) := by decide +kernel
theorem dX3_peek_24 : decode cX3_peek 24 = .ok (.if_icmp .ge 15, 3) := by decide +kernel
end
section
theorem dX3_peek_27 : decode cX3_peek 27 = .ok (.aload_n 0, 1) := by decide +kernel
theorem dX3_peek_28 : decode cX3_peek 28 = .ok (.getfield 9, 3) := by decide +kernel
theorem dX3_peek_31 : decode cX3_peek 31 = .ok (.aload_n 0, 1) := by decide +kernel
theorem dX3_peek_32 : decode cX3_peek 32 = .ok (.getfield 19, 3) := by decide +kernel
theorem dX3_peek_35 : decode cX3_peek 35 = .ok (.iaload, 1) := by decide +kernel
theorem dX3_peek_36 : decode cX3_peek 36 = .ok (.goto 4, 3) := by decide +kernel
theorem dX3_peek_39 : decode cX3_peek 39 = .ok (.iconst (-1), 1) := by decide +kernel
theorem dX3_peek_40 : decode cX3_peek 40 = .ok (.ireturn, 1) := by decide +kernel
set_option maxRecDepth 20000 in
theorem ggX3_accept_X3_peek : GoodIn wsX3_accept wsX3_peek := goodIn_r _ [6, 1, 7, 8, 9, 10, 11, 12, 13] (by decide +kernel) (by decide +kernel)
set_option maxRecDepth 20000 in
theorem gX3_accept_X3_peek : GoodIn wsX3_accept (wsV RX3 28 RX3 yX3_peek wsX3_peek) := goodIn_app (goodIn_of _ (by decide +kernel)) ggX3_accept_X3_peek
theorem dX3_accept_0 : decode cX3_accept 0 = .ok (.aload_n 0, 1) := by decide +kernel
theorem dX3_accept_1 : decode cX3_accept 1 = .ok (.invokevirtual 28, 3) := by decide +kernel
theorem dX3_accept_4 : decode cX3_accept 4 = .ok (.iload_n 1, 1) := by decide +kernel
theorem dX3_accept_5 : decode cX3_accept 5 = .ok (.if_icmp .eq 5, 3) := by decide +kernel
theorem dX3_accept_8 : decode cX3_accept 8 = .ok (.iconst 0, 1) := by decide +kernel
theorem dX3_accept_9 : decode cX3_accept 9 = .ok (.ireturn, 1) := by decide +kernel
theorem dX3_accept_10 : decode cX3_accept 10 = .ok (.aload_n 0, 1) := by decide +kernel
theorem dX3_accept_11 : decode cX3_accept 11 = .ok (.dup, 1) := by decide +kernel
theorem dX3_accept_12 : decode cX3_accept 12 = .ok (.getfield 19, 3) := by decide +kernel
theorem dX3_accept_15 : decode cX3_accept 15 = .ok (.iconst 1, 1) := by decide +kernel
theorem dX3_accept_16 : decode cX3_accept 16 = .ok (.iadd, 1) := by decide +kernel
theorem dX3_accept_17 : decode cX3_accept 17 = .ok (.putfield 19, 3) := by decide +kernel
theorem dX3_accept_20 : decode cX3_accept 20 = .ok (.iconst 1, 1) := by decide +kernel
theorem dX3_accept_21 : decode cX3_accept 21 = .ok (.ireturn, 1) := by decide +kernel
set_option maxRecDepth 20000 in
theorem ggX3_readAdjectives_X3_peek : GoodIn wsX3_readAdjectives wsX3_peek := goodIn_r _ [8, 3, 9, 10, 14, 15, 16, 17, 18] (by decide +kernel) (by decide +kernel)
set_option maxRecDepth 20000 in
theorem gX3_readAdjectives_X3_peek : GoodIn wsX3_readAdjectives (wsV RX3 28 RX3 yX3_peek wsX3_peek) := goodIn_app (goodIn_of _ (by decide +kernel)) ggX3_readAdjectives_X3_peek
set_option maxRecDepth 20000 in
theorem ggX3_readAdjectives_X5_isBetween : GoodIn wsX3_readAdjectives wsX5_isBetween := goodIn_r _ [13] (by decide +kernel) (by decide +kernel)
set_option maxRecDepth 20000 in
theorem gX3_readAdjectives_X5_isBetween_n32 : GoodIn wsX3_readAdjectives (wsX5_isBetween) := ggX3_readAdjectives_X5_isBetween
theorem dX3_readAdjectives_0 : decode cX3_readAdjectives 0 = .ok (.aload_n 0, 1) := by decide +kernel
theorem dX3_readAdjectives_1 : decode cX3_readAdjectives 1 = .ok (.iconst 0, 1) := by decide +kernel
theorem dX3_readAdjectives_2 : decode cX3_readAdjectives 2 = .ok (.putfield 22, 3) := by decide +kernel
theorem dX3_readAdjectives_5 : decode cX3_readAdjectives 5 = .ok (.aload_n 0, 1) := by decide +kernel
theorem dX3_readAdjectives_6 : decode cX3_readAdjectives 6 = .ok (.iconst (-1), 1) := by decide +kernel
theorem dX3_readAdjectives_7 : decode cX3_readAdjectives 7 = .ok (.putfield 25, 3) := by decide +kernel
theorem dX3_readAdjectives_10 : decode cX3_readAdjectives 10 = .ok (.iconst 0, 1) := by decide +kernel
theorem dX3_readAdjectives_11 : decode cX3_readAdjectives 11 = .ok (.istore_n 1, 1) := by decide +kernel
theorem dX3_readAdjectives_12 : decode cX3_readAdjectives 12 = .ok (.iload_n 1, 1) := by decide +kernel
theorem dX3_readAdjectives_13 : decode cX3_readAdjectives 13 = .ok (.bipush 24, 2) := by decide +kernel
theorem dX3_readAdjectives_15 : decode cX3_readAdjectives 15 = .ok (.if_icmp .ge 51, 3) := by decide +kernel
theorem dX3_readAdjectives_18 : decode cX3_readAdjectives 18 = .ok (.aload_n 0, 1) := by decide +kernel
theorem dX3_readAdjectives_19 : decode cX3_readAdjectives 19 = .ok (.invokevirtual 28, 3) := by decide +kernel
theorem dX3_readAdjectives_22 : decode cX3_readAdjectives 22 = .ok (.bipush 20, 2) := by decide +kernel
theorem dX3_readAdjectives_24 : decode cX3_readAdjectives 24 = .ok (.bipush 6, 2) := by decide +kernel
theorem dX3_readAdjectives_26 : decode cX3_readAdjectives 26 = .ok (.invokestatic 32, 3) := by decide +kernel
theorem dX3_readAdjectives_29 : decode cX3_readAdjectives 29 = .ok (.ifCond .eq 37, 3) := by decide +kernel
theorem dX3_readAdjectives_32 : decode cX3_readAdjectives 32 = .ok (.aload_n 0, 1) := by decide +kernel
theorem dX3_readAdjectives_33 : decode cX3_readAdjectives 33 = .ok (.dup, 1) := by decide +kernel
theorem dX3_readAdjectives_34 : decode cX3_readAdjectives 34 = .ok (.getfield 22, 3) := by decide +kernel
theorem dX3_readAdjectives_37 : decode cX3_readAdjectives 37 = .ok (.iconst 1, 1) := by decide +kernel
theorem dX3_readAdjectives_38 : decode cX3_readAdjectives 38 = .ok (.aload_n 0, 1) := by decide +kernel
theorem dX3_readAdjectives_39 : decode cX3_readAdjectives 39 = .ok (.invokevirtual 28, 3) := by decide +kernel
theorem dX3_readAdjectives_42 : decode cX3_readAdjectives 42 = .ok (.bipush 20, 2) := by decide +kernel
theorem dX3_readAdjectives_44 : decode cX3_readAdjectives 44 = .ok (.isub, 1) := by decide +kernel
theorem dX3_readAdjectives_45 : decode cX3_readAdjectives 45 = .ok (.ishl, 1) := by decide +kernel
theorem dX3_readAdjectives_46 : decode cX3_readAdjectives 46 = .ok (.ior, 1) := by decide +kernel
theorem dX3_readAdjectives_47 : decode cX3_readAdjectives 47 = .ok (.putfield 22, 3) := by decide +kernel
theorem dX3_readAdjectives_50 : decode cX3_readAdjectives 50 = .ok (.aload_n 0, 1) := by decide +kernel
theorem dX3_readAdjectives_51 : decode cX3_readAdjectives 51 = .ok (.dup, 1) := by decide +kernel
theorem dX3_readAdjectives_52 : decode cX3_readAdjectives 52 = .ok (.getfield 19, 3) := by decide +kernel
theorem dX3_readAdjectives_55 : decode cX3_readAdjectives 55 = .ok (.iconst 1, 1) := by decide +kernel
theorem dX3_readAdjectives_56 : decode cX3_readAdjectives 56 = .ok (.iadd, 1) := by decide +kernel
theorem dX3_readAdjectives_57 : decode cX3_readAdjectives 57 = .ok (.putfield 19, 3) := by decide +kernel
theorem dX3_readAdjectives_60 : decode cX3_readAdjectives 60 = .ok (.iinc 1 1, 3) := by decide +kernel
theorem dX3_readAdjectives_63 : decode cX3_readAdjectives 63 = .ok (.goto (-51), 3) := by decide +kernel
theorem dX3_readAdjectives_66 : decode cX3_readAdjectives 66 = .ok (.return_, 1) := by decide +kernel
set_option maxRecDepth 20000 in
theorem ggX3_acceptNoun_X3_peek : GoodIn wsX3_acceptNoun wsX3_peek := goodIn_r _ [7, 2, 8, 9, 13, 14, 15, 16, 17] (by decide +kernel) (by decide +kernel)
set_option maxRecDepth 20000 in
theorem gX3_acceptNoun_X3_peek : GoodIn wsX3_acceptNoun (wsV RX3 28 RX3 yX3_peek wsX3_peek) := goodIn_app (goodIn_of _ (by decide +kernel)) ggX3_acceptNoun_X3_peek
set_option maxRecDepth 20000 in
theorem ggX3_acceptNoun_X5_isBetween : GoodIn wsX3_acceptNoun wsX5_isBetween := goodIn_r _ [12] (by decide +kernel) (by decide +kernel)
set_option maxRecDepth 20000 in
theorem gX3_acceptNoun_X5_isBetween_n32 : GoodIn wsX3_acceptNoun (wsX5_isBetween) := ggX3_acceptNoun_X5_isBetween
theorem dX3_acceptNoun_0 : decode cX3_acceptNoun 0 = .ok (.aload_n 0, 1) := by decide +kernel
theorem dX3_acceptNoun_1 : decode cX3_acceptNoun 1 = .ok (.invokevirtual 28, 3) := by decide +kernel
theorem dX3_acceptNoun_4 : decode cX3_acceptNoun 4 = .ok (.iload_n 1, 1) := by decide +kernel
theorem dX3_acceptNoun_5 : decode cX3_acceptNoun 5 = .ok (.bipush 8, 2) := by decide +kernel
theorem dX3_acceptNoun_7 : decode cX3_acceptNoun 7 = .ok (.invokestatic 32, 3) := by decide +kernel
theorem dX3_acceptNoun_10 : decode cX3_acceptNoun 10 = .ok (.ifCond .ne 5, 3) := by decide +kernel
theorem dX3_acceptNoun_13 : decode cX3_acceptNoun 13 = .ok (.iconst 0, 1) := by decide +kernel
theorem dX3_acceptNoun_14 : decode cX3_acceptNoun 14 = .ok (.ireturn, 1) := by decide +kernel
theorem dX3_acceptNoun_15 : decode cX3_acceptNoun 15 = .ok (.aload_n 0, 1) := by decide +kernel
theorem dX3_acceptNoun_16 : decode cX3_acceptNoun 16 = .ok (.aload_n 0, 1) := by decide +kernel
theorem dX3_acceptNoun_17 : decode cX3_acceptNoun 17 = .ok (.invokevirtual 28, 3) := by decide +kernel
theorem dX3_acceptNoun_20 : decode cX3_acceptNoun 20 = .ok (.iload_n 1, 1) := by decide +kernel
theorem dX3_acceptNoun_21 : decode cX3_acceptNoun 21 = .ok (.isub, 1) := by decide +kernel
theorem dX3_acceptNoun_22 : decode cX3_acceptNoun 22 = .ok (.putfield 25, 3) := by decide +kernel
theorem dX3_acceptNoun_25 : decode cX3_acceptNoun 25 = .ok (.aload_n 0, 1) := by decide +kernel
theorem dX3_acceptNoun_26 : decode cX3_acceptNoun 26 = .ok (.dup, 1) := by decide +kernel
theorem dX3_acceptNoun_27 : decode cX3_acceptNoun 27 = .ok (.getfield 19, 3) := by decide +kernel
theorem dX3_acceptNoun_30 : decode cX3_acceptNoun 30 = .ok (.iconst 1, 1) := by decide +kernel
theorem dX3_acceptNoun_31 : decode cX3_acceptNoun 31 = .ok (.iadd, 1) := by decide +kernel
theorem dX3_acceptNoun_32 : decode cX3_acceptNoun 32 = .ok (.putfield 19, 3) := by decide +kernel
theorem dX3_acceptNoun_35 : decode cX3_acceptNoun 35 = .ok (.iconst 1, 1) := by decide +kernel
theorem dX3_acceptNoun_36 : decode cX3_acceptNoun 36 = .ok (.ireturn, 1) := by decide +kernel
set_option maxRecDepth 20000 in
theorem ggX3_readAnswer_X3_accept : GoodIn wsX3_readAnswer wsX3_accept := goodIn_r _ [6, 7, 8, 9, 10, 5, 11, 12, 13, 30, 31, 32, 33, 34] (by decide +kernel) (by decide +kernel)
set_option maxRecDepth 20000 in
theorem gX3_readAnswer_X3_accept : GoodIn wsX3_readAnswer (wsV RX3 36 RX3 yX3_accept wsX3_accept) := goodIn_app (goodIn_of _ (by decide +kernel)) ggX3_readAnswer_X3_accept
set_option maxRecDepth 20000 in
theorem ggX3_readAnswer_X3_readAdjectives : GoodIn wsX3_readAnswer wsX3_readAdjectives := goodIn_r _ [17, 1, 18, 7, 8, 9, 10, 5, 11, 12, 13, 19, 20, 21, 30, 31, 32, 33, 34] (by decide +kernel) (by decide +kernel)
set_option maxRecDepth 20000 in
theorem gX3_readAnswer_X3_readAdjectives : GoodIn wsX3_readAnswer (wsV RX3 40 RX3 yX3_readAdjectives wsX3_readAdjectives) := goodIn_app (goodIn_of _ (by decide +kernel)) ggX3_readAnswer_X3_readAdjectives
set_option maxRecDepth 20000 in
theorem ggX3_readAnswer_X3_acceptNoun : GoodIn wsX3_readAnswer wsX3_acceptNoun := goodIn_r _ [25, 18, 7, 8, 9, 10, 5, 11, 12, 13, 19, 20, 21, 30, 31, 32, 33, 34] (by decide +kernel) (by decide +kernel)
set_option maxRecDepth 20000 in
theorem gX3_readAnswer_X3_acceptNoun : GoodIn wsX3_readAnswer (wsV RX3 43 RX3 yX3_acceptNoun wsX3_acceptNoun) := goodIn_app (goodIn_of _ (by decide +kernel)) ggX3_readAnswer_X3_acceptNoun
set_option maxRecDepth 20000 in
theorem ggX3_readAnswer_X3_atEnd : GoodIn wsX3_readAnswer wsX3_atEnd := goodIn_r _ [29, 7, 12, 30, 31, 32, 33, 34] (by decide +kernel) (by decide +kernel)
set_option maxRecDepth 20000 in
theorem gX3_readAnswer_X3_atEnd : GoodIn wsX3_readAnswer (wsV RX3 46 RX3 yX3_atEnd wsX3_atEnd) := goodIn_app (goodIn_of _ (by decide +kernel)) ggX3_readAnswer_X3_atEnd
theorem dX3_readAnswer_0 : decode cX3_readAnswer 0 = .ok (.aload_n 0, 1) := by decide +kernel
theorem dX3_readAnswer_1 : decode cX3_readAnswer 1 = .ok (.bipush 10, 2) := by decide +kernel
theorem dX3_readAnswer_3 : decode cX3_readAnswer 3 = .ok (.invokevirtual 36, 3) := by decide +kernel
theorem dX3_readAnswer_6 : decode cX3_readAnswer 6 = .ok (.pop, 1) := by decide +kernel
theorem dX3_readAnswer_7 : decode cX3_readAnswer 7 = .ok (.aload_n 0, 1) := by decide +kernel
theorem dX3_readAnswer_8 : decode cX3_readAnswer 8 = .ok (.invokevirtual 40, 3) := by decide +kernel
theorem dX3_readAnswer_11 : decode cX3_readAnswer 11 = .ok (.aload_n 0, 1) := by decide +kernel
theorem dX3_readAnswer_12 : decode cX3_readAnswer 12 = .ok (.bipush 30, 2) := by decide +kernel
theorem dX3_readAnswer_14 : decode cX3_readAnswer 14 = .ok (.invokevirtual 43, 3) := by decide +kernel
theorem dX3_readAnswer_17 : decode cX3_readAnswer 17 = .ok (.ifCond .ne 12, 3) := by decide +kernel
theorem dX3_readAnswer_20 : decode cX3_readAnswer 20 = .ok (.aload_n 0, 1) := by decide +kernel
theorem dX3_readAnswer_21 : decode cX3_readAnswer 21 = .ok (.bipush 17, 2) := by decide +kernel
theorem dX3_readAnswer_23 : decode cX3_readAnswer 23 = .ok (.invokevirtual 36, 3) := by decide +kernel
theorem dX3_readAnswer_26 : decode cX3_readAnswer 26 = .ok (.ifCond .eq 7, 3) := by decide +kernel
theorem dX3_readAnswer_29 : decode cX3_readAnswer 29 = .ok (.iconst 1, 1) := by decide +kernel
theorem dX3_readAnswer_30 : decode cX3_readAnswer 30 = .ok (.goto 4, 3) := by decide +kernel
theorem dX3_readAnswer_33 : decode cX3_readAnswer 33 = .ok (.iconst 0, 1) := by decide +kernel
theorem dX3_readAnswer_34 : decode cX3_readAnswer 34 = .ok (.istore_n 1, 1) := by decide +kernel
theorem dX3_readAnswer_35 : decode cX3_readAnswer 35 = .ok (.aload_n 0, 1) := by decide +kernel
theorem dX3_readAnswer_36 : decode cX3_readAnswer 36 = .ok (.invokevirtual 46, 3) := by decide +kernel
theorem dX3_readAnswer_39 : decode cX3_readAnswer 39 = .ok (.ifCond .eq 18, 3) := by decide +kernel
theorem dX3_readAnswer_42 : decode cX3_readAnswer 42 = .ok (.iload_n 1, 1) := by decide +kernel
theorem dX3_readAnswer_43 : decode cX3_readAnswer 43 = .ok (.ifCond .ne 10, 3) := by decide +kernel
theorem dX3_readAnswer_46 : decode cX3_readAnswer 46 = .ok (.aload_n 0, 1) := by decide +kernel
theorem dX3_readAnswer_47 : decode cX3_readAnswer 47 = .ok (.getfield 22, 3) := by decide +kernel
theorem dX3_readAnswer_50 : decode cX3_readAnswer 50 = .ok (.ifCond .eq 7, 3) := by decide +kernel
theorem dX3_readAnswer_53 : decode cX3_readAnswer 53 = .ok (.iconst 1, 1) := by decide +kernel
theorem dX3_readAnswer_54 : decode cX3_readAnswer 54 = .ok (.goto 4, 3) := by decide +kernel
theorem dX3_readAnswer_57 : decode cX3_readAnswer 57 = .ok (.iconst 0, 1) := by decide +kernel
theorem dX3_readAnswer_58 : decode cX3_readAnswer 58 = .ok (.ireturn, 1) := by decide +kernel
theorem dX4_init_0 : decode cX4_init 0 = .ok (.aload_n 0, 1) := by decide +kernel
theorem dX4_init_1 : decode cX4_init 1 = .ok (.invokespecial 3, 3) := by decide +kernel
theorem dX4_init_4 : decode cX4_init 4 = .ok (.aload_n 0, 1) := by decide +kernel
theorem dX4_init_5 : decode cX4_init 5 = .ok (.bipush 12, 2) := by decide +kernel
theorem dX4_init_7 : decode cX4_init 7 = .ok (.newarray .int, 2) := by decide +kernel
theorem dX4_init_9 : decode cX4_init 9 = .ok (.putfield 9, 3) := by decide +kernel
theorem dX4_init_12 : decode cX4_init 12 = .ok (.aload_n 0, 1) := by decide +kernel
theorem dX4_init_13 : decode cX4_init 13 = .ok (.bipush 12, 2) := by decide +kernel
theorem dX4_init_15 : decode cX4_init 15 = .ok (.newarray .int, 2) := by decide +kernel
theorem dX4_init_17 : decode cX4_init 17 = .ok (.putfield 15, 3) := by decide +kernel
theorem dX4_init_20 : decode cX4_init 20 = .ok (.aload_n 0, 1) := by decide +kernel
theorem dX4_init_21 : decode cX4_init 21 = .ok (.bipush 12, 2) := by decide +kernel
theorem dX4_init_23 : decode cX4_init 23 = .ok (.newarray .int, 2) := by decide +kernel
theorem dX4_init_25 : decode cX4_init 25 = .ok (.putfield 18, 3) := by decide +kernel
theorem dX4_init_28 : decode cX4_init 28 = .ok (.aload_n 0, 1) := by decide +kernel
theorem dX4_init_29 : decode cX4_init 29 = .ok (.iconst 0, 1) := by decide +kernel
theorem dX4_init_30 : decode cX4_init 30 = .ok (.putfield 21, 3) := by decide +kernel
theorem dX4_init_33 : decode cX4_init 33 = .ok (.aload_n 0, 1) := by decide +kernel
theorem dX4_init_34 : decode cX4_init 34 = .ok (.iconst 0, 1) := by decide +kernel
theorem dX4_init_35 : decode cX4_init 35 = .ok (.putfield 25, 3) := by decide +kernel
theorem dX4_init_38 : decode cX4_init 38 = .ok (.aload_n 0, 1) := by decide +kernel
theorem dX4_init_39 : decode cX4_init 39 = .ok (.iconst 0, 1) := by decide +kernel
theorem dX4_init_40 : decode cX4_init 40 = .ok (.putfield 28, 3) := by decide +kernel
theorem dX4_init_43 : decode cX4_init 43 = .ok (.return_, 1) := by decide +kernel
theorem dX4_add_0 : decode cX4_add 0 = .ok (.aload_n 0, 1) := by decide +kernel
theorem dX4_add_1 : decode cX4_add 1 = .ok (.getfield 21, 3) := by decide +kernel
theorem dX4_add_4 : decode cX4_add 4 = .ok (.istore 4, 2) := by decide +kernel
theorem dX4_add_6 : decode cX4_add 6 = .ok (.iload 4, 2) := by decide +kernel
theorem dX4_add_8 : decode cX4_add 8 = .ok (.ifCond .lt 10, 3) := by decide +kernel
theorem dX4_add_11 : decode cX4_add 11 = .ok (.iload 4, 2) := by decide +kernel
theorem dX4_add_13 : decode cX4_add 13 = .ok (.bipush 12, 2) := by decide +kernel
theorem dX4_add_15 : decode cX4_add 15 = .ok (.if_icmp .lt 5, 3) := by decide +kernel
theorem dX4_add_18 : decode cX4_add 18 = .ok (.iconst (-1), 1) := by decide +kernel
theorem dX4_add_19 : decode cX4_add 19 = .ok (.ireturn, 1) := by decide +kernel
theorem dX4_add_20 : decode cX4_add 20 = .ok (.aload_n 0, 1) := by decide +kernel
theorem dX4_add_21 : decode cX4_add 21 = .ok (.getfield 9, 3) := by decide +kernel
theorem dX4_add_24 : decode cX4_add 24 = .ok (.iload 4, 2) := by decide +kernel
theorem dX4_add_26 : decode cX4_add 26 = .ok (.iload_n 1, 1) := by decide +kernel
theorem dX4_add_27 : decode cX4_add 27 = .ok (.iastore, 1) := by decide +kernel
theorem dX4_add_28 : decode cX4_add 28 = .ok (.aload_n 0, 1) := by decide +kernel
theorem dX4_add_29 : decode cX4_add 29 = .ok (.getfield 15, 3) := by decide +kernel
theorem dX4_add_32 : decode cX4_add 32 = .ok (.iload 4, 2) := by decide +kernel
theorem dX4_add_34 : decode cX4_add 34 = .ok (.iload_n 2, 1) := by decide +kernel
theorem dX4_add_35 : decode cX4_add 35 = .ok (.iastore, 1) := by decide +kernel
theorem dX4_add_36 : decode cX4_add 36 = .ok (.aload_n 0, 1) := by decide +kernel
theorem dX4_add_37 : decode cX4_add 37 = .ok (.getfield 18, 3) := by decide +kernel
theorem dX4_add_40 : decode cX4_add 40 = .ok (.iload 4, 2) := by decide +kernel
theorem dX4_add_42 : decode cX4_add 42 = .ok (.bipush (-2), 2) := by decide +kernel
theorem dX4_add_44 : decode cX4_add 44 = .ok (.iastore, 1) := by decide +kernel
theorem dX4_add_45 : decode cX4_add 45 = .ok (.iload_n 3, 1) := by decide +kernel
theorem dX4_add_46 : decode cX4_add 46 = .ok (.ifCond .eq 16, 3) := by decide +kernel
theorem dX4_add_49 : decode cX4_add 49 = .ok (.aload_n 0, 1) := by decide +kernel
theorem dX4_add_50 : decode cX4_add 50 = .ok (.dup, 1) := by decide +kernel
theorem dX4_add_51 : decode cX4_add 51 = .ok (.getfield 25, 3) := by decide +kernel
theorem dX4_add_54 : decode cX4_add 54 = .ok (.iconst 1, 1) := by decide +kernel
theorem dX4_add_55 : decode cX4_add 55 = .ok (.iload 4, 2) := by decide +kernel
theorem dX4_add_57 : decode cX4_add 57 = .ok (.ishl, 1) := by decide +kernel
theorem dX4_add_58 : decode cX4_add 58 = .ok (.ior, 1) := by decide +kernel
theorem dX4_add_59 : decode cX4_add 59 = .ok (.putfield 25, 3) := by decide +kernel
theorem dX4_add_62 : decode cX4_add 62 = .ok (.aload_n 0, 1) := by decide +kernel
theorem dX4_add_63 : decode cX4_add 63 = .ok (.dup, 1) := by decide +kernel
theorem dX4_add_64 : decode cX4_add 64 = .ok (.getfield 21, 3) := by decide +kernel
theorem dX4_add_67 : decode cX4_add 67 = .ok (.iconst 1, 1) := by decide +kernel
theorem dX4_add_68 : decode cX4_add 68 = .ok (.iadd, 1) := by decide +kernel
theorem dX4_add_69 : decode cX4_add 69 = .ok (.putfield 21, 3) := by decide +kernel
theorem dX4_add_72 : decode cX4_add 72 = .ok (.iload 4, 2) := by decide +kernel
theorem dX4_add_74 : decode cX4_add 74 = .ok (.ireturn, 1) := by decide +kernel
theorem dX4_has_0 : decode cX4_has 0 = .ok (.iload_n 1, 1) := by decide +kernel
theorem dX4_has_1 : decode cX4_has 1 = .ok (.ifCond .lt 21, 3) := by decide +kernel
theorem dX4_has_4 : decode cX4_has 4 = .ok (.iload_n 1, 1) := by decide +kernel
theorem dX4_has_5 : decode cX4_has 5 = .ok (.aload_n 0, 1) := by decide +kernel
theorem dX4_has_6 : decode cX4_has 6 = .ok (.getfield 21, 3) := by decide +kernel
theorem dX4_has_9 : decode cX4_has 9 = .ok (.if_icmp .ge 13, 3) := by decide +kernel
theorem dX4_has_12 : decode cX4_has 12 = .ok (.iload_n 1, 1) := by decide +kernel
theorem dX4_has_13 : decode cX4_has 13 = .ok (.bipush 12, 2) := by decide +kernel
theorem dX4_has_15 : decode cX4_has 15 = .ok (.if_icmp .ge 7, 3) := by decide +kernel
theorem dX4_has_18 : decode cX4_has 18 = .ok (.iconst 1, 1) := by decide +kernel
theorem dX4_has_19 : decode cX4_has 19 = .ok (.goto 4, 3) := by decide +kernel
theorem dX4_has_22 : decode cX4_has 22 = .ok (.iconst 0, 1) := by decide +kernel
theorem dX4_has_23 : decode cX4_has 23 = .ok (.ireturn, 1) := by decide +kernel
theorem dX4_holderOf_0 : decode cX4_holderOf 0 = .ok (.iload_n 1, 1) := by decide +kernel
theorem dX4_holderOf_1 : decode cX4_holderOf 1 = .ok (.ifCond .lt 26, 3) := by decide +kernel
theorem dX4_holderOf_4 : decode cX4_holderOf 4 = .ok (.iload_n 1, 1) := by decide +kernel
theorem dX4_holderOf_5 : decode cX4_holderOf 5 = .ok (.aload_n 0, 1) := by decide +kernel
theorem dX4_holderOf_6 : decode cX4_holderOf 6 = .ok (.getfield 21, 3) := by decide +kernel
theorem dX4_holderOf_9 : decode cX4_holderOf 9 = .ok (.if_icmp .ge 18, 3) := by decide +kernel
theorem dX4_holderOf_12 : decode cX4_holderOf 12 = .ok (.iload_n 1, 1) := by decide +kernel
theorem dX4_holderOf_13 : decode cX4_holderOf 13 = .ok (.bipush 12, 2) := by decide +kernel
theorem dX4_holderOf_15 : decode cX4_holderOf 15 = .ok (.if_icmp .ge 12, 3) := by decide +kernel
theorem dX4_holderOf_18 : decode cX4_holderOf 18 = .ok (.aload_n 0, 1) := by decide +kernel
theorem dX4_holderOf_19 : decode cX4_holderOf 19 = .ok (.getfield 18, 3) := by decide +kernel
theorem dX4_holderOf_22 : decode cX4_holderOf 22 = .ok (.iload_n 1, 1) := by decide +kernel
theorem dX4_holderOf_23 : decode cX4_holderOf 23 = .ok (.iaload, 1) := by decide +kernel
theorem dX4_holderOf_24 : decode cX4_holderOf 24 = .ok (.goto 5, 3) := by decide +kernel
theorem dX4_holderOf_27 : decode cX4_holderOf 27 = .ok (.bipush (-2), 2) := by decide +kernel
theorem dX4_holderOf_29 : decode cX4_holderOf 29 = .ok (.ireturn, 1) := by decide +kernel
set_option maxRecDepth 20000 in
theorem ggX4_reachable_X4_holderOf : GoodIn wsX4_reachable wsX4_holderOf := goodIn_r _ [7, 1, 8, 12, 13, 14, 15, 16, 17] (by decide +kernel) (by decide +kernel)
set_option maxRecDepth 20000 in
theorem gX4_reachable_X4_holderOf : GoodIn wsX4_reachable (wsV RX4 31 RX4 yX4_holderOf wsX4_holderOf) := goodIn_app (goodIn_of _ (by decide +kernel)) ggX4_reachable_X4_holderOf
set_option maxRecDepth 20000 in
theorem ggX4_reachable_X5_contains : GoodIn wsX4_reachable wsX5_contains := goodIn_r _ [11] (by decide +kernel) (by decide +kernel)
set_option maxRecDepth 20000 in
theorem gX4_reachable_X5_contains_n35 : GoodIn wsX4_reachable (wsX5_contains) := ggX4_reachable_X5_contains
theorem dX4_reachable_0 : decode cX4_reachable 0 = .ok (.iconst 0, 1) := by decide +kernel
theorem dX4_reachable_1 : decode cX4_reachable 1 = .ok (.istore_n 1, 1) := by decide +kernel
theorem dX4_reachable_2 : decode cX4_reachable 2 = .ok (.iconst 0, 1) := by decide +kernel
theorem dX4_reachable_3 : decode cX4_reachable 3 = .ok (.istore_n 2, 1) := by decide +kernel
theorem dX4_reachable_4 : decode cX4_reachable 4 = .ok (.iload_n 2, 1) := by decide +kernel
theorem dX4_reachable_5 : decode cX4_reachable 5 = .ok (.aload_n 0, 1) := by decide +kernel
theorem dX4_reachable_6 : decode cX4_reachable 6 = .ok (.getfield 21, 3) := by decide +kernel
theorem dX4_reachable_9 : decode cX4_reachable 9 = .ok (.if_icmp .ge 58, 3) := by decide +kernel
theorem dX4_reachable_12 : decode cX4_reachable 12 = .ok (.aload_n 0, 1) := by decide +kernel
theorem dX4_reachable_13 : decode cX4_reachable 13 = .ok (.iload_n 2, 1) := by decide +kernel
theorem dX4_reachable_14 : decode cX4_reachable 14 = .ok (.invokevirtual 31, 3) := by decide +kernel
theorem dX4_reachable_17 : decode cX4_reachable 17 = .ok (.istore_n 3, 1) := by decide +kernel
theorem dX4_reachable_18 : decode cX4_reachable 18 = .ok (.iconst 0, 1) := by decide +kernel
theorem dX4_reachable_19 : decode cX4_reachable 19 = .ok (.istore 4, 2) := by decide +kernel
theorem dX4_reachable_21 : decode cX4_reachable 21 = .ok (.iload 4, 2) := by decide +kernel
theorem dX4_reachable_23 : decode cX4_reachable 23 = .ok (.bipush 12, 2) := by decide +kernel
theorem dX4_reachable_25 : decode cX4_reachable 25 = .ok (.if_icmp .ge 26, 3) := by decide +kernel
theorem dX4_reachable_28 : decode cX4_reachable 28 = .ok (.aload_n 0, 1) := by decide +kernel
theorem dX4_reachable_29 : decode cX4_reachable 29 = .ok (.getfield 28, 3) := by decide +kernel
theorem dX4_reachable_32 : decode cX4_reachable 32 = .ok (.iload_n 3, 1) := by decide +kernel
theorem dX4_reachable_33 : decode cX4_reachable 33 = .ok (.invokestatic 35, 3) := by decide +kernel
theorem dX4_reachable_36 : decode cX4_reachable 36 = .ok (.ifCond .eq 15, 3) := by decide +kernel
theorem dX4_reachable_39 : decode cX4_reachable 39 = .ok (.aload_n 0, 1) := by decide +kernel
theorem dX4_reachable_40 : decode cX4_reachable 40 = .ok (.iload_n 3, 1) := by decide +kernel
theorem dX4_reachable_41 : decode cX4_reachable 41 = .ok (.invokevirtual 31, 3) := by decide +kernel
theorem dX4_reachable_44 : decode cX4_reachable 44 = .ok (.istore_n 3, 1) := by decide +kernel
theorem dX4_reachable_45 : decode cX4_reachable 45 = .ok (.iinc 4 1, 3) := by decide +kernel
theorem dX4_reachable_48 : decode cX4_reachable 48 = .ok (.goto (-27), 3) := by decide +kernel
theorem dX4_reachable_51 : decode cX4_reachable 51 = .ok (.iload_n 3, 1) := by decide +kernel
theorem dX4_reachable_52 : decode cX4_reachable 52 = .ok (.ifCond .ge 9, 3) := by decide +kernel
theorem dX4_reachable_55 : decode cX4_reachable 55 = .ok (.iload_n 1, 1) := by decide +kernel
theorem dX4_reachable_56 : decode cX4_reachable 56 = .ok (.iconst 1, 1) := by decide +kernel
theorem dX4_reachable_57 : decode cX4_reachable 57 = .ok (.iload_n 2, 1) := by decide +kernel
theorem dX4_reachable_58 : decode cX4_reachable 58 = .ok (.ishl, 1) := by decide +kernel
theorem dX4_reachable_59 : decode cX4_reachable 59 = .ok (.ior, 1) := by decide +kernel
theorem dX4_reachable_60 : decode cX4_reachable 60 = .ok (.istore_n 1, 1) := by decide +kernel
theorem dX4_reachable_61 : decode cX4_reachable 61 = .ok (.iinc 2 1, 3) := by decide +kernel
theorem dX4_reachable_64 : decode cX4_reachable 64 = .ok (.goto (-60), 3) := by decide +kernel
theorem dX4_reachable_67 : decode cX4_reachable 67 = .ok (.iload_n 1, 1) := by decide +kernel
theorem dX4_reachable_68 : decode cX4_reachable 68 = .ok (.ireturn, 1) := by decide +kernel
theorem dX4_described_0 : decode cX4_described 0 = .ok (.iconst 0, 1) := by decide +kernel
theorem dX4_described_1 : decode cX4_described 1 = .ok (.istore 4, 2) := by decide +kernel
theorem dX4_described_3 : decode cX4_described 3 = .ok (.iconst 0, 1) := by decide +kernel
theorem dX4_described_4 : decode cX4_described 4 = .ok (.istore 5, 2) := by decide +kernel
theorem dX4_described_6 : decode cX4_described 6 = .ok (.iload 5, 2) := by decide +kernel
theorem dX4_described_8 : decode cX4_described 8 = .ok (.aload_n 0, 1) := by decide +kernel
theorem dX4_described_9 : decode cX4_described 9 = .ok (.getfield 21, 3) := by decide +kernel
theorem dX4_described_12 : decode cX4_described 12 = .ok (.if_icmp .ge 76, 3) := by decide +kernel
theorem dX4_described_15 : decode cX4_described 15 = .ok (.iload 5, 2) := by decide +kernel
theorem dX4_described_17 : decode cX4_described 17 = .ok (.bipush 12, 2) := by decide +kernel
theorem dX4_described_19 : decode cX4_described 19 = .ok (.if_icmp .ge 69, 3) := by decide +kernel
theorem dX4_described_22 : decode cX4_described 22 = .ok (.iload_n 3, 1) := by decide +kernel
theorem dX4_described_23 : decode cX4_described 23 = .ok (.iconst (-1), 1) := by decide +kernel
theorem dX4_described_24 : decode cX4_described 24 = .ok (.if_icmp .eq 14, 3) := by decide +kernel
theorem dX4_described_27 : decode cX4_described 27 = .ok (.aload_n 0, 1) := by decide +kernel
theorem dX4_described_28 : decode cX4_described 28 = .ok (.getfield 9, 3) := by decide +kernel
theorem dX4_described_31 : decode cX4_described 31 = .ok (.iload 5, 2) := by decide +kernel
theorem dX4_described_33 : decode cX4_described 33 = .ok (.iaload, 1) := by decide +kernel
theorem dX4_described_34 : decode cX4_described 34 = .ok (.iload_n 3, 1) := by decide +kernel
theorem dX4_described_35 : decode cX4_described 35 = .ok (.if_icmp .ne 7, 3) := by decide +kernel
theorem dX4_described_38 : decode cX4_described 38 = .ok (.iconst 1, 1) := by decide +kernel
theorem dX4_described_39 : decode cX4_described 39 = .ok (.goto 4, 3) := by decide +kernel
theorem dX4_described_42 : decode cX4_described 42 = .ok (.iconst 0, 1) := by decide +kernel
theorem dX4_described_43 : decode cX4_described 43 = .ok (.istore 6, 2) := by decide +kernel
theorem dX4_described_45 : decode cX4_described 45 = .ok (.iload_n 1, 1) := by decide +kernel
theorem dX4_described_46 : decode cX4_described 46 = .ok (.iload 5, 2) := by decide +kernel
theorem dX4_described_48 : decode cX4_described 48 = .ok (.ishr, 1) := by decide +kernel
theorem dX4_described_49 : decode cX4_described 49 = .ok (.iconst 1, 1) := by decide +kernel
theorem dX4_described_50 : decode cX4_described 50 = .ok (.iand, 1) := by decide +kernel
theorem dX4_described_51 : decode cX4_described 51 = .ok (.ifCond .eq 31, 3) := by decide +kernel
theorem dX4_described_54 : decode cX4_described 54 = .ok (.iload 6, 2) := by decide +kernel
theorem dX4_described_56 : decode cX4_described 56 = .ok (.ifCond .eq 26, 3) := by decide +kernel
theorem dX4_described_59 : decode cX4_described 59 = .ok (.iload_n 2, 1) := by decide +kernel
theorem dX4_described_60 : decode cX4_described 60 = .ok (.aload_n 0, 1) := by decide +kernel
theorem dX4_described_61 : decode cX4_described 61 = .ok (.getfield 15, 3) := by decide +kernel
theorem dX4_described_64 : decode cX4_described 64 = .ok (.iload 5, 2) := by decide +kernel
theorem dX4_described_66 : decode cX4_described 66 = .ok (.iaload, 1) := by decide +kernel
theorem dX4_described_67 : decode cX4_described 67 = .ok (.iconst (-1), 1) := by decide +kernel
theorem dX4_described_68 : decode cX4_described 68 = .ok (.ixor, 1) := by decide +kernel
theorem dX4_described_69 : decode cX4_described 69 = .ok (.iand, 1) := by decide +kernel
theorem dX4_described_70 : decode cX4_described 70 = .ok (.ifCond .ne 12, 3) := by decide +kernel
theorem dX4_described_73 : decode cX4_described 73 = .ok (.iload 4, 2) := by decide +kernel
theorem dX4_described_75 : decode cX4_described 75 = .ok (.iconst 1, 1) := by decide +kernel
theorem dX4_described_76 : decode cX4_described 76 = .ok (.iload 5, 2) := by decide +kernel
theorem dX4_described_78 : decode cX4_described 78 = .ok (.ishl, 1) := by decide +kernel
theorem dX4_described_79 : decode cX4_described 79 = .ok (.ior, 1) := by decide +kernel
theorem dX4_described_80 : decode cX4_described 80 = .ok (.istore 4, 2) := by decide +kernel
theorem dX4_described_82 : decode cX4_described 82 = .ok (.iinc 5 1, 3) := by decide +kernel
theorem dX4_described_85 : decode cX4_described 85 = .ok (.goto (-79), 3) := by decide +kernel
theorem dX4_described_88 : decode cX4_described 88 = .ok (.iload 4, 2) := by decide +kernel
theorem dX4_described_90 : decode cX4_described 90 = .ok (.ireturn, 1) := by decide +kernel
set_option maxRecDepth 20000 in
theorem ggX4_suited_X4_reachable : GoodIn wsX4_suited wsX4_reachable := goodIn_r _ [7, 8, 2, 9, 10, 11, 6, 12, 13, 14, 15, 16, 21, 22, 23, 24, 25, 26] (by decide +kernel) (by decide +kernel)
set_option maxRecDepth 20000 in
theorem gX4_suited_X4_reachable : GoodIn wsX4_suited (wsV RX4 39 RX4 yX4_reachable wsX4_reachable) := goodIn_app (goodIn_of _ (by decide +kernel)) ggX4_suited_X4_reachable
set_option maxRecDepth 20000 in
theorem ggX4_suited_X4_held : GoodIn wsX4_suited wsX4_held := goodIn_r _ [20, 8, 13, 21, 22, 23, 24, 25, 26] (by decide +kernel) (by decide +kernel)
set_option maxRecDepth 20000 in
theorem gX4_suited_X4_held : GoodIn wsX4_suited (wsV RX4 43 RX4 yX4_held wsX4_held) := goodIn_app (goodIn_of _ (by decide +kernel)) ggX4_suited_X4_held
theorem dX4_suited_0 : decode cX4_suited 0 = .ok (.aload_n 0, 1) := by decide +kernel
theorem dX4_suited_1 : decode cX4_suited 1 = .ok (.invokevirtual 39, 3) := by decide +kernel
theorem dX4_suited_4 : decode cX4_suited 4 = .ok (.istore_n 2, 1) := by decide +kernel
theorem dX4_suited_5 : decode cX4_suited 5 = .ok (.iload_n 1, 1) := by decide +kernel
theorem dX4_suited_6 : decode cX4_suited 6 = .ok (.tableswitch 119 0 16 #[82, 91, 91, 98, 112, 119, 119, 119, 119, 119, 119, 119, 119, 119, 119, 119, 112], 82) := by decide +kernel
theorem dX4_suited_88 : decode cX4_suited 88 = .ok (.iload_n 2, 1) := by decide +kernel
theorem dX4_suited_89 : decode cX4_suited 89 = .ok (.aload_n 0, 1) := by decide +kernel
theorem dX4_suited_90 : decode cX4_suited 90 = .ok (.invokevirtual 43, 3) := by decide +kernel
theorem dX4_suited_93 : decode cX4_suited 93 = .ok (.iconst (-1), 1) := by decide +kernel
theorem dX4_suited_94 : decode cX4_suited 94 = .ok (.ixor, 1) := by decide +kernel
theorem dX4_suited_95 : decode cX4_suited 95 = .ok (.iand, 1) := by decide +kernel
theorem dX4_suited_96 : decode cX4_suited 96 = .ok (.ireturn, 1) := by decide +kernel
theorem dX4_suited_97 : decode cX4_suited 97 = .ok (.iload_n 2, 1) := by decide +kernel
theorem dX4_suited_98 : decode cX4_suited 98 = .ok (.aload_n 0, 1) := by decide +kernel
theorem dX4_suited_99 : decode cX4_suited 99 = .ok (.invokevirtual 43, 3) := by decide +kernel
theorem dX4_suited_102 : decode cX4_suited 102 = .ok (.iand, 1) := by decide +kernel
theorem dX4_suited_103 : decode cX4_suited 103 = .ok (.ireturn, 1) := by decide +kernel
theorem dX4_suited_104 : decode cX4_suited 104 = .ok (.iload_n 2, 1) := by decide +kernel
theorem dX4_suited_105 : decode cX4_suited 105 = .ok (.aload_n 0, 1) := by decide +kernel
theorem dX4_suited_106 : decode cX4_suited 106 = .ok (.getfield 25, 3) := by decide +kernel
theorem dX4_suited_109 : decode cX4_suited 109 = .ok (.iand, 1) := by decide +kernel
theorem dX4_suited_110 : decode cX4_suited 110 = .ok (.aload_n 0, 1) := by decide +kernel
theorem dX4_suited_111 : decode cX4_suited 111 = .ok (.getfield 28, 3) := by decide +kernel
theorem dX4_suited_114 : decode cX4_suited 114 = .ok (.iconst (-1), 1) := by decide +kernel
theorem dX4_suited_115 : decode cX4_suited 115 = .ok (.ixor, 1) := by decide +kernel
theorem dX4_suited_116 : decode cX4_suited 116 = .ok (.iand, 1) := by decide +kernel
theorem dX4_suited_117 : decode cX4_suited 117 = .ok (.ireturn, 1) := by decide +kernel
theorem dX4_suited_118 : decode cX4_suited 118 = .ok (.iload_n 2, 1) := by decide +kernel
theorem dX4_suited_119 : decode cX4_suited 119 = .ok (.aload_n 0, 1) := by decide +kernel
theorem dX4_suited_120 : decode cX4_suited 120 = .ok (.getfield 28, 3) := by decide +kernel
theorem dX4_suited_123 : decode cX4_suited 123 = .ok (.iand, 1) := by decide +kernel
theorem dX4_suited_124 : decode cX4_suited 124 = .ok (.ireturn, 1) := by decide +kernel
theorem dX4_suited_125 : decode cX4_suited 125 = .ok (.iconst 0, 1) := by decide +kernel
theorem dX4_suited_126 : decode cX4_suited 126 = .ok (.ireturn, 1) := by decide +kernel
theorem dX4_held_0 : decode cX4_held 0 = .ok (.iconst 0, 1) := by decide +kernel
theorem dX4_held_1 : decode cX4_held 1 = .ok (.istore_n 1, 1) := by decide +kernel
theorem dX4_held_2 : decode cX4_held 2 = .ok (.iconst 0, 1) := by decide +kernel
theorem dX4_held_3 : decode cX4_held 3 = .ok (.istore_n 2, 1) := by decide +kernel
theorem dX4_held_4 : decode cX4_held 4 = .ok (.iload_n 2, 1) := by decide +kernel
theorem dX4_held_5 : decode cX4_held 5 = .ok (.aload_n 0, 1) := by decide +kernel
theorem dX4_held_6 : decode cX4_held 6 = .ok (.getfield 21, 3) := by decide +kernel
theorem dX4_held_9 : decode cX4_held 9 = .ok (.if_icmp .ge 32, 3) := by decide +kernel
theorem dX4_held_12 : decode cX4_held 12 = .ok (.iload_n 2, 1) := by decide +kernel
theorem dX4_held_13 : decode cX4_held 13 = .ok (.bipush 12, 2) := by decide +kernel
theorem dX4_held_15 : decode cX4_held 15 = .ok (.if_icmp .ge 26, 3) := by decide +kernel
theorem dX4_held_18 : decode cX4_held 18 = .ok (.aload_n 0, 1) := by decide +kernel
theorem dX4_held_19 : decode cX4_held 19 = .ok (.getfield 18, 3) := by decide +kernel
theorem dX4_held_22 : decode cX4_held 22 = .ok (.iload_n 2, 1) := by decide +kernel
theorem dX4_held_23 : decode cX4_held 23 = .ok (.iaload, 1) := by decide +kernel
theorem dX4_held_24 : decode cX4_held 24 = .ok (.bipush (-3), 2) := by decide +kernel
theorem dX4_held_26 : decode cX4_held 26 = .ok (.if_icmp .ne 9, 3) := by decide +kernel
theorem dX4_held_29 : decode cX4_held 29 = .ok (.iload_n 1, 1) := by decide +kernel
theorem dX4_held_30 : decode cX4_held 30 = .ok (.iconst 1, 1) := by decide +kernel
theorem dX4_held_31 : decode cX4_held 31 = .ok (.iload_n 2, 1) := by decide +kernel
theorem dX4_held_32 : decode cX4_held 32 = .ok (.ishl, 1) := by decide +kernel
theorem dX4_held_33 : decode cX4_held 33 = .ok (.ior, 1) := by decide +kernel
theorem dX4_held_34 : decode cX4_held 34 = .ok (.istore_n 1, 1) := by decide +kernel
theorem dX4_held_35 : decode cX4_held 35 = .ok (.iinc 2 1, 3) := by decide +kernel
theorem dX4_held_38 : decode cX4_held 38 = .ok (.goto (-34), 3) := by decide +kernel
theorem dX4_held_41 : decode cX4_held 41 = .ok (.iload_n 1, 1) := by decide +kernel
theorem dX4_held_42 : decode cX4_held 42 = .ok (.ireturn, 1) := by decide +kernel
set_option maxRecDepth 20000 in
theorem ggX4_perform_X4_has : GoodIn wsX4_perform wsX4_has := goodIn_r _ [7, 8, 33, 34, 35, 36, 37, 38] (by decide +kernel) (by decide +kernel)
set_option maxRecDepth 20000 in
theorem gX4_perform_X4_has : GoodIn wsX4_perform (wsV RX4 46 RX4 yX4_has wsX4_has) := goodIn_app (goodIn_of _ (by decide +kernel)) ggX4_perform_X4_has
set_option maxRecDepth 20000 in
theorem ggX4_perform_X4_suited : GoodIn wsX4_perform wsX4_suited := goodIn_r _ [12, 13, 2, 14, 15, 16, 6, 17, 8, 18, 19, 20, 21, 1, 22, 23, 24, 25, 26, 27, 28, 33, 34, 35, 36, 37, 38] (by decide +kernel) (by decide +kernel)
set_option maxRecDepth 20000 in
theorem gX4_perform_X4_suited : GoodIn wsX4_perform (wsV RX4 50 RX4 yX4_suited wsX4_suited) := goodIn_app (goodIn_of _ (by decide +kernel)) ggX4_perform_X4_suited
set_option maxRecDepth 20000 in
theorem ggX4_perform_X5_contains : GoodIn wsX4_perform wsX5_contains := goodIn_r _ [24] (by decide +kernel) (by decide +kernel)
set_option maxRecDepth 20000 in
theorem gX4_perform_X5_contains_n35 : GoodIn wsX4_perform (wsX5_contains) := ggX4_perform_X5_contains
set_option maxRecDepth 20000 in
theorem ggX4_perform_X4_isWithin : GoodIn wsX4_perform wsX4_isWithin := goodIn_r _ [32, 18, 19, 20, 6, 21, 8, 1, 33, 34, 35, 36, 37, 38] (by decide +kernel) (by decide +kernel)
set_option maxRecDepth 20000 in
theorem gX4_perform_X4_isWithin : GoodIn wsX4_perform (wsV RX4 53 RX4 yX4_isWithin wsX4_isWithin) := goodIn_app (goodIn_of _ (by decide +kernel)) ggX4_perform_X4_isWithin
theorem dX4_perform_0 : decode cX4_perform 0 = .ok (.aload_n 0, 1) := by decide +kernel
theorem dX4_perform_1 : decode cX4_perform 1 = .ok (.iload_n 2, 1) := by decide +kernel
theorem dX4_perform_2 : decode cX4_perform 2 = .ok (.invokevirtual 46, 3) := by decide +kernel
theorem dX4_perform_5 : decode cX4_perform 5 = .ok (.ifCond .eq 15, 3) := by decide +kernel
theorem dX4_perform_8 : decode cX4_perform 8 = .ok (.aload_n 0, 1) := by decide +kernel
theorem dX4_perform_9 : decode cX4_perform 9 = .ok (.iload_n 1, 1) := by decide +kernel
theorem dX4_perform_10 : decode cX4_perform 10 = .ok (.invokevirtual 50, 3) := by decide +kernel
theorem dX4_perform_13 : decode cX4_perform 13 = .ok (.iload_n 2, 1) := by decide +kernel
theorem dX4_perform_14 : decode cX4_perform 14 = .ok (.invokestatic 35, 3) := by decide +kernel
theorem dX4_perform_17 : decode cX4_perform 17 = .ok (.ifCond .ne 5, 3) := by decide +kernel
theorem dX4_perform_20 : decode cX4_perform 20 = .ok (.iconst 0, 1) := by decide +kernel
theorem dX4_perform_21 : decode cX4_perform 21 = .ok (.ireturn, 1) := by decide +kernel
theorem dX4_perform_22 : decode cX4_perform 22 = .ok (.iload_n 1, 1) := by decide +kernel
theorem dX4_perform_23 : decode cX4_perform 23 = .ok (.tableswitch 116 0 4 #[33, 43, 53, 86, 100], 33) := by decide +kernel
theorem dX4_perform_56 : decode cX4_perform 56 = .ok (.aload_n 0, 1) := by decide +kernel
theorem dX4_perform_57 : decode cX4_perform 57 = .ok (.getfield 18, 3) := by decide +kernel
theorem dX4_perform_60 : decode cX4_perform 60 = .ok (.iload_n 2, 1) := by decide +kernel
theorem dX4_perform_61 : decode cX4_perform 61 = .ok (.bipush (-3), 2) := by decide +kernel
theorem dX4_perform_63 : decode cX4_perform 63 = .ok (.iastore, 1) := by decide +kernel
theorem dX4_perform_64 : decode cX4_perform 64 = .ok (.iconst 1, 1) := by decide +kernel
theorem dX4_perform_65 : decode cX4_perform 65 = .ok (.ireturn, 1) := by decide +kernel
theorem dX4_perform_66 : decode cX4_perform 66 = .ok (.aload_n 0, 1) := by decide +kernel
theorem dX4_perform_67 : decode cX4_perform 67 = .ok (.getfield 18, 3) := by decide +kernel
theorem dX4_perform_70 : decode cX4_perform 70 = .ok (.iload_n 2, 1) := by decide +kernel
theorem dX4_perform_71 : decode cX4_perform 71 = .ok (.bipush (-2), 2) := by decide +kernel
theorem dX4_perform_73 : decode cX4_perform 73 = .ok (.iastore, 1) := by decide +kernel
theorem dX4_perform_74 : decode cX4_perform 74 = .ok (.iconst 1, 1) := by decide +kernel
theorem dX4_perform_75 : decode cX4_perform 75 = .ok (.ireturn, 1) := by decide +kernel
theorem dX4_perform_76 : decode cX4_perform 76 = .ok (.aload_n 0, 1) := by decide +kernel
theorem dX4_perform_77 : decode cX4_perform 77 = .ok (.bipush 16, 2) := by decide +kernel
theorem dX4_perform_79 : decode cX4_perform 79 = .ok (.invokevirtual 50, 3) := by decide +kernel
theorem dX4_perform_82 : decode cX4_perform 82 = .ok (.iload_n 3, 1) := by decide +kernel
theorem dX4_perform_83 : decode cX4_perform 83 = .ok (.invokestatic 35, 3) := by decide +kernel
theorem dX4_perform_86 : decode cX4_perform 86 = .ok (.ifCond .eq 12, 3) := by decide +kernel
theorem dX4_perform_89 : decode cX4_perform 89 = .ok (.aload_n 0, 1) := by decide +kernel
theorem dX4_perform_90 : decode cX4_perform 90 = .ok (.iload_n 3, 1) := by decide +kernel
theorem dX4_perform_91 : decode cX4_perform 91 = .ok (.iload_n 2, 1) := by decide +kernel
theorem dX4_perform_92 : decode cX4_perform 92 = .ok (.invokevirtual 53, 3) := by decide +kernel
theorem dX4_perform_95 : decode cX4_perform 95 = .ok (.ifCond .eq 5, 3) := by decide +kernel
theorem dX4_perform_98 : decode cX4_perform 98 = .ok (.iconst 0, 1) := by decide +kernel
theorem dX4_perform_99 : decode cX4_perform 99 = .ok (.ireturn, 1) := by decide +kernel
theorem dX4_perform_100 : decode cX4_perform 100 = .ok (.aload_n 0, 1) := by decide +kernel
theorem dX4_perform_101 : decode cX4_perform 101 = .ok (.getfield 18, 3) := by decide +kernel
theorem dX4_perform_104 : decode cX4_perform 104 = .ok (.iload_n 2, 1) := by decide +kernel
theorem dX4_perform_105 : decode cX4_perform 105 = .ok (.iload_n 3, 1) := by decide +kernel
theorem dX4_perform_106 : decode cX4_perform 106 = .ok (.iastore, 1) := by decide +kernel
theorem dX4_perform_107 : decode cX4_perform 107 = .ok (.iconst 1, 1) := by decide +kernel
theorem dX4_perform_108 : decode cX4_perform 108 = .ok (.ireturn, 1) := by decide +kernel
theorem dX4_perform_109 : decode cX4_perform 109 = .ok (.aload_n 0, 1) := by decide +kernel
theorem dX4_perform_110 : decode cX4_perform 110 = .ok (.dup, 1) := by decide +kernel
theorem dX4_perform_111 : decode cX4_perform 111 = .ok (.getfield 28, 3) := by decide +kernel
theorem dX4_perform_114 : decode cX4_perform 114 = .ok (.iconst 1, 1) := by decide +kernel
theorem dX4_perform_115 : decode cX4_perform 115 = .ok (.iload_n 2, 1) := by decide +kernel
theorem dX4_perform_116 : decode cX4_perform 116 = .ok (.ishl, 1) := by decide +kernel
theorem dX4_perform_117 : decode cX4_perform 117 = .ok (.ior, 1) := by decide +kernel
theorem dX4_perform_118 : decode cX4_perform 118 = .ok (.putfield 28, 3) := by decide +kernel
theorem dX4_perform_121 : decode cX4_perform 121 = .ok (.iconst 1, 1) := by decide +kernel
theorem dX4_perform_122 : decode cX4_perform 122 = .ok (.ireturn, 1) := by decide +kernel
theorem dX4_perform_123 : decode cX4_perform 123 = .ok (.aload_n 0, 1) := by decide +kernel
theorem dX4_perform_124 : decode cX4_perform 124 = .ok (.dup, 1) := by decide +kernel
theorem dX4_perform_125 : decode cX4_perform 125 = .ok (.getfield 28, 3) := by decide +kernel
theorem dX4_perform_128 : decode cX4_perform 128 = .ok (.iconst 1, 1) := by decide +kernel
theorem dX4_perform_129 : decode cX4_perform 129 = .ok (.iload_n 2, 1) := by decide +kernel
theorem dX4_perform_130 : decode cX4_perform 130 = .ok (.ishl, 1) := by decide +kernel
theorem dX4_perform_131 : decode cX4_perform 131 = .ok (.iconst (-1), 1) := by decide +kernel
theorem dX4_perform_132 : decode cX4_perform 132 = .ok (.ixor, 1) := by decide +kernel
theorem dX4_perform_133 : decode cX4_perform 133 = .ok (.iand, 1) := by decide +kernel
theorem dX4_perform_134 : decode cX4_perform 134 = .ok (.putfield 28, 3) := by decide +kernel
theorem dX4_perform_137 : decode cX4_perform 137 = .ok (.iconst 1, 1) := by decide +kernel
theorem dX4_perform_138 : decode cX4_perform 138 = .ok (.ireturn, 1) := by decide +kernel
theorem dX4_perform_139 : decode cX4_perform 139 = .ok (.iconst 0, 1) := by decide +kernel
theorem dX4_perform_140 : decode cX4_perform 140 = .ok (.ireturn, 1) := by decide +kernel
set_option maxRecDepth 20000 in
theorem ggX4_isWithin_X4_holderOf : GoodIn wsX4_isWithin wsX4_holderOf := goodIn_r _ [5, 6, 7, 8, 9, 10, 11, 12, 13] (by decide +kernel) (by decide +kernel)
set_option maxRecDepth 20000 in
theorem gX4_isWithin_X4_holderOf : GoodIn wsX4_isWithin (wsV RX4 31 RX4 yX4_holderOf wsX4_holderOf) := goodIn_app (goodIn_of _ (by decide +kernel)) ggX4_isWithin_X4_holderOf
theorem dX4_isWithin_0 : decode cX4_isWithin 0 = .ok (.iload_n 1, 1) := by decide +kernel
theorem dX4_isWithin_1 : decode cX4_isWithin 1 = .ok (.istore_n 3, 1) := by decide +kernel
theorem dX4_isWithin_2 : decode cX4_isWithin 2 = .ok (.iconst 0, 1) := by decide +kernel
theorem dX4_isWithin_3 : decode cX4_isWithin 3 = .ok (.istore 4, 2) := by decide +kernel
theorem dX4_isWithin_5 : decode cX4_isWithin 5 = .ok (.iload 4, 2) := by decide +kernel
theorem dX4_isWithin_7 : decode cX4_isWithin 7 = .ok (.bipush 12, 2) := by decide +kernel
theorem dX4_isWithin_9 : decode cX4_isWithin 9 = .ok (.if_icmp .ge 24, 3) := by decide +kernel
theorem dX4_isWithin_12 : decode cX4_isWithin 12 = .ok (.iload_n 3, 1) := by decide +kernel
theorem dX4_isWithin_13 : decode cX4_isWithin 13 = .ok (.ifCond .lt 20, 3) := by decide +kernel
theorem dX4_isWithin_16 : decode cX4_isWithin 16 = .ok (.iload_n 3, 1) := by decide +kernel
theorem dX4_isWithin_17 : decode cX4_isWithin 17 = .ok (.iload_n 2, 1) := by decide +kernel
theorem dX4_isWithin_18 : decode cX4_isWithin 18 = .ok (.if_icmp .eq 15, 3) := by decide +kernel
theorem dX4_isWithin_21 : decode cX4_isWithin 21 = .ok (.aload_n 0, 1) := by decide +kernel
theorem dX4_isWithin_22 : decode cX4_isWithin 22 = .ok (.iload_n 3, 1) := by decide +kernel
theorem dX4_isWithin_23 : decode cX4_isWithin 23 = .ok (.invokevirtual 31, 3) := by decide +kernel
theorem dX4_isWithin_26 : decode cX4_isWithin 26 = .ok (.istore_n 3, 1) := by decide +kernel
theorem dX4_isWithin_27 : decode cX4_isWithin 27 = .ok (.iinc 4 1, 3) := by decide +kernel
theorem dX4_isWithin_30 : decode cX4_isWithin 30 = .ok (.goto (-25), 3) := by decide +kernel
theorem dX4_isWithin_33 : decode cX4_isWithin 33 = .ok (.iload_n 3, 1) := by decide +kernel
theorem dX4_isWithin_34 : decode cX4_isWithin 34 = .ok (.iload_n 2, 1) := by decide +kernel
theorem dX4_isWithin_35 : decode cX4_isWithin 35 = .ok (.if_icmp .ne 7, 3) := by decide +kernel
theorem dX4_isWithin_38 : decode cX4_isWithin 38 = .ok (.iconst 1, 1) := by decide +kernel
theorem dX4_isWithin_39 : decode cX4_isWithin 39 = .ok (.goto 4, 3) := by decide +kernel
theorem dX4_isWithin_42 : decode cX4_isWithin 42 = .ok (.iconst 0, 1) := by decide +kernel
theorem dX4_isWithin_43 : decode cX4_isWithin 43 = .ok (.ireturn, 1) := by decide +kernel
set_option maxRecDepth 20000 in
theorem ggX5_init_X4_init : GoodIn wsX5_init wsX4_init := goodIn_r _ [31, 32, 2, 3, 33, 34, 35, 36, 37, 38, 39, 87, 88, 89, 90, 91, 92] (by decide +kernel) (by decide +kernel)
set_option maxRecDepth 20000 in
theorem gX5_init_X4_init : GoodIn wsX5_init (wsX4_init) := ggX5_init_X4_init
set_option maxRecDepth 20000 in
theorem ggX5_init_X3_init : GoodIn wsX5_init wsX3_init := goodIn_r _ [42, 43, 2, 3, 33, 44, 45, 46, 47, 48, 103, 104, 105, 106, 107] (by decide +kernel) (by decide +kernel)
set_option maxRecDepth 20000 in
theorem gX5_init_X3_init : GoodIn wsX5_init (wsX3_init) := ggX5_init_X3_init
set_option maxRecDepth 20000 in
theorem ggX5_init_X2_init : GoodIn wsX5_init wsX2_init := goodIn_r _ [51, 52, 2, 3, 53, 54, 33, 55, 56, 57, 58, 59, 60, 108, 109, 110, 111, 112, 113, 114, 115] (by decide +kernel) (by decide +kernel)
set_option maxRecDepth 20000 in
theorem gX5_init_X2_init : GoodIn wsX5_init (wsX2_init) := ggX5_init_X2_init
set_option maxRecDepth 20000 in
theorem ggX5_init_X1_init : GoodIn wsX5_init wsX1_init := goodIn_r _ [63, 64, 2, 3, 65, 66, 67, 68, 69, 116, 117, 118, 119, 120] (by decide +kernel) (by decide +kernel)
set_option maxRecDepth 20000 in
theorem gX5_init_X1_init : GoodIn wsX5_init (wsX1_init) := ggX5_init_X1_init
set_option maxRecDepth 20000 in
theorem ggX5_init_X0_init : GoodIn wsX5_init wsX0_init := goodIn_r _ [72, 73, 2, 3, 74, 75, 76, 77, 78, 79, 22, 80, 81, 82, 83, 84, 85, 86, 121, 122, 123, 124, 125, 126, 127, 128, 129] (by decide +kernel) (by decide +kernel)
set_option maxRecDepth 20000 in
theorem gX5_init_X0_init : GoodIn wsX5_init (wsX0_init) := ggX5_init_X0_init
theorem dX5_init_0 : decode cX5_init 0 = .ok (.aload_n 0, 1) := by decide +kernel
theorem dX5_init_1 : decode cX5_init 1 = .ok (.invokespecial 3, 3) := by decide +kernel
theorem dX5_init_4 : decode cX5_init 4 = .ok (.aload_n 0, 1) := by decide +kernel
theorem dX5_init_5 : decode cX5_init 5 = .ok (.new 9, 3) := by decide +kernel
theorem dX5_init_8 : decode cX5_init 8 = .ok (.dup, 1) := by decide +kernel
theorem dX5_init_9 : decode cX5_init 9 = .ok (.invokespecial 11, 3) := by decide +kernel
theorem dX5_init_12 : decode cX5_init 12 = .ok (.putfield 12, 3) := by decide +kernel
theorem dX5_init_15 : decode cX5_init 15 = .ok (.aload_n 0, 1) := by decide +kernel
theorem dX5_init_16 : decode cX5_init 16 = .ok (.new 16, 3) := by decide +kernel
theorem dX5_init_19 : decode cX5_init 19 = .ok (.dup, 1) := by decide +kernel
theorem dX5_init_20 : decode cX5_init 20 = .ok (.invokespecial 18, 3) := by decide +kernel
theorem dX5_init_23 : decode cX5_init 23 = .ok (.putfield 19, 3) := by decide +kernel
theorem dX5_init_26 : decode cX5_init 26 = .ok (.aload_n 0, 1) := by decide +kernel
theorem dX5_init_27 : decode cX5_init 27 = .ok (.new 23, 3) := by decide +kernel
theorem dX5_init_30 : decode cX5_init 30 = .ok (.dup, 1) := by decide +kernel
theorem dX5_init_31 : decode cX5_init 31 = .ok (.invokespecial 25, 3) := by decide +kernel
theorem dX5_init_34 : decode cX5_init 34 = .ok (.putfield 26, 3) := by decide +kernel
theorem dX5_init_37 : decode cX5_init 37 = .ok (.aload_n 0, 1) := by decide +kernel
theorem dX5_init_38 : decode cX5_init 38 = .ok (.new 30, 3) := by decide +kernel
theorem dX5_init_41 : decode cX5_init 41 = .ok (.dup, 1) := by decide +kernel
theorem dX5_init_42 : decode cX5_init 42 = .ok (.invokespecial 32, 3) := by decide +kernel
theorem dX5_init_45 : decode cX5_init 45 = .ok (.putfield 33, 3) := by decide +kernel
theorem dX5_init_48 : decode cX5_init 48 = .ok (.aload_n 0, 1) := by decide +kernel
theorem dX5_init_49 : decode cX5_init 49 = .ok (.new 37, 3) := by decide +kernel
theorem dX5_init_52 : decode cX5_init 52 = .ok (.dup, 1) := by decide +kernel
theorem dX5_init_53 : decode cX5_init 53 = .ok (.aload_n 0, 1) := by decide +kernel
theorem dX5_init_54 : decode cX5_init 54 = .ok (.getfield 12, 3) := by decide +kernel
theorem dX5_init_57 : decode cX5_init 57 = .ok (.aload_n 0, 1) := by decide +kernel
theorem dX5_init_58 : decode cX5_init 58 = .ok (.getfield 26, 3) := by decide +kernel
theorem dX5_init_61 : decode cX5_init 61 = .ok (.aload_n 0, 1) := by decide +kernel
theorem dX5_init_62 : decode cX5_init 62 = .ok (.getfield 33, 3) := by decide +kernel
theorem dX5_init_65 : decode cX5_init 65 = .ok (.invokespecial 39, 3) := by decide +kernel
theorem dX5_init_68 : decode cX5_init 68 = .ok (.putfield 42, 3) := by decide +kernel
theorem dX5_init_71 : decode cX5_init 71 = .ok (.aload_n 0, 1) := by decide +kernel
theorem dX5_init_72 : decode cX5_init 72 = .ok (.iconst (-1), 1) := by decide +kernel
theorem dX5_init_73 : decode cX5_init 73 = .ok (.putfield 46, 3) := by decide +kernel
theorem dX5_init_76 : decode cX5_init 76 = .ok (.aload_n 0, 1) := by decide +kernel
theorem dX5_init_77 : decode cX5_init 77 = .ok (.iconst (-1), 1) := by decide +kernel
theorem dX5_init_78 : decode cX5_init 78 = .ok (.putfield 50, 3) := by decide +kernel
theorem dX5_init_81 : decode cX5_init 81 = .ok (.aload_n 0, 1) := by decide +kernel
theorem dX5_init_82 : decode cX5_init 82 = .ok (.iconst 0, 1) := by decide +kernel
theorem dX5_init_83 : decode cX5_init 83 = .ok (.putfield 53, 3) := by decide +kernel
theorem dX5_init_86 : decode cX5_init 86 = .ok (.aload_n 0, 1) := by decide +kernel
theorem dX5_init_87 : decode cX5_init 87 = .ok (.iconst (-1), 1) := by decide +kernel
theorem dX5_init_88 : decode cX5_init 88 = .ok (.putfield 56, 3) := by decide +kernel
theorem dX5_init_91 : decode cX5_init 91 = .ok (.aload_n 0, 1) := by decide +kernel
theorem dX5_init_92 : decode cX5_init 92 = .ok (.iconst 0, 1) := by decide +kernel
theorem dX5_init_93 : decode cX5_init 93 = .ok (.putfield 59, 3) := by decide +kernel
theorem dX5_init_96 : decode cX5_init 96 = .ok (.return_, 1) := by decide +kernel
set_option maxRecDepth 20000 in
theorem ggX5_thing_X4_add : GoodIn wsX5_thing wsX4_add := goodIn_r _ [10, 11, 12, 13, 14, 15, 26, 27, 28, 29, 30, 31] (by decide +kernel) (by decide +kernel)
set_option maxRecDepth 20000 in
theorem gX5_thing_X4_add : GoodIn wsX5_thing (wsV RX5 79 RX4 yX4_add wsX4_add) := goodIn_app (goodIn_of _ (by decide +kernel)) ggX5_thing_X4_add
theorem dX5_thing_0 : decode cX5_thing 0 = .ok (.iload_n 1, 1) := by decide +kernel
theorem dX5_thing_1 : decode cX5_thing 1 = .ok (.ifCond .lt 9, 3) := by decide +kernel
theorem dX5_thing_4 : decode cX5_thing 4 = .ok (.iload_n 1, 1) := by decide +kernel
theorem dX5_thing_5 : decode cX5_thing 5 = .ok (.bipush 8, 2) := by decide +kernel
theorem dX5_thing_7 : decode cX5_thing 7 = .ok (.if_icmp .lt 13, 3) := by decide +kernel
theorem dX5_thing_10 : decode cX5_thing 10 = .ok (.new 62, 3) := by decide +kernel
theorem dX5_thing_13 : decode cX5_thing 13 = .ok (.dup, 1) := by decide +kernel
theorem dX5_thing_14 : decode cX5_thing 14 = .ok (.ldc 64, 2) := by decide +kernel
theorem dX5_thing_16 : decode cX5_thing 16 = .ok (.invokespecial 66, 3) := by decide +kernel
theorem dX5_thing_19 : decode cX5_thing 19 = .ok (.athrow, 1) := by decide +kernel
theorem dX5_thing_20 : decode cX5_thing 20 = .ok (.iload_n 2, 1) := by decide +kernel
theorem dX5_thing_21 : decode cX5_thing 21 = .ok (.ifCond .lt 9, 3) := by decide +kernel
theorem dX5_thing_24 : decode cX5_thing 24 = .ok (.iload_n 2, 1) := by decide +kernel
theorem dX5_thing_25 : decode cX5_thing 25 = .ok (.bipush 64, 2) := by decide +kernel
theorem dX5_thing_27 : decode cX5_thing 27 = .ok (.if_icmp .lt 13, 3) := by decide +kernel
theorem dX5_thing_30 : decode cX5_thing 30 = .ok (.new 62, 3) := by decide +kernel
theorem dX5_thing_33 : decode cX5_thing 33 = .ok (.dup, 1) := by decide +kernel
theorem dX5_thing_34 : decode cX5_thing 34 = .ok (.ldc 69, 2) := by decide +kernel
theorem dX5_thing_36 : decode cX5_thing 36 = .ok (.invokespecial 66, 3) := by decide +kernel
theorem dX5_thing_39 : decode cX5_thing 39 = .ok (.athrow, 1) := by decide +kernel
theorem dX5_thing_40 : decode cX5_thing 40 = .ok (.aload_n 0, 1) := by decide +kernel
theorem dX5_thing_41 : decode cX5_thing 41 = .ok (.getfield 12, 3) := by decide +kernel
theorem dX5_thing_44 : decode cX5_thing 44 = .ok (.getfield 71, 3) := by decide +kernel
theorem dX5_thing_47 : decode cX5_thing 47 = .ok (.bipush 12, 2) := by decide +kernel
theorem dX5_thing_49 : decode cX5_thing 49 = .ok (.if_icmp .lt 13, 3) := by decide +kernel
theorem dX5_thing_52 : decode cX5_thing 52 = .ok (.new 74, 3) := by decide +kernel
theorem dX5_thing_55 : decode cX5_thing 55 = .ok (.dup, 1) := by decide +kernel
theorem dX5_thing_56 : decode cX5_thing 56 = .ok (.ldc 76, 2) := by decide +kernel
theorem dX5_thing_58 : decode cX5_thing 58 = .ok (.invokespecial 78, 3) := by decide +kernel
theorem dX5_thing_61 : decode cX5_thing 61 = .ok (.athrow, 1) := by decide +kernel
theorem dX5_thing_62 : decode cX5_thing 62 = .ok (.aload_n 0, 1) := by decide +kernel
theorem dX5_thing_63 : decode cX5_thing 63 = .ok (.getfield 12, 3) := by decide +kernel
theorem dX5_thing_66 : decode cX5_thing 66 = .ok (.iload_n 1, 1) := by decide +kernel
theorem dX5_thing_67 : decode cX5_thing 67 = .ok (.iload_n 2, 1) := by decide +kernel
theorem dX5_thing_68 : decode cX5_thing 68 = .ok (.iload_n 3, 1) := by decide +kernel
theorem dX5_thing_69 : decode cX5_thing 69 = .ok (.invokevirtual 79, 3) := by decide +kernel
theorem dX5_thing_72 : decode cX5_thing 72 = .ok (.ireturn, 1) := by decide +kernel
set_option maxRecDepth 20000 in
theorem ggX5_placeOf_X4_has : GoodIn wsX5_placeOf wsX4_has := goodIn_r _ [8, 9, 25, 26, 27, 28, 29, 30] (by decide +kernel) (by decide +kernel)
set_option maxRecDepth 20000 in
theorem gX5_placeOf_X4_has : GoodIn wsX5_placeOf (wsV RX5 83 RX4 yX4_has wsX4_has) := goodIn_app (goodIn_of _ (by decide +kernel)) ggX5_placeOf_X4_has
set_option maxRecDepth 20000 in
theorem ggX5_placeOf_X4_holderOf : GoodIn wsX5_placeOf wsX4_holderOf := goodIn_r _ [13, 9, 14, 25, 26, 27, 28, 29, 30] (by decide +kernel) (by decide +kernel)
set_option maxRecDepth 20000 in
theorem gX5_placeOf_X4_holderOf : GoodIn wsX5_placeOf (wsV RX5 92 RX4 yX4_holderOf wsX4_holderOf) := goodIn_app (goodIn_of _ (by decide +kernel)) ggX5_placeOf_X4_holderOf
theorem dX5_placeOf_0 : decode cX5_placeOf 0 = .ok (.aload_n 0, 1) := by decide +kernel
theorem dX5_placeOf_1 : decode cX5_placeOf 1 = .ok (.getfield 12, 3) := by decide +kernel
theorem dX5_placeOf_4 : decode cX5_placeOf 4 = .ok (.iload_n 1, 1) := by decide +kernel
theorem dX5_placeOf_5 : decode cX5_placeOf 5 = .ok (.invokevirtual 83, 3) := by decide +kernel
theorem dX5_placeOf_8 : decode cX5_placeOf 8 = .ok (.ifCond .ne 13, 3) := by decide +kernel
theorem dX5_placeOf_11 : decode cX5_placeOf 11 = .ok (.new 87, 3) := by decide +kernel
theorem dX5_placeOf_14 : decode cX5_placeOf 14 = .ok (.dup, 1) := by decide +kernel
theorem dX5_placeOf_15 : decode cX5_placeOf 15 = .ok (.ldc 89, 2) := by decide +kernel
theorem dX5_placeOf_17 : decode cX5_placeOf 17 = .ok (.invokespecial 91, 3) := by decide +kernel
theorem dX5_placeOf_20 : decode cX5_placeOf 20 = .ok (.athrow, 1) := by decide +kernel
theorem dX5_placeOf_21 : decode cX5_placeOf 21 = .ok (.aload_n 0, 1) := by decide +kernel
theorem dX5_placeOf_22 : decode cX5_placeOf 22 = .ok (.getfield 12, 3) := by decide +kernel
theorem dX5_placeOf_25 : decode cX5_placeOf 25 = .ok (.iload_n 1, 1) := by decide +kernel
theorem dX5_placeOf_26 : decode cX5_placeOf 26 = .ok (.invokevirtual 92, 3) := by decide +kernel
theorem dX5_placeOf_29 : decode cX5_placeOf 29 = .ok (.ireturn, 1) := by decide +kernel
set_option maxRecDepth 20000 in
theorem ggX5_isOpen_X4_has : GoodIn wsX5_isOpen wsX4_has := goodIn_r _ [8, 9, 24, 25, 26, 27, 28, 29] (by decide +kernel) (by decide +kernel)
set_option maxRecDepth 20000 in
theorem gX5_isOpen_X4_has : GoodIn wsX5_isOpen (wsV RX5 83 RX4 yX4_has wsX4_has) := goodIn_app (goodIn_of _ (by decide +kernel)) ggX5_isOpen_X4_has
set_option maxRecDepth 20000 in
theorem ggX5_isOpen_X5_contains : GoodIn wsX5_isOpen wsX5_contains := goodIn_r _ [13] (by decide +kernel) (by decide +kernel)
set_option maxRecDepth 20000 in
theorem gX5_isOpen_X5_contains : GoodIn wsX5_isOpen (va_wsS RX5 99 yX5_contains wsX5_contains) := goodIn_app (goodIn_of _ (by decide +kernel)) ggX5_isOpen_X5_contains
theorem dX5_isOpen_0 : decode cX5_isOpen 0 = .ok (.aload_n 0, 1) := by decide +kernel
theorem dX5_isOpen_1 : decode cX5_isOpen 1 = .ok (.getfield 12, 3) := by decide +kernel
theorem dX5_isOpen_4 : decode cX5_isOpen 4 = .ok (.iload_n 1, 1) := by decide +kernel
theorem dX5_isOpen_5 : decode cX5_isOpen 5 = .ok (.invokevirtual 83, 3) := by decide +kernel
theorem dX5_isOpen_8 : decode cX5_isOpen 8 = .ok (.ifCond .ne 13, 3) := by decide +kernel
theorem dX5_isOpen_11 : decode cX5_isOpen 11 = .ok (.new 87, 3) := by decide +kernel
theorem dX5_isOpen_14 : decode cX5_isOpen 14 = .ok (.dup, 1) := by decide +kernel
theorem dX5_isOpen_15 : decode cX5_isOpen 15 = .ok (.ldc 89, 2) := by decide +kernel
theorem dX5_isOpen_17 : decode cX5_isOpen 17 = .ok (.invokespecial 91, 3) := by decide +kernel
theorem dX5_isOpen_20 : decode cX5_isOpen 20 = .ok (.athrow, 1) := by decide +kernel
theorem dX5_isOpen_21 : decode cX5_isOpen 21 = .ok (.aload_n 0, 1) := by decide +kernel
theorem dX5_isOpen_22 : decode cX5_isOpen 22 = .ok (.getfield 12, 3) := by decide +kernel
theorem dX5_isOpen_25 : decode cX5_isOpen 25 = .ok (.getfield 96, 3) := by decide +kernel
theorem dX5_isOpen_28 : decode cX5_isOpen 28 = .ok (.iload_n 1, 1) := by decide +kernel
theorem dX5_isOpen_29 : decode cX5_isOpen 29 = .ok (.invokestatic 99, 3) := by decide +kernel
theorem dX5_isOpen_32 : decode cX5_isOpen 32 = .ok (.ireturn, 1) := by decide +kernel
set_option maxRecDepth 20000 in
theorem ggX5_inReach_X4_reachable : GoodIn wsX5_inReach wsX4_reachable := goodIn_r _ [6, 7, 8, 9, 10, 11, 5, 12, 13, 14, 15, 16, 27, 28, 29, 30, 31, 32] (by decide +kernel) (by decide +kernel)
set_option maxRecDepth 20000 in
theorem gX5_inReach_X4_reachable : GoodIn wsX5_inReach (wsV RX5 103 RX4 yX4_reachable wsX4_reachable) := goodIn_app (goodIn_of _ (by decide +kernel)) ggX5_inReach_X4_reachable
theorem dX5_inReach_0 : decode cX5_inReach 0 = .ok (.aload_n 0, 1) := by decide +kernel
theorem dX5_inReach_1 : decode cX5_inReach 1 = .ok (.getfield 12, 3) := by decide +kernel
theorem dX5_inReach_4 : decode cX5_inReach 4 = .ok (.invokevirtual 103, 3) := by decide +kernel
theorem dX5_inReach_7 : decode cX5_inReach 7 = .ok (.ireturn, 1) := by decide +kernel
set_option maxRecDepth 20000 in
theorem ggX5_word_X5_isWord : GoodIn wsX5_word wsX5_isWord := goodIn_r _ [9, 10, 11, 8, 12, 13, 14, 15] (by decide +kernel) (by decide +kernel)
set_option maxRecDepth 20000 in
theorem gX5_word_X5_isWord : GoodIn wsX5_word (va_wsS RX5 107 yX5_isWord wsX5_isWord) := goodIn_app (goodIn_of _ (by decide +kernel)) ggX5_word_X5_isWord
set_option maxRecDepth 20000 in
theorem ggX5_word_X3_add : GoodIn wsX5_word wsX3_add := goodIn_r _ [20, 21, 22, 33, 34, 35, 36, 37] (by decide +kernel) (by decide +kernel)
set_option maxRecDepth 20000 in
theorem gX5_word_X3_add : GoodIn wsX5_word (wsV RX5 115 RX3 yX3_add wsX3_add) := goodIn_app (goodIn_of _ (by decide +kernel)) ggX5_word_X3_add
theorem dX5_word_0 : decode cX5_word 0 = .ok (.iload_n 1, 1) := by decide +kernel
theorem dX5_word_1 : decode cX5_word 1 = .ok (.invokestatic 107, 3) := by decide +kernel
theorem dX5_word_4 : decode cX5_word 4 = .ok (.ifCond .ne 13, 3) := by decide +kernel
theorem dX5_word_7 : decode cX5_word 7 = .ok (.new 62, 3) := by decide +kernel
theorem dX5_word_10 : decode cX5_word 10 = .ok (.dup, 1) := by decide +kernel
theorem dX5_word_11 : decode cX5_word 11 = .ok (.ldc 110, 2) := by decide +kernel
theorem dX5_word_13 : decode cX5_word 13 = .ok (.invokespecial 66, 3) := by decide +kernel
theorem dX5_word_16 : decode cX5_word 16 = .ok (.athrow, 1) := by decide +kernel
theorem dX5_word_17 : decode cX5_word 17 = .ok (.aload_n 0, 1) := by decide +kernel
theorem dX5_word_18 : decode cX5_word 18 = .ok (.getfield 19, 3) := by decide +kernel
theorem dX5_word_21 : decode cX5_word 21 = .ok (.getfield 112, 3) := by decide +kernel
theorem dX5_word_24 : decode cX5_word 24 = .ok (.bipush 24, 2) := by decide +kernel
theorem dX5_word_26 : decode cX5_word 26 = .ok (.if_icmp .lt 13, 3) := by decide +kernel
theorem dX5_word_29 : decode cX5_word 29 = .ok (.new 74, 3) := by decide +kernel
theorem dX5_word_32 : decode cX5_word 32 = .ok (.dup, 1) := by decide +kernel
theorem dX5_word_33 : decode cX5_word 33 = .ok (.ldc 113, 2) := by decide +kernel
theorem dX5_word_35 : decode cX5_word 35 = .ok (.invokespecial 78, 3) := by decide +kernel
theorem dX5_word_38 : decode cX5_word 38 = .ok (.athrow, 1) := by decide +kernel
theorem dX5_word_39 : decode cX5_word 39 = .ok (.aload_n 0, 1) := by decide +kernel
theorem dX5_word_40 : decode cX5_word 40 = .ok (.getfield 19, 3) := by decide +kernel
theorem dX5_word_43 : decode cX5_word 43 = .ok (.iload_n 1, 1) := by decide +kernel
theorem dX5_word_44 : decode cX5_word 44 = .ok (.invokevirtual 115, 3) := by decide +kernel
theorem dX5_word_47 : decode cX5_word 47 = .ok (.aload_n 0, 1) := by decide +kernel
theorem dX5_word_48 : decode cX5_word 48 = .ok (.getfield 19, 3) := by decide +kernel
theorem dX5_word_51 : decode cX5_word 51 = .ok (.getfield 112, 3) := by decide +kernel
theorem dX5_word_54 : decode cX5_word 54 = .ok (.ireturn, 1) := by decide +kernel
set_option maxRecDepth 20000 in
theorem ggX5_back_X3_removeLast : GoodIn wsX5_back wsX3_removeLast := goodIn_r _ [8, 9, 10, 21, 22, 23, 24, 25] (by decide +kernel) (by decide +kernel)
set_option maxRecDepth 20000 in
theorem gX5_back_X3_removeLast : GoodIn wsX5_back (wsV RX5 120 RX3 yX3_removeLast wsX3_removeLast) := goodIn_app (goodIn_of _ (by decide +kernel)) ggX5_back_X3_removeLast
theorem dX5_back_0 : decode cX5_back 0 = .ok (.aload_n 0, 1) := by decide +kernel
theorem dX5_back_1 : decode cX5_back 1 = .ok (.getfield 19, 3) := by decide +kernel
theorem dX5_back_4 : decode cX5_back 4 = .ok (.getfield 112, 3) := by decide +kernel
theorem dX5_back_7 : decode cX5_back 7 = .ok (.ifCond .gt 13, 3) := by decide +kernel
theorem dX5_back_10 : decode cX5_back 10 = .ok (.new 74, 3) := by decide +kernel
theorem dX5_back_13 : decode cX5_back 13 = .ok (.dup, 1) := by decide +kernel
theorem dX5_back_14 : decode cX5_back 14 = .ok (.ldc 118, 2) := by decide +kernel
theorem dX5_back_16 : decode cX5_back 16 = .ok (.invokespecial 78, 3) := by decide +kernel
theorem dX5_back_19 : decode cX5_back 19 = .ok (.athrow, 1) := by decide +kernel
theorem dX5_back_20 : decode cX5_back 20 = .ok (.aload_n 0, 1) := by decide +kernel
theorem dX5_back_21 : decode cX5_back 21 = .ok (.getfield 19, 3) := by decide +kernel
theorem dX5_back_24 : decode cX5_back 24 = .ok (.invokevirtual 120, 3) := by decide +kernel
theorem dX5_back_27 : decode cX5_back 27 = .ok (.ireturn, 1) := by decide +kernel
set_option maxRecDepth 20000 in
theorem ggX5_say_X3_peek : GoodIn wsX5_say wsX3_peek := goodIn_r _ [10, 11, 12, 13, 244, 245, 246, 247, 248] (by decide +kernel) (by decide +kernel)
set_option maxRecDepth 20000 in
theorem gX5_say_X3_peek : GoodIn wsX5_say (wsV RX5 123 RX3 yX3_peek wsX3_peek) := goodIn_app (goodIn_of _ (by decide +kernel)) ggX5_say_X3_peek
set_option maxRecDepth 20000 in
theorem ggX5_say_X5_isVerb : GoodIn wsX5_say wsX5_isVerb := goodIn_r _ [17] (by decide +kernel) (by decide +kernel)
set_option maxRecDepth 20000 in
theorem gX5_say_X5_isVerb : GoodIn wsX5_say (va_wsS RX5 126 yX5_isVerb wsX5_isVerb) := goodIn_app (goodIn_of _ (by decide +kernel)) ggX5_say_X5_isVerb
set_option maxRecDepth 20000 in
theorem ggX5_say_X5_hearOrder : GoodIn wsX5_say wsX5_hearOrder := goodIn_r _ [21, 22, 2, 1, 23, 24, 25, 16, 26, 4, 27, 28, 29, 30, 31, 32, 33, 34, 35, 7, 8, 9, 10, 11, 12, 13, 36, 37, 38, 39, 40, 41, 42, 43, 44, 45, 46, 47, 48, 49, 50, 51, 52, 53, 54, 55, 56, 57, 58, 59, 60, 61, 62, 63, 64, 65, 66, 67, 68, 69, 70, 71, 72, 73, 74, 75, 76, 77, 78, 79, 80, 81, 82, 83, 84, 85, 86, 87, 88, 89, 90, 91, 92, 93, 94, 95, 96, 97, 98, 99, 100, 101, 102, 103, 104, 105, 106, 107, 108, 109, 110, 111, 112, 113, 114, 115, 116, 117, 118, 119, 120, 121, 122, 123, 124, 125, 126, 127, 128, 129, 130, 131, 132, 133, 134, 135, 136, 137, 138, 139, 140, 141, 142, 143, 144, 145, 146, 147, 148, 149, 150, 151, 152, 153, 154, 155, 156, 157, 158, 159, 160, 161, 162, 163, 164, 165, 166, 167, 168, 169, 170, 171, 172, 173, 174, 175, 176, 177, 178, 179, 180, 181, 182, 183, 184, 185, 186, 187, 188, 189, 190, 191, 192, 193, 194, 195, 196, 197, 198, 199, 200, 201, 202, 203, 204, 205, 206, 207, 208, 209, 210, 211, 234, 235, 236, 237, 238, 239, 240, 241, 242, 243, 244, 245, 246, 247, 248, 249, 250, 251, 252, 253, 254, 255, 256, 257, 258, 259, 260, 261, 262, 263, 264, 265, 266, 267, 268, 269, 270, 271, 272, 273, 274, 275, 276] (by decide +kernel) (by decide +kernel)
set_option maxRecDepth 20000 in
theorem gX5_say_X5_hearOrder : GoodIn wsX5_say (wsV RX5 129 RX5 yX5_hearOrder wsX5_hearOrder) := goodIn_app (goodIn_of _ (by decide +kernel)) ggX5_say_X5_hearOrder
set_option maxRecDepth 20000 in
theorem ggX5_say_X5_hearAnswer : GoodIn wsX5_say wsX5_hearAnswer := goodIn_r _ [215, 2, 1, 185, 4, 22, 27, 216, 217, 218, 9, 219, 75, 220, 37, 38, 39, 11, 40, 7, 8, 10, 12, 13, 221, 72, 73, 74, 76, 77, 16, 78, 222, 84, 85, 86, 223, 88, 89, 90, 224, 157, 158, 109, 159, 111, 160, 161, 225, 163, 164, 165, 166, 167, 168, 226, 227, 228, 31, 229, 54, 63, 64, 65, 66, 33, 23, 24, 25, 26, 91, 92, 93, 94, 95, 96, 97, 98, 99, 100, 101, 102, 103, 104, 105, 106, 107, 108, 110, 112, 113, 114, 115, 116, 117, 118, 119, 120, 121, 122, 123, 124, 125, 126, 127, 128, 129, 130, 131, 132, 133, 134, 135, 136, 137, 60, 61, 62, 49, 138, 139, 140, 141, 142, 143, 144, 145, 146, 147, 148, 149, 150, 151, 152, 153, 154, 155, 156, 162, 169, 170, 171, 172, 173, 174, 175, 176, 177, 178, 179, 180, 53, 181, 182, 183, 184, 186, 187, 188, 189, 190, 191, 192, 193, 194, 195, 196, 197, 198, 199, 200, 201, 202, 203, 204, 205, 206, 207, 208, 209, 210, 211, 234, 235, 236, 237, 238, 239, 240, 241, 242, 243, 244, 245, 246, 247, 248, 266, 267, 268, 269, 270, 271, 249, 250, 251, 252, 253, 254, 255, 256, 257, 258, 259, 260, 261, 262, 263, 264, 265, 272, 273, 274, 275, 276] (by decide +kernel) (by decide +kernel)
set_option maxRecDepth 20000 in
theorem gX5_say_X5_hearAnswer : GoodIn wsX5_say (wsV RX5 132 RX5 yX5_hearAnswer wsX5_hearAnswer) := goodIn_app (goodIn_of _ (by decide +kernel)) ggX5_say_X5_hearAnswer
set_option maxRecDepth 20000 in
theorem ggX5_say_X3_clear : GoodIn wsX5_say wsX3_clear := goodIn_r _ [233, 12, 11, 244, 245, 246, 247, 248] (by decide +kernel) (by decide +kernel)
set_option maxRecDepth 20000 in
theorem gX5_say_X3_clear : GoodIn wsX5_say (wsV RX5 135 RX3 yX3_clear wsX3_clear) := goodIn_app (goodIn_of _ (by decide +kernel)) ggX5_say_X3_clear
theorem dX5_say_0 : decode cX5_say 0 = .ok (.aload_n 0, 1) := by decide +kernel
theorem dX5_say_1 : decode cX5_say 1 = .ok (.iconst (-1), 1) := by decide +kernel
theorem dX5_say_2 : decode cX5_say 2 = .ok (.putfield 50, 3) := by decide +kernel
theorem dX5_say_5 : decode cX5_say 5 = .ok (.aload_n 0, 1) := by decide +kernel
theorem dX5_say_6 : decode cX5_say 6 = .ok (.getfield 19, 3) := by decide +kernel
theorem dX5_say_9 : decode cX5_say 9 = .ok (.getfield 112, 3) := by decide +kernel
theorem dX5_say_12 : decode cX5_say 12 = .ok (.ifCond .ne 11, 3) := by decide +kernel
theorem dX5_say_15 : decode cX5_say 15 = .ok (.aload_n 0, 1) := by decide +kernel
theorem dX5_say_16 : decode cX5_say 16 = .ok (.iconst 2, 1) := by decide +kernel
theorem dX5_say_17 : decode cX5_say 17 = .ok (.putfield 46, 3) := by decide +kernel
theorem dX5_say_20 : decode cX5_say 20 = .ok (.goto 50, 3) := by decide +kernel
theorem dX5_say_23 : decode cX5_say 23 = .ok (.aload_n 0, 1) := by decide +kernel
theorem dX5_say_24 : decode cX5_say 24 = .ok (.getfield 19, 3) := by decide +kernel
theorem dX5_say_27 : decode cX5_say 27 = .ok (.invokevirtual 123, 3) := by decide +kernel
theorem dX5_say_30 : decode cX5_say 30 = .ok (.invokestatic 126, 3) := by decide +kernel
theorem dX5_say_33 : decode cX5_say 33 = .ok (.ifCond .eq 14, 3) := by decide +kernel
theorem dX5_say_36 : decode cX5_say 36 = .ok (.aload_n 0, 1) := by decide +kernel
theorem dX5_say_37 : decode cX5_say 37 = .ok (.aload_n 0, 1) := by decide +kernel
theorem dX5_say_38 : decode cX5_say 38 = .ok (.invokevirtual 129, 3) := by decide +kernel
theorem dX5_say_41 : decode cX5_say 41 = .ok (.putfield 46, 3) := by decide +kernel
theorem dX5_say_44 : decode cX5_say 44 = .ok (.goto 26, 3) := by decide +kernel
theorem dX5_say_47 : decode cX5_say 47 = .ok (.aload_n 0, 1) := by decide +kernel
theorem dX5_say_48 : decode cX5_say 48 = .ok (.getfield 53, 3) := by decide +kernel
theorem dX5_say_51 : decode cX5_say 51 = .ok (.ifCond .eq 14, 3) := by decide +kernel
theorem dX5_say_54 : decode cX5_say 54 = .ok (.aload_n 0, 1) := by decide +kernel
theorem dX5_say_55 : decode cX5_say 55 = .ok (.aload_n 0, 1) := by decide +kernel
theorem dX5_say_56 : decode cX5_say 56 = .ok (.invokevirtual 132, 3) := by decide +kernel
theorem dX5_say_59 : decode cX5_say 59 = .ok (.putfield 46, 3) := by decide +kernel
theorem dX5_say_62 : decode cX5_say 62 = .ok (.goto 8, 3) := by decide +kernel
theorem dX5_say_65 : decode cX5_say 65 = .ok (.aload_n 0, 1) := by decide +kernel
theorem dX5_say_66 : decode cX5_say 66 = .ok (.iconst 3, 1) := by decide +kernel
theorem dX5_say_67 : decode cX5_say 67 = .ok (.putfield 46, 3) := by decide +kernel
theorem dX5_say_70 : decode cX5_say 70 = .ok (.aload_n 0, 1) := by decide +kernel
theorem dX5_say_71 : decode cX5_say 71 = .ok (.getfield 46, 3) := by decide +kernel
theorem dX5_say_74 : decode cX5_say 74 = .ok (.iconst 1, 1) := by decide +kernel
theorem dX5_say_75 : decode cX5_say 75 = .ok (.if_icmp .ne 13, 3) := by decide +kernel
theorem dX5_say_78 : decode cX5_say 78 = .ok (.aload_n 0, 1) := by decide +kernel
theorem dX5_say_79 : decode cX5_say 79 = .ok (.dup, 1) := by decide +kernel
theorem dX5_say_80 : decode cX5_say 80 = .ok (.getfield 59, 3) := by decide +kernel
theorem dX5_say_83 : decode cX5_say 83 = .ok (.iconst 1, 1) := by decide +kernel
theorem dX5_say_84 : decode cX5_say 84 = .ok (.iadd, 1) := by decide +kernel
theorem dX5_say_85 : decode cX5_say 85 = .ok (.putfield 59, 3) := by decide +kernel
theorem dX5_say_88 : decode cX5_say 88 = .ok (.aload_n 0, 1) := by decide +kernel
theorem dX5_say_89 : decode cX5_say 89 = .ok (.getfield 19, 3) := by decide +kernel
theorem dX5_say_92 : decode cX5_say 92 = .ok (.invokevirtual 135, 3) := by decide +kernel
theorem dX5_say_95 : decode cX5_say 95 = .ok (.aload_n 0, 1) := by decide +kernel
theorem dX5_say_96 : decode cX5_say 96 = .ok (.getfield 46, 3) := by decide +kernel
theorem dX5_say_99 : decode cX5_say 99 = .ok (.ireturn, 1) := by decide +kernel
theorem dX5_outcome_0 : decode cX5_outcome 0 = .ok (.aload_n 0, 1) := by decide +kernel
theorem dX5_outcome_1 : decode cX5_outcome 1 = .ok (.getfield 46, 3) := by decide +kernel
theorem dX5_outcome_4 : decode cX5_outcome 4 = .ok (.ireturn, 1) := by decide +kernel
theorem dX5_wrongAt_0 : decode cX5_wrongAt 0 = .ok (.aload_n 0, 1) := by decide +kernel
theorem dX5_wrongAt_1 : decode cX5_wrongAt 1 = .ok (.getfield 50, 3) := by decide +kernel
theorem dX5_wrongAt_4 : decode cX5_wrongAt 4 = .ok (.ireturn, 1) := by decide +kernel
theorem dX5_verb_0 : decode cX5_verb 0 = .ok (.aload_n 0, 1) := by decide +kernel
theorem dX5_verb_1 : decode cX5_verb 1 = .ok (.getfield 33, 3) := by decide +kernel
theorem dX5_verb_4 : decode cX5_verb 4 = .ok (.getfield 138, 3) := by decide +kernel
theorem dX5_verb_7 : decode cX5_verb 7 = .ok (.ireturn, 1) := by decide +kernel
theorem dX5_meant_0 : decode cX5_meant 0 = .ok (.aload_n 0, 1) := by decide +kernel
theorem dX5_meant_1 : decode cX5_meant 1 = .ok (.getfield 33, 3) := by decide +kernel
theorem dX5_meant_4 : decode cX5_meant 4 = .ok (.getfield 141, 3) := by decide +kernel
theorem dX5_meant_7 : decode cX5_meant 7 = .ok (.ireturn, 1) := by decide +kernel
theorem dX5_done_0 : decode cX5_done 0 = .ok (.aload_n 0, 1) := by decide +kernel
theorem dX5_done_1 : decode cX5_done 1 = .ok (.getfield 33, 3) := by decide +kernel
theorem dX5_done_4 : decode cX5_done 4 = .ok (.getfield 144, 3) := by decide +kernel
theorem dX5_done_7 : decode cX5_done 7 = .ok (.ireturn, 1) := by decide +kernel
theorem dX5_into_0 : decode cX5_into 0 = .ok (.aload_n 0, 1) := by decide +kernel
theorem dX5_into_1 : decode cX5_into 1 = .ok (.getfield 33, 3) := by decide +kernel
theorem dX5_into_4 : decode cX5_into 4 = .ok (.getfield 147, 3) := by decide +kernel
theorem dX5_into_7 : decode cX5_into 7 = .ok (.ireturn, 1) := by decide +kernel
theorem dX5_asked_0 : decode cX5_asked 0 = .ok (.aload_n 0, 1) := by decide +kernel
theorem dX5_asked_1 : decode cX5_asked 1 = .ok (.getfield 53, 3) := by decide +kernel
theorem dX5_asked_4 : decode cX5_asked 4 = .ok (.ireturn, 1) := by decide +kernel
set_option maxRecDepth 20000 in
theorem ggX5_askedAt_X2_lastPlaceOf : GoodIn wsX5_askedAt wsX2_lastPlaceOf := goodIn_r _ [8, 9, 10, 11, 12, 7, 13, 14, 25, 26, 27, 28, 29, 30, 31, 32] (by decide +kernel) (by decide +kernel)
set_option maxRecDepth 20000 in
theorem gX5_askedAt_X2_lastPlaceOf : GoodIn wsX5_askedAt (wsV RX5 150 RX2 yX2_lastPlaceOf wsX2_lastPlaceOf) := goodIn_app (goodIn_of _ (by decide +kernel)) ggX5_askedAt_X2_lastPlaceOf
theorem dX5_askedAt_0 : decode cX5_askedAt 0 = .ok (.aload_n 0, 1) := by decide +kernel
theorem dX5_askedAt_1 : decode cX5_askedAt 1 = .ok (.getfield 53, 3) := by decide +kernel
theorem dX5_askedAt_4 : decode cX5_askedAt 4 = .ok (.ifCond .ne 7, 3) := by decide +kernel
theorem dX5_askedAt_7 : decode cX5_askedAt 7 = .ok (.iconst (-1), 1) := by decide +kernel
theorem dX5_askedAt_8 : decode cX5_askedAt 8 = .ok (.goto 14, 3) := by decide +kernel
theorem dX5_askedAt_11 : decode cX5_askedAt 11 = .ok (.aload_n 0, 1) := by decide +kernel
theorem dX5_askedAt_12 : decode cX5_askedAt 12 = .ok (.getfield 26, 3) := by decide +kernel
theorem dX5_askedAt_15 : decode cX5_askedAt 15 = .ok (.aload_n 0, 1) := by decide +kernel
theorem dX5_askedAt_16 : decode cX5_askedAt 16 = .ok (.getfield 56, 3) := by decide +kernel
theorem dX5_askedAt_19 : decode cX5_askedAt 19 = .ok (.invokevirtual 150, 3) := by decide +kernel
theorem dX5_askedAt_22 : decode cX5_askedAt 22 = .ok (.ireturn, 1) := by decide +kernel
theorem dX5_questions_0 : decode cX5_questions 0 = .ok (.aload_n 0, 1) := by decide +kernel
theorem dX5_questions_1 : decode cX5_questions 1 = .ok (.getfield 59, 3) := by decide +kernel
theorem dX5_questions_4 : decode cX5_questions 4 = .ok (.ireturn, 1) := by decide +kernel
set_option maxRecDepth 20000 in
theorem ggX5_hearOrder_X5_dropQuestion : GoodIn wsX5_hearOrder wsX5_dropQuestion := goodIn_r _ [8, 9, 10, 202, 203, 204, 205, 206, 207, 208, 209, 210, 211] (by decide +kernel) (by decide +kernel)
set_option maxRecDepth 20000 in
theorem gX5_hearOrder_X5_dropQuestion : GoodIn wsX5_hearOrder (wsV RX5 153 RX5 yX5_dropQuestion wsX5_dropQuestion) := goodIn_app (goodIn_of _ (by decide +kernel)) ggX5_hearOrder_X5_dropQuestion
set_option maxRecDepth 20000 in
theorem ggX5_hearOrder_X2_read : GoodIn wsX5_hearOrder wsX2_read := goodIn_r _ [15, 16, 17, 18, 19, 20, 21, 22, 23, 24, 25, 26, 27, 28, 29, 30, 31, 32, 33, 14, 34, 35, 36, 37, 38, 39, 40, 41, 42, 43, 44, 45, 46, 47, 48, 49, 50, 51, 52, 53, 54, 55, 56, 57, 58, 59, 60, 61, 62, 63, 64, 65, 66, 67, 7, 68, 69, 70, 71, 72, 73, 74, 75, 76, 77, 78, 79, 80, 217, 218, 219, 220, 221, 222, 223, 224, 212, 213, 214, 215, 216] (by decide +kernel) (by decide +kernel)
set_option maxRecDepth 20000 in
theorem gX5_hearOrder_X2_read : GoodIn wsX5_hearOrder (wsV RX5 156 RX2 yX2_read wsX2_read) := goodIn_app (goodIn_of _ (by decide +kernel)) ggX5_hearOrder_X2_read
set_option maxRecDepth 20000 in
theorem ggX5_hearOrder_X5_lookAtOrder : GoodIn wsX5_hearOrder wsX5_lookAtOrder := goodIn_r _ [84, 85, 1, 3, 9, 10, 86, 87, 88, 89, 90, 91, 92, 93, 94, 95, 96, 97, 98, 99, 100, 101, 102, 103, 104, 105, 106, 107, 108, 7, 109, 110, 111, 112, 113, 114, 115, 116, 117, 118, 119, 120, 121, 122, 123, 124, 125, 126, 127, 50, 51, 14, 52, 39, 53, 54, 55, 56, 16, 128, 129, 130, 131, 132, 133, 134, 135, 136, 137, 138, 139, 140, 141, 142, 143, 144, 145, 146, 147, 148, 149, 150, 151, 152, 153, 154, 155, 156, 157, 158, 159, 160, 161, 162, 163, 164, 165, 166, 167, 168, 169, 170, 43, 171, 172, 173, 174, 175, 176, 177, 178, 179, 180, 181, 182, 183, 184, 185, 186, 187, 188, 189, 190, 191, 192, 193, 194, 195, 196, 197, 198, 199, 200, 201, 202, 203, 204, 205, 206, 207, 208, 209, 210, 211, 225, 226, 227, 228, 229, 230, 231, 232, 233, 217, 218, 219, 220, 221, 222, 223, 224, 234, 235, 236, 237, 238, 239, 240, 241, 242, 243, 244] (by decide +kernel) (by decide +kernel)
set_option maxRecDepth 20000 in
theorem gX5_hearOrder_X5_lookAtOrder : GoodIn wsX5_hearOrder (wsV RX5 163 RX5 yX5_lookAtOrder wsX5_lookAtOrder) := goodIn_app (goodIn_of _ (by decide +kernel)) ggX5_hearOrder_X5_lookAtOrder
theorem dX5_hearOrder_0 : decode cX5_hearOrder 0 = .ok (.aload_n 0, 1) := by decide +kernel
theorem dX5_hearOrder_1 : decode cX5_hearOrder 1 = .ok (.invokevirtual 153, 3) := by decide +kernel
theorem dX5_hearOrder_4 : decode cX5_hearOrder 4 = .ok (.aload_n 0, 1) := by decide +kernel
theorem dX5_hearOrder_5 : decode cX5_hearOrder 5 = .ok (.getfield 26, 3) := by decide +kernel
theorem dX5_hearOrder_8 : decode cX5_hearOrder 8 = .ok (.aload_n 0, 1) := by decide +kernel
theorem dX5_hearOrder_9 : decode cX5_hearOrder 9 = .ok (.getfield 19, 3) := by decide +kernel
theorem dX5_hearOrder_12 : decode cX5_hearOrder 12 = .ok (.invokevirtual 156, 3) := by decide +kernel
theorem dX5_hearOrder_15 : decode cX5_hearOrder 15 = .ok (.ifCond .ne 16, 3) := by decide +kernel
theorem dX5_hearOrder_18 : decode cX5_hearOrder 18 = .ok (.aload_n 0, 1) := by decide +kernel
theorem dX5_hearOrder_19 : decode cX5_hearOrder 19 = .ok (.aload_n 0, 1) := by decide +kernel
theorem dX5_hearOrder_20 : decode cX5_hearOrder 20 = .ok (.getfield 19, 3) := by decide +kernel
theorem dX5_hearOrder_23 : decode cX5_hearOrder 23 = .ok (.getfield 160, 3) := by decide +kernel
theorem dX5_hearOrder_26 : decode cX5_hearOrder 26 = .ok (.putfield 50, 3) := by decide +kernel
theorem dX5_hearOrder_29 : decode cX5_hearOrder 29 = .ok (.iconst 4, 1) := by decide +kernel
theorem dX5_hearOrder_30 : decode cX5_hearOrder 30 = .ok (.ireturn, 1) := by decide +kernel
theorem dX5_hearOrder_31 : decode cX5_hearOrder 31 = .ok (.aload_n 0, 1) := by decide +kernel
theorem dX5_hearOrder_32 : decode cX5_hearOrder 32 = .ok (.invokevirtual 163, 3) := by decide +kernel
theorem dX5_hearOrder_35 : decode cX5_hearOrder 35 = .ok (.ireturn, 1) := by decide +kernel
set_option maxRecDepth 20000 in
theorem ggX5_hearAnswer_X3_readAnswer : GoodIn wsX5_hearAnswer wsX3_readAnswer := goodIn_r _ [11, 12, 13, 14, 15, 10, 16, 17, 18, 19, 20, 21, 22, 23, 24, 25, 26, 27, 28, 29, 30, 31, 32, 33, 34, 35, 36, 37, 38, 39, 192, 193, 194, 195, 196] (by decide +kernel) (by decide +kernel)
set_option maxRecDepth 20000 in
theorem gX5_hearAnswer_X3_readAnswer : GoodIn wsX5_hearAnswer (wsV RX5 166 RX3 yX3_readAnswer wsX3_readAnswer) := goodIn_app (goodIn_of _ (by decide +kernel)) ggX5_hearAnswer_X3_readAnswer
set_option maxRecDepth 20000 in
theorem ggX5_hearAnswer_X4_described : GoodIn wsX5_hearAnswer wsX4_described := goodIn_r _ [44, 45, 46, 47, 197, 198, 199, 200, 201, 202] (by decide +kernel) (by decide +kernel)
set_option maxRecDepth 20000 in
theorem gX5_hearAnswer_X4_described : GoodIn wsX5_hearAnswer (wsV RX5 176 RX4 yX4_described wsX4_described) := goodIn_app (goodIn_of _ (by decide +kernel)) ggX5_hearAnswer_X4_described
set_option maxRecDepth 20000 in
theorem ggX5_hearAnswer_J6_bitCount_0f7a4 : GoodIn wsX5_hearAnswer wsJ6_bitCount_0f7a4 := goodIn_r _ [51, 52, 53, 54] (by decide +kernel) (by decide +kernel)
set_option maxRecDepth 20000 in
theorem gX5_hearAnswer_J6_bitCount_0f7a4 : GoodIn wsX5_hearAnswer (va_wsS RX5 180 yJ6_bitCount_0f7a4 wsJ6_bitCount_0f7a4) := goodIn_app (goodIn_of _ (by decide +kernel)) ggX5_hearAnswer_J6_bitCount_0f7a4
set_option maxRecDepth 20000 in
theorem ggX5_hearAnswer_X2_answer : GoodIn wsX5_hearAnswer wsX2_answer := goodIn_r _ [59, 60, 61, 62, 63, 58, 64, 65, 203, 204, 205, 206, 207, 208, 209, 210] (by decide +kernel) (by decide +kernel)
set_option maxRecDepth 20000 in
theorem gX5_hearAnswer_X2_answer : GoodIn wsX5_hearAnswer (wsV RX5 185 RX2 yX2_answer wsX2_answer) := goodIn_app (goodIn_of _ (by decide +kernel)) ggX5_hearAnswer_X2_answer
end
section
set_option maxRecDepth 20000 in
theorem ggX5_hearAnswer_X5_dropQuestion : GoodIn wsX5_hearAnswer wsX5_dropQuestion := goodIn_r _ [69, 4, 6, 182, 183, 184, 185, 186, 187, 188, 189, 190, 191] (by decide +kernel) (by decide +kernel)
set_option maxRecDepth 20000 in
theorem gX5_hearAnswer_X5_dropQuestion : GoodIn wsX5_hearAnswer (wsV RX5 153 RX5 yX5_dropQuestion wsX5_dropQuestion) := goodIn_app (goodIn_of _ (by decide +kernel)) ggX5_hearAnswer_X5_dropQuestion
set_option maxRecDepth 20000 in
theorem ggX5_hearAnswer_X5_lookAtOrder : GoodIn wsX5_hearAnswer wsX5_lookAtOrder := goodIn_r _ [73, 74, 5, 2, 4, 6, 75, 76, 77, 78, 79, 80, 81, 82, 83, 84, 85, 86, 87, 43, 88, 45, 89, 90, 91, 92, 93, 94, 95, 30, 96, 97, 98, 99, 100, 101, 102, 103, 104, 105, 106, 107, 108, 109, 110, 111, 112, 113, 114, 115, 116, 58, 117, 118, 61, 62, 63, 64, 65, 119, 120, 121, 122, 123, 124, 125, 126, 127, 128, 129, 130, 131, 132, 133, 134, 135, 136, 137, 41, 42, 44, 46, 47, 138, 49, 50, 51, 52, 53, 54, 139, 140, 141, 142, 143, 144, 145, 146, 147, 148, 149, 150, 151, 152, 153, 154, 155, 3, 156, 157, 158, 159, 160, 161, 162, 163, 164, 165, 166, 167, 168, 169, 170, 171, 172, 173, 174, 175, 176, 177, 178, 179, 180, 181, 182, 183, 184, 185, 186, 187, 188, 189, 190, 191, 211, 212, 213, 214, 215, 216, 217, 218, 219, 203, 204, 205, 206, 207, 208, 209, 210, 197, 198, 199, 200, 201, 202, 220, 221, 222, 223, 224] (by decide +kernel) (by decide +kernel)
set_option maxRecDepth 20000 in
theorem gX5_hearAnswer_X5_lookAtOrder : GoodIn wsX5_hearAnswer (wsV RX5 163 RX5 yX5_lookAtOrder wsX5_lookAtOrder) := goodIn_app (goodIn_of _ (by decide +kernel)) ggX5_hearAnswer_X5_lookAtOrder
theorem dX5_hearAnswer_0 : decode cX5_hearAnswer 0 = .ok (.aload_n 0, 1) := by decide +kernel
theorem dX5_hearAnswer_1 : decode cX5_hearAnswer 1 = .ok (.getfield 19, 3) := by decide +kernel
theorem dX5_hearAnswer_4 : decode cX5_hearAnswer 4 = .ok (.invokevirtual 166, 3) := by decide +kernel
theorem dX5_hearAnswer_7 : decode cX5_hearAnswer 7 = .ok (.ifCond .ne 16, 3) := by decide +kernel
theorem dX5_hearAnswer_10 : decode cX5_hearAnswer 10 = .ok (.aload_n 0, 1) := by decide +kernel
theorem dX5_hearAnswer_11 : decode cX5_hearAnswer 11 = .ok (.aload_n 0, 1) := by decide +kernel
theorem dX5_hearAnswer_12 : decode cX5_hearAnswer 12 = .ok (.getfield 19, 3) := by decide +kernel
theorem dX5_hearAnswer_15 : decode cX5_hearAnswer 15 = .ok (.getfield 160, 3) := by decide +kernel
theorem dX5_hearAnswer_18 : decode cX5_hearAnswer 18 = .ok (.putfield 50, 3) := by decide +kernel
theorem dX5_hearAnswer_21 : decode cX5_hearAnswer 21 = .ok (.iconst 4, 1) := by decide +kernel
theorem dX5_hearAnswer_22 : decode cX5_hearAnswer 22 = .ok (.ireturn, 1) := by decide +kernel
theorem dX5_hearAnswer_23 : decode cX5_hearAnswer 23 = .ok (.aload_n 0, 1) := by decide +kernel
theorem dX5_hearAnswer_24 : decode cX5_hearAnswer 24 = .ok (.getfield 12, 3) := by decide +kernel
theorem dX5_hearAnswer_27 : decode cX5_hearAnswer 27 = .ok (.aload_n 0, 1) := by decide +kernel
theorem dX5_hearAnswer_28 : decode cX5_hearAnswer 28 = .ok (.getfield 53, 3) := by decide +kernel
theorem dX5_hearAnswer_31 : decode cX5_hearAnswer 31 = .ok (.aload_n 0, 1) := by decide +kernel
theorem dX5_hearAnswer_32 : decode cX5_hearAnswer 32 = .ok (.getfield 19, 3) := by decide +kernel
theorem dX5_hearAnswer_35 : decode cX5_hearAnswer 35 = .ok (.getfield 170, 3) := by decide +kernel
theorem dX5_hearAnswer_38 : decode cX5_hearAnswer 38 = .ok (.aload_n 0, 1) := by decide +kernel
theorem dX5_hearAnswer_39 : decode cX5_hearAnswer 39 = .ok (.getfield 19, 3) := by decide +kernel
theorem dX5_hearAnswer_42 : decode cX5_hearAnswer 42 = .ok (.getfield 173, 3) := by decide +kernel
theorem dX5_hearAnswer_45 : decode cX5_hearAnswer 45 = .ok (.invokevirtual 176, 3) := by decide +kernel
theorem dX5_hearAnswer_48 : decode cX5_hearAnswer 48 = .ok (.istore_n 1, 1) := by decide +kernel
theorem dX5_hearAnswer_49 : decode cX5_hearAnswer 49 = .ok (.iload_n 1, 1) := by decide +kernel
theorem dX5_hearAnswer_50 : decode cX5_hearAnswer 50 = .ok (.ifCond .ne 5, 3) := by decide +kernel
theorem dX5_hearAnswer_53 : decode cX5_hearAnswer 53 = .ok (.iconst 5, 1) := by decide +kernel
theorem dX5_hearAnswer_54 : decode cX5_hearAnswer 54 = .ok (.ireturn, 1) := by decide +kernel
theorem dX5_hearAnswer_55 : decode cX5_hearAnswer 55 = .ok (.iload_n 1, 1) := by decide +kernel
theorem dX5_hearAnswer_56 : decode cX5_hearAnswer 56 = .ok (.invokestatic 180, 3) := by decide +kernel
theorem dX5_hearAnswer_59 : decode cX5_hearAnswer 59 = .ok (.iconst 1, 1) := by decide +kernel
theorem dX5_hearAnswer_60 : decode cX5_hearAnswer 60 = .ok (.if_icmp .le 10, 3) := by decide +kernel
theorem dX5_hearAnswer_63 : decode cX5_hearAnswer 63 = .ok (.aload_n 0, 1) := by decide +kernel
theorem dX5_hearAnswer_64 : decode cX5_hearAnswer 64 = .ok (.iload_n 1, 1) := by decide +kernel
theorem dX5_hearAnswer_65 : decode cX5_hearAnswer 65 = .ok (.putfield 53, 3) := by decide +kernel
theorem dX5_hearAnswer_68 : decode cX5_hearAnswer 68 = .ok (.iconst 1, 1) := by decide +kernel
theorem dX5_hearAnswer_69 : decode cX5_hearAnswer 69 = .ok (.ireturn, 1) := by decide +kernel
theorem dX5_hearAnswer_70 : decode cX5_hearAnswer 70 = .ok (.aload_n 0, 1) := by decide +kernel
theorem dX5_hearAnswer_71 : decode cX5_hearAnswer 71 = .ok (.getfield 26, 3) := by decide +kernel
theorem dX5_hearAnswer_74 : decode cX5_hearAnswer 74 = .ok (.aload_n 0, 1) := by decide +kernel
theorem dX5_hearAnswer_75 : decode cX5_hearAnswer 75 = .ok (.getfield 56, 3) := by decide +kernel
theorem dX5_hearAnswer_78 : decode cX5_hearAnswer 78 = .ok (.iload_n 1, 1) := by decide +kernel
theorem dX5_hearAnswer_79 : decode cX5_hearAnswer 79 = .ok (.invokevirtual 185, 3) := by decide +kernel
theorem dX5_hearAnswer_82 : decode cX5_hearAnswer 82 = .ok (.aload_n 0, 1) := by decide +kernel
theorem dX5_hearAnswer_83 : decode cX5_hearAnswer 83 = .ok (.invokevirtual 153, 3) := by decide +kernel
theorem dX5_hearAnswer_86 : decode cX5_hearAnswer 86 = .ok (.aload_n 0, 1) := by decide +kernel
theorem dX5_hearAnswer_87 : decode cX5_hearAnswer 87 = .ok (.invokevirtual 163, 3) := by decide +kernel
theorem dX5_hearAnswer_90 : decode cX5_hearAnswer 90 = .ok (.ireturn, 1) := by decide +kernel
theorem dX5_dropQuestion_0 : decode cX5_dropQuestion 0 = .ok (.aload_n 0, 1) := by decide +kernel
theorem dX5_dropQuestion_1 : decode cX5_dropQuestion 1 = .ok (.iconst 0, 1) := by decide +kernel
theorem dX5_dropQuestion_2 : decode cX5_dropQuestion 2 = .ok (.putfield 53, 3) := by decide +kernel
theorem dX5_dropQuestion_5 : decode cX5_dropQuestion 5 = .ok (.aload_n 0, 1) := by decide +kernel
theorem dX5_dropQuestion_6 : decode cX5_dropQuestion 6 = .ok (.iconst (-1), 1) := by decide +kernel
theorem dX5_dropQuestion_7 : decode cX5_dropQuestion 7 = .ok (.putfield 56, 3) := by decide +kernel
theorem dX5_dropQuestion_10 : decode cX5_dropQuestion 10 = .ok (.return_, 1) := by decide +kernel
set_option maxRecDepth 20000 in
theorem ggX5_lookAtOrder_X0_find : GoodIn wsX5_lookAtOrder wsX0_find := goodIn_r _ [10, 11, 12, 13, 14, 15, 16, 17, 18, 19, 20, 21, 22, 23, 24, 25, 26, 27, 28, 29, 30, 31, 32, 33, 9, 34, 35, 36, 37, 38, 39, 40, 41, 42, 43, 44, 45, 46, 47, 48, 49, 50, 51, 52, 53, 54, 55, 56, 57, 58, 59, 60, 61, 62, 63, 64, 65, 66, 67, 68, 69, 70, 71, 72, 73, 74, 75, 76, 77, 78, 79, 80, 81, 82, 83, 84, 85, 86, 87, 88, 89, 90, 91, 92, 93, 94, 95, 96, 97, 144, 145, 146, 147, 148, 149, 150, 151, 152, 153, 154, 155, 156, 157, 158, 159, 160, 161, 162, 163, 164, 165, 166, 167, 168, 169, 170, 171] (by decide +kernel) (by decide +kernel)
set_option maxRecDepth 20000 in
theorem gX5_lookAtOrder_X0_find : GoodIn wsX5_lookAtOrder (wsV RX5 189 RX0 yX0_find wsX0_find) := goodIn_app (goodIn_of _ (by decide +kernel)) ggX5_lookAtOrder_X0_find
set_option maxRecDepth 20000 in
theorem ggX5_lookAtOrder_X2_lastPlaceOf : GoodIn wsX5_lookAtOrder wsX2_lastPlaceOf := goodIn_r _ [101, 102, 54, 55, 56, 51, 57, 58, 153, 154, 155, 156, 157, 158, 159, 160] (by decide +kernel) (by decide +kernel)
set_option maxRecDepth 20000 in
theorem gX5_lookAtOrder_X2_lastPlaceOf : GoodIn wsX5_lookAtOrder (wsV RX5 150 RX2 yX2_lastPlaceOf wsX2_lastPlaceOf) := goodIn_app (goodIn_of _ (by decide +kernel)) ggX5_lookAtOrder_X2_lastPlaceOf
set_option maxRecDepth 20000 in
theorem ggX5_lookAtOrder_X5_carryOut : GoodIn wsX5_lookAtOrder wsX5_carryOut := goodIn_r _ [106, 1, 107, 2, 108, 109, 28, 29, 30, 110, 111, 112, 19, 113, 27, 22, 114, 115, 116, 117, 21, 118, 39, 40, 41, 42, 43, 17, 18, 20, 23, 24, 25, 26, 44, 45, 46, 47, 119, 120, 121, 122, 123, 124, 125, 126, 127, 128, 129, 130, 131, 132, 133, 84, 85, 86, 87, 88, 89, 134, 135, 136, 137, 138, 139, 140, 141, 142, 143, 144, 145, 146, 147, 148, 149, 150, 151, 152, 153, 154, 155, 156, 157, 158, 159, 160, 161, 162, 163, 164, 165, 166, 167, 168, 169, 170, 171] (by decide +kernel) (by decide +kernel)
set_option maxRecDepth 20000 in
theorem gX5_lookAtOrder_X5_carryOut : GoodIn wsX5_lookAtOrder (wsV RX5 198 RX5 yX5_carryOut wsX5_carryOut) := goodIn_app (goodIn_of _ (by decide +kernel)) ggX5_lookAtOrder_X5_carryOut
theorem dX5_lookAtOrder_0 : decode cX5_lookAtOrder 0 = .ok (.aload_n 0, 1) := by decide +kernel
theorem dX5_lookAtOrder_1 : decode cX5_lookAtOrder 1 = .ok (.getfield 42, 3) := by decide +kernel
theorem dX5_lookAtOrder_4 : decode cX5_lookAtOrder 4 = .ok (.invokevirtual 189, 3) := by decide +kernel
theorem dX5_lookAtOrder_7 : decode cX5_lookAtOrder 7 = .ok (.istore_n 1, 1) := by decide +kernel
theorem dX5_lookAtOrder_8 : decode cX5_lookAtOrder 8 = .ok (.iload_n 1, 1) := by decide +kernel
theorem dX5_lookAtOrder_9 : decode cX5_lookAtOrder 9 = .ok (.iconst 5, 1) := by decide +kernel
theorem dX5_lookAtOrder_10 : decode cX5_lookAtOrder 10 = .ok (.if_icmp .ne 24, 3) := by decide +kernel
theorem dX5_lookAtOrder_13 : decode cX5_lookAtOrder 13 = .ok (.aload_n 0, 1) := by decide +kernel
theorem dX5_lookAtOrder_14 : decode cX5_lookAtOrder 14 = .ok (.aload_n 0, 1) := by decide +kernel
theorem dX5_lookAtOrder_15 : decode cX5_lookAtOrder 15 = .ok (.getfield 26, 3) := by decide +kernel
theorem dX5_lookAtOrder_18 : decode cX5_lookAtOrder 18 = .ok (.aload_n 0, 1) := by decide +kernel
theorem dX5_lookAtOrder_19 : decode cX5_lookAtOrder 19 = .ok (.getfield 42, 3) := by decide +kernel
theorem dX5_lookAtOrder_22 : decode cX5_lookAtOrder 22 = .ok (.getfield 192, 3) := by decide +kernel
theorem dX5_lookAtOrder_25 : decode cX5_lookAtOrder 25 = .ok (.invokevirtual 150, 3) := by decide +kernel
theorem dX5_lookAtOrder_28 : decode cX5_lookAtOrder 28 = .ok (.putfield 50, 3) := by decide +kernel
theorem dX5_lookAtOrder_31 : decode cX5_lookAtOrder 31 = .ok (.goto 37, 3) := by decide +kernel
theorem dX5_lookAtOrder_34 : decode cX5_lookAtOrder 34 = .ok (.iload_n 1, 1) := by decide +kernel
theorem dX5_lookAtOrder_35 : decode cX5_lookAtOrder 35 = .ok (.iconst 1, 1) := by decide +kernel
theorem dX5_lookAtOrder_36 : decode cX5_lookAtOrder 36 = .ok (.if_icmp .ne 28, 3) := by decide +kernel
theorem dX5_lookAtOrder_39 : decode cX5_lookAtOrder 39 = .ok (.aload_n 0, 1) := by decide +kernel
theorem dX5_lookAtOrder_40 : decode cX5_lookAtOrder 40 = .ok (.aload_n 0, 1) := by decide +kernel
theorem dX5_lookAtOrder_41 : decode cX5_lookAtOrder 41 = .ok (.getfield 42, 3) := by decide +kernel
theorem dX5_lookAtOrder_44 : decode cX5_lookAtOrder 44 = .ok (.getfield 195, 3) := by decide +kernel
theorem dX5_lookAtOrder_47 : decode cX5_lookAtOrder 47 = .ok (.putfield 53, 3) := by decide +kernel
theorem dX5_lookAtOrder_50 : decode cX5_lookAtOrder 50 = .ok (.aload_n 0, 1) := by decide +kernel
theorem dX5_lookAtOrder_51 : decode cX5_lookAtOrder 51 = .ok (.aload_n 0, 1) := by decide +kernel
theorem dX5_lookAtOrder_52 : decode cX5_lookAtOrder 52 = .ok (.getfield 42, 3) := by decide +kernel
theorem dX5_lookAtOrder_55 : decode cX5_lookAtOrder 55 = .ok (.getfield 192, 3) := by decide +kernel
theorem dX5_lookAtOrder_58 : decode cX5_lookAtOrder 58 = .ok (.putfield 56, 3) := by decide +kernel
theorem dX5_lookAtOrder_61 : decode cX5_lookAtOrder 61 = .ok (.goto 7, 3) := by decide +kernel
theorem dX5_lookAtOrder_64 : decode cX5_lookAtOrder 64 = .ok (.aload_n 0, 1) := by decide +kernel
theorem dX5_lookAtOrder_65 : decode cX5_lookAtOrder 65 = .ok (.invokevirtual 198, 3) := by decide +kernel
theorem dX5_lookAtOrder_68 : decode cX5_lookAtOrder 68 = .ok (.iload_n 1, 1) := by decide +kernel
theorem dX5_lookAtOrder_69 : decode cX5_lookAtOrder 69 = .ok (.ireturn, 1) := by decide +kernel
set_option maxRecDepth 20000 in
theorem ggX5_carryOut_X5_contains : GoodIn wsX5_carryOut wsX5_contains := goodIn_r _ [8] (by decide +kernel) (by decide +kernel)
set_option maxRecDepth 20000 in
theorem gX5_carryOut_X5_contains : GoodIn wsX5_carryOut (va_wsS RX5 99 yX5_contains wsX5_contains) := goodIn_app (goodIn_of _ (by decide +kernel)) ggX5_carryOut_X5_contains
set_option maxRecDepth 20000 in
theorem ggX5_carryOut_X4_perform : GoodIn wsX5_carryOut wsX4_perform := goodIn_r _ [13, 14, 15, 16, 17, 18, 12, 19, 20, 21, 22, 23, 24, 25, 26, 27, 28, 29, 30, 31, 32, 33, 6, 7, 8, 34, 35, 36, 37, 38, 39, 40, 41, 86, 87, 88, 89, 90, 91] (by decide +kernel) (by decide +kernel)
set_option maxRecDepth 20000 in
theorem gX5_carryOut_X4_perform : GoodIn wsX5_carryOut (wsV RX5 210 RX4 yX4_perform wsX4_perform) := goodIn_app (goodIn_of _ (by decide +kernel)) ggX5_carryOut_X4_perform
set_option maxRecDepth 20000 in
theorem ggX5_carryOut_X1_keep : GoodIn wsX5_carryOut wsX1_keep := goodIn_r _ [46, 47, 48, 49, 50, 51, 52, 53, 54, 55, 56, 57, 58, 92, 93, 94, 95, 96] (by decide +kernel) (by decide +kernel)
set_option maxRecDepth 20000 in
theorem gX5_carryOut_X1_keep : GoodIn wsX5_carryOut (wsV RX5 214 RX1 yX1_keep wsX1_keep) := goodIn_app (goodIn_of _ (by decide +kernel)) ggX5_carryOut_X1_keep
theorem dX5_carryOut_0 : decode cX5_carryOut 0 = .ok (.iconst 0, 1) := by decide +kernel
theorem dX5_carryOut_1 : decode cX5_carryOut 1 = .ok (.istore_n 1, 1) := by decide +kernel
theorem dX5_carryOut_2 : decode cX5_carryOut 2 = .ok (.iconst 0, 1) := by decide +kernel
theorem dX5_carryOut_3 : decode cX5_carryOut 3 = .ok (.istore_n 2, 1) := by decide +kernel
theorem dX5_carryOut_4 : decode cX5_carryOut 4 = .ok (.iload_n 2, 1) := by decide +kernel
theorem dX5_carryOut_5 : decode cX5_carryOut 5 = .ok (.bipush 12, 2) := by decide +kernel
theorem dX5_carryOut_7 : decode cX5_carryOut 7 = .ok (.if_icmp .ge 54, 3) := by decide +kernel
theorem dX5_carryOut_10 : decode cX5_carryOut 10 = .ok (.aload_n 0, 1) := by decide +kernel
theorem dX5_carryOut_11 : decode cX5_carryOut 11 = .ok (.getfield 42, 3) := by decide +kernel
theorem dX5_carryOut_14 : decode cX5_carryOut 14 = .ok (.getfield 201, 3) := by decide +kernel
theorem dX5_carryOut_17 : decode cX5_carryOut 17 = .ok (.iload_n 2, 1) := by decide +kernel
theorem dX5_carryOut_18 : decode cX5_carryOut 18 = .ok (.invokestatic 99, 3) := by decide +kernel
theorem dX5_carryOut_21 : decode cX5_carryOut 21 = .ok (.ifCond .eq 34, 3) := by decide +kernel
theorem dX5_carryOut_24 : decode cX5_carryOut 24 = .ok (.aload_n 0, 1) := by decide +kernel
theorem dX5_carryOut_25 : decode cX5_carryOut 25 = .ok (.getfield 12, 3) := by decide +kernel
theorem dX5_carryOut_28 : decode cX5_carryOut 28 = .ok (.aload_n 0, 1) := by decide +kernel
theorem dX5_carryOut_29 : decode cX5_carryOut 29 = .ok (.getfield 26, 3) := by decide +kernel
theorem dX5_carryOut_32 : decode cX5_carryOut 32 = .ok (.getfield 204, 3) := by decide +kernel
theorem dX5_carryOut_35 : decode cX5_carryOut 35 = .ok (.iload_n 2, 1) := by decide +kernel
theorem dX5_carryOut_36 : decode cX5_carryOut 36 = .ok (.aload_n 0, 1) := by decide +kernel
theorem dX5_carryOut_37 : decode cX5_carryOut 37 = .ok (.getfield 42, 3) := by decide +kernel
theorem dX5_carryOut_40 : decode cX5_carryOut 40 = .ok (.getfield 207, 3) := by decide +kernel
theorem dX5_carryOut_43 : decode cX5_carryOut 43 = .ok (.invokevirtual 210, 3) := by decide +kernel
theorem dX5_carryOut_46 : decode cX5_carryOut 46 = .ok (.ifCond .eq 9, 3) := by decide +kernel
theorem dX5_carryOut_49 : decode cX5_carryOut 49 = .ok (.iload_n 1, 1) := by decide +kernel
theorem dX5_carryOut_50 : decode cX5_carryOut 50 = .ok (.iconst 1, 1) := by decide +kernel
theorem dX5_carryOut_51 : decode cX5_carryOut 51 = .ok (.iload_n 2, 1) := by decide +kernel
theorem dX5_carryOut_52 : decode cX5_carryOut 52 = .ok (.ishl, 1) := by decide +kernel
theorem dX5_carryOut_53 : decode cX5_carryOut 53 = .ok (.ior, 1) := by decide +kernel
theorem dX5_carryOut_54 : decode cX5_carryOut 54 = .ok (.istore_n 1, 1) := by decide +kernel
theorem dX5_carryOut_55 : decode cX5_carryOut 55 = .ok (.iinc 2 1, 3) := by decide +kernel
theorem dX5_carryOut_58 : decode cX5_carryOut 58 = .ok (.goto (-54), 3) := by decide +kernel
theorem dX5_carryOut_61 : decode cX5_carryOut 61 = .ok (.aload_n 0, 1) := by decide +kernel
theorem dX5_carryOut_62 : decode cX5_carryOut 62 = .ok (.getfield 33, 3) := by decide +kernel
theorem dX5_carryOut_65 : decode cX5_carryOut 65 = .ok (.aload_n 0, 1) := by decide +kernel
theorem dX5_carryOut_66 : decode cX5_carryOut 66 = .ok (.getfield 26, 3) := by decide +kernel
theorem dX5_carryOut_69 : decode cX5_carryOut 69 = .ok (.getfield 204, 3) := by decide +kernel
theorem dX5_carryOut_72 : decode cX5_carryOut 72 = .ok (.aload_n 0, 1) := by decide +kernel
theorem dX5_carryOut_73 : decode cX5_carryOut 73 = .ok (.getfield 42, 3) := by decide +kernel
theorem dX5_carryOut_76 : decode cX5_carryOut 76 = .ok (.getfield 201, 3) := by decide +kernel
theorem dX5_carryOut_79 : decode cX5_carryOut 79 = .ok (.iload_n 1, 1) := by decide +kernel
theorem dX5_carryOut_80 : decode cX5_carryOut 80 = .ok (.aload_n 0, 1) := by decide +kernel
theorem dX5_carryOut_81 : decode cX5_carryOut 81 = .ok (.getfield 42, 3) := by decide +kernel
theorem dX5_carryOut_84 : decode cX5_carryOut 84 = .ok (.getfield 207, 3) := by decide +kernel
theorem dX5_carryOut_87 : decode cX5_carryOut 87 = .ok (.invokevirtual 214, 3) := by decide +kernel
theorem dX5_carryOut_90 : decode cX5_carryOut 90 = .ok (.return_, 1) := by decide +kernel
theorem dX5_contains_0 : decode cX5_contains 0 = .ok (.iload_n 1, 1) := by decide +kernel
theorem dX5_contains_1 : decode cX5_contains 1 = .ok (.ifCond .lt 21, 3) := by decide +kernel
theorem dX5_contains_4 : decode cX5_contains 4 = .ok (.iload_n 1, 1) := by decide +kernel
theorem dX5_contains_5 : decode cX5_contains 5 = .ok (.bipush 12, 2) := by decide +kernel
theorem dX5_contains_7 : decode cX5_contains 7 = .ok (.if_icmp .ge 15, 3) := by decide +kernel
theorem dX5_contains_10 : decode cX5_contains 10 = .ok (.iload_n 0, 1) := by decide +kernel
theorem dX5_contains_11 : decode cX5_contains 11 = .ok (.iload_n 1, 1) := by decide +kernel
theorem dX5_contains_12 : decode cX5_contains 12 = .ok (.ishr, 1) := by decide +kernel
theorem dX5_contains_13 : decode cX5_contains 13 = .ok (.iconst 1, 1) := by decide +kernel
theorem dX5_contains_14 : decode cX5_contains 14 = .ok (.iand, 1) := by decide +kernel
theorem dX5_contains_15 : decode cX5_contains 15 = .ok (.ifCond .eq 7, 3) := by decide +kernel
theorem dX5_contains_18 : decode cX5_contains 18 = .ok (.iconst 1, 1) := by decide +kernel
theorem dX5_contains_19 : decode cX5_contains 19 = .ok (.goto 4, 3) := by decide +kernel
theorem dX5_contains_22 : decode cX5_contains 22 = .ok (.iconst 0, 1) := by decide +kernel
theorem dX5_contains_23 : decode cX5_contains 23 = .ok (.ireturn, 1) := by decide +kernel
theorem dX5_isBetween_0 : decode cX5_isBetween 0 = .ok (.iload_n 0, 1) := by decide +kernel
theorem dX5_isBetween_1 : decode cX5_isBetween 1 = .ok (.iload_n 1, 1) := by decide +kernel
theorem dX5_isBetween_2 : decode cX5_isBetween 2 = .ok (.if_icmp .lt 14, 3) := by decide +kernel
theorem dX5_isBetween_5 : decode cX5_isBetween 5 = .ok (.iload_n 0, 1) := by decide +kernel
theorem dX5_isBetween_6 : decode cX5_isBetween 6 = .ok (.iload_n 1, 1) := by decide +kernel
theorem dX5_isBetween_7 : decode cX5_isBetween 7 = .ok (.iload_n 2, 1) := by decide +kernel
theorem dX5_isBetween_8 : decode cX5_isBetween 8 = .ok (.iadd, 1) := by decide +kernel
theorem dX5_isBetween_9 : decode cX5_isBetween 9 = .ok (.if_icmp .ge 7, 3) := by decide +kernel
theorem dX5_isBetween_12 : decode cX5_isBetween 12 = .ok (.iconst 1, 1) := by decide +kernel
theorem dX5_isBetween_13 : decode cX5_isBetween 13 = .ok (.goto 4, 3) := by decide +kernel
theorem dX5_isBetween_16 : decode cX5_isBetween 16 = .ok (.iconst 0, 1) := by decide +kernel
theorem dX5_isBetween_17 : decode cX5_isBetween 17 = .ok (.ireturn, 1) := by decide +kernel
theorem dX5_isVerb_0 : decode cX5_isVerb 0 = .ok (.iload_n 0, 1) := by decide +kernel
theorem dX5_isVerb_1 : decode cX5_isVerb 1 = .ok (.ifCond .lt 12, 3) := by decide +kernel
theorem dX5_isVerb_4 : decode cX5_isVerb 4 = .ok (.iload_n 0, 1) := by decide +kernel
theorem dX5_isVerb_5 : decode cX5_isVerb 5 = .ok (.iconst 4, 1) := by decide +kernel
theorem dX5_isVerb_6 : decode cX5_isVerb 6 = .ok (.if_icmp .gt 7, 3) := by decide +kernel
theorem dX5_isVerb_9 : decode cX5_isVerb 9 = .ok (.iconst 1, 1) := by decide +kernel
theorem dX5_isVerb_10 : decode cX5_isVerb 10 = .ok (.goto 4, 3) := by decide +kernel
theorem dX5_isVerb_13 : decode cX5_isVerb 13 = .ok (.iconst 0, 1) := by decide +kernel
theorem dX5_isVerb_14 : decode cX5_isVerb 14 = .ok (.ireturn, 1) := by decide +kernel
set_option maxRecDepth 20000 in
theorem ggX5_isWord_X5_isVerb : GoodIn wsX5_isWord wsX5_isVerb := goodIn_r _ [4] (by decide +kernel) (by decide +kernel)
set_option maxRecDepth 20000 in
theorem gX5_isWord_X5_isVerb : GoodIn wsX5_isWord (va_wsS RX5 126 yX5_isVerb wsX5_isVerb) := goodIn_app (goodIn_of _ (by decide +kernel)) ggX5_isWord_X5_isVerb
set_option maxRecDepth 20000 in
theorem ggX5_isWord_X5_isBetween : GoodIn wsX5_isWord wsX5_isBetween := goodIn_r _ [7] (by decide +kernel) (by decide +kernel)
set_option maxRecDepth 20000 in
theorem gX5_isWord_X5_isBetween : GoodIn wsX5_isWord (va_wsS RX5 218 yX5_isBetween wsX5_isBetween) := goodIn_app (goodIn_of _ (by decide +kernel)) ggX5_isWord_X5_isBetween
theorem dX5_isWord_0 : decode cX5_isWord 0 = .ok (.iload_n 0, 1) := by decide +kernel
theorem dX5_isWord_1 : decode cX5_isWord 1 = .ok (.invokestatic 126, 3) := by decide +kernel
theorem dX5_isWord_4 : decode cX5_isWord 4 = .ok (.ifCond .ne 48, 3) := by decide +kernel
theorem dX5_isWord_7 : decode cX5_isWord 7 = .ok (.iload_n 0, 1) := by decide +kernel
theorem dX5_isWord_8 : decode cX5_isWord 8 = .ok (.bipush 10, 2) := by decide +kernel
theorem dX5_isWord_10 : decode cX5_isWord 10 = .ok (.if_icmp .lt 9, 3) := by decide +kernel
theorem dX5_isWord_13 : decode cX5_isWord 13 = .ok (.iload_n 0, 1) := by decide +kernel
theorem dX5_isWord_14 : decode cX5_isWord 14 = .ok (.bipush 17, 2) := by decide +kernel
theorem dX5_isWord_16 : decode cX5_isWord 16 = .ok (.if_icmp .le 36, 3) := by decide +kernel
theorem dX5_isWord_19 : decode cX5_isWord 19 = .ok (.iload_n 0, 1) := by decide +kernel
theorem dX5_isWord_20 : decode cX5_isWord 20 = .ok (.bipush 20, 2) := by decide +kernel
theorem dX5_isWord_22 : decode cX5_isWord 22 = .ok (.bipush 6, 2) := by decide +kernel
theorem dX5_isWord_24 : decode cX5_isWord 24 = .ok (.invokestatic 218, 3) := by decide +kernel
theorem dX5_isWord_27 : decode cX5_isWord 27 = .ok (.ifCond .ne 25, 3) := by decide +kernel
theorem dX5_isWord_30 : decode cX5_isWord 30 = .ok (.iload_n 0, 1) := by decide +kernel
theorem dX5_isWord_31 : decode cX5_isWord 31 = .ok (.bipush 30, 2) := by decide +kernel
theorem dX5_isWord_33 : decode cX5_isWord 33 = .ok (.bipush 8, 2) := by decide +kernel
theorem dX5_isWord_35 : decode cX5_isWord 35 = .ok (.invokestatic 218, 3) := by decide +kernel
theorem dX5_isWord_38 : decode cX5_isWord 38 = .ok (.ifCond .ne 14, 3) := by decide +kernel
theorem dX5_isWord_41 : decode cX5_isWord 41 = .ok (.iload_n 0, 1) := by decide +kernel
theorem dX5_isWord_42 : decode cX5_isWord 42 = .ok (.bipush 40, 2) := by decide +kernel
theorem dX5_isWord_44 : decode cX5_isWord 44 = .ok (.bipush 8, 2) := by decide +kernel
theorem dX5_isWord_46 : decode cX5_isWord 46 = .ok (.invokestatic 218, 3) := by decide +kernel
theorem dX5_isWord_49 : decode cX5_isWord 49 = .ok (.ifCond .eq 7, 3) := by decide +kernel
theorem dX5_isWord_52 : decode cX5_isWord 52 = .ok (.iconst 1, 1) := by decide +kernel
theorem dX5_isWord_53 : decode cX5_isWord 53 = .ok (.goto 4, 3) := by decide +kernel
theorem dX5_isWord_56 : decode cX5_isWord 56 = .ok (.iconst 0, 1) := by decide +kernel
theorem dX5_isWord_57 : decode cX5_isWord 57 = .ok (.ireturn, 1) := by decide +kernel
theorem dX6_init_0 : decode cX6_init 0 = .ok (.aload_n 0, 1) := by decide +kernel
theorem dX6_init_1 : decode cX6_init 1 = .ok (.invokespecial 1, 3) := by decide +kernel
theorem dX6_init_4 : decode cX6_init 4 = .ok (.aload_n 0, 1) := by decide +kernel
theorem dX6_init_5 : decode cX6_init 5 = .ok (.bipush 12, 2) := by decide +kernel
theorem dX6_init_7 : decode cX6_init 7 = .ok (.newarray .int, 2) := by decide +kernel
theorem dX6_init_9 : decode cX6_init 9 = .ok (.putfield 7, 3) := by decide +kernel
theorem dX6_init_12 : decode cX6_init 12 = .ok (.aload_n 0, 1) := by decide +kernel
theorem dX6_init_13 : decode cX6_init 13 = .ok (.bipush 12, 2) := by decide +kernel
theorem dX6_init_15 : decode cX6_init 15 = .ok (.newarray .int, 2) := by decide +kernel
theorem dX6_init_17 : decode cX6_init 17 = .ok (.putfield 13, 3) := by decide +kernel
theorem dX6_init_20 : decode cX6_init 20 = .ok (.aload_n 0, 1) := by decide +kernel
theorem dX6_init_21 : decode cX6_init 21 = .ok (.bipush 12, 2) := by decide +kernel
theorem dX6_init_23 : decode cX6_init 23 = .ok (.newarray .boolean, 2) := by decide +kernel
theorem dX6_init_25 : decode cX6_init 25 = .ok (.putfield 16, 3) := by decide +kernel
theorem dX6_init_28 : decode cX6_init 28 = .ok (.aload_n 0, 1) := by decide +kernel
theorem dX6_init_29 : decode cX6_init 29 = .ok (.bipush 12, 2) := by decide +kernel
theorem dX6_init_31 : decode cX6_init 31 = .ok (.newarray .boolean, 2) := by decide +kernel
theorem dX6_init_33 : decode cX6_init 33 = .ok (.putfield 20, 3) := by decide +kernel
theorem dX6_init_36 : decode cX6_init 36 = .ok (.aload_n 0, 1) := by decide +kernel
theorem dX6_init_37 : decode cX6_init 37 = .ok (.bipush 12, 2) := by decide +kernel
theorem dX6_init_39 : decode cX6_init 39 = .ok (.newarray .int, 2) := by decide +kernel
theorem dX6_init_41 : decode cX6_init 41 = .ok (.putfield 23, 3) := by decide +kernel
theorem dX6_init_44 : decode cX6_init 44 = .ok (.aload_n 0, 1) := by decide +kernel
theorem dX6_init_45 : decode cX6_init 45 = .ok (.bipush 24, 2) := by decide +kernel
theorem dX6_init_47 : decode cX6_init 47 = .ok (.newarray .int, 2) := by decide +kernel
theorem dX6_init_49 : decode cX6_init 49 = .ok (.putfield 26, 3) := by decide +kernel
theorem dX6_init_52 : decode cX6_init 52 = .ok (.aload_n 0, 1) := by decide +kernel
theorem dX6_init_53 : decode cX6_init 53 = .ok (.iconst (-1), 1) := by decide +kernel
theorem dX6_init_54 : decode cX6_init 54 = .ok (.putfield 29, 3) := by decide +kernel
theorem dX6_init_57 : decode cX6_init 57 = .ok (.aload_n 0, 1) := by decide +kernel
theorem dX6_init_58 : decode cX6_init 58 = .ok (.iconst (-1), 1) := by decide +kernel
theorem dX6_init_59 : decode cX6_init 59 = .ok (.putfield 33, 3) := by decide +kernel
theorem dX6_init_62 : decode cX6_init 62 = .ok (.aload_n 0, 1) := by decide +kernel
theorem dX6_init_63 : decode cX6_init 63 = .ok (.iconst (-1), 1) := by decide +kernel
theorem dX6_init_64 : decode cX6_init 64 = .ok (.putfield 36, 3) := by decide +kernel
theorem dX6_init_67 : decode cX6_init 67 = .ok (.aload_n 0, 1) := by decide +kernel
theorem dX6_init_68 : decode cX6_init 68 = .ok (.iconst (-1), 1) := by decide +kernel
theorem dX6_init_69 : decode cX6_init 69 = .ok (.putfield 39, 3) := by decide +kernel
theorem dX6_init_72 : decode cX6_init 72 = .ok (.aload_n 0, 1) := by decide +kernel
theorem dX6_init_73 : decode cX6_init 73 = .ok (.iconst (-1), 1) := by decide +kernel
theorem dX6_init_74 : decode cX6_init 74 = .ok (.putfield 42, 3) := by decide +kernel
theorem dX6_init_77 : decode cX6_init 77 = .ok (.aload_n 0, 1) := by decide +kernel
theorem dX6_init_78 : decode cX6_init 78 = .ok (.bipush 24, 2) := by decide +kernel
theorem dX6_init_80 : decode cX6_init 80 = .ok (.newarray .int, 2) := by decide +kernel
theorem dX6_init_82 : decode cX6_init 82 = .ok (.putfield 45, 3) := by decide +kernel
theorem dX6_init_85 : decode cX6_init 85 = .ok (.aload_n 0, 1) := by decide +kernel
theorem dX6_init_86 : decode cX6_init 86 = .ok (.bipush 24, 2) := by decide +kernel
theorem dX6_init_88 : decode cX6_init 88 = .ok (.newarray .int, 2) := by decide +kernel
theorem dX6_init_90 : decode cX6_init 90 = .ok (.putfield 48, 3) := by decide +kernel
theorem dX6_init_93 : decode cX6_init 93 = .ok (.aload_n 0, 1) := by decide +kernel
theorem dX6_init_94 : decode cX6_init 94 = .ok (.iconst (-1), 1) := by decide +kernel
theorem dX6_init_95 : decode cX6_init 95 = .ok (.putfield 51, 3) := by decide +kernel
theorem dX6_init_98 : decode cX6_init 98 = .ok (.return_, 1) := by decide +kernel
theorem dX6_thrown_0 : decode cX6_thrown 0 = .ok (.aload_n 0, 1) := by decide +kernel
theorem dX6_thrown_1 : decode cX6_thrown 1 = .ok (.getfield 54, 3) := by decide +kernel
theorem dX6_thrown_4 : decode cX6_thrown 4 = .ok (.ireturn, 1) := by decide +kernel
theorem dX6_may_0 : decode cX6_may 0 = .ok (.aload_n 0, 1) := by decide +kernel
theorem dX6_may_1 : decode cX6_may 1 = .ok (.iload_n 1, 1) := by decide +kernel
theorem dX6_may_2 : decode cX6_may 2 = .ok (.ifCond .eq 7, 3) := by decide +kernel
theorem dX6_may_5 : decode cX6_may 5 = .ok (.iconst 0, 1) := by decide +kernel
theorem dX6_may_6 : decode cX6_may 6 = .ok (.goto 4, 3) := by decide +kernel
theorem dX6_may_9 : decode cX6_may 9 = .ok (.iconst 1, 1) := by decide +kernel
theorem dX6_may_10 : decode cX6_may 10 = .ok (.putfield 54, 3) := by decide +kernel
theorem dX6_may_13 : decode cX6_may 13 = .ok (.iload_n 1, 1) := by decide +kernel
theorem dX6_may_14 : decode cX6_may 14 = .ok (.ireturn, 1) := by decide +kernel
theorem dX6_mayBoth_0 : decode cX6_mayBoth 0 = .ok (.aload_n 0, 1) := by decide +kernel
theorem dX6_mayBoth_1 : decode cX6_mayBoth 1 = .ok (.iload_n 1, 1) := by decide +kernel
theorem dX6_mayBoth_2 : decode cX6_mayBoth 2 = .ok (.ifCond .ne 7, 3) := by decide +kernel
theorem dX6_mayBoth_5 : decode cX6_mayBoth 5 = .ok (.iconst 1, 1) := by decide +kernel
theorem dX6_mayBoth_6 : decode cX6_mayBoth 6 = .ok (.goto 12, 3) := by decide +kernel
theorem dX6_mayBoth_9 : decode cX6_mayBoth 9 = .ok (.iload_n 2, 1) := by decide +kernel
theorem dX6_mayBoth_10 : decode cX6_mayBoth 10 = .ok (.ifCond .ne 7, 3) := by decide +kernel
theorem dX6_mayBoth_13 : decode cX6_mayBoth 13 = .ok (.iconst 2, 1) := by decide +kernel
theorem dX6_mayBoth_14 : decode cX6_mayBoth 14 = .ok (.goto 4, 3) := by decide +kernel
theorem dX6_mayBoth_17 : decode cX6_mayBoth 17 = .ok (.iconst 0, 1) := by decide +kernel
theorem dX6_mayBoth_18 : decode cX6_mayBoth 18 = .ok (.putfield 54, 3) := by decide +kernel
theorem dX6_mayBoth_21 : decode cX6_mayBoth 21 = .ok (.aload_n 0, 1) := by decide +kernel
theorem dX6_mayBoth_22 : decode cX6_mayBoth 22 = .ok (.getfield 54, 3) := by decide +kernel
theorem dX6_mayBoth_25 : decode cX6_mayBoth 25 = .ok (.ifCond .ne 7, 3) := by decide +kernel
theorem dX6_mayBoth_28 : decode cX6_mayBoth 28 = .ok (.iconst 1, 1) := by decide +kernel
theorem dX6_mayBoth_29 : decode cX6_mayBoth 29 = .ok (.goto 4, 3) := by decide +kernel
theorem dX6_mayBoth_32 : decode cX6_mayBoth 32 = .ok (.iconst 0, 1) := by decide +kernel
theorem dX6_mayBoth_33 : decode cX6_mayBoth 33 = .ok (.ireturn, 1) := by decide +kernel
set_option maxRecDepth 20000 in
theorem ggX6_thing_X6_mayBoth : GoodIn wsX6_thing wsX6_mayBoth := goodIn_r _ [10, 11, 12, 13, 14, 15, 16, 17, 18, 19, 20, 21, 22, 23, 24, 25, 26, 27, 28, 29, 30, 31, 32, 33, 34, 35, 36] (by decide +kernel) (by decide +kernel)
set_option maxRecDepth 20000 in
theorem gX6_thing_X6_mayBoth : GoodIn wsX6_thing (wsV RX6 60 RX6 yX6_mayBoth wsX6_mayBoth) := goodIn_app (goodIn_of _ (by decide +kernel)) ggX6_thing_X6_mayBoth
theorem dX6_thing_0 : decode cX6_thing 0 = .ok (.aload_n 0, 1) := by decide +kernel
theorem dX6_thing_1 : decode cX6_thing 1 = .ok (.iload_n 1, 1) := by decide +kernel
theorem dX6_thing_2 : decode cX6_thing 2 = .ok (.ifCond .lt 23, 3) := by decide +kernel
theorem dX6_thing_5 : decode cX6_thing 5 = .ok (.iload_n 1, 1) := by decide +kernel
theorem dX6_thing_6 : decode cX6_thing 6 = .ok (.bipush 7, 2) := by decide +kernel
theorem dX6_thing_8 : decode cX6_thing 8 = .ok (.if_icmp .gt 17, 3) := by decide +kernel
theorem dX6_thing_11 : decode cX6_thing 11 = .ok (.iload_n 2, 1) := by decide +kernel
theorem dX6_thing_12 : decode cX6_thing 12 = .ok (.ifCond .lt 13, 3) := by decide +kernel
theorem dX6_thing_15 : decode cX6_thing 15 = .ok (.iload_n 2, 1) := by decide +kernel
theorem dX6_thing_16 : decode cX6_thing 16 = .ok (.bipush 63, 2) := by decide +kernel
theorem dX6_thing_18 : decode cX6_thing 18 = .ok (.if_icmp .gt 7, 3) := by decide +kernel
theorem dX6_thing_21 : decode cX6_thing 21 = .ok (.iconst 1, 1) := by decide +kernel
theorem dX6_thing_22 : decode cX6_thing 22 = .ok (.goto 4, 3) := by decide +kernel
theorem dX6_thing_25 : decode cX6_thing 25 = .ok (.iconst 0, 1) := by decide +kernel
theorem dX6_thing_26 : decode cX6_thing 26 = .ok (.aload_n 0, 1) := by decide +kernel
theorem dX6_thing_27 : decode cX6_thing 27 = .ok (.getfield 57, 3) := by decide +kernel
theorem dX6_thing_30 : decode cX6_thing 30 = .ok (.bipush 12, 2) := by decide +kernel
theorem dX6_thing_32 : decode cX6_thing 32 = .ok (.if_icmp .ge 7, 3) := by decide +kernel
theorem dX6_thing_35 : decode cX6_thing 35 = .ok (.iconst 1, 1) := by decide +kernel
theorem dX6_thing_36 : decode cX6_thing 36 = .ok (.goto 4, 3) := by decide +kernel
theorem dX6_thing_39 : decode cX6_thing 39 = .ok (.iconst 0, 1) := by decide +kernel
theorem dX6_thing_40 : decode cX6_thing 40 = .ok (.invokevirtual 60, 3) := by decide +kernel
theorem dX6_thing_43 : decode cX6_thing 43 = .ok (.ifCond .ne 5, 3) := by decide +kernel
theorem dX6_thing_46 : decode cX6_thing 46 = .ok (.iconst 0, 1) := by decide +kernel
theorem dX6_thing_47 : decode cX6_thing 47 = .ok (.ireturn, 1) := by decide +kernel
theorem dX6_thing_48 : decode cX6_thing 48 = .ok (.aload_n 0, 1) := by decide +kernel
theorem dX6_thing_49 : decode cX6_thing 49 = .ok (.getfield 7, 3) := by decide +kernel
theorem dX6_thing_52 : decode cX6_thing 52 = .ok (.aload_n 0, 1) := by decide +kernel
theorem dX6_thing_53 : decode cX6_thing 53 = .ok (.getfield 57, 3) := by decide +kernel
theorem dX6_thing_56 : decode cX6_thing 56 = .ok (.iload_n 1, 1) := by decide +kernel
theorem dX6_thing_57 : decode cX6_thing 57 = .ok (.iastore, 1) := by decide +kernel
theorem dX6_thing_58 : decode cX6_thing 58 = .ok (.aload_n 0, 1) := by decide +kernel
theorem dX6_thing_59 : decode cX6_thing 59 = .ok (.getfield 13, 3) := by decide +kernel
theorem dX6_thing_62 : decode cX6_thing 62 = .ok (.aload_n 0, 1) := by decide +kernel
theorem dX6_thing_63 : decode cX6_thing 63 = .ok (.getfield 57, 3) := by decide +kernel
theorem dX6_thing_66 : decode cX6_thing 66 = .ok (.iload_n 2, 1) := by decide +kernel
theorem dX6_thing_67 : decode cX6_thing 67 = .ok (.iastore, 1) := by decide +kernel
theorem dX6_thing_68 : decode cX6_thing 68 = .ok (.aload_n 0, 1) := by decide +kernel
theorem dX6_thing_69 : decode cX6_thing 69 = .ok (.getfield 16, 3) := by decide +kernel
theorem dX6_thing_72 : decode cX6_thing 72 = .ok (.aload_n 0, 1) := by decide +kernel
theorem dX6_thing_73 : decode cX6_thing 73 = .ok (.getfield 57, 3) := by decide +kernel
theorem dX6_thing_76 : decode cX6_thing 76 = .ok (.iload_n 3, 1) := by decide +kernel
theorem dX6_thing_77 : decode cX6_thing 77 = .ok (.bastore, 1) := by decide +kernel
theorem dX6_thing_78 : decode cX6_thing 78 = .ok (.aload_n 0, 1) := by decide +kernel
theorem dX6_thing_79 : decode cX6_thing 79 = .ok (.getfield 23, 3) := by decide +kernel
theorem dX6_thing_82 : decode cX6_thing 82 = .ok (.aload_n 0, 1) := by decide +kernel
theorem dX6_thing_83 : decode cX6_thing 83 = .ok (.getfield 57, 3) := by decide +kernel
theorem dX6_thing_86 : decode cX6_thing 86 = .ok (.bipush (-2), 2) := by decide +kernel
theorem dX6_thing_88 : decode cX6_thing 88 = .ok (.iastore, 1) := by decide +kernel
theorem dX6_thing_89 : decode cX6_thing 89 = .ok (.aload_n 0, 1) := by decide +kernel
theorem dX6_thing_90 : decode cX6_thing 90 = .ok (.dup, 1) := by decide +kernel
theorem dX6_thing_91 : decode cX6_thing 91 = .ok (.getfield 57, 3) := by decide +kernel
theorem dX6_thing_94 : decode cX6_thing 94 = .ok (.iconst 1, 1) := by decide +kernel
theorem dX6_thing_95 : decode cX6_thing 95 = .ok (.iadd, 1) := by decide +kernel
theorem dX6_thing_96 : decode cX6_thing 96 = .ok (.putfield 57, 3) := by decide +kernel
theorem dX6_thing_99 : decode cX6_thing 99 = .ok (.aload_n 0, 1) := by decide +kernel
theorem dX6_thing_100 : decode cX6_thing 100 = .ok (.getfield 57, 3) := by decide +kernel
theorem dX6_thing_103 : decode cX6_thing 103 = .ok (.iconst 1, 1) := by decide +kernel
theorem dX6_thing_104 : decode cX6_thing 104 = .ok (.isub, 1) := by decide +kernel
theorem dX6_thing_105 : decode cX6_thing 105 = .ok (.ireturn, 1) := by decide +kernel
theorem dX6_isThing_0 : decode cX6_isThing 0 = .ok (.iload_n 1, 1) := by decide +kernel
theorem dX6_isThing_1 : decode cX6_isThing 1 = .ok (.ifCond .lt 15, 3) := by decide +kernel
theorem dX6_isThing_4 : decode cX6_isThing 4 = .ok (.iload_n 1, 1) := by decide +kernel
theorem dX6_isThing_5 : decode cX6_isThing 5 = .ok (.aload_n 0, 1) := by decide +kernel
theorem dX6_isThing_6 : decode cX6_isThing 6 = .ok (.getfield 57, 3) := by decide +kernel
theorem dX6_isThing_9 : decode cX6_isThing 9 = .ok (.if_icmp .ge 7, 3) := by decide +kernel
theorem dX6_isThing_12 : decode cX6_isThing 12 = .ok (.iconst 1, 1) := by decide +kernel
theorem dX6_isThing_13 : decode cX6_isThing 13 = .ok (.goto 4, 3) := by decide +kernel
theorem dX6_isThing_16 : decode cX6_isThing 16 = .ok (.iconst 0, 1) := by decide +kernel
theorem dX6_isThing_17 : decode cX6_isThing 17 = .ok (.ireturn, 1) := by decide +kernel
set_option maxRecDepth 20000 in
theorem ggX6_placeOf_X6_isThing : GoodIn wsX6_placeOf wsX6_isThing := goodIn_r _ [6, 7, 13, 14, 15, 16, 17, 18, 19, 20, 21, 22, 23, 24, 25, 26, 27, 28, 29, 30, 31, 32, 33, 34, 35, 36, 37] (by decide +kernel) (by decide +kernel)
set_option maxRecDepth 20000 in
theorem gX6_placeOf_X6_isThing : GoodIn wsX6_placeOf (wsV RX6 64 RX6 yX6_isThing wsX6_isThing) := goodIn_app (goodIn_of _ (by decide +kernel)) ggX6_placeOf_X6_isThing
set_option maxRecDepth 20000 in
theorem ggX6_placeOf_X6_may : GoodIn wsX6_placeOf wsX6_may := goodIn_r _ [11, 12, 13, 14, 15, 16, 17, 18, 19, 20, 21, 22, 23, 24, 25, 26, 27, 28, 29, 30, 31, 32, 33, 34, 35, 36, 37] (by decide +kernel) (by decide +kernel)
set_option maxRecDepth 20000 in
theorem gX6_placeOf_X6_may : GoodIn wsX6_placeOf (wsV RX6 68 RX6 yX6_may wsX6_may) := goodIn_app (goodIn_of _ (by decide +kernel)) ggX6_placeOf_X6_may
theorem dX6_placeOf_0 : decode cX6_placeOf 0 = .ok (.aload_n 0, 1) := by decide +kernel
theorem dX6_placeOf_1 : decode cX6_placeOf 1 = .ok (.aload_n 0, 1) := by decide +kernel
theorem dX6_placeOf_2 : decode cX6_placeOf 2 = .ok (.iload_n 1, 1) := by decide +kernel
theorem dX6_placeOf_3 : decode cX6_placeOf 3 = .ok (.invokevirtual 64, 3) := by decide +kernel
theorem dX6_placeOf_6 : decode cX6_placeOf 6 = .ok (.invokevirtual 68, 3) := by decide +kernel
theorem dX6_placeOf_9 : decode cX6_placeOf 9 = .ok (.ifCond .eq 12, 3) := by decide +kernel
theorem dX6_placeOf_12 : decode cX6_placeOf 12 = .ok (.aload_n 0, 1) := by decide +kernel
theorem dX6_placeOf_13 : decode cX6_placeOf 13 = .ok (.getfield 23, 3) := by decide +kernel
theorem dX6_placeOf_16 : decode cX6_placeOf 16 = .ok (.iload_n 1, 1) := by decide +kernel
theorem dX6_placeOf_17 : decode cX6_placeOf 17 = .ok (.iaload, 1) := by decide +kernel
theorem dX6_placeOf_18 : decode cX6_placeOf 18 = .ok (.goto 4, 3) := by decide +kernel
theorem dX6_placeOf_21 : decode cX6_placeOf 21 = .ok (.iconst 0, 1) := by decide +kernel
theorem dX6_placeOf_22 : decode cX6_placeOf 22 = .ok (.ireturn, 1) := by decide +kernel
set_option maxRecDepth 20000 in
theorem ggX6_isOpen_X6_isThing : GoodIn wsX6_isOpen wsX6_isThing := goodIn_r _ [6, 7, 13, 14, 15, 16, 17, 18, 19, 20, 21, 22, 23, 24, 25, 26, 27, 28, 29, 30, 31, 32, 33, 34, 35, 36, 37] (by decide +kernel) (by decide +kernel)
set_option maxRecDepth 20000 in
theorem gX6_isOpen_X6_isThing : GoodIn wsX6_isOpen (wsV RX6 64 RX6 yX6_isThing wsX6_isThing) := goodIn_app (goodIn_of _ (by decide +kernel)) ggX6_isOpen_X6_isThing
set_option maxRecDepth 20000 in
theorem ggX6_isOpen_X6_may : GoodIn wsX6_isOpen wsX6_may := goodIn_r _ [11, 12, 13, 14, 15, 16, 17, 18, 19, 20, 21, 22, 23, 24, 25, 26, 27, 28, 29, 30, 31, 32, 33, 34, 35, 36, 37] (by decide +kernel) (by decide +kernel)
set_option maxRecDepth 20000 in
theorem gX6_isOpen_X6_may : GoodIn wsX6_isOpen (wsV RX6 68 RX6 yX6_may wsX6_may) := goodIn_app (goodIn_of _ (by decide +kernel)) ggX6_isOpen_X6_may
theorem dX6_isOpen_0 : decode cX6_isOpen 0 = .ok (.aload_n 0, 1) := by decide +kernel
theorem dX6_isOpen_1 : decode cX6_isOpen 1 = .ok (.aload_n 0, 1) := by decide +kernel
theorem dX6_isOpen_2 : decode cX6_isOpen 2 = .ok (.iload_n 1, 1) := by decide +kernel
theorem dX6_isOpen_3 : decode cX6_isOpen 3 = .ok (.invokevirtual 64, 3) := by decide +kernel
theorem dX6_isOpen_6 : decode cX6_isOpen 6 = .ok (.invokevirtual 68, 3) := by decide +kernel
theorem dX6_isOpen_9 : decode cX6_isOpen 9 = .ok (.ifCond .eq 16, 3) := by decide +kernel
theorem dX6_isOpen_12 : decode cX6_isOpen 12 = .ok (.aload_n 0, 1) := by decide +kernel
theorem dX6_isOpen_13 : decode cX6_isOpen 13 = .ok (.getfield 20, 3) := by decide +kernel
theorem dX6_isOpen_16 : decode cX6_isOpen 16 = .ok (.iload_n 1, 1) := by decide +kernel
theorem dX6_isOpen_17 : decode cX6_isOpen 17 = .ok (.baload, 1) := by decide +kernel
theorem dX6_isOpen_18 : decode cX6_isOpen 18 = .ok (.ifCond .eq 7, 3) := by decide +kernel
theorem dX6_isOpen_21 : decode cX6_isOpen 21 = .ok (.iconst 1, 1) := by decide +kernel
theorem dX6_isOpen_22 : decode cX6_isOpen 22 = .ok (.goto 4, 3) := by decide +kernel
theorem dX6_isOpen_25 : decode cX6_isOpen 25 = .ok (.iconst 0, 1) := by decide +kernel
theorem dX6_isOpen_26 : decode cX6_isOpen 26 = .ok (.ireturn, 1) := by decide +kernel
theorem dX6_reaches_0 : decode cX6_reaches 0 = .ok (.aload_n 0, 1) := by decide +kernel
theorem dX6_reaches_1 : decode cX6_reaches 1 = .ok (.getfield 23, 3) := by decide +kernel
theorem dX6_reaches_4 : decode cX6_reaches 4 = .ok (.iload_n 1, 1) := by decide +kernel
theorem dX6_reaches_5 : decode cX6_reaches 5 = .ok (.iaload, 1) := by decide +kernel
theorem dX6_reaches_6 : decode cX6_reaches 6 = .ok (.istore_n 2, 1) := by decide +kernel
theorem dX6_reaches_7 : decode cX6_reaches 7 = .ok (.iload_n 2, 1) := by decide +kernel
theorem dX6_reaches_8 : decode cX6_reaches 8 = .ok (.ifCond .lt 24, 3) := by decide +kernel
theorem dX6_reaches_11 : decode cX6_reaches 11 = .ok (.aload_n 0, 1) := by decide +kernel
theorem dX6_reaches_12 : decode cX6_reaches 12 = .ok (.getfield 20, 3) := by decide +kernel
theorem dX6_reaches_15 : decode cX6_reaches 15 = .ok (.iload_n 2, 1) := by decide +kernel
theorem dX6_reaches_16 : decode cX6_reaches 16 = .ok (.baload, 1) := by decide +kernel
theorem dX6_reaches_17 : decode cX6_reaches 17 = .ok (.ifCond .ne 5, 3) := by decide +kernel
theorem dX6_reaches_20 : decode cX6_reaches 20 = .ok (.iconst 0, 1) := by decide +kernel
theorem dX6_reaches_21 : decode cX6_reaches 21 = .ok (.ireturn, 1) := by decide +kernel
theorem dX6_reaches_22 : decode cX6_reaches 22 = .ok (.aload_n 0, 1) := by decide +kernel
theorem dX6_reaches_23 : decode cX6_reaches 23 = .ok (.getfield 23, 3) := by decide +kernel
theorem dX6_reaches_26 : decode cX6_reaches 26 = .ok (.iload_n 2, 1) := by decide +kernel
theorem dX6_reaches_27 : decode cX6_reaches 27 = .ok (.iaload, 1) := by decide +kernel
theorem dX6_reaches_28 : decode cX6_reaches 28 = .ok (.istore_n 2, 1) := by decide +kernel
theorem dX6_reaches_29 : decode cX6_reaches 29 = .ok (.goto (-22), 3) := by decide +kernel
theorem dX6_reaches_32 : decode cX6_reaches 32 = .ok (.iconst 1, 1) := by decide +kernel
theorem dX6_reaches_33 : decode cX6_reaches 33 = .ok (.ireturn, 1) := by decide +kernel
theorem dX6_isInside_0 : decode cX6_isInside 0 = .ok (.aload_n 0, 1) := by decide +kernel
theorem dX6_isInside_1 : decode cX6_isInside 1 = .ok (.getfield 23, 3) := by decide +kernel
theorem dX6_isInside_4 : decode cX6_isInside 4 = .ok (.iload_n 1, 1) := by decide +kernel
theorem dX6_isInside_5 : decode cX6_isInside 5 = .ok (.iaload, 1) := by decide +kernel
theorem dX6_isInside_6 : decode cX6_isInside 6 = .ok (.istore_n 3, 1) := by decide +kernel
theorem dX6_isInside_7 : decode cX6_isInside 7 = .ok (.iload_n 3, 1) := by decide +kernel
theorem dX6_isInside_8 : decode cX6_isInside 8 = .ok (.ifCond .lt 18, 3) := by decide +kernel
theorem dX6_isInside_11 : decode cX6_isInside 11 = .ok (.iload_n 3, 1) := by decide +kernel
theorem dX6_isInside_12 : decode cX6_isInside 12 = .ok (.iload_n 2, 1) := by decide +kernel
theorem dX6_isInside_13 : decode cX6_isInside 13 = .ok (.if_icmp .eq 13, 3) := by decide +kernel
theorem dX6_isInside_16 : decode cX6_isInside 16 = .ok (.aload_n 0, 1) := by decide +kernel
theorem dX6_isInside_17 : decode cX6_isInside 17 = .ok (.getfield 23, 3) := by decide +kernel
theorem dX6_isInside_20 : decode cX6_isInside 20 = .ok (.iload_n 3, 1) := by decide +kernel
theorem dX6_isInside_21 : decode cX6_isInside 21 = .ok (.iaload, 1) := by decide +kernel
theorem dX6_isInside_22 : decode cX6_isInside 22 = .ok (.istore_n 3, 1) := by decide +kernel
theorem dX6_isInside_23 : decode cX6_isInside 23 = .ok (.goto (-16), 3) := by decide +kernel
theorem dX6_isInside_26 : decode cX6_isInside 26 = .ok (.iload_n 3, 1) := by decide +kernel
theorem dX6_isInside_27 : decode cX6_isInside 27 = .ok (.iload_n 2, 1) := by decide +kernel
theorem dX6_isInside_28 : decode cX6_isInside 28 = .ok (.if_icmp .ne 7, 3) := by decide +kernel
theorem dX6_isInside_31 : decode cX6_isInside 31 = .ok (.iconst 1, 1) := by decide +kernel
theorem dX6_isInside_32 : decode cX6_isInside 32 = .ok (.goto 4, 3) := by decide +kernel
theorem dX6_isInside_35 : decode cX6_isInside 35 = .ok (.iconst 0, 1) := by decide +kernel
theorem dX6_isInside_36 : decode cX6_isInside 36 = .ok (.ireturn, 1) := by decide +kernel
set_option maxRecDepth 20000 in
theorem ggX6_reachable_X6_reaches : GoodIn wsX6_reachable wsX6_reaches := goodIn_r _ [6, 7, 8, 9, 10, 11, 12, 13, 14, 15, 16, 17, 18, 19, 20, 21, 22, 23, 24, 25, 26, 27, 28, 29, 30, 31, 32, 33] (by decide +kernel) (by decide +kernel)
set_option maxRecDepth 20000 in
theorem gX6_reachable_X6_reaches : GoodIn wsX6_reachable (wsV RX6 72 RX6 yX6_reaches wsX6_reaches) := goodIn_app (goodIn_of _ (by decide +kernel)) ggX6_reachable_X6_reaches
theorem dX6_reachable_0 : decode cX6_reachable 0 = .ok (.iconst 0, 1) := by decide +kernel
theorem dX6_reachable_1 : decode cX6_reachable 1 = .ok (.istore_n 1, 1) := by decide +kernel
theorem dX6_reachable_2 : decode cX6_reachable 2 = .ok (.iconst 0, 1) := by decide +kernel
theorem dX6_reachable_3 : decode cX6_reachable 3 = .ok (.istore_n 2, 1) := by decide +kernel
theorem dX6_reachable_4 : decode cX6_reachable 4 = .ok (.iload_n 2, 1) := by decide +kernel
theorem dX6_reachable_5 : decode cX6_reachable 5 = .ok (.aload_n 0, 1) := by decide +kernel
theorem dX6_reachable_6 : decode cX6_reachable 6 = .ok (.getfield 57, 3) := by decide +kernel
theorem dX6_reachable_9 : decode cX6_reachable 9 = .ok (.if_icmp .ge 27, 3) := by decide +kernel
theorem dX6_reachable_12 : decode cX6_reachable 12 = .ok (.iload_n 1, 1) := by decide +kernel
theorem dX6_reachable_13 : decode cX6_reachable 13 = .ok (.aload_n 0, 1) := by decide +kernel
theorem dX6_reachable_14 : decode cX6_reachable 14 = .ok (.iload_n 2, 1) := by decide +kernel
theorem dX6_reachable_15 : decode cX6_reachable 15 = .ok (.invokevirtual 72, 3) := by decide +kernel
theorem dX6_reachable_18 : decode cX6_reachable 18 = .ok (.ifCond .eq 9, 3) := by decide +kernel
theorem dX6_reachable_21 : decode cX6_reachable 21 = .ok (.iconst 1, 1) := by decide +kernel
theorem dX6_reachable_22 : decode cX6_reachable 22 = .ok (.iload_n 2, 1) := by decide +kernel
theorem dX6_reachable_23 : decode cX6_reachable 23 = .ok (.ishl, 1) := by decide +kernel
theorem dX6_reachable_24 : decode cX6_reachable 24 = .ok (.goto 4, 3) := by decide +kernel
theorem dX6_reachable_27 : decode cX6_reachable 27 = .ok (.iconst 0, 1) := by decide +kernel
theorem dX6_reachable_28 : decode cX6_reachable 28 = .ok (.ior, 1) := by decide +kernel
theorem dX6_reachable_29 : decode cX6_reachable 29 = .ok (.istore_n 1, 1) := by decide +kernel
theorem dX6_reachable_30 : decode cX6_reachable 30 = .ok (.iinc 2 1, 3) := by decide +kernel
theorem dX6_reachable_33 : decode cX6_reachable 33 = .ok (.goto (-29), 3) := by decide +kernel
theorem dX6_reachable_36 : decode cX6_reachable 36 = .ok (.iload_n 1, 1) := by decide +kernel
theorem dX6_reachable_37 : decode cX6_reachable 37 = .ok (.ireturn, 1) := by decide +kernel
set_option maxRecDepth 20000 in
theorem ggX6_inReach_X6_reachable : GoodIn wsX6_inReach wsX6_reachable := goodIn_r _ [6, 7, 8, 9, 10, 5, 11, 12, 13, 14, 15, 16, 17, 18, 19, 20, 21, 22, 23, 24, 25, 26, 27, 28, 29, 30, 31, 32, 33, 34, 35, 36, 37, 38] (by decide +kernel) (by decide +kernel)
set_option maxRecDepth 20000 in
theorem gX6_inReach_X6_reachable : GoodIn wsX6_inReach (wsV RX6 75 RX6 yX6_reachable wsX6_reachable) := goodIn_app (goodIn_of _ (by decide +kernel)) ggX6_inReach_X6_reachable
theorem dX6_inReach_0 : decode cX6_inReach 0 = .ok (.aload_n 0, 1) := by decide +kernel
theorem dX6_inReach_1 : decode cX6_inReach 1 = .ok (.iconst 0, 1) := by decide +kernel
theorem dX6_inReach_2 : decode cX6_inReach 2 = .ok (.putfield 54, 3) := by decide +kernel
theorem dX6_inReach_5 : decode cX6_inReach 5 = .ok (.aload_n 0, 1) := by decide +kernel
theorem dX6_inReach_6 : decode cX6_inReach 6 = .ok (.invokevirtual 75, 3) := by decide +kernel
theorem dX6_inReach_9 : decode cX6_inReach 9 = .ok (.ireturn, 1) := by decide +kernel
set_option maxRecDepth 20000 in
theorem ggX6_suits_X6_reaches : GoodIn wsX6_suits wsX6_reaches := goodIn_r _ [8, 1, 3, 9, 10, 11, 12, 13, 14, 15, 16, 17, 18, 19, 20, 21, 22, 23, 24, 25, 26, 27, 28, 29, 30, 31, 32, 33] (by decide +kernel) (by decide +kernel)
set_option maxRecDepth 20000 in
theorem gX6_suits_X6_reaches : GoodIn wsX6_suits (wsV RX6 72 RX6 yX6_reaches wsX6_reaches) := goodIn_app (goodIn_of _ (by decide +kernel)) ggX6_suits_X6_reaches
theorem dX6_suits_0 : decode cX6_suits 0 = .ok (.aload_n 0, 1) := by decide +kernel
theorem dX6_suits_1 : decode cX6_suits 1 = .ok (.iload_n 2, 1) := by decide +kernel
theorem dX6_suits_2 : decode cX6_suits 2 = .ok (.invokevirtual 72, 3) := by decide +kernel
theorem dX6_suits_5 : decode cX6_suits 5 = .ok (.ifCond .ne 5, 3) := by decide +kernel
theorem dX6_suits_8 : decode cX6_suits 8 = .ok (.iconst 0, 1) := by decide +kernel
theorem dX6_suits_9 : decode cX6_suits 9 = .ok (.ireturn, 1) := by decide +kernel
theorem dX6_suits_10 : decode cX6_suits 10 = .ok (.aload_n 0, 1) := by decide +kernel
theorem dX6_suits_11 : decode cX6_suits 11 = .ok (.getfield 23, 3) := by decide +kernel
theorem dX6_suits_14 : decode cX6_suits 14 = .ok (.iload_n 2, 1) := by decide +kernel
theorem dX6_suits_15 : decode cX6_suits 15 = .ok (.iaload, 1) := by decide +kernel
theorem dX6_suits_16 : decode cX6_suits 16 = .ok (.bipush (-3), 2) := by decide +kernel
theorem dX6_suits_18 : decode cX6_suits 18 = .ok (.if_icmp .ne 7, 3) := by decide +kernel
theorem dX6_suits_21 : decode cX6_suits 21 = .ok (.iconst 1, 1) := by decide +kernel
theorem dX6_suits_22 : decode cX6_suits 22 = .ok (.goto 4, 3) := by decide +kernel
theorem dX6_suits_25 : decode cX6_suits 25 = .ok (.iconst 0, 1) := by decide +kernel
theorem dX6_suits_26 : decode cX6_suits 26 = .ok (.istore_n 3, 1) := by decide +kernel
theorem dX6_suits_27 : decode cX6_suits 27 = .ok (.iload_n 1, 1) := by decide +kernel
theorem dX6_suits_28 : decode cX6_suits 28 = .ok (.ifCond .ne 15, 3) := by decide +kernel
theorem dX6_suits_31 : decode cX6_suits 31 = .ok (.iload_n 3, 1) := by decide +kernel
theorem dX6_suits_32 : decode cX6_suits 32 = .ok (.ifCond .ne 7, 3) := by decide +kernel
theorem dX6_suits_35 : decode cX6_suits 35 = .ok (.iconst 1, 1) := by decide +kernel
theorem dX6_suits_36 : decode cX6_suits 36 = .ok (.goto 58, 3) := by decide +kernel
theorem dX6_suits_39 : decode cX6_suits 39 = .ok (.iconst 0, 1) := by decide +kernel
theorem dX6_suits_40 : decode cX6_suits 40 = .ok (.goto 54, 3) := by decide +kernel
theorem dX6_suits_43 : decode cX6_suits 43 = .ok (.iload_n 1, 1) := by decide +kernel
theorem dX6_suits_44 : decode cX6_suits 44 = .ok (.iconst 1, 1) := by decide +kernel
theorem dX6_suits_45 : decode cX6_suits 45 = .ok (.if_icmp .eq 8, 3) := by decide +kernel
theorem dX6_suits_48 : decode cX6_suits 48 = .ok (.iload_n 1, 1) := by decide +kernel
theorem dX6_suits_49 : decode cX6_suits 49 = .ok (.iconst 2, 1) := by decide +kernel
theorem dX6_suits_50 : decode cX6_suits 50 = .ok (.if_icmp .ne 7, 3) := by decide +kernel
theorem dX6_suits_53 : decode cX6_suits 53 = .ok (.iload_n 3, 1) := by decide +kernel
theorem dX6_suits_54 : decode cX6_suits 54 = .ok (.goto 40, 3) := by decide +kernel
theorem dX6_suits_57 : decode cX6_suits 57 = .ok (.iload_n 1, 1) := by decide +kernel
theorem dX6_suits_58 : decode cX6_suits 58 = .ok (.iconst 3, 1) := by decide +kernel
theorem dX6_suits_59 : decode cX6_suits 59 = .ok (.if_icmp .ne 29, 3) := by decide +kernel
theorem dX6_suits_62 : decode cX6_suits 62 = .ok (.aload_n 0, 1) := by decide +kernel
theorem dX6_suits_63 : decode cX6_suits 63 = .ok (.getfield 16, 3) := by decide +kernel
theorem dX6_suits_66 : decode cX6_suits 66 = .ok (.iload_n 2, 1) := by decide +kernel
theorem dX6_suits_67 : decode cX6_suits 67 = .ok (.baload, 1) := by decide +kernel
theorem dX6_suits_68 : decode cX6_suits 68 = .ok (.ifCond .eq 16, 3) := by decide +kernel
theorem dX6_suits_71 : decode cX6_suits 71 = .ok (.aload_n 0, 1) := by decide +kernel
theorem dX6_suits_72 : decode cX6_suits 72 = .ok (.getfield 20, 3) := by decide +kernel
theorem dX6_suits_75 : decode cX6_suits 75 = .ok (.iload_n 2, 1) := by decide +kernel
theorem dX6_suits_76 : decode cX6_suits 76 = .ok (.baload, 1) := by decide +kernel
theorem dX6_suits_77 : decode cX6_suits 77 = .ok (.ifCond .ne 7, 3) := by decide +kernel
theorem dX6_suits_80 : decode cX6_suits 80 = .ok (.iconst 1, 1) := by decide +kernel
theorem dX6_suits_81 : decode cX6_suits 81 = .ok (.goto 13, 3) := by decide +kernel
theorem dX6_suits_84 : decode cX6_suits 84 = .ok (.iconst 0, 1) := by decide +kernel
theorem dX6_suits_85 : decode cX6_suits 85 = .ok (.goto 9, 3) := by decide +kernel
theorem dX6_suits_88 : decode cX6_suits 88 = .ok (.aload_n 0, 1) := by decide +kernel
theorem dX6_suits_89 : decode cX6_suits 89 = .ok (.getfield 20, 3) := by decide +kernel
theorem dX6_suits_92 : decode cX6_suits 92 = .ok (.iload_n 2, 1) := by decide +kernel
theorem dX6_suits_93 : decode cX6_suits 93 = .ok (.baload, 1) := by decide +kernel
theorem dX6_suits_94 : decode cX6_suits 94 = .ok (.ireturn, 1) := by decide +kernel
set_option maxRecDepth 20000 in
theorem ggX6_suited_X6_suits : GoodIn wsX6_suited wsX6_suits := goodIn_r _ [6, 7, 8, 9, 10, 11, 12, 5, 13, 14, 15, 16, 17, 18, 19, 20, 21, 22, 23, 24, 25, 26, 27, 28, 29, 30, 31, 32, 33, 34, 35, 36, 37, 38] (by decide +kernel) (by decide +kernel)
set_option maxRecDepth 20000 in
theorem gX6_suited_X6_suits : GoodIn wsX6_suited (wsV RX6 79 RX6 yX6_suits wsX6_suits) := goodIn_app (goodIn_of _ (by decide +kernel)) ggX6_suited_X6_suits
theorem dX6_suited_0 : decode cX6_suited 0 = .ok (.iconst 0, 1) := by decide +kernel
theorem dX6_suited_1 : decode cX6_suited 1 = .ok (.istore_n 3, 1) := by decide +kernel
theorem dX6_suited_2 : decode cX6_suited 2 = .ok (.iconst 0, 1) := by decide +kernel
theorem dX6_suited_3 : decode cX6_suited 3 = .ok (.istore 4, 2) := by decide +kernel
theorem dX6_suited_5 : decode cX6_suited 5 = .ok (.iload 4, 2) := by decide +kernel
theorem dX6_suited_7 : decode cX6_suited 7 = .ok (.aload_n 0, 1) := by decide +kernel
theorem dX6_suited_8 : decode cX6_suited 8 = .ok (.getfield 57, 3) := by decide +kernel
theorem dX6_suited_11 : decode cX6_suited 11 = .ok (.if_icmp .ge 40, 3) := by decide +kernel
theorem dX6_suited_14 : decode cX6_suited 14 = .ok (.iload_n 3, 1) := by decide +kernel
theorem dX6_suited_15 : decode cX6_suited 15 = .ok (.iload_n 2, 1) := by decide +kernel
theorem dX6_suited_16 : decode cX6_suited 16 = .ok (.iload 4, 2) := by decide +kernel
theorem dX6_suited_18 : decode cX6_suited 18 = .ok (.ishr, 1) := by decide +kernel
theorem dX6_suited_19 : decode cX6_suited 19 = .ok (.iconst 1, 1) := by decide +kernel
theorem dX6_suited_20 : decode cX6_suited 20 = .ok (.iand, 1) := by decide +kernel
theorem dX6_suited_21 : decode cX6_suited 21 = .ok (.iconst 1, 1) := by decide +kernel
theorem dX6_suited_22 : decode cX6_suited 22 = .ok (.if_icmp .ne 20, 3) := by decide +kernel
theorem dX6_suited_25 : decode cX6_suited 25 = .ok (.aload_n 0, 1) := by decide +kernel
theorem dX6_suited_26 : decode cX6_suited 26 = .ok (.iload_n 1, 1) := by decide +kernel
theorem dX6_suited_27 : decode cX6_suited 27 = .ok (.iload 4, 2) := by decide +kernel
theorem dX6_suited_29 : decode cX6_suited 29 = .ok (.invokevirtual 79, 3) := by decide +kernel
theorem dX6_suited_32 : decode cX6_suited 32 = .ok (.ifCond .eq 10, 3) := by decide +kernel
theorem dX6_suited_35 : decode cX6_suited 35 = .ok (.iconst 1, 1) := by decide +kernel
theorem dX6_suited_36 : decode cX6_suited 36 = .ok (.iload 4, 2) := by decide +kernel
theorem dX6_suited_38 : decode cX6_suited 38 = .ok (.ishl, 1) := by decide +kernel
theorem dX6_suited_39 : decode cX6_suited 39 = .ok (.goto 4, 3) := by decide +kernel
theorem dX6_suited_42 : decode cX6_suited 42 = .ok (.iconst 0, 1) := by decide +kernel
theorem dX6_suited_43 : decode cX6_suited 43 = .ok (.ior, 1) := by decide +kernel
theorem dX6_suited_44 : decode cX6_suited 44 = .ok (.istore_n 3, 1) := by decide +kernel
theorem dX6_suited_45 : decode cX6_suited 45 = .ok (.iinc 4 1, 3) := by decide +kernel
theorem dX6_suited_48 : decode cX6_suited 48 = .ok (.goto (-43), 3) := by decide +kernel
theorem dX6_suited_51 : decode cX6_suited 51 = .ok (.iload_n 3, 1) := by decide +kernel
theorem dX6_suited_52 : decode cX6_suited 52 = .ok (.ireturn, 1) := by decide +kernel
theorem dX6_having_0 : decode cX6_having 0 = .ok (.iconst 0, 1) := by decide +kernel
theorem dX6_having_1 : decode cX6_having 1 = .ok (.istore 4, 2) := by decide +kernel
theorem dX6_having_3 : decode cX6_having 3 = .ok (.iconst 0, 1) := by decide +kernel
theorem dX6_having_4 : decode cX6_having 4 = .ok (.istore 5, 2) := by decide +kernel
theorem dX6_having_6 : decode cX6_having 6 = .ok (.iload 5, 2) := by decide +kernel
theorem dX6_having_8 : decode cX6_having 8 = .ok (.aload_n 0, 1) := by decide +kernel
theorem dX6_having_9 : decode cX6_having 9 = .ok (.getfield 57, 3) := by decide +kernel
theorem dX6_having_12 : decode cX6_having 12 = .ok (.if_icmp .ge 73, 3) := by decide +kernel
theorem dX6_having_15 : decode cX6_having 15 = .ok (.aload_n 0, 1) := by decide +kernel
theorem dX6_having_16 : decode cX6_having 16 = .ok (.getfield 13, 3) := by decide +kernel
theorem dX6_having_19 : decode cX6_having 19 = .ok (.iload 5, 2) := by decide +kernel
theorem dX6_having_21 : decode cX6_having 21 = .ok (.iaload, 1) := by decide +kernel
theorem dX6_having_22 : decode cX6_having 22 = .ok (.iload_n 2, 1) := by decide +kernel
theorem dX6_having_23 : decode cX6_having 23 = .ok (.iand, 1) := by decide +kernel
theorem dX6_having_24 : decode cX6_having 24 = .ok (.iload_n 2, 1) := by decide +kernel
theorem dX6_having_25 : decode cX6_having 25 = .ok (.if_icmp .ne 23, 3) := by decide +kernel
theorem dX6_having_28 : decode cX6_having 28 = .ok (.iload_n 3, 1) := by decide +kernel
theorem dX6_having_29 : decode cX6_having 29 = .ok (.iconst (-1), 1) := by decide +kernel
theorem dX6_having_30 : decode cX6_having 30 = .ok (.if_icmp .eq 14, 3) := by decide +kernel
theorem dX6_having_33 : decode cX6_having 33 = .ok (.aload_n 0, 1) := by decide +kernel
theorem dX6_having_34 : decode cX6_having 34 = .ok (.getfield 7, 3) := by decide +kernel
theorem dX6_having_37 : decode cX6_having 37 = .ok (.iload 5, 2) := by decide +kernel
theorem dX6_having_39 : decode cX6_having 39 = .ok (.iaload, 1) := by decide +kernel
theorem dX6_having_40 : decode cX6_having 40 = .ok (.iload_n 3, 1) := by decide +kernel
theorem dX6_having_41 : decode cX6_having 41 = .ok (.if_icmp .ne 7, 3) := by decide +kernel
theorem dX6_having_44 : decode cX6_having 44 = .ok (.iconst 1, 1) := by decide +kernel
theorem dX6_having_45 : decode cX6_having 45 = .ok (.goto 4, 3) := by decide +kernel
theorem dX6_having_48 : decode cX6_having 48 = .ok (.iconst 0, 1) := by decide +kernel
theorem dX6_having_49 : decode cX6_having 49 = .ok (.istore 6, 2) := by decide +kernel
theorem dX6_having_51 : decode cX6_having 51 = .ok (.iload 4, 2) := by decide +kernel
theorem dX6_having_53 : decode cX6_having 53 = .ok (.iload_n 1, 1) := by decide +kernel
theorem dX6_having_54 : decode cX6_having 54 = .ok (.iload 5, 2) := by decide +kernel
theorem dX6_having_56 : decode cX6_having 56 = .ok (.ishr, 1) := by decide +kernel
theorem dX6_having_57 : decode cX6_having 57 = .ok (.iconst 1, 1) := by decide +kernel
theorem dX6_having_58 : decode cX6_having 58 = .ok (.iand, 1) := by decide +kernel
theorem dX6_having_59 : decode cX6_having 59 = .ok (.iconst 1, 1) := by decide +kernel
theorem dX6_having_60 : decode cX6_having 60 = .ok (.if_icmp .ne 15, 3) := by decide +kernel
theorem dX6_having_63 : decode cX6_having 63 = .ok (.iload 6, 2) := by decide +kernel
theorem dX6_having_65 : decode cX6_having 65 = .ok (.ifCond .eq 10, 3) := by decide +kernel
theorem dX6_having_68 : decode cX6_having 68 = .ok (.iconst 1, 1) := by decide +kernel
theorem dX6_having_69 : decode cX6_having 69 = .ok (.iload 5, 2) := by decide +kernel
theorem dX6_having_71 : decode cX6_having 71 = .ok (.ishl, 1) := by decide +kernel
theorem dX6_having_72 : decode cX6_having 72 = .ok (.goto 4, 3) := by decide +kernel
theorem dX6_having_75 : decode cX6_having 75 = .ok (.iconst 0, 1) := by decide +kernel
theorem dX6_having_76 : decode cX6_having 76 = .ok (.ior, 1) := by decide +kernel
theorem dX6_having_77 : decode cX6_having 77 = .ok (.istore 4, 2) := by decide +kernel
theorem dX6_having_79 : decode cX6_having 79 = .ok (.iinc 5 1, 3) := by decide +kernel
theorem dX6_having_82 : decode cX6_having 82 = .ok (.goto (-76), 3) := by decide +kernel
theorem dX6_having_85 : decode cX6_having 85 = .ok (.iload 4, 2) := by decide +kernel
theorem dX6_having_87 : decode cX6_having 87 = .ok (.ireturn, 1) := by decide +kernel
theorem dX6_bits_0 : decode cX6_bits 0 = .ok (.iconst 0, 1) := by decide +kernel
theorem dX6_bits_1 : decode cX6_bits 1 = .ok (.istore_n 1, 1) := by decide +kernel
theorem dX6_bits_2 : decode cX6_bits 2 = .ok (.iload_n 0, 1) := by decide +kernel
theorem dX6_bits_3 : decode cX6_bits 3 = .ok (.istore_n 2, 1) := by decide +kernel
theorem dX6_bits_4 : decode cX6_bits 4 = .ok (.iload_n 2, 1) := by decide +kernel
theorem dX6_bits_5 : decode cX6_bits 5 = .ok (.ifCond .le 16, 3) := by decide +kernel
theorem dX6_bits_8 : decode cX6_bits 8 = .ok (.iload_n 1, 1) := by decide +kernel
theorem dX6_bits_9 : decode cX6_bits 9 = .ok (.iload_n 2, 1) := by decide +kernel
theorem dX6_bits_10 : decode cX6_bits 10 = .ok (.iconst 1, 1) := by decide +kernel
theorem dX6_bits_11 : decode cX6_bits 11 = .ok (.iand, 1) := by decide +kernel
theorem dX6_bits_12 : decode cX6_bits 12 = .ok (.iadd, 1) := by decide +kernel
theorem dX6_bits_13 : decode cX6_bits 13 = .ok (.istore_n 1, 1) := by decide +kernel
theorem dX6_bits_14 : decode cX6_bits 14 = .ok (.iload_n 2, 1) := by decide +kernel
theorem dX6_bits_15 : decode cX6_bits 15 = .ok (.iconst 1, 1) := by decide +kernel
theorem dX6_bits_16 : decode cX6_bits 16 = .ok (.ishr, 1) := by decide +kernel
theorem dX6_bits_17 : decode cX6_bits 17 = .ok (.istore_n 2, 1) := by decide +kernel
theorem dX6_bits_18 : decode cX6_bits 18 = .ok (.goto (-14), 3) := by decide +kernel
theorem dX6_bits_21 : decode cX6_bits 21 = .ok (.iload_n 1, 1) := by decide +kernel
theorem dX6_bits_22 : decode cX6_bits 22 = .ok (.ireturn, 1) := by decide +kernel
theorem dX6_lowest_0 : decode cX6_lowest 0 = .ok (.iconst 0, 1) := by decide +kernel
theorem dX6_lowest_1 : decode cX6_lowest 1 = .ok (.istore_n 1, 1) := by decide +kernel
theorem dX6_lowest_2 : decode cX6_lowest 2 = .ok (.iload_n 0, 1) := by decide +kernel
theorem dX6_lowest_3 : decode cX6_lowest 3 = .ok (.iload_n 1, 1) := by decide +kernel
theorem dX6_lowest_4 : decode cX6_lowest 4 = .ok (.ishr, 1) := by decide +kernel
theorem dX6_lowest_5 : decode cX6_lowest 5 = .ok (.iconst 1, 1) := by decide +kernel
theorem dX6_lowest_6 : decode cX6_lowest 6 = .ok (.iand, 1) := by decide +kernel
theorem dX6_lowest_7 : decode cX6_lowest 7 = .ok (.ifCond .ne 9, 3) := by decide +kernel
theorem dX6_lowest_10 : decode cX6_lowest 10 = .ok (.iinc 1 1, 3) := by decide +kernel
theorem dX6_lowest_13 : decode cX6_lowest 13 = .ok (.goto (-11), 3) := by decide +kernel
theorem dX6_lowest_16 : decode cX6_lowest 16 = .ok (.iload_n 1, 1) := by decide +kernel
theorem dX6_lowest_17 : decode cX6_lowest 17 = .ok (.ireturn, 1) := by decide +kernel
theorem dX6_isVerb_0 : decode cX6_isVerb 0 = .ok (.iload_n 0, 1) := by decide +kernel
theorem dX6_isVerb_1 : decode cX6_isVerb 1 = .ok (.ifCond .lt 12, 3) := by decide +kernel
theorem dX6_isVerb_4 : decode cX6_isVerb 4 = .ok (.iload_n 0, 1) := by decide +kernel
theorem dX6_isVerb_5 : decode cX6_isVerb 5 = .ok (.iconst 4, 1) := by decide +kernel
theorem dX6_isVerb_6 : decode cX6_isVerb 6 = .ok (.if_icmp .gt 7, 3) := by decide +kernel
theorem dX6_isVerb_9 : decode cX6_isVerb 9 = .ok (.iconst 1, 1) := by decide +kernel
theorem dX6_isVerb_10 : decode cX6_isVerb 10 = .ok (.goto 4, 3) := by decide +kernel
theorem dX6_isVerb_13 : decode cX6_isVerb 13 = .ok (.iconst 0, 1) := by decide +kernel
theorem dX6_isVerb_14 : decode cX6_isVerb 14 = .ok (.ireturn, 1) := by decide +kernel
theorem dX6_isAdjective_0 : decode cX6_isAdjective 0 = .ok (.iload_n 0, 1) := by decide +kernel
theorem dX6_isAdjective_1 : decode cX6_isAdjective 1 = .ok (.bipush 20, 2) := by decide +kernel
theorem dX6_isAdjective_3 : decode cX6_isAdjective 3 = .ok (.if_icmp .lt 13, 3) := by decide +kernel
theorem dX6_isAdjective_6 : decode cX6_isAdjective 6 = .ok (.iload_n 0, 1) := by decide +kernel
theorem dX6_isAdjective_7 : decode cX6_isAdjective 7 = .ok (.bipush 26, 2) := by decide +kernel
theorem dX6_isAdjective_9 : decode cX6_isAdjective 9 = .ok (.if_icmp .ge 7, 3) := by decide +kernel
theorem dX6_isAdjective_12 : decode cX6_isAdjective 12 = .ok (.iconst 1, 1) := by decide +kernel
theorem dX6_isAdjective_13 : decode cX6_isAdjective 13 = .ok (.goto 4, 3) := by decide +kernel
theorem dX6_isAdjective_16 : decode cX6_isAdjective 16 = .ok (.iconst 0, 1) := by decide +kernel
theorem dX6_isAdjective_17 : decode cX6_isAdjective 17 = .ok (.ireturn, 1) := by decide +kernel
theorem dX6_isNoun_0 : decode cX6_isNoun 0 = .ok (.iload_n 0, 1) := by decide +kernel
theorem dX6_isNoun_1 : decode cX6_isNoun 1 = .ok (.bipush 30, 2) := by decide +kernel
theorem dX6_isNoun_3 : decode cX6_isNoun 3 = .ok (.if_icmp .lt 13, 3) := by decide +kernel
theorem dX6_isNoun_6 : decode cX6_isNoun 6 = .ok (.iload_n 0, 1) := by decide +kernel
theorem dX6_isNoun_7 : decode cX6_isNoun 7 = .ok (.bipush 38, 2) := by decide +kernel
theorem dX6_isNoun_9 : decode cX6_isNoun 9 = .ok (.if_icmp .ge 7, 3) := by decide +kernel
theorem dX6_isNoun_12 : decode cX6_isNoun 12 = .ok (.iconst 1, 1) := by decide +kernel
theorem dX6_isNoun_13 : decode cX6_isNoun 13 = .ok (.goto 4, 3) := by decide +kernel
theorem dX6_isNoun_16 : decode cX6_isNoun 16 = .ok (.iconst 0, 1) := by decide +kernel
theorem dX6_isNoun_17 : decode cX6_isNoun 17 = .ok (.ireturn, 1) := by decide +kernel
theorem dX6_isPlural_0 : decode cX6_isPlural 0 = .ok (.iload_n 0, 1) := by decide +kernel
theorem dX6_isPlural_1 : decode cX6_isPlural 1 = .ok (.bipush 40, 2) := by decide +kernel
theorem dX6_isPlural_3 : decode cX6_isPlural 3 = .ok (.if_icmp .lt 13, 3) := by decide +kernel
theorem dX6_isPlural_6 : decode cX6_isPlural 6 = .ok (.iload_n 0, 1) := by decide +kernel
theorem dX6_isPlural_7 : decode cX6_isPlural 7 = .ok (.bipush 48, 2) := by decide +kernel
theorem dX6_isPlural_9 : decode cX6_isPlural 9 = .ok (.if_icmp .ge 7, 3) := by decide +kernel
theorem dX6_isPlural_12 : decode cX6_isPlural 12 = .ok (.iconst 1, 1) := by decide +kernel
theorem dX6_isPlural_13 : decode cX6_isPlural 13 = .ok (.goto 4, 3) := by decide +kernel
theorem dX6_isPlural_16 : decode cX6_isPlural 16 = .ok (.iconst 0, 1) := by decide +kernel
theorem dX6_isPlural_17 : decode cX6_isPlural 17 = .ok (.ireturn, 1) := by decide +kernel
set_option maxRecDepth 20000 in
theorem ggX6_word_X6_isVerb : GoodIn wsX6_word wsX6_isVerb := goodIn_r _ [6] (by decide +kernel) (by decide +kernel)
set_option maxRecDepth 20000 in
theorem gX6_word_X6_isVerb : GoodIn wsX6_word (va_wsS RX6 83 yX6_isVerb wsX6_isVerb) := goodIn_app (goodIn_of _ (by decide +kernel)) ggX6_word_X6_isVerb
set_option maxRecDepth 20000 in
theorem ggX6_word_X6_isAdjective : GoodIn wsX6_word wsX6_isAdjective := goodIn_r _ [9] (by decide +kernel) (by decide +kernel)
set_option maxRecDepth 20000 in
theorem gX6_word_X6_isAdjective : GoodIn wsX6_word (va_wsS RX6 86 yX6_isAdjective wsX6_isAdjective) := goodIn_app (goodIn_of _ (by decide +kernel)) ggX6_word_X6_isAdjective
set_option maxRecDepth 20000 in
theorem ggX6_word_X6_isNoun : GoodIn wsX6_word wsX6_isNoun := goodIn_r _ [12] (by decide +kernel) (by decide +kernel)
set_option maxRecDepth 20000 in
theorem gX6_word_X6_isNoun : GoodIn wsX6_word (va_wsS RX6 89 yX6_isNoun wsX6_isNoun) := goodIn_app (goodIn_of _ (by decide +kernel)) ggX6_word_X6_isNoun
set_option maxRecDepth 20000 in
theorem ggX6_word_X6_isPlural : GoodIn wsX6_word wsX6_isPlural := goodIn_r _ [15] (by decide +kernel) (by decide +kernel)
set_option maxRecDepth 20000 in
theorem gX6_word_X6_isPlural : GoodIn wsX6_word (va_wsS RX6 92 yX6_isPlural wsX6_isPlural) := goodIn_app (goodIn_of _ (by decide +kernel)) ggX6_word_X6_isPlural
set_option maxRecDepth 20000 in
theorem ggX6_word_X6_mayBoth : GoodIn wsX6_word wsX6_mayBoth := goodIn_r _ [19, 20, 21, 22, 23, 24, 25, 26, 27, 28, 29, 30, 31, 32, 33, 34, 35, 36, 37, 38, 39, 40, 41, 42, 43, 44, 45] (by decide +kernel) (by decide +kernel)
set_option maxRecDepth 20000 in
theorem gX6_word_X6_mayBoth : GoodIn wsX6_word (wsV RX6 60 RX6 yX6_mayBoth wsX6_mayBoth) := goodIn_app (goodIn_of _ (by decide +kernel)) ggX6_word_X6_mayBoth
theorem dX6_word_0 : decode cX6_word 0 = .ok (.iload_n 1, 1) := by decide +kernel
theorem dX6_word_1 : decode cX6_word 1 = .ok (.invokestatic 83, 3) := by decide +kernel
theorem dX6_word_4 : decode cX6_word 4 = .ok (.ifCond .ne 36, 3) := by decide +kernel
theorem dX6_word_7 : decode cX6_word 7 = .ok (.iload_n 1, 1) := by decide +kernel
theorem dX6_word_8 : decode cX6_word 8 = .ok (.bipush 10, 2) := by decide +kernel
theorem dX6_word_10 : decode cX6_word 10 = .ok (.if_icmp .lt 9, 3) := by decide +kernel
theorem dX6_word_13 : decode cX6_word 13 = .ok (.iload_n 1, 1) := by decide +kernel
theorem dX6_word_14 : decode cX6_word 14 = .ok (.bipush 17, 2) := by decide +kernel
theorem dX6_word_16 : decode cX6_word 16 = .ok (.if_icmp .le 24, 3) := by decide +kernel
theorem dX6_word_19 : decode cX6_word 19 = .ok (.iload_n 1, 1) := by decide +kernel
theorem dX6_word_20 : decode cX6_word 20 = .ok (.invokestatic 86, 3) := by decide +kernel
theorem dX6_word_23 : decode cX6_word 23 = .ok (.ifCond .ne 17, 3) := by decide +kernel
theorem dX6_word_26 : decode cX6_word 26 = .ok (.iload_n 1, 1) := by decide +kernel
theorem dX6_word_27 : decode cX6_word 27 = .ok (.invokestatic 89, 3) := by decide +kernel
theorem dX6_word_30 : decode cX6_word 30 = .ok (.ifCond .ne 10, 3) := by decide +kernel
theorem dX6_word_33 : decode cX6_word 33 = .ok (.iload_n 1, 1) := by decide +kernel
theorem dX6_word_34 : decode cX6_word 34 = .ok (.invokestatic 92, 3) := by decide +kernel
theorem dX6_word_37 : decode cX6_word 37 = .ok (.ifCond .eq 7, 3) := by decide +kernel
theorem dX6_word_40 : decode cX6_word 40 = .ok (.iconst 1, 1) := by decide +kernel
theorem dX6_word_41 : decode cX6_word 41 = .ok (.goto 4, 3) := by decide +kernel
theorem dX6_word_44 : decode cX6_word 44 = .ok (.iconst 0, 1) := by decide +kernel
theorem dX6_word_45 : decode cX6_word 45 = .ok (.istore_n 2, 1) := by decide +kernel
theorem dX6_word_46 : decode cX6_word 46 = .ok (.aload_n 0, 1) := by decide +kernel
theorem dX6_word_47 : decode cX6_word 47 = .ok (.iload_n 2, 1) := by decide +kernel
theorem dX6_word_48 : decode cX6_word 48 = .ok (.aload_n 0, 1) := by decide +kernel
theorem dX6_word_49 : decode cX6_word 49 = .ok (.getfield 95, 3) := by decide +kernel
theorem dX6_word_52 : decode cX6_word 52 = .ok (.bipush 24, 2) := by decide +kernel
theorem dX6_word_54 : decode cX6_word 54 = .ok (.if_icmp .ge 7, 3) := by decide +kernel
theorem dX6_word_57 : decode cX6_word 57 = .ok (.iconst 1, 1) := by decide +kernel
theorem dX6_word_58 : decode cX6_word 58 = .ok (.goto 4, 3) := by decide +kernel
theorem dX6_word_61 : decode cX6_word 61 = .ok (.iconst 0, 1) := by decide +kernel
theorem dX6_word_62 : decode cX6_word 62 = .ok (.invokevirtual 60, 3) := by decide +kernel
theorem dX6_word_65 : decode cX6_word 65 = .ok (.ifCond .ne 5, 3) := by decide +kernel
theorem dX6_word_68 : decode cX6_word 68 = .ok (.iconst 0, 1) := by decide +kernel
theorem dX6_word_69 : decode cX6_word 69 = .ok (.ireturn, 1) := by decide +kernel
theorem dX6_word_70 : decode cX6_word 70 = .ok (.aload_n 0, 1) := by decide +kernel
theorem dX6_word_71 : decode cX6_word 71 = .ok (.getfield 26, 3) := by decide +kernel
theorem dX6_word_74 : decode cX6_word 74 = .ok (.aload_n 0, 1) := by decide +kernel
theorem dX6_word_75 : decode cX6_word 75 = .ok (.getfield 95, 3) := by decide +kernel
theorem dX6_word_78 : decode cX6_word 78 = .ok (.iload_n 1, 1) := by decide +kernel
theorem dX6_word_79 : decode cX6_word 79 = .ok (.iastore, 1) := by decide +kernel
theorem dX6_word_80 : decode cX6_word 80 = .ok (.aload_n 0, 1) := by decide +kernel
theorem dX6_word_81 : decode cX6_word 81 = .ok (.dup, 1) := by decide +kernel
end
section
theorem dX6_word_82 : decode cX6_word 82 = .ok (.getfield 95, 3) := by decide +kernel
theorem dX6_word_85 : decode cX6_word 85 = .ok (.iconst 1, 1) := by decide +kernel
theorem dX6_word_86 : decode cX6_word 86 = .ok (.iadd, 1) := by decide +kernel
theorem dX6_word_87 : decode cX6_word 87 = .ok (.putfield 95, 3) := by decide +kernel
theorem dX6_word_90 : decode cX6_word 90 = .ok (.aload_n 0, 1) := by decide +kernel
theorem dX6_word_91 : decode cX6_word 91 = .ok (.getfield 95, 3) := by decide +kernel
theorem dX6_word_94 : decode cX6_word 94 = .ok (.ireturn, 1) := by decide +kernel
set_option maxRecDepth 20000 in
theorem ggX6_back_X6_may : GoodIn wsX6_back wsX6_may := goodIn_r _ [7, 8, 9, 10, 11, 12, 13, 14, 15, 16, 17, 18, 19, 20, 21, 22, 23, 24, 25, 26, 27, 28, 29, 30, 31, 32, 33] (by decide +kernel) (by decide +kernel)
set_option maxRecDepth 20000 in
theorem gX6_back_X6_may : GoodIn wsX6_back (wsV RX6 68 RX6 yX6_may wsX6_may) := goodIn_app (goodIn_of _ (by decide +kernel)) ggX6_back_X6_may
theorem dX6_back_0 : decode cX6_back 0 = .ok (.aload_n 0, 1) := by decide +kernel
theorem dX6_back_1 : decode cX6_back 1 = .ok (.aload_n 0, 1) := by decide +kernel
theorem dX6_back_2 : decode cX6_back 2 = .ok (.getfield 95, 3) := by decide +kernel
theorem dX6_back_5 : decode cX6_back 5 = .ok (.ifCond .le 7, 3) := by decide +kernel
theorem dX6_back_8 : decode cX6_back 8 = .ok (.iconst 1, 1) := by decide +kernel
theorem dX6_back_9 : decode cX6_back 9 = .ok (.goto 4, 3) := by decide +kernel
theorem dX6_back_12 : decode cX6_back 12 = .ok (.iconst 0, 1) := by decide +kernel
theorem dX6_back_13 : decode cX6_back 13 = .ok (.invokevirtual 68, 3) := by decide +kernel
theorem dX6_back_16 : decode cX6_back 16 = .ok (.ifCond .ne 5, 3) := by decide +kernel
theorem dX6_back_19 : decode cX6_back 19 = .ok (.iconst 0, 1) := by decide +kernel
theorem dX6_back_20 : decode cX6_back 20 = .ok (.ireturn, 1) := by decide +kernel
theorem dX6_back_21 : decode cX6_back 21 = .ok (.aload_n 0, 1) := by decide +kernel
theorem dX6_back_22 : decode cX6_back 22 = .ok (.dup, 1) := by decide +kernel
theorem dX6_back_23 : decode cX6_back 23 = .ok (.getfield 95, 3) := by decide +kernel
theorem dX6_back_26 : decode cX6_back 26 = .ok (.iconst 1, 1) := by decide +kernel
theorem dX6_back_27 : decode cX6_back 27 = .ok (.isub, 1) := by decide +kernel
theorem dX6_back_28 : decode cX6_back 28 = .ok (.putfield 95, 3) := by decide +kernel
theorem dX6_back_31 : decode cX6_back 31 = .ok (.aload_n 0, 1) := by decide +kernel
theorem dX6_back_32 : decode cX6_back 32 = .ok (.getfield 26, 3) := by decide +kernel
theorem dX6_back_35 : decode cX6_back 35 = .ok (.aload_n 0, 1) := by decide +kernel
theorem dX6_back_36 : decode cX6_back 36 = .ok (.getfield 95, 3) := by decide +kernel
theorem dX6_back_39 : decode cX6_back 39 = .ok (.iaload, 1) := by decide +kernel
theorem dX6_back_40 : decode cX6_back 40 = .ok (.ireturn, 1) := by decide +kernel
set_option maxRecDepth 20000 in
theorem ggX6_phrase_X6_isAdjective : GoodIn wsX6_phrase wsX6_isAdjective := goodIn_r _ [4] (by decide +kernel) (by decide +kernel)
set_option maxRecDepth 20000 in
theorem gX6_phrase_X6_isAdjective : GoodIn wsX6_phrase (va_wsS RX6 86 yX6_isAdjective wsX6_isAdjective) := goodIn_app (goodIn_of _ (by decide +kernel)) ggX6_phrase_X6_isAdjective
set_option maxRecDepth 20000 in
theorem ggX6_phrase_X6_isNoun : GoodIn wsX6_phrase wsX6_isNoun := goodIn_r _ [7] (by decide +kernel) (by decide +kernel)
set_option maxRecDepth 20000 in
theorem gX6_phrase_X6_isNoun : GoodIn wsX6_phrase (va_wsS RX6 89 yX6_isNoun wsX6_isNoun) := goodIn_app (goodIn_of _ (by decide +kernel)) ggX6_phrase_X6_isNoun
set_option maxRecDepth 20000 in
theorem ggX6_phrase_X6_isPlural : GoodIn wsX6_phrase wsX6_isPlural := goodIn_r _ [10] (by decide +kernel) (by decide +kernel)
set_option maxRecDepth 20000 in
theorem gX6_phrase_X6_isPlural : GoodIn wsX6_phrase (va_wsS RX6 92 yX6_isPlural wsX6_isPlural) := goodIn_app (goodIn_of _ (by decide +kernel)) ggX6_phrase_X6_isPlural
theorem dX6_phrase_0 : decode cX6_phrase 0 = .ok (.iload_n 0, 1) := by decide +kernel
theorem dX6_phrase_1 : decode cX6_phrase 1 = .ok (.bipush 8, 2) := by decide +kernel
theorem dX6_phrase_3 : decode cX6_phrase 3 = .ok (.if_icmp .eq 15, 3) := by decide +kernel
theorem dX6_phrase_6 : decode cX6_phrase 6 = .ok (.iload_n 0, 1) := by decide +kernel
theorem dX6_phrase_7 : decode cX6_phrase 7 = .ok (.bipush 9, 2) := by decide +kernel
theorem dX6_phrase_9 : decode cX6_phrase 9 = .ok (.if_icmp .eq 9, 3) := by decide +kernel
theorem dX6_phrase_12 : decode cX6_phrase 12 = .ok (.iload_n 0, 1) := by decide +kernel
theorem dX6_phrase_13 : decode cX6_phrase 13 = .ok (.bipush 10, 2) := by decide +kernel
theorem dX6_phrase_15 : decode cX6_phrase 15 = .ok (.if_icmp .ne 7, 3) := by decide +kernel
theorem dX6_phrase_18 : decode cX6_phrase 18 = .ok (.iconst 1, 1) := by decide +kernel
theorem dX6_phrase_19 : decode cX6_phrase 19 = .ok (.goto 4, 3) := by decide +kernel
theorem dX6_phrase_22 : decode cX6_phrase 22 = .ok (.iconst 0, 1) := by decide +kernel
theorem dX6_phrase_23 : decode cX6_phrase 23 = .ok (.istore_n 3, 1) := by decide +kernel
theorem dX6_phrase_24 : decode cX6_phrase 24 = .ok (.iload_n 0, 1) := by decide +kernel
theorem dX6_phrase_25 : decode cX6_phrase 25 = .ok (.iconst 1, 1) := by decide +kernel
theorem dX6_phrase_26 : decode cX6_phrase 26 = .ok (.if_icmp .eq 9, 3) := by decide +kernel
theorem dX6_phrase_29 : decode cX6_phrase 29 = .ok (.iload_n 0, 1) := by decide +kernel
theorem dX6_phrase_30 : decode cX6_phrase 30 = .ok (.bipush 8, 2) := by decide +kernel
theorem dX6_phrase_32 : decode cX6_phrase 32 = .ok (.if_icmp .ne 7, 3) := by decide +kernel
theorem dX6_phrase_35 : decode cX6_phrase 35 = .ok (.iconst 1, 1) := by decide +kernel
theorem dX6_phrase_36 : decode cX6_phrase 36 = .ok (.goto 4, 3) := by decide +kernel
theorem dX6_phrase_39 : decode cX6_phrase 39 = .ok (.iconst 0, 1) := by decide +kernel
theorem dX6_phrase_40 : decode cX6_phrase 40 = .ok (.istore 4, 2) := by decide +kernel
theorem dX6_phrase_42 : decode cX6_phrase 42 = .ok (.iload_n 0, 1) := by decide +kernel
theorem dX6_phrase_43 : decode cX6_phrase 43 = .ok (.iconst 3, 1) := by decide +kernel
theorem dX6_phrase_44 : decode cX6_phrase 44 = .ok (.if_icmp .eq 9, 3) := by decide +kernel
theorem dX6_phrase_47 : decode cX6_phrase 47 = .ok (.iload_n 0, 1) := by decide +kernel
theorem dX6_phrase_48 : decode cX6_phrase 48 = .ok (.bipush 10, 2) := by decide +kernel
theorem dX6_phrase_50 : decode cX6_phrase 50 = .ok (.if_icmp .ne 7, 3) := by decide +kernel
theorem dX6_phrase_53 : decode cX6_phrase 53 = .ok (.iconst 1, 1) := by decide +kernel
theorem dX6_phrase_54 : decode cX6_phrase 54 = .ok (.goto 4, 3) := by decide +kernel
theorem dX6_phrase_57 : decode cX6_phrase 57 = .ok (.iconst 0, 1) := by decide +kernel
theorem dX6_phrase_58 : decode cX6_phrase 58 = .ok (.istore 5, 2) := by decide +kernel
theorem dX6_phrase_60 : decode cX6_phrase 60 = .ok (.iload 4, 2) := by decide +kernel
theorem dX6_phrase_62 : decode cX6_phrase 62 = .ok (.ifCond .eq 20, 3) := by decide +kernel
theorem dX6_phrase_65 : decode cX6_phrase 65 = .ok (.iload_n 1, 1) := by decide +kernel
theorem dX6_phrase_66 : decode cX6_phrase 66 = .ok (.bipush 10, 2) := by decide +kernel
theorem dX6_phrase_68 : decode cX6_phrase 68 = .ok (.if_icmp .ne 14, 3) := by decide +kernel
theorem dX6_phrase_71 : decode cX6_phrase 71 = .ok (.iload_n 3, 1) := by decide +kernel
theorem dX6_phrase_72 : decode cX6_phrase 72 = .ok (.ifCond .eq 8, 3) := by decide +kernel
theorem dX6_phrase_75 : decode cX6_phrase 75 = .ok (.bipush 9, 2) := by decide +kernel
theorem dX6_phrase_77 : decode cX6_phrase 77 = .ok (.goto 4, 3) := by decide +kernel
theorem dX6_phrase_80 : decode cX6_phrase 80 = .ok (.iconst 2, 1) := by decide +kernel
theorem dX6_phrase_81 : decode cX6_phrase 81 = .ok (.ireturn, 1) := by decide +kernel
theorem dX6_phrase_82 : decode cX6_phrase 82 = .ok (.iload_n 1, 1) := by decide +kernel
theorem dX6_phrase_83 : decode cX6_phrase 83 = .ok (.invokestatic 86, 3) := by decide +kernel
theorem dX6_phrase_86 : decode cX6_phrase 86 = .ok (.ifCond .eq 14, 3) := by decide +kernel
theorem dX6_phrase_89 : decode cX6_phrase 89 = .ok (.iload_n 3, 1) := by decide +kernel
theorem dX6_phrase_90 : decode cX6_phrase 90 = .ok (.ifCond .eq 8, 3) := by decide +kernel
theorem dX6_phrase_93 : decode cX6_phrase 93 = .ok (.bipush 10, 2) := by decide +kernel
theorem dX6_phrase_95 : decode cX6_phrase 95 = .ok (.goto 4, 3) := by decide +kernel
theorem dX6_phrase_98 : decode cX6_phrase 98 = .ok (.iconst 3, 1) := by decide +kernel
theorem dX6_phrase_99 : decode cX6_phrase 99 = .ok (.ireturn, 1) := by decide +kernel
theorem dX6_phrase_100 : decode cX6_phrase 100 = .ok (.iload_n 1, 1) := by decide +kernel
theorem dX6_phrase_101 : decode cX6_phrase 101 = .ok (.invokestatic 89, 3) := by decide +kernel
theorem dX6_phrase_104 : decode cX6_phrase 104 = .ok (.ifCond .ne 25, 3) := by decide +kernel
theorem dX6_phrase_107 : decode cX6_phrase 107 = .ok (.iload 4, 2) := by decide +kernel
theorem dX6_phrase_109 : decode cX6_phrase 109 = .ok (.ifCond .eq 9, 3) := by decide +kernel
theorem dX6_phrase_112 : decode cX6_phrase 112 = .ok (.iload_n 1, 1) := by decide +kernel
theorem dX6_phrase_113 : decode cX6_phrase 113 = .ok (.bipush 14, 2) := by decide +kernel
theorem dX6_phrase_115 : decode cX6_phrase 115 = .ok (.if_icmp .eq 14, 3) := by decide +kernel
theorem dX6_phrase_118 : decode cX6_phrase 118 = .ok (.iload 5, 2) := by decide +kernel
theorem dX6_phrase_120 : decode cX6_phrase 120 = .ok (.ifCond .eq 11, 3) := by decide +kernel
theorem dX6_phrase_123 : decode cX6_phrase 123 = .ok (.iload_n 1, 1) := by decide +kernel
theorem dX6_phrase_124 : decode cX6_phrase 124 = .ok (.bipush 17, 2) := by decide +kernel
theorem dX6_phrase_126 : decode cX6_phrase 126 = .ok (.if_icmp .ne 5, 3) := by decide +kernel
theorem dX6_phrase_129 : decode cX6_phrase 129 = .ok (.iload_n 2, 1) := by decide +kernel
theorem dX6_phrase_130 : decode cX6_phrase 130 = .ok (.ireturn, 1) := by decide +kernel
theorem dX6_phrase_131 : decode cX6_phrase 131 = .ok (.iload_n 3, 1) := by decide +kernel
theorem dX6_phrase_132 : decode cX6_phrase 132 = .ok (.ifCond .eq 6, 3) := by decide +kernel
theorem dX6_phrase_135 : decode cX6_phrase 135 = .ok (.bipush 13, 2) := by decide +kernel
theorem dX6_phrase_137 : decode cX6_phrase 137 = .ok (.ireturn, 1) := by decide +kernel
theorem dX6_phrase_138 : decode cX6_phrase 138 = .ok (.iload_n 1, 1) := by decide +kernel
theorem dX6_phrase_139 : decode cX6_phrase 139 = .ok (.invokestatic 92, 3) := by decide +kernel
theorem dX6_phrase_142 : decode cX6_phrase 142 = .ok (.ifCond .eq 8, 3) := by decide +kernel
theorem dX6_phrase_145 : decode cX6_phrase 145 = .ok (.bipush 6, 2) := by decide +kernel
theorem dX6_phrase_147 : decode cX6_phrase 147 = .ok (.goto 36, 3) := by decide +kernel
theorem dX6_phrase_150 : decode cX6_phrase 150 = .ok (.iload_n 0, 1) := by decide +kernel
theorem dX6_phrase_151 : decode cX6_phrase 151 = .ok (.iconst 1, 1) := by decide +kernel
theorem dX6_phrase_152 : decode cX6_phrase 152 = .ok (.if_icmp .ne 13, 3) := by decide +kernel
theorem dX6_phrase_155 : decode cX6_phrase 155 = .ok (.iload_n 1, 1) := by decide +kernel
theorem dX6_phrase_156 : decode cX6_phrase 156 = .ok (.bipush 11, 2) := by decide +kernel
theorem dX6_phrase_158 : decode cX6_phrase 158 = .ok (.if_icmp .ne 7, 3) := by decide +kernel
theorem dX6_phrase_161 : decode cX6_phrase 161 = .ok (.iconst 4, 1) := by decide +kernel
theorem dX6_phrase_162 : decode cX6_phrase 162 = .ok (.goto 21, 3) := by decide +kernel
theorem dX6_phrase_165 : decode cX6_phrase 165 = .ok (.iload_n 0, 1) := by decide +kernel
theorem dX6_phrase_166 : decode cX6_phrase 166 = .ok (.iconst 1, 1) := by decide +kernel
theorem dX6_phrase_167 : decode cX6_phrase 167 = .ok (.if_icmp .ne 14, 3) := by decide +kernel
theorem dX6_phrase_170 : decode cX6_phrase 170 = .ok (.iload_n 1, 1) := by decide +kernel
theorem dX6_phrase_171 : decode cX6_phrase 171 = .ok (.bipush 15, 2) := by decide +kernel
theorem dX6_phrase_173 : decode cX6_phrase 173 = .ok (.if_icmp .ne 8, 3) := by decide +kernel
theorem dX6_phrase_176 : decode cX6_phrase 176 = .ok (.bipush 7, 2) := by decide +kernel
theorem dX6_phrase_178 : decode cX6_phrase 178 = .ok (.goto 5, 3) := by decide +kernel
theorem dX6_phrase_181 : decode cX6_phrase 181 = .ok (.bipush 13, 2) := by decide +kernel
theorem dX6_phrase_183 : decode cX6_phrase 183 = .ok (.ireturn, 1) := by decide +kernel
set_option maxRecDepth 20000 in
theorem ggX6_wrongOrder_X6_isAdjective : GoodIn wsX6_wrongOrder wsX6_isAdjective := goodIn_r _ [6] (by decide +kernel) (by decide +kernel)
set_option maxRecDepth 20000 in
theorem gX6_wrongOrder_X6_isAdjective : GoodIn wsX6_wrongOrder (va_wsS RX6 86 yX6_isAdjective wsX6_isAdjective) := goodIn_app (goodIn_of _ (by decide +kernel)) ggX6_wrongOrder_X6_isAdjective
set_option maxRecDepth 20000 in
theorem ggX6_wrongOrder_X6_isPlural : GoodIn wsX6_wrongOrder wsX6_isPlural := goodIn_r _ [9] (by decide +kernel) (by decide +kernel)
set_option maxRecDepth 20000 in
theorem gX6_wrongOrder_X6_isPlural : GoodIn wsX6_wrongOrder (va_wsS RX6 92 yX6_isPlural wsX6_isPlural) := goodIn_app (goodIn_of _ (by decide +kernel)) ggX6_wrongOrder_X6_isPlural
set_option maxRecDepth 20000 in
theorem ggX6_wrongOrder_X6_phrase : GoodIn wsX6_wrongOrder wsX6_phrase := goodIn_r _ [12, 3, 4, 5, 6, 13, 14, 15, 7, 8, 9] (by decide +kernel) (by decide +kernel)
set_option maxRecDepth 20000 in
theorem gX6_wrongOrder_X6_phrase : GoodIn wsX6_wrongOrder (va_wsS RX6 98 yX6_phrase wsX6_phrase) := goodIn_app (goodIn_of _ (by decide +kernel)) ggX6_wrongOrder_X6_phrase
theorem dX6_wrongOrder_0 : decode cX6_wrongOrder 0 = .ok (.iconst 1, 1) := by decide +kernel
theorem dX6_wrongOrder_1 : decode cX6_wrongOrder 1 = .ok (.istore_n 1, 1) := by decide +kernel
theorem dX6_wrongOrder_2 : decode cX6_wrongOrder 2 = .ok (.iconst 0, 1) := by decide +kernel
theorem dX6_wrongOrder_3 : decode cX6_wrongOrder 3 = .ok (.istore_n 2, 1) := by decide +kernel
theorem dX6_wrongOrder_4 : decode cX6_wrongOrder 4 = .ok (.iconst 0, 1) := by decide +kernel
theorem dX6_wrongOrder_5 : decode cX6_wrongOrder 5 = .ok (.istore_n 3, 1) := by decide +kernel
theorem dX6_wrongOrder_6 : decode cX6_wrongOrder 6 = .ok (.iconst 1, 1) := by decide +kernel
theorem dX6_wrongOrder_7 : decode cX6_wrongOrder 7 = .ok (.istore 4, 2) := by decide +kernel
theorem dX6_wrongOrder_9 : decode cX6_wrongOrder 9 = .ok (.iload 4, 2) := by decide +kernel
theorem dX6_wrongOrder_11 : decode cX6_wrongOrder 11 = .ok (.aload_n 0, 1) := by decide +kernel
theorem dX6_wrongOrder_12 : decode cX6_wrongOrder 12 = .ok (.getfield 95, 3) := by decide +kernel
theorem dX6_wrongOrder_15 : decode cX6_wrongOrder 15 = .ok (.if_icmp .ge 234, 3) := by decide +kernel
theorem dX6_wrongOrder_18 : decode cX6_wrongOrder 18 = .ok (.aload_n 0, 1) := by decide +kernel
theorem dX6_wrongOrder_19 : decode cX6_wrongOrder 19 = .ok (.getfield 26, 3) := by decide +kernel
theorem dX6_wrongOrder_22 : decode cX6_wrongOrder 22 = .ok (.iload 4, 2) := by decide +kernel
theorem dX6_wrongOrder_24 : decode cX6_wrongOrder 24 = .ok (.iaload, 1) := by decide +kernel
theorem dX6_wrongOrder_25 : decode cX6_wrongOrder 25 = .ok (.istore 5, 2) := by decide +kernel
theorem dX6_wrongOrder_27 : decode cX6_wrongOrder 27 = .ok (.iload_n 3, 1) := by decide +kernel
theorem dX6_wrongOrder_28 : decode cX6_wrongOrder 28 = .ok (.ifCond .eq 8, 3) := by decide +kernel
theorem dX6_wrongOrder_31 : decode cX6_wrongOrder 31 = .ok (.bipush 12, 2) := by decide +kernel
theorem dX6_wrongOrder_33 : decode cX6_wrongOrder 33 = .ok (.goto 20, 3) := by decide +kernel
theorem dX6_wrongOrder_36 : decode cX6_wrongOrder 36 = .ok (.iload_n 1, 1) := by decide +kernel
theorem dX6_wrongOrder_37 : decode cX6_wrongOrder 37 = .ok (.bipush 8, 2) := by decide +kernel
theorem dX6_wrongOrder_39 : decode cX6_wrongOrder 39 = .ok (.if_icmp .ge 7, 3) := by decide +kernel
theorem dX6_wrongOrder_42 : decode cX6_wrongOrder 42 = .ok (.iload_n 2, 1) := by decide +kernel
theorem dX6_wrongOrder_43 : decode cX6_wrongOrder 43 = .ok (.ifCond .eq 8, 3) := by decide +kernel
theorem dX6_wrongOrder_46 : decode cX6_wrongOrder 46 = .ok (.bipush 11, 2) := by decide +kernel
theorem dX6_wrongOrder_48 : decode cX6_wrongOrder 48 = .ok (.goto 5, 3) := by decide +kernel
theorem dX6_wrongOrder_51 : decode cX6_wrongOrder 51 = .ok (.bipush 7, 2) := by decide +kernel
theorem dX6_wrongOrder_53 : decode cX6_wrongOrder 53 = .ok (.istore 6, 2) := by decide +kernel
theorem dX6_wrongOrder_55 : decode cX6_wrongOrder 55 = .ok (.iload_n 1, 1) := by decide +kernel
theorem dX6_wrongOrder_56 : decode cX6_wrongOrder 56 = .ok (.iconst 4, 1) := by decide +kernel
theorem dX6_wrongOrder_57 : decode cX6_wrongOrder 57 = .ok (.if_icmp .eq 21, 3) := by decide +kernel
theorem dX6_wrongOrder_60 : decode cX6_wrongOrder 60 = .ok (.iload_n 1, 1) := by decide +kernel
theorem dX6_wrongOrder_61 : decode cX6_wrongOrder 61 = .ok (.bipush 6, 2) := by decide +kernel
theorem dX6_wrongOrder_63 : decode cX6_wrongOrder 63 = .ok (.if_icmp .eq 15, 3) := by decide +kernel
theorem dX6_wrongOrder_66 : decode cX6_wrongOrder 66 = .ok (.iload_n 1, 1) := by decide +kernel
theorem dX6_wrongOrder_67 : decode cX6_wrongOrder 67 = .ok (.bipush 7, 2) := by decide +kernel
theorem dX6_wrongOrder_69 : decode cX6_wrongOrder 69 = .ok (.if_icmp .eq 9, 3) := by decide +kernel
theorem dX6_wrongOrder_72 : decode cX6_wrongOrder 72 = .ok (.iload_n 1, 1) := by decide +kernel
theorem dX6_wrongOrder_73 : decode cX6_wrongOrder 73 = .ok (.bipush 11, 2) := by decide +kernel
theorem dX6_wrongOrder_75 : decode cX6_wrongOrder 75 = .ok (.if_icmp .ne 7, 3) := by decide +kernel
theorem dX6_wrongOrder_78 : decode cX6_wrongOrder 78 = .ok (.iconst 1, 1) := by decide +kernel
theorem dX6_wrongOrder_79 : decode cX6_wrongOrder 79 = .ok (.goto 4, 3) := by decide +kernel
theorem dX6_wrongOrder_82 : decode cX6_wrongOrder 82 = .ok (.iconst 0, 1) := by decide +kernel
theorem dX6_wrongOrder_83 : decode cX6_wrongOrder 83 = .ok (.istore 7, 2) := by decide +kernel
theorem dX6_wrongOrder_85 : decode cX6_wrongOrder 85 = .ok (.iload 7, 2) := by decide +kernel
theorem dX6_wrongOrder_87 : decode cX6_wrongOrder 87 = .ok (.ifCond .eq 27, 3) := by decide +kernel
theorem dX6_wrongOrder_90 : decode cX6_wrongOrder 90 = .ok (.iload 5, 2) := by decide +kernel
theorem dX6_wrongOrder_92 : decode cX6_wrongOrder 92 = .ok (.bipush 13, 2) := by decide +kernel
theorem dX6_wrongOrder_94 : decode cX6_wrongOrder 94 = .ok (.if_icmp .ne 20, 3) := by decide +kernel
theorem dX6_wrongOrder_97 : decode cX6_wrongOrder 97 = .ok (.iload_n 1, 1) := by decide +kernel
theorem dX6_wrongOrder_98 : decode cX6_wrongOrder 98 = .ok (.bipush 11, 2) := by decide +kernel
theorem dX6_wrongOrder_100 : decode cX6_wrongOrder 100 = .ok (.if_icmp .ne 7, 3) := by decide +kernel
theorem dX6_wrongOrder_103 : decode cX6_wrongOrder 103 = .ok (.iconst 1, 1) := by decide +kernel
theorem dX6_wrongOrder_104 : decode cX6_wrongOrder 104 = .ok (.goto 4, 3) := by decide +kernel
theorem dX6_wrongOrder_107 : decode cX6_wrongOrder 107 = .ok (.iconst 0, 1) := by decide +kernel
theorem dX6_wrongOrder_108 : decode cX6_wrongOrder 108 = .ok (.istore_n 2, 1) := by decide +kernel
theorem dX6_wrongOrder_109 : decode cX6_wrongOrder 109 = .ok (.iconst 1, 1) := by decide +kernel
theorem dX6_wrongOrder_110 : decode cX6_wrongOrder 110 = .ok (.istore_n 1, 1) := by decide +kernel
theorem dX6_wrongOrder_111 : decode cX6_wrongOrder 111 = .ok (.goto 123, 3) := by decide +kernel
theorem dX6_wrongOrder_114 : decode cX6_wrongOrder 114 = .ok (.iload 7, 2) := by decide +kernel
theorem dX6_wrongOrder_116 : decode cX6_wrongOrder 116 = .ok (.ifCond .eq 28, 3) := by decide +kernel
theorem dX6_wrongOrder_119 : decode cX6_wrongOrder 119 = .ok (.iload 5, 2) := by decide +kernel
theorem dX6_wrongOrder_121 : decode cX6_wrongOrder 121 = .ok (.bipush 16, 2) := by decide +kernel
theorem dX6_wrongOrder_123 : decode cX6_wrongOrder 123 = .ok (.if_icmp .ne 21, 3) := by decide +kernel
theorem dX6_wrongOrder_126 : decode cX6_wrongOrder 126 = .ok (.aload_n 0, 1) := by decide +kernel
theorem dX6_wrongOrder_127 : decode cX6_wrongOrder 127 = .ok (.getfield 26, 3) := by decide +kernel
theorem dX6_wrongOrder_130 : decode cX6_wrongOrder 130 = .ok (.iconst 0, 1) := by decide +kernel
theorem dX6_wrongOrder_131 : decode cX6_wrongOrder 131 = .ok (.iaload, 1) := by decide +kernel
theorem dX6_wrongOrder_132 : decode cX6_wrongOrder 132 = .ok (.iconst 2, 1) := by decide +kernel
theorem dX6_wrongOrder_133 : decode cX6_wrongOrder 133 = .ok (.if_icmp .ne 11, 3) := by decide +kernel
theorem dX6_wrongOrder_136 : decode cX6_wrongOrder 136 = .ok (.iconst 1, 1) := by decide +kernel
theorem dX6_wrongOrder_137 : decode cX6_wrongOrder 137 = .ok (.istore_n 3, 1) := by decide +kernel
theorem dX6_wrongOrder_138 : decode cX6_wrongOrder 138 = .ok (.bipush 8, 2) := by decide +kernel
theorem dX6_wrongOrder_140 : decode cX6_wrongOrder 140 = .ok (.istore_n 1, 1) := by decide +kernel
theorem dX6_wrongOrder_141 : decode cX6_wrongOrder 141 = .ok (.goto 93, 3) := by decide +kernel
theorem dX6_wrongOrder_144 : decode cX6_wrongOrder 144 = .ok (.iload_n 1, 1) := by decide +kernel
theorem dX6_wrongOrder_145 : decode cX6_wrongOrder 145 = .ok (.iconst 4, 1) := by decide +kernel
theorem dX6_wrongOrder_146 : decode cX6_wrongOrder 146 = .ok (.if_icmp .eq 9, 3) := by decide +kernel
theorem dX6_wrongOrder_149 : decode cX6_wrongOrder 149 = .ok (.iload_n 1, 1) := by decide +kernel
theorem dX6_wrongOrder_150 : decode cX6_wrongOrder 150 = .ok (.bipush 6, 2) := by decide +kernel
theorem dX6_wrongOrder_152 : decode cX6_wrongOrder 152 = .ok (.if_icmp .ne 16, 3) := by decide +kernel
theorem dX6_wrongOrder_155 : decode cX6_wrongOrder 155 = .ok (.iload 5, 2) := by decide +kernel
theorem dX6_wrongOrder_157 : decode cX6_wrongOrder 157 = .ok (.bipush 12, 2) := by decide +kernel
theorem dX6_wrongOrder_159 : decode cX6_wrongOrder 159 = .ok (.if_icmp .ne 9, 3) := by decide +kernel
theorem dX6_wrongOrder_162 : decode cX6_wrongOrder 162 = .ok (.bipush 8, 2) := by decide +kernel
theorem dX6_wrongOrder_164 : decode cX6_wrongOrder 164 = .ok (.istore_n 1, 1) := by decide +kernel
theorem dX6_wrongOrder_165 : decode cX6_wrongOrder 165 = .ok (.goto 69, 3) := by decide +kernel
theorem dX6_wrongOrder_168 : decode cX6_wrongOrder 168 = .ok (.iload_n 1, 1) := by decide +kernel
theorem dX6_wrongOrder_169 : decode cX6_wrongOrder 169 = .ok (.iconst 4, 1) := by decide +kernel
theorem dX6_wrongOrder_170 : decode cX6_wrongOrder 170 = .ok (.if_icmp .eq 8, 3) := by decide +kernel
theorem dX6_wrongOrder_173 : decode cX6_wrongOrder 173 = .ok (.iload_n 1, 1) := by decide +kernel
theorem dX6_wrongOrder_174 : decode cX6_wrongOrder 174 = .ok (.iconst 5, 1) := by decide +kernel
theorem dX6_wrongOrder_175 : decode cX6_wrongOrder 175 = .ok (.if_icmp .ne 34, 3) := by decide +kernel
theorem dX6_wrongOrder_178 : decode cX6_wrongOrder 178 = .ok (.iload 5, 2) := by decide +kernel
theorem dX6_wrongOrder_180 : decode cX6_wrongOrder 180 = .ok (.invokestatic 86, 3) := by decide +kernel
theorem dX6_wrongOrder_183 : decode cX6_wrongOrder 183 = .ok (.ifCond .eq 7, 3) := by decide +kernel
theorem dX6_wrongOrder_186 : decode cX6_wrongOrder 186 = .ok (.iconst 5, 1) := by decide +kernel
theorem dX6_wrongOrder_187 : decode cX6_wrongOrder 187 = .ok (.goto 18, 3) := by decide +kernel
theorem dX6_wrongOrder_190 : decode cX6_wrongOrder 190 = .ok (.iload 5, 2) := by decide +kernel
theorem dX6_wrongOrder_192 : decode cX6_wrongOrder 192 = .ok (.invokestatic 92, 3) := by decide +kernel
theorem dX6_wrongOrder_195 : decode cX6_wrongOrder 195 = .ok (.ifCond .eq 8, 3) := by decide +kernel
theorem dX6_wrongOrder_198 : decode cX6_wrongOrder 198 = .ok (.bipush 6, 2) := by decide +kernel
theorem dX6_wrongOrder_200 : decode cX6_wrongOrder 200 = .ok (.goto 5, 3) := by decide +kernel
theorem dX6_wrongOrder_203 : decode cX6_wrongOrder 203 = .ok (.bipush 13, 2) := by decide +kernel
theorem dX6_wrongOrder_205 : decode cX6_wrongOrder 205 = .ok (.istore_n 1, 1) := by decide +kernel
theorem dX6_wrongOrder_206 : decode cX6_wrongOrder 206 = .ok (.goto 28, 3) := by decide +kernel
theorem dX6_wrongOrder_209 : decode cX6_wrongOrder 209 = .ok (.iload 7, 2) := by decide +kernel
theorem dX6_wrongOrder_211 : decode cX6_wrongOrder 211 = .ok (.ifCond .ne 9, 3) := by decide +kernel
theorem dX6_wrongOrder_214 : decode cX6_wrongOrder 214 = .ok (.iload_n 1, 1) := by decide +kernel
theorem dX6_wrongOrder_215 : decode cX6_wrongOrder 215 = .ok (.bipush 12, 2) := by decide +kernel
theorem dX6_wrongOrder_217 : decode cX6_wrongOrder 217 = .ok (.if_icmp .ne 8, 3) := by decide +kernel
theorem dX6_wrongOrder_220 : decode cX6_wrongOrder 220 = .ok (.bipush 13, 2) := by decide +kernel
theorem dX6_wrongOrder_222 : decode cX6_wrongOrder 222 = .ok (.goto 11, 3) := by decide +kernel
theorem dX6_wrongOrder_225 : decode cX6_wrongOrder 225 = .ok (.iload_n 1, 1) := by decide +kernel
theorem dX6_wrongOrder_226 : decode cX6_wrongOrder 226 = .ok (.iload 5, 2) := by decide +kernel
theorem dX6_wrongOrder_228 : decode cX6_wrongOrder 228 = .ok (.iload 6, 2) := by decide +kernel
theorem dX6_wrongOrder_230 : decode cX6_wrongOrder 230 = .ok (.invokestatic 98, 3) := by decide +kernel
theorem dX6_wrongOrder_233 : decode cX6_wrongOrder 233 = .ok (.istore_n 1, 1) := by decide +kernel
theorem dX6_wrongOrder_234 : decode cX6_wrongOrder 234 = .ok (.iload_n 1, 1) := by decide +kernel
theorem dX6_wrongOrder_235 : decode cX6_wrongOrder 235 = .ok (.bipush 13, 2) := by decide +kernel
theorem dX6_wrongOrder_237 : decode cX6_wrongOrder 237 = .ok (.if_icmp .ne 6, 3) := by decide +kernel
theorem dX6_wrongOrder_240 : decode cX6_wrongOrder 240 = .ok (.iload 4, 2) := by decide +kernel
theorem dX6_wrongOrder_242 : decode cX6_wrongOrder 242 = .ok (.ireturn, 1) := by decide +kernel
theorem dX6_wrongOrder_243 : decode cX6_wrongOrder 243 = .ok (.iinc 4 1, 3) := by decide +kernel
theorem dX6_wrongOrder_246 : decode cX6_wrongOrder 246 = .ok (.goto (-237), 3) := by decide +kernel
theorem dX6_wrongOrder_249 : decode cX6_wrongOrder 249 = .ok (.iload_n 1, 1) := by decide +kernel
theorem dX6_wrongOrder_250 : decode cX6_wrongOrder 250 = .ok (.iconst 4, 1) := by decide +kernel
theorem dX6_wrongOrder_251 : decode cX6_wrongOrder 251 = .ok (.if_icmp .eq 21, 3) := by decide +kernel
theorem dX6_wrongOrder_254 : decode cX6_wrongOrder 254 = .ok (.iload_n 1, 1) := by decide +kernel
theorem dX6_wrongOrder_255 : decode cX6_wrongOrder 255 = .ok (.bipush 6, 2) := by decide +kernel
theorem dX6_wrongOrder_257 : decode cX6_wrongOrder 257 = .ok (.if_icmp .eq 15, 3) := by decide +kernel
theorem dX6_wrongOrder_260 : decode cX6_wrongOrder 260 = .ok (.iload_n 1, 1) := by decide +kernel
theorem dX6_wrongOrder_261 : decode cX6_wrongOrder 261 = .ok (.bipush 7, 2) := by decide +kernel
theorem dX6_wrongOrder_263 : decode cX6_wrongOrder 263 = .ok (.if_icmp .eq 9, 3) := by decide +kernel
theorem dX6_wrongOrder_266 : decode cX6_wrongOrder 266 = .ok (.iload_n 1, 1) := by decide +kernel
theorem dX6_wrongOrder_267 : decode cX6_wrongOrder 267 = .ok (.bipush 11, 2) := by decide +kernel
theorem dX6_wrongOrder_269 : decode cX6_wrongOrder 269 = .ok (.if_icmp .ne 7, 3) := by decide +kernel
theorem dX6_wrongOrder_272 : decode cX6_wrongOrder 272 = .ok (.iconst 1, 1) := by decide +kernel
theorem dX6_wrongOrder_273 : decode cX6_wrongOrder 273 = .ok (.goto 4, 3) := by decide +kernel
theorem dX6_wrongOrder_276 : decode cX6_wrongOrder 276 = .ok (.iconst 0, 1) := by decide +kernel
theorem dX6_wrongOrder_277 : decode cX6_wrongOrder 277 = .ok (.istore 4, 2) := by decide +kernel
theorem dX6_wrongOrder_279 : decode cX6_wrongOrder 279 = .ok (.aload_n 0, 1) := by decide +kernel
theorem dX6_wrongOrder_280 : decode cX6_wrongOrder 280 = .ok (.getfield 26, 3) := by decide +kernel
theorem dX6_wrongOrder_283 : decode cX6_wrongOrder 283 = .ok (.iconst 0, 1) := by decide +kernel
theorem dX6_wrongOrder_284 : decode cX6_wrongOrder 284 = .ok (.iaload, 1) := by decide +kernel
theorem dX6_wrongOrder_285 : decode cX6_wrongOrder 285 = .ok (.iconst 2, 1) := by decide +kernel
theorem dX6_wrongOrder_286 : decode cX6_wrongOrder 286 = .ok (.if_icmp .ne 20, 3) := by decide +kernel
theorem dX6_wrongOrder_289 : decode cX6_wrongOrder 289 = .ok (.iload_n 1, 1) := by decide +kernel
theorem dX6_wrongOrder_290 : decode cX6_wrongOrder 290 = .ok (.bipush 12, 2) := by decide +kernel
theorem dX6_wrongOrder_292 : decode cX6_wrongOrder 292 = .ok (.if_icmp .ne 7, 3) := by decide +kernel
theorem dX6_wrongOrder_295 : decode cX6_wrongOrder 295 = .ok (.iconst (-1), 1) := by decide +kernel
theorem dX6_wrongOrder_296 : decode cX6_wrongOrder 296 = .ok (.goto 23, 3) := by decide +kernel
theorem dX6_wrongOrder_299 : decode cX6_wrongOrder 299 = .ok (.aload_n 0, 1) := by decide +kernel
theorem dX6_wrongOrder_300 : decode cX6_wrongOrder 300 = .ok (.getfield 95, 3) := by decide +kernel
theorem dX6_wrongOrder_303 : decode cX6_wrongOrder 303 = .ok (.goto 16, 3) := by decide +kernel
theorem dX6_wrongOrder_306 : decode cX6_wrongOrder 306 = .ok (.iload 4, 2) := by decide +kernel
theorem dX6_wrongOrder_308 : decode cX6_wrongOrder 308 = .ok (.ifCond .eq 7, 3) := by decide +kernel
theorem dX6_wrongOrder_311 : decode cX6_wrongOrder 311 = .ok (.iconst (-1), 1) := by decide +kernel
theorem dX6_wrongOrder_312 : decode cX6_wrongOrder 312 = .ok (.goto 7, 3) := by decide +kernel
theorem dX6_wrongOrder_315 : decode cX6_wrongOrder 315 = .ok (.aload_n 0, 1) := by decide +kernel
theorem dX6_wrongOrder_316 : decode cX6_wrongOrder 316 = .ok (.getfield 95, 3) := by decide +kernel
theorem dX6_wrongOrder_319 : decode cX6_wrongOrder 319 = .ok (.ireturn, 1) := by decide +kernel
set_option maxRecDepth 20000 in
theorem ggX6_wrongAnswer_X6_isAdjective : GoodIn wsX6_wrongAnswer wsX6_isAdjective := goodIn_r _ [6] (by decide +kernel) (by decide +kernel)
set_option maxRecDepth 20000 in
theorem gX6_wrongAnswer_X6_isAdjective : GoodIn wsX6_wrongAnswer (va_wsS RX6 86 yX6_isAdjective wsX6_isAdjective) := goodIn_app (goodIn_of _ (by decide +kernel)) ggX6_wrongAnswer_X6_isAdjective
set_option maxRecDepth 20000 in
theorem ggX6_wrongAnswer_X6_isNoun : GoodIn wsX6_wrongAnswer wsX6_isNoun := goodIn_r _ [9] (by decide +kernel) (by decide +kernel)
set_option maxRecDepth 20000 in
theorem gX6_wrongAnswer_X6_isNoun : GoodIn wsX6_wrongAnswer (va_wsS RX6 89 yX6_isNoun wsX6_isNoun) := goodIn_app (goodIn_of _ (by decide +kernel)) ggX6_wrongAnswer_X6_isNoun
theorem dX6_wrongAnswer_0 : decode cX6_wrongAnswer 0 = .ok (.iconst 0, 1) := by decide +kernel
theorem dX6_wrongAnswer_1 : decode cX6_wrongAnswer 1 = .ok (.istore_n 1, 1) := by decide +kernel
theorem dX6_wrongAnswer_2 : decode cX6_wrongAnswer 2 = .ok (.iconst 0, 1) := by decide +kernel
theorem dX6_wrongAnswer_3 : decode cX6_wrongAnswer 3 = .ok (.istore_n 2, 1) := by decide +kernel
theorem dX6_wrongAnswer_4 : decode cX6_wrongAnswer 4 = .ok (.iconst 0, 1) := by decide +kernel
theorem dX6_wrongAnswer_5 : decode cX6_wrongAnswer 5 = .ok (.istore_n 3, 1) := by decide +kernel
theorem dX6_wrongAnswer_6 : decode cX6_wrongAnswer 6 = .ok (.iload_n 3, 1) := by decide +kernel
theorem dX6_wrongAnswer_7 : decode cX6_wrongAnswer 7 = .ok (.aload_n 0, 1) := by decide +kernel
theorem dX6_wrongAnswer_8 : decode cX6_wrongAnswer 8 = .ok (.getfield 95, 3) := by decide +kernel
theorem dX6_wrongAnswer_11 : decode cX6_wrongAnswer 11 = .ok (.if_icmp .ge 107, 3) := by decide +kernel
theorem dX6_wrongAnswer_14 : decode cX6_wrongAnswer 14 = .ok (.aload_n 0, 1) := by decide +kernel
theorem dX6_wrongAnswer_15 : decode cX6_wrongAnswer 15 = .ok (.getfield 26, 3) := by decide +kernel
theorem dX6_wrongAnswer_18 : decode cX6_wrongAnswer 18 = .ok (.iload_n 3, 1) := by decide +kernel
theorem dX6_wrongAnswer_19 : decode cX6_wrongAnswer 19 = .ok (.iaload, 1) := by decide +kernel
theorem dX6_wrongAnswer_20 : decode cX6_wrongAnswer 20 = .ok (.istore 4, 2) := by decide +kernel
theorem dX6_wrongAnswer_22 : decode cX6_wrongAnswer 22 = .ok (.iload_n 2, 1) := by decide +kernel
theorem dX6_wrongAnswer_23 : decode cX6_wrongAnswer 23 = .ok (.ifCond .ne 41, 3) := by decide +kernel
theorem dX6_wrongAnswer_26 : decode cX6_wrongAnswer 26 = .ok (.iload_n 3, 1) := by decide +kernel
theorem dX6_wrongAnswer_27 : decode cX6_wrongAnswer 27 = .ok (.ifCond .ne 10, 3) := by decide +kernel
theorem dX6_wrongAnswer_30 : decode cX6_wrongAnswer 30 = .ok (.iload 4, 2) := by decide +kernel
theorem dX6_wrongAnswer_32 : decode cX6_wrongAnswer 32 = .ok (.bipush 10, 2) := by decide +kernel
theorem dX6_wrongAnswer_34 : decode cX6_wrongAnswer 34 = .ok (.if_icmp .eq 26, 3) := by decide +kernel
theorem dX6_wrongAnswer_37 : decode cX6_wrongAnswer 37 = .ok (.iload 4, 2) := by decide +kernel
theorem dX6_wrongAnswer_39 : decode cX6_wrongAnswer 39 = .ok (.invokestatic 86, 3) := by decide +kernel
theorem dX6_wrongAnswer_42 : decode cX6_wrongAnswer 42 = .ok (.ifCond .ne 18, 3) := by decide +kernel
theorem dX6_wrongAnswer_45 : decode cX6_wrongAnswer 45 = .ok (.iload 4, 2) := by decide +kernel
theorem dX6_wrongAnswer_47 : decode cX6_wrongAnswer 47 = .ok (.invokestatic 89, 3) := by decide +kernel
theorem dX6_wrongAnswer_50 : decode cX6_wrongAnswer 50 = .ok (.ifCond .ne 10, 3) := by decide +kernel
theorem dX6_wrongAnswer_53 : decode cX6_wrongAnswer 53 = .ok (.iload 4, 2) := by decide +kernel
theorem dX6_wrongAnswer_55 : decode cX6_wrongAnswer 55 = .ok (.bipush 17, 2) := by decide +kernel
theorem dX6_wrongAnswer_57 : decode cX6_wrongAnswer 57 = .ok (.if_icmp .ne 7, 3) := by decide +kernel
theorem dX6_wrongAnswer_60 : decode cX6_wrongAnswer 60 = .ok (.iconst 1, 1) := by decide +kernel
theorem dX6_wrongAnswer_61 : decode cX6_wrongAnswer 61 = .ok (.goto 4, 3) := by decide +kernel
theorem dX6_wrongAnswer_64 : decode cX6_wrongAnswer 64 = .ok (.iconst 0, 1) := by decide +kernel
theorem dX6_wrongAnswer_65 : decode cX6_wrongAnswer 65 = .ok (.istore 5, 2) := by decide +kernel
theorem dX6_wrongAnswer_67 : decode cX6_wrongAnswer 67 = .ok (.iload 5, 2) := by decide +kernel
theorem dX6_wrongAnswer_69 : decode cX6_wrongAnswer 69 = .ok (.ifCond .ne 5, 3) := by decide +kernel
theorem dX6_wrongAnswer_72 : decode cX6_wrongAnswer 72 = .ok (.iload_n 3, 1) := by decide +kernel
theorem dX6_wrongAnswer_73 : decode cX6_wrongAnswer 73 = .ok (.ireturn, 1) := by decide +kernel
theorem dX6_wrongAnswer_74 : decode cX6_wrongAnswer 74 = .ok (.iload_n 1, 1) := by decide +kernel
theorem dX6_wrongAnswer_75 : decode cX6_wrongAnswer 75 = .ok (.ifCond .ne 10, 3) := by decide +kernel
theorem dX6_wrongAnswer_78 : decode cX6_wrongAnswer 78 = .ok (.iload 4, 2) := by decide +kernel
theorem dX6_wrongAnswer_80 : decode cX6_wrongAnswer 80 = .ok (.bipush 10, 2) := by decide +kernel
theorem dX6_wrongAnswer_82 : decode cX6_wrongAnswer 82 = .ok (.if_icmp .eq 7, 3) := by decide +kernel
theorem dX6_wrongAnswer_85 : decode cX6_wrongAnswer 85 = .ok (.iconst 1, 1) := by decide +kernel
theorem dX6_wrongAnswer_86 : decode cX6_wrongAnswer 86 = .ok (.goto 4, 3) := by decide +kernel
theorem dX6_wrongAnswer_89 : decode cX6_wrongAnswer 89 = .ok (.iconst 0, 1) := by decide +kernel
theorem dX6_wrongAnswer_90 : decode cX6_wrongAnswer 90 = .ok (.istore_n 1, 1) := by decide +kernel
theorem dX6_wrongAnswer_91 : decode cX6_wrongAnswer 91 = .ok (.iload 4, 2) := by decide +kernel
theorem dX6_wrongAnswer_93 : decode cX6_wrongAnswer 93 = .ok (.invokestatic 89, 3) := by decide +kernel
theorem dX6_wrongAnswer_96 : decode cX6_wrongAnswer 96 = .ok (.ifCond .ne 10, 3) := by decide +kernel
theorem dX6_wrongAnswer_99 : decode cX6_wrongAnswer 99 = .ok (.iload 4, 2) := by decide +kernel
theorem dX6_wrongAnswer_101 : decode cX6_wrongAnswer 101 = .ok (.bipush 17, 2) := by decide +kernel
theorem dX6_wrongAnswer_103 : decode cX6_wrongAnswer 103 = .ok (.if_icmp .ne 7, 3) := by decide +kernel
theorem dX6_wrongAnswer_106 : decode cX6_wrongAnswer 106 = .ok (.iconst 1, 1) := by decide +kernel
theorem dX6_wrongAnswer_107 : decode cX6_wrongAnswer 107 = .ok (.goto 4, 3) := by decide +kernel
theorem dX6_wrongAnswer_110 : decode cX6_wrongAnswer 110 = .ok (.iconst 0, 1) := by decide +kernel
theorem dX6_wrongAnswer_111 : decode cX6_wrongAnswer 111 = .ok (.istore_n 2, 1) := by decide +kernel
theorem dX6_wrongAnswer_112 : decode cX6_wrongAnswer 112 = .ok (.iinc 3 1, 3) := by decide +kernel
theorem dX6_wrongAnswer_115 : decode cX6_wrongAnswer 115 = .ok (.goto (-109), 3) := by decide +kernel
theorem dX6_wrongAnswer_118 : decode cX6_wrongAnswer 118 = .ok (.iload_n 1, 1) := by decide +kernel
theorem dX6_wrongAnswer_119 : decode cX6_wrongAnswer 119 = .ok (.ifCond .eq 7, 3) := by decide +kernel
theorem dX6_wrongAnswer_122 : decode cX6_wrongAnswer 122 = .ok (.iconst (-1), 1) := by decide +kernel
theorem dX6_wrongAnswer_123 : decode cX6_wrongAnswer 123 = .ok (.goto 7, 3) := by decide +kernel
theorem dX6_wrongAnswer_126 : decode cX6_wrongAnswer 126 = .ok (.aload_n 0, 1) := by decide +kernel
theorem dX6_wrongAnswer_127 : decode cX6_wrongAnswer 127 = .ok (.getfield 95, 3) := by decide +kernel
theorem dX6_wrongAnswer_130 : decode cX6_wrongAnswer 130 = .ok (.ireturn, 1) := by decide +kernel
theorem dX6_is_0 : decode cX6_is 0 = .ok (.aload_n 0, 1) := by decide +kernel
theorem dX6_is_1 : decode cX6_is 1 = .ok (.getfield 102, 3) := by decide +kernel
theorem dX6_is_4 : decode cX6_is 4 = .ok (.aload_n 0, 1) := by decide +kernel
theorem dX6_is_5 : decode cX6_is 5 = .ok (.getfield 105, 3) := by decide +kernel
theorem dX6_is_8 : decode cX6_is 8 = .ok (.if_icmp .ge 20, 3) := by decide +kernel
theorem dX6_is_11 : decode cX6_is 11 = .ok (.aload_n 0, 1) := by decide +kernel
theorem dX6_is_12 : decode cX6_is 12 = .ok (.getfield 45, 3) := by decide +kernel
theorem dX6_is_15 : decode cX6_is 15 = .ok (.aload_n 0, 1) := by decide +kernel
theorem dX6_is_16 : decode cX6_is 16 = .ok (.getfield 102, 3) := by decide +kernel
theorem dX6_is_19 : decode cX6_is 19 = .ok (.iaload, 1) := by decide +kernel
theorem dX6_is_20 : decode cX6_is 20 = .ok (.iload_n 1, 1) := by decide +kernel
theorem dX6_is_21 : decode cX6_is 21 = .ok (.if_icmp .ne 7, 3) := by decide +kernel
theorem dX6_is_24 : decode cX6_is 24 = .ok (.iconst 1, 1) := by decide +kernel
theorem dX6_is_25 : decode cX6_is 25 = .ok (.goto 4, 3) := by decide +kernel
theorem dX6_is_28 : decode cX6_is 28 = .ok (.iconst 0, 1) := by decide +kernel
theorem dX6_is_29 : decode cX6_is 29 = .ok (.ireturn, 1) := by decide +kernel
set_option maxRecDepth 20000 in
theorem ggX6_endOf_X6_isAdjective : GoodIn wsX6_endOf wsX6_isAdjective := goodIn_r _ [5] (by decide +kernel) (by decide +kernel)
set_option maxRecDepth 20000 in
theorem gX6_endOf_X6_isAdjective : GoodIn wsX6_endOf (va_wsS RX6 86 yX6_isAdjective wsX6_isAdjective) := goodIn_app (goodIn_of _ (by decide +kernel)) ggX6_endOf_X6_isAdjective
theorem dX6_endOf_0 : decode cX6_endOf 0 = .ok (.iload_n 1, 1) := by decide +kernel
theorem dX6_endOf_1 : decode cX6_endOf 1 = .ok (.istore_n 2, 1) := by decide +kernel
theorem dX6_endOf_2 : decode cX6_endOf 2 = .ok (.aload_n 0, 1) := by decide +kernel
theorem dX6_endOf_3 : decode cX6_endOf 3 = .ok (.getfield 45, 3) := by decide +kernel
theorem dX6_endOf_6 : decode cX6_endOf 6 = .ok (.iload_n 2, 1) := by decide +kernel
theorem dX6_endOf_7 : decode cX6_endOf 7 = .ok (.iaload, 1) := by decide +kernel
theorem dX6_endOf_8 : decode cX6_endOf 8 = .ok (.bipush 10, 2) := by decide +kernel
theorem dX6_endOf_10 : decode cX6_endOf 10 = .ok (.if_icmp .eq 15, 3) := by decide +kernel
theorem dX6_endOf_13 : decode cX6_endOf 13 = .ok (.aload_n 0, 1) := by decide +kernel
theorem dX6_endOf_14 : decode cX6_endOf 14 = .ok (.getfield 45, 3) := by decide +kernel
theorem dX6_endOf_17 : decode cX6_endOf 17 = .ok (.iload_n 2, 1) := by decide +kernel
theorem dX6_endOf_18 : decode cX6_endOf 18 = .ok (.iaload, 1) := by decide +kernel
theorem dX6_endOf_19 : decode cX6_endOf 19 = .ok (.invokestatic 86, 3) := by decide +kernel
theorem dX6_endOf_22 : decode cX6_endOf 22 = .ok (.ifCond .eq 9, 3) := by decide +kernel
theorem dX6_endOf_25 : decode cX6_endOf 25 = .ok (.iinc 2 1, 3) := by decide +kernel
theorem dX6_endOf_28 : decode cX6_endOf 28 = .ok (.goto (-26), 3) := by decide +kernel
theorem dX6_endOf_31 : decode cX6_endOf 31 = .ok (.iload_n 2, 1) := by decide +kernel
theorem dX6_endOf_32 : decode cX6_endOf 32 = .ok (.ireturn, 1) := by decide +kernel
set_option maxRecDepth 20000 in
theorem ggX6_adjectivesUpTo_X6_isAdjective : GoodIn wsX6_adjectivesUpTo wsX6_isAdjective := goodIn_r _ [5] (by decide +kernel) (by decide +kernel)
set_option maxRecDepth 20000 in
theorem gX6_adjectivesUpTo_X6_isAdjective : GoodIn wsX6_adjectivesUpTo (va_wsS RX6 86 yX6_isAdjective wsX6_isAdjective) := goodIn_app (goodIn_of _ (by decide +kernel)) ggX6_adjectivesUpTo_X6_isAdjective
theorem dX6_adjectivesUpTo_0 : decode cX6_adjectivesUpTo 0 = .ok (.iconst 0, 1) := by decide +kernel
theorem dX6_adjectivesUpTo_1 : decode cX6_adjectivesUpTo 1 = .ok (.istore_n 3, 1) := by decide +kernel
theorem dX6_adjectivesUpTo_2 : decode cX6_adjectivesUpTo 2 = .ok (.iload_n 1, 1) := by decide +kernel
theorem dX6_adjectivesUpTo_3 : decode cX6_adjectivesUpTo 3 = .ok (.istore 4, 2) := by decide +kernel
theorem dX6_adjectivesUpTo_5 : decode cX6_adjectivesUpTo 5 = .ok (.iload 4, 2) := by decide +kernel
theorem dX6_adjectivesUpTo_7 : decode cX6_adjectivesUpTo 7 = .ok (.iload_n 2, 1) := by decide +kernel
theorem dX6_adjectivesUpTo_8 : decode cX6_adjectivesUpTo 8 = .ok (.if_icmp .ge 41, 3) := by decide +kernel
theorem dX6_adjectivesUpTo_11 : decode cX6_adjectivesUpTo 11 = .ok (.iload_n 3, 1) := by decide +kernel
theorem dX6_adjectivesUpTo_12 : decode cX6_adjectivesUpTo 12 = .ok (.aload_n 0, 1) := by decide +kernel
theorem dX6_adjectivesUpTo_13 : decode cX6_adjectivesUpTo 13 = .ok (.getfield 45, 3) := by decide +kernel
theorem dX6_adjectivesUpTo_16 : decode cX6_adjectivesUpTo 16 = .ok (.iload 4, 2) := by decide +kernel
theorem dX6_adjectivesUpTo_18 : decode cX6_adjectivesUpTo 18 = .ok (.iaload, 1) := by decide +kernel
theorem dX6_adjectivesUpTo_19 : decode cX6_adjectivesUpTo 19 = .ok (.invokestatic 86, 3) := by decide +kernel
theorem dX6_adjectivesUpTo_22 : decode cX6_adjectivesUpTo 22 = .ok (.ifCond .eq 18, 3) := by decide +kernel
theorem dX6_adjectivesUpTo_25 : decode cX6_adjectivesUpTo 25 = .ok (.iconst 1, 1) := by decide +kernel
theorem dX6_adjectivesUpTo_26 : decode cX6_adjectivesUpTo 26 = .ok (.aload_n 0, 1) := by decide +kernel
theorem dX6_adjectivesUpTo_27 : decode cX6_adjectivesUpTo 27 = .ok (.getfield 45, 3) := by decide +kernel
theorem dX6_adjectivesUpTo_30 : decode cX6_adjectivesUpTo 30 = .ok (.iload 4, 2) := by decide +kernel
theorem dX6_adjectivesUpTo_32 : decode cX6_adjectivesUpTo 32 = .ok (.iaload, 1) := by decide +kernel
theorem dX6_adjectivesUpTo_33 : decode cX6_adjectivesUpTo 33 = .ok (.bipush 20, 2) := by decide +kernel
theorem dX6_adjectivesUpTo_35 : decode cX6_adjectivesUpTo 35 = .ok (.isub, 1) := by decide +kernel
theorem dX6_adjectivesUpTo_36 : decode cX6_adjectivesUpTo 36 = .ok (.ishl, 1) := by decide +kernel
theorem dX6_adjectivesUpTo_37 : decode cX6_adjectivesUpTo 37 = .ok (.goto 4, 3) := by decide +kernel
theorem dX6_adjectivesUpTo_40 : decode cX6_adjectivesUpTo 40 = .ok (.iconst 0, 1) := by decide +kernel
theorem dX6_adjectivesUpTo_41 : decode cX6_adjectivesUpTo 41 = .ok (.ior, 1) := by decide +kernel
theorem dX6_adjectivesUpTo_42 : decode cX6_adjectivesUpTo 42 = .ok (.istore_n 3, 1) := by decide +kernel
theorem dX6_adjectivesUpTo_43 : decode cX6_adjectivesUpTo 43 = .ok (.iinc 4 1, 3) := by decide +kernel
theorem dX6_adjectivesUpTo_46 : decode cX6_adjectivesUpTo 46 = .ok (.goto (-41), 3) := by decide +kernel
theorem dX6_adjectivesUpTo_49 : decode cX6_adjectivesUpTo 49 = .ok (.iload_n 3, 1) := by decide +kernel
theorem dX6_adjectivesUpTo_50 : decode cX6_adjectivesUpTo 50 = .ok (.ireturn, 1) := by decide +kernel
theorem dX6_fail_0 : decode cX6_fail 0 = .ok (.aload_n 0, 1) := by decide +kernel
theorem dX6_fail_1 : decode cX6_fail 1 = .ok (.iload_n 1, 1) := by decide +kernel
theorem dX6_fail_2 : decode cX6_fail 2 = .ok (.putfield 108, 3) := by decide +kernel
theorem dX6_fail_5 : decode cX6_fail 5 = .ok (.aload_n 0, 1) := by decide +kernel
theorem dX6_fail_6 : decode cX6_fail 6 = .ok (.iload_n 2, 1) := by decide +kernel
theorem dX6_fail_7 : decode cX6_fail 7 = .ok (.putfield 111, 3) := by decide +kernel
theorem dX6_fail_10 : decode cX6_fail 10 = .ok (.iconst (-1), 1) := by decide +kernel
theorem dX6_fail_11 : decode cX6_fail 11 = .ok (.ireturn, 1) := by decide +kernel
set_option maxRecDepth 20000 in
theorem ggX6_single_X6_endOf : GoodIn wsX6_single wsX6_endOf := goodIn_r _ [9, 3, 10, 11, 8, 12, 55, 56, 57, 58, 59, 60, 61, 62, 63, 64, 65, 66, 67, 68, 69, 70, 71, 72, 73, 74, 75, 76, 77, 78, 79] (by decide +kernel) (by decide +kernel)
set_option maxRecDepth 20000 in
theorem gX6_single_X6_endOf : GoodIn wsX6_single (wsV RX6 114 RX6 yX6_endOf wsX6_endOf) := goodIn_app (goodIn_of _ (by decide +kernel)) ggX6_single_X6_endOf
set_option maxRecDepth 20000 in
theorem ggX6_single_X6_reaches : GoodIn wsX6_single wsX6_reaches := goodIn_r _ [16, 17, 18, 55, 56, 57, 58, 59, 60, 61, 62, 63, 64, 65, 66, 67, 68, 69, 70, 71, 72, 73, 74, 75, 76, 77, 78, 79] (by decide +kernel) (by decide +kernel)
set_option maxRecDepth 20000 in
theorem gX6_single_X6_reaches : GoodIn wsX6_single (wsV RX6 72 RX6 yX6_reaches wsX6_reaches) := goodIn_app (goodIn_of _ (by decide +kernel)) ggX6_single_X6_reaches
set_option maxRecDepth 20000 in
theorem ggX6_single_X6_fail : GoodIn wsX6_single wsX6_fail := goodIn_r _ [22, 23, 24, 55, 56, 57, 58, 59, 60, 61, 62, 63, 64, 65, 66, 67, 68, 69, 70, 71, 72, 73, 74, 75, 76, 77, 78, 79] (by decide +kernel) (by decide +kernel)
set_option maxRecDepth 20000 in
theorem gX6_single_X6_fail : GoodIn wsX6_single (wsV RX6 118 RX6 yX6_fail wsX6_fail) := goodIn_app (goodIn_of _ (by decide +kernel)) ggX6_single_X6_fail
set_option maxRecDepth 20000 in
theorem ggX6_single_X6_reachable : GoodIn wsX6_single wsX6_reachable := goodIn_r _ [28, 29, 13, 14, 15, 8, 16, 17, 18, 55, 56, 57, 58, 59, 60, 61, 62, 63, 64, 65, 66, 67, 68, 69, 70, 71, 72, 73, 74, 75, 76, 77, 78, 79] (by decide +kernel) (by decide +kernel)
set_option maxRecDepth 20000 in
theorem gX6_single_X6_reachable : GoodIn wsX6_single (wsV RX6 75 RX6 yX6_reachable wsX6_reachable) := goodIn_app (goodIn_of _ (by decide +kernel)) ggX6_single_X6_reachable
set_option maxRecDepth 20000 in
theorem ggX6_single_X6_adjectivesUpTo : GoodIn wsX6_single wsX6_adjectivesUpTo := goodIn_r _ [33, 3, 10, 11, 8, 12, 55, 56, 57, 58, 59, 60, 61, 62, 63, 64, 65, 66, 67, 68, 69, 70, 71, 72, 73, 74, 75, 76, 77, 78, 79] (by decide +kernel) (by decide +kernel)
set_option maxRecDepth 20000 in
theorem gX6_single_X6_adjectivesUpTo : GoodIn wsX6_single (wsV RX6 122 RX6 yX6_adjectivesUpTo wsX6_adjectivesUpTo) := goodIn_app (goodIn_of _ (by decide +kernel)) ggX6_single_X6_adjectivesUpTo
set_option maxRecDepth 20000 in
theorem ggX6_single_X6_having : GoodIn wsX6_single wsX6_having := goodIn_r _ [37, 29, 38, 39, 55, 56, 57, 58, 59, 60, 61, 62, 63, 64, 65, 66, 67, 68, 69, 70, 71, 72, 73, 74, 75, 76, 77, 78, 79] (by decide +kernel) (by decide +kernel)
set_option maxRecDepth 20000 in
theorem gX6_single_X6_having : GoodIn wsX6_single (wsV RX6 125 RX6 yX6_having wsX6_having) := goodIn_app (goodIn_of _ (by decide +kernel)) ggX6_single_X6_having
set_option maxRecDepth 20000 in
theorem ggX6_single_X6_bits : GoodIn wsX6_single wsX6_bits := goodIn_r _ [42] (by decide +kernel) (by decide +kernel)
set_option maxRecDepth 20000 in
theorem gX6_single_X6_bits : GoodIn wsX6_single (va_wsS RX6 128 yX6_bits wsX6_bits) := goodIn_app (goodIn_of _ (by decide +kernel)) ggX6_single_X6_bits
set_option maxRecDepth 20000 in
theorem ggX6_single_X6_lowest : GoodIn wsX6_single wsX6_lowest := goodIn_r _ [45] (by decide +kernel) (by decide +kernel)
set_option maxRecDepth 20000 in
theorem gX6_single_X6_lowest : GoodIn wsX6_single (va_wsS RX6 131 yX6_lowest wsX6_lowest) := goodIn_app (goodIn_of _ (by decide +kernel)) ggX6_single_X6_lowest
set_option maxRecDepth 20000 in
theorem ggX6_single_X6_suited : GoodIn wsX6_single wsX6_suited := goodIn_r _ [49, 29, 50, 51, 52, 8, 53, 17, 54, 18, 13, 14, 15, 16, 55, 56, 57, 58, 59, 60, 61, 62, 63, 64, 65, 66, 67, 68, 69, 70, 71, 72, 73, 74, 75, 76, 77, 78, 79] (by decide +kernel) (by decide +kernel)
set_option maxRecDepth 20000 in
theorem gX6_single_X6_suited : GoodIn wsX6_single (wsV RX6 134 RX6 yX6_suited wsX6_suited) := goodIn_app (goodIn_of _ (by decide +kernel)) ggX6_single_X6_suited
theorem dX6_single_0 : decode cX6_single 0 = .ok (.aload_n 0, 1) := by decide +kernel
theorem dX6_single_1 : decode cX6_single 1 = .ok (.getfield 102, 3) := by decide +kernel
theorem dX6_single_4 : decode cX6_single 4 = .ok (.istore_n 2, 1) := by decide +kernel
theorem dX6_single_5 : decode cX6_single 5 = .ok (.aload_n 0, 1) := by decide +kernel
theorem dX6_single_6 : decode cX6_single 6 = .ok (.iload_n 2, 1) := by decide +kernel
theorem dX6_single_7 : decode cX6_single 7 = .ok (.invokevirtual 114, 3) := by decide +kernel
theorem dX6_single_10 : decode cX6_single 10 = .ok (.istore_n 3, 1) := by decide +kernel
theorem dX6_single_11 : decode cX6_single 11 = .ok (.aload_n 0, 1) := by decide +kernel
theorem dX6_single_12 : decode cX6_single 12 = .ok (.iload_n 3, 1) := by decide +kernel
theorem dX6_single_13 : decode cX6_single 13 = .ok (.iconst 1, 1) := by decide +kernel
theorem dX6_single_14 : decode cX6_single 14 = .ok (.iadd, 1) := by decide +kernel
theorem dX6_single_15 : decode cX6_single 15 = .ok (.putfield 102, 3) := by decide +kernel
theorem dX6_single_18 : decode cX6_single 18 = .ok (.aload_n 0, 1) := by decide +kernel
theorem dX6_single_19 : decode cX6_single 19 = .ok (.getfield 48, 3) := by decide +kernel
theorem dX6_single_22 : decode cX6_single 22 = .ok (.iload_n 3, 1) := by decide +kernel
theorem dX6_single_23 : decode cX6_single 23 = .ok (.iaload, 1) := by decide +kernel
theorem dX6_single_24 : decode cX6_single 24 = .ok (.iconst (-1), 1) := by decide +kernel
theorem dX6_single_25 : decode cX6_single 25 = .ok (.if_icmp .eq 10, 3) := by decide +kernel
theorem dX6_single_28 : decode cX6_single 28 = .ok (.aload_n 0, 1) := by decide +kernel
theorem dX6_single_29 : decode cX6_single 29 = .ok (.getfield 48, 3) := by decide +kernel
theorem dX6_single_32 : decode cX6_single 32 = .ok (.iload_n 3, 1) := by decide +kernel
theorem dX6_single_33 : decode cX6_single 33 = .ok (.iaload, 1) := by decide +kernel
theorem dX6_single_34 : decode cX6_single 34 = .ok (.ireturn, 1) := by decide +kernel
theorem dX6_single_35 : decode cX6_single 35 = .ok (.aload_n 0, 1) := by decide +kernel
theorem dX6_single_36 : decode cX6_single 36 = .ok (.getfield 45, 3) := by decide +kernel
theorem dX6_single_39 : decode cX6_single 39 = .ok (.iload_n 3, 1) := by decide +kernel
theorem dX6_single_40 : decode cX6_single 40 = .ok (.iaload, 1) := by decide +kernel
theorem dX6_single_41 : decode cX6_single 41 = .ok (.bipush 14, 2) := by decide +kernel
theorem dX6_single_43 : decode cX6_single 43 = .ok (.if_icmp .ne 36, 3) := by decide +kernel
theorem dX6_single_46 : decode cX6_single 46 = .ok (.aload_n 0, 1) := by decide +kernel
theorem dX6_single_47 : decode cX6_single 47 = .ok (.getfield 42, 3) := by decide +kernel
theorem dX6_single_50 : decode cX6_single 50 = .ok (.iconst (-1), 1) := by decide +kernel
theorem dX6_single_51 : decode cX6_single 51 = .ok (.if_icmp .eq 21, 3) := by decide +kernel
theorem dX6_single_54 : decode cX6_single 54 = .ok (.aload_n 0, 1) := by decide +kernel
theorem dX6_single_55 : decode cX6_single 55 = .ok (.aload_n 0, 1) := by decide +kernel
theorem dX6_single_56 : decode cX6_single 56 = .ok (.getfield 42, 3) := by decide +kernel
theorem dX6_single_59 : decode cX6_single 59 = .ok (.invokevirtual 72, 3) := by decide +kernel
theorem dX6_single_62 : decode cX6_single 62 = .ok (.ifCond .eq 10, 3) := by decide +kernel
theorem dX6_single_65 : decode cX6_single 65 = .ok (.aload_n 0, 1) := by decide +kernel
theorem dX6_single_66 : decode cX6_single 66 = .ok (.getfield 42, 3) := by decide +kernel
theorem dX6_single_69 : decode cX6_single 69 = .ok (.goto 9, 3) := by decide +kernel
theorem dX6_single_72 : decode cX6_single 72 = .ok (.aload_n 0, 1) := by decide +kernel
theorem dX6_single_73 : decode cX6_single 73 = .ok (.iload_n 3, 1) := by decide +kernel
theorem dX6_single_74 : decode cX6_single 74 = .ok (.iconst 0, 1) := by decide +kernel
theorem dX6_single_75 : decode cX6_single 75 = .ok (.invokevirtual 118, 3) := by decide +kernel
theorem dX6_single_78 : decode cX6_single 78 = .ok (.ireturn, 1) := by decide +kernel
theorem dX6_single_79 : decode cX6_single 79 = .ok (.aload_n 0, 1) := by decide +kernel
theorem dX6_single_80 : decode cX6_single 80 = .ok (.aload_n 0, 1) := by decide +kernel
theorem dX6_single_81 : decode cX6_single 81 = .ok (.invokevirtual 75, 3) := by decide +kernel
theorem dX6_single_84 : decode cX6_single 84 = .ok (.aload_n 0, 1) := by decide +kernel
theorem dX6_single_85 : decode cX6_single 85 = .ok (.iload_n 2, 1) := by decide +kernel
theorem dX6_single_86 : decode cX6_single 86 = .ok (.iload_n 3, 1) := by decide +kernel
theorem dX6_single_87 : decode cX6_single 87 = .ok (.invokevirtual 122, 3) := by decide +kernel
theorem dX6_single_90 : decode cX6_single 90 = .ok (.aload_n 0, 1) := by decide +kernel
theorem dX6_single_91 : decode cX6_single 91 = .ok (.getfield 45, 3) := by decide +kernel
theorem dX6_single_94 : decode cX6_single 94 = .ok (.iload_n 3, 1) := by decide +kernel
theorem dX6_single_95 : decode cX6_single 95 = .ok (.iaload, 1) := by decide +kernel
theorem dX6_single_96 : decode cX6_single 96 = .ok (.bipush 17, 2) := by decide +kernel
theorem dX6_single_98 : decode cX6_single 98 = .ok (.if_icmp .ne 7, 3) := by decide +kernel
theorem dX6_single_101 : decode cX6_single 101 = .ok (.iconst (-1), 1) := by decide +kernel
theorem dX6_single_102 : decode cX6_single 102 = .ok (.goto 12, 3) := by decide +kernel
theorem dX6_single_105 : decode cX6_single 105 = .ok (.aload_n 0, 1) := by decide +kernel
theorem dX6_single_106 : decode cX6_single 106 = .ok (.getfield 45, 3) := by decide +kernel
theorem dX6_single_109 : decode cX6_single 109 = .ok (.iload_n 3, 1) := by decide +kernel
theorem dX6_single_110 : decode cX6_single 110 = .ok (.iaload, 1) := by decide +kernel
theorem dX6_single_111 : decode cX6_single 111 = .ok (.bipush 30, 2) := by decide +kernel
theorem dX6_single_113 : decode cX6_single 113 = .ok (.isub, 1) := by decide +kernel
theorem dX6_single_114 : decode cX6_single 114 = .ok (.invokevirtual 125, 3) := by decide +kernel
theorem dX6_single_117 : decode cX6_single 117 = .ok (.istore 4, 2) := by decide +kernel
theorem dX6_single_119 : decode cX6_single 119 = .ok (.iload 4, 2) := by decide +kernel
theorem dX6_single_121 : decode cX6_single 121 = .ok (.invokestatic 128, 3) := by decide +kernel
theorem dX6_single_124 : decode cX6_single 124 = .ok (.iconst 1, 1) := by decide +kernel
theorem dX6_single_125 : decode cX6_single 125 = .ok (.if_icmp .ne 9, 3) := by decide +kernel
theorem dX6_single_128 : decode cX6_single 128 = .ok (.iload 4, 2) := by decide +kernel
theorem dX6_single_130 : decode cX6_single 130 = .ok (.invokestatic 131, 3) := by decide +kernel
theorem dX6_single_133 : decode cX6_single 133 = .ok (.ireturn, 1) := by decide +kernel
theorem dX6_single_134 : decode cX6_single 134 = .ok (.aload_n 0, 1) := by decide +kernel
theorem dX6_single_135 : decode cX6_single 135 = .ok (.iload_n 1, 1) := by decide +kernel
theorem dX6_single_136 : decode cX6_single 136 = .ok (.iload 4, 2) := by decide +kernel
theorem dX6_single_138 : decode cX6_single 138 = .ok (.invokevirtual 134, 3) := by decide +kernel
theorem dX6_single_141 : decode cX6_single 141 = .ok (.istore 5, 2) := by decide +kernel
theorem dX6_single_143 : decode cX6_single 143 = .ok (.iload 5, 2) := by decide +kernel
theorem dX6_single_145 : decode cX6_single 145 = .ok (.invokestatic 128, 3) := by decide +kernel
theorem dX6_single_148 : decode cX6_single 148 = .ok (.iconst 1, 1) := by decide +kernel
theorem dX6_single_149 : decode cX6_single 149 = .ok (.if_icmp .ne 9, 3) := by decide +kernel
theorem dX6_single_152 : decode cX6_single 152 = .ok (.iload 5, 2) := by decide +kernel
theorem dX6_single_154 : decode cX6_single 154 = .ok (.invokestatic 131, 3) := by decide +kernel
theorem dX6_single_157 : decode cX6_single 157 = .ok (.ireturn, 1) := by decide +kernel
theorem dX6_single_158 : decode cX6_single 158 = .ok (.aload_n 0, 1) := by decide +kernel
theorem dX6_single_159 : decode cX6_single 159 = .ok (.iload_n 3, 1) := by decide +kernel
theorem dX6_single_160 : decode cX6_single 160 = .ok (.iload 5, 2) := by decide +kernel
theorem dX6_single_162 : decode cX6_single 162 = .ok (.ifCond .ne 8, 3) := by decide +kernel
theorem dX6_single_165 : decode cX6_single 165 = .ok (.iload 4, 2) := by decide +kernel
theorem dX6_single_167 : decode cX6_single 167 = .ok (.goto 5, 3) := by decide +kernel
theorem dX6_single_170 : decode cX6_single 170 = .ok (.iload 5, 2) := by decide +kernel
theorem dX6_single_172 : decode cX6_single 172 = .ok (.invokevirtual 118, 3) := by decide +kernel
theorem dX6_single_175 : decode cX6_single 175 = .ok (.ireturn, 1) := by decide +kernel
set_option maxRecDepth 20000 in
theorem ggX6_part_X6_is : GoodIn wsX6_part wsX6_is := goodIn_r _ [9, 1, 3, 4, 75, 76, 77, 78, 79, 80, 81, 82, 83, 84, 85, 86, 87, 88, 89, 90, 91, 92, 93, 94, 95, 96, 97, 98, 99] (by decide +kernel) (by decide +kernel)
set_option maxRecDepth 20000 in
theorem gX6_part_X6_is : GoodIn wsX6_part (wsV RX6 137 RX6 yX6_is wsX6_is) := goodIn_app (goodIn_of _ (by decide +kernel)) ggX6_part_X6_is
set_option maxRecDepth 20000 in
theorem ggX6_part_X6_reachable : GoodIn wsX6_part wsX6_reachable := goodIn_r _ [13, 14, 15, 16, 17, 8, 18, 19, 20, 75, 76, 77, 78, 79, 80, 81, 82, 83, 84, 85, 86, 87, 88, 89, 90, 91, 92, 93, 94, 95, 96, 97, 98, 99] (by decide +kernel) (by decide +kernel)
set_option maxRecDepth 20000 in
theorem gX6_part_X6_reachable : GoodIn wsX6_part (wsV RX6 75 RX6 yX6_reachable wsX6_reachable) := goodIn_app (goodIn_of _ (by decide +kernel)) ggX6_part_X6_reachable
set_option maxRecDepth 20000 in
theorem ggX6_part_X6_fail : GoodIn wsX6_part wsX6_fail := goodIn_r _ [24, 25, 26, 75, 76, 77, 78, 79, 80, 81, 82, 83, 84, 85, 86, 87, 88, 89, 90, 91, 92, 93, 94, 95, 96, 97, 98, 99] (by decide +kernel) (by decide +kernel)
set_option maxRecDepth 20000 in
theorem gX6_part_X6_fail : GoodIn wsX6_part (wsV RX6 118 RX6 yX6_fail wsX6_fail) := goodIn_app (goodIn_of _ (by decide +kernel)) ggX6_part_X6_fail
set_option maxRecDepth 20000 in
theorem ggX6_part_X6_endOf : GoodIn wsX6_part wsX6_endOf := goodIn_r _ [30, 4, 31, 32, 8, 33, 75, 76, 77, 78, 79, 80, 81, 82, 83, 84, 85, 86, 87, 88, 89, 90, 91, 92, 93, 94, 95, 96, 97, 98, 99] (by decide +kernel) (by decide +kernel)
set_option maxRecDepth 20000 in
theorem gX6_part_X6_endOf : GoodIn wsX6_part (wsV RX6 114 RX6 yX6_endOf wsX6_endOf) := goodIn_app (goodIn_of _ (by decide +kernel)) ggX6_part_X6_endOf
set_option maxRecDepth 20000 in
theorem ggX6_part_X6_isAdjective : GoodIn wsX6_part wsX6_isAdjective := goodIn_r _ [33] (by decide +kernel) (by decide +kernel)
set_option maxRecDepth 20000 in
theorem gX6_part_X6_isAdjective : GoodIn wsX6_part (va_wsS RX6 86 yX6_isAdjective wsX6_isAdjective) := goodIn_app (goodIn_of _ (by decide +kernel)) ggX6_part_X6_isAdjective
set_option maxRecDepth 20000 in
theorem ggX6_part_X6_isPlural : GoodIn wsX6_part wsX6_isPlural := goodIn_r _ [36] (by decide +kernel) (by decide +kernel)
set_option maxRecDepth 20000 in
theorem gX6_part_X6_isPlural : GoodIn wsX6_part (va_wsS RX6 92 yX6_isPlural wsX6_isPlural) := goodIn_app (goodIn_of _ (by decide +kernel)) ggX6_part_X6_isPlural
set_option maxRecDepth 20000 in
theorem ggX6_part_X6_single : GoodIn wsX6_part wsX6_single := goodIn_r _ [40, 1, 41, 4, 42, 27, 28, 29, 8, 30, 31, 32, 33, 15, 16, 17, 18, 19, 20, 21, 22, 23, 24, 25, 26, 10, 11, 12, 13, 14, 43, 44, 45, 46, 47, 48, 49, 50, 51, 52, 53, 54, 55, 56, 57, 58, 59, 60, 61, 62, 63, 64, 65, 66, 67, 75, 76, 77, 78, 79, 80, 81, 82, 83, 84, 85, 86, 87, 88, 89, 90, 91, 92, 93, 94, 95, 96, 97, 98, 99] (by decide +kernel) (by decide +kernel)
set_option maxRecDepth 20000 in
theorem gX6_part_X6_single : GoodIn wsX6_part (wsV RX6 143 RX6 yX6_single wsX6_single) := goodIn_app (goodIn_of _ (by decide +kernel)) ggX6_part_X6_single
set_option maxRecDepth 20000 in
theorem ggX6_part_X6_isSingleAt : GoodIn wsX6_part wsX6_isSingleAt := goodIn_r _ [71, 4, 27, 28, 29, 8, 30, 31, 32, 33, 72, 73, 74, 75, 76, 77, 78, 79, 80, 81, 82, 83, 84, 85, 86, 87, 88, 89, 90, 91, 92, 93, 94, 95, 96, 97, 98, 99] (by decide +kernel) (by decide +kernel)
set_option maxRecDepth 20000 in
theorem gX6_part_X6_isSingleAt : GoodIn wsX6_part (wsV RX6 146 RX6 yX6_isSingleAt wsX6_isSingleAt) := goodIn_app (goodIn_of _ (by decide +kernel)) ggX6_part_X6_isSingleAt
set_option maxRecDepth 20000 in
theorem ggX6_part_X6_adjectivesUpTo : GoodIn wsX6_part wsX6_adjectivesUpTo := goodIn_r _ [46, 4, 31, 32, 8, 33, 75, 76, 77, 78, 79, 80, 81, 82, 83, 84, 85, 86, 87, 88, 89, 90, 91, 92, 93, 94, 95, 96, 97, 98, 99] (by decide +kernel) (by decide +kernel)
set_option maxRecDepth 20000 in
theorem gX6_part_X6_adjectivesUpTo : GoodIn wsX6_part (wsV RX6 122 RX6 yX6_adjectivesUpTo wsX6_adjectivesUpTo) := goodIn_app (goodIn_of _ (by decide +kernel)) ggX6_part_X6_adjectivesUpTo
set_option maxRecDepth 20000 in
theorem ggX6_part_X6_having : GoodIn wsX6_part wsX6_having := goodIn_r _ [50, 14, 51, 52, 75, 76, 77, 78, 79, 80, 81, 82, 83, 84, 85, 86, 87, 88, 89, 90, 91, 92, 93, 94, 95, 96, 97, 98, 99] (by decide +kernel) (by decide +kernel)
set_option maxRecDepth 20000 in
theorem gX6_part_X6_having : GoodIn wsX6_part (wsV RX6 125 RX6 yX6_having wsX6_having) := goodIn_app (goodIn_of _ (by decide +kernel)) ggX6_part_X6_having
set_option maxRecDepth 20000 in
theorem ggX6_part_X6_suited : GoodIn wsX6_part wsX6_suited := goodIn_r _ [62, 14, 63, 64, 65, 8, 66, 19, 67, 20, 15, 16, 17, 18, 75, 76, 77, 78, 79, 80, 81, 82, 83, 84, 85, 86, 87, 88, 89, 90, 91, 92, 93, 94, 95, 96, 97, 98, 99] (by decide +kernel) (by decide +kernel)
set_option maxRecDepth 20000 in
theorem gX6_part_X6_suited : GoodIn wsX6_part (wsV RX6 134 RX6 yX6_suited wsX6_suited) := goodIn_app (goodIn_of _ (by decide +kernel)) ggX6_part_X6_suited
theorem dX6_part_0 : decode cX6_part 0 = .ok (.aload_n 0, 1) := by decide +kernel
theorem dX6_part_1 : decode cX6_part 1 = .ok (.bipush 15, 2) := by decide +kernel
theorem dX6_part_3 : decode cX6_part 3 = .ok (.invokevirtual 137, 3) := by decide +kernel
theorem dX6_part_6 : decode cX6_part 6 = .ok (.ifCond .eq 41, 3) := by decide +kernel
theorem dX6_part_9 : decode cX6_part 9 = .ok (.aload_n 0, 1) := by decide +kernel
theorem dX6_part_10 : decode cX6_part 10 = .ok (.dup, 1) := by decide +kernel
theorem dX6_part_11 : decode cX6_part 11 = .ok (.getfield 102, 3) := by decide +kernel
theorem dX6_part_14 : decode cX6_part 14 = .ok (.iconst 1, 1) := by decide +kernel
theorem dX6_part_15 : decode cX6_part 15 = .ok (.iadd, 1) := by decide +kernel
theorem dX6_part_16 : decode cX6_part 16 = .ok (.putfield 102, 3) := by decide +kernel
theorem dX6_part_19 : decode cX6_part 19 = .ok (.aload_n 0, 1) := by decide +kernel
theorem dX6_part_20 : decode cX6_part 20 = .ok (.getfield 140, 3) := by decide +kernel
theorem dX6_part_23 : decode cX6_part 23 = .ok (.aload_n 0, 1) := by decide +kernel
theorem dX6_part_24 : decode cX6_part 24 = .ok (.invokevirtual 75, 3) := by decide +kernel
theorem dX6_part_27 : decode cX6_part 27 = .ok (.iand, 1) := by decide +kernel
theorem dX6_part_28 : decode cX6_part 28 = .ok (.istore_n 1, 1) := by decide +kernel
theorem dX6_part_29 : decode cX6_part 29 = .ok (.iload_n 1, 1) := by decide +kernel
theorem dX6_part_30 : decode cX6_part 30 = .ok (.ifCond .ne 15, 3) := by decide +kernel
theorem dX6_part_33 : decode cX6_part 33 = .ok (.aload_n 0, 1) := by decide +kernel
theorem dX6_part_34 : decode cX6_part 34 = .ok (.aload_n 0, 1) := by decide +kernel
theorem dX6_part_35 : decode cX6_part 35 = .ok (.getfield 102, 3) := by decide +kernel
theorem dX6_part_38 : decode cX6_part 38 = .ok (.iconst 1, 1) := by decide +kernel
theorem dX6_part_39 : decode cX6_part 39 = .ok (.isub, 1) := by decide +kernel
theorem dX6_part_40 : decode cX6_part 40 = .ok (.iconst 0, 1) := by decide +kernel
theorem dX6_part_41 : decode cX6_part 41 = .ok (.invokevirtual 118, 3) := by decide +kernel
theorem dX6_part_44 : decode cX6_part 44 = .ok (.pop, 1) := by decide +kernel
theorem dX6_part_45 : decode cX6_part 45 = .ok (.iload_n 1, 1) := by decide +kernel
theorem dX6_part_46 : decode cX6_part 46 = .ok (.ireturn, 1) := by decide +kernel
theorem dX6_part_47 : decode cX6_part 47 = .ok (.aload_n 0, 1) := by decide +kernel
theorem dX6_part_48 : decode cX6_part 48 = .ok (.getfield 102, 3) := by decide +kernel
theorem dX6_part_51 : decode cX6_part 51 = .ok (.istore_n 1, 1) := by decide +kernel
theorem dX6_part_52 : decode cX6_part 52 = .ok (.aload_n 0, 1) := by decide +kernel
theorem dX6_part_53 : decode cX6_part 53 = .ok (.bipush 11, 2) := by decide +kernel
theorem dX6_part_55 : decode cX6_part 55 = .ok (.invokevirtual 137, 3) := by decide +kernel
theorem dX6_part_58 : decode cX6_part 58 = .ok (.ifCond .eq 7, 3) := by decide +kernel
theorem dX6_part_61 : decode cX6_part 61 = .ok (.iload_n 1, 1) := by decide +kernel
theorem dX6_part_62 : decode cX6_part 62 = .ok (.goto 8, 3) := by decide +kernel
theorem dX6_part_65 : decode cX6_part 65 = .ok (.aload_n 0, 1) := by decide +kernel
theorem dX6_part_66 : decode cX6_part 66 = .ok (.iload_n 1, 1) := by decide +kernel
theorem dX6_part_67 : decode cX6_part 67 = .ok (.invokevirtual 114, 3) := by decide +kernel
theorem dX6_part_70 : decode cX6_part 70 = .ok (.istore_n 2, 1) := by decide +kernel
theorem dX6_part_71 : decode cX6_part 71 = .ok (.aload_n 0, 1) := by decide +kernel
theorem dX6_part_72 : decode cX6_part 72 = .ok (.bipush 11, 2) := by decide +kernel
theorem dX6_part_74 : decode cX6_part 74 = .ok (.invokevirtual 137, 3) := by decide +kernel
theorem dX6_part_77 : decode cX6_part 77 = .ok (.ifCond .eq 59, 3) := by decide +kernel
theorem dX6_part_80 : decode cX6_part 80 = .ok (.iload_n 1, 1) := by decide +kernel
theorem dX6_part_81 : decode cX6_part 81 = .ok (.iconst 1, 1) := by decide +kernel
theorem dX6_part_82 : decode cX6_part 82 = .ok (.iadd, 1) := by decide +kernel
theorem dX6_part_83 : decode cX6_part 83 = .ok (.istore_n 3, 1) := by decide +kernel
theorem dX6_part_84 : decode cX6_part 84 = .ok (.iload_n 3, 1) := by decide +kernel
theorem dX6_part_85 : decode cX6_part 85 = .ok (.aload_n 0, 1) := by decide +kernel
end
section
theorem dX6_part_86 : decode cX6_part 86 = .ok (.getfield 105, 3) := by decide +kernel
theorem dX6_part_89 : decode cX6_part 89 = .ok (.if_icmp .ge 21, 3) := by decide +kernel
theorem dX6_part_92 : decode cX6_part 92 = .ok (.aload_n 0, 1) := by decide +kernel
theorem dX6_part_93 : decode cX6_part 93 = .ok (.getfield 45, 3) := by decide +kernel
theorem dX6_part_96 : decode cX6_part 96 = .ok (.iload_n 3, 1) := by decide +kernel
theorem dX6_part_97 : decode cX6_part 97 = .ok (.iaload, 1) := by decide +kernel
theorem dX6_part_98 : decode cX6_part 98 = .ok (.invokestatic 86, 3) := by decide +kernel
theorem dX6_part_101 : decode cX6_part 101 = .ok (.ifCond .eq 9, 3) := by decide +kernel
theorem dX6_part_104 : decode cX6_part 104 = .ok (.iinc 3 1, 3) := by decide +kernel
theorem dX6_part_107 : decode cX6_part 107 = .ok (.goto (-23), 3) := by decide +kernel
theorem dX6_part_110 : decode cX6_part 110 = .ok (.iload_n 3, 1) := by decide +kernel
theorem dX6_part_111 : decode cX6_part 111 = .ok (.aload_n 0, 1) := by decide +kernel
theorem dX6_part_112 : decode cX6_part 112 = .ok (.getfield 105, 3) := by decide +kernel
theorem dX6_part_115 : decode cX6_part 115 = .ok (.if_icmp .ge 19, 3) := by decide +kernel
theorem dX6_part_118 : decode cX6_part 118 = .ok (.aload_n 0, 1) := by decide +kernel
theorem dX6_part_119 : decode cX6_part 119 = .ok (.getfield 45, 3) := by decide +kernel
theorem dX6_part_122 : decode cX6_part 122 = .ok (.iload_n 3, 1) := by decide +kernel
theorem dX6_part_123 : decode cX6_part 123 = .ok (.iaload, 1) := by decide +kernel
theorem dX6_part_124 : decode cX6_part 124 = .ok (.invokestatic 92, 3) := by decide +kernel
theorem dX6_part_127 : decode cX6_part 127 = .ok (.ifCond .eq 7, 3) := by decide +kernel
theorem dX6_part_130 : decode cX6_part 130 = .ok (.iload_n 3, 1) := by decide +kernel
theorem dX6_part_131 : decode cX6_part 131 = .ok (.goto 4, 3) := by decide +kernel
theorem dX6_part_134 : decode cX6_part 134 = .ok (.iload_n 1, 1) := by decide +kernel
theorem dX6_part_135 : decode cX6_part 135 = .ok (.istore_n 2, 1) := by decide +kernel
theorem dX6_part_136 : decode cX6_part 136 = .ok (.aload_n 0, 1) := by decide +kernel
theorem dX6_part_137 : decode cX6_part 137 = .ok (.getfield 45, 3) := by decide +kernel
theorem dX6_part_140 : decode cX6_part 140 = .ok (.iload_n 2, 1) := by decide +kernel
theorem dX6_part_141 : decode cX6_part 141 = .ok (.iaload, 1) := by decide +kernel
theorem dX6_part_142 : decode cX6_part 142 = .ok (.bipush 11, 2) := by decide +kernel
theorem dX6_part_144 : decode cX6_part 144 = .ok (.if_icmp .eq 39, 3) := by decide +kernel
theorem dX6_part_147 : decode cX6_part 147 = .ok (.aload_n 0, 1) := by decide +kernel
theorem dX6_part_148 : decode cX6_part 148 = .ok (.getfield 45, 3) := by decide +kernel
theorem dX6_part_151 : decode cX6_part 151 = .ok (.iload_n 2, 1) := by decide +kernel
theorem dX6_part_152 : decode cX6_part 152 = .ok (.iaload, 1) := by decide +kernel
theorem dX6_part_153 : decode cX6_part 153 = .ok (.invokestatic 92, 3) := by decide +kernel
theorem dX6_part_156 : decode cX6_part 156 = .ok (.ifCond .ne 27, 3) := by decide +kernel
theorem dX6_part_159 : decode cX6_part 159 = .ok (.aload_n 0, 1) := by decide +kernel
theorem dX6_part_160 : decode cX6_part 160 = .ok (.aload_n 0, 1) := by decide +kernel
theorem dX6_part_161 : decode cX6_part 161 = .ok (.getfield 45, 3) := by decide +kernel
theorem dX6_part_164 : decode cX6_part 164 = .ok (.iconst 0, 1) := by decide +kernel
theorem dX6_part_165 : decode cX6_part 165 = .ok (.iaload, 1) := by decide +kernel
theorem dX6_part_166 : decode cX6_part 166 = .ok (.invokevirtual 143, 3) := by decide +kernel
theorem dX6_part_169 : decode cX6_part 169 = .ok (.istore_n 3, 1) := by decide +kernel
theorem dX6_part_170 : decode cX6_part 170 = .ok (.iload_n 3, 1) := by decide +kernel
theorem dX6_part_171 : decode cX6_part 171 = .ok (.iconst (-1), 1) := by decide +kernel
theorem dX6_part_172 : decode cX6_part 172 = .ok (.if_icmp .ne 7, 3) := by decide +kernel
theorem dX6_part_175 : decode cX6_part 175 = .ok (.iconst 0, 1) := by decide +kernel
theorem dX6_part_176 : decode cX6_part 176 = .ok (.goto 6, 3) := by decide +kernel
theorem dX6_part_179 : decode cX6_part 179 = .ok (.iconst 1, 1) := by decide +kernel
theorem dX6_part_180 : decode cX6_part 180 = .ok (.iload_n 3, 1) := by decide +kernel
theorem dX6_part_181 : decode cX6_part 181 = .ok (.ishl, 1) := by decide +kernel
theorem dX6_part_182 : decode cX6_part 182 = .ok (.ireturn, 1) := by decide +kernel
theorem dX6_part_183 : decode cX6_part 183 = .ok (.aload_n 0, 1) := by decide +kernel
theorem dX6_part_184 : decode cX6_part 184 = .ok (.iload_n 2, 1) := by decide +kernel
theorem dX6_part_185 : decode cX6_part 185 = .ok (.iconst 1, 1) := by decide +kernel
theorem dX6_part_186 : decode cX6_part 186 = .ok (.iadd, 1) := by decide +kernel
theorem dX6_part_187 : decode cX6_part 187 = .ok (.putfield 102, 3) := by decide +kernel
theorem dX6_part_190 : decode cX6_part 190 = .ok (.iconst 0, 1) := by decide +kernel
theorem dX6_part_191 : decode cX6_part 191 = .ok (.istore_n 3, 1) := by decide +kernel
theorem dX6_part_192 : decode cX6_part 192 = .ok (.aload_n 0, 1) := by decide +kernel
theorem dX6_part_193 : decode cX6_part 193 = .ok (.bipush 12, 2) := by decide +kernel
theorem dX6_part_195 : decode cX6_part 195 = .ok (.invokevirtual 137, 3) := by decide +kernel
theorem dX6_part_198 : decode cX6_part 198 = .ok (.istore 4, 2) := by decide +kernel
theorem dX6_part_200 : decode cX6_part 200 = .ok (.iload 4, 2) := by decide +kernel
theorem dX6_part_202 : decode cX6_part 202 = .ok (.ifCond .eq 72, 3) := by decide +kernel
theorem dX6_part_205 : decode cX6_part 205 = .ok (.aload_n 0, 1) := by decide +kernel
theorem dX6_part_206 : decode cX6_part 206 = .ok (.dup, 1) := by decide +kernel
theorem dX6_part_207 : decode cX6_part 207 = .ok (.getfield 102, 3) := by decide +kernel
theorem dX6_part_210 : decode cX6_part 210 = .ok (.iconst 1, 1) := by decide +kernel
theorem dX6_part_211 : decode cX6_part 211 = .ok (.iadd, 1) := by decide +kernel
theorem dX6_part_212 : decode cX6_part 212 = .ok (.putfield 102, 3) := by decide +kernel
theorem dX6_part_215 : decode cX6_part 215 = .ok (.aload_n 0, 1) := by decide +kernel
theorem dX6_part_216 : decode cX6_part 216 = .ok (.aload_n 0, 1) := by decide +kernel
theorem dX6_part_217 : decode cX6_part 217 = .ok (.getfield 45, 3) := by decide +kernel
theorem dX6_part_220 : decode cX6_part 220 = .ok (.iconst 0, 1) := by decide +kernel
theorem dX6_part_221 : decode cX6_part 221 = .ok (.iaload, 1) := by decide +kernel
theorem dX6_part_222 : decode cX6_part 222 = .ok (.invokevirtual 143, 3) := by decide +kernel
theorem dX6_part_225 : decode cX6_part 225 = .ok (.istore 5, 2) := by decide +kernel
theorem dX6_part_227 : decode cX6_part 227 = .ok (.iload 5, 2) := by decide +kernel
theorem dX6_part_229 : decode cX6_part 229 = .ok (.iconst (-1), 1) := by decide +kernel
theorem dX6_part_230 : decode cX6_part 230 = .ok (.if_icmp .ne 5, 3) := by decide +kernel
theorem dX6_part_233 : decode cX6_part 233 = .ok (.iconst 0, 1) := by decide +kernel
theorem dX6_part_234 : decode cX6_part 234 = .ok (.ireturn, 1) := by decide +kernel
theorem dX6_part_235 : decode cX6_part 235 = .ok (.iload_n 3, 1) := by decide +kernel
theorem dX6_part_236 : decode cX6_part 236 = .ok (.iconst 1, 1) := by decide +kernel
theorem dX6_part_237 : decode cX6_part 237 = .ok (.iload 5, 2) := by decide +kernel
theorem dX6_part_239 : decode cX6_part 239 = .ok (.ishl, 1) := by decide +kernel
theorem dX6_part_240 : decode cX6_part 240 = .ok (.ior, 1) := by decide +kernel
theorem dX6_part_241 : decode cX6_part 241 = .ok (.istore_n 3, 1) := by decide +kernel
theorem dX6_part_242 : decode cX6_part 242 = .ok (.aload_n 0, 1) := by decide +kernel
theorem dX6_part_243 : decode cX6_part 243 = .ok (.bipush 13, 2) := by decide +kernel
theorem dX6_part_245 : decode cX6_part 245 = .ok (.invokevirtual 137, 3) := by decide +kernel
theorem dX6_part_248 : decode cX6_part 248 = .ok (.ifCond .eq 20, 3) := by decide +kernel
theorem dX6_part_251 : decode cX6_part 251 = .ok (.aload_n 0, 1) := by decide +kernel
theorem dX6_part_252 : decode cX6_part 252 = .ok (.aload_n 0, 1) := by decide +kernel
theorem dX6_part_253 : decode cX6_part 253 = .ok (.getfield 102, 3) := by decide +kernel
theorem dX6_part_256 : decode cX6_part 256 = .ok (.iconst 1, 1) := by decide +kernel
theorem dX6_part_257 : decode cX6_part 257 = .ok (.iadd, 1) := by decide +kernel
theorem dX6_part_258 : decode cX6_part 258 = .ok (.invokevirtual 146, 3) := by decide +kernel
theorem dX6_part_261 : decode cX6_part 261 = .ok (.ifCond .eq 7, 3) := by decide +kernel
theorem dX6_part_264 : decode cX6_part 264 = .ok (.iconst 1, 1) := by decide +kernel
theorem dX6_part_265 : decode cX6_part 265 = .ok (.goto 4, 3) := by decide +kernel
theorem dX6_part_268 : decode cX6_part 268 = .ok (.iconst 0, 1) := by decide +kernel
theorem dX6_part_269 : decode cX6_part 269 = .ok (.istore 4, 2) := by decide +kernel
theorem dX6_part_271 : decode cX6_part 271 = .ok (.goto (-71), 3) := by decide +kernel
theorem dX6_part_274 : decode cX6_part 274 = .ok (.aload_n 0, 1) := by decide +kernel
theorem dX6_part_275 : decode cX6_part 275 = .ok (.getfield 45, 3) := by decide +kernel
theorem dX6_part_278 : decode cX6_part 278 = .ok (.iload_n 2, 1) := by decide +kernel
theorem dX6_part_279 : decode cX6_part 279 = .ok (.iaload, 1) := by decide +kernel
theorem dX6_part_280 : decode cX6_part 280 = .ok (.invokestatic 92, 3) := by decide +kernel
theorem dX6_part_283 : decode cX6_part 283 = .ok (.ifCond .eq 15, 3) := by decide +kernel
theorem dX6_part_286 : decode cX6_part 286 = .ok (.aload_n 0, 1) := by decide +kernel
theorem dX6_part_287 : decode cX6_part 287 = .ok (.getfield 45, 3) := by decide +kernel
theorem dX6_part_290 : decode cX6_part 290 = .ok (.iload_n 2, 1) := by decide +kernel
theorem dX6_part_291 : decode cX6_part 291 = .ok (.iaload, 1) := by decide +kernel
theorem dX6_part_292 : decode cX6_part 292 = .ok (.bipush 40, 2) := by decide +kernel
theorem dX6_part_294 : decode cX6_part 294 = .ok (.isub, 1) := by decide +kernel
theorem dX6_part_295 : decode cX6_part 295 = .ok (.goto 4, 3) := by decide +kernel
theorem dX6_part_298 : decode cX6_part 298 = .ok (.iconst (-1), 1) := by decide +kernel
theorem dX6_part_299 : decode cX6_part 299 = .ok (.istore 5, 2) := by decide +kernel
theorem dX6_part_301 : decode cX6_part 301 = .ok (.aload_n 0, 1) := by decide +kernel
theorem dX6_part_302 : decode cX6_part 302 = .ok (.aload_n 0, 1) := by decide +kernel
theorem dX6_part_303 : decode cX6_part 303 = .ok (.getfield 45, 3) := by decide +kernel
theorem dX6_part_306 : decode cX6_part 306 = .ok (.iconst 0, 1) := by decide +kernel
theorem dX6_part_307 : decode cX6_part 307 = .ok (.iaload, 1) := by decide +kernel
theorem dX6_part_308 : decode cX6_part 308 = .ok (.aload_n 0, 1) := by decide +kernel
theorem dX6_part_309 : decode cX6_part 309 = .ok (.aload_n 0, 1) := by decide +kernel
theorem dX6_part_310 : decode cX6_part 310 = .ok (.invokevirtual 75, 3) := by decide +kernel
theorem dX6_part_313 : decode cX6_part 313 = .ok (.aload_n 0, 1) := by decide +kernel
theorem dX6_part_314 : decode cX6_part 314 = .ok (.iload_n 1, 1) := by decide +kernel
theorem dX6_part_315 : decode cX6_part 315 = .ok (.iload_n 2, 1) := by decide +kernel
theorem dX6_part_316 : decode cX6_part 316 = .ok (.invokevirtual 122, 3) := by decide +kernel
theorem dX6_part_319 : decode cX6_part 319 = .ok (.iload 5, 2) := by decide +kernel
theorem dX6_part_321 : decode cX6_part 321 = .ok (.invokevirtual 125, 3) := by decide +kernel
theorem dX6_part_324 : decode cX6_part 324 = .ok (.invokevirtual 134, 3) := by decide +kernel
theorem dX6_part_327 : decode cX6_part 327 = .ok (.iload_n 3, 1) := by decide +kernel
theorem dX6_part_328 : decode cX6_part 328 = .ok (.iconst (-1), 1) := by decide +kernel
theorem dX6_part_329 : decode cX6_part 329 = .ok (.ixor, 1) := by decide +kernel
theorem dX6_part_330 : decode cX6_part 330 = .ok (.iand, 1) := by decide +kernel
theorem dX6_part_331 : decode cX6_part 331 = .ok (.istore 6, 2) := by decide +kernel
theorem dX6_part_333 : decode cX6_part 333 = .ok (.iload 6, 2) := by decide +kernel
theorem dX6_part_335 : decode cX6_part 335 = .ok (.ifCond .ne 10, 3) := by decide +kernel
theorem dX6_part_338 : decode cX6_part 338 = .ok (.aload_n 0, 1) := by decide +kernel
theorem dX6_part_339 : decode cX6_part 339 = .ok (.iload_n 2, 1) := by decide +kernel
theorem dX6_part_340 : decode cX6_part 340 = .ok (.iconst 0, 1) := by decide +kernel
theorem dX6_part_341 : decode cX6_part 341 = .ok (.invokevirtual 118, 3) := by decide +kernel
theorem dX6_part_344 : decode cX6_part 344 = .ok (.pop, 1) := by decide +kernel
theorem dX6_part_345 : decode cX6_part 345 = .ok (.iload 6, 2) := by decide +kernel
theorem dX6_part_347 : decode cX6_part 347 = .ok (.ireturn, 1) := by decide +kernel
set_option maxRecDepth 20000 in
theorem ggX6_isSingleAt_X6_endOf : GoodIn wsX6_isSingleAt wsX6_endOf := goodIn_r _ [6, 1, 7, 8, 5, 9, 13, 14, 15, 16, 17, 18, 19, 20, 21, 22, 23, 24, 25, 26, 27, 28, 29, 30, 31, 32, 33, 34, 35, 36, 37] (by decide +kernel) (by decide +kernel)
set_option maxRecDepth 20000 in
theorem gX6_isSingleAt_X6_endOf : GoodIn wsX6_isSingleAt (wsV RX6 114 RX6 yX6_endOf wsX6_endOf) := goodIn_app (goodIn_of _ (by decide +kernel)) ggX6_isSingleAt_X6_endOf
set_option maxRecDepth 20000 in
theorem ggX6_isSingleAt_X6_isNoun : GoodIn wsX6_isSingleAt wsX6_isNoun := goodIn_r _ [12] (by decide +kernel) (by decide +kernel)
set_option maxRecDepth 20000 in
theorem gX6_isSingleAt_X6_isNoun : GoodIn wsX6_isSingleAt (va_wsS RX6 89 yX6_isNoun wsX6_isNoun) := goodIn_app (goodIn_of _ (by decide +kernel)) ggX6_isSingleAt_X6_isNoun
theorem dX6_isSingleAt_0 : decode cX6_isSingleAt 0 = .ok (.aload_n 0, 1) := by decide +kernel
theorem dX6_isSingleAt_1 : decode cX6_isSingleAt 1 = .ok (.getfield 45, 3) := by decide +kernel
theorem dX6_isSingleAt_4 : decode cX6_isSingleAt 4 = .ok (.aload_n 0, 1) := by decide +kernel
theorem dX6_isSingleAt_5 : decode cX6_isSingleAt 5 = .ok (.iload_n 1, 1) := by decide +kernel
theorem dX6_isSingleAt_6 : decode cX6_isSingleAt 6 = .ok (.invokevirtual 114, 3) := by decide +kernel
theorem dX6_isSingleAt_9 : decode cX6_isSingleAt 9 = .ok (.iaload, 1) := by decide +kernel
theorem dX6_isSingleAt_10 : decode cX6_isSingleAt 10 = .ok (.istore_n 2, 1) := by decide +kernel
theorem dX6_isSingleAt_11 : decode cX6_isSingleAt 11 = .ok (.iload_n 2, 1) := by decide +kernel
theorem dX6_isSingleAt_12 : decode cX6_isSingleAt 12 = .ok (.invokestatic 89, 3) := by decide +kernel
theorem dX6_isSingleAt_15 : decode cX6_isSingleAt 15 = .ok (.ifCond .ne 15, 3) := by decide +kernel
theorem dX6_isSingleAt_18 : decode cX6_isSingleAt 18 = .ok (.iload_n 2, 1) := by decide +kernel
theorem dX6_isSingleAt_19 : decode cX6_isSingleAt 19 = .ok (.bipush 17, 2) := by decide +kernel
theorem dX6_isSingleAt_21 : decode cX6_isSingleAt 21 = .ok (.if_icmp .eq 9, 3) := by decide +kernel
theorem dX6_isSingleAt_24 : decode cX6_isSingleAt 24 = .ok (.iload_n 2, 1) := by decide +kernel
theorem dX6_isSingleAt_25 : decode cX6_isSingleAt 25 = .ok (.bipush 14, 2) := by decide +kernel
theorem dX6_isSingleAt_27 : decode cX6_isSingleAt 27 = .ok (.if_icmp .ne 7, 3) := by decide +kernel
theorem dX6_isSingleAt_30 : decode cX6_isSingleAt 30 = .ok (.iconst 1, 1) := by decide +kernel
theorem dX6_isSingleAt_31 : decode cX6_isSingleAt 31 = .ok (.goto 4, 3) := by decide +kernel
theorem dX6_isSingleAt_34 : decode cX6_isSingleAt 34 = .ok (.iconst 0, 1) := by decide +kernel
theorem dX6_isSingleAt_35 : decode cX6_isSingleAt 35 = .ok (.ireturn, 1) := by decide +kernel
set_option maxRecDepth 20000 in
theorem ggX6_perform_X6_part : GoodIn wsX6_perform wsX6_part := goodIn_r _ [15, 3, 6, 16, 4, 17, 18, 19, 14, 20, 21, 22, 23, 24, 10, 25, 26, 27, 28, 29, 30, 31, 32, 33, 34, 35, 36, 37, 38, 39, 40, 41, 42, 43, 44, 45, 46, 47, 48, 49, 50, 51, 8, 52, 53, 54, 55, 56, 57, 58, 59, 60, 61, 62, 63, 64, 65, 66, 67, 68, 69, 70, 71, 72, 73, 74, 75, 76, 77, 78, 79, 80, 81, 82, 83, 97, 98, 99, 100, 101, 102, 103, 104, 105, 106, 107, 108, 109, 110, 111, 112, 113, 114, 115, 116, 117, 118, 119, 120, 121] (by decide +kernel) (by decide +kernel)
set_option maxRecDepth 20000 in
theorem gX6_perform_X6_part : GoodIn wsX6_perform (wsV RX6 152 RX6 yX6_part wsX6_part) := goodIn_app (goodIn_of _ (by decide +kernel)) ggX6_perform_X6_part
set_option maxRecDepth 20000 in
theorem ggX6_perform_X6_failed : GoodIn wsX6_perform wsX6_failed := goodIn_r _ [87, 36, 35, 88, 1, 2, 97, 98, 99, 100, 101, 102, 103, 104, 105, 106, 107, 108, 109, 110, 111, 112, 113, 114, 115, 116, 117, 118, 119, 120, 121] (by decide +kernel) (by decide +kernel)
set_option maxRecDepth 20000 in
theorem gX6_perform_X6_failed : GoodIn wsX6_perform (wsV RX6 155 RX6 yX6_failed wsX6_failed) := goodIn_app (goodIn_of _ (by decide +kernel)) ggX6_perform_X6_failed
set_option maxRecDepth 20000 in
theorem ggX6_perform_X6_is : GoodIn wsX6_perform wsX6_is := goodIn_r _ [20, 3, 16, 4, 97, 98, 99, 100, 101, 102, 103, 104, 105, 106, 107, 108, 109, 110, 111, 112, 113, 114, 115, 116, 117, 118, 119, 120, 121] (by decide +kernel) (by decide +kernel)
set_option maxRecDepth 20000 in
theorem gX6_perform_X6_is : GoodIn wsX6_perform (wsV RX6 137 RX6 yX6_is wsX6_is) := goodIn_app (goodIn_of _ (by decide +kernel)) ggX6_perform_X6_is
set_option maxRecDepth 20000 in
theorem ggX6_perform_X6_single : GoodIn wsX6_perform wsX6_single := goodIn_r _ [50, 3, 51, 4, 8, 37, 38, 39, 14, 40, 41, 42, 43, 25, 26, 27, 28, 29, 30, 31, 32, 33, 34, 35, 36, 21, 22, 23, 24, 10, 52, 53, 54, 55, 56, 57, 58, 59, 60, 61, 62, 63, 64, 65, 66, 67, 68, 69, 70, 71, 72, 73, 74, 75, 76, 97, 98, 99, 100, 101, 102, 103, 104, 105, 106, 107, 108, 109, 110, 111, 112, 113, 114, 115, 116, 117, 118, 119, 120, 121] (by decide +kernel) (by decide +kernel)
set_option maxRecDepth 20000 in
theorem gX6_perform_X6_single : GoodIn wsX6_perform (wsV RX6 143 RX6 yX6_single wsX6_single) := goodIn_app (goodIn_of _ (by decide +kernel)) ggX6_perform_X6_single
set_option maxRecDepth 20000 in
theorem ggX6_perform_X6_bits : GoodIn wsX6_perform wsX6_bits := goodIn_r _ [64] (by decide +kernel) (by decide +kernel)
set_option maxRecDepth 20000 in
theorem gX6_perform_X6_bits : GoodIn wsX6_perform (va_wsS RX6 128 yX6_bits wsX6_bits) := goodIn_app (goodIn_of _ (by decide +kernel)) ggX6_perform_X6_bits
set_option maxRecDepth 20000 in
theorem ggX6_perform_X6_lowest : GoodIn wsX6_perform wsX6_lowest := goodIn_r _ [67] (by decide +kernel) (by decide +kernel)
set_option maxRecDepth 20000 in
theorem gX6_perform_X6_lowest : GoodIn wsX6_perform (va_wsS RX6 131 yX6_lowest wsX6_lowest) := goodIn_app (goodIn_of _ (by decide +kernel)) ggX6_perform_X6_lowest
set_option maxRecDepth 20000 in
theorem ggX6_perform_X6_suits : GoodIn wsX6_perform wsX6_suits := goodIn_r _ [75, 29, 76, 30, 25, 26, 27, 14, 28, 97, 98, 99, 100, 101, 102, 103, 104, 105, 106, 107, 108, 109, 110, 111, 112, 113, 114, 115, 116, 117, 118, 119, 120, 121] (by decide +kernel) (by decide +kernel)
set_option maxRecDepth 20000 in
theorem gX6_perform_X6_suits : GoodIn wsX6_perform (wsV RX6 79 RX6 yX6_suits wsX6_suits) := goodIn_app (goodIn_of _ (by decide +kernel)) ggX6_perform_X6_suits
set_option maxRecDepth 20000 in
theorem ggX6_perform_X6_acts : GoodIn wsX6_perform wsX6_acts := goodIn_r _ [92, 5, 7, 29, 30, 72, 73, 74, 14, 75, 76, 25, 26, 27, 28, 93, 94, 95, 96, 97, 98, 99, 100, 101, 102, 103, 104, 105, 106, 107, 108, 109, 110, 111, 112, 113, 114, 115, 116, 117, 118, 119, 120, 121] (by decide +kernel) (by decide +kernel)
set_option maxRecDepth 20000 in
theorem gX6_perform_X6_acts : GoodIn wsX6_perform (wsV RX6 161 RX6 yX6_acts wsX6_acts) := goodIn_app (goodIn_of _ (by decide +kernel)) ggX6_perform_X6_acts
theorem dX6_perform_0 : decode cX6_perform 0 = .ok (.aload_n 0, 1) := by decide +kernel
theorem dX6_perform_1 : decode cX6_perform 1 = .ok (.iconst 0, 1) := by decide +kernel
theorem dX6_perform_2 : decode cX6_perform 2 = .ok (.putfield 149, 3) := by decide +kernel
theorem dX6_perform_5 : decode cX6_perform 5 = .ok (.aload_n 0, 1) := by decide +kernel
theorem dX6_perform_6 : decode cX6_perform 6 = .ok (.iconst (-1), 1) := by decide +kernel
theorem dX6_perform_7 : decode cX6_perform 7 = .ok (.putfield 51, 3) := by decide +kernel
theorem dX6_perform_10 : decode cX6_perform 10 = .ok (.iconst 0, 1) := by decide +kernel
theorem dX6_perform_11 : decode cX6_perform 11 = .ok (.istore_n 1, 1) := by decide +kernel
theorem dX6_perform_12 : decode cX6_perform 12 = .ok (.iconst (-1), 1) := by decide +kernel
theorem dX6_perform_13 : decode cX6_perform 13 = .ok (.istore_n 2, 1) := by decide +kernel
theorem dX6_perform_14 : decode cX6_perform 14 = .ok (.aload_n 0, 1) := by decide +kernel
theorem dX6_perform_15 : decode cX6_perform 15 = .ok (.iconst 0, 1) := by decide +kernel
theorem dX6_perform_16 : decode cX6_perform 16 = .ok (.putfield 102, 3) := by decide +kernel
theorem dX6_perform_19 : decode cX6_perform 19 = .ok (.aload_n 0, 1) := by decide +kernel
theorem dX6_perform_20 : decode cX6_perform 20 = .ok (.dup, 1) := by decide +kernel
theorem dX6_perform_21 : decode cX6_perform 21 = .ok (.getfield 102, 3) := by decide +kernel
theorem dX6_perform_24 : decode cX6_perform 24 = .ok (.iconst 1, 1) := by decide +kernel
theorem dX6_perform_25 : decode cX6_perform 25 = .ok (.iadd, 1) := by decide +kernel
theorem dX6_perform_26 : decode cX6_perform 26 = .ok (.putfield 102, 3) := by decide +kernel
theorem dX6_perform_29 : decode cX6_perform 29 = .ok (.aload_n 0, 1) := by decide +kernel
theorem dX6_perform_30 : decode cX6_perform 30 = .ok (.invokevirtual 152, 3) := by decide +kernel
theorem dX6_perform_33 : decode cX6_perform 33 = .ok (.istore_n 3, 1) := by decide +kernel
theorem dX6_perform_34 : decode cX6_perform 34 = .ok (.iload_n 3, 1) := by decide +kernel
theorem dX6_perform_35 : decode cX6_perform 35 = .ok (.ifCond .ne 8, 3) := by decide +kernel
theorem dX6_perform_38 : decode cX6_perform 38 = .ok (.aload_n 0, 1) := by decide +kernel
theorem dX6_perform_39 : decode cX6_perform 39 = .ok (.invokevirtual 155, 3) := by decide +kernel
theorem dX6_perform_42 : decode cX6_perform 42 = .ok (.ireturn, 1) := by decide +kernel
theorem dX6_perform_43 : decode cX6_perform 43 = .ok (.iload_n 1, 1) := by decide +kernel
theorem dX6_perform_44 : decode cX6_perform 44 = .ok (.iload_n 3, 1) := by decide +kernel
theorem dX6_perform_45 : decode cX6_perform 45 = .ok (.ior, 1) := by decide +kernel
theorem dX6_perform_46 : decode cX6_perform 46 = .ok (.istore_n 1, 1) := by decide +kernel
theorem dX6_perform_47 : decode cX6_perform 47 = .ok (.aload_n 0, 1) := by decide +kernel
theorem dX6_perform_48 : decode cX6_perform 48 = .ok (.bipush 13, 2) := by decide +kernel
theorem dX6_perform_50 : decode cX6_perform 50 = .ok (.invokevirtual 137, 3) := by decide +kernel
theorem dX6_perform_53 : decode cX6_perform 53 = .ok (.ifCond .ne (-34), 3) := by decide +kernel
theorem dX6_perform_56 : decode cX6_perform 56 = .ok (.aload_n 0, 1) := by decide +kernel
theorem dX6_perform_57 : decode cX6_perform 57 = .ok (.bipush 16, 2) := by decide +kernel
theorem dX6_perform_59 : decode cX6_perform 59 = .ok (.invokevirtual 137, 3) := by decide +kernel
theorem dX6_perform_62 : decode cX6_perform 62 = .ok (.ifCond .eq 30, 3) := by decide +kernel
theorem dX6_perform_65 : decode cX6_perform 65 = .ok (.aload_n 0, 1) := by decide +kernel
theorem dX6_perform_66 : decode cX6_perform 66 = .ok (.dup, 1) := by decide +kernel
theorem dX6_perform_67 : decode cX6_perform 67 = .ok (.getfield 102, 3) := by decide +kernel
theorem dX6_perform_70 : decode cX6_perform 70 = .ok (.iconst 1, 1) := by decide +kernel
theorem dX6_perform_71 : decode cX6_perform 71 = .ok (.iadd, 1) := by decide +kernel
theorem dX6_perform_72 : decode cX6_perform 72 = .ok (.putfield 102, 3) := by decide +kernel
theorem dX6_perform_75 : decode cX6_perform 75 = .ok (.aload_n 0, 1) := by decide +kernel
theorem dX6_perform_76 : decode cX6_perform 76 = .ok (.bipush 16, 2) := by decide +kernel
theorem dX6_perform_78 : decode cX6_perform 78 = .ok (.invokevirtual 143, 3) := by decide +kernel
theorem dX6_perform_81 : decode cX6_perform 81 = .ok (.istore_n 2, 1) := by decide +kernel
theorem dX6_perform_82 : decode cX6_perform 82 = .ok (.iload_n 2, 1) := by decide +kernel
theorem dX6_perform_83 : decode cX6_perform 83 = .ok (.iconst (-1), 1) := by decide +kernel
theorem dX6_perform_84 : decode cX6_perform 84 = .ok (.if_icmp .ne 8, 3) := by decide +kernel
theorem dX6_perform_87 : decode cX6_perform 87 = .ok (.aload_n 0, 1) := by decide +kernel
theorem dX6_perform_88 : decode cX6_perform 88 = .ok (.invokevirtual 155, 3) := by decide +kernel
theorem dX6_perform_91 : decode cX6_perform 91 = .ok (.ireturn, 1) := by decide +kernel
theorem dX6_perform_92 : decode cX6_perform 92 = .ok (.aload_n 0, 1) := by decide +kernel
theorem dX6_perform_93 : decode cX6_perform 93 = .ok (.aload_n 0, 1) := by decide +kernel
theorem dX6_perform_94 : decode cX6_perform 94 = .ok (.getfield 45, 3) := by decide +kernel
theorem dX6_perform_97 : decode cX6_perform 97 = .ok (.iconst 0, 1) := by decide +kernel
theorem dX6_perform_98 : decode cX6_perform 98 = .ok (.iaload, 1) := by decide +kernel
theorem dX6_perform_99 : decode cX6_perform 99 = .ok (.putfield 36, 3) := by decide +kernel
theorem dX6_perform_102 : decode cX6_perform 102 = .ok (.aload_n 0, 1) := by decide +kernel
theorem dX6_perform_103 : decode cX6_perform 103 = .ok (.iload_n 1, 1) := by decide +kernel
theorem dX6_perform_104 : decode cX6_perform 104 = .ok (.putfield 140, 3) := by decide +kernel
theorem dX6_perform_107 : decode cX6_perform 107 = .ok (.aload_n 0, 1) := by decide +kernel
theorem dX6_perform_108 : decode cX6_perform 108 = .ok (.iload_n 2, 1) := by decide +kernel
theorem dX6_perform_109 : decode cX6_perform 109 = .ok (.putfield 39, 3) := by decide +kernel
theorem dX6_perform_112 : decode cX6_perform 112 = .ok (.aload_n 0, 1) := by decide +kernel
theorem dX6_perform_113 : decode cX6_perform 113 = .ok (.iload_n 1, 1) := by decide +kernel
theorem dX6_perform_114 : decode cX6_perform 114 = .ok (.invokestatic 128, 3) := by decide +kernel
theorem dX6_perform_117 : decode cX6_perform 117 = .ok (.iconst 1, 1) := by decide +kernel
theorem dX6_perform_118 : decode cX6_perform 118 = .ok (.if_icmp .ne 10, 3) := by decide +kernel
theorem dX6_perform_121 : decode cX6_perform 121 = .ok (.iload_n 1, 1) := by decide +kernel
theorem dX6_perform_122 : decode cX6_perform 122 = .ok (.invokestatic 131, 3) := by decide +kernel
theorem dX6_perform_125 : decode cX6_perform 125 = .ok (.goto 7, 3) := by decide +kernel
theorem dX6_perform_128 : decode cX6_perform 128 = .ok (.aload_n 0, 1) := by decide +kernel
theorem dX6_perform_129 : decode cX6_perform 129 = .ok (.getfield 42, 3) := by decide +kernel
theorem dX6_perform_132 : decode cX6_perform 132 = .ok (.putfield 42, 3) := by decide +kernel
theorem dX6_perform_135 : decode cX6_perform 135 = .ok (.aload_n 0, 1) := by decide +kernel
theorem dX6_perform_136 : decode cX6_perform 136 = .ok (.iconst 0, 1) := by decide +kernel
theorem dX6_perform_137 : decode cX6_perform 137 = .ok (.putfield 158, 3) := by decide +kernel
theorem dX6_perform_140 : decode cX6_perform 140 = .ok (.iconst 0, 1) := by decide +kernel
theorem dX6_perform_141 : decode cX6_perform 141 = .ok (.istore_n 3, 1) := by decide +kernel
theorem dX6_perform_142 : decode cX6_perform 142 = .ok (.iload_n 3, 1) := by decide +kernel
theorem dX6_perform_143 : decode cX6_perform 143 = .ok (.aload_n 0, 1) := by decide +kernel
theorem dX6_perform_144 : decode cX6_perform 144 = .ok (.getfield 57, 3) := by decide +kernel
theorem dX6_perform_147 : decode cX6_perform 147 = .ok (.if_icmp .ge 54, 3) := by decide +kernel
theorem dX6_perform_150 : decode cX6_perform 150 = .ok (.iload_n 1, 1) := by decide +kernel
theorem dX6_perform_151 : decode cX6_perform 151 = .ok (.iload_n 3, 1) := by decide +kernel
theorem dX6_perform_152 : decode cX6_perform 152 = .ok (.ishr, 1) := by decide +kernel
theorem dX6_perform_153 : decode cX6_perform 153 = .ok (.iconst 1, 1) := by decide +kernel
theorem dX6_perform_154 : decode cX6_perform 154 = .ok (.iand, 1) := by decide +kernel
theorem dX6_perform_155 : decode cX6_perform 155 = .ok (.iconst 1, 1) := by decide +kernel
theorem dX6_perform_156 : decode cX6_perform 156 = .ok (.if_icmp .ne 39, 3) := by decide +kernel
theorem dX6_perform_159 : decode cX6_perform 159 = .ok (.aload_n 0, 1) := by decide +kernel
theorem dX6_perform_160 : decode cX6_perform 160 = .ok (.aload_n 0, 1) := by decide +kernel
theorem dX6_perform_161 : decode cX6_perform 161 = .ok (.getfield 36, 3) := by decide +kernel
theorem dX6_perform_164 : decode cX6_perform 164 = .ok (.iload_n 3, 1) := by decide +kernel
theorem dX6_perform_165 : decode cX6_perform 165 = .ok (.invokevirtual 79, 3) := by decide +kernel
theorem dX6_perform_168 : decode cX6_perform 168 = .ok (.ifCond .eq 27, 3) := by decide +kernel
theorem dX6_perform_171 : decode cX6_perform 171 = .ok (.aload_n 0, 1) := by decide +kernel
theorem dX6_perform_172 : decode cX6_perform 172 = .ok (.dup, 1) := by decide +kernel
theorem dX6_perform_173 : decode cX6_perform 173 = .ok (.getfield 158, 3) := by decide +kernel
theorem dX6_perform_176 : decode cX6_perform 176 = .ok (.aload_n 0, 1) := by decide +kernel
theorem dX6_perform_177 : decode cX6_perform 177 = .ok (.iload_n 3, 1) := by decide +kernel
theorem dX6_perform_178 : decode cX6_perform 178 = .ok (.invokevirtual 161, 3) := by decide +kernel
theorem dX6_perform_181 : decode cX6_perform 181 = .ok (.ifCond .eq 9, 3) := by decide +kernel
theorem dX6_perform_184 : decode cX6_perform 184 = .ok (.iconst 1, 1) := by decide +kernel
theorem dX6_perform_185 : decode cX6_perform 185 = .ok (.iload_n 3, 1) := by decide +kernel
theorem dX6_perform_186 : decode cX6_perform 186 = .ok (.ishl, 1) := by decide +kernel
theorem dX6_perform_187 : decode cX6_perform 187 = .ok (.goto 4, 3) := by decide +kernel
theorem dX6_perform_190 : decode cX6_perform 190 = .ok (.iconst 0, 1) := by decide +kernel
theorem dX6_perform_191 : decode cX6_perform 191 = .ok (.ior, 1) := by decide +kernel
theorem dX6_perform_192 : decode cX6_perform 192 = .ok (.putfield 158, 3) := by decide +kernel
theorem dX6_perform_195 : decode cX6_perform 195 = .ok (.iinc 3 1, 3) := by decide +kernel
theorem dX6_perform_198 : decode cX6_perform 198 = .ok (.goto (-56), 3) := by decide +kernel
theorem dX6_perform_201 : decode cX6_perform 201 = .ok (.iconst 0, 1) := by decide +kernel
theorem dX6_perform_202 : decode cX6_perform 202 = .ok (.ireturn, 1) := by decide +kernel
theorem dX6_failed_0 : decode cX6_failed 0 = .ok (.aload_n 0, 1) := by decide +kernel
theorem dX6_failed_1 : decode cX6_failed 1 = .ok (.getfield 111, 3) := by decide +kernel
theorem dX6_failed_4 : decode cX6_failed 4 = .ok (.ifCond .ne 13, 3) := by decide +kernel
theorem dX6_failed_7 : decode cX6_failed 7 = .ok (.aload_n 0, 1) := by decide +kernel
theorem dX6_failed_8 : decode cX6_failed 8 = .ok (.aload_n 0, 1) := by decide +kernel
theorem dX6_failed_9 : decode cX6_failed 9 = .ok (.getfield 108, 3) := by decide +kernel
theorem dX6_failed_12 : decode cX6_failed 12 = .ok (.putfield 33, 3) := by decide +kernel
theorem dX6_failed_15 : decode cX6_failed 15 = .ok (.iconst 5, 1) := by decide +kernel
theorem dX6_failed_16 : decode cX6_failed 16 = .ok (.ireturn, 1) := by decide +kernel
theorem dX6_failed_17 : decode cX6_failed 17 = .ok (.aload_n 0, 1) := by decide +kernel
theorem dX6_failed_18 : decode cX6_failed 18 = .ok (.aload_n 0, 1) := by decide +kernel
theorem dX6_failed_19 : decode cX6_failed 19 = .ok (.getfield 111, 3) := by decide +kernel
theorem dX6_failed_22 : decode cX6_failed 22 = .ok (.putfield 149, 3) := by decide +kernel
theorem dX6_failed_25 : decode cX6_failed 25 = .ok (.aload_n 0, 1) := by decide +kernel
theorem dX6_failed_26 : decode cX6_failed 26 = .ok (.aload_n 0, 1) := by decide +kernel
theorem dX6_failed_27 : decode cX6_failed 27 = .ok (.getfield 108, 3) := by decide +kernel
theorem dX6_failed_30 : decode cX6_failed 30 = .ok (.putfield 51, 3) := by decide +kernel
theorem dX6_failed_33 : decode cX6_failed 33 = .ok (.iconst 1, 1) := by decide +kernel
theorem dX6_failed_34 : decode cX6_failed 34 = .ok (.ireturn, 1) := by decide +kernel
set_option maxRecDepth 20000 in
theorem ggX6_acts_X6_suits : GoodIn wsX6_acts wsX6_suits := goodIn_r _ [9, 3, 10, 4, 11, 12, 13, 8, 14, 19, 20, 21, 22, 23, 24, 25, 26, 27, 28, 29, 30, 31, 32, 33, 34, 35, 36, 37, 38, 39, 40, 41, 42, 43] (by decide +kernel) (by decide +kernel)
set_option maxRecDepth 20000 in
theorem gX6_acts_X6_suits : GoodIn wsX6_acts (wsV RX6 79 RX6 yX6_suits wsX6_suits) := goodIn_app (goodIn_of _ (by decide +kernel)) ggX6_acts_X6_suits
set_option maxRecDepth 20000 in
theorem ggX6_acts_X6_isInside : GoodIn wsX6_acts wsX6_isInside := goodIn_r _ [18, 3, 19, 20, 21, 22, 23, 24, 25, 26, 27, 28, 29, 30, 31, 32, 33, 34, 35, 36, 37, 38, 39, 40, 41, 42, 43] (by decide +kernel) (by decide +kernel)
set_option maxRecDepth 20000 in
theorem gX6_acts_X6_isInside : GoodIn wsX6_acts (wsV RX6 164 RX6 yX6_isInside wsX6_isInside) := goodIn_app (goodIn_of _ (by decide +kernel)) ggX6_acts_X6_isInside
theorem dX6_acts_0 : decode cX6_acts 0 = .ok (.aload_n 0, 1) := by decide +kernel
theorem dX6_acts_1 : decode cX6_acts 1 = .ok (.getfield 36, 3) := by decide +kernel
theorem dX6_acts_4 : decode cX6_acts 4 = .ok (.iconst 2, 1) := by decide +kernel
theorem dX6_acts_5 : decode cX6_acts 5 = .ok (.if_icmp .ne 51, 3) := by decide +kernel
theorem dX6_acts_8 : decode cX6_acts 8 = .ok (.aload_n 0, 1) := by decide +kernel
theorem dX6_acts_9 : decode cX6_acts 9 = .ok (.bipush 16, 2) := by decide +kernel
theorem dX6_acts_11 : decode cX6_acts 11 = .ok (.aload_n 0, 1) := by decide +kernel
theorem dX6_acts_12 : decode cX6_acts 12 = .ok (.getfield 39, 3) := by decide +kernel
theorem dX6_acts_15 : decode cX6_acts 15 = .ok (.invokevirtual 79, 3) := by decide +kernel
theorem dX6_acts_18 : decode cX6_acts 18 = .ok (.ifCond .eq 23, 3) := by decide +kernel
theorem dX6_acts_21 : decode cX6_acts 21 = .ok (.aload_n 0, 1) := by decide +kernel
theorem dX6_acts_22 : decode cX6_acts 22 = .ok (.getfield 39, 3) := by decide +kernel
theorem dX6_acts_25 : decode cX6_acts 25 = .ok (.iload_n 1, 1) := by decide +kernel
theorem dX6_acts_26 : decode cX6_acts 26 = .ok (.if_icmp .eq 15, 3) := by decide +kernel
theorem dX6_acts_29 : decode cX6_acts 29 = .ok (.aload_n 0, 1) := by decide +kernel
theorem dX6_acts_30 : decode cX6_acts 30 = .ok (.aload_n 0, 1) := by decide +kernel
theorem dX6_acts_31 : decode cX6_acts 31 = .ok (.getfield 39, 3) := by decide +kernel
theorem dX6_acts_34 : decode cX6_acts 34 = .ok (.iload_n 1, 1) := by decide +kernel
theorem dX6_acts_35 : decode cX6_acts 35 = .ok (.invokevirtual 164, 3) := by decide +kernel
theorem dX6_acts_38 : decode cX6_acts 38 = .ok (.ifCond .eq 5, 3) := by decide +kernel
theorem dX6_acts_41 : decode cX6_acts 41 = .ok (.iconst 0, 1) := by decide +kernel
theorem dX6_acts_42 : decode cX6_acts 42 = .ok (.ireturn, 1) := by decide +kernel
theorem dX6_acts_43 : decode cX6_acts 43 = .ok (.aload_n 0, 1) := by decide +kernel
theorem dX6_acts_44 : decode cX6_acts 44 = .ok (.getfield 23, 3) := by decide +kernel
theorem dX6_acts_47 : decode cX6_acts 47 = .ok (.iload_n 1, 1) := by decide +kernel
theorem dX6_acts_48 : decode cX6_acts 48 = .ok (.aload_n 0, 1) := by decide +kernel
theorem dX6_acts_49 : decode cX6_acts 49 = .ok (.getfield 39, 3) := by decide +kernel
theorem dX6_acts_52 : decode cX6_acts 52 = .ok (.iastore, 1) := by decide +kernel
theorem dX6_acts_53 : decode cX6_acts 53 = .ok (.goto 59, 3) := by decide +kernel
theorem dX6_acts_56 : decode cX6_acts 56 = .ok (.aload_n 0, 1) := by decide +kernel
theorem dX6_acts_57 : decode cX6_acts 57 = .ok (.getfield 36, 3) := by decide +kernel
theorem dX6_acts_60 : decode cX6_acts 60 = .ok (.ifCond .ne 14, 3) := by decide +kernel
theorem dX6_acts_63 : decode cX6_acts 63 = .ok (.aload_n 0, 1) := by decide +kernel
theorem dX6_acts_64 : decode cX6_acts 64 = .ok (.getfield 23, 3) := by decide +kernel
theorem dX6_acts_67 : decode cX6_acts 67 = .ok (.iload_n 1, 1) := by decide +kernel
theorem dX6_acts_68 : decode cX6_acts 68 = .ok (.bipush (-3), 2) := by decide +kernel
theorem dX6_acts_70 : decode cX6_acts 70 = .ok (.iastore, 1) := by decide +kernel
theorem dX6_acts_71 : decode cX6_acts 71 = .ok (.goto 41, 3) := by decide +kernel
theorem dX6_acts_74 : decode cX6_acts 74 = .ok (.aload_n 0, 1) := by decide +kernel
theorem dX6_acts_75 : decode cX6_acts 75 = .ok (.getfield 36, 3) := by decide +kernel
theorem dX6_acts_78 : decode cX6_acts 78 = .ok (.iconst 1, 1) := by decide +kernel
theorem dX6_acts_79 : decode cX6_acts 79 = .ok (.if_icmp .ne 14, 3) := by decide +kernel
theorem dX6_acts_82 : decode cX6_acts 82 = .ok (.aload_n 0, 1) := by decide +kernel
theorem dX6_acts_83 : decode cX6_acts 83 = .ok (.getfield 23, 3) := by decide +kernel
theorem dX6_acts_86 : decode cX6_acts 86 = .ok (.iload_n 1, 1) := by decide +kernel
theorem dX6_acts_87 : decode cX6_acts 87 = .ok (.bipush (-2), 2) := by decide +kernel
theorem dX6_acts_89 : decode cX6_acts 89 = .ok (.iastore, 1) := by decide +kernel
theorem dX6_acts_90 : decode cX6_acts 90 = .ok (.goto 22, 3) := by decide +kernel
theorem dX6_acts_93 : decode cX6_acts 93 = .ok (.aload_n 0, 1) := by decide +kernel
theorem dX6_acts_94 : decode cX6_acts 94 = .ok (.getfield 20, 3) := by decide +kernel
theorem dX6_acts_97 : decode cX6_acts 97 = .ok (.iload_n 1, 1) := by decide +kernel
theorem dX6_acts_98 : decode cX6_acts 98 = .ok (.aload_n 0, 1) := by decide +kernel
theorem dX6_acts_99 : decode cX6_acts 99 = .ok (.getfield 36, 3) := by decide +kernel
theorem dX6_acts_102 : decode cX6_acts 102 = .ok (.iconst 3, 1) := by decide +kernel
theorem dX6_acts_103 : decode cX6_acts 103 = .ok (.if_icmp .ne 7, 3) := by decide +kernel
theorem dX6_acts_106 : decode cX6_acts 106 = .ok (.iconst 1, 1) := by decide +kernel
theorem dX6_acts_107 : decode cX6_acts 107 = .ok (.goto 4, 3) := by decide +kernel
theorem dX6_acts_110 : decode cX6_acts 110 = .ok (.iconst 0, 1) := by decide +kernel
theorem dX6_acts_111 : decode cX6_acts 111 = .ok (.bastore, 1) := by decide +kernel
theorem dX6_acts_112 : decode cX6_acts 112 = .ok (.iconst 1, 1) := by decide +kernel
theorem dX6_acts_113 : decode cX6_acts 113 = .ok (.ireturn, 1) := by decide +kernel
set_option maxRecDepth 20000 in
theorem ggX6_say_X6_understand_r1 : GoodIn wsX6_say (Cond.code yX6_understand cX6_understand 4 (some .int) :: wsX6_understand_r1) := goodIn_r _ [10, 5, 11, 12, 13, 2, 14, 15, 16, 17, 18, 9, 19, 20, 21, 22, 23, 24, 25, 26, 27, 28, 29, 30, 31] (by decide +kernel) (by decide +kernel)
set_option maxRecDepth 20000 in
theorem ggX6_say_X6_understand_r2 : GoodIn wsX6_say wsX6_understand_r2 := goodIn_r _ [32, 33, 34, 35, 36, 37, 38, 39, 40, 41, 42, 43, 44, 45, 46, 47, 48, 49, 50, 51, 52, 53, 54, 55] (by decide +kernel) (by decide +kernel)
set_option maxRecDepth 20000 in
theorem ggX6_say_X6_understand_r3 : GoodIn wsX6_say wsX6_understand_r3 := goodIn_r _ [56, 57, 58, 59, 60, 61, 62, 63, 64, 65, 66, 67, 68, 69, 70, 71, 72, 73, 74, 75, 76, 77, 78, 79] (by decide +kernel) (by decide +kernel)
set_option maxRecDepth 20000 in
theorem ggX6_say_X6_understand_r4 : GoodIn wsX6_say wsX6_understand_r4 := goodIn_r _ [80, 81, 82, 83, 84, 85, 86, 87, 88, 89, 90, 91, 92, 93, 94, 95, 96, 97, 98, 99, 100, 101, 102, 103] (by decide +kernel) (by decide +kernel)
set_option maxRecDepth 20000 in
theorem ggX6_say_X6_understand_r5 : GoodIn wsX6_say wsX6_understand_r5 := goodIn_r _ [104, 105, 106, 107, 108, 109, 110, 111, 112, 113, 114, 115, 116, 117, 118, 119, 120, 121, 122, 123] (by decide +kernel) (by decide +kernel)
set_option maxRecDepth 20000 in
theorem ggX6_say_X6_understand_wsX60 : GoodIn wsX6_say wsX60 := goodIn_r _ [124, 125, 126, 127, 128, 129, 130, 131, 132, 133, 134, 135, 136, 137, 138, 139, 140, 141, 142, 143, 144, 145, 146, 147, 148] (by decide +kernel) (by decide +kernel)
set_option maxRecDepth 20000 in
theorem ggX6_say_X6_understand : GoodIn wsX6_say wsX6_understand := goodIn_ca (goodIn_ca ggX6_say_X6_understand_r1 (goodIn_app ggX6_say_X6_understand_r2 (goodIn_app ggX6_say_X6_understand_r3 (goodIn_app ggX6_say_X6_understand_r4 (ggX6_say_X6_understand_r5))))) ggX6_say_X6_understand_wsX60
end
section
set_option maxRecDepth 20000 in
theorem gX6_say_X6_understand : GoodIn wsX6_say (wsV RX6 167 RX6 yX6_understand wsX6_understand) := goodIn_app (goodIn_of _ (by decide +kernel)) ggX6_say_X6_understand
theorem dX6_say_0 : decode cX6_say 0 = .ok (.aload_n 0, 1) := by decide +kernel
theorem dX6_say_1 : decode cX6_say 1 = .ok (.iconst 0, 1) := by decide +kernel
theorem dX6_say_2 : decode cX6_say 2 = .ok (.putfield 54, 3) := by decide +kernel
theorem dX6_say_5 : decode cX6_say 5 = .ok (.aload_n 0, 1) := by decide +kernel
theorem dX6_say_6 : decode cX6_say 6 = .ok (.iconst (-1), 1) := by decide +kernel
theorem dX6_say_7 : decode cX6_say 7 = .ok (.putfield 33, 3) := by decide +kernel
theorem dX6_say_10 : decode cX6_say 10 = .ok (.aload_n 0, 1) := by decide +kernel
theorem dX6_say_11 : decode cX6_say 11 = .ok (.aload_n 0, 1) := by decide +kernel
theorem dX6_say_12 : decode cX6_say 12 = .ok (.invokevirtual 167, 3) := by decide +kernel
theorem dX6_say_15 : decode cX6_say 15 = .ok (.putfield 29, 3) := by decide +kernel
theorem dX6_say_18 : decode cX6_say 18 = .ok (.aload_n 0, 1) := by decide +kernel
theorem dX6_say_19 : decode cX6_say 19 = .ok (.dup, 1) := by decide +kernel
theorem dX6_say_20 : decode cX6_say 20 = .ok (.getfield 170, 3) := by decide +kernel
theorem dX6_say_23 : decode cX6_say 23 = .ok (.aload_n 0, 1) := by decide +kernel
theorem dX6_say_24 : decode cX6_say 24 = .ok (.getfield 29, 3) := by decide +kernel
theorem dX6_say_27 : decode cX6_say 27 = .ok (.iconst 1, 1) := by decide +kernel
theorem dX6_say_28 : decode cX6_say 28 = .ok (.if_icmp .ne 7, 3) := by decide +kernel
theorem dX6_say_31 : decode cX6_say 31 = .ok (.iconst 1, 1) := by decide +kernel
theorem dX6_say_32 : decode cX6_say 32 = .ok (.goto 4, 3) := by decide +kernel
theorem dX6_say_35 : decode cX6_say 35 = .ok (.iconst 0, 1) := by decide +kernel
theorem dX6_say_36 : decode cX6_say 36 = .ok (.iadd, 1) := by decide +kernel
theorem dX6_say_37 : decode cX6_say 37 = .ok (.putfield 170, 3) := by decide +kernel
theorem dX6_say_40 : decode cX6_say 40 = .ok (.aload_n 0, 1) := by decide +kernel
theorem dX6_say_41 : decode cX6_say 41 = .ok (.iconst 0, 1) := by decide +kernel
theorem dX6_say_42 : decode cX6_say 42 = .ok (.putfield 95, 3) := by decide +kernel
theorem dX6_say_45 : decode cX6_say 45 = .ok (.aload_n 0, 1) := by decide +kernel
theorem dX6_say_46 : decode cX6_say 46 = .ok (.getfield 29, 3) := by decide +kernel
theorem dX6_say_49 : decode cX6_say 49 = .ok (.ireturn, 1) := by decide +kernel
set_option maxRecDepth 20000 in
theorem ggX6_understand_X6_isVerb : GoodIn wsX6_understand wsX6_isVerb := goodIn_r _ [12] (by decide +kernel) (by decide +kernel)
set_option maxRecDepth 20000 in
theorem gX6_understand_X6_isVerb : GoodIn wsX6_understand (va_wsS RX6 83 yX6_isVerb wsX6_isVerb) := goodIn_app (goodIn_of _ (by decide +kernel)) ggX6_understand_X6_isVerb
set_option maxRecDepth 20000 in
theorem ggX6_understand_X6_wrongOrder : GoodIn wsX6_understand wsX6_wrongOrder := goodIn_r _ [16, 1, 2, 17, 18, 11, 19, 20, 21, 22, 23, 24, 25, 26, 27, 28, 117, 118, 119, 120, 121, 122, 123, 124, 125, 126, 127, 128, 129, 130, 131, 132, 133, 134, 135, 136, 137, 138, 139, 140, 141] (by decide +kernel) (by decide +kernel)
set_option maxRecDepth 20000 in
theorem gX6_understand_X6_wrongOrder : GoodIn wsX6_understand (wsV RX6 173 RX6 yX6_wrongOrder wsX6_wrongOrder) := goodIn_app (goodIn_of _ (by decide +kernel)) ggX6_understand_X6_wrongOrder
set_option maxRecDepth 20000 in
theorem ggX6_understand_X6_perform : GoodIn wsX6_understand wsX6_perform := goodIn_r _ [32, 3, 4, 33, 7, 34, 35, 36, 37, 38, 39, 40, 41, 42, 11, 43, 6, 44, 45, 46, 47, 48, 49, 50, 51, 52, 53, 54, 55, 56, 57, 58, 59, 60, 61, 62, 63, 64, 65, 66, 67, 17, 18, 19, 20, 21, 22, 68, 69, 70, 71, 8, 72, 73, 74, 75, 76, 77, 78, 79, 80, 81, 82, 83, 84, 85, 86, 87, 88, 89, 90, 91, 92, 93, 94, 95, 96, 97, 98, 99, 100, 26, 27, 28, 101, 102, 103, 104, 5, 105, 106, 107, 108, 109, 110, 111, 112, 117, 118, 119, 120, 121, 122, 123, 124, 125, 126, 127, 128, 129, 130, 131, 132, 133, 134, 135, 136, 137, 138, 139, 140, 141] (by decide +kernel) (by decide +kernel)
set_option maxRecDepth 20000 in
theorem gX6_understand_X6_perform : GoodIn wsX6_understand (wsV RX6 176 RX6 yX6_perform wsX6_perform) := goodIn_app (goodIn_of _ (by decide +kernel)) ggX6_understand_X6_perform
set_option maxRecDepth 20000 in
theorem ggX6_understand_X6_wrongAnswer : GoodIn wsX6_understand wsX6_wrongAnswer := goodIn_r _ [116, 1, 2, 17, 18, 11, 19, 26, 27, 28, 117, 118, 119, 120, 121, 122, 123, 124, 125, 126, 127, 128, 129, 130, 131, 132, 133, 134, 135, 136, 137, 138, 139, 140, 141] (by decide +kernel) (by decide +kernel)
set_option maxRecDepth 20000 in
theorem gX6_understand_X6_wrongAnswer : GoodIn wsX6_understand (wsV RX6 179 RX6 yX6_wrongAnswer wsX6_wrongAnswer) := goodIn_app (goodIn_of _ (by decide +kernel)) ggX6_understand_X6_wrongAnswer
set_option maxRecDepth 20000 in
theorem ggX6_understand_X6_isAdjective : GoodIn wsX6_understand wsX6_isAdjective := goodIn_r _ [19] (by decide +kernel) (by decide +kernel)
set_option maxRecDepth 20000 in
theorem gX6_understand_X6_isAdjective : GoodIn wsX6_understand (va_wsS RX6 86 yX6_isAdjective wsX6_isAdjective) := goodIn_app (goodIn_of _ (by decide +kernel)) ggX6_understand_X6_isAdjective
set_option maxRecDepth 20000 in
theorem ggX6_understand_X6_isNoun : GoodIn wsX6_understand wsX6_isNoun := goodIn_r _ [28] (by decide +kernel) (by decide +kernel)
set_option maxRecDepth 20000 in
theorem gX6_understand_X6_isNoun : GoodIn wsX6_understand (va_wsS RX6 89 yX6_isNoun wsX6_isNoun) := goodIn_app (goodIn_of _ (by decide +kernel)) ggX6_understand_X6_isNoun
set_option maxRecDepth 20000 in
theorem ggX6_understand_X6_having : GoodIn wsX6_understand wsX6_having := goodIn_r _ [79, 39, 80, 81, 117, 118, 119, 120, 121, 122, 123, 124, 125, 126, 127, 128, 129, 130, 131, 132, 133, 134, 135, 136, 137, 138, 139, 140, 141] (by decide +kernel) (by decide +kernel)
set_option maxRecDepth 20000 in
theorem gX6_understand_X6_having : GoodIn wsX6_understand (wsV RX6 125 RX6 yX6_having wsX6_having) := goodIn_app (goodIn_of _ (by decide +kernel)) ggX6_understand_X6_having
set_option maxRecDepth 20000 in
theorem ggX6_understand_X6_bits : GoodIn wsX6_understand wsX6_bits := goodIn_r _ [84] (by decide +kernel) (by decide +kernel)
set_option maxRecDepth 20000 in
theorem gX6_understand_X6_bits : GoodIn wsX6_understand (va_wsS RX6 128 yX6_bits wsX6_bits) := goodIn_app (goodIn_of _ (by decide +kernel)) ggX6_understand_X6_bits
set_option maxRecDepth 20000 in
theorem ggX6_understand_X6_lowest : GoodIn wsX6_understand wsX6_lowest := goodIn_r _ [87] (by decide +kernel) (by decide +kernel)
set_option maxRecDepth 20000 in
theorem gX6_understand_X6_lowest : GoodIn wsX6_understand (va_wsS RX6 131 yX6_lowest wsX6_lowest) := goodIn_app (goodIn_of _ (by decide +kernel)) ggX6_understand_X6_lowest
theorem dX6_understand_0 : decode cX6_understand 0 = .ok (.aload_n 0, 1) := by decide +kernel
theorem dX6_understand_1 : decode cX6_understand 1 = .ok (.getfield 95, 3) := by decide +kernel
theorem dX6_understand_4 : decode cX6_understand 4 = .ok (.ifCond .ne 5, 3) := by decide +kernel
theorem dX6_understand_7 : decode cX6_understand 7 = .ok (.iconst 2, 1) := by decide +kernel
theorem dX6_understand_8 : decode cX6_understand 8 = .ok (.ireturn, 1) := by decide +kernel
theorem dX6_understand_9 : decode cX6_understand 9 = .ok (.aload_n 0, 1) := by decide +kernel
theorem dX6_understand_10 : decode cX6_understand 10 = .ok (.getfield 26, 3) := by decide +kernel
theorem dX6_understand_13 : decode cX6_understand 13 = .ok (.iconst 0, 1) := by decide +kernel
theorem dX6_understand_14 : decode cX6_understand 14 = .ok (.iaload, 1) := by decide +kernel
theorem dX6_understand_15 : decode cX6_understand 15 = .ok (.invokestatic 83, 3) := by decide +kernel
theorem dX6_understand_18 : decode cX6_understand 18 = .ok (.ifCond .eq 79, 3) := by decide +kernel
theorem dX6_understand_21 : decode cX6_understand 21 = .ok (.aload_n 0, 1) := by decide +kernel
theorem dX6_understand_22 : decode cX6_understand 22 = .ok (.iconst 0, 1) := by decide +kernel
theorem dX6_understand_23 : decode cX6_understand 23 = .ok (.putfield 149, 3) := by decide +kernel
theorem dX6_understand_26 : decode cX6_understand 26 = .ok (.aload_n 0, 1) := by decide +kernel
theorem dX6_understand_27 : decode cX6_understand 27 = .ok (.iconst (-1), 1) := by decide +kernel
theorem dX6_understand_28 : decode cX6_understand 28 = .ok (.putfield 51, 3) := by decide +kernel
end
section
theorem dX6_understand_31 : decode cX6_understand 31 = .ok (.aload_n 0, 1) := by decide +kernel
theorem dX6_understand_32 : decode cX6_understand 32 = .ok (.aload_n 0, 1) := by decide +kernel
theorem dX6_understand_33 : decode cX6_understand 33 = .ok (.invokevirtual 173, 3) := by decide +kernel
theorem dX6_understand_36 : decode cX6_understand 36 = .ok (.putfield 33, 3) := by decide +kernel
theorem dX6_understand_39 : decode cX6_understand 39 = .ok (.aload_n 0, 1) := by decide +kernel
theorem dX6_understand_40 : decode cX6_understand 40 = .ok (.getfield 33, 3) := by decide +kernel
theorem dX6_understand_43 : decode cX6_understand 43 = .ok (.iconst (-1), 1) := by decide +kernel
theorem dX6_understand_44 : decode cX6_understand 44 = .ok (.if_icmp .eq 5, 3) := by decide +kernel
theorem dX6_understand_47 : decode cX6_understand 47 = .ok (.iconst 4, 1) := by decide +kernel
theorem dX6_understand_48 : decode cX6_understand 48 = .ok (.ireturn, 1) := by decide +kernel
theorem dX6_understand_49 : decode cX6_understand 49 = .ok (.aload_n 0, 1) := by decide +kernel
theorem dX6_understand_50 : decode cX6_understand 50 = .ok (.aload_n 0, 1) := by decide +kernel
theorem dX6_understand_51 : decode cX6_understand 51 = .ok (.getfield 95, 3) := by decide +kernel
theorem dX6_understand_54 : decode cX6_understand 54 = .ok (.putfield 105, 3) := by decide +kernel
theorem dX6_understand_57 : decode cX6_understand 57 = .ok (.iconst 0, 1) := by decide +kernel
theorem dX6_understand_58 : decode cX6_understand 58 = .ok (.istore_n 1, 1) := by decide +kernel
theorem dX6_understand_59 : decode cX6_understand 59 = .ok (.iload_n 1, 1) := by decide +kernel
theorem dX6_understand_60 : decode cX6_understand 60 = .ok (.aload_n 0, 1) := by decide +kernel
theorem dX6_understand_61 : decode cX6_understand 61 = .ok (.getfield 95, 3) := by decide +kernel
theorem dX6_understand_64 : decode cX6_understand 64 = .ok (.if_icmp .ge 28, 3) := by decide +kernel
theorem dX6_understand_67 : decode cX6_understand 67 = .ok (.aload_n 0, 1) := by decide +kernel
theorem dX6_understand_68 : decode cX6_understand 68 = .ok (.getfield 45, 3) := by decide +kernel
theorem dX6_understand_71 : decode cX6_understand 71 = .ok (.iload_n 1, 1) := by decide +kernel
theorem dX6_understand_72 : decode cX6_understand 72 = .ok (.aload_n 0, 1) := by decide +kernel
theorem dX6_understand_73 : decode cX6_understand 73 = .ok (.getfield 26, 3) := by decide +kernel
theorem dX6_understand_76 : decode cX6_understand 76 = .ok (.iload_n 1, 1) := by decide +kernel
theorem dX6_understand_77 : decode cX6_understand 77 = .ok (.iaload, 1) := by decide +kernel
theorem dX6_understand_78 : decode cX6_understand 78 = .ok (.iastore, 1) := by decide +kernel
theorem dX6_understand_79 : decode cX6_understand 79 = .ok (.aload_n 0, 1) := by decide +kernel
theorem dX6_understand_80 : decode cX6_understand 80 = .ok (.getfield 48, 3) := by decide +kernel
theorem dX6_understand_83 : decode cX6_understand 83 = .ok (.iload_n 1, 1) := by decide +kernel
theorem dX6_understand_84 : decode cX6_understand 84 = .ok (.iconst (-1), 1) := by decide +kernel
theorem dX6_understand_85 : decode cX6_understand 85 = .ok (.iastore, 1) := by decide +kernel
theorem dX6_understand_86 : decode cX6_understand 86 = .ok (.iinc 1 1, 3) := by decide +kernel
theorem dX6_understand_89 : decode cX6_understand 89 = .ok (.goto (-30), 3) := by decide +kernel
theorem dX6_understand_92 : decode cX6_understand 92 = .ok (.aload_n 0, 1) := by decide +kernel
theorem dX6_understand_93 : decode cX6_understand 93 = .ok (.invokevirtual 176, 3) := by decide +kernel
theorem dX6_understand_96 : decode cX6_understand 96 = .ok (.ireturn, 1) := by decide +kernel
theorem dX6_understand_97 : decode cX6_understand 97 = .ok (.aload_n 0, 1) := by decide +kernel
theorem dX6_understand_98 : decode cX6_understand 98 = .ok (.getfield 149, 3) := by decide +kernel
theorem dX6_understand_101 : decode cX6_understand 101 = .ok (.ifCond .ne 5, 3) := by decide +kernel
theorem dX6_understand_104 : decode cX6_understand 104 = .ok (.iconst 3, 1) := by decide +kernel
theorem dX6_understand_105 : decode cX6_understand 105 = .ok (.ireturn, 1) := by decide +kernel
theorem dX6_understand_106 : decode cX6_understand 106 = .ok (.aload_n 0, 1) := by decide +kernel
theorem dX6_understand_107 : decode cX6_understand 107 = .ok (.aload_n 0, 1) := by decide +kernel
theorem dX6_understand_108 : decode cX6_understand 108 = .ok (.invokevirtual 179, 3) := by decide +kernel
theorem dX6_understand_111 : decode cX6_understand 111 = .ok (.putfield 33, 3) := by decide +kernel
theorem dX6_understand_114 : decode cX6_understand 114 = .ok (.aload_n 0, 1) := by decide +kernel
theorem dX6_understand_115 : decode cX6_understand 115 = .ok (.getfield 33, 3) := by decide +kernel
theorem dX6_understand_118 : decode cX6_understand 118 = .ok (.iconst (-1), 1) := by decide +kernel
theorem dX6_understand_119 : decode cX6_understand 119 = .ok (.if_icmp .eq 5, 3) := by decide +kernel
theorem dX6_understand_122 : decode cX6_understand 122 = .ok (.iconst 4, 1) := by decide +kernel
theorem dX6_understand_123 : decode cX6_understand 123 = .ok (.ireturn, 1) := by decide +kernel
theorem dX6_understand_124 : decode cX6_understand 124 = .ok (.iconst 0, 1) := by decide +kernel
theorem dX6_understand_125 : decode cX6_understand 125 = .ok (.istore_n 1, 1) := by decide +kernel
theorem dX6_understand_126 : decode cX6_understand 126 = .ok (.iconst (-1), 1) := by decide +kernel
theorem dX6_understand_127 : decode cX6_understand 127 = .ok (.istore_n 2, 1) := by decide +kernel
theorem dX6_understand_128 : decode cX6_understand 128 = .ok (.iconst 0, 1) := by decide +kernel
theorem dX6_understand_129 : decode cX6_understand 129 = .ok (.istore_n 3, 1) := by decide +kernel
theorem dX6_understand_130 : decode cX6_understand 130 = .ok (.iload_n 3, 1) := by decide +kernel
theorem dX6_understand_131 : decode cX6_understand 131 = .ok (.aload_n 0, 1) := by decide +kernel
theorem dX6_understand_132 : decode cX6_understand 132 = .ok (.getfield 95, 3) := by decide +kernel
theorem dX6_understand_135 : decode cX6_understand 135 = .ok (.if_icmp .ge 65, 3) := by decide +kernel
theorem dX6_understand_138 : decode cX6_understand 138 = .ok (.iload_n 1, 1) := by decide +kernel
theorem dX6_understand_139 : decode cX6_understand 139 = .ok (.aload_n 0, 1) := by decide +kernel
theorem dX6_understand_140 : decode cX6_understand 140 = .ok (.getfield 26, 3) := by decide +kernel
theorem dX6_understand_143 : decode cX6_understand 143 = .ok (.iload_n 3, 1) := by decide +kernel
theorem dX6_understand_144 : decode cX6_understand 144 = .ok (.iaload, 1) := by decide +kernel
theorem dX6_understand_145 : decode cX6_understand 145 = .ok (.invokestatic 86, 3) := by decide +kernel
theorem dX6_understand_148 : decode cX6_understand 148 = .ok (.ifCond .eq 17, 3) := by decide +kernel
theorem dX6_understand_151 : decode cX6_understand 151 = .ok (.iconst 1, 1) := by decide +kernel
theorem dX6_understand_152 : decode cX6_understand 152 = .ok (.aload_n 0, 1) := by decide +kernel
theorem dX6_understand_153 : decode cX6_understand 153 = .ok (.getfield 26, 3) := by decide +kernel
theorem dX6_understand_156 : decode cX6_understand 156 = .ok (.iload_n 3, 1) := by decide +kernel
theorem dX6_understand_157 : decode cX6_understand 157 = .ok (.iaload, 1) := by decide +kernel
theorem dX6_understand_158 : decode cX6_understand 158 = .ok (.bipush 20, 2) := by decide +kernel
theorem dX6_understand_160 : decode cX6_understand 160 = .ok (.isub, 1) := by decide +kernel
theorem dX6_understand_161 : decode cX6_understand 161 = .ok (.ishl, 1) := by decide +kernel
theorem dX6_understand_162 : decode cX6_understand 162 = .ok (.goto 4, 3) := by decide +kernel
theorem dX6_understand_165 : decode cX6_understand 165 = .ok (.iconst 0, 1) := by decide +kernel
theorem dX6_understand_166 : decode cX6_understand 166 = .ok (.ior, 1) := by decide +kernel
theorem dX6_understand_167 : decode cX6_understand 167 = .ok (.istore_n 1, 1) := by decide +kernel
theorem dX6_understand_168 : decode cX6_understand 168 = .ok (.aload_n 0, 1) := by decide +kernel
theorem dX6_understand_169 : decode cX6_understand 169 = .ok (.getfield 26, 3) := by decide +kernel
theorem dX6_understand_172 : decode cX6_understand 172 = .ok (.iload_n 3, 1) := by decide +kernel
theorem dX6_understand_173 : decode cX6_understand 173 = .ok (.iaload, 1) := by decide +kernel
theorem dX6_understand_174 : decode cX6_understand 174 = .ok (.invokestatic 89, 3) := by decide +kernel
theorem dX6_understand_177 : decode cX6_understand 177 = .ok (.ifCond .eq 15, 3) := by decide +kernel
theorem dX6_understand_180 : decode cX6_understand 180 = .ok (.aload_n 0, 1) := by decide +kernel
theorem dX6_understand_181 : decode cX6_understand 181 = .ok (.getfield 26, 3) := by decide +kernel
theorem dX6_understand_184 : decode cX6_understand 184 = .ok (.iload_n 3, 1) := by decide +kernel
theorem dX6_understand_185 : decode cX6_understand 185 = .ok (.iaload, 1) := by decide +kernel
theorem dX6_understand_186 : decode cX6_understand 186 = .ok (.bipush 30, 2) := by decide +kernel
theorem dX6_understand_188 : decode cX6_understand 188 = .ok (.isub, 1) := by decide +kernel
theorem dX6_understand_189 : decode cX6_understand 189 = .ok (.goto 4, 3) := by decide +kernel
theorem dX6_understand_192 : decode cX6_understand 192 = .ok (.iload_n 2, 1) := by decide +kernel
theorem dX6_understand_193 : decode cX6_understand 193 = .ok (.istore_n 2, 1) := by decide +kernel
theorem dX6_understand_194 : decode cX6_understand 194 = .ok (.iinc 3 1, 3) := by decide +kernel
theorem dX6_understand_197 : decode cX6_understand 197 = .ok (.goto (-67), 3) := by decide +kernel
theorem dX6_understand_200 : decode cX6_understand 200 = .ok (.aload_n 0, 1) := by decide +kernel
theorem dX6_understand_201 : decode cX6_understand 201 = .ok (.aload_n 0, 1) := by decide +kernel
theorem dX6_understand_202 : decode cX6_understand 202 = .ok (.getfield 149, 3) := by decide +kernel
theorem dX6_understand_205 : decode cX6_understand 205 = .ok (.iload_n 1, 1) := by decide +kernel
theorem dX6_understand_206 : decode cX6_understand 206 = .ok (.iload_n 2, 1) := by decide +kernel
theorem dX6_understand_207 : decode cX6_understand 207 = .ok (.invokevirtual 125, 3) := by decide +kernel
theorem dX6_understand_210 : decode cX6_understand 210 = .ok (.istore_n 3, 1) := by decide +kernel
theorem dX6_understand_211 : decode cX6_understand 211 = .ok (.iload_n 3, 1) := by decide +kernel
theorem dX6_understand_212 : decode cX6_understand 212 = .ok (.ifCond .ne 5, 3) := by decide +kernel
theorem dX6_understand_215 : decode cX6_understand 215 = .ok (.iconst 5, 1) := by decide +kernel
theorem dX6_understand_216 : decode cX6_understand 216 = .ok (.ireturn, 1) := by decide +kernel
theorem dX6_understand_217 : decode cX6_understand 217 = .ok (.iload_n 3, 1) := by decide +kernel
theorem dX6_understand_218 : decode cX6_understand 218 = .ok (.invokestatic 128, 3) := by decide +kernel
theorem dX6_understand_221 : decode cX6_understand 221 = .ok (.iconst 1, 1) := by decide +kernel
theorem dX6_understand_222 : decode cX6_understand 222 = .ok (.if_icmp .le 10, 3) := by decide +kernel
theorem dX6_understand_225 : decode cX6_understand 225 = .ok (.aload_n 0, 1) := by decide +kernel
theorem dX6_understand_226 : decode cX6_understand 226 = .ok (.iload_n 3, 1) := by decide +kernel
theorem dX6_understand_227 : decode cX6_understand 227 = .ok (.putfield 149, 3) := by decide +kernel
theorem dX6_understand_230 : decode cX6_understand 230 = .ok (.iconst 1, 1) := by decide +kernel
theorem dX6_understand_231 : decode cX6_understand 231 = .ok (.ireturn, 1) := by decide +kernel
theorem dX6_understand_232 : decode cX6_understand 232 = .ok (.aload_n 0, 1) := by decide +kernel
theorem dX6_understand_233 : decode cX6_understand 233 = .ok (.getfield 48, 3) := by decide +kernel
theorem dX6_understand_236 : decode cX6_understand 236 = .ok (.aload_n 0, 1) := by decide +kernel
theorem dX6_understand_237 : decode cX6_understand 237 = .ok (.getfield 51, 3) := by decide +kernel
theorem dX6_understand_240 : decode cX6_understand 240 = .ok (.iload_n 3, 1) := by decide +kernel
theorem dX6_understand_241 : decode cX6_understand 241 = .ok (.invokestatic 131, 3) := by decide +kernel
theorem dX6_understand_244 : decode cX6_understand 244 = .ok (.iastore, 1) := by decide +kernel
theorem dX6_understand_245 : decode cX6_understand 245 = .ok (.aload_n 0, 1) := by decide +kernel
theorem dX6_understand_246 : decode cX6_understand 246 = .ok (.invokevirtual 176, 3) := by decide +kernel
theorem dX6_understand_249 : decode cX6_understand 249 = .ok (.ireturn, 1) := by decide +kernel
theorem dX6_outcome_0 : decode cX6_outcome 0 = .ok (.aload_n 0, 1) := by decide +kernel
theorem dX6_outcome_1 : decode cX6_outcome 1 = .ok (.iconst 0, 1) := by decide +kernel
theorem dX6_outcome_2 : decode cX6_outcome 2 = .ok (.putfield 54, 3) := by decide +kernel
theorem dX6_outcome_5 : decode cX6_outcome 5 = .ok (.aload_n 0, 1) := by decide +kernel
theorem dX6_outcome_6 : decode cX6_outcome 6 = .ok (.getfield 29, 3) := by decide +kernel
theorem dX6_outcome_9 : decode cX6_outcome 9 = .ok (.ireturn, 1) := by decide +kernel
theorem dX6_wrongAt_0 : decode cX6_wrongAt 0 = .ok (.aload_n 0, 1) := by decide +kernel
theorem dX6_wrongAt_1 : decode cX6_wrongAt 1 = .ok (.iconst 0, 1) := by decide +kernel
theorem dX6_wrongAt_2 : decode cX6_wrongAt 2 = .ok (.putfield 54, 3) := by decide +kernel
theorem dX6_wrongAt_5 : decode cX6_wrongAt 5 = .ok (.aload_n 0, 1) := by decide +kernel
theorem dX6_wrongAt_6 : decode cX6_wrongAt 6 = .ok (.getfield 33, 3) := by decide +kernel
theorem dX6_wrongAt_9 : decode cX6_wrongAt 9 = .ok (.ireturn, 1) := by decide +kernel
theorem dX6_verb_0 : decode cX6_verb 0 = .ok (.aload_n 0, 1) := by decide +kernel
theorem dX6_verb_1 : decode cX6_verb 1 = .ok (.iconst 0, 1) := by decide +kernel
theorem dX6_verb_2 : decode cX6_verb 2 = .ok (.putfield 54, 3) := by decide +kernel
theorem dX6_verb_5 : decode cX6_verb 5 = .ok (.aload_n 0, 1) := by decide +kernel
theorem dX6_verb_6 : decode cX6_verb 6 = .ok (.getfield 36, 3) := by decide +kernel
theorem dX6_verb_9 : decode cX6_verb 9 = .ok (.ireturn, 1) := by decide +kernel
theorem dX6_meant_0 : decode cX6_meant 0 = .ok (.aload_n 0, 1) := by decide +kernel
theorem dX6_meant_1 : decode cX6_meant 1 = .ok (.iconst 0, 1) := by decide +kernel
theorem dX6_meant_2 : decode cX6_meant 2 = .ok (.putfield 54, 3) := by decide +kernel
theorem dX6_meant_5 : decode cX6_meant 5 = .ok (.aload_n 0, 1) := by decide +kernel
theorem dX6_meant_6 : decode cX6_meant 6 = .ok (.getfield 140, 3) := by decide +kernel
theorem dX6_meant_9 : decode cX6_meant 9 = .ok (.ireturn, 1) := by decide +kernel
theorem dX6_done_0 : decode cX6_done 0 = .ok (.aload_n 0, 1) := by decide +kernel
theorem dX6_done_1 : decode cX6_done 1 = .ok (.iconst 0, 1) := by decide +kernel
theorem dX6_done_2 : decode cX6_done 2 = .ok (.putfield 54, 3) := by decide +kernel
theorem dX6_done_5 : decode cX6_done 5 = .ok (.aload_n 0, 1) := by decide +kernel
theorem dX6_done_6 : decode cX6_done 6 = .ok (.getfield 158, 3) := by decide +kernel
theorem dX6_done_9 : decode cX6_done 9 = .ok (.ireturn, 1) := by decide +kernel
theorem dX6_into_0 : decode cX6_into 0 = .ok (.aload_n 0, 1) := by decide +kernel
theorem dX6_into_1 : decode cX6_into 1 = .ok (.iconst 0, 1) := by decide +kernel
theorem dX6_into_2 : decode cX6_into 2 = .ok (.putfield 54, 3) := by decide +kernel
theorem dX6_into_5 : decode cX6_into 5 = .ok (.aload_n 0, 1) := by decide +kernel
theorem dX6_into_6 : decode cX6_into 6 = .ok (.getfield 39, 3) := by decide +kernel
theorem dX6_into_9 : decode cX6_into 9 = .ok (.ireturn, 1) := by decide +kernel
theorem dX6_asked_0 : decode cX6_asked 0 = .ok (.aload_n 0, 1) := by decide +kernel
theorem dX6_asked_1 : decode cX6_asked 1 = .ok (.iconst 0, 1) := by decide +kernel
theorem dX6_asked_2 : decode cX6_asked 2 = .ok (.putfield 54, 3) := by decide +kernel
theorem dX6_asked_5 : decode cX6_asked 5 = .ok (.aload_n 0, 1) := by decide +kernel
theorem dX6_asked_6 : decode cX6_asked 6 = .ok (.getfield 149, 3) := by decide +kernel
theorem dX6_asked_9 : decode cX6_asked 9 = .ok (.ireturn, 1) := by decide +kernel
theorem dX6_askedAt_0 : decode cX6_askedAt 0 = .ok (.aload_n 0, 1) := by decide +kernel
theorem dX6_askedAt_1 : decode cX6_askedAt 1 = .ok (.iconst 0, 1) := by decide +kernel
theorem dX6_askedAt_2 : decode cX6_askedAt 2 = .ok (.putfield 54, 3) := by decide +kernel
theorem dX6_askedAt_5 : decode cX6_askedAt 5 = .ok (.aload_n 0, 1) := by decide +kernel
theorem dX6_askedAt_6 : decode cX6_askedAt 6 = .ok (.getfield 51, 3) := by decide +kernel
theorem dX6_askedAt_9 : decode cX6_askedAt 9 = .ok (.ireturn, 1) := by decide +kernel
theorem dX6_questions_0 : decode cX6_questions 0 = .ok (.aload_n 0, 1) := by decide +kernel
theorem dX6_questions_1 : decode cX6_questions 1 = .ok (.iconst 0, 1) := by decide +kernel
theorem dX6_questions_2 : decode cX6_questions 2 = .ok (.putfield 54, 3) := by decide +kernel
theorem dX6_questions_5 : decode cX6_questions 5 = .ok (.aload_n 0, 1) := by decide +kernel
theorem dX6_questions_6 : decode cX6_questions 6 = .ok (.getfield 170, 3) := by decide +kernel
theorem dX6_questions_9 : decode cX6_questions 9 = .ok (.ireturn, 1) := by decide +kernel
theorem dJ6_bitCount_0f7a4_0 : decode cJ6_bitCount_0f7a4 0 = .ok (.iload_n 0, 1) := by decide +kernel
theorem dJ6_bitCount_0f7a4_1 : decode cJ6_bitCount_0f7a4 1 = .ok (.iload_n 0, 1) := by decide +kernel
theorem dJ6_bitCount_0f7a4_2 : decode cJ6_bitCount_0f7a4 2 = .ok (.iconst 1, 1) := by decide +kernel
theorem dJ6_bitCount_0f7a4_3 : decode cJ6_bitCount_0f7a4 3 = .ok (.iushr, 1) := by decide +kernel
theorem dJ6_bitCount_0f7a4_4 : decode cJ6_bitCount_0f7a4 4 = .ok (.ldc_w 265, 3) := by decide +kernel
theorem dJ6_bitCount_0f7a4_7 : decode cJ6_bitCount_0f7a4 7 = .ok (.iand, 1) := by decide +kernel
theorem dJ6_bitCount_0f7a4_8 : decode cJ6_bitCount_0f7a4 8 = .ok (.isub, 1) := by decide +kernel
theorem dJ6_bitCount_0f7a4_9 : decode cJ6_bitCount_0f7a4 9 = .ok (.istore_n 0, 1) := by decide +kernel
theorem dJ6_bitCount_0f7a4_10 : decode cJ6_bitCount_0f7a4 10 = .ok (.iload_n 0, 1) := by decide +kernel
theorem dJ6_bitCount_0f7a4_11 : decode cJ6_bitCount_0f7a4 11 = .ok (.ldc_w 266, 3) := by decide +kernel
theorem dJ6_bitCount_0f7a4_14 : decode cJ6_bitCount_0f7a4 14 = .ok (.iand, 1) := by decide +kernel
theorem dJ6_bitCount_0f7a4_15 : decode cJ6_bitCount_0f7a4 15 = .ok (.iload_n 0, 1) := by decide +kernel
theorem dJ6_bitCount_0f7a4_16 : decode cJ6_bitCount_0f7a4 16 = .ok (.iconst 2, 1) := by decide +kernel
theorem dJ6_bitCount_0f7a4_17 : decode cJ6_bitCount_0f7a4 17 = .ok (.iushr, 1) := by decide +kernel
theorem dJ6_bitCount_0f7a4_18 : decode cJ6_bitCount_0f7a4 18 = .ok (.ldc_w 266, 3) := by decide +kernel
theorem dJ6_bitCount_0f7a4_21 : decode cJ6_bitCount_0f7a4 21 = .ok (.iand, 1) := by decide +kernel
theorem dJ6_bitCount_0f7a4_22 : decode cJ6_bitCount_0f7a4 22 = .ok (.iadd, 1) := by decide +kernel
theorem dJ6_bitCount_0f7a4_23 : decode cJ6_bitCount_0f7a4 23 = .ok (.istore_n 0, 1) := by decide +kernel
theorem dJ6_bitCount_0f7a4_24 : decode cJ6_bitCount_0f7a4 24 = .ok (.iload_n 0, 1) := by decide +kernel
theorem dJ6_bitCount_0f7a4_25 : decode cJ6_bitCount_0f7a4 25 = .ok (.iload_n 0, 1) := by decide +kernel
theorem dJ6_bitCount_0f7a4_26 : decode cJ6_bitCount_0f7a4 26 = .ok (.iconst 4, 1) := by decide +kernel
theorem dJ6_bitCount_0f7a4_27 : decode cJ6_bitCount_0f7a4 27 = .ok (.iushr, 1) := by decide +kernel
theorem dJ6_bitCount_0f7a4_28 : decode cJ6_bitCount_0f7a4 28 = .ok (.iadd, 1) := by decide +kernel
theorem dJ6_bitCount_0f7a4_29 : decode cJ6_bitCount_0f7a4 29 = .ok (.ldc_w 267, 3) := by decide +kernel
theorem dJ6_bitCount_0f7a4_32 : decode cJ6_bitCount_0f7a4 32 = .ok (.iand, 1) := by decide +kernel
theorem dJ6_bitCount_0f7a4_33 : decode cJ6_bitCount_0f7a4 33 = .ok (.istore_n 0, 1) := by decide +kernel
theorem dJ6_bitCount_0f7a4_34 : decode cJ6_bitCount_0f7a4 34 = .ok (.iload_n 0, 1) := by decide +kernel
theorem dJ6_bitCount_0f7a4_35 : decode cJ6_bitCount_0f7a4 35 = .ok (.iload_n 0, 1) := by decide +kernel
theorem dJ6_bitCount_0f7a4_36 : decode cJ6_bitCount_0f7a4 36 = .ok (.bipush 8, 2) := by decide +kernel
theorem dJ6_bitCount_0f7a4_38 : decode cJ6_bitCount_0f7a4 38 = .ok (.iushr, 1) := by decide +kernel
theorem dJ6_bitCount_0f7a4_39 : decode cJ6_bitCount_0f7a4 39 = .ok (.iadd, 1) := by decide +kernel
theorem dJ6_bitCount_0f7a4_40 : decode cJ6_bitCount_0f7a4 40 = .ok (.istore_n 0, 1) := by decide +kernel
theorem dJ6_bitCount_0f7a4_41 : decode cJ6_bitCount_0f7a4 41 = .ok (.iload_n 0, 1) := by decide +kernel
theorem dJ6_bitCount_0f7a4_42 : decode cJ6_bitCount_0f7a4 42 = .ok (.iload_n 0, 1) := by decide +kernel
theorem dJ6_bitCount_0f7a4_43 : decode cJ6_bitCount_0f7a4 43 = .ok (.bipush 16, 2) := by decide +kernel
theorem dJ6_bitCount_0f7a4_45 : decode cJ6_bitCount_0f7a4 45 = .ok (.iushr, 1) := by decide +kernel
theorem dJ6_bitCount_0f7a4_46 : decode cJ6_bitCount_0f7a4 46 = .ok (.iadd, 1) := by decide +kernel
theorem dJ6_bitCount_0f7a4_47 : decode cJ6_bitCount_0f7a4 47 = .ok (.istore_n 0, 1) := by decide +kernel
theorem dJ6_bitCount_0f7a4_48 : decode cJ6_bitCount_0f7a4 48 = .ok (.iload_n 0, 1) := by decide +kernel
theorem dJ6_bitCount_0f7a4_49 : decode cJ6_bitCount_0f7a4 49 = .ok (.bipush 63, 2) := by decide +kernel
theorem dJ6_bitCount_0f7a4_51 : decode cJ6_bitCount_0f7a4 51 = .ok (.iand, 1) := by decide +kernel
theorem dJ6_bitCount_0f7a4_52 : decode cJ6_bitCount_0f7a4 52 = .ok (.ireturn, 1) := by decide +kernel
set_option maxRecDepth 20000 in
theorem ggL_thing_X5_thing : GoodIn wsL_thing wsX5_thing := goodIn_ca (goodIn_ca (goodIn_r _ [7, 8, 9, 10, 11, 12, 13, 14, 15, 16, 17, 18, 19, 20, 21, 22, 23, 24, 25, 26, 27, 28, 29, 30, 31, 32, 33, 34, 35, 36, 37, 38] (by decide +kernel) (by decide +kernel)) (goodIn_sub (fun _ h => List.mem_cons_of_mem _ (List.mem_append_left _ (List.mem_append_right _ h))) (by decide +kernel))) (goodIn_sub (fun _ h => List.mem_cons_of_mem _ (List.mem_append_right _ h)) (by decide +kernel))
set_option maxRecDepth 20000 in
theorem gL_thing_X5_thing : GoodIn wsL_thing (wsV RL 7 RX5 yX5_thing wsX5_thing) := goodIn_app (goodIn_of _ (by decide +kernel)) ggL_thing_X5_thing
theorem dL_thing_0 : decode cL_thing 0 = .ok (.aload 4, 2) := by decide +kernel
theorem dL_thing_2 : decode cL_thing 2 = .ok (.iconst 0, 1) := by decide +kernel
theorem dL_thing_3 : decode cL_thing 3 = .ok (.aload_n 0, 1) := by decide +kernel
theorem dL_thing_4 : decode cL_thing 4 = .ok (.iload_n 1, 1) := by decide +kernel
theorem dL_thing_5 : decode cL_thing 5 = .ok (.iload_n 2, 1) := by decide +kernel
theorem dL_thing_6 : decode cL_thing 6 = .ok (.iload_n 3, 1) := by decide +kernel
theorem dL_thing_7 : decode cL_thing 7 = .ok (.invokevirtual 7, 3) := by decide +kernel
theorem dL_thing_10 : decode cL_thing 10 = .ok (.i2l, 1) := by decide +kernel
theorem dL_thing_11 : decode cL_thing 11 = .ok (.lastore, 1) := by decide +kernel
theorem dL_thing_12 : decode cL_thing 12 = .ok (.goto 11, 3) := by decide +kernel
theorem dL_thing_15 : decode cL_thing 15 = .ok (.astore 5, 2) := by decide +kernel
theorem dL_thing_17 : decode cL_thing 17 = .ok (.iconst 1, 1) := by decide +kernel
theorem dL_thing_18 : decode cL_thing 18 = .ok (.ireturn, 1) := by decide +kernel
theorem dL_thing_19 : decode cL_thing 19 = .ok (.astore 5, 2) := by decide +kernel
theorem dL_thing_21 : decode cL_thing 21 = .ok (.iconst 2, 1) := by decide +kernel
theorem dL_thing_22 : decode cL_thing 22 = .ok (.ireturn, 1) := by decide +kernel
theorem dL_thing_23 : decode cL_thing 23 = .ok (.iconst 0, 1) := by decide +kernel
theorem dL_thing_24 : decode cL_thing 24 = .ok (.ireturn, 1) := by decide +kernel
set_option maxRecDepth 20000 in
theorem ggL_placeOf_X5_placeOf : GoodIn wsL_placeOf wsX5_placeOf := goodIn_ca (goodIn_r _ [6, 7, 8, 9, 10, 11, 12, 13, 14, 15, 16, 17, 18, 19, 20, 21, 22, 23, 24, 25, 26, 27, 28, 29, 30, 31, 32, 33, 34, 35, 36] (by decide +kernel) (by decide +kernel)) (goodIn_sub (fun _ h => List.mem_cons_of_mem _ (List.mem_append_right _ h)) (by decide +kernel))
set_option maxRecDepth 20000 in
theorem gL_placeOf_X5_placeOf : GoodIn wsL_placeOf (wsV RL 17 RX5 yX5_placeOf wsX5_placeOf) := goodIn_app (goodIn_of _ (by decide +kernel)) ggL_placeOf_X5_placeOf
theorem dL_placeOf_0 : decode cL_placeOf 0 = .ok (.aload_n 2, 1) := by decide +kernel
theorem dL_placeOf_1 : decode cL_placeOf 1 = .ok (.iconst 0, 1) := by decide +kernel
theorem dL_placeOf_2 : decode cL_placeOf 2 = .ok (.aload_n 0, 1) := by decide +kernel
theorem dL_placeOf_3 : decode cL_placeOf 3 = .ok (.iload_n 1, 1) := by decide +kernel
theorem dL_placeOf_4 : decode cL_placeOf 4 = .ok (.invokevirtual 17, 3) := by decide +kernel
theorem dL_placeOf_7 : decode cL_placeOf 7 = .ok (.i2l, 1) := by decide +kernel
theorem dL_placeOf_8 : decode cL_placeOf 8 = .ok (.lastore, 1) := by decide +kernel
theorem dL_placeOf_9 : decode cL_placeOf 9 = .ok (.goto 6, 3) := by decide +kernel
theorem dL_placeOf_12 : decode cL_placeOf 12 = .ok (.astore_n 3, 1) := by decide +kernel
theorem dL_placeOf_13 : decode cL_placeOf 13 = .ok (.iconst 1, 1) := by decide +kernel
theorem dL_placeOf_14 : decode cL_placeOf 14 = .ok (.ireturn, 1) := by decide +kernel
theorem dL_placeOf_15 : decode cL_placeOf 15 = .ok (.iconst 0, 1) := by decide +kernel
theorem dL_placeOf_16 : decode cL_placeOf 16 = .ok (.ireturn, 1) := by decide +kernel
set_option maxRecDepth 20000 in
theorem ggL_isOpen_X5_isOpen : GoodIn wsL_isOpen wsX5_isOpen := goodIn_ca (goodIn_r _ [6, 7, 8, 9, 10, 11, 12, 13, 14, 15, 16, 17, 5, 18, 19, 20, 21, 22, 23, 24, 25, 26, 27, 28, 29, 30, 31, 32, 33, 34] (by decide +kernel) (by decide +kernel)) (goodIn_sub (fun _ h => List.mem_cons_of_mem _ (List.mem_append_right _ h)) (by decide +kernel))
set_option maxRecDepth 20000 in
theorem gL_isOpen_X5_isOpen : GoodIn wsL_isOpen (wsV RL 23 RX5 yX5_isOpen wsX5_isOpen) := goodIn_app (goodIn_of _ (by decide +kernel)) ggL_isOpen_X5_isOpen
theorem dL_isOpen_0 : decode cL_isOpen 0 = .ok (.aload_n 2, 1) := by decide +kernel
theorem dL_isOpen_1 : decode cL_isOpen 1 = .ok (.iconst 0, 1) := by decide +kernel
theorem dL_isOpen_2 : decode cL_isOpen 2 = .ok (.aload_n 0, 1) := by decide +kernel
theorem dL_isOpen_3 : decode cL_isOpen 3 = .ok (.iload_n 1, 1) := by decide +kernel
theorem dL_isOpen_4 : decode cL_isOpen 4 = .ok (.invokevirtual 23, 3) := by decide +kernel
theorem dL_isOpen_7 : decode cL_isOpen 7 = .ok (.ifCond .eq 7, 3) := by decide +kernel
theorem dL_isOpen_10 : decode cL_isOpen 10 = .ok (.lconst 1, 1) := by decide +kernel
theorem dL_isOpen_11 : decode cL_isOpen 11 = .ok (.goto 4, 3) := by decide +kernel
theorem dL_isOpen_14 : decode cL_isOpen 14 = .ok (.lconst 0, 1) := by decide +kernel
theorem dL_isOpen_15 : decode cL_isOpen 15 = .ok (.lastore, 1) := by decide +kernel
theorem dL_isOpen_16 : decode cL_isOpen 16 = .ok (.goto 6, 3) := by decide +kernel
theorem dL_isOpen_19 : decode cL_isOpen 19 = .ok (.astore_n 3, 1) := by decide +kernel
theorem dL_isOpen_20 : decode cL_isOpen 20 = .ok (.iconst 1, 1) := by decide +kernel
theorem dL_isOpen_21 : decode cL_isOpen 21 = .ok (.ireturn, 1) := by decide +kernel
theorem dL_isOpen_22 : decode cL_isOpen 22 = .ok (.iconst 0, 1) := by decide +kernel
theorem dL_isOpen_23 : decode cL_isOpen 23 = .ok (.ireturn, 1) := by decide +kernel
set_option maxRecDepth 20000 in
theorem ggL_word_X5_word : GoodIn wsL_word wsX5_word := goodIn_ca (goodIn_ca (goodIn_r _ [7, 8, 9, 10, 11, 12, 13, 14, 6, 15, 16, 17, 18, 19, 20, 21, 22, 23, 24, 25, 26, 27, 28, 29, 30, 31, 32, 33, 34, 35, 36, 37, 38, 39, 40, 41, 42, 43] (by decide +kernel) (by decide +kernel)) (goodIn_sub (fun _ h => List.mem_cons_of_mem _ (List.mem_append_left _ (List.mem_append_right _ h))) (by decide +kernel))) (goodIn_sub (fun _ h => List.mem_cons_of_mem _ (List.mem_append_right _ h)) (by decide +kernel))
set_option maxRecDepth 20000 in
theorem gL_word_X5_word : GoodIn wsL_word (wsV RL 27 RX5 yX5_word wsX5_word) := goodIn_app (goodIn_of _ (by decide +kernel)) ggL_word_X5_word
theorem dL_word_0 : decode cL_word 0 = .ok (.aload_n 2, 1) := by decide +kernel
theorem dL_word_1 : decode cL_word 1 = .ok (.iconst 0, 1) := by decide +kernel
theorem dL_word_2 : decode cL_word 2 = .ok (.aload_n 0, 1) := by decide +kernel
theorem dL_word_3 : decode cL_word 3 = .ok (.iload_n 1, 1) := by decide +kernel
theorem dL_word_4 : decode cL_word 4 = .ok (.invokevirtual 27, 3) := by decide +kernel
theorem dL_word_7 : decode cL_word 7 = .ok (.i2l, 1) := by decide +kernel
theorem dL_word_8 : decode cL_word 8 = .ok (.lastore, 1) := by decide +kernel
theorem dL_word_9 : decode cL_word 9 = .ok (.goto 9, 3) := by decide +kernel
theorem dL_word_12 : decode cL_word 12 = .ok (.astore_n 3, 1) := by decide +kernel
theorem dL_word_13 : decode cL_word 13 = .ok (.iconst 1, 1) := by decide +kernel
theorem dL_word_14 : decode cL_word 14 = .ok (.ireturn, 1) := by decide +kernel
theorem dL_word_15 : decode cL_word 15 = .ok (.astore_n 3, 1) := by decide +kernel
theorem dL_word_16 : decode cL_word 16 = .ok (.iconst 2, 1) := by decide +kernel
theorem dL_word_17 : decode cL_word 17 = .ok (.ireturn, 1) := by decide +kernel
theorem dL_word_18 : decode cL_word 18 = .ok (.iconst 0, 1) := by decide +kernel
theorem dL_word_19 : decode cL_word 19 = .ok (.ireturn, 1) := by decide +kernel
set_option maxRecDepth 20000 in
theorem ggL_back_X5_back : GoodIn wsL_back wsX5_back := goodIn_ca (goodIn_r _ [6, 7, 8, 9, 10, 11, 12, 13, 14, 15, 16, 17, 18, 19, 20, 21, 22, 23, 24, 25, 26, 27, 28, 29, 30, 31] (by decide +kernel) (by decide +kernel)) (goodIn_sub (fun _ h => List.mem_cons_of_mem _ (List.mem_append_right _ h)) (by decide +kernel))
set_option maxRecDepth 20000 in
theorem gL_back_X5_back : GoodIn wsL_back (wsV RL 30 RX5 yX5_back wsX5_back) := goodIn_app (goodIn_of _ (by decide +kernel)) ggL_back_X5_back
theorem dL_back_0 : decode cL_back 0 = .ok (.aload_n 1, 1) := by decide +kernel
theorem dL_back_1 : decode cL_back 1 = .ok (.iconst 0, 1) := by decide +kernel
theorem dL_back_2 : decode cL_back 2 = .ok (.aload_n 0, 1) := by decide +kernel
theorem dL_back_3 : decode cL_back 3 = .ok (.invokevirtual 30, 3) := by decide +kernel
theorem dL_back_6 : decode cL_back 6 = .ok (.i2l, 1) := by decide +kernel
theorem dL_back_7 : decode cL_back 7 = .ok (.lastore, 1) := by decide +kernel
theorem dL_back_8 : decode cL_back 8 = .ok (.goto 6, 3) := by decide +kernel
theorem dL_back_11 : decode cL_back 11 = .ok (.astore_n 2, 1) := by decide +kernel
theorem dL_back_12 : decode cL_back 12 = .ok (.iconst 1, 1) := by decide +kernel
theorem dL_back_13 : decode cL_back 13 = .ok (.ireturn, 1) := by decide +kernel
theorem dL_back_14 : decode cL_back 14 = .ok (.iconst 0, 1) := by decide +kernel
theorem dL_back_15 : decode cL_back 15 = .ok (.ireturn, 1) := by decide +kernel
set_option maxRecDepth 20000 in
theorem ggL_law_X5_init : GoodIn wsL_law wsX5_init := goodIn_r _ [9, 10, 11, 12, 13, 14, 15, 16, 17, 18, 19, 20, 21, 22, 23, 24, 25, 26, 27, 28, 29, 30, 31, 32, 33, 34, 35, 36, 37, 38, 39, 40, 41, 42, 43, 44, 45, 46, 47, 48, 49, 50, 51, 52, 53, 54, 55, 56, 57, 58, 59, 60, 61, 62, 63, 64, 65, 66, 67, 68, 69, 70, 71, 72, 73, 74, 75, 76, 77, 78, 79, 80, 81, 82, 83, 84, 85, 86, 87, 88, 89, 90, 91, 92, 93, 94, 95, 626, 627, 628, 629, 630, 631, 591, 592, 593, 594, 595, 596, 597, 598, 599, 600, 632, 633, 634, 635, 636, 637, 638, 639, 640, 641, 642, 643, 644, 645, 646, 647, 648, 649, 650, 651, 652, 653, 654, 655, 656, 657, 658] (by decide +kernel) (by decide +kernel)
set_option maxRecDepth 20000 in
theorem gL_law_X5_init : GoodIn wsL_law (wsX5_init) := ggL_law_X5_init
set_option maxRecDepth 20000 in
theorem ggL_law_X6_init : GoodIn wsL_law wsX6_init := goodIn_r _ [98, 99, 11, 12, 42, 100, 101, 102, 103, 104, 105, 106, 107, 108, 109, 110, 111, 112, 113, 114, 601, 602, 603, 604, 605, 606, 607, 608, 609, 610, 611, 612, 613, 614, 615, 616, 617, 618, 619, 620, 621, 622, 623, 624, 625] (by decide +kernel) (by decide +kernel)
set_option maxRecDepth 20000 in
theorem gL_law_X6_init : GoodIn wsL_law (wsX6_init) := ggL_law_X6_init
set_option maxRecDepth 20000 in
theorem ggL_law_L_thing : GoodIn wsL_law wsL_thing := goodIn_ca (goodIn_ca (goodIn_r _ [118, 119, 120, 121, 122, 123, 2, 124, 125, 126, 127, 128, 16, 129, 130, 131, 15, 132, 46, 43, 44, 45, 47, 591, 592, 593, 594, 595, 596, 597, 598, 599, 600, 626, 627, 628, 629, 630, 631] (by decide +kernel) (by decide +kernel)) (goodIn_sub (fun _ h => List.mem_append_left _ (List.mem_append_left _ (List.mem_append_right _ h))) (by decide +kernel))) (goodIn_sub (fun _ h => List.mem_append_left _ (List.mem_append_right _ h)) (by decide +kernel))
set_option maxRecDepth 20000 in
theorem gL_law_L_thing : GoodIn wsL_law (va_wsS RL 38 yL_thing wsL_thing) := goodIn_app (goodIn_of _ (by decide +kernel)) ggL_law_L_thing
set_option maxRecDepth 20000 in
theorem ggL_law_X6_thing : GoodIn wsL_law wsX6_thing := goodIn_r _ [136, 137, 100, 101, 103, 105, 138, 139, 140, 5, 141, 142, 601, 602, 603, 604, 605, 606, 607, 608, 609, 610, 611, 612, 613, 614, 615, 616, 617, 618, 619, 620, 621, 622, 623, 624, 625] (by decide +kernel) (by decide +kernel)
set_option maxRecDepth 20000 in
theorem gL_law_X6_thing : GoodIn wsL_law (wsV RL 43 RX6 yX6_thing wsX6_thing) := goodIn_app (goodIn_of _ (by decide +kernel)) ggL_law_X6_thing
set_option maxRecDepth 20000 in
theorem ggL_law_X6_thrown : GoodIn wsL_law wsX6_thrown := goodIn_r _ [146, 142, 601, 602, 603, 604, 605, 606, 607, 608, 609, 610, 611, 612, 613, 614, 615, 616, 617, 618, 619, 620, 621, 622, 623, 624, 625] (by decide +kernel) (by decide +kernel)
set_option maxRecDepth 20000 in
theorem gL_law_X6_thrown : GoodIn wsL_law (wsV RL 44 RX6 yX6_thrown wsX6_thrown) := goodIn_app (goodIn_of _ (by decide +kernel)) ggL_law_X6_thrown
set_option maxRecDepth 20000 in
theorem ggL_law_L_placeOf : GoodIn wsL_law wsL_placeOf := goodIn_ca (goodIn_r _ [149, 150, 151, 152, 153, 2, 154, 155, 156, 16, 157, 158, 159, 15, 160, 46, 161, 162, 163, 164, 45, 591, 592, 593, 594, 595, 596, 597, 598, 599, 600, 626, 627, 628, 629, 630, 631] (by decide +kernel) (by decide +kernel)) (goodIn_sub (fun _ h => List.mem_append_right _ h) (by decide +kernel))
set_option maxRecDepth 20000 in
theorem gL_law_L_placeOf : GoodIn wsL_law (va_wsS RL 47 yL_placeOf wsL_placeOf) := goodIn_app (goodIn_of _ (by decide +kernel)) ggL_law_L_placeOf
set_option maxRecDepth 20000 in
theorem ggL_law_X6_placeOf : GoodIn wsL_law wsX6_placeOf := goodIn_r _ [168, 105, 169, 170, 171, 5, 172, 137, 173, 174, 175, 176, 142, 601, 602, 603, 604, 605, 606, 607, 608, 609, 610, 611, 612, 613, 614, 615, 616, 617, 618, 619, 620, 621, 622, 623, 624, 625] (by decide +kernel) (by decide +kernel)
set_option maxRecDepth 20000 in
theorem gL_law_X6_placeOf : GoodIn wsL_law (wsV RL 50 RX6 yX6_placeOf wsX6_placeOf) := goodIn_app (goodIn_of _ (by decide +kernel)) ggL_law_X6_placeOf
set_option maxRecDepth 20000 in
theorem ggL_law_L_isOpen : GoodIn wsL_law wsL_isOpen := goodIn_ca (goodIn_r _ [179, 150, 180, 181, 182, 2, 183, 155, 156, 16, 157, 158, 159, 15, 160, 46, 184, 185, 186, 591, 592, 593, 594, 595, 596, 597, 598, 599, 600, 626, 627, 628, 629, 630, 631] (by decide +kernel) (by decide +kernel)) (goodIn_sub (fun _ h => List.mem_append_right _ h) (by decide +kernel))
set_option maxRecDepth 20000 in
theorem gL_law_L_isOpen : GoodIn wsL_law (va_wsS RL 51 yL_isOpen wsL_isOpen) := goodIn_app (goodIn_of _ (by decide +kernel)) ggL_law_L_isOpen
set_option maxRecDepth 20000 in
theorem ggL_law_X6_isOpen : GoodIn wsL_law wsX6_isOpen := goodIn_r _ [190, 104, 169, 170, 171, 5, 172, 137, 173, 174, 175, 176, 142, 601, 602, 603, 604, 605, 606, 607, 608, 609, 610, 611, 612, 613, 614, 615, 616, 617, 618, 619, 620, 621, 622, 623, 624, 625] (by decide +kernel) (by decide +kernel)
set_option maxRecDepth 20000 in
theorem gL_law_X6_isOpen : GoodIn wsL_law (wsV RL 53 RX6 yX6_isOpen wsX6_isOpen) := goodIn_app (goodIn_of _ (by decide +kernel)) ggL_law_X6_isOpen
set_option maxRecDepth 20000 in
theorem ggL_law_X5_inReach : GoodIn wsL_law wsX5_inReach := goodIn_r _ [194, 16, 195, 196, 197, 15, 198, 46, 48, 199, 162, 163, 164, 45, 185, 2, 186, 591, 592, 593, 594, 595, 596, 597, 598, 599, 600, 626, 627, 628, 629, 630, 631] (by decide +kernel) (by decide +kernel)
set_option maxRecDepth 20000 in
theorem gL_law_X5_inReach : GoodIn wsL_law (wsV RL 54 RX5 yX5_inReach wsX5_inReach) := goodIn_app (goodIn_of _ (by decide +kernel)) ggL_law_X5_inReach
set_option maxRecDepth 20000 in
theorem ggL_law_X6_inReach : GoodIn wsL_law wsX6_inReach := goodIn_r _ [203, 142, 204, 205, 206, 5, 207, 137, 208, 209, 210, 211, 105, 104, 601, 602, 603, 604, 605, 606, 607, 608, 609, 610, 611, 612, 613, 614, 615, 616, 617, 618, 619, 620, 621, 622, 623, 624, 625] (by decide +kernel) (by decide +kernel)
set_option maxRecDepth 20000 in
theorem gL_law_X6_inReach : GoodIn wsL_law (wsV RL 57 RX6 yX6_inReach wsX6_inReach) := goodIn_app (goodIn_of _ (by decide +kernel)) ggL_law_X6_inReach
set_option maxRecDepth 20000 in
theorem ggL_law_L_word : GoodIn wsL_law wsL_word := goodIn_ca (goodIn_ca (goodIn_r _ [214, 119, 120, 215, 216, 217, 2, 218, 125, 126, 127, 128, 20, 219, 220, 221, 222, 223, 224, 225, 226, 227, 228, 229, 230, 19, 231, 54, 53, 591, 592, 593, 594, 595, 596, 597, 598, 599, 600, 632, 633, 634, 635, 636] (by decide +kernel) (by decide +kernel)) (goodIn_sub (fun _ h => List.mem_append_left _ (List.mem_append_left _ (List.mem_append_right _ h))) (by decide +kernel))) (goodIn_sub (fun _ h => List.mem_append_left _ (List.mem_append_right _ h)) (by decide +kernel))
set_option maxRecDepth 20000 in
theorem gL_law_L_word : GoodIn wsL_law (va_wsS RL 58 yL_word wsL_word) := goodIn_app (goodIn_of _ (by decide +kernel)) ggL_law_L_word
set_option maxRecDepth 20000 in
theorem ggL_law_X6_word : GoodIn wsL_law wsX6_word := goodIn_r _ [235, 236, 106, 237, 238, 5, 239, 240, 241, 242, 243, 244, 245, 246, 247, 248, 138, 139, 140, 141, 142, 601, 602, 603, 604, 605, 606, 607, 608, 609, 610, 611, 612, 613, 614, 615, 616, 617, 618, 619, 620, 621, 622, 623, 624, 625] (by decide +kernel) (by decide +kernel)
set_option maxRecDepth 20000 in
theorem gL_law_X6_word : GoodIn wsL_law (wsV RL 60 RX6 yX6_word wsX6_word) := goodIn_app (goodIn_of _ (by decide +kernel)) ggL_law_X6_word
set_option maxRecDepth 20000 in
theorem ggL_law_L_back : GoodIn wsL_law wsL_back := goodIn_ca (goodIn_r _ [251, 120, 252, 253, 254, 2, 255, 127, 128, 20, 256, 257, 258, 19, 259, 54, 53, 591, 592, 593, 594, 595, 596, 597, 598, 599, 600, 632, 633, 634, 635, 636] (by decide +kernel) (by decide +kernel)) (goodIn_sub (fun _ h => List.mem_append_left _ (List.mem_append_right _ h)) (by decide +kernel))
set_option maxRecDepth 20000 in
theorem gL_law_L_back : GoodIn wsL_law (va_wsS RL 61 yL_back wsL_back) := goodIn_app (goodIn_of _ (by decide +kernel)) ggL_law_L_back
set_option maxRecDepth 20000 in
theorem ggL_law_X6_back : GoodIn wsL_law wsX6_back := goodIn_r _ [263, 236, 106, 173, 174, 175, 5, 176, 142, 601, 602, 603, 604, 605, 606, 607, 608, 609, 610, 611, 612, 613, 614, 615, 616, 617, 618, 619, 620, 621, 622, 623, 624, 625] (by decide +kernel) (by decide +kernel)
set_option maxRecDepth 20000 in
theorem gL_law_X6_back : GoodIn wsL_law (wsV RL 64 RX6 yX6_back wsX6_back) := goodIn_app (goodIn_of _ (by decide +kernel)) ggL_law_X6_back
set_option maxRecDepth 20000 in
theorem ggL_law_X5_say : GoodIn wsL_law wsX5_say := goodIn_r _ [267, 34, 20, 33, 35, 37, 268, 269, 270, 19, 271, 55, 54, 53, 222, 223, 2, 224, 272, 273, 274, 275, 24, 276, 277, 278, 279, 36, 280, 281, 282, 23, 283, 63, 62, 284, 285, 286, 287, 288, 289, 290, 291, 292, 293, 294, 295, 296, 297, 64, 65, 66, 67, 68, 69, 298, 299, 300, 301, 302, 303, 304, 305, 306, 307, 308, 309, 310, 311, 312, 313, 314, 315, 316, 317, 56, 57, 226, 227, 318, 319, 320, 321, 322, 323, 324, 325, 326, 327, 328, 329, 330, 331, 332, 333, 32, 334, 335, 336, 31, 337, 83, 84, 91, 92, 93, 338, 196, 197, 15, 198, 46, 48, 199, 162, 163, 164, 45, 185, 186, 86, 87, 88, 89, 90, 94, 95, 339, 340, 341, 342, 47, 343, 344, 345, 346, 347, 348, 349, 350, 351, 352, 85, 353, 354, 355, 356, 357, 358, 359, 360, 361, 362, 363, 364, 365, 366, 367, 368, 369, 43, 44, 370, 371, 372, 373, 374, 375, 376, 377, 378, 379, 380, 381, 382, 383, 384, 385, 386, 387, 388, 389, 390, 391, 392, 16, 28, 184, 393, 394, 395, 396, 397, 158, 159, 160, 398, 399, 400, 401, 402, 403, 404, 405, 27, 406, 74, 75, 76, 77, 78, 407, 408, 409, 410, 411, 412, 413, 414, 415, 416, 417, 418, 419, 420, 421, 422, 423, 424, 425, 426, 427, 428, 429, 591, 592, 593, 594, 595, 596, 597, 598, 599, 600, 632, 633, 634, 635, 636, 637, 638, 639, 640, 641, 642, 643, 644, 650, 651, 652, 653, 654, 655, 656, 657, 658, 626, 627, 628, 629, 630, 631, 645, 646, 647, 648, 649] (by decide +kernel) (by decide +kernel)
set_option maxRecDepth 20000 in
theorem gL_law_X5_say : GoodIn wsL_law (wsV RL 65 RX5 yX5_say wsX5_say) := goodIn_app (goodIn_of _ (by decide +kernel)) ggL_law_X5_say
set_option maxRecDepth 20000 in
theorem ggL_law_X6_say_r1 : GoodIn wsL_law (Cond.code yX6_say cX6_say 1 (some .int) :: wsX6_say_r1) := goodIn_r _ [433, 142, 108, 107, 434, 236, 435, 436, 437, 5, 438, 106, 439, 114, 440, 112, 113, 237, 238, 239, 441, 442, 443, 444, 240] (by decide +kernel) (by decide +kernel)
set_option maxRecDepth 20000 in
theorem ggL_law_X6_say_r2 : GoodIn wsL_law wsX6_say_r2 := goodIn_r _ [241, 242, 246, 247, 248, 445, 446, 447, 243, 244, 245, 448, 449, 450, 451, 452, 109, 453, 110, 111, 454, 137, 455, 456] (by decide +kernel) (by decide +kernel)
set_option maxRecDepth 20000 in
theorem ggL_law_X6_say_r3 : GoodIn wsL_law wsX6_say_r3 := goodIn_r _ [457, 458, 459, 460, 461, 462, 204, 205, 206, 207, 208, 209, 210, 211, 105, 104, 463, 464, 465, 466, 467, 468, 469, 470] (by decide +kernel) (by decide +kernel)
set_option maxRecDepth 20000 in
theorem ggL_law_X6_say_r4 : GoodIn wsL_law wsX6_say_r4 := goodIn_r _ [471, 472, 473, 474, 475, 476, 477, 478, 479, 480, 481, 482, 483, 484, 101, 100, 485, 486, 487, 488, 489, 490, 491, 492] (by decide +kernel) (by decide +kernel)
set_option maxRecDepth 20000 in
theorem ggL_law_X6_say_r5 : GoodIn wsL_law wsX6_say_r5 := goodIn_r _ [493, 494, 495, 496, 497, 498, 103, 499, 500, 501, 502, 503, 504, 505, 506, 507, 508, 509, 510, 511, 512, 513, 514, 515] (by decide +kernel) (by decide +kernel)
set_option maxRecDepth 20000 in
theorem ggL_law_X6_say_r6 : GoodIn wsL_law wsX6_say_r6 := goodIn_r _ [516, 517, 518] (by decide +kernel) (by decide +kernel)
set_option maxRecDepth 20000 in
theorem ggL_law_X6_say_wsX60 : GoodIn wsL_law wsX60 := goodIn_r _ [601, 602, 603, 604, 605, 606, 607, 608, 609, 610, 611, 612, 613, 614, 615, 616, 617, 618, 619, 620, 621, 622, 623, 624, 625] (by decide +kernel) (by decide +kernel)
set_option maxRecDepth 20000 in
theorem ggL_law_X6_say : GoodIn wsL_law wsX6_say := goodIn_ca (goodIn_ca ggL_law_X6_say_r1 (goodIn_app ggL_law_X6_say_r2 (goodIn_app ggL_law_X6_say_r3 (goodIn_app ggL_law_X6_say_r4 (goodIn_app ggL_law_X6_say_r5 (ggL_law_X6_say_r6)))))) ggL_law_X6_say_wsX60
end
section
set_option maxRecDepth 20000 in
theorem gL_law_X6_say : GoodIn wsL_law (wsV RL 68 RX6 yX6_say wsX6_say) := goodIn_app (goodIn_of _ (by decide +kernel)) ggL_law_X6_say
set_option maxRecDepth 20000 in
theorem ggL_law_X5_outcome : GoodIn wsL_law wsX5_outcome := goodIn_r _ [522, 33, 591, 592, 593, 594, 595, 596, 597, 598, 599, 600] (by decide +kernel) (by decide +kernel)
set_option maxRecDepth 20000 in
theorem gL_law_X5_outcome : GoodIn wsL_law (wsV RL 69 RX5 yX5_outcome wsX5_outcome) := goodIn_app (goodIn_of _ (by decide +kernel)) ggL_law_X5_outcome
set_option maxRecDepth 20000 in
theorem ggL_law_X6_outcome : GoodIn wsL_law wsX6_outcome := goodIn_r _ [526, 142, 107, 601, 602, 603, 604, 605, 606, 607, 608, 609, 610, 611, 612, 613, 614, 615, 616, 617, 618, 619, 620, 621, 622, 623, 624, 625] (by decide +kernel) (by decide +kernel)
set_option maxRecDepth 20000 in
theorem gL_law_X6_outcome : GoodIn wsL_law (wsV RL 72 RX6 yX6_outcome wsX6_outcome) := goodIn_app (goodIn_of _ (by decide +kernel)) ggL_law_X6_outcome
set_option maxRecDepth 20000 in
theorem ggL_law_X5_wrongAt : GoodIn wsL_law wsX5_wrongAt := goodIn_r _ [530, 34, 591, 592, 593, 594, 595, 596, 597, 598, 599, 600] (by decide +kernel) (by decide +kernel)
set_option maxRecDepth 20000 in
theorem gL_law_X5_wrongAt : GoodIn wsL_law (wsV RL 73 RX5 yX5_wrongAt wsX5_wrongAt) := goodIn_app (goodIn_of _ (by decide +kernel)) ggL_law_X5_wrongAt
set_option maxRecDepth 20000 in
theorem ggL_law_X6_wrongAt : GoodIn wsL_law wsX6_wrongAt := goodIn_r _ [534, 142, 108, 601, 602, 603, 604, 605, 606, 607, 608, 609, 610, 611, 612, 613, 614, 615, 616, 617, 618, 619, 620, 621, 622, 623, 624, 625] (by decide +kernel) (by decide +kernel)
set_option maxRecDepth 20000 in
theorem gL_law_X6_wrongAt : GoodIn wsL_law (wsV RL 76 RX6 yX6_wrongAt wsX6_wrongAt) := goodIn_app (goodIn_of _ (by decide +kernel)) ggL_law_X6_wrongAt
set_option maxRecDepth 20000 in
theorem ggL_law_X5_verb : GoodIn wsL_law wsX5_verb := goodIn_r _ [538, 28, 591, 592, 593, 594, 595, 596, 597, 598, 599, 600, 645, 646, 647, 648, 649] (by decide +kernel) (by decide +kernel)
set_option maxRecDepth 20000 in
theorem gL_law_X5_verb : GoodIn wsL_law (wsV RL 77 RX5 yX5_verb wsX5_verb) := goodIn_app (goodIn_of _ (by decide +kernel)) ggL_law_X5_verb
set_option maxRecDepth 20000 in
theorem ggL_law_X6_verb : GoodIn wsL_law wsX6_verb := goodIn_r _ [542, 142, 109, 601, 602, 603, 604, 605, 606, 607, 608, 609, 610, 611, 612, 613, 614, 615, 616, 617, 618, 619, 620, 621, 622, 623, 624, 625] (by decide +kernel) (by decide +kernel)
set_option maxRecDepth 20000 in
theorem gL_law_X6_verb : GoodIn wsL_law (wsV RL 80 RX6 yX6_verb wsX6_verb) := goodIn_app (goodIn_of _ (by decide +kernel)) ggL_law_X6_verb
set_option maxRecDepth 20000 in
theorem ggL_law_X5_meant : GoodIn wsL_law wsX5_meant := goodIn_r _ [546, 28, 591, 592, 593, 594, 595, 596, 597, 598, 599, 600, 645, 646, 647, 648, 649] (by decide +kernel) (by decide +kernel)
set_option maxRecDepth 20000 in
theorem gL_law_X5_meant : GoodIn wsL_law (wsV RL 81 RX5 yX5_meant wsX5_meant) := goodIn_app (goodIn_of _ (by decide +kernel)) ggL_law_X5_meant
set_option maxRecDepth 20000 in
theorem ggL_law_X6_meant : GoodIn wsL_law wsX6_meant := goodIn_r _ [550, 142, 453, 601, 602, 603, 604, 605, 606, 607, 608, 609, 610, 611, 612, 613, 614, 615, 616, 617, 618, 619, 620, 621, 622, 623, 624, 625] (by decide +kernel) (by decide +kernel)
set_option maxRecDepth 20000 in
theorem gL_law_X6_meant : GoodIn wsL_law (wsV RL 84 RX6 yX6_meant wsX6_meant) := goodIn_app (goodIn_of _ (by decide +kernel)) ggL_law_X6_meant
set_option maxRecDepth 20000 in
theorem ggL_law_X5_done : GoodIn wsL_law wsX5_done := goodIn_r _ [554, 28, 591, 592, 593, 594, 595, 596, 597, 598, 599, 600, 645, 646, 647, 648, 649] (by decide +kernel) (by decide +kernel)
set_option maxRecDepth 20000 in
theorem gL_law_X5_done : GoodIn wsL_law (wsV RL 85 RX5 yX5_done wsX5_done) := goodIn_app (goodIn_of _ (by decide +kernel)) ggL_law_X5_done
set_option maxRecDepth 20000 in
theorem ggL_law_X6_done : GoodIn wsL_law wsX6_done := goodIn_r _ [558, 142, 454, 601, 602, 603, 604, 605, 606, 607, 608, 609, 610, 611, 612, 613, 614, 615, 616, 617, 618, 619, 620, 621, 622, 623, 624, 625] (by decide +kernel) (by decide +kernel)
set_option maxRecDepth 20000 in
theorem gL_law_X6_done : GoodIn wsL_law (wsV RL 88 RX6 yX6_done wsX6_done) := goodIn_app (goodIn_of _ (by decide +kernel)) ggL_law_X6_done
set_option maxRecDepth 20000 in
theorem ggL_law_X5_into : GoodIn wsL_law wsX5_into := goodIn_r _ [562, 28, 591, 592, 593, 594, 595, 596, 597, 598, 599, 600, 645, 646, 647, 648, 649] (by decide +kernel) (by decide +kernel)
set_option maxRecDepth 20000 in
theorem gL_law_X5_into : GoodIn wsL_law (wsV RL 89 RX5 yX5_into wsX5_into) := goodIn_app (goodIn_of _ (by decide +kernel)) ggL_law_X5_into
set_option maxRecDepth 20000 in
theorem ggL_law_X6_into : GoodIn wsL_law wsX6_into := goodIn_r _ [566, 142, 110, 601, 602, 603, 604, 605, 606, 607, 608, 609, 610, 611, 612, 613, 614, 615, 616, 617, 618, 619, 620, 621, 622, 623, 624, 625] (by decide +kernel) (by decide +kernel)
set_option maxRecDepth 20000 in
theorem gL_law_X6_into : GoodIn wsL_law (wsV RL 92 RX6 yX6_into wsX6_into) := goodIn_app (goodIn_of _ (by decide +kernel)) ggL_law_X6_into
set_option maxRecDepth 20000 in
theorem ggL_law_X5_asked : GoodIn wsL_law wsX5_asked := goodIn_r _ [570, 35, 591, 592, 593, 594, 595, 596, 597, 598, 599, 600] (by decide +kernel) (by decide +kernel)
set_option maxRecDepth 20000 in
theorem gL_law_X5_asked : GoodIn wsL_law (wsV RL 93 RX5 yX5_asked wsX5_asked) := goodIn_app (goodIn_of _ (by decide +kernel)) ggL_law_X5_asked
set_option maxRecDepth 20000 in
theorem ggL_law_X6_asked : GoodIn wsL_law wsX6_asked := goodIn_r _ [574, 142, 439, 601, 602, 603, 604, 605, 606, 607, 608, 609, 610, 611, 612, 613, 614, 615, 616, 617, 618, 619, 620, 621, 622, 623, 624, 625] (by decide +kernel) (by decide +kernel)
set_option maxRecDepth 20000 in
theorem gL_law_X6_asked : GoodIn wsL_law (wsV RL 96 RX6 yX6_asked wsX6_asked) := goodIn_app (goodIn_of _ (by decide +kernel)) ggL_law_X6_asked
set_option maxRecDepth 20000 in
theorem ggL_law_X5_askedAt : GoodIn wsL_law wsX5_askedAt := goodIn_r _ [578, 35, 24, 36, 385, 386, 387, 23, 388, 68, 306, 307, 308, 309, 63, 591, 592, 593, 594, 595, 596, 597, 598, 599, 600, 637, 638, 639, 640, 641, 642, 643, 644] (by decide +kernel) (by decide +kernel)
set_option maxRecDepth 20000 in
theorem gL_law_X5_askedAt : GoodIn wsL_law (wsV RL 97 RX5 yX5_askedAt wsX5_askedAt) := goodIn_app (goodIn_of _ (by decide +kernel)) ggL_law_X5_askedAt
set_option maxRecDepth 20000 in
theorem ggL_law_X6_askedAt : GoodIn wsL_law wsX6_askedAt := goodIn_r _ [582, 142, 114, 601, 602, 603, 604, 605, 606, 607, 608, 609, 610, 611, 612, 613, 614, 615, 616, 617, 618, 619, 620, 621, 622, 623, 624, 625] (by decide +kernel) (by decide +kernel)
set_option maxRecDepth 20000 in
theorem gL_law_X6_askedAt : GoodIn wsL_law (wsV RL 100 RX6 yX6_askedAt wsX6_askedAt) := goodIn_app (goodIn_of _ (by decide +kernel)) ggL_law_X6_askedAt
set_option maxRecDepth 20000 in
theorem ggL_law_X5_questions : GoodIn wsL_law wsX5_questions := goodIn_r _ [586, 37, 591, 592, 593, 594, 595, 596, 597, 598, 599, 600] (by decide +kernel) (by decide +kernel)
set_option maxRecDepth 20000 in
theorem gL_law_X5_questions : GoodIn wsL_law (wsV RL 101 RX5 yX5_questions wsX5_questions) := goodIn_app (goodIn_of _ (by decide +kernel)) ggL_law_X5_questions
set_option maxRecDepth 20000 in
theorem ggL_law_X6_questions : GoodIn wsL_law wsX6_questions := goodIn_r _ [590, 142, 434, 601, 602, 603, 604, 605, 606, 607, 608, 609, 610, 611, 612, 613, 614, 615, 616, 617, 618, 619, 620, 621, 622, 623, 624, 625] (by decide +kernel) (by decide +kernel)
set_option maxRecDepth 20000 in
theorem gL_law_X6_questions : GoodIn wsL_law (wsV RL 104 RX6 yX6_questions wsX6_questions) := goodIn_app (goodIn_of _ (by decide +kernel)) ggL_law_X6_questions
end
section
theorem dL_law_0 : decode cL_law 0 = .ok (.new 8, 3) := by decide +kernel
theorem dL_law_3 : decode cL_law 3 = .ok (.dup, 1) := by decide +kernel
theorem dL_law_4 : decode cL_law 4 = .ok (.invokespecial 34, 3) := by decide +kernel
theorem dL_law_7 : decode cL_law 7 = .ok (.astore_n 1, 1) := by decide +kernel
theorem dL_law_8 : decode cL_law 8 = .ok (.new 35, 3) := by decide +kernel
theorem dL_law_11 : decode cL_law 11 = .ok (.dup, 1) := by decide +kernel
theorem dL_law_12 : decode cL_law 12 = .ok (.invokespecial 37, 3) := by decide +kernel
theorem dL_law_15 : decode cL_law 15 = .ok (.astore_n 2, 1) := by decide +kernel
theorem dL_law_16 : decode cL_law 16 = .ok (.iconst 1, 1) := by decide +kernel
theorem dL_law_17 : decode cL_law 17 = .ok (.newarray .long, 2) := by decide +kernel
theorem dL_law_19 : decode cL_law 19 = .ok (.astore_n 3, 1) := by decide +kernel
theorem dL_law_20 : decode cL_law 20 = .ok (.iconst 0, 1) := by decide +kernel
theorem dL_law_21 : decode cL_law 21 = .ok (.istore 4, 2) := by decide +kernel
theorem dL_law_23 : decode cL_law 23 = .ok (.iload 4, 2) := by decide +kernel
theorem dL_law_25 : decode cL_law 25 = .ok (.aload_n 0, 1) := by decide +kernel
theorem dL_law_26 : decode cL_law 26 = .ok (.arraylength, 1) := by decide +kernel
theorem dL_law_27 : decode cL_law 27 = .ok (.iconst 4, 1) := by decide +kernel
theorem dL_law_28 : decode cL_law 28 = .ok (.isub, 1) := by decide +kernel
theorem dL_law_29 : decode cL_law 29 = .ok (.if_icmp .gt 551, 3) := by decide +kernel
theorem dL_law_32 : decode cL_law 32 = .ok (.aload_n 0, 1) := by decide +kernel
theorem dL_law_33 : decode cL_law 33 = .ok (.iload 4, 2) := by decide +kernel
theorem dL_law_35 : decode cL_law 35 = .ok (.iaload, 1) := by decide +kernel
theorem dL_law_36 : decode cL_law 36 = .ok (.bipush 15, 2) := by decide +kernel
theorem dL_law_38 : decode cL_law 38 = .ok (.iand, 1) := by decide +kernel
theorem dL_law_39 : decode cL_law 39 = .ok (.tableswitch 535 0 15 #[77, 173, 229, 292, 305, 361, 405, 418, 431, 444, 457, 470, 483, 496, 509, 522], 77) := by decide +kernel
theorem dL_law_116 : decode cL_law 116 = .ok (.aload_n 1, 1) := by decide +kernel
theorem dL_law_117 : decode cL_law 117 = .ok (.aload_n 0, 1) := by decide +kernel
theorem dL_law_118 : decode cL_law 118 = .ok (.iload 4, 2) := by decide +kernel
theorem dL_law_120 : decode cL_law 120 = .ok (.iconst 1, 1) := by decide +kernel
theorem dL_law_121 : decode cL_law 121 = .ok (.iadd, 1) := by decide +kernel
theorem dL_law_122 : decode cL_law 122 = .ok (.iaload, 1) := by decide +kernel
theorem dL_law_123 : decode cL_law 123 = .ok (.aload_n 0, 1) := by decide +kernel
theorem dL_law_124 : decode cL_law 124 = .ok (.iload 4, 2) := by decide +kernel
theorem dL_law_126 : decode cL_law 126 = .ok (.iconst 2, 1) := by decide +kernel
theorem dL_law_127 : decode cL_law 127 = .ok (.iadd, 1) := by decide +kernel
theorem dL_law_128 : decode cL_law 128 = .ok (.iaload, 1) := by decide +kernel
theorem dL_law_129 : decode cL_law 129 = .ok (.aload_n 0, 1) := by decide +kernel
theorem dL_law_130 : decode cL_law 130 = .ok (.iload 4, 2) := by decide +kernel
theorem dL_law_132 : decode cL_law 132 = .ok (.iconst 3, 1) := by decide +kernel
theorem dL_law_133 : decode cL_law 133 = .ok (.iadd, 1) := by decide +kernel
theorem dL_law_134 : decode cL_law 134 = .ok (.iaload, 1) := by decide +kernel
theorem dL_law_135 : decode cL_law 135 = .ok (.ifCond .eq 7, 3) := by decide +kernel
theorem dL_law_138 : decode cL_law 138 = .ok (.iconst 1, 1) := by decide +kernel
theorem dL_law_139 : decode cL_law 139 = .ok (.goto 4, 3) := by decide +kernel
theorem dL_law_142 : decode cL_law 142 = .ok (.iconst 0, 1) := by decide +kernel
theorem dL_law_143 : decode cL_law 143 = .ok (.aload_n 3, 1) := by decide +kernel
theorem dL_law_144 : decode cL_law 144 = .ok (.invokestatic 38, 3) := by decide +kernel
theorem dL_law_147 : decode cL_law 147 = .ok (.istore 5, 2) := by decide +kernel
theorem dL_law_149 : decode cL_law 149 = .ok (.aload_n 2, 1) := by decide +kernel
theorem dL_law_150 : decode cL_law 150 = .ok (.aload_n 0, 1) := by decide +kernel
theorem dL_law_151 : decode cL_law 151 = .ok (.iload 4, 2) := by decide +kernel
theorem dL_law_153 : decode cL_law 153 = .ok (.iconst 1, 1) := by decide +kernel
theorem dL_law_154 : decode cL_law 154 = .ok (.iadd, 1) := by decide +kernel
theorem dL_law_155 : decode cL_law 155 = .ok (.iaload, 1) := by decide +kernel
theorem dL_law_156 : decode cL_law 156 = .ok (.aload_n 0, 1) := by decide +kernel
theorem dL_law_157 : decode cL_law 157 = .ok (.iload 4, 2) := by decide +kernel
theorem dL_law_159 : decode cL_law 159 = .ok (.iconst 2, 1) := by decide +kernel
theorem dL_law_160 : decode cL_law 160 = .ok (.iadd, 1) := by decide +kernel
theorem dL_law_161 : decode cL_law 161 = .ok (.iaload, 1) := by decide +kernel
theorem dL_law_162 : decode cL_law 162 = .ok (.aload_n 0, 1) := by decide +kernel
theorem dL_law_163 : decode cL_law 163 = .ok (.iload 4, 2) := by decide +kernel
theorem dL_law_165 : decode cL_law 165 = .ok (.iconst 3, 1) := by decide +kernel
theorem dL_law_166 : decode cL_law 166 = .ok (.iadd, 1) := by decide +kernel
theorem dL_law_167 : decode cL_law 167 = .ok (.iaload, 1) := by decide +kernel
theorem dL_law_168 : decode cL_law 168 = .ok (.ifCond .eq 7, 3) := by decide +kernel
theorem dL_law_171 : decode cL_law 171 = .ok (.iconst 1, 1) := by decide +kernel
theorem dL_law_172 : decode cL_law 172 = .ok (.goto 4, 3) := by decide +kernel
theorem dL_law_175 : decode cL_law 175 = .ok (.iconst 0, 1) := by decide +kernel
theorem dL_law_176 : decode cL_law 176 = .ok (.invokevirtual 43, 3) := by decide +kernel
theorem dL_law_179 : decode cL_law 179 = .ok (.istore 6, 2) := by decide +kernel
theorem dL_law_181 : decode cL_law 181 = .ok (.aload_n 2, 1) := by decide +kernel
theorem dL_law_182 : decode cL_law 182 = .ok (.invokevirtual 44, 3) := by decide +kernel
theorem dL_law_185 : decode cL_law 185 = .ok (.iload 5, 2) := by decide +kernel
theorem dL_law_187 : decode cL_law 187 = .ok (.if_icmp .eq 5, 3) := by decide +kernel
theorem dL_law_190 : decode cL_law 190 = .ok (.iconst 0, 1) := by decide +kernel
theorem dL_law_191 : decode cL_law 191 = .ok (.ireturn, 1) := by decide +kernel
theorem dL_law_192 : decode cL_law 192 = .ok (.iload 5, 2) := by decide +kernel
theorem dL_law_194 : decode cL_law 194 = .ok (.ifCond .ne 15, 3) := by decide +kernel
theorem dL_law_197 : decode cL_law 197 = .ok (.aload_n 3, 1) := by decide +kernel
theorem dL_law_198 : decode cL_law 198 = .ok (.iconst 0, 1) := by decide +kernel
theorem dL_law_199 : decode cL_law 199 = .ok (.laload, 1) := by decide +kernel
theorem dL_law_200 : decode cL_law 200 = .ok (.iload 6, 2) := by decide +kernel
theorem dL_law_202 : decode cL_law 202 = .ok (.i2l, 1) := by decide +kernel
theorem dL_law_203 : decode cL_law 203 = .ok (.lcmp, 1) := by decide +kernel
theorem dL_law_204 : decode cL_law 204 = .ok (.ifCond .eq 5, 3) := by decide +kernel
theorem dL_law_207 : decode cL_law 207 = .ok (.iconst 0, 1) := by decide +kernel
theorem dL_law_208 : decode cL_law 208 = .ok (.ireturn, 1) := by decide +kernel
theorem dL_law_209 : decode cL_law 209 = .ok (.goto 365, 3) := by decide +kernel
theorem dL_law_212 : decode cL_law 212 = .ok (.aload_n 1, 1) := by decide +kernel
theorem dL_law_213 : decode cL_law 213 = .ok (.aload_n 0, 1) := by decide +kernel
theorem dL_law_214 : decode cL_law 214 = .ok (.iload 4, 2) := by decide +kernel
theorem dL_law_216 : decode cL_law 216 = .ok (.iconst 1, 1) := by decide +kernel
theorem dL_law_217 : decode cL_law 217 = .ok (.iadd, 1) := by decide +kernel
theorem dL_law_218 : decode cL_law 218 = .ok (.iaload, 1) := by decide +kernel
theorem dL_law_219 : decode cL_law 219 = .ok (.aload_n 3, 1) := by decide +kernel
theorem dL_law_220 : decode cL_law 220 = .ok (.invokestatic 47, 3) := by decide +kernel
theorem dL_law_223 : decode cL_law 223 = .ok (.istore 5, 2) := by decide +kernel
theorem dL_law_225 : decode cL_law 225 = .ok (.aload_n 2, 1) := by decide +kernel
theorem dL_law_226 : decode cL_law 226 = .ok (.aload_n 0, 1) := by decide +kernel
theorem dL_law_227 : decode cL_law 227 = .ok (.iload 4, 2) := by decide +kernel
theorem dL_law_229 : decode cL_law 229 = .ok (.iconst 1, 1) := by decide +kernel
theorem dL_law_230 : decode cL_law 230 = .ok (.iadd, 1) := by decide +kernel
theorem dL_law_231 : decode cL_law 231 = .ok (.iaload, 1) := by decide +kernel
theorem dL_law_232 : decode cL_law 232 = .ok (.invokevirtual 50, 3) := by decide +kernel
theorem dL_law_235 : decode cL_law 235 = .ok (.istore 6, 2) := by decide +kernel
theorem dL_law_237 : decode cL_law 237 = .ok (.aload_n 2, 1) := by decide +kernel
theorem dL_law_238 : decode cL_law 238 = .ok (.invokevirtual 44, 3) := by decide +kernel
theorem dL_law_241 : decode cL_law 241 = .ok (.iload 5, 2) := by decide +kernel
theorem dL_law_243 : decode cL_law 243 = .ok (.if_icmp .eq 5, 3) := by decide +kernel
theorem dL_law_246 : decode cL_law 246 = .ok (.iconst 0, 1) := by decide +kernel
theorem dL_law_247 : decode cL_law 247 = .ok (.ireturn, 1) := by decide +kernel
theorem dL_law_248 : decode cL_law 248 = .ok (.iload 5, 2) := by decide +kernel
theorem dL_law_250 : decode cL_law 250 = .ok (.ifCond .ne 15, 3) := by decide +kernel
theorem dL_law_253 : decode cL_law 253 = .ok (.aload_n 3, 1) := by decide +kernel
theorem dL_law_254 : decode cL_law 254 = .ok (.iconst 0, 1) := by decide +kernel
theorem dL_law_255 : decode cL_law 255 = .ok (.laload, 1) := by decide +kernel
theorem dL_law_256 : decode cL_law 256 = .ok (.iload 6, 2) := by decide +kernel
theorem dL_law_258 : decode cL_law 258 = .ok (.i2l, 1) := by decide +kernel
theorem dL_law_259 : decode cL_law 259 = .ok (.lcmp, 1) := by decide +kernel
theorem dL_law_260 : decode cL_law 260 = .ok (.ifCond .eq 5, 3) := by decide +kernel
theorem dL_law_263 : decode cL_law 263 = .ok (.iconst 0, 1) := by decide +kernel
theorem dL_law_264 : decode cL_law 264 = .ok (.ireturn, 1) := by decide +kernel
theorem dL_law_265 : decode cL_law 265 = .ok (.goto 309, 3) := by decide +kernel
theorem dL_law_268 : decode cL_law 268 = .ok (.aload_n 1, 1) := by decide +kernel
theorem dL_law_269 : decode cL_law 269 = .ok (.aload_n 0, 1) := by decide +kernel
theorem dL_law_270 : decode cL_law 270 = .ok (.iload 4, 2) := by decide +kernel
theorem dL_law_272 : decode cL_law 272 = .ok (.iconst 1, 1) := by decide +kernel
theorem dL_law_273 : decode cL_law 273 = .ok (.iadd, 1) := by decide +kernel
theorem dL_law_274 : decode cL_law 274 = .ok (.iaload, 1) := by decide +kernel
theorem dL_law_275 : decode cL_law 275 = .ok (.aload_n 3, 1) := by decide +kernel
theorem dL_law_276 : decode cL_law 276 = .ok (.invokestatic 51, 3) := by decide +kernel
theorem dL_law_279 : decode cL_law 279 = .ok (.istore 5, 2) := by decide +kernel
theorem dL_law_281 : decode cL_law 281 = .ok (.aload_n 2, 1) := by decide +kernel
theorem dL_law_282 : decode cL_law 282 = .ok (.aload_n 0, 1) := by decide +kernel
theorem dL_law_283 : decode cL_law 283 = .ok (.iload 4, 2) := by decide +kernel
theorem dL_law_285 : decode cL_law 285 = .ok (.iconst 1, 1) := by decide +kernel
theorem dL_law_286 : decode cL_law 286 = .ok (.iadd, 1) := by decide +kernel
theorem dL_law_287 : decode cL_law 287 = .ok (.iaload, 1) := by decide +kernel
theorem dL_law_288 : decode cL_law 288 = .ok (.invokevirtual 53, 3) := by decide +kernel
theorem dL_law_291 : decode cL_law 291 = .ok (.istore 6, 2) := by decide +kernel
theorem dL_law_293 : decode cL_law 293 = .ok (.aload_n 2, 1) := by decide +kernel
theorem dL_law_294 : decode cL_law 294 = .ok (.invokevirtual 44, 3) := by decide +kernel
theorem dL_law_297 : decode cL_law 297 = .ok (.iload 5, 2) := by decide +kernel
theorem dL_law_299 : decode cL_law 299 = .ok (.if_icmp .eq 5, 3) := by decide +kernel
theorem dL_law_302 : decode cL_law 302 = .ok (.iconst 0, 1) := by decide +kernel
theorem dL_law_303 : decode cL_law 303 = .ok (.ireturn, 1) := by decide +kernel
theorem dL_law_304 : decode cL_law 304 = .ok (.iload 5, 2) := by decide +kernel
theorem dL_law_306 : decode cL_law 306 = .ok (.ifCond .ne 22, 3) := by decide +kernel
theorem dL_law_309 : decode cL_law 309 = .ok (.aload_n 3, 1) := by decide +kernel
theorem dL_law_310 : decode cL_law 310 = .ok (.iconst 0, 1) := by decide +kernel
theorem dL_law_311 : decode cL_law 311 = .ok (.laload, 1) := by decide +kernel
theorem dL_law_312 : decode cL_law 312 = .ok (.iload 6, 2) := by decide +kernel
theorem dL_law_314 : decode cL_law 314 = .ok (.ifCond .eq 7, 3) := by decide +kernel
theorem dL_law_317 : decode cL_law 317 = .ok (.lconst 1, 1) := by decide +kernel
theorem dL_law_318 : decode cL_law 318 = .ok (.goto 4, 3) := by decide +kernel
theorem dL_law_321 : decode cL_law 321 = .ok (.lconst 0, 1) := by decide +kernel
theorem dL_law_322 : decode cL_law 322 = .ok (.lcmp, 1) := by decide +kernel
theorem dL_law_323 : decode cL_law 323 = .ok (.ifCond .eq 5, 3) := by decide +kernel
theorem dL_law_326 : decode cL_law 326 = .ok (.iconst 0, 1) := by decide +kernel
theorem dL_law_327 : decode cL_law 327 = .ok (.ireturn, 1) := by decide +kernel
theorem dL_law_328 : decode cL_law 328 = .ok (.goto 246, 3) := by decide +kernel
theorem dL_law_331 : decode cL_law 331 = .ok (.aload_n 1, 1) := by decide +kernel
theorem dL_law_332 : decode cL_law 332 = .ok (.invokevirtual 54, 3) := by decide +kernel
theorem dL_law_335 : decode cL_law 335 = .ok (.aload_n 2, 1) := by decide +kernel
theorem dL_law_336 : decode cL_law 336 = .ok (.invokevirtual 57, 3) := by decide +kernel
theorem dL_law_339 : decode cL_law 339 = .ok (.if_icmp .eq 235, 3) := by decide +kernel
theorem dL_law_342 : decode cL_law 342 = .ok (.iconst 0, 1) := by decide +kernel
theorem dL_law_343 : decode cL_law 343 = .ok (.ireturn, 1) := by decide +kernel
theorem dL_law_344 : decode cL_law 344 = .ok (.aload_n 1, 1) := by decide +kernel
theorem dL_law_345 : decode cL_law 345 = .ok (.aload_n 0, 1) := by decide +kernel
theorem dL_law_346 : decode cL_law 346 = .ok (.iload 4, 2) := by decide +kernel
theorem dL_law_348 : decode cL_law 348 = .ok (.iconst 1, 1) := by decide +kernel
theorem dL_law_349 : decode cL_law 349 = .ok (.iadd, 1) := by decide +kernel
theorem dL_law_350 : decode cL_law 350 = .ok (.iaload, 1) := by decide +kernel
theorem dL_law_351 : decode cL_law 351 = .ok (.aload_n 3, 1) := by decide +kernel
theorem dL_law_352 : decode cL_law 352 = .ok (.invokestatic 58, 3) := by decide +kernel
theorem dL_law_355 : decode cL_law 355 = .ok (.istore 5, 2) := by decide +kernel
theorem dL_law_357 : decode cL_law 357 = .ok (.aload_n 2, 1) := by decide +kernel
theorem dL_law_358 : decode cL_law 358 = .ok (.aload_n 0, 1) := by decide +kernel
theorem dL_law_359 : decode cL_law 359 = .ok (.iload 4, 2) := by decide +kernel
theorem dL_law_361 : decode cL_law 361 = .ok (.iconst 1, 1) := by decide +kernel
theorem dL_law_362 : decode cL_law 362 = .ok (.iadd, 1) := by decide +kernel
theorem dL_law_363 : decode cL_law 363 = .ok (.iaload, 1) := by decide +kernel
theorem dL_law_364 : decode cL_law 364 = .ok (.invokevirtual 60, 3) := by decide +kernel
theorem dL_law_367 : decode cL_law 367 = .ok (.istore 6, 2) := by decide +kernel
theorem dL_law_369 : decode cL_law 369 = .ok (.aload_n 2, 1) := by decide +kernel
theorem dL_law_370 : decode cL_law 370 = .ok (.invokevirtual 44, 3) := by decide +kernel
theorem dL_law_373 : decode cL_law 373 = .ok (.iload 5, 2) := by decide +kernel
theorem dL_law_375 : decode cL_law 375 = .ok (.if_icmp .eq 5, 3) := by decide +kernel
theorem dL_law_378 : decode cL_law 378 = .ok (.iconst 0, 1) := by decide +kernel
theorem dL_law_379 : decode cL_law 379 = .ok (.ireturn, 1) := by decide +kernel
theorem dL_law_380 : decode cL_law 380 = .ok (.iload 5, 2) := by decide +kernel
theorem dL_law_382 : decode cL_law 382 = .ok (.ifCond .ne 15, 3) := by decide +kernel
theorem dL_law_385 : decode cL_law 385 = .ok (.aload_n 3, 1) := by decide +kernel
theorem dL_law_386 : decode cL_law 386 = .ok (.iconst 0, 1) := by decide +kernel
theorem dL_law_387 : decode cL_law 387 = .ok (.laload, 1) := by decide +kernel
theorem dL_law_388 : decode cL_law 388 = .ok (.iload 6, 2) := by decide +kernel
theorem dL_law_390 : decode cL_law 390 = .ok (.i2l, 1) := by decide +kernel
theorem dL_law_391 : decode cL_law 391 = .ok (.lcmp, 1) := by decide +kernel
theorem dL_law_392 : decode cL_law 392 = .ok (.ifCond .eq 5, 3) := by decide +kernel
theorem dL_law_395 : decode cL_law 395 = .ok (.iconst 0, 1) := by decide +kernel
theorem dL_law_396 : decode cL_law 396 = .ok (.ireturn, 1) := by decide +kernel
theorem dL_law_397 : decode cL_law 397 = .ok (.goto 177, 3) := by decide +kernel
theorem dL_law_400 : decode cL_law 400 = .ok (.aload_n 1, 1) := by decide +kernel
theorem dL_law_401 : decode cL_law 401 = .ok (.aload_n 3, 1) := by decide +kernel
theorem dL_law_402 : decode cL_law 402 = .ok (.invokestatic 61, 3) := by decide +kernel
theorem dL_law_405 : decode cL_law 405 = .ok (.istore 5, 2) := by decide +kernel
theorem dL_law_407 : decode cL_law 407 = .ok (.aload_n 2, 1) := by decide +kernel
theorem dL_law_408 : decode cL_law 408 = .ok (.invokevirtual 64, 3) := by decide +kernel
theorem dL_law_411 : decode cL_law 411 = .ok (.istore 6, 2) := by decide +kernel
theorem dL_law_413 : decode cL_law 413 = .ok (.aload_n 2, 1) := by decide +kernel
theorem dL_law_414 : decode cL_law 414 = .ok (.invokevirtual 44, 3) := by decide +kernel
theorem dL_law_417 : decode cL_law 417 = .ok (.iload 5, 2) := by decide +kernel
theorem dL_law_419 : decode cL_law 419 = .ok (.if_icmp .eq 5, 3) := by decide +kernel
theorem dL_law_422 : decode cL_law 422 = .ok (.iconst 0, 1) := by decide +kernel
theorem dL_law_423 : decode cL_law 423 = .ok (.ireturn, 1) := by decide +kernel
theorem dL_law_424 : decode cL_law 424 = .ok (.iload 5, 2) := by decide +kernel
theorem dL_law_426 : decode cL_law 426 = .ok (.ifCond .ne 15, 3) := by decide +kernel
theorem dL_law_429 : decode cL_law 429 = .ok (.aload_n 3, 1) := by decide +kernel
theorem dL_law_430 : decode cL_law 430 = .ok (.iconst 0, 1) := by decide +kernel
theorem dL_law_431 : decode cL_law 431 = .ok (.laload, 1) := by decide +kernel
theorem dL_law_432 : decode cL_law 432 = .ok (.iload 6, 2) := by decide +kernel
theorem dL_law_434 : decode cL_law 434 = .ok (.i2l, 1) := by decide +kernel
theorem dL_law_435 : decode cL_law 435 = .ok (.lcmp, 1) := by decide +kernel
theorem dL_law_436 : decode cL_law 436 = .ok (.ifCond .eq 5, 3) := by decide +kernel
theorem dL_law_439 : decode cL_law 439 = .ok (.iconst 0, 1) := by decide +kernel
theorem dL_law_440 : decode cL_law 440 = .ok (.ireturn, 1) := by decide +kernel
theorem dL_law_441 : decode cL_law 441 = .ok (.goto 133, 3) := by decide +kernel
theorem dL_law_444 : decode cL_law 444 = .ok (.aload_n 1, 1) := by decide +kernel
theorem dL_law_445 : decode cL_law 445 = .ok (.invokevirtual 65, 3) := by decide +kernel
theorem dL_law_448 : decode cL_law 448 = .ok (.aload_n 2, 1) := by decide +kernel
theorem dL_law_449 : decode cL_law 449 = .ok (.invokevirtual 68, 3) := by decide +kernel
theorem dL_law_452 : decode cL_law 452 = .ok (.if_icmp .eq 122, 3) := by decide +kernel
theorem dL_law_455 : decode cL_law 455 = .ok (.iconst 0, 1) := by decide +kernel
theorem dL_law_456 : decode cL_law 456 = .ok (.ireturn, 1) := by decide +kernel
theorem dL_law_457 : decode cL_law 457 = .ok (.aload_n 1, 1) := by decide +kernel
theorem dL_law_458 : decode cL_law 458 = .ok (.invokevirtual 69, 3) := by decide +kernel
theorem dL_law_461 : decode cL_law 461 = .ok (.aload_n 2, 1) := by decide +kernel
theorem dL_law_462 : decode cL_law 462 = .ok (.invokevirtual 72, 3) := by decide +kernel
theorem dL_law_465 : decode cL_law 465 = .ok (.if_icmp .eq 109, 3) := by decide +kernel
theorem dL_law_468 : decode cL_law 468 = .ok (.iconst 0, 1) := by decide +kernel
theorem dL_law_469 : decode cL_law 469 = .ok (.ireturn, 1) := by decide +kernel
theorem dL_law_470 : decode cL_law 470 = .ok (.aload_n 1, 1) := by decide +kernel
theorem dL_law_471 : decode cL_law 471 = .ok (.invokevirtual 73, 3) := by decide +kernel
theorem dL_law_474 : decode cL_law 474 = .ok (.aload_n 2, 1) := by decide +kernel
theorem dL_law_475 : decode cL_law 475 = .ok (.invokevirtual 76, 3) := by decide +kernel
theorem dL_law_478 : decode cL_law 478 = .ok (.if_icmp .eq 96, 3) := by decide +kernel
theorem dL_law_481 : decode cL_law 481 = .ok (.iconst 0, 1) := by decide +kernel
theorem dL_law_482 : decode cL_law 482 = .ok (.ireturn, 1) := by decide +kernel
theorem dL_law_483 : decode cL_law 483 = .ok (.aload_n 1, 1) := by decide +kernel
theorem dL_law_484 : decode cL_law 484 = .ok (.invokevirtual 77, 3) := by decide +kernel
theorem dL_law_487 : decode cL_law 487 = .ok (.aload_n 2, 1) := by decide +kernel
theorem dL_law_488 : decode cL_law 488 = .ok (.invokevirtual 80, 3) := by decide +kernel
theorem dL_law_491 : decode cL_law 491 = .ok (.if_icmp .eq 83, 3) := by decide +kernel
theorem dL_law_494 : decode cL_law 494 = .ok (.iconst 0, 1) := by decide +kernel
theorem dL_law_495 : decode cL_law 495 = .ok (.ireturn, 1) := by decide +kernel
theorem dL_law_496 : decode cL_law 496 = .ok (.aload_n 1, 1) := by decide +kernel
theorem dL_law_497 : decode cL_law 497 = .ok (.invokevirtual 81, 3) := by decide +kernel
theorem dL_law_500 : decode cL_law 500 = .ok (.aload_n 2, 1) := by decide +kernel
theorem dL_law_501 : decode cL_law 501 = .ok (.invokevirtual 84, 3) := by decide +kernel
theorem dL_law_504 : decode cL_law 504 = .ok (.if_icmp .eq 70, 3) := by decide +kernel
theorem dL_law_507 : decode cL_law 507 = .ok (.iconst 0, 1) := by decide +kernel
theorem dL_law_508 : decode cL_law 508 = .ok (.ireturn, 1) := by decide +kernel
theorem dL_law_509 : decode cL_law 509 = .ok (.aload_n 1, 1) := by decide +kernel
theorem dL_law_510 : decode cL_law 510 = .ok (.invokevirtual 85, 3) := by decide +kernel
theorem dL_law_513 : decode cL_law 513 = .ok (.aload_n 2, 1) := by decide +kernel
theorem dL_law_514 : decode cL_law 514 = .ok (.invokevirtual 88, 3) := by decide +kernel
theorem dL_law_517 : decode cL_law 517 = .ok (.if_icmp .eq 57, 3) := by decide +kernel
theorem dL_law_520 : decode cL_law 520 = .ok (.iconst 0, 1) := by decide +kernel
theorem dL_law_521 : decode cL_law 521 = .ok (.ireturn, 1) := by decide +kernel
theorem dL_law_522 : decode cL_law 522 = .ok (.aload_n 1, 1) := by decide +kernel
theorem dL_law_523 : decode cL_law 523 = .ok (.invokevirtual 89, 3) := by decide +kernel
theorem dL_law_526 : decode cL_law 526 = .ok (.aload_n 2, 1) := by decide +kernel
theorem dL_law_527 : decode cL_law 527 = .ok (.invokevirtual 92, 3) := by decide +kernel
theorem dL_law_530 : decode cL_law 530 = .ok (.if_icmp .eq 44, 3) := by decide +kernel
theorem dL_law_533 : decode cL_law 533 = .ok (.iconst 0, 1) := by decide +kernel
theorem dL_law_534 : decode cL_law 534 = .ok (.ireturn, 1) := by decide +kernel
theorem dL_law_535 : decode cL_law 535 = .ok (.aload_n 1, 1) := by decide +kernel
theorem dL_law_536 : decode cL_law 536 = .ok (.invokevirtual 93, 3) := by decide +kernel
theorem dL_law_539 : decode cL_law 539 = .ok (.aload_n 2, 1) := by decide +kernel
theorem dL_law_540 : decode cL_law 540 = .ok (.invokevirtual 96, 3) := by decide +kernel
theorem dL_law_543 : decode cL_law 543 = .ok (.if_icmp .eq 31, 3) := by decide +kernel
theorem dL_law_546 : decode cL_law 546 = .ok (.iconst 0, 1) := by decide +kernel
theorem dL_law_547 : decode cL_law 547 = .ok (.ireturn, 1) := by decide +kernel
theorem dL_law_548 : decode cL_law 548 = .ok (.aload_n 1, 1) := by decide +kernel
theorem dL_law_549 : decode cL_law 549 = .ok (.invokevirtual 97, 3) := by decide +kernel
theorem dL_law_552 : decode cL_law 552 = .ok (.aload_n 2, 1) := by decide +kernel
theorem dL_law_553 : decode cL_law 553 = .ok (.invokevirtual 100, 3) := by decide +kernel
theorem dL_law_556 : decode cL_law 556 = .ok (.if_icmp .eq 18, 3) := by decide +kernel
theorem dL_law_559 : decode cL_law 559 = .ok (.iconst 0, 1) := by decide +kernel
theorem dL_law_560 : decode cL_law 560 = .ok (.ireturn, 1) := by decide +kernel
theorem dL_law_561 : decode cL_law 561 = .ok (.aload_n 1, 1) := by decide +kernel
theorem dL_law_562 : decode cL_law 562 = .ok (.invokevirtual 101, 3) := by decide +kernel
theorem dL_law_565 : decode cL_law 565 = .ok (.aload_n 2, 1) := by decide +kernel
theorem dL_law_566 : decode cL_law 566 = .ok (.invokevirtual 104, 3) := by decide +kernel
theorem dL_law_569 : decode cL_law 569 = .ok (.if_icmp .eq 5, 3) := by decide +kernel
theorem dL_law_572 : decode cL_law 572 = .ok (.iconst 0, 1) := by decide +kernel
theorem dL_law_573 : decode cL_law 573 = .ok (.ireturn, 1) := by decide +kernel
theorem dL_law_574 : decode cL_law 574 = .ok (.iinc 4 4, 3) := by decide +kernel
theorem dL_law_577 : decode cL_law 577 = .ok (.goto (-554), 3) := by decide +kernel
theorem dL_law_580 : decode cL_law 580 = .ok (.iconst 1, 1) := by decide +kernel
theorem dL_law_581 : decode cL_law 581 = .ok (.ireturn, 1) := by decide +kernel
abbrev vwCl : List vw_C := [(RX0, TX0, 9), (RX1, TX1, 5), (RX2, TX2, 8), (RX3, TX3, 5), (RX4, TX4, 6), (RX5, TX5, 10), (RX6, TX6, 25)]
end
section
def nwL : List Cond := [.fieldLinkNest RX5 71 "ParserParlour$World" "count" "I" RX5, .fieldLinkNest RX5 96 "ParserParlour$World" "openBoxes" "I" RX5, .fieldLinkNest RX5 112 "ParserParlour$Words" "count" "I" RX5, .fieldLinkNest RX2 85 "ParserParlour$Words" "place" "I" RX5, .fieldLinkNest RX5 160 "ParserParlour$Words" "place" "I" RX5, .fieldLinkNest RX2 69 "ParserParlour$Words" "adjectives" "I" RX5, .fieldLinkNest RX5 170 "ParserParlour$Words" "adjectives" "I" RX5, .fieldLinkNest RX2 82 "ParserParlour$Words" "noun" "I" RX5, .fieldLinkNest RX5 173 "ParserParlour$Words" "noun" "I" RX5, .fieldLinkNest RX0 52 "ParserParlour$Order" "orderVerb" "I" RX5, .fieldLinkNest RX5 204 "ParserParlour$Order" "orderVerb" "I" RX5, .fieldLinkNest RX0 61 "ParserParlour$Order" "count" "I" RX5, .fieldLinkNest RX0 85 "ParserParlour$Order" "kinds" "[I" RX5, .fieldLinkNest RX0 114 "ParserParlour$Order" "adjectiveSets" "[I" RX5, .fieldLinkNest RX0 117 "ParserParlour$Order" "nouns" "[I" RX5, .fieldLinkNest RX0 100 "ParserParlour$Order" "answers" "[I" RX5, .fieldLinkNest RX5 138 "ParserParlour$Memory" "lastVerb" "I" RX5, .fieldLinkNest RX0 89 "ParserParlour$Memory" "lastMeant" "I" RX5, .fieldLinkNest RX5 141 "ParserParlour$Memory" "lastMeant" "I" RX5, .fieldLinkNest RX5 144 "ParserParlour$Memory" "lastDone" "I" RX5, .fieldLinkNest RX5 147 "ParserParlour$Memory" "lastTarget" "I" RX5, .fieldLinkNest RX0 103 "ParserParlour$Memory" "lastAlone" "I" RX5, .fieldLinkNest RX5 201 "ParserParlour$Meaning" "group" "I" RX5, .fieldLinkNest RX5 207 "ParserParlour$Meaning" "target" "I" RX5, .fieldLinkNest RX5 192 "ParserParlour$Meaning" "openPhrase" "I" RX5, .fieldLinkNest RX5 195 "ParserParlour$Meaning" "choice" "I" RX5, .methodLinkNest RX4 35 yX5_contains RX5, .methodLinkNest RX3 32 yX5_isBetween RX5, .methodLinkNest RX0 77 yX5_contains RX5]
def nw (U : State) : Prop := ∀ w ∈ nwL, va_Nw w U
theorem nw_tab : ∀ w ∈ nwL, w.onTables = true := by decide +kernel
def nwOk : Cond → Bool
  | .fieldLinkNest _ _ _ _ _ _ => true
  | .methodLinkNest _ _ _ _ => true
  | _ => false
theorem nw_ok : ∀ w ∈ nwL, nwOk w = true := by decide +kernel
theorem nw_same {u U : State} (h : u.vm = U.vm) (q : nw u) : nw U := fun w hw => va_Nw.same (nw_tab w hw) h (q w hw)
theorem nw_warm1 {s U : State} (hW : s.WarmedH U.vm) {w : Cond} (hw : nwOk w = true) (q : va_Nw w s) : va_Nw w U := by
  cases w <;> first | exact va_Nw.warmF hW q | exact va_Nw.warmM hW q | (simp [nwOk] at hw; done)
theorem nw_warm {s U : State} (hW : s.WarmedH U.vm) (q : nw s) : nw U := fun w hw => nw_warm1 hW (nw_ok w hw) (q w hw)
abbrev pre_w (D : va_G) (ws : va_W) (tys : List (ClassId × FieldType)) (sz : Nat) (U : State) : Prop := U.heap.size = sz ∧ va_P D vwCl ws U.heap ∧ va_K D vwCl tys U ∧ va_D (fun _ => True) ws ∧ nw U
abbrev post_w (D : va_G) (ws : va_W) (tys : List (ClassId × FieldType)) (A : Nat → Prop) (_ : Unit) (t : State) : Prop := va_P D vwCl ws t.heap ∧ va_K D vwCl tys t ∧ va_D A ws
theorem pre_blind {D : va_G} {ws : va_W} {tys : List (ClassId × FieldType)} {sz : Nat} {av : List Value} : FrameBlind (va_Pc av (pre_w D ws tys sz)) := fun a U g mk q => by
  obtain ⟨q0, q1, qP, qK, qD, qN⟩ := q
  exact ⟨q0, q1, qP, va_K.moved (u := U) (U := U.calling g mk a) (Vm.Alike.refl U.vm) qK, qD, nw_same (u := U) (U := U.calling g mk a) rfl qN⟩
theorem gc_S {s : State} {H : Heap} {D : va_G} {wc : va_W} {tys : List (ClassId × FieldType)} {A : Nat → Prop} {As : List Value} (hP : va_P D vwCl wc H) (hK : va_K D vwCl tys s) (hD : va_D A wc) (hN : nw s) : PreS s H (va_Pc As (pre_w D wc tys H.size)) As :=
  ⟨pre_blind, fun U hU hW => ⟨rfl, by rw [hU], by rw [hU]; exact hP, va_K.moved hW.alike hK, hD.weaken (fun _ _ _ _ => trivial), nw_warm hW hN⟩⟩
theorem gc_V {s : State} {H : Heap} {D : va_G} {wc : va_W} {tys : List (ClassId × FieldType)} {A : Nat → Prop} {As : List Value} {a ci q0 N : Nat} {C : String} {T : u_T} {fs : List Value} (hP : va_P D vwCl wc H) (hK : va_K D vwCl tys s) (hD : va_D A wc) (hN : nw s) (hc : vwCl[ci]? = some (C, T, N)) (he : wc[q0]? = some (a, .inr (ci, fs))) : PreV s H C a (va_Pc (.ref a :: As) (pre_w D wc tys H.size)) As :=
  ⟨pre_blind, va_recv hK hP hc he, fun U hU hW => ⟨rfl, by rw [hU], by rw [hU]; exact hP, va_K.moved hW.alike hK, hD.weaken (fun _ _ _ _ => trivial), nw_warm hW hN⟩⟩
theorem fm_of_map {α : Type} {f : Nat → Option α} : ∀ {is : List Nat} {l : List α}, is.map f = l.map some → is.filterMap f = l
  | [], [], _ => rfl
  | [], _ :: _, h => by cases h
  | _ :: _, [], h => by cases h
  | i :: is, a :: l, h => by
    rw [List.map_cons, List.map_cons] at h
    obtain ⟨h1, h2⟩ := List.cons.inj h
    rw [List.filterMap_cons_some h1, fm_of_map h2]
theorem it_t {α : Type} {c : Prop} {d : Decidable c} {a b r : α} (hc : c) (h : @ite α c d a b = r) : a = r := (if_pos hc).symm.trans h
theorem it_f {α : Type} {c : Prop} {d : Decidable c} {a b r : α} (hc : ¬ c) (h : @ite α c d a b = r) : b = r := (if_neg hc).symm.trans h
def ai {β : Type} (n : Nat) (i : Int32) (x : Option β) : Option β := if i < 0 ∨ n ≤ i.toNatClampNeg then none else x
theorem ai_ok {β : Type} {n : Nat} {i : Int32} {x : Option β} {r : β} (h : ai n i x = some r) : vp_in i n ∧ x = some r := by
  unfold ai at h
  by_cases q : i < 0 ∨ n ≤ i.toNatClampNeg
  · rw [if_pos q] at h; cases h
  · rw [if_neg q] at h; exact ⟨q, h⟩
def bo {β : Type} (v : Int32) (x : Option β) : Option β := if v = 0 ∨ v = 1 then x else none
theorem bo_ok {β : Type} {v : Int32} {x : Option β} {r : β} (h : bo v x = some r) : narrow .boolean (.int v) = .int v ∧ x = some r := by
  unfold bo at h
  by_cases q : v = 0 ∨ v = 1
  · rw [if_pos q] at h
    refine ⟨?_, h⟩
    rcases q with rfl | rfl <;> rfl
  · rw [if_neg q] at h; cases h
def bl {α β : Type} (x : α) (k : α → β) : β := k x
theorem bl_ok {α β : Type} {x y : α} {k : α → β} {r : β} (e : y = x) (h : bl x k = r) : k y = r := by rw [e]; exact h
def bn1 {α β : Type} (x : Option α) (k : α → Option β) : Option β := match x with
  | none => none
  | some a => k a
theorem bn1_ok {α β : Type} {x : Option α} {k : α → Option β} {r : β} (h : bn1 x k = some r) : ∃ a, x = some a ∧ k a = some r := by
  cases x with
  | none => cases h
  | some a => exact ⟨a, rfl, h⟩
def bn2 {α α2 β : Type} (x : Option (α × α2)) (k : α → α2 → Option β) : Option β := match x with
  | none => none
  | some a => k a.1 a.2
theorem bn2_ok {α α2 β : Type} {x : Option (α × α2)} {k : α → α2 → Option β} {r : β} (h : bn2 x k = some r) : ∃ a b, x = some (a, b) ∧ k a b = some r := by
  cases x with
  | none => cases h
  | some a => exact ⟨a.1, a.2, rfl, h⟩
def bn3 {α α2 α3 β : Type} (x : Option (α × α2 × α3)) (k : α → α2 → α3 → Option β) : Option β := match x with
  | none => none
  | some a => k a.1 a.2.1 a.2.2
theorem bn3_ok {α α2 α3 β : Type} {x : Option (α × α2 × α3)} {k : α → α2 → α3 → Option β} {r : β} (h : bn3 x k = some r) : ∃ a b c, x = some (a, b, c) ∧ k a b c = some r := by
  cases x with
  | none => cases h
  | some a => exact ⟨a.1, a.2.1, a.2.2, rfl, h⟩
def bn4 {α α2 α3 α4 β : Type} (x : Option (α × α2 × α3 × α4)) (k : α → α2 → α3 → α4 → Option β) : Option β := match x with
  | none => none
  | some a => k a.1 a.2.1 a.2.2.1 a.2.2.2
theorem bn4_ok {α α2 α3 α4 β : Type} {x : Option (α × α2 × α3 × α4)} {k : α → α2 → α3 → α4 → Option β} {r : β} (h : bn4 x k = some r) : ∃ a b c d, x = some (a, b, c, d) ∧ k a b c d = some r := by
  cases x with
  | none => cases h
  | some a => exact ⟨a.1, a.2.1, a.2.2.1, a.2.2.2, rfl, h⟩
def bn5 {α α2 α3 α4 α5 β : Type} (x : Option (α × α2 × α3 × α4 × α5)) (k : α → α2 → α3 → α4 → α5 → Option β) : Option β := match x with
  | none => none
  | some a => k a.1 a.2.1 a.2.2.1 a.2.2.2.1 a.2.2.2.2
theorem bn5_ok {α α2 α3 α4 α5 β : Type} {x : Option (α × α2 × α3 × α4 × α5)} {k : α → α2 → α3 → α4 → α5 → Option β} {r : β} (h : bn5 x k = some r) : ∃ a b c d e, x = some (a, b, c, d, e) ∧ k a b c d e = some r := by
  cases x with
  | none => cases h
  | some a => exact ⟨a.1, a.2.1, a.2.2.1, a.2.2.2.1, a.2.2.2.2, rfl, h⟩
def bn6 {α α2 α3 α4 α5 α6 β : Type} (x : Option (α × α2 × α3 × α4 × α5 × α6)) (k : α → α2 → α3 → α4 → α5 → α6 → Option β) : Option β := match x with
  | none => none
  | some a => k a.1 a.2.1 a.2.2.1 a.2.2.2.1 a.2.2.2.2.1 a.2.2.2.2.2
theorem bn6_ok {α α2 α3 α4 α5 α6 β : Type} {x : Option (α × α2 × α3 × α4 × α5 × α6)} {k : α → α2 → α3 → α4 → α5 → α6 → Option β} {r : β} (h : bn6 x k = some r) : ∃ a b c d e f, x = some (a, b, c, d, e, f) ∧ k a b c d e f = some r := by
  cases x with
  | none => cases h
  | some a => exact ⟨a.1, a.2.1, a.2.2.1, a.2.2.2.1, a.2.2.2.2.1, a.2.2.2.2.2, rfl, h⟩
def bn7 {α α2 α3 α4 α5 α6 α7 β : Type} (x : Option (α × α2 × α3 × α4 × α5 × α6 × α7)) (k : α → α2 → α3 → α4 → α5 → α6 → α7 → Option β) : Option β := match x with
  | none => none
  | some a => k a.1 a.2.1 a.2.2.1 a.2.2.2.1 a.2.2.2.2.1 a.2.2.2.2.2.1 a.2.2.2.2.2.2
theorem bn7_ok {α α2 α3 α4 α5 α6 α7 β : Type} {x : Option (α × α2 × α3 × α4 × α5 × α6 × α7)} {k : α → α2 → α3 → α4 → α5 → α6 → α7 → Option β} {r : β} (h : bn7 x k = some r) : ∃ a b c d e f g, x = some (a, b, c, d, e, f, g) ∧ k a b c d e f g = some r := by
  cases x with
  | none => cases h
  | some a => exact ⟨a.1, a.2.1, a.2.2.1, a.2.2.2.1, a.2.2.2.2.1, a.2.2.2.2.2.1, a.2.2.2.2.2.2, rfl, h⟩
section GC
variable {p : Program} {l : Launch} {e : Env} {R : Room} {s : State} {m : MethodId} {args : Array Value} {below : List Frame} {meth : Method} {c : Code} {H H0 : Heap} {locs : List Loc} {cells slots : Nat} {Q : State → Prop} {D : va_G} {A : Nat → Prop} {tyc : List (ClassId × FieldType)} {ws wc wr w1 ws' : va_W} {pc : Nat} {ls : Array Slot} {st0 rest : List Value} {a : Array Value}
theorem gc_i {r : Int32} (hP : va_P D vwCl ws H) (hD : va_D A ws) (hS : va_S A H0 H locs) (hA : ∀ q : Nat, H0.size ≤ q → A q)
    (isC isR isB : List Nat) (hC : isC.map (fun i => ws[i]?) = wc.map some) (hR : isR.map (fun i => ws[i]?) = wr.map some) (hn : va_nd isR = true) (hdis : ∀ i ∈ isR, i ∉ isC) (hB : isB.map (fun i => (wr ++ w1)[i]?) = ws'.map some) (hnB : va_nd isB = true)
    (hr : va_Run p l e R s m args below meth c H locs cells slots 0 0 (F0 m pc ls st0) rest (va_Qi (fun (r' : Int32) (_ : Unit) => r' = r) (post_w D w1 tyc (va_A wc H.size)) (va_A wc H.size) a) (va_A wc H.size))
    (kk : ∀ (H1 : Heap) (locs1 : List Loc), va_P D vwCl ws' H1 → va_D A ws' → va_S A H0 H1 locs1 → W p l e R s m args below meth c H1 locs1 cells slots Q (F0 m (pc + 3) ls (.int r :: rest))) : W p l e R s m args below meth c H locs cells slots Q (F0 m pc ls st0) := by
  have hF := va_free hD hS hA isC hC
  refine va_calli hr hS (fun q _ h => hF q h) hF (fun r' u t H1 locs1 ht hvm hw hB2 hz hk hS1 => ?_)
  obtain ⟨hP1, -, hD1⟩ := hB2
  rw [ht] at hP1
  obtain ⟨hP2, hD2⟩ := va_join hP hD isC isR hC hR hn hdis hk hF hP1 hD1
  rw [hw]
  exact kk H1 locs1 (hP2.sub isB (fm_of_map hB)) (hD2.sub isB hnB hB) hS1
theorem gc_v (hP : va_P D vwCl ws H) (hD : va_D A ws) (hS : va_S A H0 H locs) (hA : ∀ q : Nat, H0.size ≤ q → A q)
    (isC isR isB : List Nat) (hC : isC.map (fun i => ws[i]?) = wc.map some) (hR : isR.map (fun i => ws[i]?) = wr.map some) (hn : va_nd isR = true) (hdis : ∀ i ∈ isR, i ∉ isC) (hB : isB.map (fun i => (wr ++ w1)[i]?) = ws'.map some) (hnB : va_nd isB = true)
    (hr : va_Run p l e R s m args below meth c H locs cells slots 0 0 (F0 m pc ls st0) rest (va_Qv (fun (_ : Unit) => True) (post_w D w1 tyc (va_A wc H.size)) (va_A wc H.size) a) (va_A wc H.size))
    (kk : ∀ (H1 : Heap) (locs1 : List Loc), va_P D vwCl ws' H1 → va_D A ws' → va_S A H0 H1 locs1 → W p l e R s m args below meth c H1 locs1 cells slots Q (F0 m (pc + 3) ls rest)) : W p l e R s m args below meth c H locs cells slots Q (F0 m pc ls st0) := by
  have hF := va_free hD hS hA isC hC
  refine va_callv hr hS (fun q _ h => hF q h) hF (fun u t H1 locs1 ht hvm hw hB2 hz hk hS1 => ?_)
  obtain ⟨hP1, -, hD1⟩ := hB2
  rw [ht] at hP1
  obtain ⟨hP2, hD2⟩ := va_join hP hD isC isR hC hR hn hdis hk hF hP1 hD1
  exact kk H1 locs1 (hP2.sub isB (fm_of_map hB)) (hD2.sub isB hnB hB) hS1
end GC
section GM
variable {l : Launch} {y : MethodName} {ws ws' : List Cond} {rm : Room} {cc : ByteArray} {maxL : Nat} {av : List Value} {w0 w1 : va_W} {tys : List (ClassId × FieldType)} {D : va_G} {sz : Nat}
theorem gm_i {r : Int32} (hy : plainName y.cls = true) (hw : ws = Cond.code y cc maxL (some .int) :: ws') (hav : (lg_sl av).length ≤ maxL)
    (body : ∀ (p : Program) (e : Env) (s : State) (m : MethodId) (below : List Frame) (meth : Method) (c : Code) (A : Nat → Prop) (QQ : State → Prop) (ls : Array Slot),
      p.tables.exec = Jvm.exec → c.code = cc → c.maxLocals = maxL → s.vm.findClass y.cls = some m.cls → (∀ w ∈ ws, w.before av.toArray s = true) → va_K D vwCl tys s → nw s → (∀ q : Nat, s.heap.size ≤ q → A q) → va_P D vwCl w0 s.heap → va_D A w0 → va_S A s.heap s.heap [] → lv_has ls maxL (lv_args 0 av) →
      (∀ (H : Heap) (locs : List Loc) (pc : Nat) (ls : Array Slot) (v : Int32) (w : va_W), v = r → w = w1 → decode cc pc = .ok (.ireturn, 1) → va_P D vwCl w H → va_D A w → va_S A s.heap H locs → W p l e rm s m av.toArray below meth c H locs 0 0 QQ (F0 m pc ls [.int v])) →
      W p l e rm s m av.toArray below meth c s.heap [] 0 0 QQ (F0 m 0 ls [])) :
    Met l y ws rm (va_Pc av (pre_w D w0 tys sz)) (va_Qi (fun (r' : Int32) (_ : Unit) => r' = r) (post_w D w1 tys (va_A w0 sz)) (va_A w0 sz)) 0 0 (va_A w0 sz) := by
  refine Met.ofW (cc := cc) (maxL := maxL) (ret := some .int) hy hw ?_
  intro p e s m args below meth c s₁ B hml hv
  obtain ⟨rfl, hsz, hP, hK, hD0, hN⟩ := hv
  have hx := B.exec
  have hb := B.bytes
  have hr := B.returns
  have hts := atoms_spec (ws := ws) B.pre
  have hown : s.vm.findClass y.cls = some m.cls := findClass_of_methodNamed B.named
  have hlocks := B.notSynchronized
  subst hsz
  have hD := hD0.self (sz := s.heap.size)
  have hl := lv_entry av (n := maxL) hav
  rw [lg_entry_eq]
  refine body p e s m below meth c (va_A w0 s.heap.size) _ _ hx hb hml hown hts hK hN (fun q h => Or.inr h) hP hD va_S.rf hl ?_
  intro H locs pc ls v w hvr hww hdg hP' hD' hS'
  subst hvr
  subst hww
  exact W.iret (v := v) hx hb hr (fun t ht hW => ⟨⟨v, (), rfl, rfl, by rw [ht]; exact hP', va_K.moved hW.alike hK, hD'⟩, hS'.F ht⟩) hS'.2.2 hdg
theorem gm_z {r : Int32} (hy : plainName y.cls = true) (hw : ws = Cond.code y cc maxL (some .boolean) :: ws') (hav : (lg_sl av).length ≤ maxL)
    (body : ∀ (p : Program) (e : Env) (s : State) (m : MethodId) (below : List Frame) (meth : Method) (c : Code) (A : Nat → Prop) (QQ : State → Prop) (ls : Array Slot),
      p.tables.exec = Jvm.exec → c.code = cc → c.maxLocals = maxL → s.vm.findClass y.cls = some m.cls → (∀ w ∈ ws, w.before av.toArray s = true) → va_K D vwCl tys s → nw s → (∀ q : Nat, s.heap.size ≤ q → A q) → va_P D vwCl w0 s.heap → va_D A w0 → va_S A s.heap s.heap [] → lv_has ls maxL (lv_args 0 av) →
      (∀ (H : Heap) (locs : List Loc) (pc : Nat) (ls : Array Slot) (v : Int32) (w : va_W), narrow .boolean (.int v) = .int v → v = r → w = w1 → decode cc pc = .ok (.ireturn, 1) → va_P D vwCl w H → va_D A w → va_S A s.heap H locs → W p l e rm s m av.toArray below meth c H locs 0 0 QQ (F0 m pc ls [.int v])) →
      W p l e rm s m av.toArray below meth c s.heap [] 0 0 QQ (F0 m 0 ls [])) :
    Met l y ws rm (va_Pc av (pre_w D w0 tys sz)) (va_Qi (fun (r' : Int32) (_ : Unit) => r' = r) (post_w D w1 tys (va_A w0 sz)) (va_A w0 sz)) 0 0 (va_A w0 sz) := by
  refine Met.ofW (cc := cc) (maxL := maxL) (ret := some .boolean) hy hw ?_
  intro p e s m args below meth c s₁ B hml hv
  obtain ⟨rfl, hsz, hP, hK, hD0, hN⟩ := hv
  have hx := B.exec
  have hb := B.bytes
  have hr := B.returns
  have hts := atoms_spec (ws := ws) B.pre
  have hown : s.vm.findClass y.cls = some m.cls := findClass_of_methodNamed B.named
  have hlocks := B.notSynchronized
  subst hsz
  have hD := hD0.self (sz := s.heap.size)
  have hl := lv_entry av (n := maxL) hav
  rw [lg_entry_eq]
  refine body p e s m below meth c (va_A w0 s.heap.size) _ _ hx hb hml hown hts hK hN (fun q h => Or.inr h) hP hD va_S.rf hl ?_
  intro H locs pc ls v w hn hvr hww hdg hP' hD' hS'
  subst hvr
  subst hww
  exact W.zret (v := v) (ty := .boolean) hx hb hr hn (fun t ht hW => ⟨⟨v, (), rfl, rfl, by rw [ht]; exact hP', va_K.moved hW.alike hK, hD'⟩, hS'.F ht⟩) hS'.2.2 hdg
theorem gm_v (hy : plainName y.cls = true) (hw : ws = Cond.code y cc maxL none :: ws') (hav : (lg_sl av).length ≤ maxL)
    (body : ∀ (p : Program) (e : Env) (s : State) (m : MethodId) (below : List Frame) (meth : Method) (c : Code) (A : Nat → Prop) (QQ : State → Prop) (ls : Array Slot),
      p.tables.exec = Jvm.exec → c.code = cc → c.maxLocals = maxL → s.vm.findClass y.cls = some m.cls → (∀ w ∈ ws, w.before av.toArray s = true) → va_K D vwCl tys s → nw s → (∀ q : Nat, s.heap.size ≤ q → A q) → va_P D vwCl w0 s.heap → va_D A w0 → va_S A s.heap s.heap [] → lv_has ls maxL (lv_args 0 av) →
      (∀ (H : Heap) (locs : List Loc) (pc : Nat) (ls : Array Slot) (w : va_W), w = w1 → decode cc pc = .ok (.return_, 1) → va_P D vwCl w H → va_D A w → va_S A s.heap H locs → W p l e rm s m av.toArray below meth c H locs 0 0 QQ (F0 m pc ls [])) →
      W p l e rm s m av.toArray below meth c s.heap [] 0 0 QQ (F0 m 0 ls [])) :
    Met l y ws rm (va_Pc av (pre_w D w0 tys sz)) (va_Qv (fun (_ : Unit) => True) (post_w D w1 tys (va_A w0 sz)) (va_A w0 sz)) 0 0 (va_A w0 sz) := by
  refine Met.ofW (cc := cc) (maxL := maxL) (ret := none) hy hw ?_
  intro p e s m args below meth c s₁ B hml hv
  obtain ⟨rfl, hsz, hP, hK, hD0, hN⟩ := hv
  have hx := B.exec
  have hb := B.bytes
  have hr := B.returns
  have hts := atoms_spec (ws := ws) B.pre
  have hown : s.vm.findClass y.cls = some m.cls := findClass_of_methodNamed B.named
  have hlocks := B.notSynchronized
  subst hsz
  have hD := hD0.self (sz := s.heap.size)
  have hl := lv_entry av (n := maxL) hav
  rw [lg_entry_eq]
  refine body p e s m below meth c (va_A w0 s.heap.size) _ _ hx hb hml hown hts hK hN (fun q h => Or.inr h) hP hD va_S.rf hl ?_
  intro H locs pc ls w hww hdg hP' hD' hS'
  subst hww
  exact W.vret hx hb hr (fun t ht hW => ⟨⟨(), rfl, trivial, by rw [ht]; exact hP', va_K.moved hW.alike hK, hD'⟩, hS'.F ht⟩) hS'.2.2 hdg
end GM
section GMC
variable {l : Launch} {y : MethodName} {ws ws' : List Cond} {rm : Room} {cc : ByteArray} {maxL : Nat} {av : List Value} {w0 : va_W} {tys : List (ClassId × FieldType)} {D : va_G} {sz : Nat}
theorem gm_c {U : Type} {mc ms : Nat} {w1 : U → va_W} (hy : plainName y.cls = true) (hw : ws = Cond.code y cc maxL none :: ws') (hnm : y.name = "<init>") (hav : (lg_sl av).length ≤ maxL)
    (body : ∀ (p : Program) (e : Env) (s : State) (m : MethodId) (below : List Frame) (meth : Method) (c : Code) (A : Nat → Prop) (QQ : State → Prop) (ls : Array Slot),
      p.tables.exec = Jvm.exec → c.code = cc → c.maxLocals = maxL → s.vm.findClass y.cls = some m.cls → (∀ w ∈ ws, w.before av.toArray s = true) → meth.name = "<init>" → va_K D vwCl tys s → nw s → (∀ q : Nat, s.heap.size ≤ q → A q) → va_P D vwCl w0 s.heap → va_D A w0 → va_S A s.heap s.heap [] → lv_has ls maxL (lv_args 0 av) →
      (∀ (H : Heap) (locs : List Loc) (pc : Nat) (ls : Array Slot) (u : U), decode cc pc = .ok (.return_, 1) → va_P D vwCl (w1 u) H → va_D A (w1 u) → va_S A s.heap H locs → W p l e rm s m av.toArray below meth c H locs mc ms QQ (F0 m pc ls [])) →
      W p l e rm s m av.toArray below meth c s.heap [] 0 0 QQ (F0 m 0 ls [])) :
    Met l y ws rm (va_Pc av (pre_w D w0 tys sz)) (va_Qv (fun (_ : U) => True) (fun u t => post_w D (w1 u) tys (va_A w0 sz) () t) (va_A w0 sz)) mc ms (va_A w0 sz) := by
  refine Met.ofW (cc := cc) (maxL := maxL) (ret := none) hy hw ?_
  intro p e s m args below meth c s₁ B hml hv
  obtain ⟨rfl, hsz, hP, hK, hD0, hN⟩ := hv
  have hx := B.exec
  have hb := B.bytes
  have hr := B.returns
  have hts := atoms_spec (ws := ws) B.pre
  have hown : s.vm.findClass y.cls = some m.cls := findClass_of_methodNamed B.named
  have hlocks := B.notSynchronized
  have hin : meth.name = "<init>" := ((name_of_methodNamed B.named B.method).1).trans hnm
  subst hsz
  have hD := hD0.self (sz := s.heap.size)
  have hl := lv_entry av (n := maxL) hav
  rw [lg_entry_eq]
  refine body p e s m below meth c (va_A w0 s.heap.size) _ _ hx hb hml hown hts hin hK hN (fun q h => Or.inr h) hP hD va_S.rf hl ?_
  intro H locs pc ls u hdg hP' hD' hS'
  exact W.vret hx hb hr (fun t ht hW => ⟨⟨u, rfl, trivial, by rw [ht]; exact hP', va_K.moved hW.alike hK, hD'⟩, hS'.F ht⟩) hS'.2.2 hdg
end GMC
section GCC
variable {p : Program} {l : Launch} {e : Env} {R : Room} {s : State} {m : MethodId} {args : Array Value} {below : List Frame} {meth : Method} {c : Code} {H H0 : Heap} {locs : List Loc} {cells slots : Nat} {Q : State → Prop} {D : va_G} {A : Nat → Prop} {tyc : List (ClassId × FieldType)} {ws wc wr : va_W} {pc : Nat} {ls : Array Slot} {st0 rest : List Value} {a : Array Value}
theorem gc_c {U : Type} {w1 : U → va_W} {mc ms : Nat} (hP : va_P D vwCl ws H) (hD : va_D A ws) (hS : va_S A H0 H locs) (hA : ∀ q : Nat, H0.size ≤ q → A q)
    (isC isR : List Nat) (hC : isC.map (fun i => ws[i]?) = wc.map some) (hR : isR.map (fun i => ws[i]?) = wr.map some) (hn : va_nd isR = true) (hdis : ∀ i ∈ isR, i ∉ isC)
    (hr : va_Run p l e R s m args below meth c H locs cells slots mc ms (F0 m pc ls st0) rest (va_Qv (fun (_ : U) => True) (fun u t => post_w D (w1 u) tyc (va_A wc H.size) () t) (va_A wc H.size) a) (va_A wc H.size))
    (kk : ∀ (u : U) (H1 : Heap) (locs1 : List Loc), va_P D vwCl (wr ++ w1 u) H1 → va_D A (wr ++ w1 u) → va_S A H0 H1 locs1 → W p l e R s m args below meth c H1 locs1 (cells + mc) (slots + ms) Q (F0 m (pc + 3) ls rest)) : W p l e R s m args below meth c H locs cells slots Q (F0 m pc ls st0) := by
  have hF := va_free hD hS hA isC hC
  refine va_callv hr hS (fun q _ h => hF q h) hF (fun u t H1 locs1 ht hvm hw hB2 hz hk hS1 => ?_)
  obtain ⟨hP1, -, hD1⟩ := hB2
  rw [ht] at hP1
  obtain ⟨hP2, hD2⟩ := va_join hP hD isC isR hC hR hn hdis hk hF hP1 hD1
  exact kk u H1 locs1 hP2 hD2 hS1
theorem rk_same {cA cB : ClassId} {tys : List (ClassId × FieldType)} {ty : FieldType} (hK : va_K D vwCl tys s) (i j : Nat) (hi : tys[i]? = some (cA, ty)) (hj : tys[j]? = some (cB, ty)) (hp : ∀ C : String, ty ≠ .object C) : cA = cB := by
  have h1 := (hK.2 i _ hi).2
  have h2 := (hK.2 j _ hj).2
  cases ty <;> first | exact absurd rfl (hp _) | exact Option.some.inj (h1.symm.trans h2)
end GCC
end
section
abbrev S0 : Type := Int32 × Int32 × Int32 × Int32 × Int32 × Int32
def S0_reach (s : S0) : Int32 := s.1
def S0_result (s : S0) : Int32 := s.2.1
def S0_group (s : S0) : Int32 := s.2.2.1
def S0_target (s : S0) : Int32 := s.2.2.2.1
def S0_openPhrase (s : S0) : Int32 := s.2.2.2.2.1
def S0_choice (s : S0) : Int32 := s.2.2.2.2.2
def S0_set_reach (s : S0) (v : Int32) : S0 := (v, s.2.1, s.2.2.1, s.2.2.2.1, s.2.2.2.2.1, s.2.2.2.2.2)
def S0_set_result (s : S0) (v : Int32) : S0 := (s.1, v, s.2.2.1, s.2.2.2.1, s.2.2.2.2.1, s.2.2.2.2.2)
def S0_set_group (s : S0) (v : Int32) : S0 := (s.1, s.2.1, v, s.2.2.2.1, s.2.2.2.2.1, s.2.2.2.2.2)
def S0_set_target (s : S0) (v : Int32) : S0 := (s.1, s.2.1, s.2.2.1, v, s.2.2.2.2.1, s.2.2.2.2.2)
def S0_set_openPhrase (s : S0) (v : Int32) : S0 := (s.1, s.2.1, s.2.2.1, s.2.2.2.1, v, s.2.2.2.2.2)
def S0_set_choice (s : S0) (v : Int32) : S0 := (s.1, s.2.1, s.2.2.1, s.2.2.2.1, s.2.2.2.2.1, v)
abbrev S1 : Type := Int32 × Int32 × Int32 × Int32 × Int32
def S1_lastVerb (s : S1) : Int32 := s.1
def S1_lastMeant (s : S1) : Int32 := s.2.1
def S1_lastDone (s : S1) : Int32 := s.2.2.1
def S1_lastTarget (s : S1) : Int32 := s.2.2.2.1
def S1_lastAlone (s : S1) : Int32 := s.2.2.2.2
def S1_set_lastVerb (s : S1) (v : Int32) : S1 := (v, s.2.1, s.2.2.1, s.2.2.2.1, s.2.2.2.2)
def S1_set_lastMeant (s : S1) (v : Int32) : S1 := (s.1, v, s.2.2.1, s.2.2.2.1, s.2.2.2.2)
def S1_set_lastDone (s : S1) (v : Int32) : S1 := (s.1, s.2.1, v, s.2.2.2.1, s.2.2.2.2)
def S1_set_lastTarget (s : S1) (v : Int32) : S1 := (s.1, s.2.1, s.2.2.1, v, s.2.2.2.2)
def S1_set_lastAlone (s : S1) (v : Int32) : S1 := (s.1, s.2.1, s.2.2.1, s.2.2.2.1, v)
abbrev S2 : Type := Int32 × Int32 × (Nat → Int32) × (Nat → Int32) × (Nat → Int32) × (Nat → Int32) × (Nat → Int32) × (Nat → Int32)
def S2_orderVerb (s : S2) : Int32 := s.1
def S2_count (s : S2) : Int32 := s.2.1
def S2_roles (s : S2) : (Nat → Int32) := s.2.2.1
def S2_kinds (s : S2) : (Nat → Int32) := s.2.2.2.1
def S2_adjectiveSets (s : S2) : (Nat → Int32) := s.2.2.2.2.1
def S2_nouns (s : S2) : (Nat → Int32) := s.2.2.2.2.2.1
def S2_lastPlaces (s : S2) : (Nat → Int32) := s.2.2.2.2.2.2.1
def S2_answers (s : S2) : (Nat → Int32) := s.2.2.2.2.2.2.2
def S2_set_orderVerb (s : S2) (v : Int32) : S2 := (v, s.2.1, s.2.2.1, s.2.2.2.1, s.2.2.2.2.1, s.2.2.2.2.2.1, s.2.2.2.2.2.2.1, s.2.2.2.2.2.2.2)
def S2_set_count (s : S2) (v : Int32) : S2 := (s.1, v, s.2.2.1, s.2.2.2.1, s.2.2.2.2.1, s.2.2.2.2.2.1, s.2.2.2.2.2.2.1, s.2.2.2.2.2.2.2)
def S2_set_roles (s : S2) (v : (Nat → Int32)) : S2 := (s.1, s.2.1, v, s.2.2.2.1, s.2.2.2.2.1, s.2.2.2.2.2.1, s.2.2.2.2.2.2.1, s.2.2.2.2.2.2.2)
def S2_set_kinds (s : S2) (v : (Nat → Int32)) : S2 := (s.1, s.2.1, s.2.2.1, v, s.2.2.2.2.1, s.2.2.2.2.2.1, s.2.2.2.2.2.2.1, s.2.2.2.2.2.2.2)
def S2_set_adjectiveSets (s : S2) (v : (Nat → Int32)) : S2 := (s.1, s.2.1, s.2.2.1, s.2.2.2.1, v, s.2.2.2.2.2.1, s.2.2.2.2.2.2.1, s.2.2.2.2.2.2.2)
def S2_set_nouns (s : S2) (v : (Nat → Int32)) : S2 := (s.1, s.2.1, s.2.2.1, s.2.2.2.1, s.2.2.2.2.1, v, s.2.2.2.2.2.2.1, s.2.2.2.2.2.2.2)
def S2_set_lastPlaces (s : S2) (v : (Nat → Int32)) : S2 := (s.1, s.2.1, s.2.2.1, s.2.2.2.1, s.2.2.2.2.1, s.2.2.2.2.2.1, v, s.2.2.2.2.2.2.2)
def S2_set_answers (s : S2) (v : (Nat → Int32)) : S2 := (s.1, s.2.1, s.2.2.1, s.2.2.2.1, s.2.2.2.2.1, s.2.2.2.2.2.1, s.2.2.2.2.2.2.1, v)
abbrev S3 : Type := (Nat → Int32) × Int32 × Int32 × Int32 × Int32
def S3_given (s : S3) : (Nat → Int32) := s.1
def S3_count (s : S3) : Int32 := s.2.1
def S3_place (s : S3) : Int32 := s.2.2.1
def S3_adjectives (s : S3) : Int32 := s.2.2.2.1
def S3_noun (s : S3) : Int32 := s.2.2.2.2
def S3_set_given (s : S3) (v : (Nat → Int32)) : S3 := (v, s.2.1, s.2.2.1, s.2.2.2.1, s.2.2.2.2)
def S3_set_count (s : S3) (v : Int32) : S3 := (s.1, v, s.2.2.1, s.2.2.2.1, s.2.2.2.2)
def S3_set_place (s : S3) (v : Int32) : S3 := (s.1, s.2.1, v, s.2.2.2.1, s.2.2.2.2)
def S3_set_adjectives (s : S3) (v : Int32) : S3 := (s.1, s.2.1, s.2.2.1, v, s.2.2.2.2)
def S3_set_noun (s : S3) (v : Int32) : S3 := (s.1, s.2.1, s.2.2.1, s.2.2.2.1, v)
abbrev S4 : Type := (Nat → Int32) × (Nat → Int32) × (Nat → Int32) × Int32 × Int32 × Int32
def S4_nouns (s : S4) : (Nat → Int32) := s.1
def S4_adjectiveSets (s : S4) : (Nat → Int32) := s.2.1
def S4_holders (s : S4) : (Nat → Int32) := s.2.2.1
def S4_count (s : S4) : Int32 := s.2.2.2.1
def S4_boxes (s : S4) : Int32 := s.2.2.2.2.1
def S4_openBoxes (s : S4) : Int32 := s.2.2.2.2.2
def S4_set_nouns (s : S4) (v : (Nat → Int32)) : S4 := (v, s.2.1, s.2.2.1, s.2.2.2.1, s.2.2.2.2.1, s.2.2.2.2.2)
def S4_set_adjectiveSets (s : S4) (v : (Nat → Int32)) : S4 := (s.1, v, s.2.2.1, s.2.2.2.1, s.2.2.2.2.1, s.2.2.2.2.2)
def S4_set_holders (s : S4) (v : (Nat → Int32)) : S4 := (s.1, s.2.1, v, s.2.2.2.1, s.2.2.2.2.1, s.2.2.2.2.2)
def S4_set_count (s : S4) (v : Int32) : S4 := (s.1, s.2.1, s.2.2.1, v, s.2.2.2.2.1, s.2.2.2.2.2)
def S4_set_boxes (s : S4) (v : Int32) : S4 := (s.1, s.2.1, s.2.2.1, s.2.2.2.1, v, s.2.2.2.2.2)
def S4_set_openBoxes (s : S4) (v : Int32) : S4 := (s.1, s.2.1, s.2.2.1, s.2.2.2.1, s.2.2.2.2.1, v)
abbrev S5 : Type := Int32 × Int32 × Int32 × Int32 × Int32
def S5_lastOutcome (s : S5) : Int32 := s.1
def S5_wrongPlace (s : S5) : Int32 := s.2.1
def S5_askedThings (s : S5) : Int32 := s.2.2.1
def S5_askedPhrase (s : S5) : Int32 := s.2.2.2.1
def S5_questionCount (s : S5) : Int32 := s.2.2.2.2
def S5_set_lastOutcome (s : S5) (v : Int32) : S5 := (v, s.2.1, s.2.2.1, s.2.2.2.1, s.2.2.2.2)
def S5_set_wrongPlace (s : S5) (v : Int32) : S5 := (s.1, v, s.2.2.1, s.2.2.2.1, s.2.2.2.2)
def S5_set_askedThings (s : S5) (v : Int32) : S5 := (s.1, s.2.1, v, s.2.2.2.1, s.2.2.2.2)
def S5_set_askedPhrase (s : S5) (v : Int32) : S5 := (s.1, s.2.1, s.2.2.1, v, s.2.2.2.2)
def S5_set_questionCount (s : S5) (v : Int32) : S5 := (s.1, s.2.1, s.2.2.1, s.2.2.2.1, v)
abbrev S6 : Type := Int32 × (Nat → Int32) × (Nat → Int32) × (Nat → Int32) × (Nat → Int32) × (Nat → Int32) × Int32 × (Nat → Int32) × Int32 × Int32 × Int32 × Int32 × Int32 × Int32 × Int32 × Int32 × Int32 × (Nat → Int32) × (Nat → Int32) × Int32 × Int32 × Int32 × Int32 × Int32 × Int32
def S6_things (s : S6) : Int32 := s.1
def S6_noun (s : S6) : (Nat → Int32) := s.2.1
def S6_adjectives (s : S6) : (Nat → Int32) := s.2.2.1
def S6_box (s : S6) : (Nat → Int32) := s.2.2.2.1
def S6_open (s : S6) : (Nat → Int32) := s.2.2.2.2.1
def S6_place (s : S6) : (Nat → Int32) := s.2.2.2.2.2.1
def S6_count (s : S6) : Int32 := s.2.2.2.2.2.2.1
def S6_words (s : S6) : (Nat → Int32) := s.2.2.2.2.2.2.2.1
def S6_outcome (s : S6) : Int32 := s.2.2.2.2.2.2.2.2.1
def S6_wrongAt (s : S6) : Int32 := s.2.2.2.2.2.2.2.2.2.1
def S6_verb (s : S6) : Int32 := s.2.2.2.2.2.2.2.2.2.2.1
def S6_meant (s : S6) : Int32 := s.2.2.2.2.2.2.2.2.2.2.2.1
def S6_done (s : S6) : Int32 := s.2.2.2.2.2.2.2.2.2.2.2.2.1
def S6_into (s : S6) : Int32 := s.2.2.2.2.2.2.2.2.2.2.2.2.2.1
def S6_it (s : S6) : Int32 := s.2.2.2.2.2.2.2.2.2.2.2.2.2.2.1
def S6_questions (s : S6) : Int32 := s.2.2.2.2.2.2.2.2.2.2.2.2.2.2.2.1
def S6_length (s : S6) : Int32 := s.2.2.2.2.2.2.2.2.2.2.2.2.2.2.2.2.1
def S6_order (s : S6) : (Nat → Int32) := s.2.2.2.2.2.2.2.2.2.2.2.2.2.2.2.2.2.1
def S6_answer (s : S6) : (Nat → Int32) := s.2.2.2.2.2.2.2.2.2.2.2.2.2.2.2.2.2.2.1
def S6_asked (s : S6) : Int32 := s.2.2.2.2.2.2.2.2.2.2.2.2.2.2.2.2.2.2.2.1
def S6_askedAt (s : S6) : Int32 := s.2.2.2.2.2.2.2.2.2.2.2.2.2.2.2.2.2.2.2.2.1
def S6_at (s : S6) : Int32 := s.2.2.2.2.2.2.2.2.2.2.2.2.2.2.2.2.2.2.2.2.2.1
def S6_failedAt (s : S6) : Int32 := s.2.2.2.2.2.2.2.2.2.2.2.2.2.2.2.2.2.2.2.2.2.2.1
def S6_choice (s : S6) : Int32 := s.2.2.2.2.2.2.2.2.2.2.2.2.2.2.2.2.2.2.2.2.2.2.2.1
def S6_thrown (s : S6) : Int32 := s.2.2.2.2.2.2.2.2.2.2.2.2.2.2.2.2.2.2.2.2.2.2.2.2
def S6_set_things (s : S6) (v : Int32) : S6 := (v, s.2.1, s.2.2.1, s.2.2.2.1, s.2.2.2.2.1, s.2.2.2.2.2.1, s.2.2.2.2.2.2.1, s.2.2.2.2.2.2.2.1, s.2.2.2.2.2.2.2.2.1, s.2.2.2.2.2.2.2.2.2.1, s.2.2.2.2.2.2.2.2.2.2.1, s.2.2.2.2.2.2.2.2.2.2.2.1, s.2.2.2.2.2.2.2.2.2.2.2.2.1, s.2.2.2.2.2.2.2.2.2.2.2.2.2.1, s.2.2.2.2.2.2.2.2.2.2.2.2.2.2.1, s.2.2.2.2.2.2.2.2.2.2.2.2.2.2.2.1, s.2.2.2.2.2.2.2.2.2.2.2.2.2.2.2.2.1, s.2.2.2.2.2.2.2.2.2.2.2.2.2.2.2.2.2.1, s.2.2.2.2.2.2.2.2.2.2.2.2.2.2.2.2.2.2.1, s.2.2.2.2.2.2.2.2.2.2.2.2.2.2.2.2.2.2.2.1, s.2.2.2.2.2.2.2.2.2.2.2.2.2.2.2.2.2.2.2.2.1, s.2.2.2.2.2.2.2.2.2.2.2.2.2.2.2.2.2.2.2.2.2.1, s.2.2.2.2.2.2.2.2.2.2.2.2.2.2.2.2.2.2.2.2.2.2.1, s.2.2.2.2.2.2.2.2.2.2.2.2.2.2.2.2.2.2.2.2.2.2.2.1, s.2.2.2.2.2.2.2.2.2.2.2.2.2.2.2.2.2.2.2.2.2.2.2.2)
def S6_set_noun (s : S6) (v : (Nat → Int32)) : S6 := (s.1, v, s.2.2.1, s.2.2.2.1, s.2.2.2.2.1, s.2.2.2.2.2.1, s.2.2.2.2.2.2.1, s.2.2.2.2.2.2.2.1, s.2.2.2.2.2.2.2.2.1, s.2.2.2.2.2.2.2.2.2.1, s.2.2.2.2.2.2.2.2.2.2.1, s.2.2.2.2.2.2.2.2.2.2.2.1, s.2.2.2.2.2.2.2.2.2.2.2.2.1, s.2.2.2.2.2.2.2.2.2.2.2.2.2.1, s.2.2.2.2.2.2.2.2.2.2.2.2.2.2.1, s.2.2.2.2.2.2.2.2.2.2.2.2.2.2.2.1, s.2.2.2.2.2.2.2.2.2.2.2.2.2.2.2.2.1, s.2.2.2.2.2.2.2.2.2.2.2.2.2.2.2.2.2.1, s.2.2.2.2.2.2.2.2.2.2.2.2.2.2.2.2.2.2.1, s.2.2.2.2.2.2.2.2.2.2.2.2.2.2.2.2.2.2.2.1, s.2.2.2.2.2.2.2.2.2.2.2.2.2.2.2.2.2.2.2.2.1, s.2.2.2.2.2.2.2.2.2.2.2.2.2.2.2.2.2.2.2.2.2.1, s.2.2.2.2.2.2.2.2.2.2.2.2.2.2.2.2.2.2.2.2.2.2.1, s.2.2.2.2.2.2.2.2.2.2.2.2.2.2.2.2.2.2.2.2.2.2.2.1, s.2.2.2.2.2.2.2.2.2.2.2.2.2.2.2.2.2.2.2.2.2.2.2.2)
def S6_set_adjectives (s : S6) (v : (Nat → Int32)) : S6 := (s.1, s.2.1, v, s.2.2.2.1, s.2.2.2.2.1, s.2.2.2.2.2.1, s.2.2.2.2.2.2.1, s.2.2.2.2.2.2.2.1, s.2.2.2.2.2.2.2.2.1, s.2.2.2.2.2.2.2.2.2.1, s.2.2.2.2.2.2.2.2.2.2.1, s.2.2.2.2.2.2.2.2.2.2.2.1, s.2.2.2.2.2.2.2.2.2.2.2.2.1, s.2.2.2.2.2.2.2.2.2.2.2.2.2.1, s.2.2.2.2.2.2.2.2.2.2.2.2.2.2.1, s.2.2.2.2.2.2.2.2.2.2.2.2.2.2.2.1, s.2.2.2.2.2.2.2.2.2.2.2.2.2.2.2.2.1, s.2.2.2.2.2.2.2.2.2.2.2.2.2.2.2.2.2.1, s.2.2.2.2.2.2.2.2.2.2.2.2.2.2.2.2.2.2.1, s.2.2.2.2.2.2.2.2.2.2.2.2.2.2.2.2.2.2.2.1, s.2.2.2.2.2.2.2.2.2.2.2.2.2.2.2.2.2.2.2.2.1, s.2.2.2.2.2.2.2.2.2.2.2.2.2.2.2.2.2.2.2.2.2.1, s.2.2.2.2.2.2.2.2.2.2.2.2.2.2.2.2.2.2.2.2.2.2.1, s.2.2.2.2.2.2.2.2.2.2.2.2.2.2.2.2.2.2.2.2.2.2.2.1, s.2.2.2.2.2.2.2.2.2.2.2.2.2.2.2.2.2.2.2.2.2.2.2.2)
def S6_set_box (s : S6) (v : (Nat → Int32)) : S6 := (s.1, s.2.1, s.2.2.1, v, s.2.2.2.2.1, s.2.2.2.2.2.1, s.2.2.2.2.2.2.1, s.2.2.2.2.2.2.2.1, s.2.2.2.2.2.2.2.2.1, s.2.2.2.2.2.2.2.2.2.1, s.2.2.2.2.2.2.2.2.2.2.1, s.2.2.2.2.2.2.2.2.2.2.2.1, s.2.2.2.2.2.2.2.2.2.2.2.2.1, s.2.2.2.2.2.2.2.2.2.2.2.2.2.1, s.2.2.2.2.2.2.2.2.2.2.2.2.2.2.1, s.2.2.2.2.2.2.2.2.2.2.2.2.2.2.2.1, s.2.2.2.2.2.2.2.2.2.2.2.2.2.2.2.2.1, s.2.2.2.2.2.2.2.2.2.2.2.2.2.2.2.2.2.1, s.2.2.2.2.2.2.2.2.2.2.2.2.2.2.2.2.2.2.1, s.2.2.2.2.2.2.2.2.2.2.2.2.2.2.2.2.2.2.2.1, s.2.2.2.2.2.2.2.2.2.2.2.2.2.2.2.2.2.2.2.2.1, s.2.2.2.2.2.2.2.2.2.2.2.2.2.2.2.2.2.2.2.2.2.1, s.2.2.2.2.2.2.2.2.2.2.2.2.2.2.2.2.2.2.2.2.2.2.1, s.2.2.2.2.2.2.2.2.2.2.2.2.2.2.2.2.2.2.2.2.2.2.2.1, s.2.2.2.2.2.2.2.2.2.2.2.2.2.2.2.2.2.2.2.2.2.2.2.2)
def S6_set_open (s : S6) (v : (Nat → Int32)) : S6 := (s.1, s.2.1, s.2.2.1, s.2.2.2.1, v, s.2.2.2.2.2.1, s.2.2.2.2.2.2.1, s.2.2.2.2.2.2.2.1, s.2.2.2.2.2.2.2.2.1, s.2.2.2.2.2.2.2.2.2.1, s.2.2.2.2.2.2.2.2.2.2.1, s.2.2.2.2.2.2.2.2.2.2.2.1, s.2.2.2.2.2.2.2.2.2.2.2.2.1, s.2.2.2.2.2.2.2.2.2.2.2.2.2.1, s.2.2.2.2.2.2.2.2.2.2.2.2.2.2.1, s.2.2.2.2.2.2.2.2.2.2.2.2.2.2.2.1, s.2.2.2.2.2.2.2.2.2.2.2.2.2.2.2.2.1, s.2.2.2.2.2.2.2.2.2.2.2.2.2.2.2.2.2.1, s.2.2.2.2.2.2.2.2.2.2.2.2.2.2.2.2.2.2.1, s.2.2.2.2.2.2.2.2.2.2.2.2.2.2.2.2.2.2.2.1, s.2.2.2.2.2.2.2.2.2.2.2.2.2.2.2.2.2.2.2.2.1, s.2.2.2.2.2.2.2.2.2.2.2.2.2.2.2.2.2.2.2.2.2.1, s.2.2.2.2.2.2.2.2.2.2.2.2.2.2.2.2.2.2.2.2.2.2.1, s.2.2.2.2.2.2.2.2.2.2.2.2.2.2.2.2.2.2.2.2.2.2.2.1, s.2.2.2.2.2.2.2.2.2.2.2.2.2.2.2.2.2.2.2.2.2.2.2.2)
def S6_set_place (s : S6) (v : (Nat → Int32)) : S6 := (s.1, s.2.1, s.2.2.1, s.2.2.2.1, s.2.2.2.2.1, v, s.2.2.2.2.2.2.1, s.2.2.2.2.2.2.2.1, s.2.2.2.2.2.2.2.2.1, s.2.2.2.2.2.2.2.2.2.1, s.2.2.2.2.2.2.2.2.2.2.1, s.2.2.2.2.2.2.2.2.2.2.2.1, s.2.2.2.2.2.2.2.2.2.2.2.2.1, s.2.2.2.2.2.2.2.2.2.2.2.2.2.1, s.2.2.2.2.2.2.2.2.2.2.2.2.2.2.1, s.2.2.2.2.2.2.2.2.2.2.2.2.2.2.2.1, s.2.2.2.2.2.2.2.2.2.2.2.2.2.2.2.2.1, s.2.2.2.2.2.2.2.2.2.2.2.2.2.2.2.2.2.1, s.2.2.2.2.2.2.2.2.2.2.2.2.2.2.2.2.2.2.1, s.2.2.2.2.2.2.2.2.2.2.2.2.2.2.2.2.2.2.2.1, s.2.2.2.2.2.2.2.2.2.2.2.2.2.2.2.2.2.2.2.2.1, s.2.2.2.2.2.2.2.2.2.2.2.2.2.2.2.2.2.2.2.2.2.1, s.2.2.2.2.2.2.2.2.2.2.2.2.2.2.2.2.2.2.2.2.2.2.1, s.2.2.2.2.2.2.2.2.2.2.2.2.2.2.2.2.2.2.2.2.2.2.2.1, s.2.2.2.2.2.2.2.2.2.2.2.2.2.2.2.2.2.2.2.2.2.2.2.2)
def S6_set_count (s : S6) (v : Int32) : S6 := (s.1, s.2.1, s.2.2.1, s.2.2.2.1, s.2.2.2.2.1, s.2.2.2.2.2.1, v, s.2.2.2.2.2.2.2.1, s.2.2.2.2.2.2.2.2.1, s.2.2.2.2.2.2.2.2.2.1, s.2.2.2.2.2.2.2.2.2.2.1, s.2.2.2.2.2.2.2.2.2.2.2.1, s.2.2.2.2.2.2.2.2.2.2.2.2.1, s.2.2.2.2.2.2.2.2.2.2.2.2.2.1, s.2.2.2.2.2.2.2.2.2.2.2.2.2.2.1, s.2.2.2.2.2.2.2.2.2.2.2.2.2.2.2.1, s.2.2.2.2.2.2.2.2.2.2.2.2.2.2.2.2.1, s.2.2.2.2.2.2.2.2.2.2.2.2.2.2.2.2.2.1, s.2.2.2.2.2.2.2.2.2.2.2.2.2.2.2.2.2.2.1, s.2.2.2.2.2.2.2.2.2.2.2.2.2.2.2.2.2.2.2.1, s.2.2.2.2.2.2.2.2.2.2.2.2.2.2.2.2.2.2.2.2.1, s.2.2.2.2.2.2.2.2.2.2.2.2.2.2.2.2.2.2.2.2.2.1, s.2.2.2.2.2.2.2.2.2.2.2.2.2.2.2.2.2.2.2.2.2.2.1, s.2.2.2.2.2.2.2.2.2.2.2.2.2.2.2.2.2.2.2.2.2.2.2.1, s.2.2.2.2.2.2.2.2.2.2.2.2.2.2.2.2.2.2.2.2.2.2.2.2)
def S6_set_words (s : S6) (v : (Nat → Int32)) : S6 := (s.1, s.2.1, s.2.2.1, s.2.2.2.1, s.2.2.2.2.1, s.2.2.2.2.2.1, s.2.2.2.2.2.2.1, v, s.2.2.2.2.2.2.2.2.1, s.2.2.2.2.2.2.2.2.2.1, s.2.2.2.2.2.2.2.2.2.2.1, s.2.2.2.2.2.2.2.2.2.2.2.1, s.2.2.2.2.2.2.2.2.2.2.2.2.1, s.2.2.2.2.2.2.2.2.2.2.2.2.2.1, s.2.2.2.2.2.2.2.2.2.2.2.2.2.2.1, s.2.2.2.2.2.2.2.2.2.2.2.2.2.2.2.1, s.2.2.2.2.2.2.2.2.2.2.2.2.2.2.2.2.1, s.2.2.2.2.2.2.2.2.2.2.2.2.2.2.2.2.2.1, s.2.2.2.2.2.2.2.2.2.2.2.2.2.2.2.2.2.2.1, s.2.2.2.2.2.2.2.2.2.2.2.2.2.2.2.2.2.2.2.1, s.2.2.2.2.2.2.2.2.2.2.2.2.2.2.2.2.2.2.2.2.1, s.2.2.2.2.2.2.2.2.2.2.2.2.2.2.2.2.2.2.2.2.2.1, s.2.2.2.2.2.2.2.2.2.2.2.2.2.2.2.2.2.2.2.2.2.2.1, s.2.2.2.2.2.2.2.2.2.2.2.2.2.2.2.2.2.2.2.2.2.2.2.1, s.2.2.2.2.2.2.2.2.2.2.2.2.2.2.2.2.2.2.2.2.2.2.2.2)
def S6_set_outcome (s : S6) (v : Int32) : S6 := (s.1, s.2.1, s.2.2.1, s.2.2.2.1, s.2.2.2.2.1, s.2.2.2.2.2.1, s.2.2.2.2.2.2.1, s.2.2.2.2.2.2.2.1, v, s.2.2.2.2.2.2.2.2.2.1, s.2.2.2.2.2.2.2.2.2.2.1, s.2.2.2.2.2.2.2.2.2.2.2.1, s.2.2.2.2.2.2.2.2.2.2.2.2.1, s.2.2.2.2.2.2.2.2.2.2.2.2.2.1, s.2.2.2.2.2.2.2.2.2.2.2.2.2.2.1, s.2.2.2.2.2.2.2.2.2.2.2.2.2.2.2.1, s.2.2.2.2.2.2.2.2.2.2.2.2.2.2.2.2.1, s.2.2.2.2.2.2.2.2.2.2.2.2.2.2.2.2.2.1, s.2.2.2.2.2.2.2.2.2.2.2.2.2.2.2.2.2.2.1, s.2.2.2.2.2.2.2.2.2.2.2.2.2.2.2.2.2.2.2.1, s.2.2.2.2.2.2.2.2.2.2.2.2.2.2.2.2.2.2.2.2.1, s.2.2.2.2.2.2.2.2.2.2.2.2.2.2.2.2.2.2.2.2.2.1, s.2.2.2.2.2.2.2.2.2.2.2.2.2.2.2.2.2.2.2.2.2.2.1, s.2.2.2.2.2.2.2.2.2.2.2.2.2.2.2.2.2.2.2.2.2.2.2.1, s.2.2.2.2.2.2.2.2.2.2.2.2.2.2.2.2.2.2.2.2.2.2.2.2)
def S6_set_wrongAt (s : S6) (v : Int32) : S6 := (s.1, s.2.1, s.2.2.1, s.2.2.2.1, s.2.2.2.2.1, s.2.2.2.2.2.1, s.2.2.2.2.2.2.1, s.2.2.2.2.2.2.2.1, s.2.2.2.2.2.2.2.2.1, v, s.2.2.2.2.2.2.2.2.2.2.1, s.2.2.2.2.2.2.2.2.2.2.2.1, s.2.2.2.2.2.2.2.2.2.2.2.2.1, s.2.2.2.2.2.2.2.2.2.2.2.2.2.1, s.2.2.2.2.2.2.2.2.2.2.2.2.2.2.1, s.2.2.2.2.2.2.2.2.2.2.2.2.2.2.2.1, s.2.2.2.2.2.2.2.2.2.2.2.2.2.2.2.2.1, s.2.2.2.2.2.2.2.2.2.2.2.2.2.2.2.2.2.1, s.2.2.2.2.2.2.2.2.2.2.2.2.2.2.2.2.2.2.1, s.2.2.2.2.2.2.2.2.2.2.2.2.2.2.2.2.2.2.2.1, s.2.2.2.2.2.2.2.2.2.2.2.2.2.2.2.2.2.2.2.2.1, s.2.2.2.2.2.2.2.2.2.2.2.2.2.2.2.2.2.2.2.2.2.1, s.2.2.2.2.2.2.2.2.2.2.2.2.2.2.2.2.2.2.2.2.2.2.1, s.2.2.2.2.2.2.2.2.2.2.2.2.2.2.2.2.2.2.2.2.2.2.2.1, s.2.2.2.2.2.2.2.2.2.2.2.2.2.2.2.2.2.2.2.2.2.2.2.2)
def S6_set_verb (s : S6) (v : Int32) : S6 := (s.1, s.2.1, s.2.2.1, s.2.2.2.1, s.2.2.2.2.1, s.2.2.2.2.2.1, s.2.2.2.2.2.2.1, s.2.2.2.2.2.2.2.1, s.2.2.2.2.2.2.2.2.1, s.2.2.2.2.2.2.2.2.2.1, v, s.2.2.2.2.2.2.2.2.2.2.2.1, s.2.2.2.2.2.2.2.2.2.2.2.2.1, s.2.2.2.2.2.2.2.2.2.2.2.2.2.1, s.2.2.2.2.2.2.2.2.2.2.2.2.2.2.1, s.2.2.2.2.2.2.2.2.2.2.2.2.2.2.2.1, s.2.2.2.2.2.2.2.2.2.2.2.2.2.2.2.2.1, s.2.2.2.2.2.2.2.2.2.2.2.2.2.2.2.2.2.1, s.2.2.2.2.2.2.2.2.2.2.2.2.2.2.2.2.2.2.1, s.2.2.2.2.2.2.2.2.2.2.2.2.2.2.2.2.2.2.2.1, s.2.2.2.2.2.2.2.2.2.2.2.2.2.2.2.2.2.2.2.2.1, s.2.2.2.2.2.2.2.2.2.2.2.2.2.2.2.2.2.2.2.2.2.1, s.2.2.2.2.2.2.2.2.2.2.2.2.2.2.2.2.2.2.2.2.2.2.1, s.2.2.2.2.2.2.2.2.2.2.2.2.2.2.2.2.2.2.2.2.2.2.2.1, s.2.2.2.2.2.2.2.2.2.2.2.2.2.2.2.2.2.2.2.2.2.2.2.2)
def S6_set_meant (s : S6) (v : Int32) : S6 := (s.1, s.2.1, s.2.2.1, s.2.2.2.1, s.2.2.2.2.1, s.2.2.2.2.2.1, s.2.2.2.2.2.2.1, s.2.2.2.2.2.2.2.1, s.2.2.2.2.2.2.2.2.1, s.2.2.2.2.2.2.2.2.2.1, s.2.2.2.2.2.2.2.2.2.2.1, v, s.2.2.2.2.2.2.2.2.2.2.2.2.1, s.2.2.2.2.2.2.2.2.2.2.2.2.2.1, s.2.2.2.2.2.2.2.2.2.2.2.2.2.2.1, s.2.2.2.2.2.2.2.2.2.2.2.2.2.2.2.1, s.2.2.2.2.2.2.2.2.2.2.2.2.2.2.2.2.1, s.2.2.2.2.2.2.2.2.2.2.2.2.2.2.2.2.2.1, s.2.2.2.2.2.2.2.2.2.2.2.2.2.2.2.2.2.2.1, s.2.2.2.2.2.2.2.2.2.2.2.2.2.2.2.2.2.2.2.1, s.2.2.2.2.2.2.2.2.2.2.2.2.2.2.2.2.2.2.2.2.1, s.2.2.2.2.2.2.2.2.2.2.2.2.2.2.2.2.2.2.2.2.2.1, s.2.2.2.2.2.2.2.2.2.2.2.2.2.2.2.2.2.2.2.2.2.2.1, s.2.2.2.2.2.2.2.2.2.2.2.2.2.2.2.2.2.2.2.2.2.2.2.1, s.2.2.2.2.2.2.2.2.2.2.2.2.2.2.2.2.2.2.2.2.2.2.2.2)
def S6_set_done (s : S6) (v : Int32) : S6 := (s.1, s.2.1, s.2.2.1, s.2.2.2.1, s.2.2.2.2.1, s.2.2.2.2.2.1, s.2.2.2.2.2.2.1, s.2.2.2.2.2.2.2.1, s.2.2.2.2.2.2.2.2.1, s.2.2.2.2.2.2.2.2.2.1, s.2.2.2.2.2.2.2.2.2.2.1, s.2.2.2.2.2.2.2.2.2.2.2.1, v, s.2.2.2.2.2.2.2.2.2.2.2.2.2.1, s.2.2.2.2.2.2.2.2.2.2.2.2.2.2.1, s.2.2.2.2.2.2.2.2.2.2.2.2.2.2.2.1, s.2.2.2.2.2.2.2.2.2.2.2.2.2.2.2.2.1, s.2.2.2.2.2.2.2.2.2.2.2.2.2.2.2.2.2.1, s.2.2.2.2.2.2.2.2.2.2.2.2.2.2.2.2.2.2.1, s.2.2.2.2.2.2.2.2.2.2.2.2.2.2.2.2.2.2.2.1, s.2.2.2.2.2.2.2.2.2.2.2.2.2.2.2.2.2.2.2.2.1, s.2.2.2.2.2.2.2.2.2.2.2.2.2.2.2.2.2.2.2.2.2.1, s.2.2.2.2.2.2.2.2.2.2.2.2.2.2.2.2.2.2.2.2.2.2.1, s.2.2.2.2.2.2.2.2.2.2.2.2.2.2.2.2.2.2.2.2.2.2.2.1, s.2.2.2.2.2.2.2.2.2.2.2.2.2.2.2.2.2.2.2.2.2.2.2.2)
def S6_set_into (s : S6) (v : Int32) : S6 := (s.1, s.2.1, s.2.2.1, s.2.2.2.1, s.2.2.2.2.1, s.2.2.2.2.2.1, s.2.2.2.2.2.2.1, s.2.2.2.2.2.2.2.1, s.2.2.2.2.2.2.2.2.1, s.2.2.2.2.2.2.2.2.2.1, s.2.2.2.2.2.2.2.2.2.2.1, s.2.2.2.2.2.2.2.2.2.2.2.1, s.2.2.2.2.2.2.2.2.2.2.2.2.1, v, s.2.2.2.2.2.2.2.2.2.2.2.2.2.2.1, s.2.2.2.2.2.2.2.2.2.2.2.2.2.2.2.1, s.2.2.2.2.2.2.2.2.2.2.2.2.2.2.2.2.1, s.2.2.2.2.2.2.2.2.2.2.2.2.2.2.2.2.2.1, s.2.2.2.2.2.2.2.2.2.2.2.2.2.2.2.2.2.2.1, s.2.2.2.2.2.2.2.2.2.2.2.2.2.2.2.2.2.2.2.1, s.2.2.2.2.2.2.2.2.2.2.2.2.2.2.2.2.2.2.2.2.1, s.2.2.2.2.2.2.2.2.2.2.2.2.2.2.2.2.2.2.2.2.2.1, s.2.2.2.2.2.2.2.2.2.2.2.2.2.2.2.2.2.2.2.2.2.2.1, s.2.2.2.2.2.2.2.2.2.2.2.2.2.2.2.2.2.2.2.2.2.2.2.1, s.2.2.2.2.2.2.2.2.2.2.2.2.2.2.2.2.2.2.2.2.2.2.2.2)
def S6_set_it (s : S6) (v : Int32) : S6 := (s.1, s.2.1, s.2.2.1, s.2.2.2.1, s.2.2.2.2.1, s.2.2.2.2.2.1, s.2.2.2.2.2.2.1, s.2.2.2.2.2.2.2.1, s.2.2.2.2.2.2.2.2.1, s.2.2.2.2.2.2.2.2.2.1, s.2.2.2.2.2.2.2.2.2.2.1, s.2.2.2.2.2.2.2.2.2.2.2.1, s.2.2.2.2.2.2.2.2.2.2.2.2.1, s.2.2.2.2.2.2.2.2.2.2.2.2.2.1, v, s.2.2.2.2.2.2.2.2.2.2.2.2.2.2.2.1, s.2.2.2.2.2.2.2.2.2.2.2.2.2.2.2.2.1, s.2.2.2.2.2.2.2.2.2.2.2.2.2.2.2.2.2.1, s.2.2.2.2.2.2.2.2.2.2.2.2.2.2.2.2.2.2.1, s.2.2.2.2.2.2.2.2.2.2.2.2.2.2.2.2.2.2.2.1, s.2.2.2.2.2.2.2.2.2.2.2.2.2.2.2.2.2.2.2.2.1, s.2.2.2.2.2.2.2.2.2.2.2.2.2.2.2.2.2.2.2.2.2.1, s.2.2.2.2.2.2.2.2.2.2.2.2.2.2.2.2.2.2.2.2.2.2.1, s.2.2.2.2.2.2.2.2.2.2.2.2.2.2.2.2.2.2.2.2.2.2.2.1, s.2.2.2.2.2.2.2.2.2.2.2.2.2.2.2.2.2.2.2.2.2.2.2.2)
def S6_set_questions (s : S6) (v : Int32) : S6 := (s.1, s.2.1, s.2.2.1, s.2.2.2.1, s.2.2.2.2.1, s.2.2.2.2.2.1, s.2.2.2.2.2.2.1, s.2.2.2.2.2.2.2.1, s.2.2.2.2.2.2.2.2.1, s.2.2.2.2.2.2.2.2.2.1, s.2.2.2.2.2.2.2.2.2.2.1, s.2.2.2.2.2.2.2.2.2.2.2.1, s.2.2.2.2.2.2.2.2.2.2.2.2.1, s.2.2.2.2.2.2.2.2.2.2.2.2.2.1, s.2.2.2.2.2.2.2.2.2.2.2.2.2.2.1, v, s.2.2.2.2.2.2.2.2.2.2.2.2.2.2.2.2.1, s.2.2.2.2.2.2.2.2.2.2.2.2.2.2.2.2.2.1, s.2.2.2.2.2.2.2.2.2.2.2.2.2.2.2.2.2.2.1, s.2.2.2.2.2.2.2.2.2.2.2.2.2.2.2.2.2.2.2.1, s.2.2.2.2.2.2.2.2.2.2.2.2.2.2.2.2.2.2.2.2.1, s.2.2.2.2.2.2.2.2.2.2.2.2.2.2.2.2.2.2.2.2.2.1, s.2.2.2.2.2.2.2.2.2.2.2.2.2.2.2.2.2.2.2.2.2.2.1, s.2.2.2.2.2.2.2.2.2.2.2.2.2.2.2.2.2.2.2.2.2.2.2.1, s.2.2.2.2.2.2.2.2.2.2.2.2.2.2.2.2.2.2.2.2.2.2.2.2)
def S6_set_length (s : S6) (v : Int32) : S6 := (s.1, s.2.1, s.2.2.1, s.2.2.2.1, s.2.2.2.2.1, s.2.2.2.2.2.1, s.2.2.2.2.2.2.1, s.2.2.2.2.2.2.2.1, s.2.2.2.2.2.2.2.2.1, s.2.2.2.2.2.2.2.2.2.1, s.2.2.2.2.2.2.2.2.2.2.1, s.2.2.2.2.2.2.2.2.2.2.2.1, s.2.2.2.2.2.2.2.2.2.2.2.2.1, s.2.2.2.2.2.2.2.2.2.2.2.2.2.1, s.2.2.2.2.2.2.2.2.2.2.2.2.2.2.1, s.2.2.2.2.2.2.2.2.2.2.2.2.2.2.2.1, v, s.2.2.2.2.2.2.2.2.2.2.2.2.2.2.2.2.2.1, s.2.2.2.2.2.2.2.2.2.2.2.2.2.2.2.2.2.2.1, s.2.2.2.2.2.2.2.2.2.2.2.2.2.2.2.2.2.2.2.1, s.2.2.2.2.2.2.2.2.2.2.2.2.2.2.2.2.2.2.2.2.1, s.2.2.2.2.2.2.2.2.2.2.2.2.2.2.2.2.2.2.2.2.2.1, s.2.2.2.2.2.2.2.2.2.2.2.2.2.2.2.2.2.2.2.2.2.2.1, s.2.2.2.2.2.2.2.2.2.2.2.2.2.2.2.2.2.2.2.2.2.2.2.1, s.2.2.2.2.2.2.2.2.2.2.2.2.2.2.2.2.2.2.2.2.2.2.2.2)
def S6_set_order (s : S6) (v : (Nat → Int32)) : S6 := (s.1, s.2.1, s.2.2.1, s.2.2.2.1, s.2.2.2.2.1, s.2.2.2.2.2.1, s.2.2.2.2.2.2.1, s.2.2.2.2.2.2.2.1, s.2.2.2.2.2.2.2.2.1, s.2.2.2.2.2.2.2.2.2.1, s.2.2.2.2.2.2.2.2.2.2.1, s.2.2.2.2.2.2.2.2.2.2.2.1, s.2.2.2.2.2.2.2.2.2.2.2.2.1, s.2.2.2.2.2.2.2.2.2.2.2.2.2.1, s.2.2.2.2.2.2.2.2.2.2.2.2.2.2.1, s.2.2.2.2.2.2.2.2.2.2.2.2.2.2.2.1, s.2.2.2.2.2.2.2.2.2.2.2.2.2.2.2.2.1, v, s.2.2.2.2.2.2.2.2.2.2.2.2.2.2.2.2.2.2.1, s.2.2.2.2.2.2.2.2.2.2.2.2.2.2.2.2.2.2.2.1, s.2.2.2.2.2.2.2.2.2.2.2.2.2.2.2.2.2.2.2.2.1, s.2.2.2.2.2.2.2.2.2.2.2.2.2.2.2.2.2.2.2.2.2.1, s.2.2.2.2.2.2.2.2.2.2.2.2.2.2.2.2.2.2.2.2.2.2.1, s.2.2.2.2.2.2.2.2.2.2.2.2.2.2.2.2.2.2.2.2.2.2.2.1, s.2.2.2.2.2.2.2.2.2.2.2.2.2.2.2.2.2.2.2.2.2.2.2.2)
def S6_set_answer (s : S6) (v : (Nat → Int32)) : S6 := (s.1, s.2.1, s.2.2.1, s.2.2.2.1, s.2.2.2.2.1, s.2.2.2.2.2.1, s.2.2.2.2.2.2.1, s.2.2.2.2.2.2.2.1, s.2.2.2.2.2.2.2.2.1, s.2.2.2.2.2.2.2.2.2.1, s.2.2.2.2.2.2.2.2.2.2.1, s.2.2.2.2.2.2.2.2.2.2.2.1, s.2.2.2.2.2.2.2.2.2.2.2.2.1, s.2.2.2.2.2.2.2.2.2.2.2.2.2.1, s.2.2.2.2.2.2.2.2.2.2.2.2.2.2.1, s.2.2.2.2.2.2.2.2.2.2.2.2.2.2.2.1, s.2.2.2.2.2.2.2.2.2.2.2.2.2.2.2.2.1, s.2.2.2.2.2.2.2.2.2.2.2.2.2.2.2.2.2.1, v, s.2.2.2.2.2.2.2.2.2.2.2.2.2.2.2.2.2.2.2.1, s.2.2.2.2.2.2.2.2.2.2.2.2.2.2.2.2.2.2.2.2.1, s.2.2.2.2.2.2.2.2.2.2.2.2.2.2.2.2.2.2.2.2.2.1, s.2.2.2.2.2.2.2.2.2.2.2.2.2.2.2.2.2.2.2.2.2.2.1, s.2.2.2.2.2.2.2.2.2.2.2.2.2.2.2.2.2.2.2.2.2.2.2.1, s.2.2.2.2.2.2.2.2.2.2.2.2.2.2.2.2.2.2.2.2.2.2.2.2)
def S6_set_asked (s : S6) (v : Int32) : S6 := (s.1, s.2.1, s.2.2.1, s.2.2.2.1, s.2.2.2.2.1, s.2.2.2.2.2.1, s.2.2.2.2.2.2.1, s.2.2.2.2.2.2.2.1, s.2.2.2.2.2.2.2.2.1, s.2.2.2.2.2.2.2.2.2.1, s.2.2.2.2.2.2.2.2.2.2.1, s.2.2.2.2.2.2.2.2.2.2.2.1, s.2.2.2.2.2.2.2.2.2.2.2.2.1, s.2.2.2.2.2.2.2.2.2.2.2.2.2.1, s.2.2.2.2.2.2.2.2.2.2.2.2.2.2.1, s.2.2.2.2.2.2.2.2.2.2.2.2.2.2.2.1, s.2.2.2.2.2.2.2.2.2.2.2.2.2.2.2.2.1, s.2.2.2.2.2.2.2.2.2.2.2.2.2.2.2.2.2.1, s.2.2.2.2.2.2.2.2.2.2.2.2.2.2.2.2.2.2.1, v, s.2.2.2.2.2.2.2.2.2.2.2.2.2.2.2.2.2.2.2.2.1, s.2.2.2.2.2.2.2.2.2.2.2.2.2.2.2.2.2.2.2.2.2.1, s.2.2.2.2.2.2.2.2.2.2.2.2.2.2.2.2.2.2.2.2.2.2.1, s.2.2.2.2.2.2.2.2.2.2.2.2.2.2.2.2.2.2.2.2.2.2.2.1, s.2.2.2.2.2.2.2.2.2.2.2.2.2.2.2.2.2.2.2.2.2.2.2.2)
def S6_set_askedAt (s : S6) (v : Int32) : S6 := (s.1, s.2.1, s.2.2.1, s.2.2.2.1, s.2.2.2.2.1, s.2.2.2.2.2.1, s.2.2.2.2.2.2.1, s.2.2.2.2.2.2.2.1, s.2.2.2.2.2.2.2.2.1, s.2.2.2.2.2.2.2.2.2.1, s.2.2.2.2.2.2.2.2.2.2.1, s.2.2.2.2.2.2.2.2.2.2.2.1, s.2.2.2.2.2.2.2.2.2.2.2.2.1, s.2.2.2.2.2.2.2.2.2.2.2.2.2.1, s.2.2.2.2.2.2.2.2.2.2.2.2.2.2.1, s.2.2.2.2.2.2.2.2.2.2.2.2.2.2.2.1, s.2.2.2.2.2.2.2.2.2.2.2.2.2.2.2.2.1, s.2.2.2.2.2.2.2.2.2.2.2.2.2.2.2.2.2.1, s.2.2.2.2.2.2.2.2.2.2.2.2.2.2.2.2.2.2.1, s.2.2.2.2.2.2.2.2.2.2.2.2.2.2.2.2.2.2.2.1, v, s.2.2.2.2.2.2.2.2.2.2.2.2.2.2.2.2.2.2.2.2.2.1, s.2.2.2.2.2.2.2.2.2.2.2.2.2.2.2.2.2.2.2.2.2.2.1, s.2.2.2.2.2.2.2.2.2.2.2.2.2.2.2.2.2.2.2.2.2.2.2.1, s.2.2.2.2.2.2.2.2.2.2.2.2.2.2.2.2.2.2.2.2.2.2.2.2)
def S6_set_at (s : S6) (v : Int32) : S6 := (s.1, s.2.1, s.2.2.1, s.2.2.2.1, s.2.2.2.2.1, s.2.2.2.2.2.1, s.2.2.2.2.2.2.1, s.2.2.2.2.2.2.2.1, s.2.2.2.2.2.2.2.2.1, s.2.2.2.2.2.2.2.2.2.1, s.2.2.2.2.2.2.2.2.2.2.1, s.2.2.2.2.2.2.2.2.2.2.2.1, s.2.2.2.2.2.2.2.2.2.2.2.2.1, s.2.2.2.2.2.2.2.2.2.2.2.2.2.1, s.2.2.2.2.2.2.2.2.2.2.2.2.2.2.1, s.2.2.2.2.2.2.2.2.2.2.2.2.2.2.2.1, s.2.2.2.2.2.2.2.2.2.2.2.2.2.2.2.2.1, s.2.2.2.2.2.2.2.2.2.2.2.2.2.2.2.2.2.1, s.2.2.2.2.2.2.2.2.2.2.2.2.2.2.2.2.2.2.1, s.2.2.2.2.2.2.2.2.2.2.2.2.2.2.2.2.2.2.2.1, s.2.2.2.2.2.2.2.2.2.2.2.2.2.2.2.2.2.2.2.2.1, v, s.2.2.2.2.2.2.2.2.2.2.2.2.2.2.2.2.2.2.2.2.2.2.1, s.2.2.2.2.2.2.2.2.2.2.2.2.2.2.2.2.2.2.2.2.2.2.2.1, s.2.2.2.2.2.2.2.2.2.2.2.2.2.2.2.2.2.2.2.2.2.2.2.2)
def S6_set_failedAt (s : S6) (v : Int32) : S6 := (s.1, s.2.1, s.2.2.1, s.2.2.2.1, s.2.2.2.2.1, s.2.2.2.2.2.1, s.2.2.2.2.2.2.1, s.2.2.2.2.2.2.2.1, s.2.2.2.2.2.2.2.2.1, s.2.2.2.2.2.2.2.2.2.1, s.2.2.2.2.2.2.2.2.2.2.1, s.2.2.2.2.2.2.2.2.2.2.2.1, s.2.2.2.2.2.2.2.2.2.2.2.2.1, s.2.2.2.2.2.2.2.2.2.2.2.2.2.1, s.2.2.2.2.2.2.2.2.2.2.2.2.2.2.1, s.2.2.2.2.2.2.2.2.2.2.2.2.2.2.2.1, s.2.2.2.2.2.2.2.2.2.2.2.2.2.2.2.2.1, s.2.2.2.2.2.2.2.2.2.2.2.2.2.2.2.2.2.1, s.2.2.2.2.2.2.2.2.2.2.2.2.2.2.2.2.2.2.1, s.2.2.2.2.2.2.2.2.2.2.2.2.2.2.2.2.2.2.2.1, s.2.2.2.2.2.2.2.2.2.2.2.2.2.2.2.2.2.2.2.2.1, s.2.2.2.2.2.2.2.2.2.2.2.2.2.2.2.2.2.2.2.2.2.1, v, s.2.2.2.2.2.2.2.2.2.2.2.2.2.2.2.2.2.2.2.2.2.2.2.1, s.2.2.2.2.2.2.2.2.2.2.2.2.2.2.2.2.2.2.2.2.2.2.2.2)
def S6_set_choice (s : S6) (v : Int32) : S6 := (s.1, s.2.1, s.2.2.1, s.2.2.2.1, s.2.2.2.2.1, s.2.2.2.2.2.1, s.2.2.2.2.2.2.1, s.2.2.2.2.2.2.2.1, s.2.2.2.2.2.2.2.2.1, s.2.2.2.2.2.2.2.2.2.1, s.2.2.2.2.2.2.2.2.2.2.1, s.2.2.2.2.2.2.2.2.2.2.2.1, s.2.2.2.2.2.2.2.2.2.2.2.2.1, s.2.2.2.2.2.2.2.2.2.2.2.2.2.1, s.2.2.2.2.2.2.2.2.2.2.2.2.2.2.1, s.2.2.2.2.2.2.2.2.2.2.2.2.2.2.2.1, s.2.2.2.2.2.2.2.2.2.2.2.2.2.2.2.2.1, s.2.2.2.2.2.2.2.2.2.2.2.2.2.2.2.2.2.1, s.2.2.2.2.2.2.2.2.2.2.2.2.2.2.2.2.2.2.1, s.2.2.2.2.2.2.2.2.2.2.2.2.2.2.2.2.2.2.2.1, s.2.2.2.2.2.2.2.2.2.2.2.2.2.2.2.2.2.2.2.2.1, s.2.2.2.2.2.2.2.2.2.2.2.2.2.2.2.2.2.2.2.2.2.1, s.2.2.2.2.2.2.2.2.2.2.2.2.2.2.2.2.2.2.2.2.2.2.1, v, s.2.2.2.2.2.2.2.2.2.2.2.2.2.2.2.2.2.2.2.2.2.2.2.2)
def S6_set_thrown (s : S6) (v : Int32) : S6 := (s.1, s.2.1, s.2.2.1, s.2.2.2.1, s.2.2.2.2.1, s.2.2.2.2.2.1, s.2.2.2.2.2.2.1, s.2.2.2.2.2.2.2.1, s.2.2.2.2.2.2.2.2.1, s.2.2.2.2.2.2.2.2.2.1, s.2.2.2.2.2.2.2.2.2.2.1, s.2.2.2.2.2.2.2.2.2.2.2.1, s.2.2.2.2.2.2.2.2.2.2.2.2.1, s.2.2.2.2.2.2.2.2.2.2.2.2.2.1, s.2.2.2.2.2.2.2.2.2.2.2.2.2.2.1, s.2.2.2.2.2.2.2.2.2.2.2.2.2.2.2.1, s.2.2.2.2.2.2.2.2.2.2.2.2.2.2.2.2.1, s.2.2.2.2.2.2.2.2.2.2.2.2.2.2.2.2.2.1, s.2.2.2.2.2.2.2.2.2.2.2.2.2.2.2.2.2.2.1, s.2.2.2.2.2.2.2.2.2.2.2.2.2.2.2.2.2.2.2.1, s.2.2.2.2.2.2.2.2.2.2.2.2.2.2.2.2.2.2.2.2.1, s.2.2.2.2.2.2.2.2.2.2.2.2.2.2.2.2.2.2.2.2.2.1, s.2.2.2.2.2.2.2.2.2.2.2.2.2.2.2.2.2.2.2.2.2.2.1, s.2.2.2.2.2.2.2.2.2.2.2.2.2.2.2.2.2.2.2.2.2.2.2.1, v)
abbrev cf_0 (cI : ClassId) (h0 h4 h2 h1 : Nat) (s0 : S0) : va_W := [(h0, .inr (0, [.ref h4, .ref h2, .ref h1, .int (S0_reach s0), .int (S0_result s0), .int (S0_group s0), .int (S0_target s0), .int (S0_openPhrase s0), .int (S0_choice s0)]))]
abbrev cf_012 (cI : ClassId) (h0 h1 h2 h2a2 h2a3 h2a4 h2a5 h2a6 h2a7 h4 : Nat) (s0 : S0) (s1 : S1) (s2 : S2) : va_W := [(h0, .inr (0, [.ref h4, .ref h2, .ref h1, .int (S0_reach s0), .int (S0_result s0), .int (S0_group s0), .int (S0_target s0), .int (S0_openPhrase s0), .int (S0_choice s0)])), (h1, .inr (1, [.int (S1_lastVerb s1), .int (S1_lastMeant s1), .int (S1_lastDone s1), .int (S1_lastTarget s1), .int (S1_lastAlone s1)])), (h2, .inr (2, [.int (S2_orderVerb s2), .int (S2_count s2), .ref h2a2, .ref h2a3, .ref h2a4, .ref h2a5, .ref h2a6, .ref h2a7])), (h2a2, .inl (cI, 24, .inl (S2_roles s2))), (h2a3, .inl (cI, 24, .inl (S2_kinds s2))), (h2a4, .inl (cI, 24, .inl (S2_adjectiveSets s2))), (h2a5, .inl (cI, 24, .inl (S2_nouns s2))), (h2a6, .inl (cI, 24, .inl (S2_lastPlaces s2))), (h2a7, .inl (cI, 24, .inl (S2_answers s2)))]
abbrev cf_01234 (cI : ClassId) (h0 h1 h2 h2a2 h2a3 h2a4 h2a5 h2a6 h2a7 h3 h3a0 h4 h4a0 h4a1 h4a2 : Nat) (s0 : S0) (s1 : S1) (s2 : S2) (s3 : S3) (s4 : S4) : va_W := [(h0, .inr (0, [.ref h4, .ref h2, .ref h1, .int (S0_reach s0), .int (S0_result s0), .int (S0_group s0), .int (S0_target s0), .int (S0_openPhrase s0), .int (S0_choice s0)])), (h1, .inr (1, [.int (S1_lastVerb s1), .int (S1_lastMeant s1), .int (S1_lastDone s1), .int (S1_lastTarget s1), .int (S1_lastAlone s1)])), (h2, .inr (2, [.int (S2_orderVerb s2), .int (S2_count s2), .ref h2a2, .ref h2a3, .ref h2a4, .ref h2a5, .ref h2a6, .ref h2a7])), (h2a2, .inl (cI, 24, .inl (S2_roles s2))), (h2a3, .inl (cI, 24, .inl (S2_kinds s2))), (h2a4, .inl (cI, 24, .inl (S2_adjectiveSets s2))), (h2a5, .inl (cI, 24, .inl (S2_nouns s2))), (h2a6, .inl (cI, 24, .inl (S2_lastPlaces s2))), (h2a7, .inl (cI, 24, .inl (S2_answers s2))), (h3, .inr (3, [.ref h3a0, .int (S3_count s3), .int (S3_place s3), .int (S3_adjectives s3), .int (S3_noun s3)])), (h3a0, .inl (cI, 24, .inl (S3_given s3))), (h4, .inr (4, [.ref h4a0, .ref h4a1, .ref h4a2, .int (S4_count s4), .int (S4_boxes s4), .int (S4_openBoxes s4)])), (h4a0, .inl (cI, 12, .inl (S4_nouns s4))), (h4a1, .inl (cI, 12, .inl (S4_adjectiveSets s4))), (h4a2, .inl (cI, 12, .inl (S4_holders s4)))]
abbrev cf_012345 (cI : ClassId) (h0 h1 h2 h2a2 h2a3 h2a4 h2a5 h2a6 h2a7 h3 h3a0 h4 h4a0 h4a1 h4a2 h5 : Nat) (s0 : S0) (s1 : S1) (s2 : S2) (s3 : S3) (s4 : S4) (s5 : S5) : va_W := [(h0, .inr (0, [.ref h4, .ref h2, .ref h1, .int (S0_reach s0), .int (S0_result s0), .int (S0_group s0), .int (S0_target s0), .int (S0_openPhrase s0), .int (S0_choice s0)])), (h1, .inr (1, [.int (S1_lastVerb s1), .int (S1_lastMeant s1), .int (S1_lastDone s1), .int (S1_lastTarget s1), .int (S1_lastAlone s1)])), (h2, .inr (2, [.int (S2_orderVerb s2), .int (S2_count s2), .ref h2a2, .ref h2a3, .ref h2a4, .ref h2a5, .ref h2a6, .ref h2a7])), (h2a2, .inl (cI, 24, .inl (S2_roles s2))), (h2a3, .inl (cI, 24, .inl (S2_kinds s2))), (h2a4, .inl (cI, 24, .inl (S2_adjectiveSets s2))), (h2a5, .inl (cI, 24, .inl (S2_nouns s2))), (h2a6, .inl (cI, 24, .inl (S2_lastPlaces s2))), (h2a7, .inl (cI, 24, .inl (S2_answers s2))), (h3, .inr (3, [.ref h3a0, .int (S3_count s3), .int (S3_place s3), .int (S3_adjectives s3), .int (S3_noun s3)])), (h3a0, .inl (cI, 24, .inl (S3_given s3))), (h4, .inr (4, [.ref h4a0, .ref h4a1, .ref h4a2, .int (S4_count s4), .int (S4_boxes s4), .int (S4_openBoxes s4)])), (h4a0, .inl (cI, 12, .inl (S4_nouns s4))), (h4a1, .inl (cI, 12, .inl (S4_adjectiveSets s4))), (h4a2, .inl (cI, 12, .inl (S4_holders s4))), (h5, .inr (5, [.ref h4, .ref h3, .ref h2, .ref h1, .ref h0, .int (S5_lastOutcome s5), .int (S5_wrongPlace s5), .int (S5_askedThings s5), .int (S5_askedPhrase s5), .int (S5_questionCount s5)]))]
abbrev cf_01235 (cI : ClassId) (h0 h1 h2 h2a2 h2a3 h2a4 h2a5 h2a6 h2a7 h3 h3a0 h5 h4 : Nat) (s0 : S0) (s1 : S1) (s2 : S2) (s3 : S3) (s5 : S5) : va_W := [(h0, .inr (0, [.ref h4, .ref h2, .ref h1, .int (S0_reach s0), .int (S0_result s0), .int (S0_group s0), .int (S0_target s0), .int (S0_openPhrase s0), .int (S0_choice s0)])), (h1, .inr (1, [.int (S1_lastVerb s1), .int (S1_lastMeant s1), .int (S1_lastDone s1), .int (S1_lastTarget s1), .int (S1_lastAlone s1)])), (h2, .inr (2, [.int (S2_orderVerb s2), .int (S2_count s2), .ref h2a2, .ref h2a3, .ref h2a4, .ref h2a5, .ref h2a6, .ref h2a7])), (h2a2, .inl (cI, 24, .inl (S2_roles s2))), (h2a3, .inl (cI, 24, .inl (S2_kinds s2))), (h2a4, .inl (cI, 24, .inl (S2_adjectiveSets s2))), (h2a5, .inl (cI, 24, .inl (S2_nouns s2))), (h2a6, .inl (cI, 24, .inl (S2_lastPlaces s2))), (h2a7, .inl (cI, 24, .inl (S2_answers s2))), (h3, .inr (3, [.ref h3a0, .int (S3_count s3), .int (S3_place s3), .int (S3_adjectives s3), .int (S3_noun s3)])), (h3a0, .inl (cI, 24, .inl (S3_given s3))), (h5, .inr (5, [.ref h4, .ref h3, .ref h2, .ref h1, .ref h0, .int (S5_lastOutcome s5), .int (S5_wrongPlace s5), .int (S5_askedThings s5), .int (S5_askedPhrase s5), .int (S5_questionCount s5)]))]
abbrev cf_0124 (cI : ClassId) (h0 h1 h2 h2a2 h2a3 h2a4 h2a5 h2a6 h2a7 h4 h4a0 h4a1 h4a2 : Nat) (s0 : S0) (s1 : S1) (s2 : S2) (s4 : S4) : va_W := [(h0, .inr (0, [.ref h4, .ref h2, .ref h1, .int (S0_reach s0), .int (S0_result s0), .int (S0_group s0), .int (S0_target s0), .int (S0_openPhrase s0), .int (S0_choice s0)])), (h1, .inr (1, [.int (S1_lastVerb s1), .int (S1_lastMeant s1), .int (S1_lastDone s1), .int (S1_lastTarget s1), .int (S1_lastAlone s1)])), (h2, .inr (2, [.int (S2_orderVerb s2), .int (S2_count s2), .ref h2a2, .ref h2a3, .ref h2a4, .ref h2a5, .ref h2a6, .ref h2a7])), (h2a2, .inl (cI, 24, .inl (S2_roles s2))), (h2a3, .inl (cI, 24, .inl (S2_kinds s2))), (h2a4, .inl (cI, 24, .inl (S2_adjectiveSets s2))), (h2a5, .inl (cI, 24, .inl (S2_nouns s2))), (h2a6, .inl (cI, 24, .inl (S2_lastPlaces s2))), (h2a7, .inl (cI, 24, .inl (S2_answers s2))), (h4, .inr (4, [.ref h4a0, .ref h4a1, .ref h4a2, .int (S4_count s4), .int (S4_boxes s4), .int (S4_openBoxes s4)])), (h4a0, .inl (cI, 12, .inl (S4_nouns s4))), (h4a1, .inl (cI, 12, .inl (S4_adjectiveSets s4))), (h4a2, .inl (cI, 12, .inl (S4_holders s4)))]
abbrev cf_01245 (cI : ClassId) (h0 h1 h2 h2a2 h2a3 h2a4 h2a5 h2a6 h2a7 h4 h4a0 h4a1 h4a2 h5 h3 : Nat) (s0 : S0) (s1 : S1) (s2 : S2) (s4 : S4) (s5 : S5) : va_W := [(h0, .inr (0, [.ref h4, .ref h2, .ref h1, .int (S0_reach s0), .int (S0_result s0), .int (S0_group s0), .int (S0_target s0), .int (S0_openPhrase s0), .int (S0_choice s0)])), (h1, .inr (1, [.int (S1_lastVerb s1), .int (S1_lastMeant s1), .int (S1_lastDone s1), .int (S1_lastTarget s1), .int (S1_lastAlone s1)])), (h2, .inr (2, [.int (S2_orderVerb s2), .int (S2_count s2), .ref h2a2, .ref h2a3, .ref h2a4, .ref h2a5, .ref h2a6, .ref h2a7])), (h2a2, .inl (cI, 24, .inl (S2_roles s2))), (h2a3, .inl (cI, 24, .inl (S2_kinds s2))), (h2a4, .inl (cI, 24, .inl (S2_adjectiveSets s2))), (h2a5, .inl (cI, 24, .inl (S2_nouns s2))), (h2a6, .inl (cI, 24, .inl (S2_lastPlaces s2))), (h2a7, .inl (cI, 24, .inl (S2_answers s2))), (h4, .inr (4, [.ref h4a0, .ref h4a1, .ref h4a2, .int (S4_count s4), .int (S4_boxes s4), .int (S4_openBoxes s4)])), (h4a0, .inl (cI, 12, .inl (S4_nouns s4))), (h4a1, .inl (cI, 12, .inl (S4_adjectiveSets s4))), (h4a2, .inl (cI, 12, .inl (S4_holders s4))), (h5, .inr (5, [.ref h4, .ref h3, .ref h2, .ref h1, .ref h0, .int (S5_lastOutcome s5), .int (S5_wrongPlace s5), .int (S5_askedThings s5), .int (S5_askedPhrase s5), .int (S5_questionCount s5)]))]
abbrev cf_0125 (cI : ClassId) (h0 h1 h2 h2a2 h2a3 h2a4 h2a5 h2a6 h2a7 h5 h4 h3 : Nat) (s0 : S0) (s1 : S1) (s2 : S2) (s5 : S5) : va_W := [(h0, .inr (0, [.ref h4, .ref h2, .ref h1, .int (S0_reach s0), .int (S0_result s0), .int (S0_group s0), .int (S0_target s0), .int (S0_openPhrase s0), .int (S0_choice s0)])), (h1, .inr (1, [.int (S1_lastVerb s1), .int (S1_lastMeant s1), .int (S1_lastDone s1), .int (S1_lastTarget s1), .int (S1_lastAlone s1)])), (h2, .inr (2, [.int (S2_orderVerb s2), .int (S2_count s2), .ref h2a2, .ref h2a3, .ref h2a4, .ref h2a5, .ref h2a6, .ref h2a7])), (h2a2, .inl (cI, 24, .inl (S2_roles s2))), (h2a3, .inl (cI, 24, .inl (S2_kinds s2))), (h2a4, .inl (cI, 24, .inl (S2_adjectiveSets s2))), (h2a5, .inl (cI, 24, .inl (S2_nouns s2))), (h2a6, .inl (cI, 24, .inl (S2_lastPlaces s2))), (h2a7, .inl (cI, 24, .inl (S2_answers s2))), (h5, .inr (5, [.ref h4, .ref h3, .ref h2, .ref h1, .ref h0, .int (S5_lastOutcome s5), .int (S5_wrongPlace s5), .int (S5_askedThings s5), .int (S5_askedPhrase s5), .int (S5_questionCount s5)]))]
abbrev cf_01345 (cI : ClassId) (h0 h1 h3 h3a0 h4 h4a0 h4a1 h4a2 h5 h2 : Nat) (s0 : S0) (s1 : S1) (s3 : S3) (s4 : S4) (s5 : S5) : va_W := [(h0, .inr (0, [.ref h4, .ref h2, .ref h1, .int (S0_reach s0), .int (S0_result s0), .int (S0_group s0), .int (S0_target s0), .int (S0_openPhrase s0), .int (S0_choice s0)])), (h1, .inr (1, [.int (S1_lastVerb s1), .int (S1_lastMeant s1), .int (S1_lastDone s1), .int (S1_lastTarget s1), .int (S1_lastAlone s1)])), (h3, .inr (3, [.ref h3a0, .int (S3_count s3), .int (S3_place s3), .int (S3_adjectives s3), .int (S3_noun s3)])), (h3a0, .inl (cI, 24, .inl (S3_given s3))), (h4, .inr (4, [.ref h4a0, .ref h4a1, .ref h4a2, .int (S4_count s4), .int (S4_boxes s4), .int (S4_openBoxes s4)])), (h4a0, .inl (cI, 12, .inl (S4_nouns s4))), (h4a1, .inl (cI, 12, .inl (S4_adjectiveSets s4))), (h4a2, .inl (cI, 12, .inl (S4_holders s4))), (h5, .inr (5, [.ref h4, .ref h3, .ref h2, .ref h1, .ref h0, .int (S5_lastOutcome s5), .int (S5_wrongPlace s5), .int (S5_askedThings s5), .int (S5_askedPhrase s5), .int (S5_questionCount s5)]))]
abbrev cf_014 (cI : ClassId) (h0 h1 h4 h4a0 h4a1 h4a2 h2 : Nat) (s0 : S0) (s1 : S1) (s4 : S4) : va_W := [(h0, .inr (0, [.ref h4, .ref h2, .ref h1, .int (S0_reach s0), .int (S0_result s0), .int (S0_group s0), .int (S0_target s0), .int (S0_openPhrase s0), .int (S0_choice s0)])), (h1, .inr (1, [.int (S1_lastVerb s1), .int (S1_lastMeant s1), .int (S1_lastDone s1), .int (S1_lastTarget s1), .int (S1_lastAlone s1)])), (h4, .inr (4, [.ref h4a0, .ref h4a1, .ref h4a2, .int (S4_count s4), .int (S4_boxes s4), .int (S4_openBoxes s4)])), (h4a0, .inl (cI, 12, .inl (S4_nouns s4))), (h4a1, .inl (cI, 12, .inl (S4_adjectiveSets s4))), (h4a2, .inl (cI, 12, .inl (S4_holders s4)))]
abbrev cf_0145 (cI : ClassId) (h0 h1 h4 h4a0 h4a1 h4a2 h5 h2 h3 : Nat) (s0 : S0) (s1 : S1) (s4 : S4) (s5 : S5) : va_W := [(h0, .inr (0, [.ref h4, .ref h2, .ref h1, .int (S0_reach s0), .int (S0_result s0), .int (S0_group s0), .int (S0_target s0), .int (S0_openPhrase s0), .int (S0_choice s0)])), (h1, .inr (1, [.int (S1_lastVerb s1), .int (S1_lastMeant s1), .int (S1_lastDone s1), .int (S1_lastTarget s1), .int (S1_lastAlone s1)])), (h4, .inr (4, [.ref h4a0, .ref h4a1, .ref h4a2, .int (S4_count s4), .int (S4_boxes s4), .int (S4_openBoxes s4)])), (h4a0, .inl (cI, 12, .inl (S4_nouns s4))), (h4a1, .inl (cI, 12, .inl (S4_adjectiveSets s4))), (h4a2, .inl (cI, 12, .inl (S4_holders s4))), (h5, .inr (5, [.ref h4, .ref h3, .ref h2, .ref h1, .ref h0, .int (S5_lastOutcome s5), .int (S5_wrongPlace s5), .int (S5_askedThings s5), .int (S5_askedPhrase s5), .int (S5_questionCount s5)]))]
abbrev cf_02 (cI : ClassId) (h0 h2 h2a2 h2a3 h2a4 h2a5 h2a6 h2a7 h4 h1 : Nat) (s0 : S0) (s2 : S2) : va_W := [(h0, .inr (0, [.ref h4, .ref h2, .ref h1, .int (S0_reach s0), .int (S0_result s0), .int (S0_group s0), .int (S0_target s0), .int (S0_openPhrase s0), .int (S0_choice s0)])), (h2, .inr (2, [.int (S2_orderVerb s2), .int (S2_count s2), .ref h2a2, .ref h2a3, .ref h2a4, .ref h2a5, .ref h2a6, .ref h2a7])), (h2a2, .inl (cI, 24, .inl (S2_roles s2))), (h2a3, .inl (cI, 24, .inl (S2_kinds s2))), (h2a4, .inl (cI, 24, .inl (S2_adjectiveSets s2))), (h2a5, .inl (cI, 24, .inl (S2_nouns s2))), (h2a6, .inl (cI, 24, .inl (S2_lastPlaces s2))), (h2a7, .inl (cI, 24, .inl (S2_answers s2)))]
abbrev cf_024 (cI : ClassId) (h0 h2 h2a2 h2a3 h2a4 h2a5 h2a6 h2a7 h4 h4a0 h4a1 h4a2 h1 : Nat) (s0 : S0) (s2 : S2) (s4 : S4) : va_W := [(h0, .inr (0, [.ref h4, .ref h2, .ref h1, .int (S0_reach s0), .int (S0_result s0), .int (S0_group s0), .int (S0_target s0), .int (S0_openPhrase s0), .int (S0_choice s0)])), (h2, .inr (2, [.int (S2_orderVerb s2), .int (S2_count s2), .ref h2a2, .ref h2a3, .ref h2a4, .ref h2a5, .ref h2a6, .ref h2a7])), (h2a2, .inl (cI, 24, .inl (S2_roles s2))), (h2a3, .inl (cI, 24, .inl (S2_kinds s2))), (h2a4, .inl (cI, 24, .inl (S2_adjectiveSets s2))), (h2a5, .inl (cI, 24, .inl (S2_nouns s2))), (h2a6, .inl (cI, 24, .inl (S2_lastPlaces s2))), (h2a7, .inl (cI, 24, .inl (S2_answers s2))), (h4, .inr (4, [.ref h4a0, .ref h4a1, .ref h4a2, .int (S4_count s4), .int (S4_boxes s4), .int (S4_openBoxes s4)])), (h4a0, .inl (cI, 12, .inl (S4_nouns s4))), (h4a1, .inl (cI, 12, .inl (S4_adjectiveSets s4))), (h4a2, .inl (cI, 12, .inl (S4_holders s4)))]
abbrev cf_0245 (cI : ClassId) (h0 h2 h2a2 h2a3 h2a4 h2a5 h2a6 h2a7 h4 h4a0 h4a1 h4a2 h5 h1 h3 : Nat) (s0 : S0) (s2 : S2) (s4 : S4) (s5 : S5) : va_W := [(h0, .inr (0, [.ref h4, .ref h2, .ref h1, .int (S0_reach s0), .int (S0_result s0), .int (S0_group s0), .int (S0_target s0), .int (S0_openPhrase s0), .int (S0_choice s0)])), (h2, .inr (2, [.int (S2_orderVerb s2), .int (S2_count s2), .ref h2a2, .ref h2a3, .ref h2a4, .ref h2a5, .ref h2a6, .ref h2a7])), (h2a2, .inl (cI, 24, .inl (S2_roles s2))), (h2a3, .inl (cI, 24, .inl (S2_kinds s2))), (h2a4, .inl (cI, 24, .inl (S2_adjectiveSets s2))), (h2a5, .inl (cI, 24, .inl (S2_nouns s2))), (h2a6, .inl (cI, 24, .inl (S2_lastPlaces s2))), (h2a7, .inl (cI, 24, .inl (S2_answers s2))), (h4, .inr (4, [.ref h4a0, .ref h4a1, .ref h4a2, .int (S4_count s4), .int (S4_boxes s4), .int (S4_openBoxes s4)])), (h4a0, .inl (cI, 12, .inl (S4_nouns s4))), (h4a1, .inl (cI, 12, .inl (S4_adjectiveSets s4))), (h4a2, .inl (cI, 12, .inl (S4_holders s4))), (h5, .inr (5, [.ref h4, .ref h3, .ref h2, .ref h1, .ref h0, .int (S5_lastOutcome s5), .int (S5_wrongPlace s5), .int (S5_askedThings s5), .int (S5_askedPhrase s5), .int (S5_questionCount s5)]))]
abbrev cf_04 (cI : ClassId) (h0 h4 h4a0 h4a1 h4a2 h2 h1 : Nat) (s0 : S0) (s4 : S4) : va_W := [(h0, .inr (0, [.ref h4, .ref h2, .ref h1, .int (S0_reach s0), .int (S0_result s0), .int (S0_group s0), .int (S0_target s0), .int (S0_openPhrase s0), .int (S0_choice s0)])), (h4, .inr (4, [.ref h4a0, .ref h4a1, .ref h4a2, .int (S4_count s4), .int (S4_boxes s4), .int (S4_openBoxes s4)])), (h4a0, .inl (cI, 12, .inl (S4_nouns s4))), (h4a1, .inl (cI, 12, .inl (S4_adjectiveSets s4))), (h4a2, .inl (cI, 12, .inl (S4_holders s4)))]
abbrev cf_1 (cI : ClassId) (h1 : Nat) (s1 : S1) : va_W := [(h1, .inr (1, [.int (S1_lastVerb s1), .int (S1_lastMeant s1), .int (S1_lastDone s1), .int (S1_lastTarget s1), .int (S1_lastAlone s1)]))]
abbrev cf_124 (cI : ClassId) (h1 h2 h2a2 h2a3 h2a4 h2a5 h2a6 h2a7 h4 h4a0 h4a1 h4a2 : Nat) (s1 : S1) (s2 : S2) (s4 : S4) : va_W := [(h1, .inr (1, [.int (S1_lastVerb s1), .int (S1_lastMeant s1), .int (S1_lastDone s1), .int (S1_lastTarget s1), .int (S1_lastAlone s1)])), (h2, .inr (2, [.int (S2_orderVerb s2), .int (S2_count s2), .ref h2a2, .ref h2a3, .ref h2a4, .ref h2a5, .ref h2a6, .ref h2a7])), (h2a2, .inl (cI, 24, .inl (S2_roles s2))), (h2a3, .inl (cI, 24, .inl (S2_kinds s2))), (h2a4, .inl (cI, 24, .inl (S2_adjectiveSets s2))), (h2a5, .inl (cI, 24, .inl (S2_nouns s2))), (h2a6, .inl (cI, 24, .inl (S2_lastPlaces s2))), (h2a7, .inl (cI, 24, .inl (S2_answers s2))), (h4, .inr (4, [.ref h4a0, .ref h4a1, .ref h4a2, .int (S4_count s4), .int (S4_boxes s4), .int (S4_openBoxes s4)])), (h4a0, .inl (cI, 12, .inl (S4_nouns s4))), (h4a1, .inl (cI, 12, .inl (S4_adjectiveSets s4))), (h4a2, .inl (cI, 12, .inl (S4_holders s4)))]
abbrev cf_15 (cI : ClassId) (h1 h5 h4 h3 h2 h0 : Nat) (s1 : S1) (s5 : S5) : va_W := [(h1, .inr (1, [.int (S1_lastVerb s1), .int (S1_lastMeant s1), .int (S1_lastDone s1), .int (S1_lastTarget s1), .int (S1_lastAlone s1)])), (h5, .inr (5, [.ref h4, .ref h3, .ref h2, .ref h1, .ref h0, .int (S5_lastOutcome s5), .int (S5_wrongPlace s5), .int (S5_askedThings s5), .int (S5_askedPhrase s5), .int (S5_questionCount s5)]))]
abbrev cf_2 (cI : ClassId) (h2 h2a2 h2a3 h2a4 h2a5 h2a6 h2a7 : Nat) (s2 : S2) : va_W := [(h2, .inr (2, [.int (S2_orderVerb s2), .int (S2_count s2), .ref h2a2, .ref h2a3, .ref h2a4, .ref h2a5, .ref h2a6, .ref h2a7])), (h2a2, .inl (cI, 24, .inl (S2_roles s2))), (h2a3, .inl (cI, 24, .inl (S2_kinds s2))), (h2a4, .inl (cI, 24, .inl (S2_adjectiveSets s2))), (h2a5, .inl (cI, 24, .inl (S2_nouns s2))), (h2a6, .inl (cI, 24, .inl (S2_lastPlaces s2))), (h2a7, .inl (cI, 24, .inl (S2_answers s2)))]
abbrev cf_23 (cI : ClassId) (h2 h2a2 h2a3 h2a4 h2a5 h2a6 h2a7 h3 h3a0 : Nat) (s2 : S2) (s3 : S3) : va_W := [(h2, .inr (2, [.int (S2_orderVerb s2), .int (S2_count s2), .ref h2a2, .ref h2a3, .ref h2a4, .ref h2a5, .ref h2a6, .ref h2a7])), (h2a2, .inl (cI, 24, .inl (S2_roles s2))), (h2a3, .inl (cI, 24, .inl (S2_kinds s2))), (h2a4, .inl (cI, 24, .inl (S2_adjectiveSets s2))), (h2a5, .inl (cI, 24, .inl (S2_nouns s2))), (h2a6, .inl (cI, 24, .inl (S2_lastPlaces s2))), (h2a7, .inl (cI, 24, .inl (S2_answers s2))), (h3, .inr (3, [.ref h3a0, .int (S3_count s3), .int (S3_place s3), .int (S3_adjectives s3), .int (S3_noun s3)])), (h3a0, .inl (cI, 24, .inl (S3_given s3)))]
abbrev cf_25 (cI : ClassId) (h2 h2a2 h2a3 h2a4 h2a5 h2a6 h2a7 h5 h4 h3 h1 h0 : Nat) (s2 : S2) (s5 : S5) : va_W := [(h2, .inr (2, [.int (S2_orderVerb s2), .int (S2_count s2), .ref h2a2, .ref h2a3, .ref h2a4, .ref h2a5, .ref h2a6, .ref h2a7])), (h2a2, .inl (cI, 24, .inl (S2_roles s2))), (h2a3, .inl (cI, 24, .inl (S2_kinds s2))), (h2a4, .inl (cI, 24, .inl (S2_adjectiveSets s2))), (h2a5, .inl (cI, 24, .inl (S2_nouns s2))), (h2a6, .inl (cI, 24, .inl (S2_lastPlaces s2))), (h2a7, .inl (cI, 24, .inl (S2_answers s2))), (h5, .inr (5, [.ref h4, .ref h3, .ref h2, .ref h1, .ref h0, .int (S5_lastOutcome s5), .int (S5_wrongPlace s5), .int (S5_askedThings s5), .int (S5_askedPhrase s5), .int (S5_questionCount s5)]))]
abbrev cf_3 (cI : ClassId) (h3 h3a0 : Nat) (s3 : S3) : va_W := [(h3, .inr (3, [.ref h3a0, .int (S3_count s3), .int (S3_place s3), .int (S3_adjectives s3), .int (S3_noun s3)])), (h3a0, .inl (cI, 24, .inl (S3_given s3)))]
abbrev cf_4 (cI : ClassId) (h4 h4a0 h4a1 h4a2 : Nat) (s4 : S4) : va_W := [(h4, .inr (4, [.ref h4a0, .ref h4a1, .ref h4a2, .int (S4_count s4), .int (S4_boxes s4), .int (S4_openBoxes s4)])), (h4a0, .inl (cI, 12, .inl (S4_nouns s4))), (h4a1, .inl (cI, 12, .inl (S4_adjectiveSets s4))), (h4a2, .inl (cI, 12, .inl (S4_holders s4)))]
abbrev cf_45 (cI : ClassId) (h4 h4a0 h4a1 h4a2 h5 h3 h2 h1 h0 : Nat) (s4 : S4) (s5 : S5) : va_W := [(h4, .inr (4, [.ref h4a0, .ref h4a1, .ref h4a2, .int (S4_count s4), .int (S4_boxes s4), .int (S4_openBoxes s4)])), (h4a0, .inl (cI, 12, .inl (S4_nouns s4))), (h4a1, .inl (cI, 12, .inl (S4_adjectiveSets s4))), (h4a2, .inl (cI, 12, .inl (S4_holders s4))), (h5, .inr (5, [.ref h4, .ref h3, .ref h2, .ref h1, .ref h0, .int (S5_lastOutcome s5), .int (S5_wrongPlace s5), .int (S5_askedThings s5), .int (S5_askedPhrase s5), .int (S5_questionCount s5)]))]
abbrev cf_5 (cI : ClassId) (h5 h4 h3 h2 h1 h0 : Nat) (s5 : S5) : va_W := [(h5, .inr (5, [.ref h4, .ref h3, .ref h2, .ref h1, .ref h0, .int (S5_lastOutcome s5), .int (S5_wrongPlace s5), .int (S5_askedThings s5), .int (S5_askedPhrase s5), .int (S5_questionCount s5)]))]
abbrev cf_6 (cI cZ : ClassId) (h6 h6a1 h6a2 h6a3 h6a4 h6a5 h6a7 h6a17 h6a18 : Nat) (s6 : S6) : va_W := [(h6, .inr (6, [.int (S6_things s6), .ref h6a1, .ref h6a2, .ref h6a3, .ref h6a4, .ref h6a5, .int (S6_count s6), .ref h6a7, .int (S6_outcome s6), .int (S6_wrongAt s6), .int (S6_verb s6), .int (S6_meant s6), .int (S6_done s6), .int (S6_into s6), .int (S6_it s6), .int (S6_questions s6), .int (S6_length s6), .ref h6a17, .ref h6a18, .int (S6_asked s6), .int (S6_askedAt s6), .int (S6_at s6), .int (S6_failedAt s6), .int (S6_choice s6), .int (S6_thrown s6)])), (h6a1, .inl (cI, 12, .inl (S6_noun s6))), (h6a2, .inl (cI, 12, .inl (S6_adjectives s6))), (h6a3, .inl (cZ, 12, .inl (S6_box s6))), (h6a4, .inl (cZ, 12, .inl (S6_open s6))), (h6a5, .inl (cI, 12, .inl (S6_place s6))), (h6a7, .inl (cI, 24, .inl (S6_words s6))), (h6a17, .inl (cI, 24, .inl (S6_order s6))), (h6a18, .inl (cI, 24, .inl (S6_answer s6)))]
end
section
def fX4_holderOf_29 (s4 : S4) (a1 : Int32) (t0 : Int32) : Option (Int32) :=
    some t0
def fX4_holderOf_27 (s4 : S4) (a1 : Int32) : Option (Int32) :=
    fX4_holderOf_29 s4 a1 (-2)
def fX4_holderOf (s4 : S4) (a1 : Int32) : Option (Int32) :=
  if a1 < 0 then
    fX4_holderOf_27 s4 a1
  else
    if (S4_count s4) ≤ a1 then
      fX4_holderOf_27 s4 a1
    else
      if 12 ≤ a1 then
        fX4_holderOf_27 s4 a1
      else
        ai 12 a1 <|
        fX4_holderOf_29 s4 a1 ((S4_holders s4) a1.toNatClampNeg)
def fX5_contains_23 (a0 : Int32) (a1 : Int32) (t0 : Int32) : Option (Int32) :=
    bo t0 <|
    some t0
def fX5_contains_22 (a0 : Int32) (a1 : Int32) : Option (Int32) :=
    fX5_contains_23 a0 a1 0
def fX5_contains (a0 : Int32) (a1 : Int32) : Option (Int32) :=
  if a1 < 0 then
    fX5_contains_22 a0 a1
  else
    if 12 ≤ a1 then
      fX5_contains_22 a0 a1
    else
      if ((a0 >>> (a1 &&& 31)) &&& 1) = 0 then
        fX5_contains_22 a0 a1
      else
        fX5_contains_23 a0 a1 1
def fX4_reachable_61 (s4 : S4) (k4 : Int32 → Int32 → Option (Int32)) (x1 : Int32) (x2 : Int32) : Option (Int32) :=
    k4 x1 (x2 + 1)
def fX4_reachable_51 (s4 : S4) (k4 : Int32 → Int32 → Option (Int32)) (x1 : Int32) (x2 : Int32) (x3 : Int32) : Option (Int32) :=
    if 0 ≤ x3 then
      fX4_reachable_61 s4 k4 x1 x2
    else
      fX4_reachable_61 s4 k4 (x1 ||| ((1 : Int32) <<< (x2 &&& 31))) x2
def fX4_reachable_21 (s4 : S4) (k4 : Int32 → Int32 → Option (Int32)) : Nat → Int32 → Int32 → Int32 → Int32 → Option (Int32)
  | 0, _, _, _, _ => none
  | n + 1, x1, x2, x3, x4 =>
      if 12 ≤ x4 then
        fX4_reachable_51 s4 k4 x1 x2 x3
      else
        bn1 (fX5_contains (S4_openBoxes s4) x3) fun r_2 =>
        if r_2 = 0 then
          fX4_reachable_51 s4 k4 x1 x2 x3
        else
          bn1 (fX4_holderOf s4 x3) fun r_4 =>
          fX4_reachable_21 s4 k4 n x1 x2 r_4 (x4 + 1)
def fX4_reachable_4 (s4 : S4) : Nat → Int32 → Int32 → Option (Int32)
  | 0, _, _ => none
  | n + 1, x1, x2 =>
      if (S4_count s4) ≤ x2 then
        some x1
      else
        bn1 (fX4_holderOf s4 x2) fun r_2 =>
        fX4_reachable_21 s4 (fun x1 x2 => fX4_reachable_4 s4 n x1 x2) 64 x1 x2 r_2 0
def fX4_reachable (s4 : S4) : Option (Int32) :=
  fX4_reachable_4 s4 64 0 0
def fX5_inReach (s4 : S4) (s5 : S5) : Option (Int32) :=
  bn1 (fX4_reachable s4) fun r_1 =>
  some r_1
def fX3_clear (s3 : S3) : Option (S3) :=
  some (S3_set_place (S3_set_count s3 0) 0)
def fX3_peek_40 (s3 : S3) (t0 : Int32) : Option (Int32) :=
    some t0
def fX3_peek_39 (s3 : S3) : Option (Int32) :=
    fX3_peek_40 s3 (-1)
def fX3_peek (s3 : S3) : Option (Int32) :=
  if (S3_place s3) < 0 then
    fX3_peek_39 s3
  else
    if (S3_count s3) ≤ (S3_place s3) then
      fX3_peek_39 s3
    else
      if 24 ≤ (S3_place s3) then
        fX3_peek_39 s3
      else
        ai 24 (S3_place s3) <|
        fX3_peek_40 s3 ((S3_given s3) (S3_place s3).toNatClampNeg)
def fJ6_bitCount (a0 : Int32) : Option (Int32) :=
  bl (((a0 - (((a0.toUInt32 >>> ((1 : Int32).toUInt32 &&& Int32.toUInt32 31)).toInt32) &&& 1431655765)) &&& 858993459) + ((((a0 - (((a0.toUInt32 >>> ((1 : Int32).toUInt32 &&& Int32.toUInt32 31)).toInt32) &&& 1431655765)).toUInt32 >>> ((2 : Int32).toUInt32 &&& Int32.toUInt32 31)).toInt32) &&& 858993459)) fun y_1 =>
  bl (((y_1 + ((y_1.toUInt32 >>> ((4 : Int32).toUInt32 &&& Int32.toUInt32 31)).toInt32)) &&& 252645135) + ((((y_1 + ((y_1.toUInt32 >>> ((4 : Int32).toUInt32 &&& Int32.toUInt32 31)).toInt32)) &&& 252645135).toUInt32 >>> ((8 : Int32).toUInt32 &&& Int32.toUInt32 31)).toInt32)) fun y_2 =>
  some ((y_2 + ((y_2.toUInt32 >>> ((16 : Int32).toUInt32 &&& Int32.toUInt32 31)).toInt32)) &&& 63)
def fX2_hasPhrase_23 (s2 : S2) (a1 : Int32) (t0 : Int32) : Option (Int32) :=
    bo t0 <|
    some t0
def fX2_hasPhrase_22 (s2 : S2) (a1 : Int32) : Option (Int32) :=
    fX2_hasPhrase_23 s2 a1 0
def fX2_hasPhrase (s2 : S2) (a1 : Int32) : Option (Int32) :=
  if a1 < 0 then
    fX2_hasPhrase_22 s2 a1
  else
    if (S2_count s2) ≤ a1 then
      fX2_hasPhrase_22 s2 a1
    else
      if 24 ≤ a1 then
        fX2_hasPhrase_22 s2 a1
      else
        fX2_hasPhrase_23 s2 a1 1
def fX2_answer_15 (a1 : Int32) (a2 : Int32) (s2 : S2) : Option (S2) :=
    some s2
def fX2_answer (s2 : S2) (a1 : Int32) (a2 : Int32) : Option (S2) :=
  bn1 (fX2_hasPhrase s2 a1) fun r_1 =>
  if r_1 = 0 then
    fX2_answer_15 a1 a2 s2
  else
    ai 24 a1 <|
    fX2_answer_15 a1 a2 (S2_set_answers s2 (upd (S2_answers s2) a1.toNatClampNeg a2))
def fX3_accept (s3 : S3) (a1 : Int32) : Option (Int32 × S3) :=
  bn1 (fX3_peek s3) fun r_1 =>
  if r_1 = a1 then
    some (1, (S3_set_place s3 ((S3_place s3) + 1)))
  else
    some (0, s3)
def fX5_isBetween_17 (a0 : Int32) (a1 : Int32) (a2 : Int32) (t0 : Int32) : Option (Int32) :=
    bo t0 <|
    some t0
def fX5_isBetween_16 (a0 : Int32) (a1 : Int32) (a2 : Int32) : Option (Int32) :=
    fX5_isBetween_17 a0 a1 a2 0
def fX5_isBetween (a0 : Int32) (a1 : Int32) (a2 : Int32) : Option (Int32) :=
  if a0 < a1 then
    fX5_isBetween_16 a0 a1 a2
  else
    if (a1 + a2) ≤ a0 then
      fX5_isBetween_16 a0 a1 a2
    else
      fX5_isBetween_17 a0 a1 a2 1
def fX3_acceptNoun (s3 : S3) (a1 : Int32) : Option (Int32 × S3) :=
  bn1 (fX3_peek s3) fun r_1 =>
  bn1 (fX5_isBetween r_1 a1 8) fun r_2 =>
  if r_2 = 0 then
    some (0, s3)
  else
    bn1 (fX3_peek s3) fun r_4 =>
    some (1, (S3_set_place (S3_set_noun s3 (r_4 - a1)) ((S3_place s3) + 1)))
def fX3_atEnd_16 (s3 : S3) (t0 : Int32) : Option (Int32) :=
    bo t0 <|
    some t0
def fX3_atEnd (s3 : S3) : Option (Int32) :=
  if (S3_place s3) = (S3_count s3) then
    fX3_atEnd_16 s3 1
  else
    fX3_atEnd_16 s3 0
def fX3_readAdjectives_66 (s3 : S3) : Option (S3) :=
    some s3
def fX3_readAdjectives_12 : Nat → S3 → Int32 → Option (S3)
  | 0, _, _ => none
  | n + 1, s3, x1 =>
      if 24 ≤ x1 then
        fX3_readAdjectives_66 s3
      else
        bn1 (fX3_peek s3) fun r_2 =>
        bn1 (fX5_isBetween r_2 20 6) fun r_3 =>
        if r_3 = 0 then
          fX3_readAdjectives_66 s3
        else
          bn1 (fX3_peek s3) fun r_5 =>
          fX3_readAdjectives_12 n (S3_set_place (S3_set_adjectives s3 ((S3_adjectives s3) ||| ((1 : Int32) <<< ((r_5 - 20) &&& 31)))) ((S3_place s3) + 1)) (x1 + 1)
def fX3_readAdjectives (s3 : S3) : Option (S3) :=
  fX3_readAdjectives_12 64 (S3_set_noun (S3_set_adjectives s3 0) (-1)) 0
def fX3_readAnswer_58 (s3 : S3) (t0 : Int32) : Option (Int32 × S3) :=
    bo t0 <|
    some (t0, s3)
def fX3_readAnswer_57 (s3 : S3) : Option (Int32 × S3) :=
    fX3_readAnswer_58 s3 0
def fX3_readAnswer_53 (s3 : S3) : Option (Int32 × S3) :=
    fX3_readAnswer_58 s3 1
def fX3_readAnswer_34 (s3 : S3) (t0 : Int32) : Option (Int32 × S3) :=
    bn1 (fX3_atEnd s3) fun r_1 =>
    if r_1 = 0 then
      fX3_readAnswer_57 s3
    else
      if t0 = 0 then
        if (S3_adjectives s3) = 0 then
          fX3_readAnswer_57 s3
        else
          fX3_readAnswer_53 s3
      else
        fX3_readAnswer_53 s3
def fX3_readAnswer_29 (s3 : S3) : Option (Int32 × S3) :=
    fX3_readAnswer_34 s3 1
def fX3_readAnswer (s3 : S3) : Option (Int32 × S3) :=
  bn2 (fX3_accept s3 10) fun r_1 s3_1 =>
  bn1 (fX3_readAdjectives s3_1) fun s3_2 =>
  bn2 (fX3_acceptNoun s3_2 30) fun r_3 s3_3 =>
  if r_3 = 0 then
    bn2 (fX3_accept s3_3 17) fun r_5 s3_5 =>
    if r_5 = 0 then
      fX3_readAnswer_34 s3_5 0
    else
      fX3_readAnswer_29 s3_5
  else
    fX3_readAnswer_29 s3_3
def fX4_described_88 (s4 : S4) (a1 : Int32) (a2 : Int32) (a3 : Int32) (x4 : Int32) : Option (Int32) :=
    some x4
def fX4_described_82 (s4 : S4) (a1 : Int32) (a2 : Int32) (a3 : Int32) (k6 : Int32 → Int32 → Option (Int32)) (x4 : Int32) (x5 : Int32) : Option (Int32) :=
    k6 x4 (x5 + 1)
def fX4_described_43 (s4 : S4) (a1 : Int32) (a2 : Int32) (a3 : Int32) (k6 : Int32 → Int32 → Option (Int32)) (x4 : Int32) (x5 : Int32) (t0 : Int32) : Option (Int32) :=
    if ((a1 >>> (x5 &&& 31)) &&& 1) = 0 then
      fX4_described_82 s4 a1 a2 a3 k6 x4 x5
    else
      if t0 = 0 then
        fX4_described_82 s4 a1 a2 a3 k6 x4 x5
      else
        ai 12 x5 <|
        if (a2 &&& (((S4_adjectiveSets s4) x5.toNatClampNeg) ^^^ (-1))) = 0 then
          fX4_described_82 s4 a1 a2 a3 k6 (x4 ||| ((1 : Int32) <<< (x5 &&& 31))) x5
        else
          fX4_described_82 s4 a1 a2 a3 k6 x4 x5
def fX4_described_38 (s4 : S4) (a1 : Int32) (a2 : Int32) (a3 : Int32) (k6 : Int32 → Int32 → Option (Int32)) (x4 : Int32) (x5 : Int32) : Option (Int32) :=
    fX4_described_43 s4 a1 a2 a3 k6 x4 x5 1
def fX4_described_6 (s4 : S4) (a1 : Int32) (a2 : Int32) (a3 : Int32) : Nat → Int32 → Int32 → Option (Int32)
  | 0, _, _ => none
  | n + 1, x4, x5 =>
      if (S4_count s4) ≤ x5 then
        fX4_described_88 s4 a1 a2 a3 x4
      else
        if 12 ≤ x5 then
          fX4_described_88 s4 a1 a2 a3 x4
        else
          if a3 = (-1) then
            fX4_described_38 s4 a1 a2 a3 (fun x4 x5 => fX4_described_6 s4 a1 a2 a3 n x4 x5) x4 x5
          else
            ai 12 x5 <|
            if ((S4_nouns s4) x5.toNatClampNeg) = a3 then
              fX4_described_38 s4 a1 a2 a3 (fun x4 x5 => fX4_described_6 s4 a1 a2 a3 n x4 x5) x4 x5
            else
              fX4_described_43 s4 a1 a2 a3 (fun x4 x5 => fX4_described_6 s4 a1 a2 a3 n x4 x5) x4 x5 0
def fX4_described (s4 : S4) (a1 : Int32) (a2 : Int32) (a3 : Int32) : Option (Int32) :=
  fX4_described_6 s4 a1 a2 a3 64 0 0
def fX5_dropQuestion (s5 : S5) : Option (S5) :=
  some (S5_set_askedPhrase (S5_set_askedThings s5 0) (-1))
def fX0_ask (s0 : S0) (a1 : Int32) (a2 : Int32) : Option (Int32 × S0) :=
  some (0, (S0_set_choice (S0_set_openPhrase (S0_set_result s0 1) a2) a1))
def fX0_fitting (s0 : S0) (s2 : S2) (s4 : S4) (a1 : Int32) : Option (Int32) :=
  bn1 (fX2_hasPhrase s2 a1) fun r_1 =>
  if r_1 = 0 then
    some 0
  else
    ai 24 a1 <|
    ai 24 a1 <|
    bn1 (fX4_described s4 (S0_reach s0) ((S2_adjectiveSets s2) a1.toNatClampNeg) ((S2_nouns s2) a1.toNatClampNeg)) fun r_5 =>
    some r_5
def fX0_orNothing_14 (a1 : Int32) (a2 : Int32) (s0 : S0) : Option (Int32 × S0) :=
    some (a1, s0)
def fX0_orNothing (s0 : S0) (a1 : Int32) (a2 : Int32) : Option (Int32 × S0) :=
  if a1 = 0 then
    fX0_orNothing_14 a1 a2 (S0_set_openPhrase (S0_set_result s0 5) a2)
  else
    fX0_orNothing_14 a1 a2 s0
def fX0_findSingle_123 (s1 : S1) (s2 : S2) (s4 : S4) (a1 : Int32) (a2 : Int32) (s0 : S0) (t0 : Int32) : Option (Int32 × S0) :=
    some (t0, s0)
def fX0_findSingle_119 (s1 : S1) (s2 : S2) (s4 : S4) (a1 : Int32) (a2 : Int32) (s0 : S0) (t1 : Int32) : Option (Int32 × S0) :=
    bn2 (fX0_ask s0 t1 a1) fun r_1 s0_1 =>
    fX0_findSingle_123 s1 s2 s4 a1 a2 s0_1 r_1
def fX0_findSingle (s0 : S0) (s1 : S1) (s2 : S2) (s4 : S4) (a1 : Int32) (a2 : Int32) : Option (Int32 × S0) :=
  bn1 (fX2_hasPhrase s2 a1) fun r_1 =>
  if r_1 = 0 then
    some (0, s0)
  else
    ai 24 a1 <|
    if ((S2_answers s2) a1.toNatClampNeg) = 0 then
      ai 24 a1 <|
      if ((S2_kinds s2) a1.toNatClampNeg) = 14 then
        bn2 (fX0_orNothing s0 ((S1_lastAlone s1) &&& (S0_reach s0)) a1) fun r_14 s0_14 =>
        some (r_14, s0_14)
      else
        bn1 (fX0_fitting s0 s2 s4 a1) fun r_7 =>
        bn1 (fJ6_bitCount r_7) fun r_8 =>
        if 1 < r_8 then
          bn1 (fJ6_bitCount (r_7 &&& a2)) fun r_10 =>
          if r_10 = 1 then
            fX0_findSingle_123 s1 s2 s4 a1 a2 s0 (r_7 &&& a2)
          else
            if (r_7 &&& a2) = 0 then
              fX0_findSingle_119 s1 s2 s4 a1 a2 s0 r_7
            else
              fX0_findSingle_119 s1 s2 s4 a1 a2 s0 (r_7 &&& a2)
        else
          bn2 (fX0_orNothing s0 r_7 a1) fun r_13 s0_13 =>
          some (r_13, s0_13)
    else
      ai 24 a1 <|
      some (((S2_answers s2) a1.toNatClampNeg), s0)
def fX2_roleOf_18 (s2 : S2) (a1 : Int32) (t0 : Int32) : Option (Int32) :=
    some t0
def fX2_roleOf (s2 : S2) (a1 : Int32) : Option (Int32) :=
  bn1 (fX2_hasPhrase s2 a1) fun r_1 =>
  if r_1 = 0 then
    fX2_roleOf_18 s2 a1 0
  else
    ai 24 a1 <|
    fX2_roleOf_18 s2 a1 ((S2_roles s2) a1.toNatClampNeg)
def fX0_findPart_76 (s1 : S1) (s2 : S2) (s4 : S4) (a1 : Int32) (a2 : Int32) (s0 : S0) : Option (Int32 × S0) :=
    some (0, s0)
def fX0_findPart_58 (s1 : S1) (s2 : S2) (s4 : S4) (a1 : Int32) (a2 : Int32) (s0 : S0) (x3 : Int32) : Option (Int32 × S0) :=
    if (S0_result s0) = 0 then
      bn1 (fX2_hasPhrase s2 a1) fun r_2 =>
      if r_2 = 0 then
        fX0_findPart_76 s1 s2 s4 a1 a2 s0
      else
        ai 24 a1 <|
        if ((S2_kinds s2) a1.toNatClampNeg) = 11 then
          bn1 (fX0_fitting s0 s2 s4 a1) fun r_6 =>
          bn2 (fX0_orNothing s0 ((r_6 &&& a2) &&& (x3 ^^^ (-1))) a1) fun r_7 s0_7 =>
          some (r_7, s0_7)
        else
        if ((S2_kinds s2) a1.toNatClampNeg) = 15 then
          bn2 (fX0_orNothing s0 ((S1_lastMeant s1) &&& (S0_reach s0)) a1) fun r_9 s0_9 =>
          some (r_9, s0_9)
        else
          bn2 (fX0_findSingle s0 s1 s2 s4 a1 a2) fun r_10 s0_10 =>
          some (r_10, s0_10)
    else
      fX0_findPart_76 s1 s2 s4 a1 a2 s0
def fX0_findPart_7 (s1 : S1) (s2 : S2) (s4 : S4) (a1 : Int32) (a2 : Int32) : Nat → S0 → Int32 → Int32 → Option (Int32 × S0)
  | 0, _, _, _ => none
  | n + 1, s0, x3, x4 =>
      if (S2_count s2) ≤ x4 then
        fX0_findPart_58 s1 s2 s4 a1 a2 s0 x3
      else
        if (S0_result s0) = 0 then
          bn1 (fX2_roleOf s2 x4) fun r_3 =>
          if r_3 = 1 then
            bn2 (fX0_findSingle s0 s1 s2 s4 x4 a2) fun r_5 s0_5 =>
            fX0_findPart_7 s1 s2 s4 a1 a2 n s0_5 (x3 ||| r_5) (x4 + 1)
          else
            fX0_findPart_58 s1 s2 s4 a1 a2 s0 x3
        else
          fX0_findPart_58 s1 s2 s4 a1 a2 s0 x3
def fX0_findPart (s0 : S0) (s1 : S1) (s2 : S2) (s4 : S4) (a1 : Int32) (a2 : Int32) : Option (Int32 × S0) :=
  fX0_findPart_7 s1 s2 s4 a1 a2 64 s0 0 (a1 + 1)
def fX0_onlyOf_2 (s0 : S0) (a1 : Int32) : Nat → Int32 → Option (Int32)
  | 0, _ => none
  | n + 1, x2 =>
      if 12 ≤ x2 then
        some (-1)
      else
        bn1 (fX5_contains a1 x2) fun r_2 =>
        if r_2 = 0 then
          fX0_onlyOf_2 s0 a1 n (x2 + 1)
        else
          some x2
def fX0_onlyOf (s0 : S0) (a1 : Int32) : Option (Int32) :=
  fX0_onlyOf_2 s0 a1 64 0
def fX0_start (s0 : S0) (a1 : Int32) : Option (S0) :=
  some (S0_set_choice (S0_set_openPhrase (S0_set_target (S0_set_group (S0_set_result (S0_set_reach s0 a1) 0) 0) (-1)) (-1)) 0)
def fX4_held_41 (s4 : S4) (x1 : Int32) : Option (Int32) :=
    some x1
def fX4_held_35 (s4 : S4) (k4 : Int32 → Int32 → Option (Int32)) (x1 : Int32) (x2 : Int32) : Option (Int32) :=
    k4 x1 (x2 + 1)
def fX4_held_4 (s4 : S4) : Nat → Int32 → Int32 → Option (Int32)
  | 0, _, _ => none
  | n + 1, x1, x2 =>
      if (S4_count s4) ≤ x2 then
        fX4_held_41 s4 x1
      else
        if 12 ≤ x2 then
          fX4_held_41 s4 x1
        else
          ai 12 x2 <|
          if ((S4_holders s4) x2.toNatClampNeg) = (-3) then
            fX4_held_35 s4 (fun x1 x2 => fX4_held_4 s4 n x1 x2) (x1 ||| ((1 : Int32) <<< (x2 &&& 31))) x2
          else
            fX4_held_35 s4 (fun x1 x2 => fX4_held_4 s4 n x1 x2) x1 x2
def fX4_held (s4 : S4) : Option (Int32) :=
  fX4_held_4 s4 64 0 0
def fX4_suited (s4 : S4) (a1 : Int32) : Option (Int32) :=
  bn1 (fX4_reachable s4) fun r_1 =>
  if a1 = 0 then
    bn1 (fX4_held s4) fun r_3 =>
    some (r_1 &&& (r_3 ^^^ (-1)))
  else
  if a1 = 1 then
    bn1 (fX4_held s4) fun r_5 =>
    some (r_1 &&& r_5)
  else
  if a1 = 2 then
    bn1 (fX4_held s4) fun r_7 =>
    some (r_1 &&& r_7)
  else
  if a1 = 3 then
    some ((r_1 &&& (S4_boxes s4)) &&& ((S4_openBoxes s4) ^^^ (-1)))
  else
  if a1 = 4 then
    some (r_1 &&& (S4_openBoxes s4))
  else
  if a1 = 16 then
    some (r_1 &&& (S4_openBoxes s4))
  else
    some 0
def fX0_find_110 (s1 : S1) (s2 : S2) (s4 : S4) (s0 : S0) : Option (Int32 × S0) :=
    some ((S0_result s0), s0)
def fX0_find_104 (s1 : S1) (s2 : S2) (s4 : S4) (k28 : S0 → Int32 → Int32 → Option (Int32 × S0)) (s0 : S0) (x1 : Int32) (x2 : Int32) : Option (Int32 × S0) :=
    k28 s0 x1 (x2 + 1)
def fX0_find_28 (s1 : S1) (s2 : S2) (s4 : S4) : Nat → S0 → Int32 → Int32 → Option (Int32 × S0)
  | 0, _, _, _ => none
  | n + 1, s0, x1, x2 =>
      if (S2_count s2) ≤ x2 then
        fX0_find_110 s1 s2 s4 s0
      else
        if (S0_result s0) = 0 then
          bn1 (fX2_roleOf s2 x2) fun r_3 =>
          if r_3 = 0 then
            bn2 (fX0_findPart s0 s1 s2 s4 x2 x1) fun r_9 s0_9 =>
            fX0_find_104 s1 s2 s4 (fun s0 x1 x2 => fX0_find_28 s1 s2 s4 n s0 x1 x2) (S0_set_group s0_9 ((S0_group s0) ||| r_9)) x1 x2
          else
            if r_3 = 2 then
              bn1 (fX4_suited s4 16) fun r_6 =>
              bn2 (fX0_findSingle s0 s1 s2 s4 x2 r_6) fun r_7 s0_7 =>
              bn1 (fX0_onlyOf s0_7 r_7) fun r_8 =>
              fX0_find_104 s1 s2 s4 (fun s0 x1 x2 => fX0_find_28 s1 s2 s4 n s0 x1 x2) (S0_set_target s0_7 r_8) x1 x2
            else
              fX0_find_104 s1 s2 s4 (fun s0 x1 x2 => fX0_find_28 s1 s2 s4 n s0 x1 x2) s0 x1 x2
        else
          fX0_find_110 s1 s2 s4 s0
def fX0_find (s0 : S0) (s1 : S1) (s2 : S2) (s4 : S4) : Option (Int32 × S0) :=
  bn1 (fX4_reachable s4) fun r_1 =>
  bn1 (fX0_start s0 r_1) fun s0_2 =>
  bn1 (fX4_suited s4 (S2_orderVerb s2)) fun r_3 =>
  fX0_find_28 s1 s2 s4 64 s0_2 r_3 0
def fX2_lastPlaceOf_18 (s2 : S2) (a1 : Int32) (t0 : Int32) : Option (Int32) :=
    some t0
def fX2_lastPlaceOf (s2 : S2) (a1 : Int32) : Option (Int32) :=
  bn1 (fX2_hasPhrase s2 a1) fun r_1 =>
  if r_1 = 0 then
    fX2_lastPlaceOf_18 s2 a1 (-1)
  else
    ai 24 a1 <|
    fX2_lastPlaceOf_18 s2 a1 ((S2_lastPlaces s2) a1.toNatClampNeg)
def fX1_keep_34 (a1 : Int32) (a2 : Int32) (a3 : Int32) (a4 : Int32) (s1 : S1) : Option (S1) :=
    some s1
def fX1_keep (s1 : S1) (a1 : Int32) (a2 : Int32) (a3 : Int32) (a4 : Int32) : Option (S1) :=
  bn1 (fJ6_bitCount a2) fun r_1 =>
  if r_1 = 1 then
    fX1_keep_34 a1 a2 a3 a4 (S1_set_lastAlone (S1_set_lastTarget (S1_set_lastDone (S1_set_lastMeant (S1_set_lastVerb s1 a1) a2) a3) a4) a2)
  else
    fX1_keep_34 a1 a2 a3 a4 (S1_set_lastTarget (S1_set_lastDone (S1_set_lastMeant (S1_set_lastVerb s1 a1) a2) a3) a4)
def fX4_has_23 (s4 : S4) (a1 : Int32) (t0 : Int32) : Option (Int32) :=
    bo t0 <|
    some t0
def fX4_has_22 (s4 : S4) (a1 : Int32) : Option (Int32) :=
    fX4_has_23 s4 a1 0
def fX4_has (s4 : S4) (a1 : Int32) : Option (Int32) :=
  if a1 < 0 then
    fX4_has_22 s4 a1
  else
    if (S4_count s4) ≤ a1 then
      fX4_has_22 s4 a1
    else
      if 12 ≤ a1 then
        fX4_has_22 s4 a1
      else
        fX4_has_23 s4 a1 1
def fX4_isWithin_43 (s4 : S4) (a1 : Int32) (a2 : Int32) (t0 : Int32) : Option (Int32) :=
    bo t0 <|
    some t0
def fX4_isWithin_33 (s4 : S4) (a1 : Int32) (a2 : Int32) (x3 : Int32) : Option (Int32) :=
    if x3 = a2 then
      fX4_isWithin_43 s4 a1 a2 1
    else
      fX4_isWithin_43 s4 a1 a2 0
def fX4_isWithin_5 (s4 : S4) (a1 : Int32) (a2 : Int32) : Nat → Int32 → Int32 → Option (Int32)
  | 0, _, _ => none
  | n + 1, x3, x4 =>
      if 12 ≤ x4 then
        fX4_isWithin_33 s4 a1 a2 x3
      else
        if x3 < 0 then
          fX4_isWithin_33 s4 a1 a2 x3
        else
          if x3 = a2 then
            fX4_isWithin_33 s4 a1 a2 x3
          else
            bn1 (fX4_holderOf s4 x3) fun r_4 =>
            fX4_isWithin_5 s4 a1 a2 n r_4 (x4 + 1)
def fX4_isWithin (s4 : S4) (a1 : Int32) (a2 : Int32) : Option (Int32) :=
  fX4_isWithin_5 s4 a1 a2 64 a1 0
def fX4_perform_20 (a1 : Int32) (a2 : Int32) (a3 : Int32) (s4 : S4) : Option (Int32 × S4) :=
    some (0, s4)
def fX4_perform_98 (a1 : Int32) (a2 : Int32) (a3 : Int32) (s4 : S4) : Option (Int32 × S4) :=
    some (0, s4)
def fX4_perform (s4 : S4) (a1 : Int32) (a2 : Int32) (a3 : Int32) : Option (Int32 × S4) :=
  bn1 (fX4_has s4 a2) fun r_1 =>
  if r_1 = 0 then
    fX4_perform_20 a1 a2 a3 s4
  else
    bn1 (fX4_suited s4 a1) fun r_3 =>
    bn1 (fX5_contains r_3 a2) fun r_4 =>
    if r_4 = 0 then
      fX4_perform_20 a1 a2 a3 s4
    else
      if a1 = 0 then
        ai 12 a2 <|
        some (1, (S4_set_holders s4 (upd (S4_holders s4) a2.toNatClampNeg (-3))))
      else
      if a1 = 1 then
        ai 12 a2 <|
        some (1, (S4_set_holders s4 (upd (S4_holders s4) a2.toNatClampNeg (-2))))
      else
      if a1 = 2 then
        bn1 (fX4_suited s4 16) fun r_11 =>
        bn1 (fX5_contains r_11 a3) fun r_12 =>
        if r_12 = 0 then
          fX4_perform_98 a1 a2 a3 s4
        else
          bn1 (fX4_isWithin s4 a3 a2) fun r_14 =>
          if r_14 = 0 then
            ai 12 a2 <|
            some (1, (S4_set_holders s4 (upd (S4_holders s4) a2.toNatClampNeg a3)))
          else
            fX4_perform_98 a1 a2 a3 s4
      else
      if a1 = 3 then
        some (1, (S4_set_openBoxes s4 ((S4_openBoxes s4) ||| ((1 : Int32) <<< (a2 &&& 31)))))
      else
      if a1 = 4 then
        some (1, (S4_set_openBoxes s4 ((S4_openBoxes s4) &&& (((1 : Int32) <<< (a2 &&& 31)) ^^^ (-1)))))
      else
        some (0, s4)
def fX5_carryOut_55 (s0 : S0) (s2 : S2) (s5 : S5) (k4 : S1 → S4 → Int32 → Int32 → Option (S1 × S4)) (s1 : S1) (s4 : S4) (x1 : Int32) (x2 : Int32) : Option (S1 × S4) :=
    k4 s1 s4 x1 (x2 + 1)
def fX5_carryOut_4 (s0 : S0) (s2 : S2) (s5 : S5) : Nat → S1 → S4 → Int32 → Int32 → Option (S1 × S4)
  | 0, _, _, _, _ => none
  | n + 1, s1, s4, x1, x2 =>
      if 12 ≤ x2 then
        bn1 (fX1_keep s1 (S2_orderVerb s2) (S0_group s0) x1 (S0_target s0)) fun s1_2 =>
        some (s1_2, s4)
      else
        bn1 (fX5_contains (S0_group s0) x2) fun r_3 =>
        if r_3 = 0 then
          fX5_carryOut_55 s0 s2 s5 (fun s1 s4 x1 x2 => fX5_carryOut_4 s0 s2 s5 n s1 s4 x1 x2) s1 s4 x1 x2
        else
          bn2 (fX4_perform s4 (S2_orderVerb s2) x2 (S0_target s0)) fun r_5 s4_5 =>
          if r_5 = 0 then
            fX5_carryOut_55 s0 s2 s5 (fun s1 s4 x1 x2 => fX5_carryOut_4 s0 s2 s5 n s1 s4 x1 x2) s1 s4_5 x1 x2
          else
            fX5_carryOut_55 s0 s2 s5 (fun s1 s4 x1 x2 => fX5_carryOut_4 s0 s2 s5 n s1 s4 x1 x2) s1 s4_5 (x1 ||| ((1 : Int32) <<< (x2 &&& 31))) x2
def fX5_carryOut (s0 : S0) (s1 : S1) (s2 : S2) (s4 : S4) (s5 : S5) : Option (S1 × S4) :=
  fX5_carryOut_4 s0 s2 s5 64 s1 s4 0 0
def fX5_lookAtOrder_68 (s2 : S2) (s0 : S0) (s1 : S1) (s4 : S4) (s5 : S5) (x1 : Int32) : Option (Int32 × S0 × S1 × S4 × S5) :=
    some (x1, s0, s1, s4, s5)
def fX5_lookAtOrder (s0 : S0) (s1 : S1) (s2 : S2) (s4 : S4) (s5 : S5) : Option (Int32 × S0 × S1 × S4 × S5) :=
  bn2 (fX0_find s0 s1 s2 s4) fun r_1 s0_1 =>
  if r_1 = 5 then
    bn1 (fX2_lastPlaceOf s2 (S0_openPhrase s0_1)) fun r_5 =>
    fX5_lookAtOrder_68 s2 s0_1 s1 s4 (S5_set_wrongPlace s5 r_5) r_1
  else
    if r_1 = 1 then
      fX5_lookAtOrder_68 s2 s0_1 s1 s4 (S5_set_askedPhrase (S5_set_askedThings s5 (S0_choice s0_1)) (S0_openPhrase s0_1)) r_1
    else
      bn2 (fX5_carryOut s0_1 s1 s2 s4 s5) fun s1_4 s4_4 =>
      fX5_lookAtOrder_68 s2 s0_1 s1_4 s4_4 s5 r_1
def fX5_hearAnswer (s0 : S0) (s1 : S1) (s2 : S2) (s3 : S3) (s4 : S4) (s5 : S5) : Option (Int32 × S0 × S1 × S2 × S3 × S4 × S5) :=
  bn2 (fX3_readAnswer s3) fun r_1 s3_1 =>
  if r_1 = 0 then
    some (4, s0, s1, s2, s3_1, s4, (S5_set_wrongPlace s5 (S3_place s3_1)))
  else
    bn1 (fX4_described s4 (S5_askedThings s5) (S3_adjectives s3_1) (S3_noun s3_1)) fun r_3 =>
    if r_3 = 0 then
      some (5, s0, s1, s2, s3_1, s4, s5)
    else
      bn1 (fJ6_bitCount r_3) fun r_5 =>
      if r_5 ≤ 1 then
        bn1 (fX2_answer s2 (S5_askedPhrase s5) r_3) fun s2_7 =>
        bn1 (fX5_dropQuestion s5) fun s5_8 =>
        bn5 (fX5_lookAtOrder s0 s1 s2_7 s4 s5_8) fun r_9 s0_9 s1_9 s4_9 s5_9 =>
        some (r_9, s0_9, s1_9, s2_7, s3_1, s4_9, s5_9)
      else
        some (1, s0, s1, s2, s3_1, s4, (S5_set_askedThings s5 r_3))
def fX2_add_16 (s3 : S3) (a1 : Int32) (a2 : Int32) (s2 : S2) : Option (Int32 × S2) :=
    some (0, s2)
def fX2_add (s2 : S2) (s3 : S3) (a1 : Int32) (a2 : Int32) : Option (Int32 × S2) :=
  if (S2_count s2) < 0 then
    fX2_add_16 s3 a1 a2 s2
  else
    if (S2_count s2) < 24 then
      ai 24 (S2_count s2) <|
      ai 24 (S2_count s2) <|
      ai 24 (S2_count s2) <|
      ai 24 (S2_count s2) <|
      ai 24 (S2_count s2) <|
      ai 24 (S2_count s2) <|
      some (1, (S2_set_count (S2_set_answers (S2_set_lastPlaces (S2_set_nouns (S2_set_adjectiveSets (S2_set_kinds (S2_set_roles s2 (upd (S2_roles s2) (S2_count s2).toNatClampNeg a2)) (upd (S2_kinds s2) (S2_count s2).toNatClampNeg a1)) (upd (S2_adjectiveSets s2) (S2_count s2).toNatClampNeg (S3_adjectives s3))) (upd (S2_nouns s2) (S2_count s2).toNatClampNeg (S3_noun s3))) (upd (S2_lastPlaces s2) (S2_count s2).toNatClampNeg ((S3_place s3) - 1))) (upd (S2_answers s2) (S2_count s2).toNatClampNeg 0)) ((S2_count s2) + 1)))
    else
      fX2_add_16 s3 a1 a2 s2
def fX2_nextSingleRole_19 (s2 : S2) (t0 : Int32) : Option (Int32) :=
    some t0
def fX2_nextSingleRole (s2 : S2) : Option (Int32) :=
  bn1 (fX2_roleOf s2 ((S2_count s2) - 1)) fun r_1 =>
  if r_1 = 1 then
    fX2_nextSingleRole_19 s2 1
  else
    fX2_nextSingleRole_19 s2 0
def fX2_readHead_25 (a2 : Int32) (s2 : S2) (s3 : S3) : Option (Int32 × S2 × S3) :=
    bn2 (fX2_add s2 s3 17 a2) fun r_1 s2_1 =>
    bo r_1 <|
    some (r_1, s2_1, s3)
def fX2_readHead_34 (a2 : Int32) (s2 : S2) (s3 : S3) : Option (Int32 × S2 × S3) :=
    some (0, s2, s3)
def fX2_readHead (s2 : S2) (s3 : S3) (a2 : Int32) : Option (Int32 × S2 × S3) :=
  bn2 (fX3_acceptNoun s3 30) fun r_1 s3_1 =>
  if r_1 = 0 then
    if (S3_adjectives s3_1) = 0 then
      fX2_readHead_34 a2 s2 s3_1
    else
      bn2 (fX3_accept s3_1 17) fun r_4 s3_4 =>
      if r_4 = 0 then
        fX2_readHead_34 a2 s2 s3_4
      else
        fX2_readHead_25 a2 s2 s3_4
  else
    fX2_readHead_25 a2 s2 s3_1
def fX2_readSingle (s2 : S2) (s3 : S3) (a2 : Int32) : Option (Int32 × S2 × S3) :=
  bn2 (fX3_accept s3 14) fun r_1 s3_1 =>
  if r_1 = 0 then
    bn2 (fX3_accept s3_1 10) fun r_3 s3_3 =>
    bn1 (fX3_readAdjectives s3_3) fun s3_4 =>
    bn3 (fX2_readHead s2 s3_4 a2) fun r_5 s2_5 s3_5 =>
    bo r_5 <|
    some (r_5, s2_5, s3_5)
  else
    bn2 (fX2_add s2 s3_1 14 a2) fun r_7 s2_7 =>
    bo r_7 <|
    some (r_7, s2_7, s3_1)
def fX2_readPart_145 (s2 : S2) (s3 : S3) (t0 : Int32) : Option (Int32 × S2 × S3) :=
    bo t0 <|
    some (t0, s2, s3)
def fX2_readPart_144 (s2 : S2) (s3 : S3) : Option (Int32 × S2 × S3) :=
    fX2_readPart_145 s2 s3 0
def fX2_readPart_140 (s2 : S2) (s3 : S3) : Option (Int32 × S2 × S3) :=
    fX2_readPart_145 s2 s3 1
def fX2_readPart_111 (s2 : S2) (s3 : S3) : Option (Int32 × S2 × S3) :=
    bn2 (fX2_add s2 s3 11 0) fun r_1 s2_1 =>
    if r_1 = 0 then
      fX2_readPart_144 s2_1 s3
    else
      bn2 (fX3_accept s3 12) fun r_3 s3_3 =>
      if r_3 = 0 then
        fX2_readPart_140 s2_1 s3_3
      else
        bn3 (fX2_readSingle s2_1 s3_3 1) fun r_5 s2_5 s3_5 =>
        if r_5 = 0 then
          fX2_readPart_144 s2_5 s3_5
        else
          fX2_readPart_140 s2_5 s3_5
def fX2_readPart_110 (s2 : S2) (s3 : S3) (t0 : Int32) : Option (Int32 × S2 × S3) :=
    bo t0 <|
    some (t0, s2, s3)
def fX2_readPart_109 (s2 : S2) (s3 : S3) : Option (Int32 × S2 × S3) :=
    fX2_readPart_110 s2 s3 0
def fX2_readPart_75 (s2 : S2) (s3 : S3) (x2 : Int32) (t0 : Int32) : Option (Int32 × S2 × S3) :=
    bn2 (fX3_acceptNoun s3 40) fun r_1 s3_1 =>
    if r_1 = 0 then
      if t0 = 0 then
        if x2 = 0 then
          bn1 (fX2_nextSingleRole s2) fun r_5 =>
          bn3 (fX2_readHead s2 s3_1 r_5) fun r_6 s2_6 s3_6 =>
          if r_6 = 0 then
            fX2_readPart_109 s2_6 s3_6
          else
            fX2_readPart_110 s2_6 s3_6 1
        else
          fX2_readPart_109 s2 s3_1
      else
        fX2_readPart_111 s2 s3_1
    else
      fX2_readPart_111 s2 s3_1
def fX2_readPart_74 (s2 : S2) (s3 : S3) (x2 : Int32) : Option (Int32 × S2 × S3) :=
    fX2_readPart_75 s2 s3 x2 0
def fX2_readPart_55 (s2 : S2) (s3 : S3) (x2 : Int32) : Option (Int32 × S2 × S3) :=
    bn1 (fX3_readAdjectives s3) fun s3_1 =>
    if x2 = 0 then
      fX2_readPart_74 s2 s3_1 x2
    else
      if (S3_adjectives s3_1) = 0 then
        fX2_readPart_75 s2 s3_1 x2 1
      else
        fX2_readPart_74 s2 s3_1 x2
def fX2_readPart (s2 : S2) (s3 : S3) : Option (Int32 × S2 × S3) :=
  bn2 (fX3_accept s3 15) fun r_1 s3_1 =>
  if r_1 = 0 then
    bn1 (fX3_peek s3_1) fun r_3 =>
    if r_3 = 14 then
      bn1 (fX2_nextSingleRole s2) fun r_8 =>
      bn3 (fX2_readSingle s2 s3_1 r_8) fun r_9 s2_9 s3_9 =>
      bo r_9 <|
      some (r_9, s2_9, s3_9)
    else
      bn2 (fX3_accept s3_1 11) fun r_5 s3_5 =>
      if r_5 = 0 then
        bn2 (fX3_accept s3_5 10) fun r_7 s3_7 =>
        fX2_readPart_55 s2 s3_7 r_5
      else
        fX2_readPart_55 s2 s3_5 r_5
  else
    bn2 (fX2_add s2 s3_1 15 0) fun r_11 s2_11 =>
    bo r_11 <|
    some (r_11, s2_11, s3_1)
def fX2_read_87 (s2 : S2) (s3 : S3) : Option (Int32 × S2 × S3) :=
    bn1 (fX3_atEnd s3) fun r_1 =>
    bo r_1 <|
    some (r_1, s2, s3)
def fX2_read_85 (s2 : S2) (s3 : S3) : Option (Int32 × S2 × S3) :=
    some (0, s2, s3)
def fX2_read_59 (s2 : S2) (s3 : S3) : Option (Int32 × S2 × S3) :=
    if (S2_orderVerb s2) = 2 then
      bn2 (fX3_accept s3 16) fun r_2 s3_2 =>
      if r_2 = 0 then
        fX2_read_85 s2 s3_2
      else
        bn3 (fX2_readSingle s2 s3_2 2) fun r_4 s2_4 s3_4 =>
        if r_4 = 0 then
          fX2_read_85 s2_4 s3_4
        else
          fX2_read_87 s2_4 s3_4
    else
      fX2_read_87 s2 s3
def fX2_read_26 : Nat → S2 → S3 → Int32 → Int32 → Option (Int32 × S2 × S3)
  | 0, _, _, _, _ => none
  | n + 1, s2, s3, x2, x3 =>
      if 24 ≤ x3 then
        fX2_read_59 s2 s3
      else
        if x2 = 0 then
          fX2_read_59 s2 s3
        else
          bn3 (fX2_readPart s2 s3) fun r_3 s2_3 s3_3 =>
          if r_3 = 0 then
            some (0, s2_3, s3_3)
          else
            bn2 (fX3_accept s3_3 13) fun r_5 s3_5 =>
            fX2_read_26 n s2_3 s3_5 r_5 (x3 + 1)
def fX2_read (s2 : S2) (s3 : S3) : Option (Int32 × S2 × S3) :=
  bn1 (fX3_peek s3) fun r_1 =>
  bn2 (fX3_accept s3 r_1) fun r_2 s3_2 =>
  fX2_read_26 64 (S2_set_orderVerb (S2_set_count s2 0) r_1) s3_2 1 0
def fX5_hearOrder (s0 : S0) (s1 : S1) (s2 : S2) (s3 : S3) (s4 : S4) (s5 : S5) : Option (Int32 × S0 × S1 × S2 × S3 × S4 × S5) :=
  bn1 (fX5_dropQuestion s5) fun s5_1 =>
  bn3 (fX2_read s2 s3) fun r_2 s2_2 s3_2 =>
  if r_2 = 0 then
    some (4, s0, s1, s2_2, s3_2, s4, (S5_set_wrongPlace s5_1 (S3_place s3_2)))
  else
    bn5 (fX5_lookAtOrder s0 s1 s2_2 s4 s5_1) fun r_4 s0_4 s1_4 s4_4 s5_4 =>
    some (r_4, s0_4, s1_4, s2_2, s3_2, s4_4, s5_4)
def fX5_isVerb_14 (a0 : Int32) (t0 : Int32) : Option (Int32) :=
    bo t0 <|
    some t0
def fX5_isVerb_13 (a0 : Int32) : Option (Int32) :=
    fX5_isVerb_14 a0 0
def fX5_isVerb (a0 : Int32) : Option (Int32) :=
  if a0 < 0 then
    fX5_isVerb_13 a0
  else
    if 4 < a0 then
      fX5_isVerb_13 a0
    else
      fX5_isVerb_14 a0 1
def fX5_say_88 (s0 : S0) (s1 : S1) (s2 : S2) (s3 : S3) (s4 : S4) (s5 : S5) : Option (Int32 × S0 × S1 × S2 × S3 × S4 × S5) :=
    bn1 (fX3_clear s3) fun s3_1 =>
    some ((S5_lastOutcome s5), s0, s1, s2, s3_1, s4, s5)
def fX5_say_70 (s0 : S0) (s1 : S1) (s2 : S2) (s3 : S3) (s4 : S4) (s5 : S5) : Option (Int32 × S0 × S1 × S2 × S3 × S4 × S5) :=
    if (S5_lastOutcome s5) = 1 then
      fX5_say_88 s0 s1 s2 s3 s4 (S5_set_questionCount s5 ((S5_questionCount s5) + 1))
    else
      fX5_say_88 s0 s1 s2 s3 s4 s5
def fX5_say (s0 : S0) (s1 : S1) (s2 : S2) (s3 : S3) (s4 : S4) (s5 : S5) : Option (Int32 × S0 × S1 × S2 × S3 × S4 × S5) :=
  if (S3_count s3) = 0 then
    fX5_say_70 s0 s1 s2 s3 s4 (S5_set_lastOutcome (S5_set_wrongPlace s5 (-1)) 2)
  else
    bn1 (fX3_peek s3) fun r_2 =>
    bn1 (fX5_isVerb r_2) fun r_3 =>
    if r_3 = 0 then
      if (S5_askedThings s5) = 0 then
        fX5_say_70 s0 s1 s2 s3 s4 (S5_set_lastOutcome (S5_set_wrongPlace s5 (-1)) 3)
      else
        bn7 (fX5_hearAnswer s0 s1 s2 s3 s4 (S5_set_wrongPlace s5 (-1))) fun r_6 s0_6 s1_6 s2_6 s3_6 s4_6 s5_6 =>
        fX5_say_70 s0_6 s1_6 s2_6 s3_6 s4_6 (S5_set_lastOutcome s5_6 r_6)
    else
      bn7 (fX5_hearOrder s0 s1 s2 s3 s4 (S5_set_wrongPlace s5 (-1))) fun r_7 s0_7 s1_7 s2_7 s3_7 s4_7 s5_7 =>
      fX5_say_70 s0_7 s1_7 s2_7 s3_7 s4_7 (S5_set_lastOutcome s5_7 r_7)
def fX5_outcome (s5 : S5) : Option (Int32) :=
  some (S5_lastOutcome s5)
def fX5_wrongAt (s5 : S5) : Option (Int32) :=
  some (S5_wrongPlace s5)
def fX5_verb (s1 : S1) (s5 : S5) : Option (Int32) :=
  some (S1_lastVerb s1)
def fX5_meant (s1 : S1) (s5 : S5) : Option (Int32) :=
  some (S1_lastMeant s1)
def fX5_done (s1 : S1) (s5 : S5) : Option (Int32) :=
  some (S1_lastDone s1)
def fX5_into (s1 : S1) (s5 : S5) : Option (Int32) :=
  some (S1_lastTarget s1)
def fX5_asked (s5 : S5) : Option (Int32) :=
  some (S5_askedThings s5)
def fX5_askedAt_22 (s2 : S2) (s5 : S5) (t0 : Int32) : Option (Int32) :=
    some t0
def fX5_askedAt (s2 : S2) (s5 : S5) : Option (Int32) :=
  if (S5_askedThings s5) = 0 then
    fX5_askedAt_22 s2 s5 (-1)
  else
    bn1 (fX2_lastPlaceOf s2 (S5_askedPhrase s5)) fun r_2 =>
    fX5_askedAt_22 s2 s5 r_2
def fX5_questions (s5 : S5) : Option (Int32) :=
  some (S5_questionCount s5)
def fX5_isWord_57 (a0 : Int32) (t0 : Int32) : Option (Int32) :=
    bo t0 <|
    some t0
def fX5_isWord_52 (a0 : Int32) : Option (Int32) :=
    fX5_isWord_57 a0 1
def fX5_isWord_19 (a0 : Int32) : Option (Int32) :=
    bn1 (fX5_isBetween a0 20 6) fun r_1 =>
    if r_1 = 0 then
      bn1 (fX5_isBetween a0 30 8) fun r_3 =>
      if r_3 = 0 then
        bn1 (fX5_isBetween a0 40 8) fun r_5 =>
        if r_5 = 0 then
          fX5_isWord_57 a0 0
        else
          fX5_isWord_52 a0
      else
        fX5_isWord_52 a0
    else
      fX5_isWord_52 a0
def fX5_isWord (a0 : Int32) : Option (Int32) :=
  bn1 (fX5_isVerb a0) fun r_1 =>
  if r_1 = 0 then
    if a0 < 10 then
      fX5_isWord_19 a0
    else
      if a0 ≤ 17 then
        fX5_isWord_52 a0
      else
        fX5_isWord_19 a0
  else
    fX5_isWord_52 a0
def fX6_thrown (s6 : S6) : Option (Int32) :=
  some (S6_thrown s6)
def fX6_may_10 (a1 : Int32) (s6 : S6) (t1 : Int32) : Option (Int32 × S6) :=
    bo a1 <|
    some (a1, (S6_set_thrown s6 t1))
def fX6_may (s6 : S6) (a1 : Int32) : Option (Int32 × S6) :=
  if a1 = 0 then
    fX6_may_10 a1 s6 1
  else
    fX6_may_10 a1 s6 0
def fX6_mayBoth_33 (a1 : Int32) (a2 : Int32) (s6 : S6) (t0 : Int32) : Option (Int32 × S6) :=
    bo t0 <|
    some (t0, s6)
def fX6_mayBoth_18 (a1 : Int32) (a2 : Int32) (s6 : S6) (t1 : Int32) : Option (Int32 × S6) :=
    if t1 = 0 then
      fX6_mayBoth_33 a1 a2 (S6_set_thrown s6 t1) 1
    else
      fX6_mayBoth_33 a1 a2 (S6_set_thrown s6 t1) 0
def fX6_mayBoth (s6 : S6) (a1 : Int32) (a2 : Int32) : Option (Int32 × S6) :=
  if a1 = 0 then
    fX6_mayBoth_18 a1 a2 s6 1
  else
    if a2 = 0 then
      fX6_mayBoth_18 a1 a2 s6 2
    else
      fX6_mayBoth_18 a1 a2 s6 0
def fX6_thing_40 (a1 : Int32) (a2 : Int32) (a3 : Int32) (s6 : S6) (t1 : Int32) (t2 : Int32) : Option (Int32 × S6) :=
    bn2 (fX6_mayBoth s6 t1 t2) fun r_1 s6_1 =>
    if r_1 = 0 then
      some (0, s6_1)
    else
      ai 12 (S6_things s6_1) <|
      ai 12 (S6_things s6_1) <|
      ai 12 (S6_things s6_1) <|
      ai 12 (S6_things s6_1) <|
      some ((((S6_things s6_1) + 1) - 1), (S6_set_things (S6_set_place (S6_set_box (S6_set_adjectives (S6_set_noun s6_1 (upd (S6_noun s6_1) (S6_things s6_1).toNatClampNeg a1)) (upd (S6_adjectives s6_1) (S6_things s6_1).toNatClampNeg a2)) (upd (S6_box s6_1) (S6_things s6_1).toNatClampNeg (vp_nar .boolean a3))) (upd (S6_place s6_1) (S6_things s6_1).toNatClampNeg (-2))) ((S6_things s6_1) + 1)))
def fX6_thing_26 (a1 : Int32) (a2 : Int32) (a3 : Int32) (s6 : S6) (t1 : Int32) : Option (Int32 × S6) :=
    if 12 ≤ (S6_things s6) then
      fX6_thing_40 a1 a2 a3 s6 t1 0
    else
      fX6_thing_40 a1 a2 a3 s6 t1 1
def fX6_thing_25 (a1 : Int32) (a2 : Int32) (a3 : Int32) (s6 : S6) : Option (Int32 × S6) :=
    fX6_thing_26 a1 a2 a3 s6 0
def fX6_thing (s6 : S6) (a1 : Int32) (a2 : Int32) (a3 : Int32) : Option (Int32 × S6) :=
  if a1 < 0 then
    fX6_thing_25 a1 a2 a3 s6
  else
    if 7 < a1 then
      fX6_thing_25 a1 a2 a3 s6
    else
      if a2 < 0 then
        fX6_thing_25 a1 a2 a3 s6
      else
        if 63 < a2 then
          fX6_thing_25 a1 a2 a3 s6
        else
          fX6_thing_26 a1 a2 a3 s6 1
def fX6_isThing_17 (s6 : S6) (a1 : Int32) (t0 : Int32) : Option (Int32) :=
    bo t0 <|
    some t0
def fX6_isThing_16 (s6 : S6) (a1 : Int32) : Option (Int32) :=
    fX6_isThing_17 s6 a1 0
def fX6_isThing (s6 : S6) (a1 : Int32) : Option (Int32) :=
  if a1 < 0 then
    fX6_isThing_16 s6 a1
  else
    if (S6_things s6) ≤ a1 then
      fX6_isThing_16 s6 a1
    else
      fX6_isThing_17 s6 a1 1
def fX6_placeOf_22 (a1 : Int32) (s6 : S6) (t0 : Int32) : Option (Int32 × S6) :=
    some (t0, s6)
def fX6_placeOf (s6 : S6) (a1 : Int32) : Option (Int32 × S6) :=
  bn1 (fX6_isThing s6 a1) fun r_1 =>
  bn2 (fX6_may s6 r_1) fun r_2 s6_2 =>
  if r_2 = 0 then
    fX6_placeOf_22 a1 s6_2 0
  else
    ai 12 a1 <|
    fX6_placeOf_22 a1 s6_2 ((S6_place s6_2) a1.toNatClampNeg)
def fX6_isOpen_26 (a1 : Int32) (s6 : S6) (t0 : Int32) : Option (Int32 × S6) :=
    bo t0 <|
    some (t0, s6)
def fX6_isOpen_25 (a1 : Int32) (s6 : S6) : Option (Int32 × S6) :=
    fX6_isOpen_26 a1 s6 0
def fX6_isOpen (s6 : S6) (a1 : Int32) : Option (Int32 × S6) :=
  bn1 (fX6_isThing s6 a1) fun r_1 =>
  bn2 (fX6_may s6 r_1) fun r_2 s6_2 =>
  if r_2 = 0 then
    fX6_isOpen_25 a1 s6_2
  else
    ai 12 a1 <|
    if ((S6_open s6_2) a1.toNatClampNeg) = 0 then
      fX6_isOpen_25 a1 s6_2
    else
      fX6_isOpen_26 a1 s6_2 1
def fX6_reaches_7 (s6 : S6) (a1 : Int32) : Nat → Int32 → Option (Int32)
  | 0, _ => none
  | n + 1, x2 =>
      if x2 < 0 then
        some 1
      else
        ai 12 x2 <|
        if ((S6_open s6) x2.toNatClampNeg) = 0 then
          some 0
        else
          ai 12 x2 <|
          fX6_reaches_7 s6 a1 n ((S6_place s6) x2.toNatClampNeg)
def fX6_reaches (s6 : S6) (a1 : Int32) : Option (Int32) :=
  ai 12 a1 <|
  fX6_reaches_7 s6 a1 64 ((S6_place s6) a1.toNatClampNeg)
def fX6_isInside_36 (s6 : S6) (a1 : Int32) (a2 : Int32) (t0 : Int32) : Option (Int32) :=
    bo t0 <|
    some t0
def fX6_isInside_26 (s6 : S6) (a1 : Int32) (a2 : Int32) (x3 : Int32) : Option (Int32) :=
    if x3 = a2 then
      fX6_isInside_36 s6 a1 a2 1
    else
      fX6_isInside_36 s6 a1 a2 0
def fX6_isInside_7 (s6 : S6) (a1 : Int32) (a2 : Int32) : Nat → Int32 → Option (Int32)
  | 0, _ => none
  | n + 1, x3 =>
      if x3 < 0 then
        fX6_isInside_26 s6 a1 a2 x3
      else
        if x3 = a2 then
          fX6_isInside_26 s6 a1 a2 x3
        else
          ai 12 x3 <|
          fX6_isInside_7 s6 a1 a2 n ((S6_place s6) x3.toNatClampNeg)
def fX6_isInside (s6 : S6) (a1 : Int32) (a2 : Int32) : Option (Int32) :=
  ai 12 a1 <|
  fX6_isInside_7 s6 a1 a2 64 ((S6_place s6) a1.toNatClampNeg)
def fX6_reachable_28 (s6 : S6) (k4 : Int32 → Int32 → Option (Int32)) (x2 : Int32) (t0 : Int32) (t1 : Int32) : Option (Int32) :=
    k4 (t0 ||| t1) (x2 + 1)
def fX6_reachable_4 (s6 : S6) : Nat → Int32 → Int32 → Option (Int32)
  | 0, _, _ => none
  | n + 1, x1, x2 =>
      if (S6_things s6) ≤ x2 then
        some x1
      else
        bn1 (fX6_reaches s6 x2) fun r_2 =>
        if r_2 = 0 then
          fX6_reachable_28 s6 (fun x1 x2 => fX6_reachable_4 s6 n x1 x2) x2 x1 0
        else
          fX6_reachable_28 s6 (fun x1 x2 => fX6_reachable_4 s6 n x1 x2) x2 x1 ((1 : Int32) <<< (x2 &&& 31))
def fX6_reachable (s6 : S6) : Option (Int32) :=
  fX6_reachable_4 s6 64 0 0
def fX6_inReach (s6 : S6) : Option (Int32 × S6) :=
  bn1 (fX6_reachable (S6_set_thrown s6 0)) fun r_1 =>
  some (r_1, (S6_set_thrown s6 0))
def fX6_suits_94 (s6 : S6) (a1 : Int32) (a2 : Int32) (t0 : Int32) : Option (Int32) :=
    bo t0 <|
    some t0
def fX6_suits_53 (s6 : S6) (a1 : Int32) (a2 : Int32) (x3 : Int32) : Option (Int32) :=
    fX6_suits_94 s6 a1 a2 x3
def fX6_suits_84 (s6 : S6) (a1 : Int32) (a2 : Int32) : Option (Int32) :=
    fX6_suits_94 s6 a1 a2 0
def fX6_suits_26 (s6 : S6) (a1 : Int32) (a2 : Int32) (t0 : Int32) : Option (Int32) :=
    if a1 = 0 then
      if t0 = 0 then
        fX6_suits_94 s6 a1 a2 1
      else
        fX6_suits_94 s6 a1 a2 0
    else
      if a1 = 1 then
        fX6_suits_53 s6 a1 a2 t0
      else
        if a1 = 2 then
          fX6_suits_53 s6 a1 a2 t0
        else
          if a1 = 3 then
            ai 12 a2 <|
            if ((S6_box s6) a2.toNatClampNeg) = 0 then
              fX6_suits_84 s6 a1 a2
            else
              ai 12 a2 <|
              if ((S6_open s6) a2.toNatClampNeg) = 0 then
                fX6_suits_94 s6 a1 a2 1
              else
                fX6_suits_84 s6 a1 a2
          else
            ai 12 a2 <|
            fX6_suits_94 s6 a1 a2 ((S6_open s6) a2.toNatClampNeg)
def fX6_suits (s6 : S6) (a1 : Int32) (a2 : Int32) : Option (Int32) :=
  bn1 (fX6_reaches s6 a2) fun r_1 =>
  if r_1 = 0 then
    some 0
  else
    ai 12 a2 <|
    if ((S6_place s6) a2.toNatClampNeg) = (-3) then
      fX6_suits_26 s6 a1 a2 1
    else
      fX6_suits_26 s6 a1 a2 0
def fX6_suited_43 (s6 : S6) (a1 : Int32) (a2 : Int32) (k5 : Int32 → Int32 → Option (Int32)) (x4 : Int32) (t0 : Int32) (t1 : Int32) : Option (Int32) :=
    k5 (t0 ||| t1) (x4 + 1)
def fX6_suited_42 (s6 : S6) (a1 : Int32) (a2 : Int32) (k5 : Int32 → Int32 → Option (Int32)) (x4 : Int32) (t0 : Int32) : Option (Int32) :=
    fX6_suited_43 s6 a1 a2 k5 x4 t0 0
def fX6_suited_5 (s6 : S6) (a1 : Int32) (a2 : Int32) : Nat → Int32 → Int32 → Option (Int32)
  | 0, _, _ => none
  | n + 1, x3, x4 =>
      if (S6_things s6) ≤ x4 then
        some x3
      else
        if ((a2 >>> (x4 &&& 31)) &&& 1) = 1 then
          bn1 (fX6_suits s6 a1 x4) fun r_3 =>
          if r_3 = 0 then
            fX6_suited_42 s6 a1 a2 (fun x3 x4 => fX6_suited_5 s6 a1 a2 n x3 x4) x4 x3
          else
            fX6_suited_43 s6 a1 a2 (fun x3 x4 => fX6_suited_5 s6 a1 a2 n x3 x4) x4 x3 ((1 : Int32) <<< (x4 &&& 31))
        else
          fX6_suited_42 s6 a1 a2 (fun x3 x4 => fX6_suited_5 s6 a1 a2 n x3 x4) x4 x3
def fX6_suited (s6 : S6) (a1 : Int32) (a2 : Int32) : Option (Int32) :=
  fX6_suited_5 s6 a1 a2 64 0 0
def fX6_having_76 (s6 : S6) (a1 : Int32) (a2 : Int32) (a3 : Int32) (k6 : Int32 → Int32 → Option (Int32)) (x5 : Int32) (t0 : Int32) (t1 : Int32) : Option (Int32) :=
    k6 (t0 ||| t1) (x5 + 1)
def fX6_having_75 (s6 : S6) (a1 : Int32) (a2 : Int32) (a3 : Int32) (k6 : Int32 → Int32 → Option (Int32)) (x5 : Int32) (t0 : Int32) : Option (Int32) :=
    fX6_having_76 s6 a1 a2 a3 k6 x5 t0 0
def fX6_having_49 (s6 : S6) (a1 : Int32) (a2 : Int32) (a3 : Int32) (k6 : Int32 → Int32 → Option (Int32)) (x4 : Int32) (x5 : Int32) (t0 : Int32) : Option (Int32) :=
    if ((a1 >>> (x5 &&& 31)) &&& 1) = 1 then
      if t0 = 0 then
        fX6_having_75 s6 a1 a2 a3 k6 x5 x4
      else
        fX6_having_76 s6 a1 a2 a3 k6 x5 x4 ((1 : Int32) <<< (x5 &&& 31))
    else
      fX6_having_75 s6 a1 a2 a3 k6 x5 x4
def fX6_having_48 (s6 : S6) (a1 : Int32) (a2 : Int32) (a3 : Int32) (k6 : Int32 → Int32 → Option (Int32)) (x4 : Int32) (x5 : Int32) : Option (Int32) :=
    fX6_having_49 s6 a1 a2 a3 k6 x4 x5 0
def fX6_having_44 (s6 : S6) (a1 : Int32) (a2 : Int32) (a3 : Int32) (k6 : Int32 → Int32 → Option (Int32)) (x4 : Int32) (x5 : Int32) : Option (Int32) :=
    fX6_having_49 s6 a1 a2 a3 k6 x4 x5 1
def fX6_having_6 (s6 : S6) (a1 : Int32) (a2 : Int32) (a3 : Int32) : Nat → Int32 → Int32 → Option (Int32)
  | 0, _, _ => none
  | n + 1, x4, x5 =>
      if (S6_things s6) ≤ x5 then
        some x4
      else
        ai 12 x5 <|
        if (((S6_adjectives s6) x5.toNatClampNeg) &&& a2) = a2 then
          if a3 = (-1) then
            fX6_having_44 s6 a1 a2 a3 (fun x4 x5 => fX6_having_6 s6 a1 a2 a3 n x4 x5) x4 x5
          else
            ai 12 x5 <|
            if ((S6_noun s6) x5.toNatClampNeg) = a3 then
              fX6_having_44 s6 a1 a2 a3 (fun x4 x5 => fX6_having_6 s6 a1 a2 a3 n x4 x5) x4 x5
            else
              fX6_having_48 s6 a1 a2 a3 (fun x4 x5 => fX6_having_6 s6 a1 a2 a3 n x4 x5) x4 x5
        else
          fX6_having_48 s6 a1 a2 a3 (fun x4 x5 => fX6_having_6 s6 a1 a2 a3 n x4 x5) x4 x5
def fX6_having (s6 : S6) (a1 : Int32) (a2 : Int32) (a3 : Int32) : Option (Int32) :=
  fX6_having_6 s6 a1 a2 a3 64 0 0
def fX6_bits_4 (a0 : Int32) : Nat → Int32 → Int32 → Option (Int32)
  | 0, _, _ => none
  | n + 1, x1, x2 =>
      if x2 ≤ 0 then
        some x1
      else
        fX6_bits_4 a0 n (x1 + (x2 &&& 1)) (x2 >>> (1 &&& 31))
def fX6_bits (a0 : Int32) : Option (Int32) :=
  fX6_bits_4 a0 64 0 a0
def fX6_lowest_2 (a0 : Int32) : Nat → Int32 → Option (Int32)
  | 0, _ => none
  | n + 1, x1 =>
      if ((a0 >>> (x1 &&& 31)) &&& 1) = 0 then
        fX6_lowest_2 a0 n (x1 + 1)
      else
        some x1
def fX6_lowest (a0 : Int32) : Option (Int32) :=
  fX6_lowest_2 a0 64 0
def fX6_isVerb_14 (a0 : Int32) (t0 : Int32) : Option (Int32) :=
    bo t0 <|
    some t0
def fX6_isVerb_13 (a0 : Int32) : Option (Int32) :=
    fX6_isVerb_14 a0 0
def fX6_isVerb (a0 : Int32) : Option (Int32) :=
  if a0 < 0 then
    fX6_isVerb_13 a0
  else
    if 4 < a0 then
      fX6_isVerb_13 a0
    else
      fX6_isVerb_14 a0 1
def fX6_isAdjective_17 (a0 : Int32) (t0 : Int32) : Option (Int32) :=
    bo t0 <|
    some t0
def fX6_isAdjective_16 (a0 : Int32) : Option (Int32) :=
    fX6_isAdjective_17 a0 0
def fX6_isAdjective (a0 : Int32) : Option (Int32) :=
  if a0 < 20 then
    fX6_isAdjective_16 a0
  else
    if 26 ≤ a0 then
      fX6_isAdjective_16 a0
    else
      fX6_isAdjective_17 a0 1
def fX6_isNoun_17 (a0 : Int32) (t0 : Int32) : Option (Int32) :=
    bo t0 <|
    some t0
def fX6_isNoun_16 (a0 : Int32) : Option (Int32) :=
    fX6_isNoun_17 a0 0
def fX6_isNoun (a0 : Int32) : Option (Int32) :=
  if a0 < 30 then
    fX6_isNoun_16 a0
  else
    if 38 ≤ a0 then
      fX6_isNoun_16 a0
    else
      fX6_isNoun_17 a0 1
def fX6_isPlural_17 (a0 : Int32) (t0 : Int32) : Option (Int32) :=
    bo t0 <|
    some t0
def fX6_isPlural_16 (a0 : Int32) : Option (Int32) :=
    fX6_isPlural_17 a0 0
def fX6_isPlural (a0 : Int32) : Option (Int32) :=
  if a0 < 40 then
    fX6_isPlural_16 a0
  else
    if 48 ≤ a0 then
      fX6_isPlural_16 a0
    else
      fX6_isPlural_17 a0 1
def fX6_word_62 (a1 : Int32) (s6 : S6) (t1 : Int32) (t2 : Int32) : Option (Int32 × S6) :=
    bn2 (fX6_mayBoth s6 t1 t2) fun r_1 s6_1 =>
    if r_1 = 0 then
      some (0, s6_1)
    else
      ai 24 (S6_count s6_1) <|
      some (((S6_count s6_1) + 1), (S6_set_count (S6_set_words s6_1 (upd (S6_words s6_1) (S6_count s6_1).toNatClampNeg a1)) ((S6_count s6_1) + 1)))
def fX6_word_45 (a1 : Int32) (s6 : S6) (t0 : Int32) : Option (Int32 × S6) :=
    if 24 ≤ (S6_count s6) then
      fX6_word_62 a1 s6 t0 0
    else
      fX6_word_62 a1 s6 t0 1
def fX6_word_40 (a1 : Int32) (s6 : S6) : Option (Int32 × S6) :=
    fX6_word_45 a1 s6 1
def fX6_word_19 (a1 : Int32) (s6 : S6) : Option (Int32 × S6) :=
    bn1 (fX6_isAdjective a1) fun r_1 =>
    if r_1 = 0 then
      bn1 (fX6_isNoun a1) fun r_3 =>
      if r_3 = 0 then
        bn1 (fX6_isPlural a1) fun r_5 =>
        if r_5 = 0 then
          fX6_word_45 a1 s6 0
        else
          fX6_word_40 a1 s6
      else
        fX6_word_40 a1 s6
    else
      fX6_word_40 a1 s6
def fX6_word (s6 : S6) (a1 : Int32) : Option (Int32 × S6) :=
  bn1 (fX6_isVerb a1) fun r_1 =>
  if r_1 = 0 then
    if a1 < 10 then
      fX6_word_19 a1 s6
    else
      if a1 ≤ 17 then
        fX6_word_40 a1 s6
      else
        fX6_word_19 a1 s6
  else
    fX6_word_40 a1 s6
def fX6_back_13 (s6 : S6) (t1 : Int32) : Option (Int32 × S6) :=
    bn2 (fX6_may s6 t1) fun r_1 s6_1 =>
    if r_1 = 0 then
      some (0, s6_1)
    else
      ai 24 ((S6_count s6_1) - 1) <|
      some (((S6_words s6_1) ((S6_count s6_1) - 1).toNatClampNeg), (S6_set_count s6_1 ((S6_count s6_1) - 1)))
def fX6_back (s6 : S6) : Option (Int32 × S6) :=
  if (S6_count s6) ≤ 0 then
    fX6_back_13 s6 0
  else
    fX6_back_13 s6 1
def fX6_phrase_99 (a0 : Int32) (a1 : Int32) (a2 : Int32) (t0 : Int32) : Option (Int32) :=
    some t0
def fX6_phrase_129 (a0 : Int32) (a1 : Int32) (a2 : Int32) : Option (Int32) :=
    some a2
def fX6_phrase_183 (a0 : Int32) (a1 : Int32) (a2 : Int32) (t0 : Int32) : Option (Int32) :=
    some t0
def fX6_phrase_181 (a0 : Int32) (a1 : Int32) (a2 : Int32) : Option (Int32) :=
    fX6_phrase_183 a0 a1 a2 13
def fX6_phrase_165 (a0 : Int32) (a1 : Int32) (a2 : Int32) : Option (Int32) :=
    if a0 = 1 then
      if a1 = 15 then
        fX6_phrase_183 a0 a1 a2 7
      else
        fX6_phrase_181 a0 a1 a2
    else
      fX6_phrase_181 a0 a1 a2
def fX6_phrase_131 (a0 : Int32) (a1 : Int32) (a2 : Int32) (x3 : Int32) : Option (Int32) :=
    if x3 = 0 then
      bn1 (fX6_isPlural a1) fun r_2 =>
      if r_2 = 0 then
        if a0 = 1 then
          if a1 = 11 then
            fX6_phrase_183 a0 a1 a2 4
          else
            fX6_phrase_165 a0 a1 a2
        else
          fX6_phrase_165 a0 a1 a2
      else
        fX6_phrase_183 a0 a1 a2 6
    else
      some 13
def fX6_phrase_118 (a0 : Int32) (a1 : Int32) (a2 : Int32) (x3 : Int32) (x5 : Int32) : Option (Int32) :=
    if x5 = 0 then
      fX6_phrase_131 a0 a1 a2 x3
    else
      if a1 = 17 then
        fX6_phrase_129 a0 a1 a2
      else
        fX6_phrase_131 a0 a1 a2 x3
def fX6_phrase_82 (a0 : Int32) (a1 : Int32) (a2 : Int32) (x3 : Int32) (x4 : Int32) (x5 : Int32) : Option (Int32) :=
    bn1 (fX6_isAdjective a1) fun r_1 =>
    if r_1 = 0 then
      bn1 (fX6_isNoun a1) fun r_3 =>
      if r_3 = 0 then
        if x4 = 0 then
          fX6_phrase_118 a0 a1 a2 x3 x5
        else
          if a1 = 14 then
            fX6_phrase_129 a0 a1 a2
          else
            fX6_phrase_118 a0 a1 a2 x3 x5
      else
        fX6_phrase_129 a0 a1 a2
    else
      if x3 = 0 then
        fX6_phrase_99 a0 a1 a2 3
      else
        fX6_phrase_99 a0 a1 a2 10
def fX6_phrase_81 (a0 : Int32) (a1 : Int32) (a2 : Int32) (t0 : Int32) : Option (Int32) :=
    some t0
def fX6_phrase_58 (a0 : Int32) (a1 : Int32) (a2 : Int32) (x3 : Int32) (x4 : Int32) (t0 : Int32) : Option (Int32) :=
    if x4 = 0 then
      fX6_phrase_82 a0 a1 a2 x3 x4 t0
    else
      if a1 = 10 then
        if x3 = 0 then
          fX6_phrase_81 a0 a1 a2 2
        else
          fX6_phrase_81 a0 a1 a2 9
      else
        fX6_phrase_82 a0 a1 a2 x3 x4 t0
def fX6_phrase_53 (a0 : Int32) (a1 : Int32) (a2 : Int32) (x3 : Int32) (x4 : Int32) : Option (Int32) :=
    fX6_phrase_58 a0 a1 a2 x3 x4 1
def fX6_phrase_40 (a0 : Int32) (a1 : Int32) (a2 : Int32) (x3 : Int32) (t0 : Int32) : Option (Int32) :=
    if a0 = 3 then
      fX6_phrase_53 a0 a1 a2 x3 t0
    else
      if a0 = 10 then
        fX6_phrase_53 a0 a1 a2 x3 t0
      else
        fX6_phrase_58 a0 a1 a2 x3 t0 0
def fX6_phrase_35 (a0 : Int32) (a1 : Int32) (a2 : Int32) (x3 : Int32) : Option (Int32) :=
    fX6_phrase_40 a0 a1 a2 x3 1
def fX6_phrase_23 (a0 : Int32) (a1 : Int32) (a2 : Int32) (t0 : Int32) : Option (Int32) :=
    if a0 = 1 then
      fX6_phrase_35 a0 a1 a2 t0
    else
      if a0 = 8 then
        fX6_phrase_35 a0 a1 a2 t0
      else
        fX6_phrase_40 a0 a1 a2 t0 0
def fX6_phrase_18 (a0 : Int32) (a1 : Int32) (a2 : Int32) : Option (Int32) :=
    fX6_phrase_23 a0 a1 a2 1
def fX6_phrase (a0 : Int32) (a1 : Int32) (a2 : Int32) : Option (Int32) :=
  if a0 = 8 then
    fX6_phrase_18 a0 a1 a2
  else
    if a0 = 9 then
      fX6_phrase_18 a0 a1 a2
    else
      if a0 = 10 then
        fX6_phrase_18 a0 a1 a2
      else
        fX6_phrase_23 a0 a1 a2 0
def fX6_wrongOrder_234 (s6 : S6) (k9 : Int32 → Int32 → Int32 → Int32 → Option (Int32)) (x1 : Int32) (x2 : Int32) (x3 : Int32) (x4 : Int32) : Option (Int32) :=
    if x1 = 13 then
      some x4
    else
      k9 x1 x2 x3 (x4 + 1)
def fX6_wrongOrder_205 (s6 : S6) (k9 : Int32 → Int32 → Int32 → Int32 → Option (Int32)) (x2 : Int32) (x3 : Int32) (x4 : Int32) (t0 : Int32) : Option (Int32) :=
    fX6_wrongOrder_234 s6 k9 t0 x2 x3 x4
def fX6_wrongOrder_178 (s6 : S6) (k9 : Int32 → Int32 → Int32 → Int32 → Option (Int32)) (x2 : Int32) (x3 : Int32) (x4 : Int32) (x5 : Int32) : Option (Int32) :=
    bn1 (fX6_isAdjective x5) fun r_1 =>
    if r_1 = 0 then
      bn1 (fX6_isPlural x5) fun r_3 =>
      if r_3 = 0 then
        fX6_wrongOrder_205 s6 k9 x2 x3 x4 13
      else
        fX6_wrongOrder_205 s6 k9 x2 x3 x4 6
    else
      fX6_wrongOrder_205 s6 k9 x2 x3 x4 5
def fX6_wrongOrder_233 (s6 : S6) (k9 : Int32 → Int32 → Int32 → Int32 → Option (Int32)) (x2 : Int32) (x3 : Int32) (x4 : Int32) (t0 : Int32) : Option (Int32) :=
    fX6_wrongOrder_234 s6 k9 t0 x2 x3 x4
def fX6_wrongOrder_220 (s6 : S6) (k9 : Int32 → Int32 → Int32 → Int32 → Option (Int32)) (x2 : Int32) (x3 : Int32) (x4 : Int32) : Option (Int32) :=
    fX6_wrongOrder_233 s6 k9 x2 x3 x4 13
def fX6_wrongOrder_168 (s6 : S6) (k9 : Int32 → Int32 → Int32 → Int32 → Option (Int32)) (x1 : Int32) (x2 : Int32) (x3 : Int32) (x4 : Int32) (x5 : Int32) (x6 : Int32) (x7 : Int32) : Option (Int32) :=
    if x1 = 4 then
      fX6_wrongOrder_178 s6 k9 x2 x3 x4 x5
    else
      if x1 = 5 then
        fX6_wrongOrder_178 s6 k9 x2 x3 x4 x5
      else
        if x7 = 0 then
          if x1 = 12 then
            fX6_wrongOrder_220 s6 k9 x2 x3 x4
          else
            bn1 (fX6_phrase x1 x5 x6) fun r_5 =>
            fX6_wrongOrder_233 s6 k9 x2 x3 x4 r_5
        else
          fX6_wrongOrder_220 s6 k9 x2 x3 x4
def fX6_wrongOrder_155 (s6 : S6) (k9 : Int32 → Int32 → Int32 → Int32 → Option (Int32)) (x1 : Int32) (x2 : Int32) (x3 : Int32) (x4 : Int32) (x5 : Int32) (x6 : Int32) (x7 : Int32) : Option (Int32) :=
    if x5 = 12 then
      fX6_wrongOrder_234 s6 k9 8 x2 x3 x4
    else
      fX6_wrongOrder_168 s6 k9 x1 x2 x3 x4 x5 x6 x7
def fX6_wrongOrder_144 (s6 : S6) (k9 : Int32 → Int32 → Int32 → Int32 → Option (Int32)) (x1 : Int32) (x2 : Int32) (x3 : Int32) (x4 : Int32) (x5 : Int32) (x6 : Int32) (x7 : Int32) : Option (Int32) :=
    if x1 = 4 then
      fX6_wrongOrder_155 s6 k9 x1 x2 x3 x4 x5 x6 x7
    else
      if x1 = 6 then
        fX6_wrongOrder_155 s6 k9 x1 x2 x3 x4 x5 x6 x7
      else
        fX6_wrongOrder_168 s6 k9 x1 x2 x3 x4 x5 x6 x7
def fX6_wrongOrder_114 (s6 : S6) (k9 : Int32 → Int32 → Int32 → Int32 → Option (Int32)) (x1 : Int32) (x2 : Int32) (x3 : Int32) (x4 : Int32) (x5 : Int32) (x6 : Int32) (x7 : Int32) : Option (Int32) :=
    if x7 = 0 then
      fX6_wrongOrder_144 s6 k9 x1 x2 x3 x4 x5 x6 x7
    else
      if x5 = 16 then
        ai 24 0 <|
        if ((S6_words s6) (0 : Int32).toNatClampNeg) = 2 then
          fX6_wrongOrder_234 s6 k9 8 x2 1 x4
        else
          fX6_wrongOrder_144 s6 k9 x1 x2 x3 x4 x5 x6 x7
      else
        fX6_wrongOrder_144 s6 k9 x1 x2 x3 x4 x5 x6 x7
def fX6_wrongOrder_108 (s6 : S6) (k9 : Int32 → Int32 → Int32 → Int32 → Option (Int32)) (x3 : Int32) (x4 : Int32) (t0 : Int32) : Option (Int32) :=
    fX6_wrongOrder_234 s6 k9 1 t0 x3 x4
def fX6_wrongOrder_83 (s6 : S6) (k9 : Int32 → Int32 → Int32 → Int32 → Option (Int32)) (x1 : Int32) (x2 : Int32) (x3 : Int32) (x4 : Int32) (x5 : Int32) (x6 : Int32) (t0 : Int32) : Option (Int32) :=
    if t0 = 0 then
      fX6_wrongOrder_114 s6 k9 x1 x2 x3 x4 x5 x6 t0
    else
      if x5 = 13 then
        if x1 = 11 then
          fX6_wrongOrder_108 s6 k9 x3 x4 1
        else
          fX6_wrongOrder_108 s6 k9 x3 x4 0
      else
        fX6_wrongOrder_114 s6 k9 x1 x2 x3 x4 x5 x6 t0
def fX6_wrongOrder_78 (s6 : S6) (k9 : Int32 → Int32 → Int32 → Int32 → Option (Int32)) (x1 : Int32) (x2 : Int32) (x3 : Int32) (x4 : Int32) (x5 : Int32) (x6 : Int32) : Option (Int32) :=
    fX6_wrongOrder_83 s6 k9 x1 x2 x3 x4 x5 x6 1
def fX6_wrongOrder_53 (s6 : S6) (k9 : Int32 → Int32 → Int32 → Int32 → Option (Int32)) (x1 : Int32) (x2 : Int32) (x3 : Int32) (x4 : Int32) (x5 : Int32) (t0 : Int32) : Option (Int32) :=
    if x1 = 4 then
      fX6_wrongOrder_78 s6 k9 x1 x2 x3 x4 x5 t0
    else
      if x1 = 6 then
        fX6_wrongOrder_78 s6 k9 x1 x2 x3 x4 x5 t0
      else
        if x1 = 7 then
          fX6_wrongOrder_78 s6 k9 x1 x2 x3 x4 x5 t0
        else
          if x1 = 11 then
            fX6_wrongOrder_78 s6 k9 x1 x2 x3 x4 x5 t0
          else
            fX6_wrongOrder_83 s6 k9 x1 x2 x3 x4 x5 t0 0
def fX6_wrongOrder_46 (s6 : S6) (k9 : Int32 → Int32 → Int32 → Int32 → Option (Int32)) (x1 : Int32) (x2 : Int32) (x3 : Int32) (x4 : Int32) (x5 : Int32) : Option (Int32) :=
    fX6_wrongOrder_53 s6 k9 x1 x2 x3 x4 x5 11
def fX6_wrongOrder_319 (s6 : S6) (t0 : Int32) : Option (Int32) :=
    some t0
def fX6_wrongOrder_277 (s6 : S6) (x1 : Int32) (t0 : Int32) : Option (Int32) :=
    ai 24 0 <|
    if ((S6_words s6) (0 : Int32).toNatClampNeg) = 2 then
      if x1 = 12 then
        fX6_wrongOrder_319 s6 (-1)
      else
        fX6_wrongOrder_319 s6 (S6_count s6)
    else
      if t0 = 0 then
        fX6_wrongOrder_319 s6 (S6_count s6)
      else
        fX6_wrongOrder_319 s6 (-1)
def fX6_wrongOrder_272 (s6 : S6) (x1 : Int32) : Option (Int32) :=
    fX6_wrongOrder_277 s6 x1 1
def fX6_wrongOrder_9 (s6 : S6) : Nat → Int32 → Int32 → Int32 → Int32 → Option (Int32)
  | 0, _, _, _, _ => none
  | n + 1, x1, x2, x3, x4 =>
      if (S6_count s6) ≤ x4 then
        if x1 = 4 then
          fX6_wrongOrder_272 s6 x1
        else
          if x1 = 6 then
            fX6_wrongOrder_272 s6 x1
          else
            if x1 = 7 then
              fX6_wrongOrder_272 s6 x1
            else
              if x1 = 11 then
                fX6_wrongOrder_272 s6 x1
              else
                fX6_wrongOrder_277 s6 x1 0
      else
        ai 24 x4 <|
        if x3 = 0 then
          if 8 ≤ x1 then
            fX6_wrongOrder_46 s6 (fun x1 x2 x3 x4 => fX6_wrongOrder_9 s6 n x1 x2 x3 x4) x1 x2 x3 x4 ((S6_words s6) x4.toNatClampNeg)
          else
            if x2 = 0 then
              fX6_wrongOrder_53 s6 (fun x1 x2 x3 x4 => fX6_wrongOrder_9 s6 n x1 x2 x3 x4) x1 x2 x3 x4 ((S6_words s6) x4.toNatClampNeg) 7
            else
              fX6_wrongOrder_46 s6 (fun x1 x2 x3 x4 => fX6_wrongOrder_9 s6 n x1 x2 x3 x4) x1 x2 x3 x4 ((S6_words s6) x4.toNatClampNeg)
        else
          fX6_wrongOrder_53 s6 (fun x1 x2 x3 x4 => fX6_wrongOrder_9 s6 n x1 x2 x3 x4) x1 x2 x3 x4 ((S6_words s6) x4.toNatClampNeg) 12
def fX6_wrongOrder (s6 : S6) : Option (Int32) :=
  fX6_wrongOrder_9 s6 64 1 0 0 1
def fX6_wrongAnswer_111 (s6 : S6) (k6 : Int32 → Int32 → Int32 → Option (Int32)) (x1 : Int32) (x3 : Int32) (t0 : Int32) : Option (Int32) :=
    k6 x1 t0 (x3 + 1)
def fX6_wrongAnswer_106 (s6 : S6) (k6 : Int32 → Int32 → Int32 → Option (Int32)) (x1 : Int32) (x3 : Int32) : Option (Int32) :=
    fX6_wrongAnswer_111 s6 k6 x1 x3 1
def fX6_wrongAnswer_90 (s6 : S6) (k6 : Int32 → Int32 → Int32 → Option (Int32)) (x3 : Int32) (x4 : Int32) (t0 : Int32) : Option (Int32) :=
    bn1 (fX6_isNoun x4) fun r_1 =>
    if r_1 = 0 then
      if x4 = 17 then
        fX6_wrongAnswer_106 s6 k6 t0 x3
      else
        fX6_wrongAnswer_111 s6 k6 t0 x3 0
    else
      fX6_wrongAnswer_106 s6 k6 t0 x3
def fX6_wrongAnswer_85 (s6 : S6) (k6 : Int32 → Int32 → Int32 → Option (Int32)) (x3 : Int32) (x4 : Int32) : Option (Int32) :=
    fX6_wrongAnswer_90 s6 k6 x3 x4 1
def fX6_wrongAnswer_65 (s6 : S6) (k6 : Int32 → Int32 → Int32 → Option (Int32)) (x1 : Int32) (x3 : Int32) (x4 : Int32) (t0 : Int32) : Option (Int32) :=
    if t0 = 0 then
      some x3
    else
      if x1 = 0 then
        if x4 = 10 then
          fX6_wrongAnswer_90 s6 k6 x3 x4 0
        else
          fX6_wrongAnswer_85 s6 k6 x3 x4
      else
        fX6_wrongAnswer_85 s6 k6 x3 x4
def fX6_wrongAnswer_64 (s6 : S6) (k6 : Int32 → Int32 → Int32 → Option (Int32)) (x1 : Int32) (x3 : Int32) (x4 : Int32) : Option (Int32) :=
    fX6_wrongAnswer_65 s6 k6 x1 x3 x4 0
def fX6_wrongAnswer_60 (s6 : S6) (k6 : Int32 → Int32 → Int32 → Option (Int32)) (x1 : Int32) (x3 : Int32) (x4 : Int32) : Option (Int32) :=
    fX6_wrongAnswer_65 s6 k6 x1 x3 x4 1
def fX6_wrongAnswer_37 (s6 : S6) (k6 : Int32 → Int32 → Int32 → Option (Int32)) (x1 : Int32) (x3 : Int32) (x4 : Int32) : Option (Int32) :=
    bn1 (fX6_isAdjective x4) fun r_1 =>
    if r_1 = 0 then
      bn1 (fX6_isNoun x4) fun r_3 =>
      if r_3 = 0 then
        if x4 = 17 then
          fX6_wrongAnswer_60 s6 k6 x1 x3 x4
        else
          fX6_wrongAnswer_64 s6 k6 x1 x3 x4
      else
        fX6_wrongAnswer_60 s6 k6 x1 x3 x4
    else
      fX6_wrongAnswer_60 s6 k6 x1 x3 x4
def fX6_wrongAnswer_130 (s6 : S6) (t0 : Int32) : Option (Int32) :=
    some t0
def fX6_wrongAnswer_6 (s6 : S6) : Nat → Int32 → Int32 → Int32 → Option (Int32)
  | 0, _, _, _ => none
  | n + 1, x1, x2, x3 =>
      if (S6_count s6) ≤ x3 then
        if x1 = 0 then
          fX6_wrongAnswer_130 s6 (S6_count s6)
        else
          fX6_wrongAnswer_130 s6 (-1)
      else
        ai 24 x3 <|
        if x2 = 0 then
          if x3 = 0 then
            if ((S6_words s6) x3.toNatClampNeg) = 10 then
              fX6_wrongAnswer_60 s6 (fun x1 x2 x3 => fX6_wrongAnswer_6 s6 n x1 x2 x3) x1 x3 ((S6_words s6) x3.toNatClampNeg)
            else
              fX6_wrongAnswer_37 s6 (fun x1 x2 x3 => fX6_wrongAnswer_6 s6 n x1 x2 x3) x1 x3 ((S6_words s6) x3.toNatClampNeg)
          else
            fX6_wrongAnswer_37 s6 (fun x1 x2 x3 => fX6_wrongAnswer_6 s6 n x1 x2 x3) x1 x3 ((S6_words s6) x3.toNatClampNeg)
        else
          fX6_wrongAnswer_64 s6 (fun x1 x2 x3 => fX6_wrongAnswer_6 s6 n x1 x2 x3) x1 x3 ((S6_words s6) x3.toNatClampNeg)
def fX6_wrongAnswer (s6 : S6) : Option (Int32) :=
  fX6_wrongAnswer_6 s6 64 0 0 0
def fX6_is_29 (s6 : S6) (a1 : Int32) (t0 : Int32) : Option (Int32) :=
    bo t0 <|
    some t0
def fX6_is_28 (s6 : S6) (a1 : Int32) : Option (Int32) :=
    fX6_is_29 s6 a1 0
def fX6_is (s6 : S6) (a1 : Int32) : Option (Int32) :=
  if (S6_length s6) ≤ (S6_at s6) then
    fX6_is_28 s6 a1
  else
    ai 24 (S6_at s6) <|
    if ((S6_order s6) (S6_at s6).toNatClampNeg) = a1 then
      fX6_is_29 s6 a1 1
    else
      fX6_is_28 s6 a1
def fX6_endOf_25 (s6 : S6) (a1 : Int32) (k2 : Int32 → Option (Int32)) (x2 : Int32) : Option (Int32) :=
    k2 (x2 + 1)
def fX6_endOf_2 (s6 : S6) (a1 : Int32) : Nat → Int32 → Option (Int32)
  | 0, _ => none
  | n + 1, x2 =>
      ai 24 x2 <|
      if ((S6_order s6) x2.toNatClampNeg) = 10 then
        fX6_endOf_25 s6 a1 (fun x2 => fX6_endOf_2 s6 a1 n x2) x2
      else
        ai 24 x2 <|
        bn1 (fX6_isAdjective ((S6_order s6) x2.toNatClampNeg)) fun r_4 =>
        if r_4 = 0 then
          some x2
        else
          fX6_endOf_25 s6 a1 (fun x2 => fX6_endOf_2 s6 a1 n x2) x2
def fX6_endOf (s6 : S6) (a1 : Int32) : Option (Int32) :=
  fX6_endOf_2 s6 a1 64 a1
def fX6_adjectivesUpTo_41 (s6 : S6) (a1 : Int32) (a2 : Int32) (k5 : Int32 → Int32 → Option (Int32)) (x4 : Int32) (t0 : Int32) (t1 : Int32) : Option (Int32) :=
    k5 (t0 ||| t1) (x4 + 1)
def fX6_adjectivesUpTo_5 (s6 : S6) (a1 : Int32) (a2 : Int32) : Nat → Int32 → Int32 → Option (Int32)
  | 0, _, _ => none
  | n + 1, x3, x4 =>
      if a2 ≤ x4 then
        some x3
      else
        ai 24 x4 <|
        bn1 (fX6_isAdjective ((S6_order s6) x4.toNatClampNeg)) fun r_3 =>
        if r_3 = 0 then
          fX6_adjectivesUpTo_41 s6 a1 a2 (fun x3 x4 => fX6_adjectivesUpTo_5 s6 a1 a2 n x3 x4) x4 x3 0
        else
          ai 24 x4 <|
          fX6_adjectivesUpTo_41 s6 a1 a2 (fun x3 x4 => fX6_adjectivesUpTo_5 s6 a1 a2 n x3 x4) x4 x3 ((1 : Int32) <<< ((((S6_order s6) x4.toNatClampNeg) - 20) &&& 31))
def fX6_adjectivesUpTo (s6 : S6) (a1 : Int32) (a2 : Int32) : Option (Int32) :=
  fX6_adjectivesUpTo_5 s6 a1 a2 64 0 a1
def fX6_fail (s6 : S6) (a1 : Int32) (a2 : Int32) : Option (Int32 × S6) :=
  some ((-1), (S6_set_choice (S6_set_failedAt s6 a1) a2))
def fX6_single_78 (a1 : Int32) (s6 : S6) (t0 : Int32) : Option (Int32 × S6) :=
    some (t0, s6)
def fX6_single_72 (a1 : Int32) (s6 : S6) (x3 : Int32) : Option (Int32 × S6) :=
    bn2 (fX6_fail s6 x3 0) fun r_1 s6_1 =>
    fX6_single_78 a1 s6_1 r_1
def fX6_single_172 (a1 : Int32) (s6 : S6) (t1 : Int32) (t2 : Int32) : Option (Int32 × S6) :=
    bn2 (fX6_fail s6 t1 t2) fun r_1 s6_1 =>
    some (r_1, s6_1)
def fX6_single_114 (a1 : Int32) (s6 : S6) (x3 : Int32) (t1 : Int32) (t2 : Int32) (t3 : Int32) : Option (Int32 × S6) :=
    bn1 (fX6_having s6 t1 t2 t3) fun r_1 =>
    bn1 (fX6_bits r_1) fun r_2 =>
    if r_2 = 1 then
      bn1 (fX6_lowest r_1) fun r_9 =>
      some (r_9, s6)
    else
      bn1 (fX6_suited s6 a1 r_1) fun r_4 =>
      bn1 (fX6_bits r_4) fun r_5 =>
      if r_5 = 1 then
        bn1 (fX6_lowest r_4) fun r_8 =>
        some (r_8, s6)
      else
        if r_4 = 0 then
          fX6_single_172 a1 s6 x3 r_1
        else
          fX6_single_172 a1 s6 x3 r_4
def fX6_single (s6 : S6) (a1 : Int32) : Option (Int32 × S6) :=
  bn1 (fX6_endOf s6 (S6_at s6)) fun r_1 =>
  ai 24 r_1 <|
  if ((S6_answer s6) r_1.toNatClampNeg) = (-1) then
    ai 24 r_1 <|
    if ((S6_order s6) r_1.toNatClampNeg) = 14 then
      if (S6_it s6) = (-1) then
        fX6_single_72 a1 (S6_set_at s6 (r_1 + 1)) r_1
      else
        bn1 (fX6_reaches (S6_set_at s6 (r_1 + 1)) (S6_it s6)) fun r_12 =>
        if r_12 = 0 then
          fX6_single_72 a1 (S6_set_at s6 (r_1 + 1)) r_1
        else
          fX6_single_78 a1 (S6_set_at s6 (r_1 + 1)) (S6_it s6)
    else
      bn1 (fX6_reachable (S6_set_at s6 (r_1 + 1))) fun r_6 =>
      bn1 (fX6_adjectivesUpTo (S6_set_at s6 (r_1 + 1)) (S6_at s6) r_1) fun r_7 =>
      ai 24 r_1 <|
      if ((S6_order s6) r_1.toNatClampNeg) = 17 then
        fX6_single_114 a1 (S6_set_at s6 (r_1 + 1)) r_1 r_6 r_7 (-1)
      else
        ai 24 r_1 <|
        fX6_single_114 a1 (S6_set_at s6 (r_1 + 1)) r_1 r_6 r_7 (((S6_order s6) r_1.toNatClampNeg) - 30)
  else
    ai 24 r_1 <|
    some (((S6_answer s6) r_1.toNatClampNeg), (S6_set_at s6 (r_1 + 1)))
def fX6_isSingleAt_35 (s6 : S6) (a1 : Int32) (t0 : Int32) : Option (Int32) :=
    bo t0 <|
    some t0
def fX6_isSingleAt_30 (s6 : S6) (a1 : Int32) : Option (Int32) :=
    fX6_isSingleAt_35 s6 a1 1
def fX6_isSingleAt (s6 : S6) (a1 : Int32) : Option (Int32) :=
  bn1 (fX6_endOf s6 a1) fun r_1 =>
  ai 24 r_1 <|
  bn1 (fX6_isNoun ((S6_order s6) r_1.toNatClampNeg)) fun r_3 =>
  if r_3 = 0 then
    if ((S6_order s6) r_1.toNatClampNeg) = 17 then
      fX6_isSingleAt_30 s6 a1
    else
      if ((S6_order s6) r_1.toNatClampNeg) = 14 then
        fX6_isSingleAt_30 s6 a1
      else
        fX6_isSingleAt_35 s6 a1 0
  else
    fX6_isSingleAt_30 s6 a1
def fX6_part_45 (s6 : S6) (x1 : Int32) : Option (Int32 × S6) :=
    some (x1, s6)
def fX6_part_269 (k200 : S6 → Int32 → Int32 → Int32 → Int32 → Option (Int32 × S6)) (s6 : S6) (x1 : Int32) (x2 : Int32) (x3 : Int32) (t0 : Int32) : Option (Int32 × S6) :=
    k200 s6 x1 x2 x3 t0
def fX6_part_268 (k200 : S6 → Int32 → Int32 → Int32 → Int32 → Option (Int32 × S6)) (s6 : S6) (x1 : Int32) (x2 : Int32) (x3 : Int32) : Option (Int32 × S6) :=
    fX6_part_269 k200 s6 x1 x2 x3 0
def fX6_part_345 (s6 : S6) (x6 : Int32) : Option (Int32 × S6) :=
    some (x6, s6)
def fX6_part_299 (s6 : S6) (x1 : Int32) (x2 : Int32) (x3 : Int32) (t0 : Int32) : Option (Int32 × S6) :=
    ai 24 0 <|
    bn1 (fX6_reachable s6) fun r_2 =>
    bn1 (fX6_adjectivesUpTo s6 x1 x2) fun r_3 =>
    bn1 (fX6_having s6 r_2 r_3 t0) fun r_4 =>
    bn1 (fX6_suited s6 ((S6_order s6) (0 : Int32).toNatClampNeg) r_4) fun r_5 =>
    if (r_5 &&& (x3 ^^^ (-1))) = 0 then
      bn2 (fX6_fail s6 x2 0) fun r_7 s6_7 =>
      fX6_part_345 s6_7 (r_5 &&& (x3 ^^^ (-1)))
    else
      fX6_part_345 s6 (r_5 &&& (x3 ^^^ (-1)))
def fX6_part_200 : Nat → S6 → Int32 → Int32 → Int32 → Int32 → Option (Int32 × S6)
  | 0, _, _, _, _, _ => none
  | n + 1, s6, x1, x2, x3, x4 =>
      if x4 = 0 then
        ai 24 x2 <|
        bn1 (fX6_isPlural ((S6_order s6) x2.toNatClampNeg)) fun r_3 =>
        if r_3 = 0 then
          fX6_part_299 s6 x1 x2 x3 (-1)
        else
          ai 24 x2 <|
          fX6_part_299 s6 x1 x2 x3 (((S6_order s6) x2.toNatClampNeg) - 40)
      else
        ai 24 0 <|
        bn2 (fX6_single (S6_set_at s6 ((S6_at s6) + 1)) ((S6_order s6) (0 : Int32).toNatClampNeg)) fun r_7 s6_7 =>
        if r_7 = (-1) then
          some (0, s6_7)
        else
          bn1 (fX6_is s6_7 13) fun r_9 =>
          if r_9 = 0 then
            fX6_part_268 (fun s6 x1 x2 x3 x4 => fX6_part_200 n s6 x1 x2 x3 x4) s6_7 x1 x2 (x3 ||| ((1 : Int32) <<< (r_7 &&& 31)))
          else
            bn1 (fX6_isSingleAt s6_7 ((S6_at s6_7) + 1)) fun r_11 =>
            if r_11 = 0 then
              fX6_part_268 (fun s6 x1 x2 x3 x4 => fX6_part_200 n s6 x1 x2 x3 x4) s6_7 x1 x2 (x3 ||| ((1 : Int32) <<< (r_7 &&& 31)))
            else
              fX6_part_269 (fun s6 x1 x2 x3 x4 => fX6_part_200 n s6 x1 x2 x3 x4) s6_7 x1 x2 (x3 ||| ((1 : Int32) <<< (r_7 &&& 31))) 1
def fX6_part_183 (s6 : S6) (x1 : Int32) (x2 : Int32) : Option (Int32 × S6) :=
    bn1 (fX6_is (S6_set_at s6 (x2 + 1)) 12) fun r_1 =>
    fX6_part_200 64 (S6_set_at s6 (x2 + 1)) x1 x2 0 r_1
def fX6_part_182 (s6 : S6) (t0 : Int32) : Option (Int32 × S6) :=
    some (t0, s6)
def fX6_part_136 (s6 : S6) (x1 : Int32) (x2 : Int32) : Option (Int32 × S6) :=
    ai 24 x2 <|
    if ((S6_order s6) x2.toNatClampNeg) = 11 then
      fX6_part_183 s6 x1 x2
    else
      ai 24 x2 <|
      bn1 (fX6_isPlural ((S6_order s6) x2.toNatClampNeg)) fun r_4 =>
      if r_4 = 0 then
        ai 24 0 <|
        bn2 (fX6_single s6 ((S6_order s6) (0 : Int32).toNatClampNeg)) fun r_7 s6_7 =>
        if r_7 = (-1) then
          fX6_part_182 s6_7 0
        else
          fX6_part_182 s6_7 ((1 : Int32) <<< (r_7 &&& 31))
      else
        fX6_part_183 s6 x1 x2
def fX6_part_135 (s6 : S6) (x1 : Int32) (t0 : Int32) : Option (Int32 × S6) :=
    fX6_part_136 s6 x1 t0
def fX6_part_134 (s6 : S6) (x1 : Int32) : Option (Int32 × S6) :=
    fX6_part_135 s6 x1 x1
def fX6_part_110 (s6 : S6) (x1 : Int32) (x3 : Int32) : Option (Int32 × S6) :=
    if (S6_length s6) ≤ x3 then
      fX6_part_134 s6 x1
    else
      ai 24 x3 <|
      bn1 (fX6_isPlural ((S6_order s6) x3.toNatClampNeg)) fun r_3 =>
      if r_3 = 0 then
        fX6_part_134 s6 x1
      else
        fX6_part_135 s6 x1 x3
def fX6_part_84 : Nat → S6 → Int32 → Int32 → Option (Int32 × S6)
  | 0, _, _, _ => none
  | n + 1, s6, x1, x3 =>
      if (S6_length s6) ≤ x3 then
        fX6_part_110 s6 x1 x3
      else
        ai 24 x3 <|
        bn1 (fX6_isAdjective ((S6_order s6) x3.toNatClampNeg)) fun r_3 =>
        if r_3 = 0 then
          fX6_part_110 s6 x1 x3
        else
          fX6_part_84 n s6 x1 (x3 + 1)
def fX6_part_70 (s6 : S6) (x1 : Int32) (t0 : Int32) : Option (Int32 × S6) :=
    bn1 (fX6_is s6 11) fun r_1 =>
    if r_1 = 0 then
      fX6_part_136 s6 x1 t0
    else
      fX6_part_84 64 s6 x1 (x1 + 1)
def fX6_part (s6 : S6) : Option (Int32 × S6) :=
  bn1 (fX6_is s6 15) fun r_1 =>
  if r_1 = 0 then
    bn1 (fX6_is s6 11) fun r_3 =>
    if r_3 = 0 then
      bn1 (fX6_endOf s6 (S6_at s6)) fun r_5 =>
      fX6_part_70 s6 (S6_at s6) r_5
    else
      fX6_part_70 s6 (S6_at s6) (S6_at s6)
  else
    bn1 (fX6_reachable (S6_set_at s6 ((S6_at s6) + 1))) fun r_6 =>
    if ((S6_meant s6) &&& r_6) = 0 then
      bn2 (fX6_fail (S6_set_at s6 ((S6_at s6) + 1)) (((S6_at s6) + 1) - 1) 0) fun r_8 s6_8 =>
      fX6_part_45 s6_8 ((S6_meant s6) &&& r_6)
    else
      fX6_part_45 (S6_set_at s6 ((S6_at s6) + 1)) ((S6_meant s6) &&& r_6)
def fX6_acts_41 (a1 : Int32) (s6 : S6) : Option (Int32 × S6) :=
    some (0, s6)
def fX6_acts_112 (a1 : Int32) (s6 : S6) : Option (Int32 × S6) :=
    some (1, s6)
def fX6_acts_111 (a1 : Int32) (s6 : S6) (t1 : Int32) (t2 : Int32) : Option (Int32 × S6) :=
    ai 12 t1 <|
    fX6_acts_112 a1 (S6_set_open s6 (upd (S6_open s6) t1.toNatClampNeg (vp_nar .boolean t2)))
def fX6_acts (s6 : S6) (a1 : Int32) : Option (Int32 × S6) :=
  if (S6_verb s6) = 2 then
    bn1 (fX6_suits s6 16 (S6_into s6)) fun r_7 =>
    if r_7 = 0 then
      fX6_acts_41 a1 s6
    else
      if (S6_into s6) = a1 then
        fX6_acts_41 a1 s6
      else
        bn1 (fX6_isInside s6 (S6_into s6) a1) fun r_10 =>
        if r_10 = 0 then
          ai 12 a1 <|
          fX6_acts_112 a1 (S6_set_place s6 (upd (S6_place s6) a1.toNatClampNeg (S6_into s6)))
        else
          fX6_acts_41 a1 s6
  else
    if (S6_verb s6) = 0 then
      ai 12 a1 <|
      fX6_acts_112 a1 (S6_set_place s6 (upd (S6_place s6) a1.toNatClampNeg (-3)))
    else
      if (S6_verb s6) = 1 then
        ai 12 a1 <|
        fX6_acts_112 a1 (S6_set_place s6 (upd (S6_place s6) a1.toNatClampNeg (-2)))
      else
        if (S6_verb s6) = 3 then
          fX6_acts_111 a1 s6 a1 1
        else
          fX6_acts_111 a1 s6 a1 0
def fX6_failed (s6 : S6) : Option (Int32 × S6) :=
  if (S6_choice s6) = 0 then
    some (5, (S6_set_wrongAt s6 (S6_failedAt s6)))
  else
    some (1, (S6_set_askedAt (S6_set_asked s6 (S6_choice s6)) (S6_failedAt s6)))
def fX6_perform_195 (k142 : S6 → Int32 → Int32 → Option (Int32 × S6)) (s6 : S6) (x1 : Int32) (x3 : Int32) : Option (Int32 × S6) :=
    k142 s6 x1 (x3 + 1)
def fX6_perform_191 (k142 : S6 → Int32 → Int32 → Option (Int32 × S6)) (s6 : S6) (x1 : Int32) (x3 : Int32) (t1 : Int32) (t2 : Int32) : Option (Int32 × S6) :=
    fX6_perform_195 k142 (S6_set_done s6 (t1 ||| t2)) x1 x3
def fX6_perform_142 : Nat → S6 → Int32 → Int32 → Option (Int32 × S6)
  | 0, _, _, _ => none
  | n + 1, s6, x1, x3 =>
      if (S6_things s6) ≤ x3 then
        some (0, s6)
      else
        if ((x1 >>> (x3 &&& 31)) &&& 1) = 1 then
          bn1 (fX6_suits s6 (S6_verb s6) x3) fun r_3 =>
          if r_3 = 0 then
            fX6_perform_195 (fun s6 x1 x3 => fX6_perform_142 n s6 x1 x3) s6 x1 x3
          else
            bn2 (fX6_acts s6 x3) fun r_5 s6_5 =>
            if r_5 = 0 then
              fX6_perform_191 (fun s6 x1 x3 => fX6_perform_142 n s6 x1 x3) s6_5 x1 x3 (S6_done s6) 0
            else
              fX6_perform_191 (fun s6 x1 x3 => fX6_perform_142 n s6 x1 x3) s6_5 x1 x3 (S6_done s6) ((1 : Int32) <<< (x3 &&& 31))
        else
          fX6_perform_195 (fun s6 x1 x3 => fX6_perform_142 n s6 x1 x3) s6 x1 x3
def fX6_perform_132 (s6 : S6) (x1 : Int32) (t1 : Int32) : Option (Int32 × S6) :=
    fX6_perform_142 64 (S6_set_done (S6_set_it s6 t1) 0) x1 0
def fX6_perform_92 (s6 : S6) (x1 : Int32) (x2 : Int32) : Option (Int32 × S6) :=
    ai 24 0 <|
    bn1 (fX6_bits x1) fun r_2 =>
    if r_2 = 1 then
      bn1 (fX6_lowest x1) fun r_4 =>
      fX6_perform_132 (S6_set_into (S6_set_meant (S6_set_verb s6 ((S6_order s6) (0 : Int32).toNatClampNeg)) x1) x2) x1 r_4
    else
      fX6_perform_132 (S6_set_into (S6_set_meant (S6_set_verb s6 ((S6_order s6) (0 : Int32).toNatClampNeg)) x1) x2) x1 (S6_it s6)
def fX6_perform_19 : Nat → S6 → Int32 → Int32 → Option (Int32 × S6)
  | 0, _, _, _ => none
  | n + 1, s6, x1, x2 =>
      bn2 (fX6_part (S6_set_at s6 ((S6_at s6) + 1))) fun r_1 s6_1 =>
      if r_1 = 0 then
        bn2 (fX6_failed s6_1) fun r_10 s6_10 =>
        some (r_10, s6_10)
      else
        bn1 (fX6_is s6_1 13) fun r_3 =>
        if r_3 = 0 then
          bn1 (fX6_is s6_1 16) fun r_5 =>
          if r_5 = 0 then
            fX6_perform_92 s6_1 (x1 ||| r_1) x2
          else
            bn2 (fX6_single (S6_set_at s6_1 ((S6_at s6_1) + 1)) 16) fun r_7 s6_7 =>
            if r_7 = (-1) then
              bn2 (fX6_failed s6_7) fun r_9 s6_9 =>
              some (r_9, s6_9)
            else
              fX6_perform_92 s6_7 (x1 ||| r_1) r_7
        else
          fX6_perform_19 n s6_1 (x1 ||| r_1) x2
def fX6_perform (s6 : S6) : Option (Int32 × S6) :=
  fX6_perform_19 64 (S6_set_at (S6_set_askedAt (S6_set_asked s6 0) (-1)) 0) 0 (-1)
def fX6_understand_59 : Nat → S6 → Int32 → Option (Int32 × S6)
  | 0, _, _ => none
  | n + 1, s6, x1 =>
      if (S6_count s6) ≤ x1 then
        bn2 (fX6_perform s6) fun r_2 s6_2 =>
        some (r_2, s6_2)
      else
        ai 24 x1 <|
        ai 24 x1 <|
        ai 24 x1 <|
        fX6_understand_59 n (S6_set_answer (S6_set_order s6 (upd (S6_order s6) x1.toNatClampNeg ((S6_words s6) x1.toNatClampNeg))) (upd (S6_answer s6) x1.toNatClampNeg (-1))) (x1 + 1)
def fX6_understand_193 (k130 : S6 → Int32 → Int32 → Int32 → Option (Int32 × S6)) (s6 : S6) (x1 : Int32) (x3 : Int32) (t0 : Int32) : Option (Int32 × S6) :=
    k130 s6 x1 t0 (x3 + 1)
def fX6_understand_166 (k130 : S6 → Int32 → Int32 → Int32 → Option (Int32 × S6)) (s6 : S6) (x2 : Int32) (x3 : Int32) (t0 : Int32) (t1 : Int32) : Option (Int32 × S6) :=
    ai 24 x3 <|
    bn1 (fX6_isNoun ((S6_words s6) x3.toNatClampNeg)) fun r_2 =>
    if r_2 = 0 then
      fX6_understand_193 k130 s6 (t0 ||| t1) x3 x2
    else
      ai 24 x3 <|
      fX6_understand_193 k130 s6 (t0 ||| t1) x3 (((S6_words s6) x3.toNatClampNeg) - 30)
def fX6_understand_130 : Nat → S6 → Int32 → Int32 → Int32 → Option (Int32 × S6)
  | 0, _, _, _, _ => none
  | n + 1, s6, x1, x2, x3 =>
      if (S6_count s6) ≤ x3 then
        bn1 (fX6_having s6 (S6_asked s6) x1 x2) fun r_2 =>
        if r_2 = 0 then
          some (5, s6)
        else
          bn1 (fX6_bits r_2) fun r_4 =>
          if r_4 ≤ 1 then
            bn1 (fX6_lowest r_2) fun r_6 =>
            ai 24 (S6_askedAt s6) <|
            bn2 (fX6_perform (S6_set_answer s6 (upd (S6_answer s6) (S6_askedAt s6).toNatClampNeg r_6))) fun r_8 s6_8 =>
            some (r_8, s6_8)
          else
            some (1, (S6_set_asked s6 r_2))
      else
        ai 24 x3 <|
        bn1 (fX6_isAdjective ((S6_words s6) x3.toNatClampNeg)) fun r_10 =>
        if r_10 = 0 then
          fX6_understand_166 (fun s6 x1 x2 x3 => fX6_understand_130 n s6 x1 x2 x3) s6 x2 x3 x1 0
        else
          ai 24 x3 <|
          fX6_understand_166 (fun s6 x1 x2 x3 => fX6_understand_130 n s6 x1 x2 x3) s6 x2 x3 x1 ((1 : Int32) <<< ((((S6_words s6) x3.toNatClampNeg) - 20) &&& 31))
def fX6_understand (s6 : S6) : Option (Int32 × S6) :=
  if (S6_count s6) = 0 then
    some (2, s6)
  else
    ai 24 0 <|
    bn1 (fX6_isVerb ((S6_words s6) (0 : Int32).toNatClampNeg)) fun r_3 =>
    if r_3 = 0 then
      if (S6_asked s6) = 0 then
        some (3, s6)
      else
        bn1 (fX6_wrongAnswer s6) fun r_6 =>
        if r_6 = (-1) then
          fX6_understand_130 64 (S6_set_wrongAt s6 r_6) 0 (-1) 0
        else
          some (4, (S6_set_wrongAt s6 r_6))
    else
      bn1 (fX6_wrongOrder (S6_set_askedAt (S6_set_asked s6 0) (-1))) fun r_8 =>
      if r_8 = (-1) then
        fX6_understand_59 64 (S6_set_length (S6_set_wrongAt (S6_set_askedAt (S6_set_asked s6 0) (-1)) r_8) (S6_count s6)) 0
      else
        some (4, (S6_set_wrongAt (S6_set_askedAt (S6_set_asked s6 0) (-1)) r_8))
def fX6_say_36 (s6 : S6) (t1 : Int32) (t2 : Int32) : Option (Int32 × S6) :=
    some ((S6_outcome s6), (S6_set_count (S6_set_questions s6 (t1 + t2)) 0))
def fX6_say (s6 : S6) : Option (Int32 × S6) :=
  bn2 (fX6_understand (S6_set_wrongAt (S6_set_thrown s6 0) (-1))) fun r_1 s6_1 =>
  if r_1 = 1 then
    fX6_say_36 (S6_set_outcome s6_1 r_1) (S6_questions s6_1) 1
  else
    fX6_say_36 (S6_set_outcome s6_1 r_1) (S6_questions s6_1) 0
def fX6_outcome (s6 : S6) : Option (Int32 × S6) :=
  some ((S6_outcome s6), (S6_set_thrown s6 0))
def fX6_wrongAt (s6 : S6) : Option (Int32 × S6) :=
  some ((S6_wrongAt s6), (S6_set_thrown s6 0))
def fX6_verb (s6 : S6) : Option (Int32 × S6) :=
  some ((S6_verb s6), (S6_set_thrown s6 0))
def fX6_meant (s6 : S6) : Option (Int32 × S6) :=
  some ((S6_meant s6), (S6_set_thrown s6 0))
def fX6_done (s6 : S6) : Option (Int32 × S6) :=
  some ((S6_done s6), (S6_set_thrown s6 0))
def fX6_into (s6 : S6) : Option (Int32 × S6) :=
  some ((S6_into s6), (S6_set_thrown s6 0))
def fX6_asked (s6 : S6) : Option (Int32 × S6) :=
  some ((S6_asked s6), (S6_set_thrown s6 0))
def fX6_askedAt (s6 : S6) : Option (Int32 × S6) :=
  some ((S6_askedAt s6), (S6_set_thrown s6 0))
def fX6_questions (s6 : S6) : Option (Int32 × S6) :=
  some ((S6_questions s6), (S6_set_thrown s6 0))
def fX3_add_36 (a1 : Int32) (s3 : S3) : Option (S3) :=
    some s3
def fX3_add (s3 : S3) (a1 : Int32) : Option (S3) :=
  if (S3_count s3) < 0 then
    fX3_add_36 a1 s3
  else
    if 24 ≤ (S3_count s3) then
      fX3_add_36 a1 s3
    else
      ai 24 (S3_count s3) <|
      fX3_add_36 a1 (S3_set_count (S3_set_given s3 (upd (S3_given s3) (S3_count s3).toNatClampNeg a1)) ((S3_count s3) + 1))
def fX3_removeLast_16 (s3 : S3) : Option (Int32 × S3) :=
    some ((-1), s3)
def fX3_removeLast (s3 : S3) : Option (Int32 × S3) :=
  if (S3_count s3) ≤ 0 then
    fX3_removeLast_16 s3
  else
    if (S3_count s3) ≤ 24 then
      ai 24 ((S3_count s3) - 1) <|
      some (((S3_given s3) ((S3_count s3) - 1).toNatClampNeg), (S3_set_count s3 ((S3_count s3) - 1)))
    else
      fX3_removeLast_16 s3
def fX4_add_18 (a1 : Int32) (a2 : Int32) (a3 : Int32) (s4 : S4) : Option (Int32 × S4) :=
    some ((-1), s4)
def fX4_add_62 (a1 : Int32) (a2 : Int32) (a3 : Int32) (s4 : S4) (x4 : Int32) : Option (Int32 × S4) :=
    some (x4, (S4_set_count s4 ((S4_count s4) + 1)))
def fX4_add (s4 : S4) (a1 : Int32) (a2 : Int32) (a3 : Int32) : Option (Int32 × S4) :=
  if (S4_count s4) < 0 then
    fX4_add_18 a1 a2 a3 s4
  else
    if (S4_count s4) < 12 then
      ai 12 (S4_count s4) <|
      ai 12 (S4_count s4) <|
      ai 12 (S4_count s4) <|
      if a3 = 0 then
        fX4_add_62 a1 a2 a3 (S4_set_holders (S4_set_adjectiveSets (S4_set_nouns s4 (upd (S4_nouns s4) (S4_count s4).toNatClampNeg a1)) (upd (S4_adjectiveSets s4) (S4_count s4).toNatClampNeg a2)) (upd (S4_holders s4) (S4_count s4).toNatClampNeg (-2))) (S4_count s4)
      else
        fX4_add_62 a1 a2 a3 (S4_set_boxes (S4_set_holders (S4_set_adjectiveSets (S4_set_nouns s4 (upd (S4_nouns s4) (S4_count s4).toNatClampNeg a1)) (upd (S4_adjectiveSets s4) (S4_count s4).toNatClampNeg a2)) (upd (S4_holders s4) (S4_count s4).toNatClampNeg (-2))) ((S4_boxes s4) ||| ((1 : Int32) <<< ((S4_count s4) &&& 31)))) (S4_count s4)
    else
      fX4_add_18 a1 a2 a3 s4
end
section
abbrev rmX5_contains : Room := { frames := 0, cells := 0, slots := 0, locals := 0 }
set_option maxHeartbeats 100000 in
set_option maxRecDepth 100000 in
theorem ktX5_contains (l : Launch) (dC : Nat → ClassId) (dI : Nat → Nat → Nat) (sz : Nat) (a0 : Int32) (a1 : Int32) (r : Int32) (hf : fX5_contains a0 a1 = some r) : Met l yX5_contains wsX5_contains rmX5_contains (va_Pc [.int a0, .int a1] (pre_w (dC, dI) ([] : va_W) [] sz)) (va_Qi (fun (r' : Int32) (_ : Unit) => r' = r) (post_w (dC, dI) ([] : va_W) [] (va_A ([] : va_W) sz)) (va_A ([] : va_W) sz)) 0 0 (va_A ([] : va_W) sz) := by
  refine gm_z (cc := cX5_contains) (maxL := 2) (by decide) rfl (Nat.le_of_ble_eq_true rfl) ?_
  intro p e s m below meth c A QQ ls hx hb hml hown hts hK hN hA hP hD hS hl hret
  have hown : s.vm.findClass RX5 = some m.cls := hown
  have hl : lv_has ls 2 [(0, .int a0), (1, .int a1)] := hl
  have J23 : ∀ (t0 : Int32) (H : Heap) (locs : List Loc), va_P (dC, dI) vwCl ([] : va_W) H → va_D A ([] : va_W) → va_S A s.heap H locs → ∀ (ls : Array Slot), lv_has ls 2 [] → fX5_contains_23 a0 a1 t0 = some r → W p l e rmX5_contains s m ([.int a0, .int a1] : List Value).toArray below meth c H locs 0 0 QQ (F0 m 23 ls [.int t0]) := by
    intro  t0 H locs hP hD hS ls hl hf
    unfold fX5_contains_23 at hf
    obtain ⟨hz_1, hf⟩ := bo_ok hf
    have hf : (some t0 : Option (Int32)) = some r := hf
    have he := Option.some.inj hf
    have he0 : t0 = r := he
    exact hret _ _ _ _ _ _ hz_1 he0 rfl dX5_contains_23 hP hD hS
  have J22 : ∀ (H : Heap) (locs : List Loc), va_P (dC, dI) vwCl ([] : va_W) H → va_D A ([] : va_W) → va_S A s.heap H locs → ∀ (ls : Array Slot), lv_has ls 2 [] → fX5_contains_22 a0 a1 = some r → W p l e rmX5_contains s m ([.int a0, .int a1] : List Value).toArray below meth c H locs 0 0 QQ (F0 m 22 ls []) := by
    intro   H locs hP hD hS ls hl hf
    unfold fX5_contains_22 at hf
    refine lv_iconst (v := 0) hx hb dX5_contains_22 (by decide) ?_
    exact J23 0 _ _ hP hD hS _ (lv_sub hl [] rfl) hf
  unfold fX5_contains at hf
  refine lv_iload_n hx hb dX5_contains_0 rfl (lv_at hl 1 rfl) ?_
  refine lv_if_lt (tgt := 22) hx hb dX5_contains_1 (by decide) (fun c_1 => ?_) (fun c_1 => ?_)
  · have hf := it_t c_1 hf
    exact J22 _ _ hP hD hS _ (lv_sub hl [] rfl) hf
  · have hf := it_f c_1 hf
    refine lv_iload_n hx hb dX5_contains_4 rfl (lv_at hl 1 rfl) ?_
    refine lv_bipush (v := 12) hx hb dX5_contains_5 (by decide) ?_
    refine lv_icmp_ge (tgt := 22) hx hb dX5_contains_7 (by decide) (fun c_2 => ?_) (fun c_2 => ?_)
    · have hf := it_t c_2 hf
      exact J22 _ _ hP hD hS _ (lv_sub hl [] rfl) hf
    · have hf := it_f c_2 hf
      refine lv_iload_n hx hb dX5_contains_10 rfl (lv_at hl 0 rfl) ?_
      refine lv_iload_n hx hb dX5_contains_11 rfl (lv_at hl 1 rfl) ?_
      refine lv_ishr hx hb dX5_contains_12 ?_
      refine lv_iconst (v := 1) hx hb dX5_contains_13 (by decide) ?_
      refine lv_iand hx hb dX5_contains_14 ?_
      refine lv_if_eq (tgt := 22) hx hb dX5_contains_15 (by decide) (fun c_3 => ?_) (fun c_3 => ?_)
      · have hf := it_t c_3 hf
        exact J22 _ _ hP hD hS _ (lv_sub hl [] rfl) hf
      · have hf := it_f c_3 hf
        refine lv_iconst (v := 1) hx hb dX5_contains_18 (by decide) ?_
        refine lv_goto (tgt := 23) hx hb dX5_contains_19 (by decide) ?_
        exact J23 1 _ _ hP hD hS _ (lv_sub hl [] rfl) hf
end
section
theorem zz_last : True := trivial
end
