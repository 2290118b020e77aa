-- ===== PART A: goes FIRST, ahead of the names: the tables' words, and 'selects' of the private methods out of them =====
/-- a private method of a class that the tables say can be made, by its rows of tables_1 -/
def lw_okq (q : MethodName × Nat) : Prop := (q.1.cls ≠ "java/lang/invoke/MethodHandle" ∧ q.1.cls ≠ "java/lang/invoke/VarHandle") ∧ Cond.instantiable q.1.cls q.2 ∈ tables_1 ∧ Cond.privateMethod q.1 ∈ tables_1 ∧ Cond.instanceMethod q.1 ∈ tables_1
theorem lw_p0 : lw_okq (⟨"QuestionsInAnInn$Tape", "next", "()V"⟩, 7) := ⟨⟨by decide +kernel, by decide +kernel⟩, List.mem_of_getElem? (i := 30) (by decide +kernel), List.mem_of_getElem? (i := 195) (by decide +kernel), List.mem_of_getElem? (i := 196) (by decide +kernel)⟩
theorem lw_p1 : lw_okq (⟨"QuestionsInAnInn$Tape", "byteAt", "(I)I"⟩, 7) := ⟨⟨by decide +kernel, by decide +kernel⟩, List.mem_of_getElem? (i := 30) (by decide +kernel), List.mem_of_getElem? (i := 199) (by decide +kernel), List.mem_of_getElem? (i := 200) (by decide +kernel)⟩
theorem lw_p2 : lw_okq (⟨"QuestionsInAnInn$Tape", "word", "()I"⟩, 7) := ⟨⟨by decide +kernel, by decide +kernel⟩, List.mem_of_getElem? (i := 30) (by decide +kernel), List.mem_of_getElem? (i := 209) (by decide +kernel), List.mem_of_getElem? (i := 210) (by decide +kernel)⟩
theorem lw_p3 : lw_okq (⟨"QuestionsInAnInn$Tape", "isWord", "(Ljava/lang/String;)Z"⟩, 7) := ⟨⟨by decide +kernel, by decide +kernel⟩, List.mem_of_getElem? (i := 30) (by decide +kernel), List.mem_of_getElem? (i := 214) (by decide +kernel), List.mem_of_getElem? (i := 215) (by decide +kernel)⟩
theorem lw_p4 : lw_okq (⟨"QuestionsInAnInn$Tape", "number", "()I"⟩, 7) := ⟨⟨by decide +kernel, by decide +kernel⟩, List.mem_of_getElem? (i := 30) (by decide +kernel), List.mem_of_getElem? (i := 232) (by decide +kernel), List.mem_of_getElem? (i := 233) (by decide +kernel)⟩
theorem lw_p5 : lw_okq (⟨"QuestionsInAnInn$Tape", "readPart", "(I)Z"⟩, 7) := ⟨⟨by decide +kernel, by decide +kernel⟩, List.mem_of_getElem? (i := 30) (by decide +kernel), List.mem_of_getElem? (i := 239) (by decide +kernel), List.mem_of_getElem? (i := 240) (by decide +kernel)⟩
theorem lw_p6 : lw_okq (⟨"QuestionsInAnInn$Tape", "took", "(I)Z"⟩, 7) := ⟨⟨by decide +kernel, by decide +kernel⟩, List.mem_of_getElem? (i := 30) (by decide +kernel), List.mem_of_getElem? (i := 243) (by decide +kernel), List.mem_of_getElem? (i := 244) (by decide +kernel)⟩
theorem lw_p7 : lw_okq (⟨"QuestionsInAnInn$Tape", "readE", "(I)Z"⟩, 7) := ⟨⟨by decide +kernel, by decide +kernel⟩, List.mem_of_getElem? (i := 30) (by decide +kernel), List.mem_of_getElem? (i := 247) (by decide +kernel), List.mem_of_getElem? (i := 248) (by decide +kernel)⟩
theorem lw_p8 : lw_okq (⟨"QuestionsInAnInn$Tape", "readAnd", "(I)Z"⟩, 7) := ⟨⟨by decide +kernel, by decide +kernel⟩, List.mem_of_getElem? (i := 30) (by decide +kernel), List.mem_of_getElem? (i := 251) (by decide +kernel), List.mem_of_getElem? (i := 252) (by decide +kernel)⟩
theorem lw_p9 : lw_okq (⟨"QuestionsInAnInn$Tape", "readNot", "(I)Z"⟩, 7) := ⟨⟨by decide +kernel, by decide +kernel⟩, List.mem_of_getElem? (i := 30) (by decide +kernel), List.mem_of_getElem? (i := 255) (by decide +kernel), List.mem_of_getElem? (i := 256) (by decide +kernel)⟩
theorem lw_p10 : lw_okq (⟨"QuestionsInAnInn$Tape", "step", "(I)V"⟩, 7) := ⟨⟨by decide +kernel, by decide +kernel⟩, List.mem_of_getElem? (i := 30) (by decide +kernel), List.mem_of_getElem? (i := 259) (by decide +kernel), List.mem_of_getElem? (i := 260) (by decide +kernel)⟩
theorem lw_p11 : lw_okq (⟨"QuestionsInAnInn$Tape", "readSum", "(I)Z"⟩, 7) := ⟨⟨by decide +kernel, by decide +kernel⟩, List.mem_of_getElem? (i := 30) (by decide +kernel), List.mem_of_getElem? (i := 263) (by decide +kernel), List.mem_of_getElem? (i := 264) (by decide +kernel)⟩
theorem lw_p12 : lw_okq (⟨"QuestionsInAnInn$Tape", "readTerm", "(I)Z"⟩, 7) := ⟨⟨by decide +kernel, by decide +kernel⟩, List.mem_of_getElem? (i := 30) (by decide +kernel), List.mem_of_getElem? (i := 267) (by decide +kernel), List.mem_of_getElem? (i := 268) (by decide +kernel)⟩
theorem lw_p13 : lw_okq (⟨"QuestionsInAnInn$Tape", "readOne", "(I)Z"⟩, 7) := ⟨⟨by decide +kernel, by decide +kernel⟩, List.mem_of_getElem? (i := 30) (by decide +kernel), List.mem_of_getElem? (i := 271) (by decide +kernel), List.mem_of_getElem? (i := 272) (by decide +kernel)⟩
theorem lw_p14 : lw_okq (⟨"QuestionsInAnInn", "lawText", "()LQuestionsInAnInn$Text;"⟩, 16) := ⟨⟨by decide +kernel, by decide +kernel⟩, List.mem_of_getElem? (i := 18) (by decide +kernel), List.mem_of_getElem? (i := 388) (by decide +kernel), List.mem_of_getElem? (i := 389) (by decide +kernel)⟩
theorem lw_p15 : lw_okq (⟨"QuestionsInAnInn$Text", "valueOf", "(II[I)I"⟩, 4) := ⟨⟨by decide +kernel, by decide +kernel⟩, List.mem_of_getElem? (i := 275) (by decide +kernel), List.mem_of_getElem? (i := 402) (by decide +kernel), List.mem_of_getElem? (i := 403) (by decide +kernel)⟩
def lw_privs_1 : List (MethodName × Nat) := [(⟨"QuestionsInAnInn$Tape", "next", "()V"⟩, 7), (⟨"QuestionsInAnInn$Tape", "byteAt", "(I)I"⟩, 7), (⟨"QuestionsInAnInn$Tape", "word", "()I"⟩, 7), (⟨"QuestionsInAnInn$Tape", "isWord", "(Ljava/lang/String;)Z"⟩, 7), (⟨"QuestionsInAnInn$Tape", "number", "()I"⟩, 7), (⟨"QuestionsInAnInn$Tape", "readPart", "(I)Z"⟩, 7), (⟨"QuestionsInAnInn$Tape", "took", "(I)Z"⟩, 7), (⟨"QuestionsInAnInn$Tape", "readE", "(I)Z"⟩, 7), (⟨"QuestionsInAnInn$Tape", "readAnd", "(I)Z"⟩, 7), (⟨"QuestionsInAnInn$Tape", "readNot", "(I)Z"⟩, 7), (⟨"QuestionsInAnInn$Tape", "step", "(I)V"⟩, 7), (⟨"QuestionsInAnInn$Tape", "readSum", "(I)Z"⟩, 7), (⟨"QuestionsInAnInn$Tape", "readTerm", "(I)Z"⟩, 7), (⟨"QuestionsInAnInn$Tape", "readOne", "(I)Z"⟩, 7), (⟨"QuestionsInAnInn", "lawText", "()LQuestionsInAnInn$Text;"⟩, 16), (⟨"QuestionsInAnInn$Text", "valueOf", "(II[I)I"⟩, 4)]
theorem lw_r1 : ∀ q ∈ lw_privs_1, lw_okq q := List.forall_mem_cons.mpr ⟨lw_p0, List.forall_mem_cons.mpr ⟨lw_p1, List.forall_mem_cons.mpr ⟨lw_p2, List.forall_mem_cons.mpr ⟨lw_p3, List.forall_mem_cons.mpr ⟨lw_p4, List.forall_mem_cons.mpr ⟨lw_p5, List.forall_mem_cons.mpr ⟨lw_p6, List.forall_mem_cons.mpr ⟨lw_p7, List.forall_mem_cons.mpr ⟨lw_p8, List.forall_mem_cons.mpr ⟨lw_p9, List.forall_mem_cons.mpr ⟨lw_p10, List.forall_mem_cons.mpr ⟨lw_p11, List.forall_mem_cons.mpr ⟨lw_p12, List.forall_mem_cons.mpr ⟨lw_p13, List.forall_mem_cons.mpr ⟨lw_p14, List.forall_mem_cons.mpr ⟨lw_p15, fun _ h => absurd h List.not_mem_nil⟩⟩⟩⟩⟩⟩⟩⟩⟩⟩⟩⟩⟩⟩⟩⟩
theorem lw_p16 : lw_okq (⟨"QuestionsInAnInn", "personAt", "(I)LQuestionsInAnInn$Guest;"⟩, 16) := ⟨⟨by decide +kernel, by decide +kernel⟩, List.mem_of_getElem? (i := 18) (by decide +kernel), List.mem_of_getElem? (i := 455) (by decide +kernel), List.mem_of_getElem? (i := 456) (by decide +kernel)⟩
theorem lw_p17 : lw_okq (⟨"QuestionsInAnInn", "isQuestion", "(I)Z"⟩, 16) := ⟨⟨by decide +kernel, by decide +kernel⟩, List.mem_of_getElem? (i := 18) (by decide +kernel), List.mem_of_getElem? (i := 488) (by decide +kernel), List.mem_of_getElem? (i := 489) (by decide +kernel)⟩
theorem lw_p18 : lw_okq (⟨"QuestionsInAnInn", "reckon", "()V"⟩, 16) := ⟨⟨by decide +kernel, by decide +kernel⟩, List.mem_of_getElem? (i := 18) (by decide +kernel), List.mem_of_getElem? (i := 507) (by decide +kernel), List.mem_of_getElem? (i := 508) (by decide +kernel)⟩
theorem lw_p19 : lw_okq (⟨"QuestionsInAnInn$Guest", "isOwn", "(I)Z"⟩, 5) := ⟨⟨by decide +kernel, by decide +kernel⟩, List.mem_of_getElem? (i := 425) (by decide +kernel), List.mem_of_getElem? (i := 535) (by decide +kernel), List.mem_of_getElem? (i := 536) (by decide +kernel)⟩
theorem lw_p20 : lw_okq (⟨"QuestionsInAnInn", "findRights", "()V"⟩, 16) := ⟨⟨by decide +kernel, by decide +kernel⟩, List.mem_of_getElem? (i := 18) (by decide +kernel), List.mem_of_getElem? (i := 543) (by decide +kernel), List.mem_of_getElem? (i := 544) (by decide +kernel)⟩
theorem lw_p21 : lw_okq (⟨"QuestionsInAnInn", "seatedAt", "(I)I"⟩, 16) := ⟨⟨by decide +kernel, by decide +kernel⟩, List.mem_of_getElem? (i := 18) (by decide +kernel), List.mem_of_getElem? (i := 547) (by decide +kernel), List.mem_of_getElem? (i := 548) (by decide +kernel)⟩
theorem lw_p22 : lw_okq (⟨"QuestionsInAnInn", "scoreNow", "(I)I"⟩, 16) := ⟨⟨by decide +kernel, by decide +kernel⟩, List.mem_of_getElem? (i := 18) (by decide +kernel), List.mem_of_getElem? (i := 568) (by decide +kernel), List.mem_of_getElem? (i := 569) (by decide +kernel)⟩
theorem lw_p23 : lw_okq (⟨"QuestionsInAnInn", "winner", "()I"⟩, 16) := ⟨⟨by decide +kernel, by decide +kernel⟩, List.mem_of_getElem? (i := 18) (by decide +kernel), List.mem_of_getElem? (i := 585) (by decide +kernel), List.mem_of_getElem? (i := 586) (by decide +kernel)⟩
theorem lw_p24 : lw_okq (⟨"QuestionsInAnInn", "apartBy", "(I)I"⟩, 16) := ⟨⟨by decide +kernel, by decide +kernel⟩, List.mem_of_getElem? (i := 18) (by decide +kernel), List.mem_of_getElem? (i := 589) (by decide +kernel), List.mem_of_getElem? (i := 590) (by decide +kernel)⟩
theorem lw_p25 : lw_okq (⟨"QuestionsInAnInn", "scoreIf", "(II)I"⟩, 16) := ⟨⟨by decide +kernel, by decide +kernel⟩, List.mem_of_getElem? (i := 18) (by decide +kernel), List.mem_of_getElem? (i := 601) (by decide +kernel), List.mem_of_getElem? (i := 602) (by decide +kernel)⟩
theorem lw_p26 : lw_okq (⟨"QuestionsInAnInn", "costOf", "(ILQuestionsInAnInn$Guest;)I"⟩, 16) := ⟨⟨by decide +kernel, by decide +kernel⟩, List.mem_of_getElem? (i := 18) (by decide +kernel), List.mem_of_getElem? (i := 623) (by decide +kernel), List.mem_of_getElem? (i := 624) (by decide +kernel)⟩
theorem lw_p27 : lw_okq (⟨"QuestionsInAnInn", "apartIfChanged", "(LQuestionsInAnInn$Guest;LQuestionsInAnInn$Guest;)I"⟩, 16) := ⟨⟨by decide +kernel, by decide +kernel⟩, List.mem_of_getElem? (i := 18) (by decide +kernel), List.mem_of_getElem? (i := 659) (by decide +kernel), List.mem_of_getElem? (i := 660) (by decide +kernel)⟩
theorem lw_p28 : lw_okq (⟨"QuestionsInAnInn", "refusalOfTold", "(I)I"⟩, 16) := ⟨⟨by decide +kernel, by decide +kernel⟩, List.mem_of_getElem? (i := 18) (by decide +kernel), List.mem_of_getElem? (i := 670) (by decide +kernel), List.mem_of_getElem? (i := 671) (by decide +kernel)⟩
theorem lw_p29 : lw_okq (⟨"QuestionsInAnInn", "sheetAt", "(I)LQuestionsInAnInn$Sheet;"⟩, 16) := ⟨⟨by decide +kernel, by decide +kernel⟩, List.mem_of_getElem? (i := 18) (by decide +kernel), List.mem_of_getElem? (i := 674) (by decide +kernel), List.mem_of_getElem? (i := 675) (by decide +kernel)⟩
theorem lw_p30 : lw_okq (⟨"QuestionsInAnInn", "firstOtherwise", "(II)I"⟩, 16) := ⟨⟨by decide +kernel, by decide +kernel⟩, List.mem_of_getElem? (i := 18) (by decide +kernel), List.mem_of_getElem? (i := 682) (by decide +kernel), List.mem_of_getElem? (i := 683) (by decide +kernel)⟩
theorem lw_p31 : lw_okq (⟨"QuestionsInAnInn", "winnerBy", "(I)I"⟩, 16) := ⟨⟨by decide +kernel, by decide +kernel⟩, List.mem_of_getElem? (i := 18) (by decide +kernel), List.mem_of_getElem? (i := 727) (by decide +kernel), List.mem_of_getElem? (i := 728) (by decide +kernel)⟩
def lw_privs_2 : List (MethodName × Nat) := [(⟨"QuestionsInAnInn", "personAt", "(I)LQuestionsInAnInn$Guest;"⟩, 16), (⟨"QuestionsInAnInn", "isQuestion", "(I)Z"⟩, 16), (⟨"QuestionsInAnInn", "reckon", "()V"⟩, 16), (⟨"QuestionsInAnInn$Guest", "isOwn", "(I)Z"⟩, 5), (⟨"QuestionsInAnInn", "findRights", "()V"⟩, 16), (⟨"QuestionsInAnInn", "seatedAt", "(I)I"⟩, 16), (⟨"QuestionsInAnInn", "scoreNow", "(I)I"⟩, 16), (⟨"QuestionsInAnInn", "winner", "()I"⟩, 16), (⟨"QuestionsInAnInn", "apartBy", "(I)I"⟩, 16), (⟨"QuestionsInAnInn", "scoreIf", "(II)I"⟩, 16), (⟨"QuestionsInAnInn", "costOf", "(ILQuestionsInAnInn$Guest;)I"⟩, 16), (⟨"QuestionsInAnInn", "apartIfChanged", "(LQuestionsInAnInn$Guest;LQuestionsInAnInn$Guest;)I"⟩, 16), (⟨"QuestionsInAnInn", "refusalOfTold", "(I)I"⟩, 16), (⟨"QuestionsInAnInn", "sheetAt", "(I)LQuestionsInAnInn$Sheet;"⟩, 16), (⟨"QuestionsInAnInn", "firstOtherwise", "(II)I"⟩, 16), (⟨"QuestionsInAnInn", "winnerBy", "(I)I"⟩, 16)]
theorem lw_r2 : ∀ q ∈ lw_privs_2, lw_okq q := List.forall_mem_cons.mpr ⟨lw_p16, List.forall_mem_cons.mpr ⟨lw_p17, List.forall_mem_cons.mpr ⟨lw_p18, List.forall_mem_cons.mpr ⟨lw_p19, List.forall_mem_cons.mpr ⟨lw_p20, List.forall_mem_cons.mpr ⟨lw_p21, List.forall_mem_cons.mpr ⟨lw_p22, List.forall_mem_cons.mpr ⟨lw_p23, List.forall_mem_cons.mpr ⟨lw_p24, List.forall_mem_cons.mpr ⟨lw_p25, List.forall_mem_cons.mpr ⟨lw_p26, List.forall_mem_cons.mpr ⟨lw_p27, List.forall_mem_cons.mpr ⟨lw_p28, List.forall_mem_cons.mpr ⟨lw_p29, List.forall_mem_cons.mpr ⟨lw_p30, List.forall_mem_cons.mpr ⟨lw_p31, fun _ h => absurd h List.not_mem_nil⟩⟩⟩⟩⟩⟩⟩⟩⟩⟩⟩⟩⟩⟩⟩⟩
theorem lw_p32 : lw_okq (⟨"QuestionsInAnInn", "keepDepths", "([I)V"⟩, 16) := ⟨⟨by decide +kernel, by decide +kernel⟩, List.mem_of_getElem? (i := 18) (by decide +kernel), List.mem_of_getElem? (i := 731) (by decide +kernel), List.mem_of_getElem? (i := 732) (by decide +kernel)⟩
theorem lw_p33 : lw_okq (⟨"QuestionsInAnInn", "giveDepths", "([I)V"⟩, 16) := ⟨⟨by decide +kernel, by decide +kernel⟩, List.mem_of_getElem? (i := 18) (by decide +kernel), List.mem_of_getElem? (i := 738) (by decide +kernel), List.mem_of_getElem? (i := 739) (by decide +kernel)⟩
theorem lw_p34 : lw_okq (⟨"QuestionsInAnInnModel", "next", "()V"⟩, 39) := ⟨⟨by decide +kernel, by decide +kernel⟩, List.mem_of_getElem? (i := 782) (by decide +kernel), List.mem_of_getElem? (i := 792) (by decide +kernel), List.mem_of_getElem? (i := 793) (by decide +kernel)⟩
theorem lw_p35 : lw_okq (⟨"QuestionsInAnInnModel", "wordFrom", "(II)I"⟩, 39) := ⟨⟨by decide +kernel, by decide +kernel⟩, List.mem_of_getElem? (i := 782) (by decide +kernel), List.mem_of_getElem? (i := 799) (by decide +kernel), List.mem_of_getElem? (i := 800) (by decide +kernel)⟩
theorem lw_p36 : lw_okq (⟨"QuestionsInAnInnModel", "eRead", "()Z"⟩, 39) := ⟨⟨by decide +kernel, by decide +kernel⟩, List.mem_of_getElem? (i := 782) (by decide +kernel), List.mem_of_getElem? (i := 803) (by decide +kernel), List.mem_of_getElem? (i := 804) (by decide +kernel)⟩
theorem lw_p37 : lw_okq (⟨"QuestionsInAnInnModel", "puts", "(I)V"⟩, 39) := ⟨⟨by decide +kernel, by decide +kernel⟩, List.mem_of_getElem? (i := 782) (by decide +kernel), List.mem_of_getElem? (i := 808) (by decide +kernel), List.mem_of_getElem? (i := 809) (by decide +kernel)⟩
theorem lw_p38 : lw_okq (⟨"QuestionsInAnInnModel", "unwinds", "(I)V"⟩, 39) := ⟨⟨by decide +kernel, by decide +kernel⟩, List.mem_of_getElem? (i := 782) (by decide +kernel), List.mem_of_getElem? (i := 812) (by decide +kernel), List.mem_of_getElem? (i := 813) (by decide +kernel)⟩
theorem lw_p39 : lw_okq (⟨"QuestionsInAnInnModel", "opensOne", "(I)Z"⟩, 39) := ⟨⟨by decide +kernel, by decide +kernel⟩, List.mem_of_getElem? (i := 782) (by decide +kernel), List.mem_of_getElem? (i := 819) (by decide +kernel), List.mem_of_getElem? (i := 820) (by decide +kernel)⟩
theorem lw_p40 : lw_okq (⟨"QuestionsInAnInnModel", "holds", "(I)V"⟩, 39) := ⟨⟨by decide +kernel, by decide +kernel⟩, List.mem_of_getElem? (i := 782) (by decide +kernel), List.mem_of_getElem? (i := 823) (by decide +kernel), List.mem_of_getElem? (i := 824) (by decide +kernel)⟩
theorem lw_p41 : lw_okq (⟨"QuestionsInAnInnModel", "signOf", "()I"⟩, 39) := ⟨⟨by decide +kernel, by decide +kernel⟩, List.mem_of_getElem? (i := 782) (by decide +kernel), List.mem_of_getElem? (i := 827) (by decide +kernel), List.mem_of_getElem? (i := 828) (by decide +kernel)⟩
theorem lw_p42 : lw_okq (⟨"QuestionsInAnInnModel", "between", "(I)Z"⟩, 39) := ⟨⟨by decide +kernel, by decide +kernel⟩, List.mem_of_getElem? (i := 782) (by decide +kernel), List.mem_of_getElem? (i := 831) (by decide +kernel), List.mem_of_getElem? (i := 832) (by decide +kernel)⟩
theorem lw_p43 : lw_okq (⟨"QuestionsInAnInnModel", "asksOf", "(IIIIIII)I"⟩, 39) := ⟨⟨by decide +kernel, by decide +kernel⟩, List.mem_of_getElem? (i := 782) (by decide +kernel), List.mem_of_getElem? (i := 973) (by decide +kernel), List.mem_of_getElem? (i := 974) (by decide +kernel)⟩
theorem lw_p44 : lw_okq (⟨"QuestionsInAnInnModel", "says", "(I)I"⟩, 39) := ⟨⟨by decide +kernel, by decide +kernel⟩, List.mem_of_getElem? (i := 782) (by decide +kernel), List.mem_of_getElem? (i := 977) (by decide +kernel), List.mem_of_getElem? (i := 978) (by decide +kernel)⟩
theorem lw_p45 : lw_okq (⟨"QuestionsInAnInnModel", "isOne", "(I)Z"⟩, 39) := ⟨⟨by decide +kernel, by decide +kernel⟩, List.mem_of_getElem? (i := 782) (by decide +kernel), List.mem_of_getElem? (i := 995) (by decide +kernel), List.mem_of_getElem? (i := 996) (by decide +kernel)⟩
theorem lw_p46 : lw_okq (⟨"QuestionsInAnInnModel", "isQuestion", "(I)Z"⟩, 39) := ⟨⟨by decide +kernel, by decide +kernel⟩, List.mem_of_getElem? (i := 782) (by decide +kernel), List.mem_of_getElem? (i := 1015) (by decide +kernel), List.mem_of_getElem? (i := 1016) (by decide +kernel)⟩
theorem lw_p47 : lw_okq (⟨"QuestionsInAnInnModel", "believed", "(II)I"⟩, 39) := ⟨⟨by decide +kernel, by decide +kernel⟩, List.mem_of_getElem? (i := 782) (by decide +kernel), List.mem_of_getElem? (i := 1034) (by decide +kernel), List.mem_of_getElem? (i := 1035) (by decide +kernel)⟩
def lw_privs_3 : List (MethodName × Nat) := [(⟨"QuestionsInAnInn", "keepDepths", "([I)V"⟩, 16), (⟨"QuestionsInAnInn", "giveDepths", "([I)V"⟩, 16), (⟨"QuestionsInAnInnModel", "next", "()V"⟩, 39), (⟨"QuestionsInAnInnModel", "wordFrom", "(II)I"⟩, 39), (⟨"QuestionsInAnInnModel", "eRead", "()Z"⟩, 39), (⟨"QuestionsInAnInnModel", "puts", "(I)V"⟩, 39), (⟨"QuestionsInAnInnModel", "unwinds", "(I)V"⟩, 39), (⟨"QuestionsInAnInnModel", "opensOne", "(I)Z"⟩, 39), (⟨"QuestionsInAnInnModel", "holds", "(I)V"⟩, 39), (⟨"QuestionsInAnInnModel", "signOf", "()I"⟩, 39), (⟨"QuestionsInAnInnModel", "between", "(I)Z"⟩, 39), (⟨"QuestionsInAnInnModel", "asksOf", "(IIIIIII)I"⟩, 39), (⟨"QuestionsInAnInnModel", "says", "(I)I"⟩, 39), (⟨"QuestionsInAnInnModel", "isOne", "(I)Z"⟩, 39), (⟨"QuestionsInAnInnModel", "isQuestion", "(I)Z"⟩, 39), (⟨"QuestionsInAnInnModel", "believed", "(II)I"⟩, 39)]
theorem lw_r3 : ∀ q ∈ lw_privs_3, lw_okq q := List.forall_mem_cons.mpr ⟨lw_p32, List.forall_mem_cons.mpr ⟨lw_p33, List.forall_mem_cons.mpr ⟨lw_p34, List.forall_mem_cons.mpr ⟨lw_p35, List.forall_mem_cons.mpr ⟨lw_p36, List.forall_mem_cons.mpr ⟨lw_p37, List.forall_mem_cons.mpr ⟨lw_p38, List.forall_mem_cons.mpr ⟨lw_p39, List.forall_mem_cons.mpr ⟨lw_p40, List.forall_mem_cons.mpr ⟨lw_p41, List.forall_mem_cons.mpr ⟨lw_p42, List.forall_mem_cons.mpr ⟨lw_p43, List.forall_mem_cons.mpr ⟨lw_p44, List.forall_mem_cons.mpr ⟨lw_p45, List.forall_mem_cons.mpr ⟨lw_p46, List.forall_mem_cons.mpr ⟨lw_p47, fun _ h => absurd h List.not_mem_nil⟩⟩⟩⟩⟩⟩⟩⟩⟩⟩⟩⟩⟩⟩⟩⟩
theorem lw_p48 : lw_okq (⟨"QuestionsInAnInnModel", "weight", "(II)I"⟩, 39) := ⟨⟨by decide +kernel, by decide +kernel⟩, List.mem_of_getElem? (i := 782) (by decide +kernel), List.mem_of_getElem? (i := 1038) (by decide +kernel), List.mem_of_getElem? (i := 1039) (by decide +kernel)⟩
theorem lw_p49 : lw_okq (⟨"QuestionsInAnInnModel", "knows", "(II)I"⟩, 39) := ⟨⟨by decide +kernel, by decide +kernel⟩, List.mem_of_getElem? (i := 782) (by decide +kernel), List.mem_of_getElem? (i := 1042) (by decide +kernel), List.mem_of_getElem? (i := 1043) (by decide +kernel)⟩
theorem lw_p50 : lw_okq (⟨"QuestionsInAnInnModel", "loudOf", "(II)I"⟩, 39) := ⟨⟨by decide +kernel, by decide +kernel⟩, List.mem_of_getElem? (i := 782) (by decide +kernel), List.mem_of_getElem? (i := 1046) (by decide +kernel), List.mem_of_getElem? (i := 1047) (by decide +kernel)⟩
theorem lw_p51 : lw_okq (⟨"QuestionsInAnInnModel", "isRight", "(II)Z"⟩, 39) := ⟨⟨by decide +kernel, by decide +kernel⟩, List.mem_of_getElem? (i := 782) (by decide +kernel), List.mem_of_getElem? (i := 1050) (by decide +kernel), List.mem_of_getElem? (i := 1051) (by decide +kernel)⟩
theorem lw_p52 : lw_okq (⟨"QuestionsInAnInnModel", "canAnswer", "(II)Z"⟩, 39) := ⟨⟨by decide +kernel, by decide +kernel⟩, List.mem_of_getElem? (i := 782) (by decide +kernel), List.mem_of_getElem? (i := 1054) (by decide +kernel), List.mem_of_getElem? (i := 1055) (by decide +kernel)⟩
theorem lw_p53 : lw_okq (⟨"QuestionsInAnInnModel", "knowing", "(II)I"⟩, 39) := ⟨⟨by decide +kernel, by decide +kernel⟩, List.mem_of_getElem? (i := 782) (by decide +kernel), List.mem_of_getElem? (i := 1058) (by decide +kernel), List.mem_of_getElem? (i := 1059) (by decide +kernel)⟩
theorem lw_p54 : lw_okq (⟨"QuestionsInAnInnModel", "scoreNow", "(I)I"⟩, 39) := ⟨⟨by decide +kernel, by decide +kernel⟩, List.mem_of_getElem? (i := 782) (by decide +kernel), List.mem_of_getElem? (i := 1066) (by decide +kernel), List.mem_of_getElem? (i := 1067) (by decide +kernel)⟩
theorem lw_p55 : lw_okq (⟨"QuestionsInAnInnModel", "all", "()I"⟩, 39) := ⟨⟨by decide +kernel, by decide +kernel⟩, List.mem_of_getElem? (i := 782) (by decide +kernel), List.mem_of_getElem? (i := 1070) (by decide +kernel), List.mem_of_getElem? (i := 1071) (by decide +kernel)⟩
theorem lw_p56 : lw_okq (⟨"QuestionsInAnInnModel", "scoreOf", "(II)I"⟩, 39) := ⟨⟨by decide +kernel, by decide +kernel⟩, List.mem_of_getElem? (i := 782) (by decide +kernel), List.mem_of_getElem? (i := 1074) (by decide +kernel), List.mem_of_getElem? (i := 1075) (by decide +kernel)⟩
theorem lw_p57 : lw_okq (⟨"QuestionsInAnInnModel", "pointsOf", "(II)I"⟩, 39) := ⟨⟨by decide +kernel, by decide +kernel⟩, List.mem_of_getElem? (i := 782) (by decide +kernel), List.mem_of_getElem? (i := 1078) (by decide +kernel), List.mem_of_getElem? (i := 1079) (by decide +kernel)⟩
theorem lw_p58 : lw_okq (⟨"QuestionsInAnInnModel", "rightOf", "(I)I"⟩, 39) := ⟨⟨by decide +kernel, by decide +kernel⟩, List.mem_of_getElem? (i := 782) (by decide +kernel), List.mem_of_getElem? (i := 1082) (by decide +kernel), List.mem_of_getElem? (i := 1083) (by decide +kernel)⟩
theorem lw_p59 : lw_okq (⟨"QuestionsInAnInnModel", "missed", "(I)I"⟩, 39) := ⟨⟨by decide +kernel, by decide +kernel⟩, List.mem_of_getElem? (i := 782) (by decide +kernel), List.mem_of_getElem? (i := 1086) (by decide +kernel), List.mem_of_getElem? (i := 1087) (by decide +kernel)⟩
theorem lw_p60 : lw_okq (⟨"QuestionsInAnInnModel", "winner", "()I"⟩, 39) := ⟨⟨by decide +kernel, by decide +kernel⟩, List.mem_of_getElem? (i := 782) (by decide +kernel), List.mem_of_getElem? (i := 1094) (by decide +kernel), List.mem_of_getElem? (i := 1095) (by decide +kernel)⟩
theorem lw_p61 : lw_okq (⟨"QuestionsInAnInnModel", "apart", "(I)I"⟩, 39) := ⟨⟨by decide +kernel, by decide +kernel⟩, List.mem_of_getElem? (i := 782) (by decide +kernel), List.mem_of_getElem? (i := 1098) (by decide +kernel), List.mem_of_getElem? (i := 1099) (by decide +kernel)⟩
theorem lw_p62 : lw_okq (⟨"QuestionsInAnInnModel", "scoreWith", "(III)I"⟩, 39) := ⟨⟨by decide +kernel, by decide +kernel⟩, List.mem_of_getElem? (i := 782) (by decide +kernel), List.mem_of_getElem? (i := 1110) (by decide +kernel), List.mem_of_getElem? (i := 1111) (by decide +kernel)⟩
theorem lw_p63 : lw_okq (⟨"QuestionsInAnInnModel", "coveredBy", "(I)I"⟩, 39) := ⟨⟨by decide +kernel, by decide +kernel⟩, List.mem_of_getElem? (i := 782) (by decide +kernel), List.mem_of_getElem? (i := 1122) (by decide +kernel), List.mem_of_getElem? (i := 1123) (by decide +kernel)⟩
def lw_privs_4 : List (MethodName × Nat) := [(⟨"QuestionsInAnInnModel", "weight", "(II)I"⟩, 39), (⟨"QuestionsInAnInnModel", "knows", "(II)I"⟩, 39), (⟨"QuestionsInAnInnModel", "loudOf", "(II)I"⟩, 39), (⟨"QuestionsInAnInnModel", "isRight", "(II)Z"⟩, 39), (⟨"QuestionsInAnInnModel", "canAnswer", "(II)Z"⟩, 39), (⟨"QuestionsInAnInnModel", "knowing", "(II)I"⟩, 39), (⟨"QuestionsInAnInnModel", "scoreNow", "(I)I"⟩, 39), (⟨"QuestionsInAnInnModel", "all", "()I"⟩, 39), (⟨"QuestionsInAnInnModel", "scoreOf", "(II)I"⟩, 39), (⟨"QuestionsInAnInnModel", "pointsOf", "(II)I"⟩, 39), (⟨"QuestionsInAnInnModel", "rightOf", "(I)I"⟩, 39), (⟨"QuestionsInAnInnModel", "missed", "(I)I"⟩, 39), (⟨"QuestionsInAnInnModel", "winner", "()I"⟩, 39), (⟨"QuestionsInAnInnModel", "apart", "(I)I"⟩, 39), (⟨"QuestionsInAnInnModel", "scoreWith", "(III)I"⟩, 39), (⟨"QuestionsInAnInnModel", "coveredBy", "(I)I"⟩, 39)]
theorem lw_r4 : ∀ q ∈ lw_privs_4, lw_okq q := List.forall_mem_cons.mpr ⟨lw_p48, List.forall_mem_cons.mpr ⟨lw_p49, List.forall_mem_cons.mpr ⟨lw_p50, List.forall_mem_cons.mpr ⟨lw_p51, List.forall_mem_cons.mpr ⟨lw_p52, List.forall_mem_cons.mpr ⟨lw_p53, List.forall_mem_cons.mpr ⟨lw_p54, List.forall_mem_cons.mpr ⟨lw_p55, List.forall_mem_cons.mpr ⟨lw_p56, List.forall_mem_cons.mpr ⟨lw_p57, List.forall_mem_cons.mpr ⟨lw_p58, List.forall_mem_cons.mpr ⟨lw_p59, List.forall_mem_cons.mpr ⟨lw_p60, List.forall_mem_cons.mpr ⟨lw_p61, List.forall_mem_cons.mpr ⟨lw_p62, List.forall_mem_cons.mpr ⟨lw_p63, fun _ h => absurd h List.not_mem_nil⟩⟩⟩⟩⟩⟩⟩⟩⟩⟩⟩⟩⟩⟩⟩⟩
theorem lw_p64 : lw_okq (⟨"QuestionsInAnInnModel", "priceOf", "(I)I"⟩, 39) := ⟨⟨by decide +kernel, by decide +kernel⟩, List.mem_of_getElem? (i := 782) (by decide +kernel), List.mem_of_getElem? (i := 1133) (by decide +kernel), List.mem_of_getElem? (i := 1134) (by decide +kernel)⟩
theorem lw_p65 : lw_okq (⟨"QuestionsInAnInnModel", "apartChanged", "(II)I"⟩, 39) := ⟨⟨by decide +kernel, by decide +kernel⟩, List.mem_of_getElem? (i := 782) (by decide +kernel), List.mem_of_getElem? (i := 1162) (by decide +kernel), List.mem_of_getElem? (i := 1163) (by decide +kernel)⟩
theorem lw_p66 : lw_okq (⟨"QuestionsInAnInnModel", "sheetWrong", "(I)I"⟩, 39) := ⟨⟨by decide +kernel, by decide +kernel⟩, List.mem_of_getElem? (i := 782) (by decide +kernel), List.mem_of_getElem? (i := 1170) (by decide +kernel), List.mem_of_getElem? (i := 1171) (by decide +kernel)⟩
theorem lw_p67 : lw_okq (⟨"QuestionsInAnInnModel", "unlike", "(II)I"⟩, 39) := ⟨⟨by decide +kernel, by decide +kernel⟩, List.mem_of_getElem? (i := 782) (by decide +kernel), List.mem_of_getElem? (i := 1174) (by decide +kernel), List.mem_of_getElem? (i := 1175) (by decide +kernel)⟩
theorem lw_p68 : lw_okq (⟨"QuestionsInAnInnModel", "winnerBy", "(I)I"⟩, 39) := ⟨⟨by decide +kernel, by decide +kernel⟩, List.mem_of_getElem? (i := 782) (by decide +kernel), List.mem_of_getElem? (i := 1199) (by decide +kernel), List.mem_of_getElem? (i := 1200) (by decide +kernel)⟩
def lw_privs_5 : List (MethodName × Nat) := [(⟨"QuestionsInAnInnModel", "priceOf", "(I)I"⟩, 39), (⟨"QuestionsInAnInnModel", "apartChanged", "(II)I"⟩, 39), (⟨"QuestionsInAnInnModel", "sheetWrong", "(I)I"⟩, 39), (⟨"QuestionsInAnInnModel", "unlike", "(II)I"⟩, 39), (⟨"QuestionsInAnInnModel", "winnerBy", "(I)I"⟩, 39)]
theorem lw_r5 : ∀ q ∈ lw_privs_5, lw_okq q := List.forall_mem_cons.mpr ⟨lw_p64, List.forall_mem_cons.mpr ⟨lw_p65, List.forall_mem_cons.mpr ⟨lw_p66, List.forall_mem_cons.mpr ⟨lw_p67, List.forall_mem_cons.mpr ⟨lw_p68, fun _ h => absurd h List.not_mem_nil⟩⟩⟩⟩⟩
def lw_privs : List (MethodName × Nat) := lw_privs_1 ++ (lw_privs_2 ++ (lw_privs_3 ++ (lw_privs_4 ++ (lw_privs_5))))
def lw_tbl : List Cond := k2_sels lw_privs ++ tables_1
theorem lw_privs_ok : ∀ q ∈ lw_privs, lw_okq q := by
  show ∀ q ∈ lw_privs_1 ++ (lw_privs_2 ++ (lw_privs_3 ++ (lw_privs_4 ++ (lw_privs_5)))), lw_okq q
  exact List.forall_mem_append.mpr ⟨lw_r1, List.forall_mem_append.mpr ⟨lw_r2, List.forall_mem_append.mpr ⟨lw_r3, List.forall_mem_append.mpr ⟨lw_r4, lw_r5⟩⟩⟩⟩
-- ===== end of PART A; then your names; then what follows =====
/-! ===== BEGIN words of one list among another's, by their places ===== -/
theorem goodIn_r {big : List Cond} (ws : List Cond) (ps : List Nat) (hp : ws = ps.filterMap (fun i => big[i]?)) (h : ws.all goodWord = true) : GoodIn big ws := by
  intro w hw
  have h1 := List.all_eq_true.mp h w hw
  rw [hp] at hw
  obtain ⟨i, -, hi⟩ := List.mem_filterMap.mp hw
  have hm : w ∈ big := by first | exact List.mem_of_getElem? hi | exact List.getElem?_mem hi
  exact ⟨hm, good_of_word h1⟩
theorem goodIn_app {big a b : List Cond} (ha : GoodIn big a) (hb : GoodIn big b) : GoodIn big (a ++ b) := fun w h => (List.mem_append.mp h).elim (ha w) (hb w)
theorem goodIn_ca {big a b : List Cond} {c : Cond} (ha : GoodIn big (c :: a)) (hb : GoodIn big b) : GoodIn big (c :: (a ++ b)) := fun w h => (List.mem_cons.mp h).elim (fun e => ha w (List.mem_cons.mpr (Or.inl e))) (fun h => (List.mem_append.mp h).elim (fun h => ha w (List.mem_cons.mpr (Or.inr h))) (hb w))
theorem goodIn_sub {big ws : List Cond} (hm : ∀ w ∈ ws, w ∈ big) (h : ws.all goodWord = true) : GoodIn big ws := fun w hw => ⟨hm w hw, good_of_word (List.all_eq_true.mp h w hw)⟩
/-! ===== END ===== -/

/-! ===== BEGIN printed: names, fields, word lists, decode rows ===== -/
def RX0 : String := "QuestionsInAnInn$Answers"
def TX0 : u_T := fun k => match k with
  | 0 => ("QuestionsInAnInn$Answers", "weights", "[I", true)
  | 1 => ("QuestionsInAnInn$Answers", "able", "[I", true)
  | 2 => ("QuestionsInAnInn$Answers", "points", "[I", true)
  | 3 => ("QuestionsInAnInn$Answers", "names", "[I", true)
  | _ => ("QuestionsInAnInn$Answers", "count", "I", false)
def tyX0 : Nat → FieldType := fun k => match k with
  | 0 => .array .int
  | 1 => .array .int
  | 2 => .array .int
  | 3 => .array .int
  | _ => .int
abbrev wsX00 : List Cond := u_ws RX0 TX0 5
theorem nmX0 : ∀ a, a < 5 → ∀ b, b < 5 → a ≠ b → (TX0 a).2.1 ≠ (TX0 b).2.1 := by decide +kernel
theorem tyX0_ok : ∀ k, k < 5 → parseFieldDescriptor (TX0 k).2.2.1 = some (tyX0 k) := by decide +kernel
abbrev cX0_init : ByteArray := prog_2_method_1_code
def yX0_init : MethodName := ⟨RX0, "<init>", "()V"⟩
abbrev cX0_reckonPoints : ByteArray := prog_2_method_2_code
def yX0_reckonPoints : MethodName := ⟨RX0, "reckonPoints", "(LQuestionsInAnInn$Text;[I[II)V"⟩
abbrev cX0_reckonPerson : ByteArray := prog_2_method_3_code
def yX0_reckonPerson : MethodName := ⟨RX0, "reckonPerson", "(LQuestionsInAnInn$Text;ILQuestionsInAnInn$Guest;[I[I)V"⟩
abbrev cX0_believed : ByteArray := prog_2_method_4_code
def yX0_believed : MethodName := ⟨RX0, "believed", "(II)I"⟩
abbrev cX0_ableOf : ByteArray := prog_2_method_5_code
def yX0_ableOf : MethodName := ⟨RX0, "ableOf", "(II)I"⟩
abbrev cX0_coveredBy : ByteArray := prog_2_method_6_code
def yX0_coveredBy : MethodName := ⟨RX0, "coveredBy", "(I)I"⟩
abbrev cX0_rightOf : ByteArray := prog_2_method_7_code
def yX0_rightOf : MethodName := ⟨RX0, "rightOf", "(I)I"⟩
abbrev cX0_worth : ByteArray := prog_2_method_8_code
def yX0_worth : MethodName := ⟨RX0, "worth", "(II)I"⟩
def RX1 : String := "QuestionsInAnInn$Guest"
def TX1 : u_T := fun k => match k with
  | 0 => ("QuestionsInAnInn$Guest", "kind", "I", true)
  | 1 => ("QuestionsInAnInn$Guest", "more", "I", true)
  | 2 => ("QuestionsInAnInn$Guest", "told", "I", true)
  | 3 => ("QuestionsInAnInn$Guest", "deep", "[I", true)
  | _ => ("QuestionsInAnInn$Guest", "seat", "I", false)
def tyX1 : Nat → FieldType := fun k => match k with
  | 0 => .int
  | 1 => .int
  | 2 => .int
  | 3 => .array .int
  | _ => .int
abbrev wsX10 : List Cond := u_ws RX1 TX1 5
theorem nmX1 : ∀ a, a < 5 → ∀ b, b < 5 → a ≠ b → (TX1 a).2.1 ≠ (TX1 b).2.1 := by decide +kernel
theorem tyX1_ok : ∀ k, k < 5 → parseFieldDescriptor (TX1 k).2.2.1 = some (tyX1 k) := by decide +kernel
abbrev cX1_init : ByteArray := prog_3_method_1_code
def yX1_init : MethodName := ⟨RX1, "<init>", "(IIII)V"⟩
abbrev cX1_isOf : ByteArray := prog_3_method_2_code
def yX1_isOf : MethodName := ⟨RX1, "isOf", "(I)Z"⟩
abbrev cX1_deepAt : ByteArray := prog_3_method_3_code
def yX1_deepAt : MethodName := ⟨RX1, "deepAt", "(I)I"⟩
abbrev cX1_becomeDeep : ByteArray := prog_3_method_4_code
def yX1_becomeDeep : MethodName := ⟨RX1, "becomeDeep", "(II)V"⟩
abbrev cX1_deepestTopic : ByteArray := prog_3_method_5_code
def yX1_deepestTopic : MethodName := ⟨RX1, "deepestTopic", "()I"⟩
abbrev cX1_knows : ByteArray := prog_3_method_6_code
def yX1_knows : MethodName := ⟨RX1, "knows", "(II)I"⟩
abbrev cX1_loudAt : ByteArray := prog_3_method_7_code
def yX1_loudAt : MethodName := ⟨RX1, "loudAt", "(I)I"⟩
abbrev cX1_isOwn : ByteArray := prog_3_method_8_code
def yX1_isOwn : MethodName := ⟨RX1, "isOwn", "(I)Z"⟩
def RX2 : String := "QuestionsInAnInn$Image"
def TX2 : u_T := fun k => match k with
  | 0 => ("QuestionsInAnInn$Image", "deep", "[I", true)
  | 1 => ("QuestionsInAnInn$Image", "seats", "[I", true)
  | 2 => ("QuestionsInAnInn$Image", "jokers", "[I", true)
  | 3 => ("QuestionsInAnInn$Image", "isThere", "Z", false)
  | 4 => ("QuestionsInAnInn$Image", "people", "I", false)
  | 5 => ("QuestionsInAnInn$Image", "questions", "I", false)
  | _ => ("QuestionsInAnInn$Image", "law", "I", false)
def tyX2 : Nat → FieldType := fun k => match k with
  | 0 => .array .int
  | 1 => .array .int
  | 2 => .array .int
  | 3 => .boolean
  | 4 => .int
  | 5 => .int
  | _ => .int
abbrev wsX20 : List Cond := u_ws RX2 TX2 7
theorem nmX2 : ∀ a, a < 7 → ∀ b, b < 7 → a ≠ b → (TX2 a).2.1 ≠ (TX2 b).2.1 := by decide +kernel
theorem tyX2_ok : ∀ k, k < 7 → parseFieldDescriptor (TX2 k).2.2.1 = some (tyX2 k) := by decide +kernel
abbrev cX2_init : ByteArray := prog_4_method_1_code
def yX2_init : MethodName := ⟨RX2, "<init>", "()V"⟩
def RX3 : String := "QuestionsInAnInn$Sheet"
def TX3 : u_T := fun k => match k with
  | 0 => ("QuestionsInAnInn$Sheet", "numbers", "[I", true)
  | 1 => ("QuestionsInAnInn$Sheet", "sort", "I", false)
  | _ => ("QuestionsInAnInn$Sheet", "size", "I", false)
def tyX3 : Nat → FieldType := fun k => match k with
  | 0 => .array .int
  | 1 => .int
  | _ => .int
abbrev wsX30 : List Cond := u_ws RX3 TX3 3
theorem nmX3 : ∀ a, a < 3 → ∀ b, b < 3 → a ≠ b → (TX3 a).2.1 ≠ (TX3 b).2.1 := by decide +kernel
theorem tyX3_ok : ∀ k, k < 3 → parseFieldDescriptor (TX3 k).2.2.1 = some (tyX3 k) := by decide +kernel
abbrev cX3_init : ByteArray := prog_5_method_1_code
def yX3_init : MethodName := ⟨RX3, "<init>", "()V"⟩
abbrev cX3_isMissing : ByteArray := prog_5_method_2_code
def yX3_isMissing : MethodName := ⟨RX3, "isMissing", "()Z"⟩
abbrev cX3_become : ByteArray := prog_5_method_3_code
def yX3_become : MethodName := ⟨RX3, "become", "(II)V"⟩
abbrev cX3_has : ByteArray := prog_5_method_4_code
def yX3_has : MethodName := ⟨RX3, "has", "(I)Z"⟩
abbrev cX3_hasRow : ByteArray := prog_5_method_5_code
def yX3_hasRow : MethodName := ⟨RX3, "hasRow", "(II)Z"⟩
abbrev cX3_get : ByteArray := prog_5_method_6_code
def yX3_get : MethodName := ⟨RX3, "get", "(I)I"⟩
abbrev cX3_put : ByteArray := prog_5_method_7_code
def yX3_put : MethodName := ⟨RX3, "put", "(II)V"⟩
def RX4 : String := "QuestionsInAnInn$Tape"
def TX4 : u_T := fun k => match k with
  | 0 => ("QuestionsInAnInn$Tape", "bytes", "[I", true)
  | 1 => ("QuestionsInAnInn$Tape", "steps", "[I", true)
  | 2 => ("QuestionsInAnInn$Tape", "size", "I", false)
  | 3 => ("QuestionsInAnInn$Tape", "at", "I", false)
  | 4 => ("QuestionsInAnInn$Tape", "place", "I", false)
  | 5 => ("QuestionsInAnInn$Tape", "token", "I", false)
  | _ => ("QuestionsInAnInn$Tape", "stepCount", "I", false)
def tyX4 : Nat → FieldType := fun k => match k with
  | 0 => .array .int
  | 1 => .array .int
  | 2 => .int
  | 3 => .int
  | 4 => .int
  | 5 => .int
  | _ => .int
abbrev wsX40 : List Cond := u_ws RX4 TX4 7
theorem nmX4 : ∀ a, a < 7 → ∀ b, b < 7 → a ≠ b → (TX4 a).2.1 ≠ (TX4 b).2.1 := by decide +kernel
theorem tyX4_ok : ∀ k, k < 7 → parseFieldDescriptor (TX4 k).2.2.1 = some (tyX4 k) := by decide +kernel
abbrev cX4_init : ByteArray := prog_6_method_1_code
def yX4_init : MethodName := ⟨RX4, "<init>", "()V"⟩
abbrev cX4_put : ByteArray := prog_6_method_2_code
def yX4_put : MethodName := ⟨RX4, "put", "(I)V"⟩
abbrev cX4_write : ByteArray := prog_6_method_3_code
def yX4_write : MethodName := ⟨RX4, "write", "(Ljava/lang/String;)V"⟩
abbrev cX4_clear : ByteArray := prog_6_method_4_code
def yX4_clear : MethodName := ⟨RX4, "clear", "()V"⟩
abbrev cX4_read : ByteArray := prog_6_method_5_code
def yX4_read : MethodName := ⟨RX4, "read", "()LQuestionsInAnInn$Text;"⟩
abbrev cX4_readPart : ByteArray := prog_6_method_6_code
def yX4_readPart : MethodName := ⟨RX4, "readPart", "(I)Z"⟩
abbrev cX4_readE : ByteArray := prog_6_method_7_code
def yX4_readE : MethodName := ⟨RX4, "readE", "(I)Z"⟩
abbrev cX4_readAnd : ByteArray := prog_6_method_8_code
def yX4_readAnd : MethodName := ⟨RX4, "readAnd", "(I)Z"⟩
abbrev cX4_readNot : ByteArray := prog_6_method_9_code
def yX4_readNot : MethodName := ⟨RX4, "readNot", "(I)Z"⟩
abbrev cX4_readSum : ByteArray := prog_6_method_10_code
def yX4_readSum : MethodName := ⟨RX4, "readSum", "(I)Z"⟩
abbrev cX4_readTerm : ByteArray := prog_6_method_11_code
def yX4_readTerm : MethodName := ⟨RX4, "readTerm", "(I)Z"⟩
abbrev cX4_readOne : ByteArray := prog_6_method_12_code
def yX4_readOne : MethodName := ⟨RX4, "readOne", "(I)Z"⟩
abbrev cX4_took : ByteArray := prog_6_method_13_code
def yX4_took : MethodName := ⟨RX4, "took", "(I)Z"⟩
abbrev cX4_step : ByteArray := prog_6_method_14_code
def yX4_step : MethodName := ⟨RX4, "step", "(I)V"⟩
abbrev cX4_next : ByteArray := prog_6_method_15_code
def yX4_next : MethodName := ⟨RX4, "next", "()V"⟩
abbrev cX4_number : ByteArray := prog_6_method_16_code
def yX4_number : MethodName := ⟨RX4, "number", "()I"⟩
abbrev cX4_word : ByteArray := prog_6_method_17_code
def yX4_word : MethodName := ⟨RX4, "word", "()I"⟩
abbrev cX4_isWord : ByteArray := prog_6_method_18_code
def yX4_isWord : MethodName := ⟨RX4, "isWord", "(Ljava/lang/String;)Z"⟩
abbrev cX4_sign : ByteArray := prog_6_method_19_code
def yX4_sign : MethodName := ⟨RX4, "sign", "(I)I"⟩
abbrev cX4_byteAt : ByteArray := prog_6_method_20_code
def yX4_byteAt : MethodName := ⟨RX4, "byteAt", "(I)I"⟩
abbrev cX4_isBlank : ByteArray := prog_6_method_21_code
def yX4_isBlank : MethodName := ⟨RX4, "isBlank", "(I)Z"⟩
abbrev cX4_isLetter : ByteArray := prog_6_method_22_code
def yX4_isLetter : MethodName := ⟨RX4, "isLetter", "(I)Z"⟩
abbrev cX4_isDigit : ByteArray := prog_6_method_23_code
def yX4_isDigit : MethodName := ⟨RX4, "isDigit", "(I)Z"⟩
def RX5 : String := "QuestionsInAnInn$Text"
def TX5 : u_T := fun k => match k with
  | 0 => ("QuestionsInAnInn$Text", "steps", "[I", true)
  | 1 => ("QuestionsInAnInn$Text", "pointsFrom", "I", true)
  | 2 => ("QuestionsInAnInn$Text", "hiresFrom", "I", true)
  | _ => ("QuestionsInAnInn$Text", "pile", "[I", true)
def tyX5 : Nat → FieldType := fun k => match k with
  | 0 => .array .int
  | 1 => .int
  | 2 => .int
  | _ => .array .int
abbrev wsX50 : List Cond := u_ws RX5 TX5 4
theorem nmX5 : ∀ a, a < 4 → ∀ b, b < 4 → a ≠ b → (TX5 a).2.1 ≠ (TX5 b).2.1 := by decide +kernel
theorem tyX5_ok : ∀ k, k < 4 → parseFieldDescriptor (TX5 k).2.2.1 = some (tyX5 k) := by decide +kernel
abbrev cX5_init : ByteArray := prog_7_method_1_code
def yX5_init : MethodName := ⟨RX5, "<init>", "([III)V"⟩
abbrev cX5_says : ByteArray := prog_7_method_2_code
def yX5_says : MethodName := ⟨RX5, "says", "(I[I)I"⟩
abbrev cX5_valueOf : ByteArray := prog_7_method_3_code
def yX5_valueOf : MethodName := ⟨RX5, "valueOf", "(II[I)I"⟩
abbrev cX5_joined : ByteArray := prog_7_method_4_code
def yX5_joined : MethodName := ⟨RX5, "joined", "(III)I"⟩
def RX6 : String := "QuestionsInAnInn"
def TX6 : u_T := fun k => match k with
  | 0 => ("QuestionsInAnInn", "people", "[LQuestionsInAnInn$Guest;", true)
  | 1 => ("QuestionsInAnInn", "topics", "[I", true)
  | 2 => ("QuestionsInAnInn", "asked", "[I", true)
  | 3 => ("QuestionsInAnInn", "jokers", "[I", true)
  | 4 => ("QuestionsInAnInn", "texts", "[LQuestionsInAnInn$Text;", true)
  | 5 => ("QuestionsInAnInn", "tape", "LQuestionsInAnInn$Tape;", true)
  | 6 => ("QuestionsInAnInn", "sheets", "[LQuestionsInAnInn$Sheet;", true)
  | 7 => ("QuestionsInAnInn", "kept", "LQuestionsInAnInn$Image;", true)
  | 8 => ("QuestionsInAnInn", "answers", "LQuestionsInAnInn$Answers;", true)
  | 9 => ("QuestionsInAnInn", "rights", "[I", true)
  | 10 => ("QuestionsInAnInn", "deepBefore", "[I", true)
  | 11 => ("QuestionsInAnInn", "names", "[I", true)
  | 12 => ("QuestionsInAnInn", "peopleCount", "I", false)
  | 13 => ("QuestionsInAnInn", "questionCount", "I", false)
  | 14 => ("QuestionsInAnInn", "textCount", "I", false)
  | _ => ("QuestionsInAnInn", "law", "I", false)
def tyX6 : Nat → FieldType := fun k => match k with
  | 0 => .array (.object "QuestionsInAnInn$Guest")
  | 1 => .array .int
  | 2 => .array .int
  | 3 => .array .int
  | 4 => .array (.object "QuestionsInAnInn$Text")
  | 5 => .object "QuestionsInAnInn$Tape"
  | 6 => .array (.object "QuestionsInAnInn$Sheet")
  | 7 => .object "QuestionsInAnInn$Image"
  | 8 => .object "QuestionsInAnInn$Answers"
  | 9 => .array .int
  | 10 => .array .int
  | 11 => .array .int
  | 12 => .int
  | 13 => .int
  | 14 => .int
  | _ => .int
abbrev wsX60 : List Cond := u_ws RX6 TX6 16
theorem nmX6 : ∀ a, a < 16 → ∀ b, b < 16 → a ≠ b → (TX6 a).2.1 ≠ (TX6 b).2.1 := by decide +kernel
theorem tyX6_ok : ∀ k, k < 16 → parseFieldDescriptor (TX6 k).2.2.1 = some (tyX6 k) := by decide +kernel
abbrev cX6_init : ByteArray := prog_1_method_1_code
def yX6_init : MethodName := ⟨RX6, "<init>", "()V"⟩
abbrev cX6_count : ByteArray := prog_1_method_2_code
def yX6_count : MethodName := ⟨RX6, "count", "(I)I"⟩
abbrev cX6_feed : ByteArray := prog_1_method_3_code
def yX6_feed : MethodName := ⟨RX6, "feed", "(IIIIII)I"⟩
abbrev cX6_text : ByteArray := prog_1_method_4_code
def yX6_text : MethodName := ⟨RX6, "text", "()I"⟩
abbrev cX6_force : ByteArray := prog_1_method_5_code
def yX6_force : MethodName := ⟨RX6, "force", "(I)I"⟩
abbrev cX6_asks : ByteArray := prog_1_method_6_code
def yX6_asks : MethodName := ⟨RX6, "asks", "(IIIII)I"⟩
abbrev cX6_come : ByteArray := prog_1_method_7_code
def yX6_come : MethodName := ⟨RX6, "come", "(III)I"⟩
abbrev cX6_learn : ByteArray := prog_1_method_8_code
def yX6_learn : MethodName := ⟨RX6, "learn", "(III)I"⟩
abbrev cX6_sit : ByteArray := prog_1_method_9_code
def yX6_sit : MethodName := ⟨RX6, "sit", "(II)I"⟩
abbrev cX6_told : ByteArray := prog_1_method_10_code
def yX6_told : MethodName := ⟨RX6, "told", "(II)I"⟩
abbrev cX6_question : ByteArray := prog_1_method_11_code
def yX6_question : MethodName := ⟨RX6, "question", "(II)I"⟩
abbrev cX6_askedOf : ByteArray := prog_1_method_12_code
def yX6_askedOf : MethodName := ⟨RX6, "askedOf", "(II)I"⟩
abbrev cX6_lay : ByteArray := prog_1_method_13_code
def yX6_lay : MethodName := ⟨RX6, "lay", "(II)I"⟩
abbrev cX6_laid : ByteArray := prog_1_method_14_code
def yX6_laid : MethodName := ⟨RX6, "laid", "(I)I"⟩
abbrev cX6_answer : ByteArray := prog_1_method_15_code
def yX6_answer : MethodName := ⟨RX6, "answer", "(III)I"⟩
abbrev cX6_score : ByteArray := prog_1_method_16_code
def yX6_score : MethodName := ⟨RX6, "score", "(II)I"⟩
abbrev cX6_evening : ByteArray := prog_1_method_17_code
def yX6_evening : MethodName := ⟨RX6, "evening", "(I)I"⟩
abbrev cX6_best : ByteArray := prog_1_method_18_code
def yX6_best : MethodName := ⟨RX6, "best", "(II)I"⟩
abbrev cX6_join : ByteArray := prog_1_method_19_code
def yX6_join : MethodName := ⟨RX6, "join", "(II)I"⟩
abbrev cX6_leave : ByteArray := prog_1_method_20_code
def yX6_leave : MethodName := ⟨RX6, "leave", "(II)I"⟩
abbrev cX6_cover : ByteArray := prog_1_method_21_code
def yX6_cover : MethodName := ⟨RX6, "cover", "(I)I"⟩
abbrev cX6_hire : ByteArray := prog_1_method_22_code
def yX6_hire : MethodName := ⟨RX6, "hire", "(III)I"⟩
abbrev cX6_price : ByteArray := prog_1_method_23_code
def yX6_price : MethodName := ⟨RX6, "price", "(I)I"⟩
abbrev cX6_close : ByteArray := prog_1_method_24_code
def yX6_close : MethodName := ⟨RX6, "close", "(II)I"⟩
abbrev cX6_good : ByteArray := prog_1_method_25_code
def yX6_good : MethodName := ⟨RX6, "good", "(I)I"⟩
abbrev cX6_alike : ByteArray := prog_1_method_26_code
def yX6_alike : MethodName := ⟨RX6, "alike", "(III)J"⟩
abbrev cX6_change : ByteArray := prog_1_method_27_code
def yX6_change : MethodName := ⟨RX6, "change", "(I)I"⟩
abbrev cX6_judge : ByteArray := prog_1_method_28_code
def yX6_judge : MethodName := ⟨RX6, "judge", "(II)I"⟩
abbrev cX6_whose : ByteArray := prog_1_method_29_code
def yX6_whose : MethodName := ⟨RX6, "whose", "(I)I"⟩
abbrev cX6_depth : ByteArray := prog_1_method_30_code
def yX6_depth : MethodName := ⟨RX6, "depth", "(III)I"⟩
abbrev cX6_laws : ByteArray := prog_1_method_31_code
def yX6_laws : MethodName := ⟨RX6, "laws", "(II)I"⟩
abbrev cX6_film : ByteArray := prog_1_method_32_code
def yX6_film : MethodName := ⟨RX6, "film", "(II)I"⟩
abbrev cX6_drawn : ByteArray := prog_1_method_33_code
def yX6_drawn : MethodName := ⟨RX6, "drawn", "(I)I"⟩
abbrev cX6_odds : ByteArray := prog_1_method_34_code
def yX6_odds : MethodName := ⟨RX6, "odds", "(IIII)J"⟩
abbrev cX6_image : ByteArray := prog_1_method_35_code
def yX6_image : MethodName := ⟨RX6, "image", "()I"⟩
abbrev cX6_back : ByteArray := prog_1_method_36_code
def yX6_back : MethodName := ⟨RX6, "back", "()I"⟩
abbrev cX6_sheet : ByteArray := prog_1_method_37_code
def yX6_sheet : MethodName := ⟨RX6, "sheet", "(III)I"⟩
abbrev cX6_cell : ByteArray := prog_1_method_38_code
def yX6_cell : MethodName := ⟨RX6, "cell", "(III)I"⟩
abbrev cX6_copy : ByteArray := prog_1_method_39_code
def yX6_copy : MethodName := ⟨RX6, "copy", "(IIIII)I"⟩
abbrev cX6_depthsBy : ByteArray := prog_1_method_40_code
def yX6_depthsBy : MethodName := ⟨RX6, "depthsBy", "(IIII)I"⟩
abbrev cX6_taken : ByteArray := prog_1_method_41_code
def yX6_taken : MethodName := ⟨RX6, "taken", "(II)I"⟩
abbrev cX6_isByte : ByteArray := prog_1_method_42_code
def yX6_isByte : MethodName := ⟨RX6, "isByte", "(I)Z"⟩
abbrev cX6_isZeroOrOne : ByteArray := prog_1_method_43_code
def yX6_isZeroOrOne : MethodName := ⟨RX6, "isZeroOrOne", "(I)Z"⟩
abbrev cX6_isTopic : ByteArray := prog_1_method_44_code
def yX6_isTopic : MethodName := ⟨RX6, "isTopic", "(I)Z"⟩
abbrev cX6_isTable : ByteArray := prog_1_method_45_code
def yX6_isTable : MethodName := ⟨RX6, "isTable", "(I)Z"⟩
abbrev cX6_isTableOrNone : ByteArray := prog_1_method_46_code
def yX6_isTableOrNone : MethodName := ⟨RX6, "isTableOrNone", "(I)Z"⟩
abbrev cX6_isQuestion : ByteArray := prog_1_method_47_code
def yX6_isQuestion : MethodName := ⟨RX6, "isQuestion", "(I)Z"⟩
abbrev cX6_personAt : ByteArray := prog_1_method_48_code
def yX6_personAt : MethodName := ⟨RX6, "personAt", "(I)LQuestionsInAnInn$Guest;"⟩
abbrev cX6_sheetAt : ByteArray := prog_1_method_49_code
def yX6_sheetAt : MethodName := ⟨RX6, "sheetAt", "(I)LQuestionsInAnInn$Sheet;"⟩
abbrev cX6_lawText : ByteArray := prog_1_method_50_code
def yX6_lawText : MethodName := ⟨RX6, "lawText", "()LQuestionsInAnInn$Text;"⟩
abbrev cX6_bounded : ByteArray := prog_1_method_51_code
def yX6_bounded : MethodName := ⟨RX6, "bounded", "(III)I"⟩
abbrev cX6_name : ByteArray := prog_1_method_52_code
def yX6_name : MethodName := ⟨RX6, "name", "([IIII)V"⟩
abbrev cX6_nameMore : ByteArray := prog_1_method_53_code
def yX6_nameMore : MethodName := ⟨RX6, "nameMore", "([IIII)V"⟩
abbrev cX6_lowest : ByteArray := prog_1_method_54_code
def yX6_lowest : MethodName := ⟨RX6, "lowest", "(III)J"⟩
abbrev cX6_reckon : ByteArray := prog_1_method_55_code
def yX6_reckon : MethodName := ⟨RX6, "reckon", "()V"⟩
abbrev cX6_findRights : ByteArray := prog_1_method_56_code
def yX6_findRights : MethodName := ⟨RX6, "findRights", "()V"⟩
abbrev cX6_seatedAt : ByteArray := prog_1_method_57_code
def yX6_seatedAt : MethodName := ⟨RX6, "seatedAt", "(I)I"⟩
abbrev cX6_scoreNow : ByteArray := prog_1_method_58_code
def yX6_scoreNow : MethodName := ⟨RX6, "scoreNow", "(I)I"⟩
abbrev cX6_scoreIf : ByteArray := prog_1_method_59_code
def yX6_scoreIf : MethodName := ⟨RX6, "scoreIf", "(II)I"⟩
abbrev cX6_winner : ByteArray := prog_1_method_60_code
def yX6_winner : MethodName := ⟨RX6, "winner", "()I"⟩
abbrev cX6_apartBy : ByteArray := prog_1_method_61_code
def yX6_apartBy : MethodName := ⟨RX6, "apartBy", "(I)I"⟩
abbrev cX6_apartIfChanged : ByteArray := prog_1_method_62_code
def yX6_apartIfChanged : MethodName := ⟨RX6, "apartIfChanged", "(LQuestionsInAnInn$Guest;LQuestionsInAnInn$Guest;)I"⟩
abbrev cX6_changePlaces : ByteArray := prog_1_method_63_code
def yX6_changePlaces : MethodName := ⟨RX6, "changePlaces", "(LQuestionsInAnInn$Guest;LQuestionsInAnInn$Guest;)V"⟩
abbrev cX6_costOf : ByteArray := prog_1_method_64_code
def yX6_costOf : MethodName := ⟨RX6, "costOf", "(ILQuestionsInAnInn$Guest;)I"⟩
abbrev cX6_refusalOfTold : ByteArray := prog_1_method_65_code
def yX6_refusalOfTold : MethodName := ⟨RX6, "refusalOfTold", "(I)I"⟩
abbrev cX6_firstOtherwise : ByteArray := prog_1_method_66_code
def yX6_firstOtherwise : MethodName := ⟨RX6, "firstOtherwise", "(II)I"⟩
abbrev cX6_winnerBy : ByteArray := prog_1_method_67_code
def yX6_winnerBy : MethodName := ⟨RX6, "winnerBy", "(I)I"⟩
abbrev cX6_keepDepths : ByteArray := prog_1_method_68_code
def yX6_keepDepths : MethodName := ⟨RX6, "keepDepths", "([I)V"⟩
abbrev cX6_giveDepths : ByteArray := prog_1_method_69_code
def yX6_giveDepths : MethodName := ⟨RX6, "giveDepths", "([I)V"⟩
def RX7 : String := "QuestionsInAnInnModel"
def TX7 : u_T := fun k => match k with
  | 0 => ("QuestionsInAnInnModel", "people", "I", false)
  | 1 => ("QuestionsInAnInnModel", "kind", "[I", true)
  | 2 => ("QuestionsInAnInnModel", "toldOf", "[I", true)
  | 3 => ("QuestionsInAnInnModel", "moreOf", "[I", true)
  | 4 => ("QuestionsInAnInnModel", "seat", "[I", true)
  | 5 => ("QuestionsInAnInnModel", "deep", "[I", true)
  | 6 => ("QuestionsInAnInnModel", "questions", "I", false)
  | 7 => ("QuestionsInAnInnModel", "topicOf", "[I", true)
  | 8 => ("QuestionsInAnInnModel", "askedFor", "[I", true)
  | 9 => ("QuestionsInAnInnModel", "joker", "[I", true)
  | 10 => ("QuestionsInAnInnModel", "tape", "[I", true)
  | 11 => ("QuestionsInAnInnModel", "taped", "I", false)
  | 12 => ("QuestionsInAnInnModel", "codes", "[I", true)
  | 13 => ("QuestionsInAnInnModel", "starts", "[I", true)
  | 14 => ("QuestionsInAnInnModel", "texts", "I", false)
  | 15 => ("QuestionsInAnInnModel", "rule", "I", false)
  | 16 => ("QuestionsInAnInnModel", "hasImage", "Z", false)
  | 17 => ("QuestionsInAnInnModel", "imagePeople", "I", false)
  | 18 => ("QuestionsInAnInnModel", "imageQuestions", "I", false)
  | 19 => ("QuestionsInAnInnModel", "imageRule", "I", false)
  | 20 => ("QuestionsInAnInnModel", "imageSeat", "[I", true)
  | 21 => ("QuestionsInAnInnModel", "imageDeep", "[I", true)
  | 22 => ("QuestionsInAnInnModel", "imageJoker", "[I", true)
  | 23 => ("QuestionsInAnInnModel", "sheetSort", "[I", true)
  | 24 => ("QuestionsInAnInnModel", "sheetSize", "[I", true)
  | 25 => ("QuestionsInAnInnModel", "cells", "[I", true)
  | 26 => ("QuestionsInAnInnModel", "law", "[I", true)
  | 27 => ("QuestionsInAnInnModel", "at", "I", false)
  | 28 => ("QuestionsInAnInnModel", "begun", "I", false)
  | 29 => ("QuestionsInAnInnModel", "token", "I", false)
  | 30 => ("QuestionsInAnInnModel", "value", "I", false)
  | 31 => ("QuestionsInAnInnModel", "words", "[I", true)
  | 32 => ("QuestionsInAnInnModel", "held", "[I", true)
  | 33 => ("QuestionsInAnInnModel", "heldMany", "I", false)
  | 34 => ("QuestionsInAnInnModel", "opens", "I", false)
  | 35 => ("QuestionsInAnInnModel", "out", "I", false)
  | 36 => ("QuestionsInAnInnModel", "stack", "[I", true)
  | 37 => ("QuestionsInAnInnModel", "named", "[I", true)
  | _ => ("QuestionsInAnInnModel", "keptDeep", "[I", true)
def tyX7 : Nat → FieldType := fun k => match k with
  | 0 => .int
  | 1 => .array .int
  | 2 => .array .int
  | 3 => .array .int
  | 4 => .array .int
  | 5 => .array .int
  | 6 => .int
  | 7 => .array .int
  | 8 => .array .int
  | 9 => .array .int
  | 10 => .array .int
  | 11 => .int
  | 12 => .array .int
  | 13 => .array .int
  | 14 => .int
  | 15 => .int
  | 16 => .boolean
  | 17 => .int
  | 18 => .int
  | 19 => .int
  | 20 => .array .int
  | 21 => .array .int
  | 22 => .array .int
  | 23 => .array .int
  | 24 => .array .int
  | 25 => .array .int
  | 26 => .array .int
  | 27 => .int
  | 28 => .int
  | 29 => .int
  | 30 => .int
  | 31 => .array .int
  | 32 => .array .int
  | 33 => .int
  | 34 => .int
  | 35 => .int
  | 36 => .array .int
  | 37 => .array .int
  | _ => .array .int
abbrev wsX70 : List Cond := u_ws RX7 TX7 39
theorem nmX7 : ∀ a, a < 39 → ∀ b, b < 39 → a ≠ b → (TX7 a).2.1 ≠ (TX7 b).2.1 := by decide +kernel
theorem tyX7_ok : ∀ k, k < 39 → parseFieldDescriptor (TX7 k).2.2.1 = some (tyX7 k) := by decide +kernel
abbrev cX7_init : ByteArray := prog_9_method_1_code
def yX7_init : MethodName := ⟨RX7, "<init>", "()V"⟩
abbrev cX7_in : ByteArray := prog_9_method_3_code
def yX7_in : MethodName := ⟨RX7, "in", "(III)Z"⟩
abbrev cX7_within : ByteArray := prog_9_method_4_code
def yX7_within : MethodName := ⟨RX7, "within", "(III)I"⟩
abbrev cX7_isOne : ByteArray := prog_9_method_5_code
def yX7_isOne : MethodName := ⟨RX7, "isOne", "(I)Z"⟩
abbrev cX7_isQuestion : ByteArray := prog_9_method_6_code
def yX7_isQuestion : MethodName := ⟨RX7, "isQuestion", "(I)Z"⟩
abbrev cX7_isTable : ByteArray := prog_9_method_7_code
def yX7_isTable : MethodName := ⟨RX7, "isTable", "(I)Z"⟩
abbrev cX7_ones : ByteArray := prog_9_method_8_code
def yX7_ones : MethodName := ⟨RX7, "ones", "(I)I"⟩
abbrev cX7_count : ByteArray := prog_9_method_9_code
def yX7_count : MethodName := ⟨RX7, "count", "(I)I"⟩
abbrev cX7_isByte : ByteArray := prog_9_method_10_code
def yX7_isByte : MethodName := ⟨RX7, "isByte", "(I)Z"⟩
abbrev cX7_feed : ByteArray := prog_9_method_11_code
def yX7_feed : MethodName := ⟨RX7, "feed", "(IIIIII)I"⟩
abbrev cX7_wordFrom : ByteArray := prog_9_method_12_code
def yX7_wordFrom : MethodName := ⟨RX7, "wordFrom", "(II)I"⟩
abbrev cX7_next : ByteArray := prog_9_method_13_code
def yX7_next : MethodName := ⟨RX7, "next", "()V"⟩
abbrev cX7_rank : ByteArray := prog_9_method_14_code
def yX7_rank : MethodName := ⟨RX7, "rank", "(I)I"⟩
abbrev cX7_puts : ByteArray := prog_9_method_15_code
def yX7_puts : MethodName := ⟨RX7, "puts", "(I)V"⟩
abbrev cX7_unwinds : ByteArray := prog_9_method_16_code
def yX7_unwinds : MethodName := ⟨RX7, "unwinds", "(I)V"⟩
abbrev cX7_holds : ByteArray := prog_9_method_17_code
def yX7_holds : MethodName := ⟨RX7, "holds", "(I)V"⟩
abbrev cX7_opensOne : ByteArray := prog_9_method_18_code
def yX7_opensOne : MethodName := ⟨RX7, "opensOne", "(I)Z"⟩
abbrev cX7_between : ByteArray := prog_9_method_19_code
def yX7_between : MethodName := ⟨RX7, "between", "(I)Z"⟩
abbrev cX7_signOf : ByteArray := prog_9_method_20_code
def yX7_signOf : MethodName := ⟨RX7, "signOf", "()I"⟩
abbrev cX7_eRead : ByteArray := prog_9_method_21_code
def yX7_eRead : MethodName := ⟨RX7, "eRead", "()Z"⟩
abbrev cX7_text : ByteArray := prog_9_method_22_code
def yX7_text : MethodName := ⟨RX7, "text", "()I"⟩
abbrev cX7_two : ByteArray := prog_9_method_23_code
def yX7_two : MethodName := ⟨RX7, "two", "(III)I"⟩
abbrev cX7_says : ByteArray := prog_9_method_24_code
def yX7_says : MethodName := ⟨RX7, "says", "(I)I"⟩
abbrev cX7_force : ByteArray := prog_9_method_25_code
def yX7_force : MethodName := ⟨RX7, "force", "(I)I"⟩
abbrev cX7_asksOf : ByteArray := prog_9_method_26_code
def yX7_asksOf : MethodName := ⟨RX7, "asksOf", "(IIIIIII)I"⟩
abbrev cX7_asks : ByteArray := prog_9_method_27_code
def yX7_asks : MethodName := ⟨RX7, "asks", "(IIIII)I"⟩
abbrev cX7_come : ByteArray := prog_9_method_28_code
def yX7_come : MethodName := ⟨RX7, "come", "(III)I"⟩
abbrev cX7_learn : ByteArray := prog_9_method_29_code
def yX7_learn : MethodName := ⟨RX7, "learn", "(III)I"⟩
abbrev cX7_sit : ByteArray := prog_9_method_30_code
def yX7_sit : MethodName := ⟨RX7, "sit", "(II)I"⟩
abbrev cX7_told : ByteArray := prog_9_method_31_code
def yX7_told : MethodName := ⟨RX7, "told", "(II)I"⟩
abbrev cX7_question : ByteArray := prog_9_method_32_code
def yX7_question : MethodName := ⟨RX7, "question", "(II)I"⟩
abbrev cX7_askedOf : ByteArray := prog_9_method_33_code
def yX7_askedOf : MethodName := ⟨RX7, "askedOf", "(II)I"⟩
abbrev cX7_lay : ByteArray := prog_9_method_34_code
def yX7_lay : MethodName := ⟨RX7, "lay", "(II)I"⟩
abbrev cX7_laid : ByteArray := prog_9_method_35_code
def yX7_laid : MethodName := ⟨RX7, "laid", "(I)I"⟩
abbrev cX7_knows : ByteArray := prog_9_method_36_code
def yX7_knows : MethodName := ⟨RX7, "knows", "(II)I"⟩
abbrev cX7_loudOf : ByteArray := prog_9_method_37_code
def yX7_loudOf : MethodName := ⟨RX7, "loudOf", "(II)I"⟩
abbrev cX7_weight : ByteArray := prog_9_method_38_code
def yX7_weight : MethodName := ⟨RX7, "weight", "(II)I"⟩
abbrev cX7_canAnswer : ByteArray := prog_9_method_39_code
def yX7_canAnswer : MethodName := ⟨RX7, "canAnswer", "(II)Z"⟩
abbrev cX7_believed : ByteArray := prog_9_method_40_code
def yX7_believed : MethodName := ⟨RX7, "believed", "(II)I"⟩
abbrev cX7_isRight : ByteArray := prog_9_method_41_code
def yX7_isRight : MethodName := ⟨RX7, "isRight", "(II)Z"⟩
abbrev cX7_knowing : ByteArray := prog_9_method_42_code
def yX7_knowing : MethodName := ⟨RX7, "knowing", "(II)I"⟩
abbrev cX7_answer : ByteArray := prog_9_method_43_code
def yX7_answer : MethodName := ⟨RX7, "answer", "(III)I"⟩
abbrev cX7_pointsOf : ByteArray := prog_9_method_44_code
def yX7_pointsOf : MethodName := ⟨RX7, "pointsOf", "(II)I"⟩
abbrev cX7_scoreOf : ByteArray := prog_9_method_45_code
def yX7_scoreOf : MethodName := ⟨RX7, "scoreOf", "(II)I"⟩
abbrev cX7_all : ByteArray := prog_9_method_46_code
def yX7_all : MethodName := ⟨RX7, "all", "()I"⟩
abbrev cX7_scoreNow : ByteArray := prog_9_method_47_code
def yX7_scoreNow : MethodName := ⟨RX7, "scoreNow", "(I)I"⟩
abbrev cX7_rightOf : ByteArray := prog_9_method_48_code
def yX7_rightOf : MethodName := ⟨RX7, "rightOf", "(I)I"⟩
abbrev cX7_missed : ByteArray := prog_9_method_49_code
def yX7_missed : MethodName := ⟨RX7, "missed", "(I)I"⟩
abbrev cX7_score : ByteArray := prog_9_method_50_code
def yX7_score : MethodName := ⟨RX7, "score", "(II)I"⟩
abbrev cX7_winner : ByteArray := prog_9_method_51_code
def yX7_winner : MethodName := ⟨RX7, "winner", "()I"⟩
abbrev cX7_apart : ByteArray := prog_9_method_52_code
def yX7_apart : MethodName := ⟨RX7, "apart", "(I)I"⟩
abbrev cX7_evening : ByteArray := prog_9_method_53_code
def yX7_evening : MethodName := ⟨RX7, "evening", "(I)I"⟩
abbrev cX7_best : ByteArray := prog_9_method_54_code
def yX7_best : MethodName := ⟨RX7, "best", "(II)I"⟩
abbrev cX7_scoreWith : ByteArray := prog_9_method_55_code
def yX7_scoreWith : MethodName := ⟨RX7, "scoreWith", "(III)I"⟩
abbrev cX7_join : ByteArray := prog_9_method_56_code
def yX7_join : MethodName := ⟨RX7, "join", "(II)I"⟩
abbrev cX7_leave : ByteArray := prog_9_method_57_code
def yX7_leave : MethodName := ⟨RX7, "leave", "(II)I"⟩
abbrev cX7_coveredBy : ByteArray := prog_9_method_58_code
def yX7_coveredBy : MethodName := ⟨RX7, "coveredBy", "(I)I"⟩
abbrev cX7_cover : ByteArray := prog_9_method_59_code
def yX7_cover : MethodName := ⟨RX7, "cover", "(I)I"⟩
abbrev cX7_priceOf : ByteArray := prog_9_method_60_code
def yX7_priceOf : MethodName := ⟨RX7, "priceOf", "(I)I"⟩
abbrev cX7_hire : ByteArray := prog_9_method_61_code
def yX7_hire : MethodName := ⟨RX7, "hire", "(III)I"⟩
abbrev cX7_price : ByteArray := prog_9_method_62_code
def yX7_price : MethodName := ⟨RX7, "price", "(I)I"⟩
abbrev cX7_close : ByteArray := prog_9_method_63_code
def yX7_close : MethodName := ⟨RX7, "close", "(II)I"⟩
abbrev cX7_good : ByteArray := prog_9_method_64_code
def yX7_good : MethodName := ⟨RX7, "good", "(I)I"⟩
abbrev cX7_lowest : ByteArray := prog_9_method_65_code
def yX7_lowest : MethodName := ⟨RX7, "lowest", "(JJI)J"⟩
abbrev cX7_alike : ByteArray := prog_9_method_66_code
def yX7_alike : MethodName := ⟨RX7, "alike", "(III)J"⟩
abbrev cX7_apartChanged : ByteArray := prog_9_method_67_code
def yX7_apartChanged : MethodName := ⟨RX7, "apartChanged", "(II)I"⟩
abbrev cX7_change : ByteArray := prog_9_method_68_code
def yX7_change : MethodName := ⟨RX7, "change", "(I)I"⟩
abbrev cX7_sheetWrong : ByteArray := prog_9_method_69_code
def yX7_sheetWrong : MethodName := ⟨RX7, "sheetWrong", "(I)I"⟩
abbrev cX7_unlike : ByteArray := prog_9_method_70_code
def yX7_unlike : MethodName := ⟨RX7, "unlike", "(II)I"⟩
abbrev cX7_judge : ByteArray := prog_9_method_71_code
def yX7_judge : MethodName := ⟨RX7, "judge", "(II)I"⟩
abbrev cX7_whose : ByteArray := prog_9_method_72_code
def yX7_whose : MethodName := ⟨RX7, "whose", "(I)I"⟩
abbrev cX7_depth : ByteArray := prog_9_method_73_code
def yX7_depth : MethodName := ⟨RX7, "depth", "(III)I"⟩
abbrev cX7_laws : ByteArray := prog_9_method_74_code
def yX7_laws : MethodName := ⟨RX7, "laws", "(II)I"⟩
abbrev cX7_film : ByteArray := prog_9_method_75_code
def yX7_film : MethodName := ⟨RX7, "film", "(II)I"⟩
abbrev cX7_winnerBy : ByteArray := prog_9_method_76_code
def yX7_winnerBy : MethodName := ⟨RX7, "winnerBy", "(I)I"⟩
abbrev cX7_drawn : ByteArray := prog_9_method_77_code
def yX7_drawn : MethodName := ⟨RX7, "drawn", "(I)I"⟩
abbrev cX7_odds : ByteArray := prog_9_method_78_code
def yX7_odds : MethodName := ⟨RX7, "odds", "(IIII)J"⟩
abbrev cX7_image : ByteArray := prog_9_method_79_code
def yX7_image : MethodName := ⟨RX7, "image", "()I"⟩
abbrev cX7_back : ByteArray := prog_9_method_80_code
def yX7_back : MethodName := ⟨RX7, "back", "()I"⟩
abbrev cX7_sheet : ByteArray := prog_9_method_81_code
def yX7_sheet : MethodName := ⟨RX7, "sheet", "(III)I"⟩
abbrev cX7_cell : ByteArray := prog_9_method_82_code
def yX7_cell : MethodName := ⟨RX7, "cell", "(III)I"⟩
abbrev cX7_copy : ByteArray := prog_9_method_83_code
def yX7_copy : MethodName := ⟨RX7, "copy", "(IIIII)I"⟩
abbrev cX7_depthsBy : ByteArray := prog_9_method_84_code
def yX7_depthsBy : MethodName := ⟨RX7, "depthsBy", "(IIII)I"⟩
abbrev cX7_isUnder : ByteArray := prog_9_method_85_code
def yX7_isUnder : MethodName := ⟨RX7, "isUnder", "(II)Z"⟩
abbrev cX7_taken : ByteArray := prog_9_method_86_code
def yX7_taken : MethodName := ⟨RX7, "taken", "(II)I"⟩
def RJx145de : String := "java/io/Serializable"
def TJx145de : u_T := fun k => match k with
  | _ => ("", "", "", false)
def tyJx145de : Nat → FieldType := fun k => match k with
  | _ => .int
abbrev wsJx145de0 : List Cond := u_ws RJx145de TJx145de 0
theorem nmJx145de : ∀ a, a < 0 → ∀ b, b < 0 → a ≠ b → (TJx145de a).2.1 ≠ (TJx145de b).2.1 := by decide +kernel
theorem tyJx145de_ok : ∀ k, k < 0 → parseFieldDescriptor (TJx145de k).2.2.1 = some (tyJx145de k) := by decide +kernel
def RJx9f9b0 : String := "java/lang/CharSequence"
def TJx9f9b0 : u_T := fun k => match k with
  | _ => ("", "", "", false)
def tyJx9f9b0 : Nat → FieldType := fun k => match k with
  | _ => .int
abbrev wsJx9f9b00 : List Cond := u_ws RJx9f9b0 TJx9f9b0 0
theorem nmJx9f9b0 : ∀ a, a < 0 → ∀ b, b < 0 → a ≠ b → (TJx9f9b0 a).2.1 ≠ (TJx9f9b0 b).2.1 := by decide +kernel
theorem tyJx9f9b0_ok : ∀ k, k < 0 → parseFieldDescriptor (TJx9f9b0 k).2.2.1 = some (tyJx9f9b0 k) := by decide +kernel
def RJx8e188 : String := "java/lang/Cloneable"
def TJx8e188 : u_T := fun k => match k with
  | _ => ("", "", "", false)
def tyJx8e188 : Nat → FieldType := fun k => match k with
  | _ => .int
abbrev wsJx8e1880 : List Cond := u_ws RJx8e188 TJx8e188 0
theorem nmJx8e188 : ∀ a, a < 0 → ∀ b, b < 0 → a ≠ b → (TJx8e188 a).2.1 ≠ (TJx8e188 b).2.1 := by decide +kernel
theorem tyJx8e188_ok : ∀ k, k < 0 → parseFieldDescriptor (TJx8e188 k).2.2.1 = some (tyJx8e188 k) := by decide +kernel
def RJxb160c : String := "java/lang/Comparable"
def TJxb160c : u_T := fun k => match k with
  | _ => ("", "", "", false)
def tyJxb160c : Nat → FieldType := fun k => match k with
  | _ => .int
abbrev wsJxb160c0 : List Cond := u_ws RJxb160c TJxb160c 0
theorem nmJxb160c : ∀ a, a < 0 → ∀ b, b < 0 → a ≠ b → (TJxb160c a).2.1 ≠ (TJxb160c b).2.1 := by decide +kernel
theorem tyJxb160c_ok : ∀ k, k < 0 → parseFieldDescriptor (TJxb160c k).2.2.1 = some (tyJxb160c k) := by decide +kernel
def RJ6 : String := "java/lang/Integer"
def TJ6 : u_T := fun k => match k with
  | _ => ("", "", "", false)
def tyJ6 : Nat → FieldType := fun k => match k with
  | _ => .int
abbrev wsJ60 : List Cond := u_ws RJ6 TJ6 0
theorem nmJ6 : ∀ a, a < 0 → ∀ b, b < 0 → a ≠ b → (TJ6 a).2.1 ≠ (TJ6 b).2.1 := by decide +kernel
theorem tyJ6_ok : ∀ k, k < 0 → parseFieldDescriptor (TJ6 k).2.2.1 = some (tyJ6 k) := by decide +kernel
abbrev cJ6_compare_7cf53 : ByteArray := prog_11_method_40_code
def yJ6_compare_7cf53 : MethodName := ⟨RJ6, "compare", "(II)I"⟩
abbrev cJ6_bitCount_0f7a4 : ByteArray := prog_11_method_49_code
def yJ6_bitCount_0f7a4 : MethodName := ⟨RJ6, "bitCount", "(I)I"⟩
def RJ9 : String := "java/lang/Math"
def TJ9 : u_T := fun k => match k with
  | _ => ("", "", "", false)
def tyJ9 : Nat → FieldType := fun k => match k with
  | _ => .int
abbrev wsJ90 : List Cond := u_ws RJ9 TJ9 0
theorem nmJ9 : ∀ a, a < 0 → ∀ b, b < 0 → a ≠ b → (TJ9 a).2.1 ≠ (TJ9 b).2.1 := by decide +kernel
theorem tyJ9_ok : ∀ k, k < 0 → parseFieldDescriptor (TJ9 k).2.2.1 = some (tyJ9 k) := by decide +kernel
abbrev cJ9_max_7cf53 : ByteArray := prog_12_method_65_code
def yJ9_max_7cf53 : MethodName := ⟨RJ9, "max", "(II)I"⟩
abbrev cJ9_min_7cf53 : ByteArray := prog_12_method_69_code
def yJ9_min_7cf53 : MethodName := ⟨RJ9, "min", "(II)I"⟩
def RJ0 : String := "java/lang/String"
def TJ0 : u_T := fun k => match k with
  | _ => ("", "", "", false)
def tyJ0 : Nat → FieldType := fun k => match k with
  | _ => .int
abbrev wsJ00 : List Cond := u_ws RJ0 TJ0 0
theorem nmJ0 : ∀ a, a < 0 → ∀ b, b < 0 → a ≠ b → (TJ0 a).2.1 ≠ (TJ0 b).2.1 := by decide +kernel
theorem tyJ0_ok : ∀ k, k < 0 → parseFieldDescriptor (TJ0 k).2.2.1 = some (tyJ0 k) := by decide +kernel
abbrev cJ0_length_8abf5 : ByteArray := prog_13_method_54_code
def yJ0_length_8abf5 : MethodName := ⟨RJ0, "length", "()I"⟩
abbrev cJ0_charAt_5068e : ByteArray := prog_13_method_56_code
def yJ0_charAt_5068e : MethodName := ⟨RJ0, "charAt", "(I)C"⟩
abbrev cJ0_coder_7d493 : ByteArray := prog_13_method_152_code
def yJ0_coder_7d493 : MethodName := ⟨RJ0, "coder", "()B"⟩
abbrev cJ0_isLatin1_aae02 : ByteArray := prog_13_method_154_code
def yJ0_isLatin1_aae02 : MethodName := ⟨RJ0, "isLatin1", "()Z"⟩
abbrev cJ0_checkIndex_df160 : ByteArray := prog_13_method_155_code
def yJ0_checkIndex_df160 : MethodName := ⟨RJ0, "checkIndex", "(II)V"⟩
def RJ1 : String := "java/lang/StringLatin1"
def TJ1 : u_T := fun k => match k with
  | _ => ("", "", "", false)
def tyJ1 : Nat → FieldType := fun k => match k with
  | _ => .int
abbrev wsJ10 : List Cond := u_ws RJ1 TJ1 0
theorem nmJ1 : ∀ a, a < 0 → ∀ b, b < 0 → a ≠ b → (TJ1 a).2.1 ≠ (TJ1 b).2.1 := by decide +kernel
theorem tyJ1_ok : ∀ k, k < 0 → parseFieldDescriptor (TJ1 k).2.2.1 = some (tyJ1 k) := by decide +kernel
abbrev cJ1_charAt_3b067 : ByteArray := prog_14_method_2_code
def yJ1_charAt_3b067 : MethodName := ⟨RJ1, "charAt", "([BI)C"⟩
def RJ2 : String := "java/lang/StringUTF16"
def TJ2 : u_T := fun k => match k with
  | _ => ("", "", "", false)
def tyJ2 : Nat → FieldType := fun k => match k with
  | _ => .int
abbrev wsJ20 : List Cond := u_ws RJ2 TJ2 0
theorem nmJ2 : ∀ a, a < 0 → ∀ b, b < 0 → a ≠ b → (TJ2 a).2.1 ≠ (TJ2 b).2.1 := by decide +kernel
theorem tyJ2_ok : ∀ k, k < 0 → parseFieldDescriptor (TJ2 k).2.2.1 = some (tyJ2 k) := by decide +kernel
abbrev cJ2_getChar_3b067 : ByteArray := prog_15_method_5_code
def yJ2_getChar_3b067 : MethodName := ⟨RJ2, "getChar", "([BI)C"⟩
abbrev cJ2_length_9d52b : ByteArray := prog_15_method_6_code
def yJ2_length_9d52b : MethodName := ⟨RJ2, "length", "([B)I"⟩
abbrev cJ2_charAt_3b067 : ByteArray := prog_15_method_83_code
def yJ2_charAt_3b067 : MethodName := ⟨RJ2, "charAt", "([BI)C"⟩
abbrev cJ2_checkIndex_2214a : ByteArray := prog_15_method_91_code
def yJ2_checkIndex_2214a : MethodName := ⟨RJ2, "checkIndex", "(I[B)V"⟩
def RJ10 : String := "java/lang/System"
def TJ10 : u_T := fun k => match k with
  | _ => ("", "", "", false)
def tyJ10 : Nat → FieldType := fun k => match k with
  | _ => .int
abbrev wsJ100 : List Cond := u_ws RJ10 TJ10 0
theorem nmJ10 : ∀ a, a < 0 → ∀ b, b < 0 → a ≠ b → (TJ10 a).2.1 ≠ (TJ10 b).2.1 := by decide +kernel
theorem tyJ10_ok : ∀ k, k < 0 → parseFieldDescriptor (TJ10 k).2.2.1 = some (tyJ10 k) := by decide +kernel
def RJxfd54e : String := "java/lang/constant/Constable"
def TJxfd54e : u_T := fun k => match k with
  | _ => ("", "", "", false)
def tyJxfd54e : Nat → FieldType := fun k => match k with
  | _ => .int
abbrev wsJxfd54e0 : List Cond := u_ws RJxfd54e TJxfd54e 0
theorem nmJxfd54e : ∀ a, a < 0 → ∀ b, b < 0 → a ≠ b → (TJxfd54e a).2.1 ≠ (TJxfd54e b).2.1 := by decide +kernel
theorem tyJxfd54e_ok : ∀ k, k < 0 → parseFieldDescriptor (TJxfd54e k).2.2.1 = some (tyJxfd54e k) := by decide +kernel
def RJx3cf43 : String := "java/lang/constant/ConstantDesc"
def TJx3cf43 : u_T := fun k => match k with
  | _ => ("", "", "", false)
def tyJx3cf43 : Nat → FieldType := fun k => match k with
  | _ => .int
abbrev wsJx3cf430 : List Cond := u_ws RJx3cf43 TJx3cf43 0
theorem nmJx3cf43 : ∀ a, a < 0 → ∀ b, b < 0 → a ≠ b → (TJx3cf43 a).2.1 ≠ (TJx3cf43 b).2.1 := by decide +kernel
theorem tyJx3cf43_ok : ∀ k, k < 0 → parseFieldDescriptor (TJx3cf43 k).2.2.1 = some (tyJx3cf43 k) := by decide +kernel
def RJ7 : String := "java/util/Arrays"
def TJ7 : u_T := fun k => match k with
  | _ => ("", "", "", false)
def tyJ7 : Nat → FieldType := fun k => match k with
  | _ => .int
abbrev wsJ70 : List Cond := u_ws RJ7 TJ7 0
theorem nmJ7 : ∀ a, a < 0 → ∀ b, b < 0 → a ≠ b → (TJ7 a).2.1 ≠ (TJ7 b).2.1 := by decide +kernel
theorem tyJ7_ok : ∀ k, k < 0 → parseFieldDescriptor (TJ7 k).2.2.1 = some (tyJ7 k) := by decide +kernel
abbrev cJ7_fill_53178 : ByteArray := prog_17_method_103_code
def yJ7_fill_53178 : MethodName := ⟨RJ7, "fill", "([II)V"⟩
abbrev cJ7_copyOf_59c91 : ByteArray := prog_17_method_123_code
def yJ7_copyOf_59c91 : MethodName := ⟨RJ7, "copyOf", "([II)[I"⟩
def RJ3 : String := "jdk/internal/util/Preconditions"
def TJ3 : u_T := fun k => match k with
  | _ => ("", "", "", false)
def tyJ3 : Nat → FieldType := fun k => match k with
  | _ => .int
abbrev wsJ30 : List Cond := u_ws RJ3 TJ3 0
theorem nmJ3 : ∀ a, a < 0 → ∀ b, b < 0 → a ≠ b → (TJ3 a).2.1 ≠ (TJ3 b).2.1 := by decide +kernel
theorem tyJ3_ok : ∀ k, k < 0 → parseFieldDescriptor (TJ3 k).2.2.1 = some (tyJ3 k) := by decide +kernel
abbrev cJ3_checkIndex_8e157 : ByteArray := prog_18_method_11_code
def yJ3_checkIndex_8e157 : MethodName := ⟨RJ3, "checkIndex", "(IILjava/util/function/BiFunction;)I"⟩
def RL : String := "QuestionsInAnInnLaw"
abbrev cL_law : ByteArray := code
def yL_law : MethodName := ⟨RL, "law", "([I)Z"⟩
abbrev vwCl : List vw_C := [(RX0, TX0, 5), (RX1, TX1, 5), (RX2, TX2, 7), (RX3, TX3, 3), (RX4, TX4, 7), (RX5, TX5, 4), (RX6, TX6, 16), (RX7, TX7, 39)]
