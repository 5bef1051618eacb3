section
-- ===== PART A: goes FIRST, ahead of the names: the tables' words, and 'selects' of the private methods out of them =====
/-- a private method of a class that the tables say can be made, by its rows of tables_1 -/
def lw_okq (q : MethodName × Nat) : Prop := (q.1.cls ≠ "java/lang/invoke/MethodHandle" ∧ q.1.cls ≠ "java/lang/invoke/VarHandle") ∧ Cond.instantiable q.1.cls q.2 ∈ tables_1 ∧ Cond.privateMethod q.1 ∈ tables_1 ∧ Cond.instanceMethod q.1 ∈ tables_1
theorem lw_p0 : lw_okq (⟨"SentenceGym", "countReadings", "(III)I"⟩, 7) := ⟨⟨by decide +kernel, by decide +kernel⟩, List.mem_of_getElem? (i := 16) (by decide +kernel), List.mem_of_getElem? (i := 133) (by decide +kernel), List.mem_of_getElem? (i := 134) (by decide +kernel)⟩
theorem lw_p1 : lw_okq (⟨"SentenceGym$CountChart", "fill", "(LSentenceGym$Grammar;[II)V"⟩, 1) := ⟨⟨by decide +kernel, by decide +kernel⟩, List.mem_of_getElem? (i := 77) (by decide +kernel), List.mem_of_getElem? (i := 137) (by decide +kernel), List.mem_of_getElem? (i := 138) (by decide +kernel)⟩
theorem lw_p2 : lw_okq (⟨"SentenceGym$CountChart", "fillSpan", "(LSentenceGym$Grammar;[III)V"⟩, 1) := ⟨⟨by decide +kernel, by decide +kernel⟩, List.mem_of_getElem? (i := 77) (by decide +kernel), List.mem_of_getElem? (i := 141) (by decide +kernel), List.mem_of_getElem? (i := 142) (by decide +kernel)⟩
theorem lw_p3 : lw_okq (⟨"SentenceGym$Grammar", "countWord", "(I[I)V"⟩, 8) := ⟨⟨by decide +kernel, by decide +kernel⟩, List.mem_of_getElem? (i := 24) (by decide +kernel), List.mem_of_getElem? (i := 151) (by decide +kernel), List.mem_of_getElem? (i := 152) (by decide +kernel)⟩
theorem lw_p4 : lw_okq (⟨"SentenceGym$Grammar", "addJoined", "([I[I[I)V"⟩, 8) := ⟨⟨by decide +kernel, by decide +kernel⟩, List.mem_of_getElem? (i := 24) (by decide +kernel), List.mem_of_getElem? (i := 155) (by decide +kernel), List.mem_of_getElem? (i := 156) (by decide +kernel)⟩
theorem lw_p5 : lw_okq (⟨"SentenceGym$Grammar", "addJoinedWith", "(III[I[I)V"⟩, 8) := ⟨⟨by decide +kernel, by decide +kernel⟩, List.mem_of_getElem? (i := 24) (by decide +kernel), List.mem_of_getElem? (i := 159) (by decide +kernel), List.mem_of_getElem? (i := 160) (by decide +kernel)⟩
theorem lw_p6 : lw_okq (⟨"SentenceGym$CountChart", "countSpan", "(III)I"⟩, 1) := ⟨⟨by decide +kernel, by decide +kernel⟩, List.mem_of_getElem? (i := 77) (by decide +kernel), List.mem_of_getElem? (i := 163) (by decide +kernel), List.mem_of_getElem? (i := 164) (by decide +kernel)⟩
theorem lw_p7 : lw_okq (⟨"SentenceGym$PlainCounter", "countRow", "(LSentenceGym$Grammar;[III)I"⟩, 1) := ⟨⟨by decide +kernel, by decide +kernel⟩, List.mem_of_getElem? (i := 88) (by decide +kernel), List.mem_of_getElem? (i := 178) (by decide +kernel), List.mem_of_getElem? (i := 179) (by decide +kernel)⟩
theorem lw_p8 : lw_okq (⟨"SentenceGym$PlainCounter", "count", "(LSentenceGym$Grammar;[IIIII)V"⟩, 1) := ⟨⟨by decide +kernel, by decide +kernel⟩, List.mem_of_getElem? (i := 88) (by decide +kernel), List.mem_of_getElem? (i := 182) (by decide +kernel), List.mem_of_getElem? (i := 183) (by decide +kernel)⟩
theorem lw_p9 : lw_okq (⟨"SentenceGym$PartSets", "parse", "(LSentenceGym$Grammar;[III)V"⟩, 1) := ⟨⟨by decide +kernel, by decide +kernel⟩, List.mem_of_getElem? (i := 67) (by decide +kernel), List.mem_of_getElem? (i := 194) (by decide +kernel), List.mem_of_getElem? (i := 195) (by decide +kernel)⟩
theorem lw_p10 : lw_okq (⟨"SentenceGym$PartSets", "putWord", "(LSentenceGym$Grammar;II)V"⟩, 1) := ⟨⟨by decide +kernel, by decide +kernel⟩, List.mem_of_getElem? (i := 67) (by decide +kernel), List.mem_of_getElem? (i := 198) (by decide +kernel), List.mem_of_getElem? (i := 199) (by decide +kernel)⟩
theorem lw_p11 : lw_okq (⟨"SentenceGym$PartSets", "clearSpan", "(II)V"⟩, 1) := ⟨⟨by decide +kernel, by decide +kernel⟩, List.mem_of_getElem? (i := 67) (by decide +kernel), List.mem_of_getElem? (i := 202) (by decide +kernel), List.mem_of_getElem? (i := 203) (by decide +kernel)⟩
theorem lw_p12 : lw_okq (⟨"SentenceGym$PartSets", "allowWord", "(LSentenceGym$Grammar;II)V"⟩, 1) := ⟨⟨by decide +kernel, by decide +kernel⟩, List.mem_of_getElem? (i := 67) (by decide +kernel), List.mem_of_getElem? (i := 207) (by decide +kernel), List.mem_of_getElem? (i := 208) (by decide +kernel)⟩
theorem lw_p13 : lw_okq (⟨"SentenceGym$PartSets", "joinUpTo", "(LSentenceGym$Grammar;II)V"⟩, 1) := ⟨⟨by decide +kernel, by decide +kernel⟩, List.mem_of_getElem? (i := 67) (by decide +kernel), List.mem_of_getElem? (i := 211) (by decide +kernel), List.mem_of_getElem? (i := 212) (by decide +kernel)⟩
theorem lw_p14 : lw_okq (⟨"SentenceGym$PartSets", "join", "(LSentenceGym$Grammar;IIII)V"⟩, 1) := ⟨⟨by decide +kernel, by decide +kernel⟩, List.mem_of_getElem? (i := 67) (by decide +kernel), List.mem_of_getElem? (i := 215) (by decide +kernel), List.mem_of_getElem? (i := 216) (by decide +kernel)⟩
theorem lw_p15 : lw_okq (⟨"SentenceGym$Grammar", "pairsMade", "(III)I"⟩, 8) := ⟨⟨by decide +kernel, by decide +kernel⟩, List.mem_of_getElem? (i := 24) (by decide +kernel), List.mem_of_getElem? (i := 219) (by decide +kernel), List.mem_of_getElem? (i := 220) (by decide +kernel)⟩
def lw_privs_1 : List (MethodName × Nat) := [(⟨"SentenceGym", "countReadings", "(III)I"⟩, 7), (⟨"SentenceGym$CountChart", "fill", "(LSentenceGym$Grammar;[II)V"⟩, 1), (⟨"SentenceGym$CountChart", "fillSpan", "(LSentenceGym$Grammar;[III)V"⟩, 1), (⟨"SentenceGym$Grammar", "countWord", "(I[I)V"⟩, 8), (⟨"SentenceGym$Grammar", "addJoined", "([I[I[I)V"⟩, 8), (⟨"SentenceGym$Grammar", "addJoinedWith", "(III[I[I)V"⟩, 8), (⟨"SentenceGym$CountChart", "countSpan", "(III)I"⟩, 1), (⟨"SentenceGym$PlainCounter", "countRow", "(LSentenceGym$Grammar;[III)I"⟩, 1), (⟨"SentenceGym$PlainCounter", "count", "(LSentenceGym$Grammar;[IIIII)V"⟩, 1), (⟨"SentenceGym$PartSets", "parse", "(LSentenceGym$Grammar;[III)V"⟩, 1), (⟨"SentenceGym$PartSets", "putWord", "(LSentenceGym$Grammar;II)V"⟩, 1), (⟨"SentenceGym$PartSets", "clearSpan", "(II)V"⟩, 1), (⟨"SentenceGym$PartSets", "allowWord", "(LSentenceGym$Grammar;II)V"⟩, 1), (⟨"SentenceGym$PartSets", "joinUpTo", "(LSentenceGym$Grammar;II)V"⟩, 1), (⟨"SentenceGym$PartSets", "join", "(LSentenceGym$Grammar;IIII)V"⟩, 1), (⟨"SentenceGym$Grammar", "pairsMade", "(III)I"⟩, 8)]
theorem lw_r1 : ∀ q ∈ lw_privs_1, lw_okq q := List.forall_mem_cons.mpr ⟨lw_p0, List.forall_mem_cons.mpr ⟨lw_p1, List.forall_mem_cons.mpr ⟨lw_p2, List.forall_mem_cons.mpr ⟨lw_p3, List.forall_mem_cons.mpr ⟨lw_p4, List.forall_mem_cons.mpr ⟨lw_p5, List.forall_mem_cons.mpr ⟨lw_p6, List.forall_mem_cons.mpr ⟨lw_p7, List.forall_mem_cons.mpr ⟨lw_p8, List.forall_mem_cons.mpr ⟨lw_p9, List.forall_mem_cons.mpr ⟨lw_p10, List.forall_mem_cons.mpr ⟨lw_p11, List.forall_mem_cons.mpr ⟨lw_p12, List.forall_mem_cons.mpr ⟨lw_p13, List.forall_mem_cons.mpr ⟨lw_p14, List.forall_mem_cons.mpr ⟨lw_p15, fun _ h => absurd h List.not_mem_nil⟩⟩⟩⟩⟩⟩⟩⟩⟩⟩⟩⟩⟩⟩⟩⟩
theorem lw_p16 : lw_okq (⟨"SentenceGym$PartSets", "holdsSentence", "(I)Z"⟩, 1) := ⟨⟨by decide +kernel, by decide +kernel⟩, List.mem_of_getElem? (i := 67) (by decide +kernel), List.mem_of_getElem? (i := 226) (by decide +kernel), List.mem_of_getElem? (i := 227) (by decide +kernel)⟩
theorem lw_p17 : lw_okq (⟨"SentenceGym$PartSets", "pairsOf", "(III)I"⟩, 1) := ⟨⟨by decide +kernel, by decide +kernel⟩, List.mem_of_getElem? (i := 67) (by decide +kernel), List.mem_of_getElem? (i := 230) (by decide +kernel), List.mem_of_getElem? (i := 231) (by decide +kernel)⟩
theorem lw_p18 : lw_okq (⟨"SentenceGym", "isSentenceFreeAt", "(II)Z"⟩, 7) := ⟨⟨by decide +kernel, by decide +kernel⟩, List.mem_of_getElem? (i := 16) (by decide +kernel), List.mem_of_getElem? (i := 238) (by decide +kernel), List.mem_of_getElem? (i := 239) (by decide +kernel)⟩
theorem lw_p19 : lw_okq (⟨"SentenceGym$PartSets", "putAnyWord", "(LSentenceGym$Grammar;I)V"⟩, 1) := ⟨⟨by decide +kernel, by decide +kernel⟩, List.mem_of_getElem? (i := 67) (by decide +kernel), List.mem_of_getElem? (i := 242) (by decide +kernel), List.mem_of_getElem? (i := 243) (by decide +kernel)⟩
theorem lw_p20 : lw_okq (⟨"java/lang/Throwable", "fillInStackTrace", "(I)Ljava/lang/Throwable;"⟩, 6) := ⟨⟨by decide +kernel, by decide +kernel⟩, List.mem_of_getElem? (i := 301) (by decide +kernel), List.mem_of_getElem? (i := 299) (by decide +kernel), List.mem_of_getElem? (i := 300) (by decide +kernel)⟩
theorem lw_p21 : lw_okq (⟨"SentenceGym$Grammar", "defineWord", "(III)V"⟩, 8) := ⟨⟨by decide +kernel, by decide +kernel⟩, List.mem_of_getElem? (i := 24) (by decide +kernel), List.mem_of_getElem? (i := 350) (by decide +kernel), List.mem_of_getElem? (i := 351) (by decide +kernel)⟩
theorem lw_p22 : lw_okq (⟨"SentenceGym$Grammar", "defineRule", "(IIIII)V"⟩, 8) := ⟨⟨by decide +kernel, by decide +kernel⟩, List.mem_of_getElem? (i := 24) (by decide +kernel), List.mem_of_getElem? (i := 390) (by decide +kernel), List.mem_of_getElem? (i := 391) (by decide +kernel)⟩
theorem lw_p23 : lw_okq (⟨"SentenceGym", "isNoSpan", "(II)Z"⟩, 7) := ⟨⟨by decide +kernel, by decide +kernel⟩, List.mem_of_getElem? (i := 16) (by decide +kernel), List.mem_of_getElem? (i := 440) (by decide +kernel), List.mem_of_getElem? (i := 441) (by decide +kernel)⟩
theorem lw_p24 : lw_okq (⟨"SentenceGym", "rowsOfLength", "(I)I"⟩, 7) := ⟨⟨by decide +kernel, by decide +kernel⟩, List.mem_of_getElem? (i := 16) (by decide +kernel), List.mem_of_getElem? (i := 466) (by decide +kernel), List.mem_of_getElem? (i := 467) (by decide +kernel)⟩
theorem lw_p25 : lw_okq (⟨"SentenceGym", "makeSentences", "(II)I"⟩, 7) := ⟨⟨by decide +kernel, by decide +kernel⟩, List.mem_of_getElem? (i := 16) (by decide +kernel), List.mem_of_getElem? (i := 470) (by decide +kernel), List.mem_of_getElem? (i := 471) (by decide +kernel)⟩
theorem lw_p26 : lw_okq (⟨"SentenceGym", "clearTrial", "()V"⟩, 7) := ⟨⟨by decide +kernel, by decide +kernel⟩, List.mem_of_getElem? (i := 16) (by decide +kernel), List.mem_of_getElem? (i := 474) (by decide +kernel), List.mem_of_getElem? (i := 475) (by decide +kernel)⟩
theorem lw_p27 : lw_okq (⟨"SentenceGym", "nextTrial", "(I)I"⟩, 7) := ⟨⟨by decide +kernel, by decide +kernel⟩, List.mem_of_getElem? (i := 16) (by decide +kernel), List.mem_of_getElem? (i := 478) (by decide +kernel), List.mem_of_getElem? (i := 479) (by decide +kernel)⟩
theorem lw_p28 : lw_okq (⟨"SentenceGym", "trialAsDigits", "(I)I"⟩, 7) := ⟨⟨by decide +kernel, by decide +kernel⟩, List.mem_of_getElem? (i := 16) (by decide +kernel), List.mem_of_getElem? (i := 490) (by decide +kernel), List.mem_of_getElem? (i := 491) (by decide +kernel)⟩
theorem lw_p29 : lw_okq (⟨"SentenceGym", "isSentenceWith", "(II)Z"⟩, 7) := ⟨⟨by decide +kernel, by decide +kernel⟩, List.mem_of_getElem? (i := 16) (by decide +kernel), List.mem_of_getElem? (i := 508) (by decide +kernel), List.mem_of_getElem? (i := 509) (by decide +kernel)⟩
theorem lw_p30 : lw_okq (⟨"SentenceGymModel", "goes", "(ZZ)Z"⟩, 15) := ⟨⟨by decide +kernel, by decide +kernel⟩, List.mem_of_getElem? (i := 523) (by decide +kernel), List.mem_of_getElem? (i := 590) (by decide +kernel), List.mem_of_getElem? (i := 591) (by decide +kernel)⟩
theorem lw_p31 : lw_okq (⟨"SentenceGymModel", "isWord", "(I)Z"⟩, 15) := ⟨⟨by decide +kernel, by decide +kernel⟩, List.mem_of_getElem? (i := 523) (by decide +kernel), List.mem_of_getElem? (i := 598) (by decide +kernel), List.mem_of_getElem? (i := 599) (by decide +kernel)⟩
def lw_privs_2 : List (MethodName × Nat) := [(⟨"SentenceGym$PartSets", "holdsSentence", "(I)Z"⟩, 1), (⟨"SentenceGym$PartSets", "pairsOf", "(III)I"⟩, 1), (⟨"SentenceGym", "isSentenceFreeAt", "(II)Z"⟩, 7), (⟨"SentenceGym$PartSets", "putAnyWord", "(LSentenceGym$Grammar;I)V"⟩, 1), (⟨"java/lang/Throwable", "fillInStackTrace", "(I)Ljava/lang/Throwable;"⟩, 6), (⟨"SentenceGym$Grammar", "defineWord", "(III)V"⟩, 8), (⟨"SentenceGym$Grammar", "defineRule", "(IIIII)V"⟩, 8), (⟨"SentenceGym", "isNoSpan", "(II)Z"⟩, 7), (⟨"SentenceGym", "rowsOfLength", "(I)I"⟩, 7), (⟨"SentenceGym", "makeSentences", "(II)I"⟩, 7), (⟨"SentenceGym", "clearTrial", "()V"⟩, 7), (⟨"SentenceGym", "nextTrial", "(I)I"⟩, 7), (⟨"SentenceGym", "trialAsDigits", "(I)I"⟩, 7), (⟨"SentenceGym", "isSentenceWith", "(II)Z"⟩, 7), (⟨"SentenceGymModel", "goes", "(ZZ)Z"⟩, 15), (⟨"SentenceGymModel", "isWord", "(I)Z"⟩, 15)]
theorem lw_r2 : ∀ q ∈ lw_privs_2, lw_okq q := List.forall_mem_cons.mpr ⟨lw_p16, List.forall_mem_cons.mpr ⟨lw_p17, List.forall_mem_cons.mpr ⟨lw_p18, List.forall_mem_cons.mpr ⟨lw_p19, List.forall_mem_cons.mpr ⟨lw_p20, List.forall_mem_cons.mpr ⟨lw_p21, List.forall_mem_cons.mpr ⟨lw_p22, List.forall_mem_cons.mpr ⟨lw_p23, List.forall_mem_cons.mpr ⟨lw_p24, List.forall_mem_cons.mpr ⟨lw_p25, List.forall_mem_cons.mpr ⟨lw_p26, List.forall_mem_cons.mpr ⟨lw_p27, List.forall_mem_cons.mpr ⟨lw_p28, List.forall_mem_cons.mpr ⟨lw_p29, List.forall_mem_cons.mpr ⟨lw_p30, List.forall_mem_cons.mpr ⟨lw_p31, fun _ h => absurd h List.not_mem_nil⟩⟩⟩⟩⟩⟩⟩⟩⟩⟩⟩⟩⟩⟩⟩⟩
theorem lw_p32 : lw_okq (⟨"SentenceGymModel", "isPlace", "(I)Z"⟩, 15) := ⟨⟨by decide +kernel, by decide +kernel⟩, List.mem_of_getElem? (i := 523) (by decide +kernel), List.mem_of_getElem? (i := 621) (by decide +kernel), List.mem_of_getElem? (i := 622) (by decide +kernel)⟩
theorem lw_p33 : lw_okq (⟨"SentenceGymModel", "countOf", "(III)I"⟩, 15) := ⟨⟨by decide +kernel, by decide +kernel⟩, List.mem_of_getElem? (i := 523) (by decide +kernel), List.mem_of_getElem? (i := 641) (by decide +kernel), List.mem_of_getElem? (i := 642) (by decide +kernel)⟩
theorem lw_p34 : lw_okq (⟨"SentenceGymModel", "takes", "()V"⟩, 15) := ⟨⟨by decide +kernel, by decide +kernel⟩, List.mem_of_getElem? (i := 523) (by decide +kernel), List.mem_of_getElem? (i := 645) (by decide +kernel), List.mem_of_getElem? (i := 646) (by decide +kernel)⟩
theorem lw_p35 : lw_okq (⟨"SentenceGymModel", "counts", "()V"⟩, 15) := ⟨⟨by decide +kernel, by decide +kernel⟩, List.mem_of_getElem? (i := 523) (by decide +kernel), List.mem_of_getElem? (i := 649) (by decide +kernel), List.mem_of_getElem? (i := 650) (by decide +kernel)⟩
theorem lw_p36 : lw_okq (⟨"SentenceGymModel", "adds", "(IIII)V"⟩, 15) := ⟨⟨by decide +kernel, by decide +kernel⟩, List.mem_of_getElem? (i := 523) (by decide +kernel), List.mem_of_getElem? (i := 656) (by decide +kernel), List.mem_of_getElem? (i := 657) (by decide +kernel)⟩
theorem lw_p37 : lw_okq (⟨"SentenceGymModel", "makesBoth", "(III)I"⟩, 15) := ⟨⟨by decide +kernel, by decide +kernel⟩, List.mem_of_getElem? (i := 523) (by decide +kernel), List.mem_of_getElem? (i := 660) (by decide +kernel), List.mem_of_getElem? (i := 661) (by decide +kernel)⟩
theorem lw_p38 : lw_okq (⟨"SentenceGymModel", "isPart", "(III)Z"⟩, 15) := ⟨⟨by decide +kernel, by decide +kernel⟩, List.mem_of_getElem? (i := 523) (by decide +kernel), List.mem_of_getElem? (i := 678) (by decide +kernel), List.mem_of_getElem? (i := 679) (by decide +kernel)⟩
theorem lw_p39 : lw_okq (⟨"SentenceGymModel", "parses", "(I)V"⟩, 15) := ⟨⟨by decide +kernel, by decide +kernel⟩, List.mem_of_getElem? (i := 523) (by decide +kernel), List.mem_of_getElem? (i := 686) (by decide +kernel), List.mem_of_getElem? (i := 687) (by decide +kernel)⟩
theorem lw_p40 : lw_okq (⟨"SentenceGymModel", "together", "(III)I"⟩, 15) := ⟨⟨by decide +kernel, by decide +kernel⟩, List.mem_of_getElem? (i := 523) (by decide +kernel), List.mem_of_getElem? (i := 690) (by decide +kernel), List.mem_of_getElem? (i := 691) (by decide +kernel)⟩
theorem lw_p41 : lw_okq (⟨"SentenceGymModel", "sentencesOf", "(I)I"⟩, 15) := ⟨⟨by decide +kernel, by decide +kernel⟩, List.mem_of_getElem? (i := 523) (by decide +kernel), List.mem_of_getElem? (i := 705) (by decide +kernel), List.mem_of_getElem? (i := 706) (by decide +kernel)⟩
theorem lw_p42 : lw_okq (⟨"SentenceGymModel", "rows", "(I)I"⟩, 15) := ⟨⟨by decide +kernel, by decide +kernel⟩, List.mem_of_getElem? (i := 523) (by decide +kernel), List.mem_of_getElem? (i := 709) (by decide +kernel), List.mem_of_getElem? (i := 710) (by decide +kernel)⟩
theorem lw_p43 : lw_okq (⟨"SentenceGymModel", "lays", "(II)V"⟩, 15) := ⟨⟨by decide +kernel, by decide +kernel⟩, List.mem_of_getElem? (i := 523) (by decide +kernel), List.mem_of_getElem? (i := 713) (by decide +kernel), List.mem_of_getElem? (i := 714) (by decide +kernel)⟩
theorem lw_p44 : lw_okq (⟨"SentenceGymModel", "isSentence", "()Z"⟩, 15) := ⟨⟨by decide +kernel, by decide +kernel⟩, List.mem_of_getElem? (i := 523) (by decide +kernel), List.mem_of_getElem? (i := 717) (by decide +kernel), List.mem_of_getElem? (i := 718) (by decide +kernel)⟩
def lw_privs_3 : List (MethodName × Nat) := [(⟨"SentenceGymModel", "isPlace", "(I)Z"⟩, 15), (⟨"SentenceGymModel", "countOf", "(III)I"⟩, 15), (⟨"SentenceGymModel", "takes", "()V"⟩, 15), (⟨"SentenceGymModel", "counts", "()V"⟩, 15), (⟨"SentenceGymModel", "adds", "(IIII)V"⟩, 15), (⟨"SentenceGymModel", "makesBoth", "(III)I"⟩, 15), (⟨"SentenceGymModel", "isPart", "(III)Z"⟩, 15), (⟨"SentenceGymModel", "parses", "(I)V"⟩, 15), (⟨"SentenceGymModel", "together", "(III)I"⟩, 15), (⟨"SentenceGymModel", "sentencesOf", "(I)I"⟩, 15), (⟨"SentenceGymModel", "rows", "(I)I"⟩, 15), (⟨"SentenceGymModel", "lays", "(II)V"⟩, 15), (⟨"SentenceGymModel", "isSentence", "()Z"⟩, 15)]
theorem lw_r3 : ∀ q ∈ lw_privs_3, lw_okq q := List.forall_mem_cons.mpr ⟨lw_p32, List.forall_mem_cons.mpr ⟨lw_p33, List.forall_mem_cons.mpr ⟨lw_p34, List.forall_mem_cons.mpr ⟨lw_p35, List.forall_mem_cons.mpr ⟨lw_p36, List.forall_mem_cons.mpr ⟨lw_p37, List.forall_mem_cons.mpr ⟨lw_p38, List.forall_mem_cons.mpr ⟨lw_p39, List.forall_mem_cons.mpr ⟨lw_p40, List.forall_mem_cons.mpr ⟨lw_p41, List.forall_mem_cons.mpr ⟨lw_p42, List.forall_mem_cons.mpr ⟨lw_p43, List.forall_mem_cons.mpr ⟨lw_p44, fun _ h => absurd h List.not_mem_nil⟩⟩⟩⟩⟩⟩⟩⟩⟩⟩⟩⟩⟩
def lw_privs : List (MethodName × Nat) := lw_privs_1 ++ (lw_privs_2 ++ (lw_privs_3))
def lw_tbl : List Cond := k2_sels lw_privs ++ tables_1
theorem lw_privs_ok : ∀ q ∈ lw_privs, lw_okq q := by
  show ∀ q ∈ lw_privs_1 ++ (lw_privs_2 ++ (lw_privs_3)), lw_okq q
  exact List.forall_mem_append.mpr ⟨lw_r1, List.forall_mem_append.mpr ⟨lw_r2, lw_r3⟩⟩
/-- the streams that the claim lets the run draw from -/
abbrev lw_cs : List Choice := [Jvm.Choice.named "NaN.bits"]
theorem lw_bits : nanBits ∈ lw_cs := by first | decide | exact List.mem_cons_self | simp [lw_cs, nanBits]
/-! ===== BEGIN words of one list among another's, by their places ===== -/
theorem goodIn_r {big : List Cond} (ws : List Cond) (ps : List Nat) (hp : ws = ps.filterMap (fun i => big[i]?)) (h : ws.all goodWord = true) : GoodIn big ws := by
  intro w hw
  have h1 := List.all_eq_true.mp h w hw
  rw [hp] at hw
  obtain ⟨i, -, hi⟩ := List.mem_filterMap.mp hw
  have hm : w ∈ big := by first | exact List.mem_of_getElem? hi | exact List.getElem?_mem hi
  exact ⟨hm, good_of_word h1⟩
theorem goodIn_app {big a b : List Cond} (ha : GoodIn big a) (hb : GoodIn big b) : GoodIn big (a ++ b) := fun w h => (List.mem_append.mp h).elim (ha w) (hb w)
theorem goodIn_ca {big a b : List Cond} {c : Cond} (ha : GoodIn big (c :: a)) (hb : GoodIn big b) : GoodIn big (c :: (a ++ b)) := fun w h => (List.mem_cons.mp h).elim (fun e => ha w (List.mem_cons.mpr (Or.inl e))) (fun h => (List.mem_append.mp h).elim (fun h => ha w (List.mem_cons.mpr (Or.inr h))) (hb w))
theorem goodIn_sub {big ws : List Cond} (hm : ∀ w ∈ ws, w ∈ big) (h : ws.all goodWord = true) : GoodIn big ws := fun w hw => ⟨hm w hw, good_of_word (List.all_eq_true.mp h w hw)⟩
/-! ===== END ===== -/

/-! ===== BEGIN new T[n][m]: the outer array a place, the inner ones among the pooled ===== -/
/-- f, but v at every address of l -/
def vr_up {α : Type} (f : Nat → α) (l : List Nat) (v : α) : Nat → α := fun a => if a ∈ l then v else f a
theorem vr_up_in {α : Type} {f : Nat → α} {l : List Nat} {v : α} {a : Nat} (h : a ∈ l) : vr_up f l v a = v := if_pos h
theorem vr_up_ne {α : Type} {f : Nat → α} {l : List Nat} {v : α} {a : Nat} (h : a ∉ l) : vr_up f l v a = f a := if_neg h
theorem vr_rows {L l : List Nat} {f : Nat → va_E} {e : va_E} (h : ∀ a, a ∈ l → a ∉ L) : va_pl L f ++ l.map (fun a => (a, e)) = va_pl (L ++ l) (vr_up f l e) := by
  unfold va_pl
  rw [List.map_append]
  congr 1
  · apply List.map_congr_left
    intro a ha
    rw [vr_up_ne (fun q => h a q ha)]
  · apply List.map_congr_left
    intro a ha
    rw [vr_up_in ha]
theorem vr_lay {X rows : va_W} {x : Nat × va_E} {pl : va_W} {D : va_G} {cl : List vw_C} {H : Heap} (hP : va_P D cl (((X ++ pl) ++ [x]) ++ rows) H) : va_P D cl ((X ++ [x]) ++ (pl ++ rows)) H := by
  rw [List.append_assoc (X ++ pl)] at hP
  have h := va_P.swap hP
  rw [← List.append_assoc X] at h
  have h2 := va_P.swap h
  rw [List.append_assoc (X ++ [x])] at h2
  exact h2
theorem vr_layD {X rows : va_W} {x : Nat × va_E} {pl : va_W} {A : Nat → Prop} (hD : va_D A (((X ++ pl) ++ [x]) ++ rows)) : va_D A ((X ++ [x]) ++ (pl ++ rows)) := by
  rw [List.append_assoc (X ++ pl)] at hD
  have h := va_D.swap hD
  rw [← List.append_assoc X] at h
  have h2 := va_D.swap h
  rw [List.append_assoc (X ++ [x])] at h2
  exact h2
theorem vr_outer (c : ClassId) (N h0 : Nat) : ∀ i : Nat, Jvm.Free.Multi.outerC c N h0 i = arrV c N (fun j => va_rf (if j < i then some (h0 + 1 + j) else none))
  | 0 => by
    show ({ cls := c, slots := Array.replicate N .null, vm := .none } : Cell) = _
    rw [arrV_new]
    refine congrArg (arrV c N) (funext fun j => ?_)
    simp [va_rf]
  | i + 1 => by
    show (Jvm.Free.Multi.outerC c N h0 i).setSlot i (.ref (h0 + 1 + i)) = _
    rw [vr_outer c N h0 i, arrV_store]
    refine congrArg (arrV c N) (funext fun j => ?_)
    by_cases e : j = i
    · subst e
      simp [updV, va_rf]
    · by_cases h : j < i
      · simp [updV, e, h, Nat.lt_succ_of_lt h]
      · simp [updV, e, h, show ¬ j < i + 1 by omega]
/-- what the printed row va_mna asks of the tables (its printed text names it, no printed text lays it) -/
def va_AOA (t : FieldType) (U : State) : Prop := (Cond.arrayOver (.array t)).before #[] U = true
theorem va_AOA.of {t : FieldType} {A : Array Value} {U : State} (h : (Cond.arrayOver (.array t)).before A U = true) : va_AOA t U := h
theorem va_AOA.use {t : FieldType} {A : Array Value} {U : State} (h : va_AOA t U) : (Cond.arrayOver (.array t)).before A U = true := h
section VGM
variable {p : Program} {l : Launch} {e : Env} {R : Room} {s : State} {m : MethodId} {args : Array Value} {below : List Frame} {meth : Method} {c : Code} {H : Heap} {locs : List Loc} {cells slots : Nat} {Q : State → Prop}
variable {cc : ByteArray} {pc : Nat} {ls : Array Slot} {rest : List Value} {D : va_G} {cl : List vw_C} {A : Nat → Prop} {a : Nat} {tys : List (ClassId × FieldType)} {ws : va_W} {H0 : Heap}
theorem va_mna {X : va_W} {L : List Nat} {f : Nat → va_E} {cc : ByteArray} (hexec : p.tables.exec = Jvm.exec) (hb : c.code = cc) {own : String} {index : Nat} {ty : FieldType} {cy : ClassId} (hown : s.vm.findClass own = some m.cls) (hclink : (Cond.classLink own index ("[" ++ (FieldType.array ty).toString)).before args s = true) (hover : va_AOA ty s) (harr : (Cond.arrayClass ty).before args s = true) (hcy : s.vm.findClass (FieldType.array ty).toString = some cy)
    (hK : va_K D cl tys s) (hP : va_P D cl (X ++ va_pl L f) H) (hD : va_D A (X ++ va_pl L f)) (hS : va_S A H0 H locs) (hA : ∀ q, H0.size ≤ q → A q) {n k : Int32} {N' K' : Nat} {z : vp_A} (hn : ¬ n < 0) (hk : ¬ k < 0) (hN : n.toNatClampNeg = N') (hM : k.toNatClampNeg = K')
    (hb1 : N' * 4 ≤ 536870912) (hb2 : K' * componentBytes ty ≤ 536870912) (hb3 : K' ≤ 536870912) (hdf : fits ty (defaultValue ty) = true) (hdd : (defaultValue ty).isDefault = true) (hcells : cells + (1 + N') ≤ R.cells) (hslots : slots + (N' + N' * K') ≤ R.slots) (hz : ∀ c : ClassId, Jvm.Free.Multi.innerC c K' (defaultValue ty) = vp_cell c z) (hdg : decode cc pc = .ok (.multianewarray index 2, 4))
    (kk : ∀ (q : Nat) (r : Nat → Nat) (cA : ClassId) (H1 : Heap), (∀ i j : Nat, i < N' → j < N' → r i = r j → i = j) → (∀ i : Nat, i < N' → r i ∉ L) → va_K D cl (tys ++ [(cA, .array ty)]) s →
      va_P D cl ((X ++ [(q, .inl (cA, N', .inr (.inr (.inr (.inr (fun i => if i < N' then some (r i) else none))))))]) ++ va_pl (L ++ (List.range N').map r) (vr_up f ((List.range N').map r) (.inl (cy, z)))) H1 → va_D A ((X ++ [(q, .inl (cA, N', .inr (.inr (.inr (.inr (fun i => if i < N' then some (r i) else none))))))]) ++ va_pl (L ++ (List.range N').map r) (vr_up f ((List.range N').map r) (.inl (cy, z)))) → va_S A H0 H1 locs →
      W p l e R s m args below meth c H1 locs (cells + 1 + N') (slots + N' + N' * K') Q (F0 m (pc + 4) ls (.ref q :: rest))) : W p l e R s m args below meth c H locs cells slots Q (F0 m pc ls (.int k :: .int n :: rest)) := by
  subst hN
  subst hM
  intro T hT Xs
  obtain ⟨vm₁, cA, comp, -, fA, fC, hO, -, X', step⟩ := Xs.multianewarray2F hexec hown hclink (va_AOA.use hover) harr (g := F0 m pc ls (.int k :: .int n :: rest)) rfl (by rw [hb]; exact hdg) rfl hn hk hb1 hb2 hb3 hdf hdd hcells hslots
  have ec : some cy = some comp := hcy.symm.trans fC
  cases ec
  generalize hF : Jvm.Free.Multi.fill (T.setVm vm₁) cA cy n.toNatClampNeg k.toNatClampNeg (defaultValue ty) n.toNatClampNeg = F at X' step
  have hTh : (T.setVm vm₁).heap = H := hT
  obtain ⟨f1, f2, -, -⟩ := Jvm.Free.Multi.fill_facts (T.setVm vm₁) cA cy n.toNatClampNeg k.toNatClampNeg (defaultValue ty) n.toNatClampNeg
  rw [hF, hTh] at f1 f2
  have hold : ∀ x : Nat, x < H.size → F.heap[x]? = H[x]? := fun x hx => by
    have := Jvm.Free.Multi.fill_old (T.setVm vm₁) cA cy n.toNatClampNeg k.toNatClampNeg (defaultValue ty) (a := x) (by rw [hTh]; exact hx) n.toNatClampNeg
    rw [hF, hTh] at this
    exact this
  have hrow : ∀ j : Nat, j < n.toNatClampNeg → F.heap[H.size + 1 + j]? = some (vp_cell cy z) := fun j hj => by
    have := Jvm.Free.Multi.fill_inner (T.setVm vm₁) cA cy n.toNatClampNeg k.toNatClampNeg (defaultValue ty) n.toNatClampNeg j hj
    rw [hF, hTh, hz] at this
    exact this
  have hout : Jvm.Free.Multi.outerC cA n.toNatClampNeg H.size n.toNatClampNeg = vp_cell cA (n.toNatClampNeg, .inr (.inr (.inr (.inr (fun i => if i < n.toNatClampNeg then some (H.size + 1 + i) else none))))) := by
    rw [vp_cell_q]
    exact vr_outer cA n.toNatClampNeg H.size n.toNatClampNeg
  rw [hout] at f2
  have hlt : ∀ a, a ∈ L → a < H.size := fun a ha => by
    obtain ⟨k9, hk9⟩ := va_pl_get (X := X) (f := f) ha
    exact (hP k9 _ hk9).lt
  have hnl : ∀ i : Nat, i < n.toNatClampNeg → H.size + 1 + i ∉ L := fun i _ h => by
    have := hlt _ h
    omega
  have hnm : ∀ a, a ∈ (List.range n.toNatClampNeg).map (fun i => H.size + 1 + i) → a ∉ L := fun a ha h => by
    obtain ⟨i, -, rfl⟩ := List.mem_map.mp ha
    have := hlt _ h
    omega
  have hP0 : va_P D cl (X ++ va_pl L f) F.heap := hP.kept (fun k9 x hx => hold x.1 ((hP k9 x hx).lt))
  have hP1 : va_P D cl ((X ++ va_pl L f) ++ [(H.size, .inl (cA, n.toNatClampNeg, .inr (.inr (.inr (.inr (fun i => if i < n.toNatClampNeg then some (H.size + 1 + i) else none))))))]) F.heap := hP0.app (fun k9 x hx => by
    have h0 : k9 < 1 := (List.getElem?_eq_some_iff.mp hx).1
    rw [show k9 = 0 by omega] at hx
    cases hx
    exact f2)
  have hP2 : va_P D cl (((X ++ va_pl L f) ++ [(H.size, .inl (cA, n.toNatClampNeg, .inr (.inr (.inr (.inr (fun i => if i < n.toNatClampNeg then some (H.size + 1 + i) else none))))))]) ++ ((List.range n.toNatClampNeg).map (fun i => H.size + 1 + i)).map (fun a => (a, .inl (cy, z)))) F.heap := hP1.app (fun k9 x hx => by
    obtain ⟨a, ha, rfl⟩ := List.mem_map.mp (List.mem_of_getElem? hx)
    obtain ⟨i, hi, rfl⟩ := List.mem_map.mp ha
    exact hrow i (List.mem_range.mp hi))
  have hD2 : va_D A (((X ++ va_pl L f) ++ [(H.size, .inl (cA, n.toNatClampNeg, .inr (.inr (.inr (.inr (fun i => if i < n.toNatClampNeg then some (H.size + 1 + i) else none))))))]) ++ ((List.range n.toNatClampNeg).map (fun i => H.size + 1 + i)).map (fun a => (a, .inl (cy, z)))) := by
    have hD1 := hD.push (e := .inl (cA, n.toNatClampNeg, .inr (.inr (.inr (.inr (fun i => if i < n.toNatClampNeg then some (H.size + 1 + i) else none)))))) hP rfl (hA _ hS.1)
    generalize hW1 : (X ++ va_pl L f) ++ [(H.size, .inl (cA, n.toNatClampNeg, .inr (.inr (.inr (.inr (fun i => if i < n.toNatClampNeg then some (H.size + 1 + i) else none))))))] = W1 at hD1 hP1 ⊢
    have hle : ∀ (k9 : Nat) (x : Nat × va_E), W1[k9]? = some x → x.1 ≤ H.size := fun k9 x hx => by
      rw [← hW1] at hx
      by_cases hl : k9 < (X ++ va_pl L f).length
      · rw [List.getElem?_append_left hl] at hx
        exact Nat.le_of_lt ((hP k9 x hx).lt)
      · rw [List.getElem?_append_right (by omega)] at hx
        have h0 : k9 - (X ++ va_pl L f).length < 1 := (List.getElem?_eq_some_iff.mp hx).1
        rw [show k9 - (X ++ va_pl L f).length = 0 by omega] at hx
        cases hx
        exact Nat.le_refl _
    have hr : ∀ (k9 : Nat) (x : Nat × va_E), (((List.range n.toNatClampNeg).map (fun i => H.size + 1 + i)).map (fun a => ((a, .inl (cy, z)) : Nat × va_E)))[k9]? = some x → x.1 = H.size + 1 + k9 := fun k9 x hx => by
      rw [List.getElem?_map, List.getElem?_map] at hx
      by_cases h9 : k9 < n.toNatClampNeg
      · rw [List.getElem?_range h9] at hx
        cases hx
        rfl
      · have hn0 : (List.range n.toNatClampNeg)[k9]? = none := List.getElem?_eq_none (by rw [List.length_range]; omega)
        rw [hn0] at hx
        cases hx
    refine ⟨fun i j x y hi hj hxy => ?_, fun k9 x hx => ?_⟩
    · by_cases h1 : i < W1.length <;> by_cases h2 : j < W1.length
      · rw [List.getElem?_append_left h1] at hi
        rw [List.getElem?_append_left h2] at hj
        exact hD1.1 i j x y hi hj hxy
      · rw [List.getElem?_append_left h1] at hi
        rw [List.getElem?_append_right (by omega)] at hj
        have := hle _ _ hi
        have := hr _ _ hj
        omega
      · rw [List.getElem?_append_right (by omega)] at hi
        rw [List.getElem?_append_left h2] at hj
        have := hle _ _ hj
        have := hr _ _ hi
        omega
      · rw [List.getElem?_append_right (by omega)] at hi hj
        have := hr _ _ hi
        have := hr _ _ hj
        omega
    · by_cases h1 : k9 < W1.length
      · rw [List.getElem?_append_left h1] at hx
        exact hD1.2 k9 x hx
      · rw [List.getElem?_append_right (by omega)] at hx
        have := hr _ _ hx
        exact hA _ (by have := hS.1; omega)
  have hAr : ArrOfT s cA (.array ty) := fun N9 z9 => by
    obtain ⟨-, k9, hk9, cm9, hkk9⟩ := (hO 0 0 0).1
    exact ⟨(fun q hq => by cases hq), k9, hk9, cm9, hkk9⟩
  have hK2 : va_K D cl (tys ++ [(cA, .array ty)]) s := ⟨hK.1, fun k9 x hx => by
    by_cases hl : k9 < tys.length
    · rw [List.getElem?_append_left hl] at hx
      exact hK.2 k9 x hx
    · rw [List.getElem?_append_right (by omega)] at hx
      have h0 : k9 - tys.length < 1 := (List.getElem?_eq_some_iff.mp hx).1
      rw [show k9 - tys.length = 0 by omega] at hx
      cases hx
      exact ⟨hAr, fA⟩⟩
  obtain ⟨t, a1, b1⟩ := kk H.size (fun i => H.size + 1 + i) cA F.heap (fun i j _ _ h => by have h9 : H.size + 1 + i = H.size + 1 + j := h; omega) hnl hK2 (by rw [← vr_rows hnm]; exact vr_lay hP2) (by rw [← vr_rows hnm]; exact vr_layD hD2) ⟨by rw [f1]; have := hS.1; omega, fun x h1 h2 => (hold x (Nat.lt_of_lt_of_le h1 hS.1)).trans (hS.2.1 x h1 h2), hS.2.2⟩ F rfl X'
  refine ⟨t, step t ?_, b1⟩
  have e : T.heap.size = H.size := by rw [hT]
  rw [e]
  exact a1
end VGM
/-! ===== END ===== -/

/-! ===== BEGIN exceptions that leave a method, and their catching by the caller (launches without stack traces) ===== -/
section VXA
/-! The laws vx_back, vx_callV, vx_callS, vx_callSW, vx_throw0, vx_throwS follow proofs of the library, with one case more: JvmDerived/Free/Laws.lean (Back.of_free), Shelf42/LK1.lean (callV, callS), Shelf/KitTraced.lean (throwNew0V, throwNewS). -/
/-- where a method has thrown q: the class by its name, the cell, what was written, the world -/
def vx_T (XC : String → State → State → Prop) (st : State) (q : Addr) (t : State) (mc ms : Nat) (free : Addr → Prop) : Prop :=
  ∃ (E : String) (ce : Cell) (L : List Loc), XC E st t ∧ t.heap[q]? = some ce ∧ ce.vm = .none ∧ st.vm.findClass E = some ce.cls ∧ st.WarmedH t.vm ∧ st.sameButNew ({ t with vm := st.vm } : State) L mc ms ∧ ∀ z ∈ L, free z.base
def vx_Q (Qc : Array Value → State → Outcome → State → Prop) (XC : String → State → State → Prop) (mc ms : Nat) (free : Addr → Prop) : Array Value → State → Outcome → State → Prop := fun a st o t =>
  (Qc a st o t ∧ ∃ L, FrameEnd st o t L mc ms ∧ ∀ q ∈ L, free q.base) ∨ ∃ q, o = .threw q ∧ vx_T XC st q t mc ms free
/-- a callee that returns or throws -/
def vx_Met (l : Launch) (y : MethodName) (ws : List Cond) (rm : Room) (Pc : Array Value → State → Prop) (Qc : Array Value → State → Outcome → State → Prop) (XC : String → State → State → Prop) (mc ms : Nat) (free : Addr → Prop) : Prop :=
  MetFree l y (headSpec ws rm) Pc (fun _ _ _ _ _ => True) (vx_Q Qc XC mc ms free)
def vx_Post (XC : String → State → State → Prop) (mc ms : Nat) (free : Addr → Prop) : Pt → Array Value → Addr → Pt → Prop := fun A a q B =>
  ∃ (g : JFrame) (mk : MethodId) (t : State) (L : List Loc) (E : String) (ce : Cell), B.U.heap = t.heap ∧ B.U.vm = t.vm ∧ XC E (A.U.calling g mk a) t ∧ t.heap[q]? = some ce ∧ ce.vm = .none ∧ A.U.vm.findClass E = some ce.cls ∧ B.locs = A.locs ++ L ∧ (∀ z ∈ L, free z.base) ∧ B.cells = A.cells + mc ∧ B.slots = A.slots + ms
def vx_Back (l : Launch) (R : Room) (p : Program) (e : Env) (below : List Frame) (s : State) (sargs : Array Value) (y : MethodName) (len W9 : Nat)
    (Pre : Pt → Array Value → Prop) (Post : Pt → Array Value → Option Value → Pt → Prop) (PostX : Pt → Array Value → Addr → Pt → Prop) : Prop :=
  ∀ (m : MethodId) (meth : Method) (c : Code) (A : Pt) (g : JFrame) (ig : Instr) (mk : MethodId) (a : Array Value),
    Stand p l e R s m sargs below meth c A.U A.locs A.cells A.slots → g.method = m → g.locals.size = c.maxLocals → decode c.code g.pc = .ok (ig, len) →
    2 * g.monitorRoom + (g.stack.map fun v => v.category).sum ≤ W9 → A.U.methodNamed? y = some mk → Pre A a →
    (∃ (v : Option Value) (B : Pt), Stand p l e R s m sargs below meth c B.U B.locs B.cells B.slots ∧ Post A a v B ∧
      Steps p.tables e below (doInvoke e (A.U.setTop g) [] mk a).1 (B.U.setTop { g with pc := g.pc + len, stack := v.toList ++ g.stack })) ∨
    (∃ (q : Addr) (B : Pt), Stand p l e R s m sargs below meth c B.U B.locs B.cells B.slots ∧ PostX A a q B ∧
      Steps p.tables e below (doInvoke e (A.U.setTop g) [] mk a).1 ((B.U.setTop g).pushFrame (.throwing q)))
section Payer
variable {l : Launch} {R : Room} {p : Program} {e : Env} {below : List Frame} {s : State} {sargs : Array Value} {y : MethodName} {len W9 : Nat}
theorem vx_back {ws : List Cond} {rm : Room} {Pc : Array Value → State → Prop} {Qc : Array Value → State → Outcome → State → Prop} {XC : String → State → State → Prop} {mc ms : Nat} {free : Addr → Prop} {bytes : ByteArray} {maxL : Nat} {ret : Option FieldType}
    (hM : vx_Met l y ws rm Pc Qc XC mc ms free) (hblind : FrameBlind Pc) (hrc : rm.cells = mc) (hrs : rm.slots = ms)
    (hframes : rm.frames + 1 ≤ R.frames) (hlocals : W9 + (maxL + 11) + rm.locals ≤ R.locals)
    (hws : ∀ w ∈ ws, ∀ a' U, s.WarmedH U.vm → w.before a' U = true) (hcode : Cond.code y bytes maxL ret ∈ ws) (hinit : ∀ a' U, s.WarmedH U.vm → (Cond.initialized y.cls).before a' U = true) :
    vx_Back l R p e below s sargs y len W9 (PreOf R mc ms Pc) (PostOf Qc mc ms free) (vx_Post XC mc ms free) := by
  intro m meth c A g ig mk a X hg hsize hdg hW hn hp
  have h1 : (headSpec ws rm).pre.before a A.U = true := atoms_intro fun w hw => hws w hw _ _ X.warmed
  have h2 : (Cond.code y bytes maxL ret).before a A.U = true := hws _ hcode _ _ X.warmed
  have h3 : (Cond.initialized y.cls).before a A.U = true := hinit _ _ X.warmed
  have h4 : A.cells + (headSpec ws rm).room.cells ≤ R.cells := by rw [show (headSpec ws rm).room.cells = mc from hrc]; exact hp.1
  have h5 : A.slots + (headSpec ws rm).room.slots ≤ R.slots := by rw [show (headSpec ws rm).room.slots = ms from hrs]; exact hp.2.1
  have hPc : Pc a (A.U.calling g mk a) := hblind _ _ _ _ hp.2.2
  obtain ⟨U, Ls, c0, s0⟩ := A
  dsimp only [Pt.U, Pt.locs, Pt.cells, Pt.slots] at h1 h2 h3 h4 h5 X hn hPc ⊢
  obtain ⟨methY, cY, hmY, hcY, -, hlY, -, -, -, -⟩ := Cond.code_spec hn h2
  obtain ⟨kY, hkY, -⟩ := className_of_methodNamed hn
  have hinitY : kY.init = .initialized := Cond.initialized_spec (findClass_of_methodNamed hn) hkY h3
  have h : At U g.method c below := by rw [hg]; exact X.here
  have hlocals9 : W9 + (maxL + 11) + (headSpec ws rm).room.locals ≤ R.locals := hlocals
  have happ : (headSpec ws rm).appliesLoose y e.platform (U.calling g mk a) = true :=
    Spec.appliesLoose_calling (g := g) h hdg hn hkY hinitY
      (X.room_calling (g := g) (R' := (headSpec ws rm).room) hsize hmY hcY hframes (by rw [hlY]; omega) h4 h5) h1
  obtain ⟨mid, hmid⟩ := h.above
  have hfr : (U.setTop g).frames = (.java g :: mid) ++ below := by rw [State.frames_setTop' g h.top, hmid]; rfl
  obtain ⟨o, s₂, hsteps, -, hend, hq⟩ := Steps.callFree hM p X.admits X.cas X.clock (acts := []) hfr happ hPc trivial
  have hq' : vx_Q Qc XC mc ms free a (U.calling g mk a) o s₂ := hq
  rw [State.frames_setTop' g h.top] at hend
  obtain ⟨g₀, hg0⟩ := Option.isSome_iff_exists.mp h.top
  obtain ⟨r, hr⟩ := State.topJava?_eq_some.mp hg0
  have hr' : (({ U with heap := s₂.heap, slotsUsed := s₂.slotsUsed } : State).setVm s₂.vm).frames = .java g₀ :: r := hr
  rcases hq' with ⟨hqc, L, hfe, hL⟩ | ⟨q, rfl, E, ce, L, hx, hce, hcv, hcl, hW₂, hsm, hL⟩
  · obtain ⟨⟨v, rfl⟩, hW₂, e2, q2, q3, q4, q5, q6⟩ := id hfe
    have e3 : s₂ = ({ (U.calling g mk a).setFrames s₂.frames with heap := s₂.heap, slotsUsed := s₂.slotsUsed } : State).setVm s₂.vm := by
      have : s₂ = ({ s₂ with vm := (U.calling g mk a).vm } : State).setVm s₂.vm := rfl
      rw [e2] at this
      exact this
    obtain ⟨c₂, i₂, len₂, hc₂, hd₂, hf₂⟩ := hend
    have hW' : U.WarmedH s₂.vm := hW₂
    have hcc : c₂ = c := by
      have h1 : s₂.code? g.method = U.code? g.method := by
        rw [State.code?_eq, State.code?_eq, hW'.alike.method?]
      exact Option.some.inj (hc₂.symm.trans (h1.trans h.code))
    subst hcc
    have hlen : len₂ = len := by rw [hdg] at hd₂; cases hd₂; rfl
    subst hlen
    have hs₂ : s₂ = (({ U with heap := s₂.heap, slotsUsed := s₂.slotsUsed } : State).setVm s₂.vm).setTop { g with pc := g.pc + len₂, stack := v.toList ++ g.stack } := by
      refine e3.trans ?_
      rw [hf₂, State.calling_eq h.top, State.setFrames_setFrames, State.setTop_of_frames _ hr', hr]
      rfl
    have hsame : U.sameButNew ({ U with heap := s₂.heap, slotsUsed := s₂.slotsUsed } : State) L mc ms := by
      refine ⟨?_, q2, q3, q4, q5, q6⟩
      obtain ⟨t, ht, -⟩ := State.frames_cons hr
      show ({ U with heap := s₂.heap, slotsUsed := s₂.slotsUsed } : State) = { U.setFrames U.frames with heap := s₂.heap, slotsUsed := s₂.slotsUsed }
      rw [State.setFrames_self ht]
    subst hg
    refine Or.inl ⟨v, ⟨(({ U with heap := s₂.heap, slotsUsed := s₂.slotsUsed } : State).setVm s₂.vm), Ls ++ L, c0 + mc, s0 + ms⟩,
      ⟨X.admits, X.cas, X.clock, X.frames, X.room, X.hears, X.method, X.code, (X.here.setHeapUsed s₂.heap s₂.slotsUsed).setVm hW'.alike, X.tail, State.WarmedH.trans X.warmed hW', X.limits, X.bytes, X.same.trans (hsame.setVm s.vm)⟩,
      ⟨g, mk, s₂, L, rfl, rfl, hqc, rfl, hL, rfl, rfl⟩, ?_⟩
    show Steps p.tables e below _ ((({ U with heap := s₂.heap, slotsUsed := s₂.slotsUsed } : State).setVm s₂.vm).setTop { g with pc := g.pc + len₂, stack := v.toList ++ g.stack })
    rw [← hs₂]
    exact hsteps
  · obtain ⟨e2, q2, q3, q4, q5, q6⟩ := id hsm
    have e3 : s₂ = ({ (U.calling g mk a).setFrames s₂.frames with heap := s₂.heap, slotsUsed := s₂.slotsUsed } : State).setVm s₂.vm := by
      have : s₂ = ({ s₂ with vm := (U.calling g mk a).vm } : State).setVm s₂.vm := rfl
      rw [e2] at this
      exact this
    have hf₂ : s₂.frames = .throwing q :: .java g :: U.frames.tail := hend
    have hW' : U.WarmedH s₂.vm := hW₂
    have hs₂ : s₂ = ((({ U with heap := s₂.heap, slotsUsed := s₂.slotsUsed } : State).setVm s₂.vm).setTop g).pushFrame (.throwing q) := by
      refine e3.trans ?_
      rw [hf₂, State.calling_eq h.top, State.setFrames_setFrames, State.pushFrame, State.frames_setTop _ hr', State.setTop_of_frames _ hr', State.setFrames_setFrames, hr]
      rfl
    have hsame : U.sameButNew ({ U with heap := s₂.heap, slotsUsed := s₂.slotsUsed } : State) L mc ms := by
      refine ⟨?_, q2, q3, q4, q5, q6⟩
      obtain ⟨t, ht, -⟩ := State.frames_cons hr
      show ({ U with heap := s₂.heap, slotsUsed := s₂.slotsUsed } : State) = { U.setFrames U.frames with heap := s₂.heap, slotsUsed := s₂.slotsUsed }
      rw [State.setFrames_self ht]
    subst hg
    refine Or.inr ⟨q, ⟨(({ U with heap := s₂.heap, slotsUsed := s₂.slotsUsed } : State).setVm s₂.vm), Ls ++ L, c0 + mc, s0 + ms⟩,
      ⟨X.admits, X.cas, X.clock, X.frames, X.room, X.hears, X.method, X.code, (X.here.setHeapUsed s₂.heap s₂.slotsUsed).setVm hW'.alike, X.tail, State.WarmedH.trans X.warmed hW', X.limits, X.bytes, X.same.trans (hsame.setVm s.vm)⟩,
      ⟨g, mk, s₂, L, E, ce, rfl, rfl, hx, hce, hcv, hcl, rfl, hL, rfl, rfl⟩, ?_⟩
    show Steps p.tables e below _ (((({ U with heap := s₂.heap, slotsUsed := s₂.slotsUsed } : State).setVm s₂.vm).setTop g).pushFrame (.throwing q))
    rw [← hs₂]
    exact hsteps
end Payer
section Calls
variable {p : Program} {l : Launch} {e : Env} {R : Room} {s : State} {m : MethodId} {args : Array Value} {below : List Frame} {meth : Method} {c : Code} {T : State} {locs : List Loc} {cells slots : Nat}
theorem vx_callV (X : Stand p l e R s m args below meth c T locs cells slots) (hexec : p.tables.exec = Jvm.exec) {own C : String} {index : Nat} {y : MethodName} {bytes : ByteArray} {maxL : Nat} {ret : Option FieldType}
    (hown : s.vm.findClass own = some m.cls) (hlink : (Cond.methodLink own index y).before args s = true) (hinst : (Cond.instanceMethod y).before args s = true) (hsel : (Cond.selects C y y).before args s = true)
    (hcode : (Cond.code y bytes maxL ret).before args s = true) (hy : y.cls ≠ "java/lang/invoke/MethodHandle" ∧ y.cls ≠ "java/lang/invoke/VarHandle")
    {W9 : Nat} {Pre : Pt → Array Value → Prop} {Post : Pt → Array Value → Option Value → Pt → Prop} {PostX : Pt → Array Value → Addr → Pt → Prop} (hK : vx_Back l R p e below s args y 3 W9 Pre Post PostX)
    {b : Addr} {cellB : Cell} (hcell : T.heap[b]? = some cellB) (hobj : cellB.vm.isStatics = false) (hcls : s.vm.findClass C = some cellB.cls)
    {g : JFrame} (hg : g.method = m) (hsize : g.locals.size = c.maxLocals) {argsL rest : List Value} (hlen : ∀ sig, parseMethodDescriptor y.desc = some sig → argsL.length = sig.parameters.length)
    (hstack : g.stack = argsL.reverse ++ .ref b :: rest) (hW : 2 * g.monitorRoom + (rest.map fun v => v.category).sum ≤ W9) (hdg : decode c.code g.pc = .ok (.invokevirtual index, 3))
    (hpre : ∀ vm₁, s.WarmedH vm₁ → Pre ⟨T.setVm vm₁, locs, cells, slots⟩ (Value.ref b :: argsL).toArray) :
    (∃ (v : Option Value) (vm₁ : Vm) (B : Pt), s.WarmedH vm₁ ∧ Stand p l e R s m args below meth c B.U B.locs B.cells B.slots ∧ Post ⟨T.setVm vm₁, locs, cells, slots⟩ (Value.ref b :: argsL).toArray v B ∧
      ∀ target, Steps p.tables e below (B.U.setTop { g with pc := g.pc + 3, stack := v.toList ++ rest }) target → Steps p.tables e below (T.setTop g) target) ∨
    (∃ (q : Addr) (vm₁ : Vm) (B : Pt), s.WarmedH vm₁ ∧ Stand p l e R s m args below meth c B.U B.locs B.cells B.slots ∧ PostX ⟨T.setVm vm₁, locs, cells, slots⟩ (Value.ref b :: argsL).toArray q B ∧
      Steps p.tables e below (T.setTop g) ((B.U.setTop { g with stack := rest }).pushFrame (.throwing q))) := by
  obtain ⟨mk, methM, hnamed, hmethM, hstM, habM⟩ := Cond.instanceMethod_spec hinst
  obtain ⟨methM', cM, hmethM', -, -, -, -, -, -, hsigM⟩ := Cond.code_spec hnamed hcode
  cases hmethM.symm.trans hmethM'
  obtain ⟨c2, r2, m2, q1, q2, q3, q4, kP, hkP, hkPi⟩ := Cond.selects_spec hsel
  cases hcls.symm.trans q1
  cases (State.methodFound?_of_named hnamed hy).symm.trans q2
  cases hnamed.symm.trans q3
  have hselP : selectMethod e.platform s.vm cellB.cls mk = .method mk := by rw [Launch.admits_selectMethod X.admits]; exact q4
  obtain ⟨vm₁, X₁, hstep₁⟩ := X.invokevirtual hexec hown hlink hnamed hmethM hstM hkP hkPi hy (a := b) (cell := cellB) hcell
    (fun z h => by rw [h] at hobj; cases hobj) hselP hmethM habM hkP hkPi (g := g) hg (argsL := argsL) (rest := rest) (hlen _ hsigM) hstack hdg
  rcases hK m meth c ⟨T.setVm vm₁, locs, cells, slots⟩ { g with stack := rest } (.invokevirtual index) mk (Value.ref b :: argsL).toArray X₁ hg hsize hdg hW (X₁.named hnamed) (hpre vm₁ X₁.warmed) with ⟨v, B, X', hpost, hsteps⟩ | ⟨q, B, X', hpost, hsteps⟩
  · exact Or.inl ⟨v, vm₁, B, X₁.warmed, X', hpost, fun target h => hstep₁ _ fun acts => by rw [doInvoke_state]; exact hsteps.trans h⟩
  · exact Or.inr ⟨q, vm₁, B, X₁.warmed, X', hpost, hstep₁ _ fun acts => by rw [doInvoke_state]; exact hsteps⟩
theorem vx_callS (X : Stand p l e R s m args below meth c T locs cells slots) (hexec : p.tables.exec = Jvm.exec) {own : String} {index : Nat} {y : MethodName} {bytes : ByteArray} {maxL : Nat} {ret : Option FieldType}
    (hown : s.vm.findClass own = some m.cls) (hlink : (Cond.methodLink own index y).before args s = true) (hstat : (Cond.static y).before args s = true) (hinit : (Cond.initialized y.cls).before args s = true)
    (hcode : (Cond.code y bytes maxL ret).before args s = true) (hy : y.cls ≠ "java/lang/invoke/MethodHandle" ∧ y.cls ≠ "java/lang/invoke/VarHandle")
    {W9 : Nat} {Pre : Pt → Array Value → Prop} {Post : Pt → Array Value → Option Value → Pt → Prop} {PostX : Pt → Array Value → Addr → Pt → Prop} (hK : vx_Back l R p e below s args y 3 W9 Pre Post PostX)
    {g : JFrame} (hg : g.method = m) (hsize : g.locals.size = c.maxLocals) {argsL rest : List Value} (hlen : ∀ sig, parseMethodDescriptor y.desc = some sig → argsL.length = sig.parameters.length)
    (hstack : g.stack = argsL.reverse ++ rest) (hW : 2 * g.monitorRoom + (rest.map fun v => v.category).sum ≤ W9) (hdg : decode c.code g.pc = .ok (.invokestatic index, 3))
    (hpre : ∀ vm₁, s.WarmedH vm₁ → Pre ⟨T.setVm vm₁, locs, cells, slots⟩ argsL.toArray) :
    (∃ (v : Option Value) (vm₁ : Vm) (B : Pt), s.WarmedH vm₁ ∧ Stand p l e R s m args below meth c B.U B.locs B.cells B.slots ∧ Post ⟨T.setVm vm₁, locs, cells, slots⟩ argsL.toArray v B ∧
      ∀ target, Steps p.tables e below (B.U.setTop { g with pc := g.pc + 3, stack := v.toList ++ rest }) target → Steps p.tables e below (T.setTop g) target) ∨
    (∃ (q : Addr) (vm₁ : Vm) (B : Pt), s.WarmedH vm₁ ∧ Stand p l e R s m args below meth c B.U B.locs B.cells B.slots ∧ PostX ⟨T.setVm vm₁, locs, cells, slots⟩ argsL.toArray q B ∧
      Steps p.tables e below (T.setTop g) ((B.U.setTop { g with stack := rest }).pushFrame (.throwing q))) := by
  obtain ⟨mk, hnamed⟩ := Cond.code_named hcode
  obtain ⟨methM, cM, hmethM, -, -, -, -, -, -, hsigM⟩ := Cond.code_spec hnamed hcode
  have hstatic : methM.isStatic = true := Cond.static_spec hnamed hmethM hstat
  obtain ⟨kP, hkP, -⟩ := className_of_methodNamed hnamed
  have hinitP : kP.init = .initialized := Cond.initialized_spec (findClass_of_methodNamed hnamed) hkP hinit
  obtain ⟨vm₁, X₁, hstep₁⟩ := X.invokestatic hexec hown hlink hnamed hmethM hstatic hkP hinitP hy (g := g) hg (argsL := argsL) (rest := rest) (hlen _ hsigM) hstack hdg
  rcases hK m meth c ⟨T.setVm vm₁, locs, cells, slots⟩ { g with stack := rest } (.invokestatic index) mk argsL.toArray X₁ hg hsize hdg hW (X₁.named hnamed) (hpre vm₁ X₁.warmed) with ⟨v, B, X', hpost, hsteps⟩ | ⟨q, B, X', hpost, hsteps⟩
  · exact Or.inl ⟨v, vm₁, B, X₁.warmed, X', hpost, fun target h => hstep₁ _ fun acts => by rw [doInvoke_state]; exact hsteps.trans h⟩
  · exact Or.inr ⟨q, vm₁, B, X₁.warmed, X', hpost, hstep₁ _ fun acts => by rw [doInvoke_state]; exact hsteps⟩
end Calls
theorem vx_cls {s : State} {T : State} {vm₁ : Vm} {E : String} {k : ClassId} (hW : s.WarmedH vm₁) (h : (T.setVm vm₁).vm.findClass E = some k) : s.vm.findClass E = some k := by
  have h1 : vm₁.findClass E = some k := h
  rw [hW.alike.findClass] at h1
  exact h1
/-- the method's frame g, with q thrown over it -/
def vx_W (p : Program) (l : Launch) (e : Env) (R : Room) (s : State) (m : MethodId) (args : Array Value) (below : List Frame) (meth : Method) (c : Code) (H : Heap) (locs : List Loc) (cells slots : Nat) (Q : State → Prop) (g : JFrame) (q : Addr) : Prop :=
  ∀ T : State, T.heap = H → Stand p l e R s m args below meth c T locs cells slots → ∃ t, Steps p.tables e below ((T.setTop g).pushFrame (.throwing q)) t ∧ Q t
def vx_Run (p : Program) (l : Launch) (e : Env) (R : Room) (s : State) (m : MethodId) (args : Array Value) (below : List Frame) (meth : Method) (c : Code) (H : Heap) (locs : List Loc) (cells slots mc ms : Nat) (g : JFrame) (rest : List Value) (Qa : State → Outcome → State → Prop) (XC : String → State → State → Prop) (free : Addr → Prop) : Prop :=
  ∀ T : State, T.heap = H → Stand p l e R s m args below meth c T locs cells slots →
    (∃ (v : Option Value) (st₀ t T' : State) (L : List Loc), st₀.heap = H ∧ Stand p l e R s m args below meth c T' (locs ++ L) (cells + mc) (slots + ms) ∧ (∀ q ∈ L, free q.base) ∧ T'.heap = t.heap ∧ T'.vm = t.vm ∧ Qa st₀ (.returned v) t ∧
      Goes p e below T g T' { g with pc := g.pc + 3, stack := v.toList ++ rest }) ∨
    (∃ (q : Addr) (st₀ t T' : State) (L : List Loc) (E : String) (ce : Cell), st₀.heap = H ∧ Stand p l e R s m args below meth c T' (locs ++ L) (cells + mc) (slots + ms) ∧ (∀ z ∈ L, free z.base) ∧ T'.heap = t.heap ∧ T'.vm = t.vm ∧ XC E st₀ t ∧ t.heap[q]? = some ce ∧ ce.vm = .none ∧ s.vm.findClass E = some ce.cls ∧
      Steps p.tables e below (T.setTop g) ((T'.setTop { g with stack := rest }).pushFrame (.throwing q)))
def vx_X {S : Type} (px : S → Prop) (B : String → S → State → Prop) (A : Nat → Prop) : String → State → State → Prop := fun E st t => ∃ u : S, px u ∧ B E u t ∧ va_F A st t
section Runs
variable {p : Program} {l : Launch} {e : Env} {R : Room} {s : State} {m : MethodId} {args : Array Value} {below : List Frame} {meth : Method} {c : Code} {H : Heap} {locs : List Loc} {cells slots : Nat}
variable {y : MethodName} {bytes cc : ByteArray} {maxL nL mc ms n index : Nat} {ret : Option FieldType} {ws : List Cond} {rm : Room} {Pc : Array Value → State → Prop} {Qc : Array Value → State → Outcome → State → Prop} {XC : String → State → State → Prop} {free : Addr → Prop} {Ts : List Cond} {own C : String} {b : Addr} {As rest : List Value} {g : JFrame}
theorem vx_callBack (cb : CallB R s args own index y bytes maxL ret ws rm mc ms n) (hM : vx_Met l y ws rm Pc Qc XC mc ms free) (hbl : FrameBlind Pc) : vx_Back l R p e below s args y 3 8 (PreOf R mc ms Pc) (PostOf Qc mc ms free) (vx_Post XC mc ms free) := by
  obtain ⟨hrc, hrs, hfr, hlo, hws, hcw, -, hini, -⟩ := cb
  exact vx_back (bytes := bytes) (maxL := maxL) (ret := ret) hM hbl hrc hrs hfr hlo hws hcw (fun a' U hW => word_at hW (Or.inl (by first | rfl | simp [Cond.onTables, Cond.keeps, Cond.steady])) hini)
theorem vx_runV (S : CallFix p m c cc nL s args Ts own) (hM : vx_Met l y ws rm Pc Qc XC mc ms free) (cw : CallW R s args own C index y bytes maxL ret ws rm mc ms n) (hp : PreV s H C b Pc As)
    (hg : g.method = m) (hn : As.length = n) (hsize : g.locals.size = nL) (hstack : g.stack = As.reverse ++ .ref b :: rest) (hW : 2 * g.monitorRoom + (rest.map fun v => v.category).sum ≤ 8) (hdg : decode cc g.pc = .ok (.invokevirtual index, 3)) (hf : cells + mc ≤ R.cells ∧ slots + ms ≤ R.slots) :
    vx_Run p l e R s m args below meth c H locs cells slots mc ms g rest (Qc (Value.ref b :: As).toArray) XC free := by
  have hK : vx_Back l R p e below s args y 3 8 (PreOf R mc ms Pc) (PostOf Qc mc ms free) (vx_Post XC mc ms free) := vx_callBack cw.1 hM hp.1
  obtain ⟨⟨-, -, -, -, -, -, hcode, -, hy, hlen, hl⟩, hin, hse⟩ := cw
  obtain ⟨hx, hb, hml, ho, -⟩ := S
  obtain ⟨-, ⟨cellB, hcB, hoB, hclB⟩, hPc⟩ := hp
  intro T hT X
  rcases vx_callV X hx (C := C) (bytes := bytes) (maxL := maxL) (ret := ret) ho hl hin hse hcode hy hK (by rw [hT]; exact hcB) hoB hclB hg (hsize.trans hml.symm) (argsL := As) (rest := rest) (fun sig h => hn.trans (hlen sig h)) hstack hW (by rw [hb]; exact hdg)
    (fun vm₁ hW₁ => ⟨hf.1, hf.2, hPc (T.setVm vm₁) hT hW₁⟩) with ⟨v, vm₁, ⟨U', l2, c2, s2⟩, hW₁, X', ⟨g', mk, t, L, e1, e2, hq, h1, hL, h2, h3⟩, st⟩ | ⟨q, vm₁, ⟨U', l2, c2, s2⟩, hW₁, X', ⟨g', mk, t, L, E, ce, e1, e2, hq, hce, hcv, hcl, h1, hL, h2, h3⟩, st⟩
  · dsimp only [Pt.U, Pt.locs, Pt.cells, Pt.slots] at X' e1 e2 h1 h2 h3 st
    subst h1; subst h2; subst h3
    exact Or.inl ⟨v, (T.setVm vm₁).calling g' mk (Value.ref b :: As).toArray, t, U', L, hT, X', hL, e1, e2, hq, st⟩
  · dsimp only [Pt.U, Pt.locs, Pt.cells, Pt.slots] at X' e1 e2 h1 h2 h3 st hcl
    subst h1; subst h2; subst h3
    exact Or.inr ⟨q, (T.setVm vm₁).calling g' mk (Value.ref b :: As).toArray, t, U', L, E, ce, hT, X', hL, e1, e2, hq, hce, hcv, vx_cls hW₁ hcl, st⟩
theorem vx_runS (S : CallFix p m c cc nL s args Ts own) (hM : vx_Met l y ws rm Pc Qc XC mc ms free) (cw : CallB R s args own index y bytes maxL ret ws rm mc ms n ∧ (Cond.static y).before args s = true) (hp : PreS s H Pc As)
    (hg : g.method = m) (hn : As.length = n) (hsize : g.locals.size = nL) (hstack : g.stack = As.reverse ++ rest) (hW : 2 * g.monitorRoom + (rest.map fun v => v.category).sum ≤ 8) (hdg : decode cc g.pc = .ok (.invokestatic index, 3)) (hf : cells + mc ≤ R.cells ∧ slots + ms ≤ R.slots) :
    vx_Run p l e R s m args below meth c H locs cells slots mc ms g rest (Qc As.toArray) XC free := by
  have hK : vx_Back l R p e below s args y 3 8 (PreOf R mc ms Pc) (PostOf Qc mc ms free) (vx_Post XC mc ms free) := vx_callBack cw.1 hM hp.1
  obtain ⟨⟨-, -, -, -, -, -, hcode, hini, hy, hlen, hl⟩, hstt⟩ := cw
  obtain ⟨hx, hb, hml, ho, -⟩ := S
  intro T hT X
  rcases vx_callS X hx (bytes := bytes) (maxL := maxL) (ret := ret) ho hl hstt hini hcode hy hK hg (hsize.trans hml.symm) (argsL := As) (rest := rest) (fun sig h => hn.trans (hlen sig h)) hstack hW (by rw [hb]; exact hdg)
    (fun vm₁ hW₁ => ⟨hf.1, hf.2, hp.2 (T.setVm vm₁) hT hW₁⟩) with ⟨v, vm₁, ⟨U', l2, c2, s2⟩, hW₁, X', ⟨g', mk, t, L, e1, e2, hq, h1, hL, h2, h3⟩, st⟩ | ⟨q, vm₁, ⟨U', l2, c2, s2⟩, hW₁, X', ⟨g', mk, t, L, E, ce, e1, e2, hq, hce, hcv, hcl, h1, hL, h2, h3⟩, st⟩
  · dsimp only [Pt.U, Pt.locs, Pt.cells, Pt.slots] at X' e1 e2 h1 h2 h3 st
    subst h1; subst h2; subst h3
    exact Or.inl ⟨v, (T.setVm vm₁).calling g' mk As.toArray, t, U', L, hT, X', hL, e1, e2, hq, st⟩
  · dsimp only [Pt.U, Pt.locs, Pt.cells, Pt.slots] at X' e1 e2 h1 h2 h3 st hcl
    subst h1; subst h2; subst h3
    exact Or.inr ⟨q, (T.setVm vm₁).calling g' mk As.toArray, t, U', L, E, ce, hT, X', hL, e1, e2, hq, hce, hcv, vx_cls hW₁ hcl, st⟩
end Runs
section Rows
variable {p : Program} {l : Launch} {e : Env} {R : Room} {s : State} {m : MethodId} {args : Array Value} {below : List Frame} {meth : Method} {c : Code} {H : Heap} {locs : List Loc} {cells slots : Nat} {Q : State → Prop}
variable {mc ms : Nat} {free : Addr → Prop} {A0 A1 : Nat → Prop} {H0 : Heap} {a : Array Value} {pc : Nat} {ls : Array Slot} {st0 rest : List Value}
theorem vx_keep {st₀ t T' : State} {L : List Loc} (h0 : st₀.heap = H) (e1 : T'.heap = t.heap) (hS : va_S A0 H0 H locs) (hA : ∀ q, q < H.size → A1 q → A0 q) (hf : ∀ q, free q → A0 q) (hL : ∀ q ∈ L, free q.base) (hF : va_F A1 st₀ t) :
    H.size ≤ T'.heap.size ∧ (∀ q : Nat, q < H.size → ¬ A1 q → T'.heap[q]? = H[q]?) ∧ va_S A0 H0 T'.heap (locs ++ L) := by
  obtain ⟨hz, hk⟩ := hF
  rw [h0] at hz hk
  exact ⟨by rw [e1]; exact hz, fun q h1 h2 => by rw [e1]; exact hk q h1 h2,
    ⟨Nat.le_trans hS.1 (by rw [e1]; exact hz), fun q h1 h2 => by rw [e1, hk q (Nat.lt_of_lt_of_le h1 hS.1) (fun z => h2 (hA q (Nat.lt_of_lt_of_le h1 hS.1) z))]; exact hS.2.1 q h1 h2, fun q hq => by
      rcases List.mem_append.mp hq with h | h
      · exact hS.2.2 q h
      · exact hf _ (hL q h)⟩⟩
theorem vx_calli {S SX : Type} {post : Int32 → S → Prop} {px : SX → Prop} {B : S → State → Prop} {BX : String → SX → State → Prop} {AX : Nat → Prop} (hr : vx_Run p l e R s m args below meth c H locs cells slots mc ms (F0 m pc ls st0) rest (va_Qi post B A1 a) (vx_X px BX AX) free) (hS : va_S A0 H0 H locs) (hA : ∀ q, q < H.size → A1 q → A0 q) (hf : ∀ q, free q → A0 q) (hAX : ∀ q, q < H.size → AX q → A0 q)
    (kx : ∀ (E : String) (ce : Cell) (q9 : Addr) (u : SX) (t : State) (H1 : Heap) (locs1 : List Loc), t.heap = H1 → s.vm.Alike t.vm → px u → BX E u t → H.size ≤ H1.size → (∀ q : Nat, q < H.size → ¬ AX q → H1[q]? = H[q]?) → va_S A0 H0 H1 locs1 → H1[q9]? = some ce → ce.vm = .none → s.vm.findClass E = some ce.cls → vx_W p l e R s m args below meth c H1 locs1 (cells + mc) (slots + ms) Q (F0 m pc ls rest) q9)
    (kk : ∀ (r : Int32) (u : S) (t : State) (H1 : Heap) (locs1 : List Loc), t.heap = H1 → s.vm.Alike t.vm → post r u → B u t → H.size ≤ H1.size → (∀ q : Nat, q < H.size → ¬ A1 q → H1[q]? = H[q]?) → va_S A0 H0 H1 locs1 → W p l e R s m args below meth c H1 locs1 (cells + mc) (slots + ms) Q (F0 m (pc + 3) ls (.int r :: rest))) : W p l e R s m args below meth c H locs cells slots Q (F0 m pc ls st0) := by
  intro T hT X
  rcases hr T hT X with ⟨v, st₀, t, T', L, h0, X', hL, e1, e2, ⟨⟨r, u, hv, hp, hb⟩, hF⟩, st⟩ | ⟨q, st₀, t, T', L, E, ce, h0, X', hL, e1, e2, ⟨u, hp, hb, hF⟩, hce, hcv, hcl, st⟩
  · cases hv
    obtain ⟨k1, k2, k3⟩ := vx_keep h0 e1 hS hA hf hL hF
    obtain ⟨t2, a1, b1⟩ := kk r u t T'.heap (locs ++ L) e1.symm (by rw [← e2]; exact X'.warmed.alike) hp hb k1 k2 k3 T' rfl X'
    exact ⟨t2, st t2 a1, b1⟩
  · obtain ⟨k1, k2, k3⟩ := vx_keep h0 e1 hS hAX hf hL hF
    obtain ⟨t2, a1, b1⟩ := kx E ce q u t T'.heap (locs ++ L) e1.symm (by rw [← e2]; exact X'.warmed.alike) hp hb k1 k2 k3 (by rw [e1]; exact hce) hcv hcl T' rfl X'
    exact ⟨t2, st.trans a1, b1⟩
theorem vx_calll {S SX : Type} {post : Int64 → S → Prop} {px : SX → Prop} {B : S → State → Prop} {BX : String → SX → State → Prop} {AX : Nat → Prop} (hr : vx_Run p l e R s m args below meth c H locs cells slots mc ms (F0 m pc ls st0) rest (va_Ql post B A1 a) (vx_X px BX AX) free) (hS : va_S A0 H0 H locs) (hA : ∀ q, q < H.size → A1 q → A0 q) (hf : ∀ q, free q → A0 q) (hAX : ∀ q, q < H.size → AX q → A0 q)
    (kx : ∀ (E : String) (ce : Cell) (q9 : Addr) (u : SX) (t : State) (H1 : Heap) (locs1 : List Loc), t.heap = H1 → s.vm.Alike t.vm → px u → BX E u t → H.size ≤ H1.size → (∀ q : Nat, q < H.size → ¬ AX q → H1[q]? = H[q]?) → va_S A0 H0 H1 locs1 → H1[q9]? = some ce → ce.vm = .none → s.vm.findClass E = some ce.cls → vx_W p l e R s m args below meth c H1 locs1 (cells + mc) (slots + ms) Q (F0 m pc ls rest) q9)
    (kk : ∀ (r : Int64) (u : S) (t : State) (H1 : Heap) (locs1 : List Loc), t.heap = H1 → s.vm.Alike t.vm → post r u → B u t → H.size ≤ H1.size → (∀ q : Nat, q < H.size → ¬ A1 q → H1[q]? = H[q]?) → va_S A0 H0 H1 locs1 → W p l e R s m args below meth c H1 locs1 (cells + mc) (slots + ms) Q (F0 m (pc + 3) ls (.long r :: rest))) : W p l e R s m args below meth c H locs cells slots Q (F0 m pc ls st0) := by
  intro T hT X
  rcases hr T hT X with ⟨v, st₀, t, T', L, h0, X', hL, e1, e2, ⟨⟨r, u, hv, hp, hb⟩, hF⟩, st⟩ | ⟨q, st₀, t, T', L, E, ce, h0, X', hL, e1, e2, ⟨u, hp, hb, hF⟩, hce, hcv, hcl, st⟩
  · cases hv
    obtain ⟨k1, k2, k3⟩ := vx_keep h0 e1 hS hA hf hL hF
    obtain ⟨t2, a1, b1⟩ := kk r u t T'.heap (locs ++ L) e1.symm (by rw [← e2]; exact X'.warmed.alike) hp hb k1 k2 k3 T' rfl X'
    exact ⟨t2, st t2 a1, b1⟩
  · obtain ⟨k1, k2, k3⟩ := vx_keep h0 e1 hS hAX hf hL hF
    obtain ⟨t2, a1, b1⟩ := kx E ce q u t T'.heap (locs ++ L) e1.symm (by rw [← e2]; exact X'.warmed.alike) hp hb k1 k2 k3 (by rw [e1]; exact hce) hcv hcl T' rfl X'
    exact ⟨t2, st.trans a1, b1⟩
theorem vx_callf {S SX : Type} {post : UInt32 → S → Prop} {px : SX → Prop} {B : S → State → Prop} {BX : String → SX → State → Prop} {AX : Nat → Prop} (hr : vx_Run p l e R s m args below meth c H locs cells slots mc ms (F0 m pc ls st0) rest (va_Qf post B A1 a) (vx_X px BX AX) free) (hS : va_S A0 H0 H locs) (hA : ∀ q, q < H.size → A1 q → A0 q) (hf : ∀ q, free q → A0 q) (hAX : ∀ q, q < H.size → AX q → A0 q)
    (kx : ∀ (E : String) (ce : Cell) (q9 : Addr) (u : SX) (t : State) (H1 : Heap) (locs1 : List Loc), t.heap = H1 → s.vm.Alike t.vm → px u → BX E u t → H.size ≤ H1.size → (∀ q : Nat, q < H.size → ¬ AX q → H1[q]? = H[q]?) → va_S A0 H0 H1 locs1 → H1[q9]? = some ce → ce.vm = .none → s.vm.findClass E = some ce.cls → vx_W p l e R s m args below meth c H1 locs1 (cells + mc) (slots + ms) Q (F0 m pc ls rest) q9)
    (kk : ∀ (r : UInt32) (u : S) (t : State) (H1 : Heap) (locs1 : List Loc), t.heap = H1 → s.vm.Alike t.vm → post r u → B u t → H.size ≤ H1.size → (∀ q : Nat, q < H.size → ¬ A1 q → H1[q]? = H[q]?) → va_S A0 H0 H1 locs1 → W p l e R s m args below meth c H1 locs1 (cells + mc) (slots + ms) Q (F0 m (pc + 3) ls (.float r :: rest))) : W p l e R s m args below meth c H locs cells slots Q (F0 m pc ls st0) := by
  intro T hT X
  rcases hr T hT X with ⟨v, st₀, t, T', L, h0, X', hL, e1, e2, ⟨⟨r, u, hv, hp, hb⟩, hF⟩, st⟩ | ⟨q, st₀, t, T', L, E, ce, h0, X', hL, e1, e2, ⟨u, hp, hb, hF⟩, hce, hcv, hcl, st⟩
  · cases hv
    obtain ⟨k1, k2, k3⟩ := vx_keep h0 e1 hS hA hf hL hF
    obtain ⟨t2, a1, b1⟩ := kk r u t T'.heap (locs ++ L) e1.symm (by rw [← e2]; exact X'.warmed.alike) hp hb k1 k2 k3 T' rfl X'
    exact ⟨t2, st t2 a1, b1⟩
  · obtain ⟨k1, k2, k3⟩ := vx_keep h0 e1 hS hAX hf hL hF
    obtain ⟨t2, a1, b1⟩ := kx E ce q u t T'.heap (locs ++ L) e1.symm (by rw [← e2]; exact X'.warmed.alike) hp hb k1 k2 k3 (by rw [e1]; exact hce) hcv hcl T' rfl X'
    exact ⟨t2, st.trans a1, b1⟩
theorem vx_calld {S SX : Type} {post : UInt64 → S → Prop} {px : SX → Prop} {B : S → State → Prop} {BX : String → SX → State → Prop} {AX : Nat → Prop} (hr : vx_Run p l e R s m args below meth c H locs cells slots mc ms (F0 m pc ls st0) rest (va_Qd post B A1 a) (vx_X px BX AX) free) (hS : va_S A0 H0 H locs) (hA : ∀ q, q < H.size → A1 q → A0 q) (hf : ∀ q, free q → A0 q) (hAX : ∀ q, q < H.size → AX q → A0 q)
    (kx : ∀ (E : String) (ce : Cell) (q9 : Addr) (u : SX) (t : State) (H1 : Heap) (locs1 : List Loc), t.heap = H1 → s.vm.Alike t.vm → px u → BX E u t → H.size ≤ H1.size → (∀ q : Nat, q < H.size → ¬ AX q → H1[q]? = H[q]?) → va_S A0 H0 H1 locs1 → H1[q9]? = some ce → ce.vm = .none → s.vm.findClass E = some ce.cls → vx_W p l e R s m args below meth c H1 locs1 (cells + mc) (slots + ms) Q (F0 m pc ls rest) q9)
    (kk : ∀ (r : UInt64) (u : S) (t : State) (H1 : Heap) (locs1 : List Loc), t.heap = H1 → s.vm.Alike t.vm → post r u → B u t → H.size ≤ H1.size → (∀ q : Nat, q < H.size → ¬ A1 q → H1[q]? = H[q]?) → va_S A0 H0 H1 locs1 → W p l e R s m args below meth c H1 locs1 (cells + mc) (slots + ms) Q (F0 m (pc + 3) ls (.double r :: rest))) : W p l e R s m args below meth c H locs cells slots Q (F0 m pc ls st0) := by
  intro T hT X
  rcases hr T hT X with ⟨v, st₀, t, T', L, h0, X', hL, e1, e2, ⟨⟨r, u, hv, hp, hb⟩, hF⟩, st⟩ | ⟨q, st₀, t, T', L, E, ce, h0, X', hL, e1, e2, ⟨u, hp, hb, hF⟩, hce, hcv, hcl, st⟩
  · cases hv
    obtain ⟨k1, k2, k3⟩ := vx_keep h0 e1 hS hA hf hL hF
    obtain ⟨t2, a1, b1⟩ := kk r u t T'.heap (locs ++ L) e1.symm (by rw [← e2]; exact X'.warmed.alike) hp hb k1 k2 k3 T' rfl X'
    exact ⟨t2, st t2 a1, b1⟩
  · obtain ⟨k1, k2, k3⟩ := vx_keep h0 e1 hS hAX hf hL hF
    obtain ⟨t2, a1, b1⟩ := kx E ce q u t T'.heap (locs ++ L) e1.symm (by rw [← e2]; exact X'.warmed.alike) hp hb k1 k2 k3 (by rw [e1]; exact hce) hcv hcl T' rfl X'
    exact ⟨t2, st.trans a1, b1⟩
theorem vx_callv {S SX : Type} {post : S → Prop} {px : SX → Prop} {B : S → State → Prop} {BX : String → SX → State → Prop} {AX : Nat → Prop} (hr : vx_Run p l e R s m args below meth c H locs cells slots mc ms (F0 m pc ls st0) rest (va_Qv post B A1 a) (vx_X px BX AX) free) (hS : va_S A0 H0 H locs) (hA : ∀ q, q < H.size → A1 q → A0 q) (hf : ∀ q, free q → A0 q) (hAX : ∀ q, q < H.size → AX q → A0 q)
    (kx : ∀ (E : String) (ce : Cell) (q9 : Addr) (u : SX) (t : State) (H1 : Heap) (locs1 : List Loc), t.heap = H1 → s.vm.Alike t.vm → px u → BX E u t → H.size ≤ H1.size → (∀ q : Nat, q < H.size → ¬ AX q → H1[q]? = H[q]?) → va_S A0 H0 H1 locs1 → H1[q9]? = some ce → ce.vm = .none → s.vm.findClass E = some ce.cls → vx_W p l e R s m args below meth c H1 locs1 (cells + mc) (slots + ms) Q (F0 m pc ls rest) q9)
    (kk : ∀ (u : S) (t : State) (H1 : Heap) (locs1 : List Loc), t.heap = H1 → s.vm.Alike t.vm → post u → B u t → H.size ≤ H1.size → (∀ q : Nat, q < H.size → ¬ A1 q → H1[q]? = H[q]?) → va_S A0 H0 H1 locs1 → W p l e R s m args below meth c H1 locs1 (cells + mc) (slots + ms) Q (F0 m (pc + 3) ls (rest))) : W p l e R s m args below meth c H locs cells slots Q (F0 m pc ls st0) := by
  intro T hT X
  rcases hr T hT X with ⟨v, st₀, t, T', L, h0, X', hL, e1, e2, ⟨⟨u, hv, hp, hb⟩, hF⟩, st⟩ | ⟨q, st₀, t, T', L, E, ce, h0, X', hL, e1, e2, ⟨u, hp, hb, hF⟩, hce, hcv, hcl, st⟩
  · cases hv
    obtain ⟨k1, k2, k3⟩ := vx_keep h0 e1 hS hA hf hL hF
    obtain ⟨t2, a1, b1⟩ := kk u t T'.heap (locs ++ L) e1.symm (by rw [← e2]; exact X'.warmed.alike) hp hb k1 k2 k3 T' rfl X'
    exact ⟨t2, st t2 a1, b1⟩
  · obtain ⟨k1, k2, k3⟩ := vx_keep h0 e1 hS hAX hf hL hF
    obtain ⟨t2, a1, b1⟩ := kx E ce q u t T'.heap (locs ++ L) e1.symm (by rw [← e2]; exact X'.warmed.alike) hp hb k1 k2 k3 (by rw [e1]; exact hce) hcv hcl T' rfl X'
    exact ⟨t2, st.trans a1, b1⟩
/-- caught by the row x of this method's table; the rows ahead don't take it -/
theorem vx_catch {own name : String} {E : String} {ce : Cell} {q : Addr} (hown : s.vm.findClass own = some m.cls) (pre : List ExceptionTableEntry) (x : ExceptionTableEntry) (suf : List ExceptionTableEntry) (hsplit : c.exceptionTable.toList = pre ++ x :: suf)
    (hpass : ∀ z ∈ pre, covers z pc = false ∨ (z.catchType ≠ 0 ∧ ∃ nm : String, (Cond.classLink own z.catchType nm).before args s = true ∧ va_Nc E nm s)) (hx : covers x pc = true) (h0 : x.catchType ≠ 0)
    (hlink : (Cond.classLink own x.catchType name).before args s = true) (hcast : (Cond.castable E name).before args s = true) (hcell : H[q]? = some ce) (hv : ce.vm = .none) (hcl : s.vm.findClass E = some ce.cls)
    (kk : W p l e R s m args below meth c H locs cells slots Q (F0 m x.handlerPc ls [.ref q])) : vx_W p l e R s m args below meth c H locs cells slots Q (F0 m pc ls rest) q := by
  intro T hT X
  have hpl : e.platform.magicAccessors = ({} : Platform).magicAccessors := by rw [X.admits.platform]
  obtain ⟨c3, c4, hc3, hc4, hasg⟩ := Cond.castable_spec hcast
  cases Option.some.inj (hc3.symm.trans hcl)
  obtain ⟨c5, hc5, hcl5⟩ := Cond.classLink_spec hown hlink e.platform hpl
  cases Option.some.inj (hc4.symm.trans hc5)
  obtain ⟨vm', X', st⟩ := X.thenCaughtThrough q (g := F0 m pc ls rest) rfl (Steps.refl _) (by rw [hT]; exact hcell) (by rw [hv]; rfl) (by obtain ⟨k9, h9, -⟩ := Vm.findClass_spec hcl; exact ⟨k9, h9⟩) pre x suf hsplit
    (fun z hz => by
      rcases hpass z hz with h | ⟨hz0, nm, hl1, hn1⟩
      · exact Or.inl h
      · obtain ⟨c6, hc6, hcl6⟩ := Cond.classLink_spec hown hl1 e.platform hpl
        obtain ⟨a8, b8, h1, h2, h3⟩ := hn1
        cases Option.some.inj (h1.symm.trans hcl)
        cases Option.some.inj (h2.symm.trans hc6)
        exact Or.inr ⟨hz0, _, hcl6, h3⟩) hx (Or.inr ⟨h0, c4, hcl5, hasg⟩)
  obtain ⟨t, a1, b1⟩ := kk (T.setVm vm') hT X'
  exact ⟨t, st.trans a1, b1⟩
end Rows
section Ends
variable {p : Program} {l : Launch} {e : Env} {R : Room} {s : State} {m : MethodId} {args : Array Value} {below : List Frame} {meth : Method} {c : Code} {H : Heap} {locs : List Loc} {cells slots : Nat} {Q : State → Prop}
variable {mc ms : Nat} {free : Addr → Prop} {A0 A1 : Nat → Prop} {H0 : Heap} {a : Array Value} {ls : Array Slot} {st0 rest : List Value}
variable {Qc : Array Value → State → Outcome → State → Prop} {XC : String → State → State → Prop}
/-- what a body that may throw owes at its end -/
def vx_MQ (below : List Frame) (Qc : Array Value → State → Outcome → State → Prop) (XC : String → State → State → Prop) (a : Array Value) (s : State) (mc ms : Nat) (free : Addr → Prop) : State → Prop := fun t =>
  ∃ o, t.status = .running ∧ Ended t below o ∧ vx_Q Qc XC mc ms free a s o t
theorem vx_ret {g : JFrame} {mc ms : Nat} (k : W p l e R s m args below meth c H locs cells slots (MQ below Qc args s mc ms free) g) : W p l e R s m args below meth c H locs cells slots (vx_MQ below Qc XC args s mc ms free) g := by
  intro T hT X
  obtain ⟨t, a1, o, b1, b2, b3, b4⟩ := k T hT X
  exact ⟨t, a1, o, b1, b2, Or.inl ⟨b3, b4⟩⟩
/-- not caught here: it goes on to the caller -/
theorem vx_widen {g : JFrame} {q : Addr} {k n : Nat} (h1 : cells ≤ k) (h2 : slots ≤ n) (kk : vx_W p l e R s m args below meth c H locs k n Q g q) : vx_W p l e R s m args below meth c H locs cells slots Q g q := fun T hT X => kk T hT (stand_widen X h1 h2)
theorem vx_out {pc : Nat} {E : String} {ce : Cell} {q : Addr} {mc ms : Nat} (hout : ∀ x ∈ c.exceptionTable.toList, covers x pc = false) (hlocks : meth.locks = false) (hcell : H[q]? = some ce) (hv : ce.vm = .none) (hcl : s.vm.findClass E = some ce.cls)
    (hx : ∀ t : State, t.heap = H → s.vm.Alike t.vm → XC E s t) (hf : ∀ z ∈ locs, free z.base) (hc : cells ≤ mc) (hs : slots ≤ ms) :
    vx_W p l e R s m args below meth c H locs cells slots (vx_MQ below Qc XC args s mc ms free) (F0 m pc ls rest) q := by
  intro T hT X
  obtain ⟨st1, hrun, hend, hW, hsm⟩ := X.leaveThrown q (g := F0 m pc ls rest) rfl rfl rfl hout hlocks
  have hcell9 : (T.setFrames (.throwing q :: below)).heap[q]? = some ce := by
    show T.heap[q]? = some ce
    rw [hT]; exact hcell
  exact ⟨_, st1, .threw q, hrun, hend, Or.inr ⟨q, rfl, E, ce, locs, hx _ hT hW.alike, hcell9, hv, hcl, hW, hsm.mono hc hs, hf⟩⟩
theorem vx_frame {U : State} {k n : Nat} (h : s.sameButNew ({ U with vm := s.vm } : State) locs k n) : s.heap.size ≤ U.heap.size ∧ ∀ q : Nat, q < s.heap.size → (∀ z ∈ locs, z.base ≠ q) → U.heap[q]? = s.heap[q]? := by
  obtain ⟨-, h2, -, -, -, h6⟩ := h
  refine ⟨h2, fun q hq hz => ?_⟩
  obtain ⟨c9, e1, e2, e3, e4⟩ := h6 q _ (Array.getElem?_eq_getElem hq)
  have hs : c9.slots = (s.heap[q]).slots := Array.ext_getElem? fun i => e4 i fun hm => hz _ hm rfl
  have h9 : c9 = s.heap[q] := by
    rw [hs] at e2
    exact e2
  have e5 : U.heap[q]? = some c9 := e1
  rw [e5, h9, Array.getElem?_eq_getElem hq]
/-- the words of a throw but the four that speak of the heap -/
def vx_no (w : Cond) : Bool := decide (w ≠ .isRef (.static Bundle.tN "UNASSIGNED_STACK" Bundle.steD)) && decide (w ≠ .isRef (.static Bundle.tN "SUPPRESSED_SENTINEL" Bundle.listD)) && decide (w ≠ .laysStatic Bundle.tN "UNASSIGNED_STACK" Bundle.steD) && decide (w ≠ .laysStatic Bundle.tN "SUPPRESSED_SENTINEL" Bundle.listD)
def vx_at0 (own : String) (ic : Nat) (X : String) (names : List String) : List Cond := (Bundle.ownAtoms0 own ic X names).filter vx_no
def vx_atS (own : String) (ic : Nat) (X : String) (names : List String) : List Cond := (Bundle.ownAtoms own ic X names).filter vx_no
/-- a word that the tables alone decide, or a good one -/
def vx_ot (w : Cond) : Bool := w.onTables || goodWord w
theorem vx_ot_at {args a' : Array Value} {s U : State} {w : Cond} (hW : s.WarmedH U.vm) (hvm : s.vm = U.vm) (hg : vx_ot w = true) (h : w.before args s = true) : w.before a' U = true := by
  simp only [vx_ot, Bool.or_eq_true] at hg
  rcases hg with hg | hg
  · exact va_tabs hg hvm h
  · exact word_at hW (good_of_word hg) h
/-- a list's words: the good ones out of the method's own list, the others by premises of their own -/
theorem vx_hat {args : Array Value} {s : State} {L B : List Cond} (h1 : ∀ w ∈ L.filter goodWord, w.before args s = true) (h2 : ∀ w ∈ L.filter (fun w => !goodWord w), w ∈ B) (h3 : ∀ w ∈ B, w.before args s = true) : ∀ w ∈ L, w.before args s = true := by
  intro w hw
  by_cases g : goodWord w = true
  · exact h1 w (List.mem_filter.mpr ⟨hw, g⟩)
  · refine h3 w (h2 w (List.mem_filter.mpr ⟨hw, ?_⟩))
    show (!goodWord w) = true
    cases hgw : goodWord w
    · rfl
    · exact absurd hgw g
theorem vx_c {args : Array Value} {s : State} {w : Cond} {B : List Cond} (h : w.before args s = true) (t : ∀ w ∈ B, w.before args s = true) : ∀ w' ∈ w :: B, w'.before args s = true := fun w' h' => (List.mem_cons.mp h').elim (fun e => by rw [e]; exact h) (t w')
theorem vx_n {args : Array Value} {s : State} : ∀ w ∈ ([] : List Cond), w.before args s = true := fun _ h => nomatch h
theorem vx_own {args : Array Value} {s : State} {L : List Cond} (h1 : ∀ w ∈ L.filter vx_no, w.before args s = true)
    (hU : (Cond.isRef (.static Bundle.tN "UNASSIGNED_STACK" Bundle.steD)).before args s = true) (hN : (Cond.isRef (.static Bundle.tN "SUPPRESSED_SENTINEL" Bundle.listD)).before args s = true)
    (lU : (Cond.laysStatic Bundle.tN "UNASSIGNED_STACK" Bundle.steD).before args s = true) (lN : (Cond.laysStatic Bundle.tN "SUPPRESSED_SENTINEL" Bundle.listD).before args s = true) : ∀ w ∈ L, w.before args s = true := by
  intro w hw
  by_cases e1 : w = .isRef (.static Bundle.tN "UNASSIGNED_STACK" Bundle.steD)
  · rw [e1]; exact hU
  · by_cases e2 : w = .isRef (.static Bundle.tN "SUPPRESSED_SENTINEL" Bundle.listD)
    · rw [e2]; exact hN
    · by_cases e3 : w = .laysStatic Bundle.tN "UNASSIGNED_STACK" Bundle.steD
      · rw [e3]; exact lU
      · by_cases e4 : w = .laysStatic Bundle.tN "SUPPRESSED_SENTINEL" Bundle.listD
        · rw [e4]; exact lN
        · exact h1 w (List.mem_filter.mpr ⟨hw, by unfold vx_no; rw [decide_eq_true e1, decide_eq_true e2, decide_eq_true e3, decide_eq_true e4]; rfl⟩)
/-- where a static field lies, its class's statics cell in H -/
def vx_L (C n d : String) (A : Nat → Prop) (U : State) (H : Heap) : Prop := ∃ (c : ClassId) (k : Class) (i : Nat) (f : Field) (a : Nat) (cell : Cell), U.vm.findClass C = some c ∧ U.fieldFound? C n d = some (c, k, i, f) ∧ f.isStatic = true ∧ k.statics = some a ∧ H[a]? = some cell ∧ cell.vm.isStatics = true ∧ cell.cls = c ∧ f.slot < cell.slots.size ∧ k.staticTypes[f.slot]? = some f.type ∧ ¬ A a
theorem vx_L.moved {C n d : String} {A : Nat → Prop} {u U : State} {H : Heap} (hvm : u.vm.Alike U.vm) (h : vx_L C n d A u H) : vx_L C n d A U H := by
  obtain ⟨c, k, i, f, a, cell, h1, h2, h3, h4, h5, h6, h7, h8, h9, h10⟩ := h
  obtain ⟨k', hi', he⟩ := State.fieldFound?_setVm hvm h2
  exact ⟨c, k', i, f, a, cell, by rw [hvm.findClass]; exact h1, hi', h3, by rw [he]; exact h4, h5, h6, h7, h8, by rw [he]; exact h9, h10⟩
theorem vx_L.kept {C n d : String} {A : Nat → Prop} {U : State} {H H1 : Heap} (h : vx_L C n d A U H) (hq : ∀ a : Nat, a < H.size → ¬ A a → H1[a]? = H[a]?) : vx_L C n d A U H1 := by
  obtain ⟨c, k, i, f, a, cell, h1, h2, h3, h4, h5, h6, h7, h8, h9, h10⟩ := h
  exact ⟨c, k, i, f, a, cell, h1, h2, h3, h4, by rw [hq a (Array.getElem?_eq_some_iff.mp h5).1 h10]; exact h5, h6, h7, h8, h9, h10⟩
theorem vx_L.narrow {C n d : String} {A B : Nat → Prop} {U : State} {H : Heap} (h : vx_L C n d A U H) (hAB : ∀ q, B q → A q) : vx_L C n d B U H := by
  obtain ⟨c, k, i, f, a, cell, h1, h2, h3, h4, h5, h6, h7, h8, h9, h10⟩ := h
  exact ⟨c, k, i, f, a, cell, h1, h2, h3, h4, h5, h6, h7, h8, h9, fun z => h10 (hAB _ z)⟩
theorem vx_L.word {C n d : String} {A : Nat → Prop} {s : State} {args : Array Value} (h : vx_L C n d A s s.heap) : (Cond.laysStatic C n d).before args s = true := by
  obtain ⟨c, k, i, f, a, cell, h1, h2, h3, h4, h5, h6, h7, h8, h9, -⟩ := h
  show (Cond.laysStatic C n d).holds args s none s [] = true
  exact Cond.laysStatic_of h1 h2 h3 h4 h5 h6 h7 h8 h9
/-- .. and what it holds: null or some reference -/
def vx_Zq (C n d : String) (A : Nat → Prop) (U : State) (H : Heap) : Prop := va_Zq C n d A U H ∧ vx_L C n d A U H
theorem vx_Zq.moved {C n d : String} {A : Nat → Prop} {u U : State} {H : Heap} (hvm : u.vm.Alike U.vm) (h : vx_Zq C n d A u H) : vx_Zq C n d A U H := ⟨va_Zq.moved hvm h.1, vx_L.moved hvm h.2⟩
theorem vx_Zq.kept {C n d : String} {A : Nat → Prop} {U : State} {H H1 : Heap} (h : vx_Zq C n d A U H) (hq : ∀ a : Nat, a < H.size → ¬ A a → H1[a]? = H[a]?) : vx_Zq C n d A U H1 := ⟨va_Zq.kept h.1 hq, vx_L.kept h.2 hq⟩
theorem vx_Zq.narrow {C n d : String} {A B : Nat → Prop} {U : State} {H : Heap} (h : vx_Zq C n d A U H) (hAB : ∀ q, B q → A q) : vx_Zq C n d B U H := ⟨va_Zq.narrow h.1 hAB, vx_L.narrow h.2 hAB⟩
theorem vx_Zqof {args : Array Value} {s : State} {C n d : String} {A : Nat → Prop} (hl : (Cond.laysStatic C n d).before args s = true) (hini : (Cond.initialized C).before args s = true) (h : (Cond.isRef (.static C n d)).before args s = true) (hA : ∀ a : Nat, a < s.heap.size → ¬ A a) : vx_Zq C n d A s s.heap := by
  refine ⟨va_Zqof hl hini h hA, ?_⟩
  obtain ⟨c, k, i, f, a, cell, h1, h2, h3, h4, h5, h6, h7, h8, h9⟩ := Cond.laysStatic_spec hl
  exact ⟨c, k, i, f, a, cell, h1, h2, h3, h4, h5, h6, h7, h8, h9, hA a (Array.getElem?_eq_some_iff.mp h5).1⟩
theorem vx_isRef {C n d : String} {v : Value} {A : Nat → Prop} {s : State} {args : Array Value} (h : va_Z C n d v A s s.heap) (hv : v.isRef = true) : (Cond.isRef (.static C n d)).before args s = true := by
  obtain ⟨cf, kf, fi, f, a, cell, h1, h2, h3, h4, h5, h6, h7, -⟩ := h
  have he : (Term.static C n d).eval args s none [] s = some v := by
    simp [Term.eval, State.fieldNamed?, h1, h2, h4, h5, h6, h7]
  simp only [Cond.before, Cond.holds, Cond.value, he]
  cases v <;> simp_all [Value.isRef]
theorem vx_isRefq {C n d : String} {A : Nat → Prop} {s : State} {args : Array Value} (h : va_Zq C n d A s s.heap) : (Cond.isRef (.static C n d)).before args s = true := by
  rcases h with h | ⟨t, h⟩
  · exact vx_isRef h rfl
  · exact vx_isRef h rfl
/-- the same frame, seen from here: as if the method were called anew in this heap -/
theorem vx_rebase {T : State} (X : Stand p l e R s m args below meth c T locs cells slots) {R' : Room} (hf : R'.frames ≤ R.frames) (hl : R'.locals ≤ R.locals) (hc : cells + R'.cells ≤ R.cells) (hs : slots + R'.slots ≤ R.slots) :
    Stand p l e R' ((T.setVm s.vm).setFrames (.invoking m args :: below)) m args below meth c T [] 0 0 := by
  have htop : (T.setVm s.vm).topJava?.isSome := X.here.top
  have hF : ((T.setVm s.vm).setFrames (.invoking m args :: below)).frames = .invoking m args :: below := State.frames_setFrames _ (State.cur_lt_of_top htop)
  obtain ⟨g₀, hg0⟩ := Option.isSome_iff_exists.mp htop
  obtain ⟨r, hr⟩ := State.topJava?_eq_some.mp hg0
  have hl9 : e.platform.stackLimits (T.setVm s.vm).me = e.platform.stackLimits s.me := X.limits
  have hb9 : (T.setVm s.vm).me.stackBytes = s.me.stackBytes := X.bytes
  refine ⟨X.admits, X.cas, X.clock, hF, ?_, X.hears, X.method, X.code, X.here, X.tail, X.warmed, ?_, ?_, ?_⟩
  · have h := X.room
    have hU : ((T.setVm s.vm).setFrames (.invoking m args :: below)).localsInUse = s.localsInUse := by
      rw [State.localsInUse_invoking hF (meth := meth) (c := c) X.method X.code, State.localsInUse_invoking X.frames X.method X.code]
    simp only [State.hasRoom, Bool.and_eq_true, decide_eq_true_eq] at h ⊢
    obtain ⟨⟨⟨⟨h1, h2, h3, h4, h5, h6⟩, h7⟩, h8⟩, h9⟩ := h
    rw [X.frames, List.length_cons] at h2 h3
    have q1 := X.heapSize
    have q2 := X.used
    simp only [hF, hU, List.length_cons, State.stackLimits_setFrames, State.stackBytes_setFrames, hl9, hb9]
    refine ⟨⟨⟨⟨by omega, by omega, by omega, by omega, by omega, h6⟩, ?_⟩, ?_⟩, X.book⟩
    · show T.heap.size + R'.cells ≤ e.platform.maxCells
      omega
    · show T.slotsUsed + R'.slots ≤ e.platform.maxSlots
      omega
  · rw [State.stackLimits_setFrames]; rfl
  · rw [State.stackBytes_setFrames]; rfl
  · refine ⟨?_, Nat.le_refl _, Nat.le_refl _, ?_, ?_, fun a c9 h9 => ⟨c9, h9, rfl, rfl, fun _ _ => rfl⟩⟩
    · obtain ⟨t, ht, -⟩ := State.frames_cons hr
      show T.setVm s.vm = { ((T.setVm s.vm).setFrames (.invoking m args :: below)).setFrames (T.setVm s.vm).frames with heap := T.heap, slotsUsed := T.slotsUsed }
      rw [State.setFrames_setFrames, State.setFrames_self ht]
      rfl
    · show T.slotsUsed = T.slotsUsed + ((T.heap.toList.drop T.heap.size).map (·.slots.size)).sum
      rw [List.drop_eq_nil_of_le (Nat.le_of_eq Array.length_toList)]
      rfl
    · show ((T.heap.toList.drop T.heap.size).map (·.slots.size)).sum ≤ 0
      rw [List.drop_eq_nil_of_le (Nat.le_of_eq Array.length_toList)]
      exact Nat.le_refl _
/-- 'throw new E()': new; dup; invokespecial; athrow -/
theorem vx_throw0 {cc : ByteArray} {pc : Nat} (hexec : p.tables.exec = Jvm.exec) (hb : c.code = cc) (hl : l.stackTraces = false) {own cls : String} {names : List String} {ik ic mc ms : Nat} {A : Nat → Prop}
    (hown : s.vm.findClass own = some m.cls) (hcls : Bundle.fit cls = true) (hnames : ∀ n ∈ names, Bundle.fit n = true)
    (hk : (Cond.classLink own ik cls).before args s = true) (hini : (Cond.initialized cls).before args s = true) (hat : ∀ w ∈ vx_at0 own ic cls names, w.before args s = true)
    (hgood : ∀ w ∈ Cond.classLink own ik cls :: Cond.initialized cls :: vx_at0 own ic cls names, vx_ot w = true)
    (hU : vx_Zq Bundle.tN "UNASSIGNED_STACK" Bundle.steD A s s.heap) (hN : vx_Zq Bundle.tN "SUPPRESSED_SENTINEL" Bundle.listD A s s.heap) (hS : va_S A s.heap H locs) (hsize : ls.size = c.maxLocals)
    (d0 : decode cc pc = .ok (.new ik, 3)) (d3 : decode cc (pc + 3) = .ok (.dup, 1)) (d4 : decode cc (pc + 4) = .ok (.invokespecial ic, 3)) (d7 : decode cc (pc + 7) = .ok (.athrow, 1))
    (hout : ∀ x ∈ c.exceptionTable.toList, covers x (pc + 7) = false)
    (hRframes : names.length + 3 < R.frames) (hRlocals : (rest.map fun v => v.category).sum + (13 * (names.length + 1) + 42) ≤ R.locals) (hRcells : cells + 1 ≤ R.cells) (hRslots : slots + 6 ≤ R.slots) (hlocks : meth.locks = false)
    (hx : ∀ t : State, s.vm.Alike t.vm → H.size ≤ t.heap.size → (∀ q : Nat, q < H.size → t.heap[q]? = H[q]?) → XC cls s t)
    (hf : ∀ z ∈ locs, free z.base) (hc : cells + 1 ≤ mc) (hs : slots + 6 ≤ ms) :
    W p l e R s m args below meth c H locs cells slots (vx_MQ below Qc XC args s mc ms free) (F0 m pc ls rest) := by
  intro T hT X
  have htr : e.platform.stackTraces = false := (show e.platform.stackTraces = l.stackTraces by rw [X.admits.platform]).trans hl
  have Y := vx_rebase X (R' := { frames := R.frames, locals := R.locals, cells := 1, slots := 6 }) (Nat.le_refl _) (Nat.le_refl _) hRcells hRslots
  obtain ⟨s', hA⟩ : ∃ z, z = (T.setVm s.vm).setFrames (.invoking m args :: below) := ⟨_, rfl⟩
  rw [← hA] at Y
  have hvm : s'.vm = s.vm := by rw [hA]; rfl
  have hhp : s'.heap = H := by rw [hA]; exact hT
  have hW0 : s.WarmedH s'.vm := by rw [hvm]; exact State.WarmedH.refl s
  have hat' : ∀ w ∈ vx_at0 own ic cls names, w.before args s' = true := fun w hw => vx_ot_at hW0 hvm.symm (hgood w (List.mem_cons_of_mem _ (List.mem_cons_of_mem _ hw))) (hat w hw)
  have hk' : (Cond.classLink own ik cls).before args s' = true := vx_ot_at hW0 hvm.symm (hgood _ List.mem_cons_self) hk
  have hini' : (Cond.initialized cls).before args s' = true := vx_ot_at hW0 hvm.symm (hgood _ (List.mem_cons_of_mem _ List.mem_cons_self)) hini
  have hU' : vx_Zq Bundle.tN "UNASSIGNED_STACK" Bundle.steD A s' s'.heap := by rw [hhp]; exact vx_Zq.moved hW0.alike (hU.kept hS.2.1)
  have hN' : vx_Zq Bundle.tN "SUPPRESSED_SENTINEL" Bundle.listD A s' s'.heap := by rw [hhp]; exact vx_Zq.moved hW0.alike (hN.kept hS.2.1)
  have h : ∀ w ∈ Bundle.ownAtoms0 own ic cls names, w.before args s' = true := vx_own hat' (vx_isRefq hU'.1) (vx_isRefq hN'.1) hU'.2.word hN'.2.word
  have hown' : s'.vm.findClass own = some m.cls := by rw [hvm]; exact hown
  have hins : (Cond.instantiable cls 6).before args s' = true := h _ (by simp [Bundle.ownAtoms0])
  obtain ⟨vm₁, cX, kX, hfX, hkX, -, -, X₁, st1⟩ := Y.newCold hexec (own := own) (C := cls) (index := ik) (n := 6) hown' hk' hins hini'
    (g := F0 m pc ls rest) rfl (by rw [hb]; exact d0) (Nat.le_refl _) (Nat.le_refl _)
  generalize hT1 : (T.setVm vm₁).pushCell { cls := cX, slots := kX.instanceTypes.map defaultValue, vm := .none } = T1 at X₁ st1
  have hcat : (Value.ref T.heap.size).category = 1 := rfl
  have hcellA : T1.heap[T.heap.size]? = some (freshCell cX kX) := by rw [← hT1]; exact State.heap_pushCell_size _ _
  have d3' : decode c.code (pc + 3) = .ok (.dup, 1) := by rw [hb]; exact d3
  obtain ⟨U, hsteps, hrun, hend, hW, hsame, ce, hce, hO⟩ := X₁.ctorThrow0 hexec htr (own := own) (cls := cls) (names := names) (ic := ic) hown' hcls hnames h (fun x hx => nomatch hx) hfX hkX hcellA (by rw [hhp, hT]; exact Nat.le_refl _)
    (g := { method := m, pc := pc + 4, locals := ls, stack := .ref T.heap.size :: .ref T.heap.size :: rest, locked := none }) rfl hsize rfl rfl (rest := rest) rfl
    (by rw [hb]; exact d4) (by rw [hb]; exact d7) hout hRframes (by simp only [List.map_cons, List.sum_cons, hcat]; omega) hlocks
  obtain ⟨f1, f2⟩ := vx_frame hsame
  rw [hhp] at f1 f2
  have hWs : s.WarmedH U.vm := State.WarmedH.trans hW0 hW
  have hcl : s.vm.findClass cls = some ce.cls := by
    have h9 := hO.cls
    rw [hvm] at h9
    exact h9
  have hall : s.sameButNew ({ U with vm := s.vm } : State) locs mc ms := by
    subst hA
    obtain ⟨e1, e2⟩ := hsame
    rw [State.setFrames_setFrames] at e1
    have h2 : (T.setVm s.vm).sameButNew ({ U with vm := s.vm } : State) [] (0 + 1) (0 + 6) := ⟨e1, e2⟩
    have h3 := X.same.trans h2
    rw [List.append_nil] at h3
    exact h3.mono hc hs
  refine ⟨U, ?_, .threw T.heap.size, hrun, hend, Or.inr ⟨T.heap.size, rfl, cls, ce, locs, hx U hWs.alike f1 (fun q hq => f2 q hq (fun z hz => nomatch hz)), hce, hO.vm, hcl, hWs, hall, hf⟩⟩
  refine st1 _ ?_
  show Steps p.tables e below (T1.setTop { method := m, pc := pc + 3, locals := ls, stack := .ref T.heap.size :: rest, locked := none }) _
  jvm_step X₁.here [X₁.here.top, hexec, d3', Value.category]
  exact hsteps
/-- 'throw new E("text")': new; dup; ldc; invokespecial; athrow -/
theorem vx_throwS {cc : ByteArray} {pc : Nat} (hexec : p.tables.exec = Jvm.exec) (hb : c.code = cc) (hl : l.stackTraces = false) {own cls text : String} {names : List String} {ik is ic mc ms sa : Nat} {A : Nat → Prop}
    (hown : s.vm.findClass own = some m.cls) (hcls : Bundle.fit cls = true) (hnames : ∀ n ∈ names, Bundle.fit n = true)
    (hk : (Cond.classLink own ik cls).before args s = true) (hini : (Cond.initialized cls).before args s = true) (hstr : vk_R own is text sa s) (hat : ∀ w ∈ vx_atS own ic cls names, w.before args s = true)
    (hgood : ∀ w ∈ Cond.classLink own ik cls :: Cond.initialized cls :: vx_atS own ic cls names, vx_ot w = true)
    (hU : vx_Zq Bundle.tN "UNASSIGNED_STACK" Bundle.steD A s s.heap) (hN : vx_Zq Bundle.tN "SUPPRESSED_SENTINEL" Bundle.listD A s s.heap) (hS : va_S A s.heap H locs) (hsize : ls.size = c.maxLocals)
    (d0 : decode cc pc = .ok (.new ik, 3)) (d3 : decode cc (pc + 3) = .ok (.dup, 1)) (d4 : decode cc (pc + 4) = .ok (.ldc is, 2)) (d6 : decode cc (pc + 6) = .ok (.invokespecial ic, 3)) (d9 : decode cc (pc + 9) = .ok (.athrow, 1))
    (hout : ∀ x ∈ c.exceptionTable.toList, covers x (pc + 9) = false)
    (hRframes : names.length + 3 < R.frames) (hRlocals : (rest.map fun v => v.category).sum + (13 * (names.length + 1) + 43) ≤ R.locals) (hRcells : cells + 1 ≤ R.cells) (hRslots : slots + 6 ≤ R.slots) (hlocks : meth.locks = false)
    (hx : ∀ t : State, s.vm.Alike t.vm → H.size ≤ t.heap.size → (∀ q : Nat, q < H.size → t.heap[q]? = H[q]?) → XC cls s t)
    (hf : ∀ z ∈ locs, free z.base) (hc : cells + 1 ≤ mc) (hs : slots + 6 ≤ ms) :
    W p l e R s m args below meth c H locs cells slots (vx_MQ below Qc XC args s mc ms free) (F0 m pc ls rest) := by
  intro T hT X
  have htr : e.platform.stackTraces = false := (show e.platform.stackTraces = l.stackTraces by rw [X.admits.platform]).trans hl
  have Y := vx_rebase X (R' := { frames := R.frames, locals := R.locals, cells := 1, slots := 6 }) (Nat.le_refl _) (Nat.le_refl _) hRcells hRslots
  obtain ⟨s', hA⟩ : ∃ z, z = (T.setVm s.vm).setFrames (.invoking m args :: below) := ⟨_, rfl⟩
  rw [← hA] at Y
  have hvm : s'.vm = s.vm := by rw [hA]; rfl
  have hhp : s'.heap = H := by rw [hA]; exact hT
  have hW0 : s.WarmedH s'.vm := by rw [hvm]; exact State.WarmedH.refl s
  have hat' : ∀ w ∈ vx_atS own ic cls names, w.before args s' = true := fun w hw => vx_ot_at hW0 hvm.symm (hgood w (List.mem_cons_of_mem _ (List.mem_cons_of_mem _ hw))) (hat w hw)
  have hk' : (Cond.classLink own ik cls).before args s' = true := vx_ot_at hW0 hvm.symm (hgood _ List.mem_cons_self) hk
  have hini' : (Cond.initialized cls).before args s' = true := vx_ot_at hW0 hvm.symm (hgood _ (List.mem_cons_of_mem _ List.mem_cons_self)) hini
  have hU' : vx_Zq Bundle.tN "UNASSIGNED_STACK" Bundle.steD A s' s'.heap := by rw [hhp]; exact vx_Zq.moved hW0.alike (hU.kept hS.2.1)
  have hN' : vx_Zq Bundle.tN "SUPPRESSED_SENTINEL" Bundle.listD A s' s'.heap := by rw [hhp]; exact vx_Zq.moved hW0.alike (hN.kept hS.2.1)
  have h : ∀ w ∈ Bundle.ownAtoms own ic cls names, w.before args s' = true := vx_own hat' (vx_isRefq hU'.1) (vx_isRefq hN'.1) hU'.2.word hN'.2.word
  have hown' : s'.vm.findClass own = some m.cls := by rw [hvm]; exact hown
  have hins : (Cond.instantiable cls 6).before args s' = true := h _ (by simp [Bundle.ownAtoms])
  obtain ⟨vm₁, cX, kX, hfX, hkX, -, -, X₁, st1⟩ := Y.newCold hexec (own := own) (C := cls) (index := ik) (n := 6) hown' hk' hins hini'
    (g := F0 m pc ls rest) rfl (by rw [hb]; exact d0) (Nat.le_refl _) (Nat.le_refl _)
  generalize hT1 : (T.setVm vm₁).pushCell { cls := cX, slots := kX.instanceTypes.map defaultValue, vm := .none } = T1 at X₁ st1
  have hcat : (Value.ref T.heap.size).category = 1 := rfl
  have hcellA : T1.heap[T.heap.size]? = some (freshCell cX kX) := by rw [← hT1]; exact State.heap_pushCell_size _ _
  have d3' : decode c.code (pc + 3) = .ok (.dup, 1) := by rw [hb]; exact d3
  have d4' : decode c.code (pc + 4) = .ok (.ldc is, 2) := by rw [hb]; exact d4
  have hstr' : vk_R own is text sa s' := vk_R.warm hW0 hstr
  obtain ⟨U, hsteps, hrun, hend, hW, hsame, ce, hce, hO⟩ := X₁.ctorThrowS hexec htr (own := own) (cls := cls) (names := names) (ic := ic) hown' hcls hnames h (fun x hx => nomatch hx) hfX hkX hcellA (by rw [hhp, hT]; exact Nat.le_refl _) (msg := .ref sa) rfl
    (g := { method := m, pc := pc + 6, locals := ls, stack := .ref sa :: .ref T.heap.size :: .ref T.heap.size :: rest, locked := none }) rfl hsize rfl rfl (rest := rest) rfl
    (by rw [hb]; exact d6) (by rw [hb]; exact d9) hout hRframes (by simp only [List.map_cons, List.sum_cons, hcat]; omega) hlocks
  obtain ⟨f1, f2⟩ := vx_frame hsame
  rw [hhp] at f1 f2
  have hWs : s.WarmedH U.vm := State.WarmedH.trans hW0 hW
  have hcl : s.vm.findClass cls = some ce.cls := by
    have h9 := hO.cls
    rw [hvm] at h9
    exact h9
  have hall : s.sameButNew ({ U with vm := s.vm } : State) locs mc ms := by
    subst hA
    obtain ⟨e1, e2⟩ := hsame
    rw [State.setFrames_setFrames] at e1
    have h2 : (T.setVm s.vm).sameButNew ({ U with vm := s.vm } : State) [] (0 + 1) (0 + 6) := ⟨e1, e2⟩
    have h3 := X.same.trans h2
    rw [List.append_nil] at h3
    exact h3.mono hc hs
  refine ⟨U, ?_, .threw T.heap.size, hrun, hend, Or.inr ⟨T.heap.size, rfl, cls, ce, locs, hx U hWs.alike f1 (fun q hq => f2 q hq (fun z hz => nomatch hz)), hce, hO.vm, hcl, hWs, hall, hf⟩⟩
  refine st1 _ ?_
  show Steps p.tables e below (T1.setTop { method := m, pc := pc + 3, locals := ls, stack := .ref T.heap.size :: rest, locked := none }) _
  jvm_step X₁.here [X₁.here.top, hexec, d3', Value.category]
  exact X₁.ldcString hexec (own := own) (text := text) (index := is) (a := sa) hown' hstr'.1 hstr'.2
    (g := { method := m, pc := pc + 4, locals := ls, stack := .ref T.heap.size :: .ref T.heap.size :: rest, locked := none }) rfl d4' _ hsteps
/-- 'throw new E("text")', the text by a wide index -/
theorem vx_throwSW {cc : ByteArray} {pc : Nat} (hexec : p.tables.exec = Jvm.exec) (hb : c.code = cc) (hl : l.stackTraces = false) {own cls text : String} {names : List String} {ik is ic mc ms sa : Nat} {A : Nat → Prop}
    (hown : s.vm.findClass own = some m.cls) (hcls : Bundle.fit cls = true) (hnames : ∀ n ∈ names, Bundle.fit n = true)
    (hk : (Cond.classLink own ik cls).before args s = true) (hini : (Cond.initialized cls).before args s = true) (hstr : vk_R own is text sa s) (hat : ∀ w ∈ vx_atS own ic cls names, w.before args s = true)
    (hgood : ∀ w ∈ Cond.classLink own ik cls :: Cond.initialized cls :: vx_atS own ic cls names, vx_ot w = true)
    (hU : vx_Zq Bundle.tN "UNASSIGNED_STACK" Bundle.steD A s s.heap) (hN : vx_Zq Bundle.tN "SUPPRESSED_SENTINEL" Bundle.listD A s s.heap) (hS : va_S A s.heap H locs) (hsize : ls.size = c.maxLocals)
    (d0 : decode cc pc = .ok (.new ik, 3)) (d3 : decode cc (pc + 3) = .ok (.dup, 1)) (d4 : decode cc (pc + 4) = .ok (.ldc_w is, 3)) (d7 : decode cc (pc + 7) = .ok (.invokespecial ic, 3)) (d10 : decode cc (pc + 10) = .ok (.athrow, 1))
    (hout : ∀ x ∈ c.exceptionTable.toList, covers x (pc + 10) = false)
    (hRframes : names.length + 3 < R.frames) (hRlocals : (rest.map fun v => v.category).sum + (13 * (names.length + 1) + 43) ≤ R.locals) (hRcells : cells + 1 ≤ R.cells) (hRslots : slots + 6 ≤ R.slots) (hlocks : meth.locks = false)
    (hx : ∀ t : State, s.vm.Alike t.vm → H.size ≤ t.heap.size → (∀ q : Nat, q < H.size → t.heap[q]? = H[q]?) → XC cls s t)
    (hf : ∀ z ∈ locs, free z.base) (hc : cells + 1 ≤ mc) (hs : slots + 6 ≤ ms) :
    W p l e R s m args below meth c H locs cells slots (vx_MQ below Qc XC args s mc ms free) (F0 m pc ls rest) := by
  intro T hT X
  have htr : e.platform.stackTraces = false := (show e.platform.stackTraces = l.stackTraces by rw [X.admits.platform]).trans hl
  have Y := vx_rebase X (R' := { frames := R.frames, locals := R.locals, cells := 1, slots := 6 }) (Nat.le_refl _) (Nat.le_refl _) hRcells hRslots
  obtain ⟨s', hA⟩ : ∃ z, z = (T.setVm s.vm).setFrames (.invoking m args :: below) := ⟨_, rfl⟩
  rw [← hA] at Y
  have hvm : s'.vm = s.vm := by rw [hA]; rfl
  have hhp : s'.heap = H := by rw [hA]; exact hT
  have hW0 : s.WarmedH s'.vm := by rw [hvm]; exact State.WarmedH.refl s
  have hat' : ∀ w ∈ vx_atS own ic cls names, w.before args s' = true := fun w hw => vx_ot_at hW0 hvm.symm (hgood w (List.mem_cons_of_mem _ (List.mem_cons_of_mem _ hw))) (hat w hw)
  have hk' : (Cond.classLink own ik cls).before args s' = true := vx_ot_at hW0 hvm.symm (hgood _ List.mem_cons_self) hk
  have hini' : (Cond.initialized cls).before args s' = true := vx_ot_at hW0 hvm.symm (hgood _ (List.mem_cons_of_mem _ List.mem_cons_self)) hini
  have hU' : vx_Zq Bundle.tN "UNASSIGNED_STACK" Bundle.steD A s' s'.heap := by rw [hhp]; exact vx_Zq.moved hW0.alike (hU.kept hS.2.1)
  have hN' : vx_Zq Bundle.tN "SUPPRESSED_SENTINEL" Bundle.listD A s' s'.heap := by rw [hhp]; exact vx_Zq.moved hW0.alike (hN.kept hS.2.1)
  have h : ∀ w ∈ Bundle.ownAtoms own ic cls names, w.before args s' = true := vx_own hat' (vx_isRefq hU'.1) (vx_isRefq hN'.1) hU'.2.word hN'.2.word
  have hown' : s'.vm.findClass own = some m.cls := by rw [hvm]; exact hown
  have hins : (Cond.instantiable cls 6).before args s' = true := h _ (by simp [Bundle.ownAtoms])
  obtain ⟨vm₁, cX, kX, hfX, hkX, -, -, X₁, st1⟩ := Y.newCold hexec (own := own) (C := cls) (index := ik) (n := 6) hown' hk' hins hini'
    (g := F0 m pc ls rest) rfl (by rw [hb]; exact d0) (Nat.le_refl _) (Nat.le_refl _)
  generalize hT1 : (T.setVm vm₁).pushCell { cls := cX, slots := kX.instanceTypes.map defaultValue, vm := .none } = T1 at X₁ st1
  have hcat : (Value.ref T.heap.size).category = 1 := rfl
  have hcellA : T1.heap[T.heap.size]? = some (freshCell cX kX) := by rw [← hT1]; exact State.heap_pushCell_size _ _
  have d3' : decode c.code (pc + 3) = .ok (.dup, 1) := by rw [hb]; exact d3
  have d4' : decode c.code (pc + 4) = .ok (.ldc_w is, 3) := by rw [hb]; exact d4
  have hstr' : vk_R own is text sa s' := vk_R.warm hW0 hstr
  obtain ⟨U, hsteps, hrun, hend, hW, hsame, ce, hce, hO⟩ := X₁.ctorThrowS hexec htr (own := own) (cls := cls) (names := names) (ic := ic) hown' hcls hnames h (fun x hx => nomatch hx) hfX hkX hcellA (by rw [hhp, hT]; exact Nat.le_refl _) (msg := .ref sa) rfl
    (g := { method := m, pc := pc + 7, locals := ls, stack := .ref sa :: .ref T.heap.size :: .ref T.heap.size :: rest, locked := none }) rfl hsize rfl rfl (rest := rest) rfl
    (by rw [hb]; exact d7) (by rw [hb]; exact d10) hout hRframes (by simp only [List.map_cons, List.sum_cons, hcat]; omega) hlocks
  obtain ⟨f1, f2⟩ := vx_frame hsame
  rw [hhp] at f1 f2
  have hWs : s.WarmedH U.vm := State.WarmedH.trans hW0 hW
  have hcl : s.vm.findClass cls = some ce.cls := by
    have h9 := hO.cls
    rw [hvm] at h9
    exact h9
  have hall : s.sameButNew ({ U with vm := s.vm } : State) locs mc ms := by
    subst hA
    obtain ⟨e1, e2⟩ := hsame
    rw [State.setFrames_setFrames] at e1
    have h2 : (T.setVm s.vm).sameButNew ({ U with vm := s.vm } : State) [] (0 + 1) (0 + 6) := ⟨e1, e2⟩
    have h3 := X.same.trans h2
    rw [List.append_nil] at h3
    exact h3.mono hc hs
  refine ⟨U, ?_, .threw T.heap.size, hrun, hend, Or.inr ⟨T.heap.size, rfl, cls, ce, locs, hx U hWs.alike f1 (fun q hq => f2 q hq (fun z hz => nomatch hz)), hce, hO.vm, hcl, hWs, hall, hf⟩⟩
  refine st1 _ ?_
  show Steps p.tables e below (T1.setTop { method := m, pc := pc + 3, locals := ls, stack := .ref T.heap.size :: rest, locked := none }) _
  jvm_step X₁.here [X₁.here.top, hexec, d3', Value.category]
  exact X₁.ldcStringW hexec (own := own) (text := text) (index := is) (a := sa) hown' hstr'.1 hstr'.2
    (g := { method := m, pc := pc + 4, locals := ls, stack := .ref T.heap.size :: .ref T.heap.size :: rest, locked := none }) rfl d4' _ hsteps
end Ends
section Bodies
variable {l : Launch}
theorem vx_ofW {y : MethodName} {ws ws' : List Cond} {rm : Room} {Pc : Array Value → State → Prop} {Qc : Array Value → State → Outcome → State → Prop} {XC : String → State → State → Prop} {mc ms : Nat} {free : Addr → Prop} {cc : ByteArray} {maxL : Nat} {ret : Option FieldType}
    (hy : plainName y.cls = true) (hw : ws = Cond.code y cc maxL ret :: ws')
    (body : ∀ p e s m args below meth c s₁, BodyLoose p l y (headSpec ws rm) cc maxL ret e s m args below meth c s₁ → c.maxLocals = maxL → (∀ x ∈ c.exceptionTable.toList, False) → Pc args s →
      W p l e (headSpec ws rm).room s m args below meth c s.heap [] 0 0 (vx_MQ below Qc XC args s mc ms free) (entryFrame m args maxL)) : vx_Met l y ws rm Pc Qc XC mc ms free := by
  refine MetFree.of_bodyS (code := cc) (maxLocals := maxL) (ret := ret) hy ?_ ?_
  · intro args s m h hn
    obtain ⟨meth, c, h1, h2, h3, h4, h5, h6, -, -⟩ := Cond.code_spec hn (atoms_spec (ws := ws) h _ (by rw [hw]; exact List.mem_cons_self))
    exact ⟨meth, c, h1, h2, h3, h4, h5, h6⟩
  · intro p e s m args below meth c s₁ B hml hP _
    have hh0 : s₁.heap = s.heap := by rw [B.state]; rfl
    have ht : ∀ x ∈ c.exceptionTable.toList, False := by
      obtain ⟨meth9, c9, h1, h2, -, -, -, -, h7, -⟩ := Cond.code_spec B.named (atoms_spec (ws := ws) B.pre _ (by rw [hw]; exact List.mem_cons_self))
      cases Option.some.inj (h1.symm.trans B.method)
      cases Option.some.inj (h2.symm.trans (Stand.of_body B).code)
      intro x hx
      rw [Array.isEmpty_iff.mp h7] at hx
      cases hx
    obtain ⟨t, a1, o, b1, b2, b3⟩ := body p e s m args below meth c s₁ B hml ht hP s₁ hh0 (Stand.of_body B)
    exact ⟨t, o, a1, b1, b2, b3⟩
/-- the table of a body with handlers -/
theorem vx_table {p : Program} {x y : MethodName} {S : Spec} {cc bytes : ByteArray} {maxL maxL' : Nat} {ret ret' : Option FieldType} {e : Env} {s s₁ : State} {m : MethodId} {args : Array Value} {below : List Frame} {meth : Method} {c : Code} {hh : List (Nat × Nat × Nat × Nat)}
    (B : BodyLoose p l y S cc maxL ret e s m args below meth c s₁) (h : (Cond.codeWith y bytes maxL' ret' hh).before args s = true) : c.exceptionTable.toList = tableOf hh := by
  obtain ⟨m9, meth9, c9, hn9, h1, h2, -, -, h6, -⟩ := Cond.codeWith_spec h
  cases Option.some.inj (hn9.symm.trans B.named)
  cases Option.some.inj (h1.symm.trans B.method)
  cases Option.some.inj (h2.symm.trans (Stand.of_body B).code)
  rw [← h6, table_eq]
end Bodies
end VXA
/-! ===== END ===== -/
/-! ===== BEGIN a static call of a method with an exception table ===== -/
section VXS
variable {p : Program} {l : Launch} {e : Env} {R : Room} {s : State} {m : MethodId} {args : Array Value} {below : List Frame} {meth : Method} {c : Code} {T : State} {H : Heap} {locs : List Loc} {cells slots : Nat}
abbrev vx_CSW (R : Room) (s : State) (args : Array Value) (own : String) (index : Nat) (y : MethodName) (bytes : ByteArray) (maxL : Nat) (ret : Option FieldType) (hh : List (Nat × Nat × Nat × Nat)) (ws : List Cond) (rm : Room) (mc ms n : Nat) : Prop :=
  (rm.cells = mc ∧ rm.slots = ms ∧ rm.frames + 1 ≤ R.frames ∧ 8 + (maxL + 11) + rm.locals ≤ R.locals ∧ (∀ w ∈ ws, ∀ (a' : Array Value) (U : State), s.WarmedH U.vm → w.before a' U = true) ∧ Cond.codeWith y bytes maxL ret hh ∈ ws) ∧
  (Cond.codeWith y bytes maxL ret hh).before args s = true ∧ (Cond.initialized y.cls).before args s = true ∧ (y.cls ≠ "java/lang/invoke/MethodHandle" ∧ y.cls ≠ "java/lang/invoke/VarHandle") ∧
  (∀ sig, parseMethodDescriptor y.desc = some sig → n = sig.parameters.length) ∧ (Cond.methodLink own index y).before args s = true ∧ (Cond.static y).before args s = true
theorem vx_cwSW {own : String} {index maxL mc ms : Nat} {y : MethodName} {bytes : ByteArray} {ret : Option FieldType} {hh : List (Nat × Nat × Nat × Nat)} {Ts ws ws' : List Cond} {rm : Room} (n : Nat) (ht : ∀ w ∈ Ts, w.before args s = true) (hT : GoodIn Ts (va_wsS own index y ws)) (hw : ws = Cond.codeWith y bytes maxL ret hh :: ws') (hrc : rm.cells = mc) (hrs : rm.slots = ms)
    (hd : y.cls ≠ "java/lang/invoke/MethodHandle" ∧ y.cls ≠ "java/lang/invoke/VarHandle" ∧ (parseMethodDescriptor y.desc).map (fun d => d.parameters.length) = some n) (hR : rm.frames + 1 ≤ R.frames ∧ 8 + (maxL + 11) + rm.locals ≤ R.locals) :
    vx_CSW R s args own index y bytes maxL ret hh ws rm mc ms n := by
  have ok : ∀ w ∈ va_wsS own index y ws, w.before args s = true := fun w h => ht w (hT w h).1
  have hG : GoodIn Ts ws := fun w h => hT w (by unfold va_wsS; exact List.mem_append_right _ h)
  have hc : Cond.codeWith y bytes maxL ret hh ∈ ws := by rw [hw]; exact List.mem_cons_self
  refine ⟨⟨hrc, hrs, hR.1, hR.2, pay_in ht hG, hc⟩, ht _ (hG _ hc).1, ok _ (by simp [va_wsS]), ⟨hd.1, hd.2.1⟩, fun sig h => ?_, ok _ (by simp [va_wsS]), ok _ (by simp [va_wsS])⟩
  have h2 := hd.2.2
  rw [h] at h2
  exact (Option.some.inj h2).symm
theorem vx_callSW (X : Stand p l e R s m args below meth c T locs cells slots) (hexec : p.tables.exec = Jvm.exec) {own : String} {index : Nat} {y : MethodName} {bytes : ByteArray} {maxL : Nat} {ret : Option FieldType} {hh : List (Nat × Nat × Nat × Nat)}
    (hown : s.vm.findClass own = some m.cls) (hlink : (Cond.methodLink own index y).before args s = true) (hstat : (Cond.static y).before args s = true) (hinit : (Cond.initialized y.cls).before args s = true)
    (hcode : (Cond.codeWith y bytes maxL ret hh).before args s = true) (hy : y.cls ≠ "java/lang/invoke/MethodHandle" ∧ y.cls ≠ "java/lang/invoke/VarHandle")
    {W9 : Nat} {Pre : Pt → Array Value → Prop} {Post : Pt → Array Value → Option Value → Pt → Prop} (hK : Back l R p e below s args y 3 W9 Pre Post)
    {g : JFrame} (hg : g.method = m) (hsize : g.locals.size = c.maxLocals) {argsL rest : List Value} (hlen : ∀ sig, parseMethodDescriptor y.desc = some sig → argsL.length = sig.parameters.length)
    (hstack : g.stack = argsL.reverse ++ rest) (hW : 2 * g.monitorRoom + (rest.map fun v => v.category).sum ≤ W9) (hdg : decode c.code g.pc = .ok (.invokestatic index, 3))
    (hpre : ∀ vm₁, s.WarmedH vm₁ → Pre ⟨T.setVm vm₁, locs, cells, slots⟩ argsL.toArray) :
    ∃ (v : Option Value) (vm₁ : Vm) (B : Pt), s.WarmedH vm₁ ∧ Stand p l e R s m args below meth c B.U B.locs B.cells B.slots ∧ Post ⟨T.setVm vm₁, locs, cells, slots⟩ argsL.toArray v B ∧
      ∀ target, Steps p.tables e below (B.U.setTop { g with pc := g.pc + 3, stack := v.toList ++ rest }) target → Steps p.tables e below (T.setTop g) target := by
  obtain ⟨mk, methM, cM, hnamed, hmethM, -, -, -, -, -, -, hsigM⟩ := Cond.codeWith_spec hcode
  have hstatic : methM.isStatic = true := Cond.static_spec hnamed hmethM hstat
  obtain ⟨kP, hkP, -⟩ := className_of_methodNamed hnamed
  have hinitP : kP.init = .initialized := Cond.initialized_spec (findClass_of_methodNamed hnamed) hkP hinit
  obtain ⟨vm₁, X₁, hstep₁⟩ := X.invokestatic hexec hown hlink hnamed hmethM hstatic hkP hinitP hy (g := g) hg (argsL := argsL) (rest := rest) (hlen _ hsigM) hstack hdg
  obtain ⟨v, B, X', hpost, hsteps⟩ := hK m meth c ⟨T.setVm vm₁, locs, cells, slots⟩ { g with stack := rest } (.invokestatic index) mk argsL.toArray X₁ hg hsize hdg hW (X₁.named hnamed) (hpre vm₁ X₁.warmed)
  exact ⟨v, vm₁, B, X₁.warmed, X', hpost, fun target h => hstep₁ _ fun acts => by rw [doInvoke_state]; exact hsteps.trans h⟩
theorem vx_runSW {y : MethodName} {bytes cc : ByteArray} {maxL nL mc ms n index : Nat} {ret : Option FieldType} {hh : List (Nat × Nat × Nat × Nat)} {ws : List Cond} {rm : Room} {Pc : Array Value → State → Prop} {Qc : Array Value → State → Outcome → State → Prop} {free : Addr → Prop} {Ts : List Cond} {own : String} {As rest : List Value} {g : JFrame}
    (S : CallFix p m c cc nL s args Ts own) (hM : Met l y ws rm Pc Qc mc ms free) (cw : vx_CSW R s args own index y bytes maxL ret hh ws rm mc ms n) (hp : PreS s H Pc As)
    (hg : g.method = m) (hn : As.length = n) (hsize : g.locals.size = nL) (hstack : g.stack = As.reverse ++ rest) (hW : 2 * g.monitorRoom + (rest.map fun v => v.category).sum ≤ 8) (hdg : decode cc g.pc = .ok (.invokestatic index, 3)) (hf : cells + mc ≤ R.cells ∧ slots + ms ≤ R.slots) :
    va_Run p l e R s m args below meth c H locs cells slots mc ms g rest (Qc As.toArray) (free) := by
  obtain ⟨⟨hrc, hrs, hfr, hlo, hws, hcw⟩, hcode, hini, hy, hlen, hl, hstt⟩ := cw
  have hK : Back l R p e below s args y 3 8 (PreOf R mc ms Pc) (PostOf Qc mc ms free) := va_backW (hh := hh) (bytes := bytes) (maxL := maxL) (ret := ret) hM hp.1 hrc hrs hfr hlo hws hcw (fun a' U hW => word_at hW (Or.inl (by first | rfl | simp [Cond.onTables, Cond.keeps, Cond.steady])) hini)
  obtain ⟨hx, hb, hml, ho, -⟩ := S
  intro T hT X
  obtain ⟨v, vm₁, ⟨U', l2, c2, s2⟩, hW₁, X', ⟨g', mk, t, L, e1, e2, hq, h1, hL, h2, h3⟩, st⟩ := vx_callSW X hx (hh := hh) (bytes := bytes) (maxL := maxL) (ret := ret) ho hl hstt hini hcode hy hK hg (hsize.trans hml.symm) (argsL := As) (rest := rest) (fun sig h => hn.trans (hlen sig h)) hstack hW (by rw [hb]; exact hdg)
    (fun vm₁ hW₁ => ⟨hf.1, hf.2, hp.2 (T.setVm vm₁) hT hW₁⟩)
  dsimp only [Pt.U, Pt.locs, Pt.cells, Pt.slots] at X' e1 e2 h1 h2 h3 st
  subst h1; subst h2; subst h3
  exact ⟨v, (T.setVm vm₁).calling g' mk As.toArray, t, U', L, hT, X', hL, e1, e2, hq, st⟩
/-- not caught here, past rows that name other classes: it goes on to the caller -/
theorem vx_outP {p : Program} {l : Launch} {e : Env} {R : Room} {s : State} {m : MethodId} {args : Array Value} {below : List Frame} {meth : Method} {c : Code} {H : Heap} {locs : List Loc} {cells slots : Nat} {free : Addr → Prop} {ls : Array Slot} {rest : List Value} {Qc : Array Value → State → Outcome → State → Prop} {XC : String → State → State → Prop}
    {pc : Nat} {own E : String} {ce : Cell} {q : Addr} {mc ms : Nat} (hown : s.vm.findClass own = some m.cls) (hlocks : meth.locks = false)
    (hpass : ∀ z ∈ c.exceptionTable.toList, covers z pc = false ∨ (z.catchType ≠ 0 ∧ ∃ nm : String, (Cond.classLink own z.catchType nm).before args s = true ∧ va_Nc E nm s)) (hcell : H[q]? = some ce) (hv : ce.vm = .none) (hcl : s.vm.findClass E = some ce.cls)
    (hx : ∀ t : State, t.heap = H → s.vm.Alike t.vm → XC E s t) (hf : ∀ z ∈ locs, free z.base) (hc : cells ≤ mc) (hs : slots ≤ ms) :
    vx_W p l e R s m args below meth c H locs cells slots (vx_MQ below Qc XC args s mc ms free) (F0 m pc ls rest) q := by
  intro T hT X
  have hpl : e.platform.magicAccessors = ({} : Platform).magicAccessors := by rw [X.admits.platform]
  obtain ⟨vm', hW', X', st⟩ := X.outThrough hlocks q (g := F0 m pc ls rest) rfl rfl rfl (cell := ce) (by rw [hT]; exact hcell) (by rw [hv]; rfl)
    (by obtain ⟨k9, h9, -⟩ := Vm.findClass_spec hcl; exact ⟨k9, h9⟩) (fun z hz => by
      rcases hpass z hz with h | ⟨hz0, nm, hl1, hn1⟩
      · exact Or.inl h
      · obtain ⟨c6, hc6, hcl6⟩ := Cond.classLink_spec hown hl1 e.platform hpl
        obtain ⟨a8, b8, h1, h2, h3⟩ := hn1
        cases Option.some.inj (h1.symm.trans hcl)
        cases Option.some.inj (h2.symm.trans hc6)
        exact Or.inr ⟨hz0, _, hcl6, h3⟩)
  obtain ⟨g₀, hfr⟩ := X'.frames_eq
  have hcell9 : ((T.setVm vm').setFrames (.throwing q :: below)).heap[q]? = some ce := by
    show T.heap[q]? = some ce
    rw [hT]; exact hcell
  have hend : Ended ((T.setVm vm').setFrames (.throwing q :: below)) below (.threw q) := State.frames_setFrames _ (State.cur_lt_of_frames hfr)
  refine ⟨(T.setVm vm').setFrames (.throwing q :: below), ?_, .threw q, X'.here.running, hend, Or.inr ⟨q, rfl, E, ce, locs, hx _ hT (X'.ends _).1.alike, hcell9, hv, hcl, (X'.ends _).1, (X'.ends _).2.mono hc hs, hf⟩⟩
  rw [X.pushThrowing_eq]
  exact st
/-- a thing of a world lies in the heap -/
theorem vx_lt {D : va_G} {cl : List vw_C} {ws : va_W} {H1 : Heap} (h : va_P D cl ws H1) {k : Nat} {q : Nat × va_E} (hk : ws[k]? = some q) : q.1 < H1.size := (h k q hk).lt
end VXS
/-! ===== END ===== -/
/-! ===== BEGIN methods with a table of their own: called by a name, returning or throwing ===== -/
section VXH
/-! vx_backW, vx_callVX, vx_callSX, vx_callVW, vx_runVW, vx_runVX, vx_runSX, vx_ofWH follow the same proofs as their sisters above (Free/Laws.lean, Shelf42/LK1.lean); vx_outP calls Shelf42/NT130.lean (outThrough). -/
section
variable {l : Launch} {R : Room} {p : Program} {e : Env} {below : List Frame} {s : State} {sargs : Array Value} {y : MethodName} {len W9 : Nat}
theorem vx_backW {ws : List Cond} {rm : Room} {Pc : Array Value → State → Prop} {Qc : Array Value → State → Outcome → State → Prop} {XC : String → State → State → Prop} {mc ms : Nat} {free : Addr → Prop} {bytes : ByteArray} {maxL : Nat} {ret : Option FieldType} {hh : List (Nat × Nat × Nat × Nat)}
    (hM : vx_Met l y ws rm Pc Qc XC mc ms free) (hblind : FrameBlind Pc) (hrc : rm.cells = mc) (hrs : rm.slots = ms)
    (hframes : rm.frames + 1 ≤ R.frames) (hlocals : W9 + (maxL + 11) + rm.locals ≤ R.locals)
    (hws : ∀ w ∈ ws, ∀ a' U, s.WarmedH U.vm → w.before a' U = true) (hcode : Cond.codeWith y bytes maxL ret hh ∈ ws) (hinit : ∀ a' U, s.WarmedH U.vm → (Cond.initialized y.cls).before a' U = true) :
    vx_Back l R p e below s sargs y len W9 (PreOf R mc ms Pc) (PostOf Qc mc ms free) (vx_Post XC mc ms free) := by
  intro m meth c A g ig mk a X hg hsize hdg hW hn hp
  have h1 : (headSpec ws rm).pre.before a A.U = true := atoms_intro fun w hw => hws w hw _ _ X.warmed
  have h2 : (Cond.codeWith y bytes maxL ret hh).before a A.U = true := hws _ hcode _ _ X.warmed
  have h3 : (Cond.initialized y.cls).before a A.U = true := hinit _ _ X.warmed
  have h4 : A.cells + (headSpec ws rm).room.cells ≤ R.cells := by rw [show (headSpec ws rm).room.cells = mc from hrc]; exact hp.1
  have h5 : A.slots + (headSpec ws rm).room.slots ≤ R.slots := by rw [show (headSpec ws rm).room.slots = ms from hrs]; exact hp.2.1
  have hPc : Pc a (A.U.calling g mk a) := hblind _ _ _ _ hp.2.2
  obtain ⟨U, Ls, c0, s0⟩ := A
  dsimp only [Pt.U, Pt.locs, Pt.cells, Pt.slots] at h1 h2 h3 h4 h5 X hn hPc ⊢
  obtain ⟨m9, methY, cY, hn9, hmY, hcY, -, hlY, -⟩ := Cond.codeWith_spec h2
  cases Option.some.inj (hn9.symm.trans hn)
  obtain ⟨kY, hkY, -⟩ := className_of_methodNamed hn
  have hinitY : kY.init = .initialized := Cond.initialized_spec (findClass_of_methodNamed hn) hkY h3
  have h : At U g.method c below := by rw [hg]; exact X.here
  have hlocals9 : W9 + (maxL + 11) + (headSpec ws rm).room.locals ≤ R.locals := hlocals
  have happ : (headSpec ws rm).appliesLoose y e.platform (U.calling g mk a) = true :=
    Spec.appliesLoose_calling (g := g) h hdg hn hkY hinitY
      (X.room_calling (g := g) (R' := (headSpec ws rm).room) hsize hmY hcY hframes (by rw [hlY]; omega) h4 h5) h1
  obtain ⟨mid, hmid⟩ := h.above
  have hfr : (U.setTop g).frames = (.java g :: mid) ++ below := by rw [State.frames_setTop' g h.top, hmid]; rfl
  obtain ⟨o, s₂, hsteps, -, hend, hq⟩ := Steps.callFree hM p X.admits X.cas X.clock (acts := []) hfr happ hPc trivial
  have hq' : vx_Q Qc XC mc ms free a (U.calling g mk a) o s₂ := hq
  rw [State.frames_setTop' g h.top] at hend
  obtain ⟨g₀, hg0⟩ := Option.isSome_iff_exists.mp h.top
  obtain ⟨r, hr⟩ := State.topJava?_eq_some.mp hg0
  have hr' : (({ U with heap := s₂.heap, slotsUsed := s₂.slotsUsed } : State).setVm s₂.vm).frames = .java g₀ :: r := hr
  rcases hq' with ⟨hqc, L, hfe, hL⟩ | ⟨q, rfl, E, ce, L, hx, hce, hcv, hcl, hW₂, hsm, hL⟩
  · obtain ⟨⟨v, rfl⟩, hW₂, e2, q2, q3, q4, q5, q6⟩ := id hfe
    have e3 : s₂ = ({ (U.calling g mk a).setFrames s₂.frames with heap := s₂.heap, slotsUsed := s₂.slotsUsed } : State).setVm s₂.vm := by
      have : s₂ = ({ s₂ with vm := (U.calling g mk a).vm } : State).setVm s₂.vm := rfl
      rw [e2] at this
      exact this
    obtain ⟨c₂, i₂, len₂, hc₂, hd₂, hf₂⟩ := hend
    have hW' : U.WarmedH s₂.vm := hW₂
    have hcc : c₂ = c := by
      have h1 : s₂.code? g.method = U.code? g.method := by
        rw [State.code?_eq, State.code?_eq, hW'.alike.method?]
      exact Option.some.inj (hc₂.symm.trans (h1.trans h.code))
    subst hcc
    have hlen : len₂ = len := by rw [hdg] at hd₂; cases hd₂; rfl
    subst hlen
    have hs₂ : s₂ = (({ U with heap := s₂.heap, slotsUsed := s₂.slotsUsed } : State).setVm s₂.vm).setTop { g with pc := g.pc + len₂, stack := v.toList ++ g.stack } := by
      refine e3.trans ?_
      rw [hf₂, State.calling_eq h.top, State.setFrames_setFrames, State.setTop_of_frames _ hr', hr]
      rfl
    have hsame : U.sameButNew ({ U with heap := s₂.heap, slotsUsed := s₂.slotsUsed } : State) L mc ms := by
      refine ⟨?_, q2, q3, q4, q5, q6⟩
      obtain ⟨t, ht, -⟩ := State.frames_cons hr
      show ({ U with heap := s₂.heap, slotsUsed := s₂.slotsUsed } : State) = { U.setFrames U.frames with heap := s₂.heap, slotsUsed := s₂.slotsUsed }
      rw [State.setFrames_self ht]
    subst hg
    refine Or.inl ⟨v, ⟨(({ U with heap := s₂.heap, slotsUsed := s₂.slotsUsed } : State).setVm s₂.vm), Ls ++ L, c0 + mc, s0 + ms⟩,
      ⟨X.admits, X.cas, X.clock, X.frames, X.room, X.hears, X.method, X.code, (X.here.setHeapUsed s₂.heap s₂.slotsUsed).setVm hW'.alike, X.tail, State.WarmedH.trans X.warmed hW', X.limits, X.bytes, X.same.trans (hsame.setVm s.vm)⟩,
      ⟨g, mk, s₂, L, rfl, rfl, hqc, rfl, hL, rfl, rfl⟩, ?_⟩
    show Steps p.tables e below _ ((({ U with heap := s₂.heap, slotsUsed := s₂.slotsUsed } : State).setVm s₂.vm).setTop { g with pc := g.pc + len₂, stack := v.toList ++ g.stack })
    rw [← hs₂]
    exact hsteps
  · obtain ⟨e2, q2, q3, q4, q5, q6⟩ := id hsm
    have e3 : s₂ = ({ (U.calling g mk a).setFrames s₂.frames with heap := s₂.heap, slotsUsed := s₂.slotsUsed } : State).setVm s₂.vm := by
      have : s₂ = ({ s₂ with vm := (U.calling g mk a).vm } : State).setVm s₂.vm := rfl
      rw [e2] at this
      exact this
    have hf₂ : s₂.frames = .throwing q :: .java g :: U.frames.tail := hend
    have hW' : U.WarmedH s₂.vm := hW₂
    have hs₂ : s₂ = ((({ U with heap := s₂.heap, slotsUsed := s₂.slotsUsed } : State).setVm s₂.vm).setTop g).pushFrame (.throwing q) := by
      refine e3.trans ?_
      rw [hf₂, State.calling_eq h.top, State.setFrames_setFrames, State.pushFrame, State.frames_setTop _ hr', State.setTop_of_frames _ hr', State.setFrames_setFrames, hr]
      rfl
    have hsame : U.sameButNew ({ U with heap := s₂.heap, slotsUsed := s₂.slotsUsed } : State) L mc ms := by
      refine ⟨?_, q2, q3, q4, q5, q6⟩
      obtain ⟨t, ht, -⟩ := State.frames_cons hr
      show ({ U with heap := s₂.heap, slotsUsed := s₂.slotsUsed } : State) = { U.setFrames U.frames with heap := s₂.heap, slotsUsed := s₂.slotsUsed }
      rw [State.setFrames_self ht]
    subst hg
    refine Or.inr ⟨q, ⟨(({ U with heap := s₂.heap, slotsUsed := s₂.slotsUsed } : State).setVm s₂.vm), Ls ++ L, c0 + mc, s0 + ms⟩,
      ⟨X.admits, X.cas, X.clock, X.frames, X.room, X.hears, X.method, X.code, (X.here.setHeapUsed s₂.heap s₂.slotsUsed).setVm hW'.alike, X.tail, State.WarmedH.trans X.warmed hW', X.limits, X.bytes, X.same.trans (hsame.setVm s.vm)⟩,
      ⟨g, mk, s₂, L, E, ce, rfl, rfl, hx, hce, hcv, hcl, rfl, hL, rfl, rfl⟩, ?_⟩
    show Steps p.tables e below _ (((({ U with heap := s₂.heap, slotsUsed := s₂.slotsUsed } : State).setVm s₂.vm).setTop g).pushFrame (.throwing q))
    rw [← hs₂]
    exact hsteps
end
variable {p : Program} {l : Launch} {e : Env} {R : Room} {s : State} {m : MethodId} {args : Array Value} {below : List Frame} {meth : Method} {c : Code} {T : State} {H : Heap} {locs : List Loc} {cells slots : Nat}
theorem vx_callVX (X : Stand p l e R s m args below meth c T locs cells slots) (hexec : p.tables.exec = Jvm.exec) {own C : String} {index : Nat} {y : MethodName} {bytes : ByteArray} {maxL : Nat} {ret : Option FieldType} {hh : List (Nat × Nat × Nat × Nat)}
    (hown : s.vm.findClass own = some m.cls) (hlink : (Cond.methodLink own index y).before args s = true) (hinst : (Cond.instanceMethod y).before args s = true) (hsel : (Cond.selects C y y).before args s = true)
    (hcode : (Cond.codeWith y bytes maxL ret hh).before args s = true) (hy : y.cls ≠ "java/lang/invoke/MethodHandle" ∧ y.cls ≠ "java/lang/invoke/VarHandle")
    {W9 : Nat} {Pre : Pt → Array Value → Prop} {Post : Pt → Array Value → Option Value → Pt → Prop} {PostX : Pt → Array Value → Addr → Pt → Prop} (hK : vx_Back l R p e below s args y 3 W9 Pre Post PostX)
    {b : Addr} {cellB : Cell} (hcell : T.heap[b]? = some cellB) (hobj : cellB.vm.isStatics = false) (hcls : s.vm.findClass C = some cellB.cls)
    {g : JFrame} (hg : g.method = m) (hsize : g.locals.size = c.maxLocals) {argsL rest : List Value} (hlen : ∀ sig, parseMethodDescriptor y.desc = some sig → argsL.length = sig.parameters.length)
    (hstack : g.stack = argsL.reverse ++ .ref b :: rest) (hW : 2 * g.monitorRoom + (rest.map fun v => v.category).sum ≤ W9) (hdg : decode c.code g.pc = .ok (.invokevirtual index, 3))
    (hpre : ∀ vm₁, s.WarmedH vm₁ → Pre ⟨T.setVm vm₁, locs, cells, slots⟩ (Value.ref b :: argsL).toArray) :
    (∃ (v : Option Value) (vm₁ : Vm) (B : Pt), s.WarmedH vm₁ ∧ Stand p l e R s m args below meth c B.U B.locs B.cells B.slots ∧ Post ⟨T.setVm vm₁, locs, cells, slots⟩ (Value.ref b :: argsL).toArray v B ∧
      ∀ target, Steps p.tables e below (B.U.setTop { g with pc := g.pc + 3, stack := v.toList ++ rest }) target → Steps p.tables e below (T.setTop g) target) ∨
    (∃ (q : Addr) (vm₁ : Vm) (B : Pt), s.WarmedH vm₁ ∧ Stand p l e R s m args below meth c B.U B.locs B.cells B.slots ∧ PostX ⟨T.setVm vm₁, locs, cells, slots⟩ (Value.ref b :: argsL).toArray q B ∧
      Steps p.tables e below (T.setTop g) ((B.U.setTop { g with stack := rest }).pushFrame (.throwing q))) := by
  obtain ⟨mk, methM, hnamed, hmethM, hstM, habM⟩ := Cond.instanceMethod_spec hinst
  obtain ⟨m8, methM', cM, hn8, hmethM', -, -, -, -, -, -, hsigM⟩ := Cond.codeWith_spec hcode
  cases Option.some.inj (hn8.symm.trans hnamed)
  cases hmethM.symm.trans hmethM'
  obtain ⟨c2, r2, m2, q1, q2, q3, q4, kP, hkP, hkPi⟩ := Cond.selects_spec hsel
  cases hcls.symm.trans q1
  cases (State.methodFound?_of_named hnamed hy).symm.trans q2
  cases hnamed.symm.trans q3
  have hselP : selectMethod e.platform s.vm cellB.cls mk = .method mk := by rw [Launch.admits_selectMethod X.admits]; exact q4
  obtain ⟨vm₁, X₁, hstep₁⟩ := X.invokevirtual hexec hown hlink hnamed hmethM hstM hkP hkPi hy (a := b) (cell := cellB) hcell
    (fun z h => by rw [h] at hobj; cases hobj) hselP hmethM habM hkP hkPi (g := g) hg (argsL := argsL) (rest := rest) (hlen _ hsigM) hstack hdg
  rcases hK m meth c ⟨T.setVm vm₁, locs, cells, slots⟩ { g with stack := rest } (.invokevirtual index) mk (Value.ref b :: argsL).toArray X₁ hg hsize hdg hW (X₁.named hnamed) (hpre vm₁ X₁.warmed) with ⟨v, B, X', hpost, hsteps⟩ | ⟨q, B, X', hpost, hsteps⟩
  · exact Or.inl ⟨v, vm₁, B, X₁.warmed, X', hpost, fun target h => hstep₁ _ fun acts => by rw [doInvoke_state]; exact hsteps.trans h⟩
  · exact Or.inr ⟨q, vm₁, B, X₁.warmed, X', hpost, hstep₁ _ fun acts => by rw [doInvoke_state]; exact hsteps⟩
theorem vx_callSX (X : Stand p l e R s m args below meth c T locs cells slots) (hexec : p.tables.exec = Jvm.exec) {own : String} {index : Nat} {y : MethodName} {bytes : ByteArray} {maxL : Nat} {ret : Option FieldType} {hh : List (Nat × Nat × Nat × Nat)}
    (hown : s.vm.findClass own = some m.cls) (hlink : (Cond.methodLink own index y).before args s = true) (hstat : (Cond.static y).before args s = true) (hinit : (Cond.initialized y.cls).before args s = true)
    (hcode : (Cond.codeWith y bytes maxL ret hh).before args s = true) (hy : y.cls ≠ "java/lang/invoke/MethodHandle" ∧ y.cls ≠ "java/lang/invoke/VarHandle")
    {W9 : Nat} {Pre : Pt → Array Value → Prop} {Post : Pt → Array Value → Option Value → Pt → Prop} {PostX : Pt → Array Value → Addr → Pt → Prop} (hK : vx_Back l R p e below s args y 3 W9 Pre Post PostX)
    {g : JFrame} (hg : g.method = m) (hsize : g.locals.size = c.maxLocals) {argsL rest : List Value} (hlen : ∀ sig, parseMethodDescriptor y.desc = some sig → argsL.length = sig.parameters.length)
    (hstack : g.stack = argsL.reverse ++ rest) (hW : 2 * g.monitorRoom + (rest.map fun v => v.category).sum ≤ W9) (hdg : decode c.code g.pc = .ok (.invokestatic index, 3))
    (hpre : ∀ vm₁, s.WarmedH vm₁ → Pre ⟨T.setVm vm₁, locs, cells, slots⟩ argsL.toArray) :
    (∃ (v : Option Value) (vm₁ : Vm) (B : Pt), s.WarmedH vm₁ ∧ Stand p l e R s m args below meth c B.U B.locs B.cells B.slots ∧ Post ⟨T.setVm vm₁, locs, cells, slots⟩ argsL.toArray v B ∧
      ∀ target, Steps p.tables e below (B.U.setTop { g with pc := g.pc + 3, stack := v.toList ++ rest }) target → Steps p.tables e below (T.setTop g) target) ∨
    (∃ (q : Addr) (vm₁ : Vm) (B : Pt), s.WarmedH vm₁ ∧ Stand p l e R s m args below meth c B.U B.locs B.cells B.slots ∧ PostX ⟨T.setVm vm₁, locs, cells, slots⟩ argsL.toArray q B ∧
      Steps p.tables e below (T.setTop g) ((B.U.setTop { g with stack := rest }).pushFrame (.throwing q))) := by
  obtain ⟨mk, methM, cM, hnamed, hmethM, -, -, -, -, -, -, hsigM⟩ := Cond.codeWith_spec hcode
  have hstatic : methM.isStatic = true := Cond.static_spec hnamed hmethM hstat
  obtain ⟨kP, hkP, -⟩ := className_of_methodNamed hnamed
  have hinitP : kP.init = .initialized := Cond.initialized_spec (findClass_of_methodNamed hnamed) hkP hinit
  obtain ⟨vm₁, X₁, hstep₁⟩ := X.invokestatic hexec hown hlink hnamed hmethM hstatic hkP hinitP hy (g := g) hg (argsL := argsL) (rest := rest) (hlen _ hsigM) hstack hdg
  rcases hK m meth c ⟨T.setVm vm₁, locs, cells, slots⟩ { g with stack := rest } (.invokestatic index) mk argsL.toArray X₁ hg hsize hdg hW (X₁.named hnamed) (hpre vm₁ X₁.warmed) with ⟨v, B, X', hpost, hsteps⟩ | ⟨q, B, X', hpost, hsteps⟩
  · exact Or.inl ⟨v, vm₁, B, X₁.warmed, X', hpost, fun target h => hstep₁ _ fun acts => by rw [doInvoke_state]; exact hsteps.trans h⟩
  · exact Or.inr ⟨q, vm₁, B, X₁.warmed, X', hpost, hstep₁ _ fun acts => by rw [doInvoke_state]; exact hsteps⟩
theorem vx_callVW (X : Stand p l e R s m args below meth c T locs cells slots) (hexec : p.tables.exec = Jvm.exec) {own C : String} {index : Nat} {y : MethodName} {bytes : ByteArray} {maxL : Nat} {ret : Option FieldType} {hh : List (Nat × Nat × Nat × Nat)}
    (hown : s.vm.findClass own = some m.cls) (hlink : (Cond.methodLink own index y).before args s = true) (hinst : (Cond.instanceMethod y).before args s = true) (hsel : (Cond.selects C y y).before args s = true)
    (hcode : (Cond.codeWith y bytes maxL ret hh).before args s = true) (hy : y.cls ≠ "java/lang/invoke/MethodHandle" ∧ y.cls ≠ "java/lang/invoke/VarHandle")
    {W9 : Nat} {Pre : Pt → Array Value → Prop} {Post : Pt → Array Value → Option Value → Pt → Prop} (hK : Back l R p e below s args y 3 W9 Pre Post)
    {b : Addr} {cellB : Cell} (hcell : T.heap[b]? = some cellB) (hobj : cellB.vm.isStatics = false) (hcls : s.vm.findClass C = some cellB.cls)
    {g : JFrame} (hg : g.method = m) (hsize : g.locals.size = c.maxLocals) {argsL rest : List Value} (hlen : ∀ sig, parseMethodDescriptor y.desc = some sig → argsL.length = sig.parameters.length)
    (hstack : g.stack = argsL.reverse ++ .ref b :: rest) (hW : 2 * g.monitorRoom + (rest.map fun v => v.category).sum ≤ W9) (hdg : decode c.code g.pc = .ok (.invokevirtual index, 3))
    (hpre : ∀ vm₁, s.WarmedH vm₁ → Pre ⟨T.setVm vm₁, locs, cells, slots⟩ (Value.ref b :: argsL).toArray) :
    ∃ (v : Option Value) (vm₁ : Vm) (B : Pt), s.WarmedH vm₁ ∧ Stand p l e R s m args below meth c B.U B.locs B.cells B.slots ∧ Post ⟨T.setVm vm₁, locs, cells, slots⟩ (Value.ref b :: argsL).toArray v B ∧
      ∀ target, Steps p.tables e below (B.U.setTop { g with pc := g.pc + 3, stack := v.toList ++ rest }) target → Steps p.tables e below (T.setTop g) target := by
  obtain ⟨mk, methM, hnamed, hmethM, hstM, habM⟩ := Cond.instanceMethod_spec hinst
  obtain ⟨m8, methM', cM, hn8, hmethM', -, -, -, -, -, -, hsigM⟩ := Cond.codeWith_spec hcode
  cases Option.some.inj (hn8.symm.trans hnamed)
  cases hmethM.symm.trans hmethM'
  obtain ⟨c2, r2, m2, q1, q2, q3, q4, kP, hkP, hkPi⟩ := Cond.selects_spec hsel
  cases hcls.symm.trans q1
  cases (State.methodFound?_of_named hnamed hy).symm.trans q2
  cases hnamed.symm.trans q3
  have hselP : selectMethod e.platform s.vm cellB.cls mk = .method mk := by rw [Launch.admits_selectMethod X.admits]; exact q4
  obtain ⟨vm₁, X₁, hstep₁⟩ := X.invokevirtual hexec hown hlink hnamed hmethM hstM hkP hkPi hy (a := b) (cell := cellB) hcell
    (fun z h => by rw [h] at hobj; cases hobj) hselP hmethM habM hkP hkPi (g := g) hg (argsL := argsL) (rest := rest) (hlen _ hsigM) hstack hdg
  obtain ⟨v, B, X', hpost, hsteps⟩ := hK m meth c ⟨T.setVm vm₁, locs, cells, slots⟩ { g with stack := rest } (.invokevirtual index) mk (Value.ref b :: argsL).toArray X₁ hg hsize hdg hW (X₁.named hnamed) (hpre vm₁ X₁.warmed)
  exact ⟨v, vm₁, B, X₁.warmed, X', hpost, fun target h => hstep₁ _ fun acts => by rw [doInvoke_state]; exact hsteps.trans h⟩
abbrev vx_CVW (R : Room) (s : State) (args : Array Value) (own C : String) (index : Nat) (y : MethodName) (bytes : ByteArray) (maxL : Nat) (ret : Option FieldType) (hh : List (Nat × Nat × Nat × Nat)) (ws : List Cond) (rm : Room) (mc ms n : Nat) : Prop :=
  (rm.cells = mc ∧ rm.slots = ms ∧ rm.frames + 1 ≤ R.frames ∧ 8 + (maxL + 11) + rm.locals ≤ R.locals ∧ (∀ w ∈ ws, ∀ (a' : Array Value) (U : State), s.WarmedH U.vm → w.before a' U = true) ∧ Cond.codeWith y bytes maxL ret hh ∈ ws) ∧
  (Cond.codeWith y bytes maxL ret hh).before args s = true ∧ (Cond.initialized y.cls).before args s = true ∧ (y.cls ≠ "java/lang/invoke/MethodHandle" ∧ y.cls ≠ "java/lang/invoke/VarHandle") ∧
  (∀ sig, parseMethodDescriptor y.desc = some sig → n = sig.parameters.length) ∧ (Cond.methodLink own index y).before args s = true ∧ (Cond.instanceMethod y).before args s = true ∧ (Cond.selects C y y).before args s = true
theorem vx_cwVW {own C : String} {index maxL mc ms : Nat} {y : MethodName} {bytes : ByteArray} {ret : Option FieldType} {hh : List (Nat × Nat × Nat × Nat)} {Ts ws ws' : List Cond} {rm : Room} (n : Nat) (ht : ∀ w ∈ Ts, w.before args s = true) (hT : GoodIn Ts (wsV own index C y ws)) (hw : ws = Cond.codeWith y bytes maxL ret hh :: ws') (hrc : rm.cells = mc) (hrs : rm.slots = ms)
    (hd : y.cls = C ∧ y.cls ≠ "java/lang/invoke/MethodHandle" ∧ y.cls ≠ "java/lang/invoke/VarHandle" ∧ (parseMethodDescriptor y.desc).map (fun d => d.parameters.length) = some n) (hR : rm.frames + 1 ≤ R.frames ∧ 8 + (maxL + 11) + rm.locals ≤ R.locals) :
    vx_CVW R s args own C index y bytes maxL ret hh ws rm mc ms n := by
  obtain ⟨hC, hd⟩ := hd
  subst hC
  have ok : ∀ w ∈ wsV own index y.cls y ws, w.before args s = true := fun w h => ht w (hT w h).1
  have hG : GoodIn Ts ws := fun w h => hT w (by unfold wsV; exact List.mem_append_right _ h)
  have hc : Cond.codeWith y bytes maxL ret hh ∈ ws := by rw [hw]; exact List.mem_cons_self
  refine ⟨⟨hrc, hrs, hR.1, hR.2, pay_in ht hG, hc⟩, ht _ (hG _ hc).1, ok _ (by simp [wsV]), ⟨hd.1, hd.2.1⟩, fun sig h => ?_, ok _ (by simp [wsV]), ok _ (by simp [wsV]), ok _ (by simp [wsV])⟩
  have h2 := hd.2.2
  rw [h] at h2
  exact (Option.some.inj h2).symm
theorem vx_runVW {y : MethodName} {bytes cc : ByteArray} {maxL nL mc ms n index : Nat} {ret : Option FieldType} {hh : List (Nat × Nat × Nat × Nat)} {ws : List Cond} {rm : Room} {Pc : Array Value → State → Prop} {Qc : Array Value → State → Outcome → State → Prop} {free : Addr → Prop} {Ts : List Cond} {own C : String} {b : Addr} {As rest : List Value} {g : JFrame}
    (S : CallFix p m c cc nL s args Ts own) (hM : Met l y ws rm Pc Qc mc ms free) (cw : vx_CVW R s args own C index y bytes maxL ret hh ws rm mc ms n) (hp : PreV s H C b Pc As)
    (hg : g.method = m) (hn : As.length = n) (hsize : g.locals.size = nL) (hstack : g.stack = As.reverse ++ .ref b :: rest) (hW : 2 * g.monitorRoom + (rest.map fun v => v.category).sum ≤ 8) (hdg : decode cc g.pc = .ok (.invokevirtual index, 3)) (hf : cells + mc ≤ R.cells ∧ slots + ms ≤ R.slots) :
    va_Run p l e R s m args below meth c H locs cells slots mc ms g rest (Qc (Value.ref b :: As).toArray) free := by
  obtain ⟨⟨hrc, hrs, hfr, hlo, hws, hcw⟩, hcode, hini, hy, hlen, hl, hin, hse⟩ := cw
  have hK : Back l R p e below s args y 3 8 (PreOf R mc ms Pc) (PostOf Qc mc ms free) := va_backW (hh := hh) (bytes := bytes) (maxL := maxL) (ret := ret) hM hp.1 hrc hrs hfr hlo hws hcw (fun a' U hW => word_at hW (Or.inl (by first | rfl | simp [Cond.onTables, Cond.keeps, Cond.steady])) hini)
  obtain ⟨hx, hb, hml, ho, -⟩ := S
  obtain ⟨-, ⟨cellB, hcB, hoB, hclB⟩, hPc⟩ := hp
  intro T hT X
  obtain ⟨v, vm₁, ⟨U', l2, c2, s2⟩, hW₁, X', ⟨g', mk, t, L, e1, e2, hq, h1, hL, h2, h3⟩, st⟩ := vx_callVW X hx (C := C) (hh := hh) (bytes := bytes) (maxL := maxL) (ret := ret) ho hl hin hse hcode hy hK (by rw [hT]; exact hcB) hoB hclB hg (hsize.trans hml.symm) (argsL := As) (rest := rest) (fun sig h => hn.trans (hlen sig h)) hstack hW (by rw [hb]; exact hdg)
    (fun vm₁ hW₁ => ⟨hf.1, hf.2, hPc (T.setVm vm₁) hT hW₁⟩)
  dsimp only [Pt.U, Pt.locs, Pt.cells, Pt.slots] at X' e1 e2 h1 h2 h3 st
  subst h1; subst h2; subst h3
  exact ⟨v, (T.setVm vm₁).calling g' mk (Value.ref b :: As).toArray, t, U', L, hT, X', hL, e1, e2, hq, st⟩
section
variable {y : MethodName} {bytes cc : ByteArray} {maxL nL mc ms n index : Nat} {ret : Option FieldType} {ws : List Cond} {rm : Room} {Pc : Array Value → State → Prop} {Qc : Array Value → State → Outcome → State → Prop} {XC : String → State → State → Prop} {free : Addr → Prop} {Ts : List Cond} {own C : String} {b : Addr} {As rest : List Value} {g : JFrame}
theorem vx_runVX {hh : List (Nat × Nat × Nat × Nat)} (S : CallFix p m c cc nL s args Ts own) (hM : vx_Met l y ws rm Pc Qc XC mc ms free) (cw : vx_CVW R s args own C index y bytes maxL ret hh ws rm mc ms n) (hp : PreV s H C b Pc As)
    (hg : g.method = m) (hn : As.length = n) (hsize : g.locals.size = nL) (hstack : g.stack = As.reverse ++ .ref b :: rest) (hW : 2 * g.monitorRoom + (rest.map fun v => v.category).sum ≤ 8) (hdg : decode cc g.pc = .ok (.invokevirtual index, 3)) (hf : cells + mc ≤ R.cells ∧ slots + ms ≤ R.slots) :
    vx_Run p l e R s m args below meth c H locs cells slots mc ms g rest (Qc (Value.ref b :: As).toArray) XC free := by
  obtain ⟨⟨hrc, hrs, hfr, hlo, hws, hcw⟩, hcode, hini, hy, hlen, hl, hin, hse⟩ := cw
  have hK : vx_Back l R p e below s args y 3 8 (PreOf R mc ms Pc) (PostOf Qc mc ms free) (vx_Post XC mc ms free) := vx_backW (hh := hh) (bytes := bytes) (maxL := maxL) (ret := ret) hM hp.1 hrc hrs hfr hlo hws hcw (fun a' U hW => word_at hW (Or.inl (by first | rfl | simp [Cond.onTables, Cond.keeps, Cond.steady])) hini)
  obtain ⟨hx, hb, hml, ho, -⟩ := S
  obtain ⟨-, ⟨cellB, hcB, hoB, hclB⟩, hPc⟩ := hp
  intro T hT X
  rcases vx_callVX X hx (C := C) (hh := hh) (bytes := bytes) (maxL := maxL) (ret := ret) ho hl hin hse hcode hy hK (by rw [hT]; exact hcB) hoB hclB hg (hsize.trans hml.symm) (argsL := As) (rest := rest) (fun sig h => hn.trans (hlen sig h)) hstack hW (by rw [hb]; exact hdg)
    (fun vm₁ hW₁ => ⟨hf.1, hf.2, hPc (T.setVm vm₁) hT hW₁⟩) with ⟨v, vm₁, ⟨U', l2, c2, s2⟩, hW₁, X', ⟨g', mk, t, L, e1, e2, hq, h1, hL, h2, h3⟩, st⟩ | ⟨q, vm₁, ⟨U', l2, c2, s2⟩, hW₁, X', ⟨g', mk, t, L, E, ce, e1, e2, hq, hce, hcv, hcl, h1, hL, h2, h3⟩, st⟩
  · dsimp only [Pt.U, Pt.locs, Pt.cells, Pt.slots] at X' e1 e2 h1 h2 h3 st
    subst h1; subst h2; subst h3
    exact Or.inl ⟨v, (T.setVm vm₁).calling g' mk (Value.ref b :: As).toArray, t, U', L, hT, X', hL, e1, e2, hq, st⟩
  · dsimp only [Pt.U, Pt.locs, Pt.cells, Pt.slots] at X' e1 e2 h1 h2 h3 st hcl
    subst h1; subst h2; subst h3
    exact Or.inr ⟨q, (T.setVm vm₁).calling g' mk (Value.ref b :: As).toArray, t, U', L, E, ce, hT, X', hL, e1, e2, hq, hce, hcv, vx_cls hW₁ hcl, st⟩
theorem vx_runSX {hh : List (Nat × Nat × Nat × Nat)} (S : CallFix p m c cc nL s args Ts own) (hM : vx_Met l y ws rm Pc Qc XC mc ms free) (cw : vx_CSW R s args own index y bytes maxL ret hh ws rm mc ms n) (hp : PreS s H Pc As)
    (hg : g.method = m) (hn : As.length = n) (hsize : g.locals.size = nL) (hstack : g.stack = As.reverse ++ rest) (hW : 2 * g.monitorRoom + (rest.map fun v => v.category).sum ≤ 8) (hdg : decode cc g.pc = .ok (.invokestatic index, 3)) (hf : cells + mc ≤ R.cells ∧ slots + ms ≤ R.slots) :
    vx_Run p l e R s m args below meth c H locs cells slots mc ms g rest (Qc As.toArray) XC free := by
  obtain ⟨⟨hrc, hrs, hfr, hlo, hws, hcw⟩, hcode, hini, hy, hlen, hl, hstt⟩ := cw
  have hK : vx_Back l R p e below s args y 3 8 (PreOf R mc ms Pc) (PostOf Qc mc ms free) (vx_Post XC mc ms free) := vx_backW (hh := hh) (bytes := bytes) (maxL := maxL) (ret := ret) hM hp.1 hrc hrs hfr hlo hws hcw (fun a' U hW => word_at hW (Or.inl (by first | rfl | simp [Cond.onTables, Cond.keeps, Cond.steady])) hini)
  obtain ⟨hx, hb, hml, ho, -⟩ := S
  intro T hT X
  rcases vx_callSX X hx (hh := hh) (bytes := bytes) (maxL := maxL) (ret := ret) ho hl hstt hini hcode hy hK hg (hsize.trans hml.symm) (argsL := As) (rest := rest) (fun sig h => hn.trans (hlen sig h)) hstack hW (by rw [hb]; exact hdg)
    (fun vm₁ hW₁ => ⟨hf.1, hf.2, hp.2 (T.setVm vm₁) hT hW₁⟩) with ⟨v, vm₁, ⟨U', l2, c2, s2⟩, hW₁, X', ⟨g', mk, t, L, e1, e2, hq, h1, hL, h2, h3⟩, st⟩ | ⟨q, vm₁, ⟨U', l2, c2, s2⟩, hW₁, X', ⟨g', mk, t, L, E, ce, e1, e2, hq, hce, hcv, hcl, h1, hL, h2, h3⟩, st⟩
  · dsimp only [Pt.U, Pt.locs, Pt.cells, Pt.slots] at X' e1 e2 h1 h2 h3 st
    subst h1; subst h2; subst h3
    exact Or.inl ⟨v, (T.setVm vm₁).calling g' mk As.toArray, t, U', L, hT, X', hL, e1, e2, hq, st⟩
  · dsimp only [Pt.U, Pt.locs, Pt.cells, Pt.slots] at X' e1 e2 h1 h2 h3 st hcl
    subst h1; subst h2; subst h3
    exact Or.inr ⟨q, (T.setVm vm₁).calling g' mk As.toArray, t, U', L, E, ce, hT, X', hL, e1, e2, hq, hce, hcv, vx_cls hW₁ hcl, st⟩
end
end VXH
theorem vx_ofWH {l : Launch} {y : MethodName} {ws ws' : List Cond} {rm : Room} {Pc : Array Value → State → Prop} {Qc : Array Value → State → Outcome → State → Prop} {XC : String → State → State → Prop} {mc ms : Nat} {free : Addr → Prop} {cc : ByteArray} {maxL : Nat} {ret : Option FieldType} {hh : List (Nat × Nat × Nat × Nat)}
    (hy : plainName y.cls = true) (hw : ws = Cond.codeWith y cc maxL ret hh :: ws')
    (body : ∀ p e s m args below meth c s₁, BodyLoose p l y (headSpec ws rm) cc maxL ret e s m args below meth c s₁ → c.maxLocals = maxL → Pc args s →
      W p l e (headSpec ws rm).room s m args below meth c s.heap [] 0 0 (vx_MQ below Qc XC args s mc ms free) (entryFrame m args maxL)) : vx_Met l y ws rm Pc Qc XC mc ms free := by
  refine MetFree.of_bodyS (code := cc) (maxLocals := maxL) (ret := ret) hy ?_ ?_
  · intro args s m h hn
    obtain ⟨m9, meth, c, hn9, h1, h2, h3, h4, -, h5, h6, -⟩ := Cond.codeWith_spec (atoms_spec (ws := ws) h _ (by rw [hw]; exact List.mem_cons_self))
    cases hn.symm.trans hn9
    exact ⟨meth, c, h1, h2, h3, h4, h5, h6⟩
  · intro p e s m args below meth c s₁ B hml hP _
    have hh0 : s₁.heap = s.heap := by rw [B.state]; rfl
    obtain ⟨t, a1, o, b1, b2, b3⟩ := body p e s m args below meth c s₁ B hml hP s₁ hh0 (Stand.of_body B)
    exact ⟨t, o, a1, b1, b2, b3⟩
/-! ===== END ===== -/

/-! ===== BEGIN printed: names, fields, word lists, decode rows ===== -/
def RX0 : String := "SentenceGym$CountChart"
def TX0 : u_T := fun k => match k with
  | _ => ("SentenceGym$CountChart", "counts", "[[I", true)
def tyX0 : Nat → FieldType := fun k => match k with
  | _ => .array (.array .int)
abbrev wsX00 : List Cond := u_ws RX0 TX0 1
theorem nmX0 : ∀ a, a < 1 → ∀ b, b < 1 → a ≠ b → (TX0 a).2.1 ≠ (TX0 b).2.1 := by decide +kernel
theorem tyX0_ok : ∀ k, k < 1 → parseFieldDescriptor (TX0 k).2.2.1 = some (tyX0 k) := by decide +kernel
abbrev cX0_init : ByteArray := prog_2_method_1_code
def yX0_init : MethodName := ⟨RX0, "<init>", "()V"⟩
abbrev cX0_countSpan : ByteArray := prog_2_method_2_code
def yX0_countSpan : MethodName := ⟨RX0, "countSpan", "(III)I"⟩
abbrev cX0_fill : ByteArray := prog_2_method_3_code
def yX0_fill : MethodName := ⟨RX0, "fill", "(LSentenceGym$Grammar;[II)V"⟩
abbrev cX0_fillSpan : ByteArray := prog_2_method_4_code
def yX0_fillSpan : MethodName := ⟨RX0, "fillSpan", "(LSentenceGym$Grammar;[III)V"⟩
def RX1 : String := "SentenceGym$Grammar"
def TX1 : u_T := fun k => match k with
  | 0 => ("SentenceGym$Grammar", "words", "I", false)
  | 1 => ("SentenceGym$Grammar", "wordCategory", "[I", true)
  | 2 => ("SentenceGym$Grammar", "wordPair", "[I", true)
  | 3 => ("SentenceGym$Grammar", "rules", "I", false)
  | 4 => ("SentenceGym$Grammar", "made", "[I", true)
  | 5 => ("SentenceGym$Grammar", "first", "[I", true)
  | 6 => ("SentenceGym$Grammar", "second", "[I", true)
  | _ => ("SentenceGym$Grammar", "pairMade", "[[I", true)
def tyX1 : Nat → FieldType := fun k => match k with
  | 0 => .int
  | 1 => .array .int
  | 2 => .array .int
  | 3 => .int
  | 4 => .array .int
  | 5 => .array .int
  | 6 => .array .int
  | _ => .array (.array .int)
abbrev wsX10 : List Cond := u_ws RX1 TX1 8
theorem nmX1 : ∀ a, a < 8 → ∀ b, b < 8 → a ≠ b → (TX1 a).2.1 ≠ (TX1 b).2.1 := by decide +kernel
theorem tyX1_ok : ∀ k, k < 8 → parseFieldDescriptor (TX1 k).2.2.1 = some (tyX1 k) := by decide +kernel
abbrev cX1_init : ByteArray := prog_3_method_1_code
def yX1_init : MethodName := ⟨RX1, "<init>", "()V"⟩
abbrev cX1_defineWord : ByteArray := prog_3_method_2_code
def yX1_defineWord : MethodName := ⟨RX1, "defineWord", "(III)V"⟩
abbrev cX1_defineRule : ByteArray := prog_3_method_3_code
def yX1_defineRule : MethodName := ⟨RX1, "defineRule", "(IIIII)V"⟩
abbrev cX1_joinedPair : ByteArray := prog_3_method_4_code
def yX1_joinedPair : MethodName := ⟨RX1, "joinedPair", "(III)I"⟩
abbrev cX1_joinedValue : ByteArray := prog_3_method_5_code
def yX1_joinedValue : MethodName := ⟨RX1, "joinedValue", "(III)I"⟩
abbrev cX1_pairsMade : ByteArray := prog_3_method_6_code
def yX1_pairsMade : MethodName := ⟨RX1, "pairsMade", "(III)I"⟩
abbrev cX1_countWord : ByteArray := prog_3_method_7_code
def yX1_countWord : MethodName := ⟨RX1, "countWord", "(I[I)V"⟩
abbrev cX1_addJoined : ByteArray := prog_3_method_8_code
def yX1_addJoined : MethodName := ⟨RX1, "addJoined", "([I[I[I)V"⟩
abbrev cX1_addJoinedWith : ByteArray := prog_3_method_9_code
def yX1_addJoinedWith : MethodName := ⟨RX1, "addJoinedWith", "(III[I[I)V"⟩
def RX2 : String := "SentenceGym$PartSets"
def TX2 : u_T := fun k => match k with
  | _ => ("SentenceGym$PartSets", "pairs", "[I", true)
def tyX2 : Nat → FieldType := fun k => match k with
  | _ => .array .int
abbrev wsX20 : List Cond := u_ws RX2 TX2 1
theorem nmX2 : ∀ a, a < 1 → ∀ b, b < 1 → a ≠ b → (TX2 a).2.1 ≠ (TX2 b).2.1 := by decide +kernel
theorem tyX2_ok : ∀ k, k < 1 → parseFieldDescriptor (TX2 k).2.2.1 = some (tyX2 k) := by decide +kernel
abbrev cX2_init : ByteArray := prog_4_method_1_code
def yX2_init : MethodName := ⟨RX2, "<init>", "()V"⟩
abbrev cX2_pairsOf : ByteArray := prog_4_method_2_code
def yX2_pairsOf : MethodName := ⟨RX2, "pairsOf", "(III)I"⟩
abbrev cX2_holdsSentence : ByteArray := prog_4_method_3_code
def yX2_holdsSentence : MethodName := ⟨RX2, "holdsSentence", "(I)Z"⟩
abbrev cX2_parse : ByteArray := prog_4_method_4_code
def yX2_parse : MethodName := ⟨RX2, "parse", "(LSentenceGym$Grammar;[III)V"⟩
abbrev cX2_putWord : ByteArray := prog_4_method_5_code
def yX2_putWord : MethodName := ⟨RX2, "putWord", "(LSentenceGym$Grammar;II)V"⟩
abbrev cX2_putAnyWord : ByteArray := prog_4_method_6_code
def yX2_putAnyWord : MethodName := ⟨RX2, "putAnyWord", "(LSentenceGym$Grammar;I)V"⟩
abbrev cX2_allowWord : ByteArray := prog_4_method_7_code
def yX2_allowWord : MethodName := ⟨RX2, "allowWord", "(LSentenceGym$Grammar;II)V"⟩
abbrev cX2_clearSpan : ByteArray := prog_4_method_8_code
def yX2_clearSpan : MethodName := ⟨RX2, "clearSpan", "(II)V"⟩
abbrev cX2_joinUpTo : ByteArray := prog_4_method_9_code
def yX2_joinUpTo : MethodName := ⟨RX2, "joinUpTo", "(LSentenceGym$Grammar;II)V"⟩
abbrev cX2_join : ByteArray := prog_4_method_10_code
def yX2_join : MethodName := ⟨RX2, "join", "(LSentenceGym$Grammar;IIII)V"⟩
def RX3 : String := "SentenceGym$PlainCounter"
def TX3 : u_T := fun k => match k with
  | _ => ("SentenceGym$PlainCounter", "counts", "[[I", true)
def tyX3 : Nat → FieldType := fun k => match k with
  | _ => .array (.array .int)
abbrev wsX30 : List Cond := u_ws RX3 TX3 1
theorem nmX3 : ∀ a, a < 1 → ∀ b, b < 1 → a ≠ b → (TX3 a).2.1 ≠ (TX3 b).2.1 := by decide +kernel
theorem tyX3_ok : ∀ k, k < 1 → parseFieldDescriptor (TX3 k).2.2.1 = some (tyX3 k) := by decide +kernel
abbrev cX3_init : ByteArray := prog_5_method_1_code
def yX3_init : MethodName := ⟨RX3, "<init>", "()V"⟩
abbrev cX3_countRow : ByteArray := prog_5_method_2_code
def yX3_countRow : MethodName := ⟨RX3, "countRow", "(LSentenceGym$Grammar;[III)I"⟩
abbrev cX3_count : ByteArray := prog_5_method_3_code
def yX3_count : MethodName := ⟨RX3, "count", "(LSentenceGym$Grammar;[IIIII)V"⟩
def RX4 : String := "SentenceGym"
def TX4 : u_T := fun k => match k with
  | 0 => ("SentenceGym", "grammar", "LSentenceGym$Grammar;", true)
  | 1 => ("SentenceGym", "row", "[I", true)
  | 2 => ("SentenceGym", "rowLength", "I", false)
  | 3 => ("SentenceGym", "trial", "[I", true)
  | 4 => ("SentenceGym", "partSets", "LSentenceGym$PartSets;", true)
  | 5 => ("SentenceGym", "countChart", "LSentenceGym$CountChart;", true)
  | _ => ("SentenceGym", "plainCounter", "LSentenceGym$PlainCounter;", true)
def tyX4 : Nat → FieldType := fun k => match k with
  | 0 => .object "SentenceGym$Grammar"
  | 1 => .array .int
  | 2 => .int
  | 3 => .array .int
  | 4 => .object "SentenceGym$PartSets"
  | 5 => .object "SentenceGym$CountChart"
  | _ => .object "SentenceGym$PlainCounter"
abbrev wsX40 : List Cond := u_ws RX4 TX4 7
theorem nmX4 : ∀ a, a < 7 → ∀ b, b < 7 → a ≠ b → (TX4 a).2.1 ≠ (TX4 b).2.1 := by decide +kernel
theorem tyX4_ok : ∀ k, k < 7 → parseFieldDescriptor (TX4 k).2.2.1 = some (tyX4 k) := by decide +kernel
abbrev cX4_init : ByteArray := prog_1_method_1_code
def yX4_init : MethodName := ⟨RX4, "<init>", "()V"⟩
abbrev cX4_addWord : ByteArray := prog_1_method_2_code
def yX4_addWord : MethodName := ⟨RX4, "addWord", "(III)I"⟩
abbrev cX4_setWord : ByteArray := prog_1_method_3_code
def yX4_setWord : MethodName := ⟨RX4, "setWord", "(IIII)I"⟩
abbrev cX4_addRule : ByteArray := prog_1_method_4_code
def yX4_addRule : MethodName := ⟨RX4, "addRule", "(IIII)I"⟩
abbrev cX4_dropRule : ByteArray := prog_1_method_5_code
def yX4_dropRule : MethodName := ⟨RX4, "dropRule", "()I"⟩
abbrev cX4_say : ByteArray := prog_1_method_6_code
def yX4_say : MethodName := ⟨RX4, "say", "(I)I"⟩
abbrev cX4_change : ByteArray := prog_1_method_7_code
def yX4_change : MethodName := ⟨RX4, "change", "(II)I"⟩
abbrev cX4_hush : ByteArray := prog_1_method_8_code
def yX4_hush : MethodName := ⟨RX4, "hush", "()I"⟩
abbrev cX4_said : ByteArray := prog_1_method_9_code
def yX4_said : MethodName := ⟨RX4, "said", "()I"⟩
abbrev cX4_wordAt : ByteArray := prog_1_method_10_code
def yX4_wordAt : MethodName := ⟨RX4, "wordAt", "(I)I"⟩
abbrev cX4_readings : ByteArray := prog_1_method_11_code
def yX4_readings : MethodName := ⟨RX4, "readings", "()I"⟩
abbrev cX4_readingsPlainly : ByteArray := prog_1_method_12_code
def yX4_readingsPlainly : MethodName := ⟨RX4, "readingsPlainly", "()I"⟩
abbrev cX4_readingsOf : ByteArray := prog_1_method_13_code
def yX4_readingsOf : MethodName := ⟨RX4, "readingsOf", "(III)I"⟩
abbrev cX4_has : ByteArray := prog_1_method_14_code
def yX4_has : MethodName := ⟨RX4, "has", "(IIII)Z"⟩
abbrev cX4_level : ByteArray := prog_1_method_15_code
def yX4_level : MethodName := ⟨RX4, "level", "()I"⟩
abbrev cX4_sentences : ByteArray := prog_1_method_16_code
def yX4_sentences : MethodName := ⟨RX4, "sentences", "(I)I"⟩
abbrev cX4_sentence : ByteArray := prog_1_method_17_code
def yX4_sentence : MethodName := ⟨RX4, "sentence", "(II)I"⟩
abbrev cX4_share : ByteArray := prog_1_method_18_code
def yX4_share : MethodName := ⟨RX4, "share", "(I)F"⟩
abbrev cX4_spoil : ByteArray := prog_1_method_19_code
def yX4_spoil : MethodName := ⟨RX4, "spoil", "(I)I"⟩
abbrev cX4_changes : ByteArray := prog_1_method_20_code
def yX4_changes : MethodName := ⟨RX4, "changes", "()I"⟩
abbrev cX4_correction : ByteArray := prog_1_method_21_code
def yX4_correction : MethodName := ⟨RX4, "correction", "(I)I"⟩
abbrev cX4_isOutside : ByteArray := prog_1_method_22_code
def yX4_isOutside : MethodName := ⟨RX4, "isOutside", "(II)Z"⟩
abbrev cX4_isNoKind : ByteArray := prog_1_method_23_code
def yX4_isNoKind : MethodName := ⟨RX4, "isNoKind", "(III)Z"⟩
abbrev cX4_isNoDigitPair : ByteArray := prog_1_method_24_code
def yX4_isNoDigitPair : MethodName := ⟨RX4, "isNoDigitPair", "(I)Z"⟩
abbrev cX4_isNoLength : ByteArray := prog_1_method_25_code
def yX4_isNoLength : MethodName := ⟨RX4, "isNoLength", "(I)Z"⟩
abbrev cX4_isNoSpan : ByteArray := prog_1_method_26_code
def yX4_isNoSpan : MethodName := ⟨RX4, "isNoSpan", "(II)Z"⟩
abbrev cX4_pairOf : ByteArray := prog_1_method_27_code
def yX4_pairOf : MethodName := ⟨RX4, "pairOf", "(II)I"⟩
abbrev cX4_hasPair : ByteArray := prog_1_method_28_code
def yX4_hasPair : MethodName := ⟨RX4, "hasPair", "(II)Z"⟩
abbrev cX4_spanOf : ByteArray := prog_1_method_29_code
def yX4_spanOf : MethodName := ⟨RX4, "spanOf", "(II)I"⟩
abbrev cX4_told : ByteArray := prog_1_method_30_code
def yX4_told : MethodName := ⟨RX4, "told", "(I)I"⟩
abbrev cX4_countOf : ByteArray := prog_1_method_31_code
def yX4_countOf : MethodName := ⟨RX4, "countOf", "([II)I"⟩
abbrev cX4_countReadings : ByteArray := prog_1_method_32_code
def yX4_countReadings : MethodName := ⟨RX4, "countReadings", "(III)I"⟩
abbrev cX4_isSentenceWith : ByteArray := prog_1_method_33_code
def yX4_isSentenceWith : MethodName := ⟨RX4, "isSentenceWith", "(II)Z"⟩
abbrev cX4_isSentenceFreeAt : ByteArray := prog_1_method_34_code
def yX4_isSentenceFreeAt : MethodName := ⟨RX4, "isSentenceFreeAt", "(II)Z"⟩
abbrev cX4_rowsOfLength : ByteArray := prog_1_method_35_code
def yX4_rowsOfLength : MethodName := ⟨RX4, "rowsOfLength", "(I)I"⟩
abbrev cX4_makeSentences : ByteArray := prog_1_method_36_code
def yX4_makeSentences : MethodName := ⟨RX4, "makeSentences", "(II)I"⟩
abbrev cX4_clearTrial : ByteArray := prog_1_method_37_code
def yX4_clearTrial : MethodName := ⟨RX4, "clearTrial", "()V"⟩
abbrev cX4_nextTrial : ByteArray := prog_1_method_38_code
def yX4_nextTrial : MethodName := ⟨RX4, "nextTrial", "(I)I"⟩
abbrev cX4_trialAsDigits : ByteArray := prog_1_method_39_code
def yX4_trialAsDigits : MethodName := ⟨RX4, "trialAsDigits", "(I)I"⟩
def RX5 : String := "SentenceGymModel"
def TX5 : u_T := fun k => match k with
  | 0 => ("SentenceGymModel", "category", "[I", true)
  | 1 => ("SentenceGymModel", "value", "[I", true)
  | 2 => ("SentenceGymModel", "words", "I", false)
  | 3 => ("SentenceGymModel", "made", "[I", true)
  | 4 => ("SentenceGymModel", "first", "[I", true)
  | 5 => ("SentenceGymModel", "second", "[I", true)
  | 6 => ("SentenceGymModel", "modes", "[I", true)
  | 7 => ("SentenceGymModel", "rules", "I", false)
  | 8 => ("SentenceGymModel", "row", "[I", true)
  | 9 => ("SentenceGymModel", "said", "I", false)
  | 10 => ("SentenceGymModel", "line", "[I", true)
  | 11 => ("SentenceGymModel", "length", "I", false)
  | 12 => ("SentenceGymModel", "set", "[I", true)
  | 13 => ("SentenceGymModel", "many", "[J", true)
  | _ => ("SentenceGymModel", "thrown", "I", false)
def tyX5 : Nat → FieldType := fun k => match k with
  | 0 => .array .int
  | 1 => .array .int
  | 2 => .int
  | 3 => .array .int
  | 4 => .array .int
  | 5 => .array .int
  | 6 => .array .int
  | 7 => .int
  | 8 => .array .int
  | 9 => .int
  | 10 => .array .int
  | 11 => .int
  | 12 => .array .int
  | 13 => .array .long
  | _ => .int
abbrev wsX50 : List Cond := u_ws RX5 TX5 15
theorem nmX5 : ∀ a, a < 15 → ∀ b, b < 15 → a ≠ b → (TX5 a).2.1 ≠ (TX5 b).2.1 := by decide +kernel
theorem tyX5_ok : ∀ k, k < 15 → parseFieldDescriptor (TX5 k).2.2.1 = some (tyX5 k) := by decide +kernel
abbrev cX5_init : ByteArray := prog_7_method_1_code
def yX5_init : MethodName := ⟨RX5, "<init>", "()V"⟩
abbrev cX5_thrown : ByteArray := prog_7_method_2_code
def yX5_thrown : MethodName := ⟨RX5, "thrown", "()I"⟩
abbrev cX5_goes : ByteArray := prog_7_method_3_code
def yX5_goes : MethodName := ⟨RX5, "goes", "(ZZ)Z"⟩
abbrev cX5_isWithin : ByteArray := prog_7_method_4_code
def yX5_isWithin : MethodName := ⟨RX5, "isWithin", "(III)Z"⟩
abbrev cX5_isWord : ByteArray := prog_7_method_5_code
def yX5_isWord : MethodName := ⟨RX5, "isWord", "(I)Z"⟩
abbrev cX5_isPair : ByteArray := prog_7_method_6_code
def yX5_isPair : MethodName := ⟨RX5, "isPair", "(I)Z"⟩
abbrev cX5_areValues : ByteArray := prog_7_method_7_code
def yX5_areValues : MethodName := ⟨RX5, "areValues", "(III)Z"⟩
abbrev cX5_addWord : ByteArray := prog_7_method_8_code
def yX5_addWord : MethodName := ⟨RX5, "addWord", "(III)I"⟩
abbrev cX5_setWord : ByteArray := prog_7_method_9_code
def yX5_setWord : MethodName := ⟨RX5, "setWord", "(IIII)I"⟩
abbrev cX5_addRule : ByteArray := prog_7_method_10_code
def yX5_addRule : MethodName := ⟨RX5, "addRule", "(IIII)I"⟩
abbrev cX5_dropRule : ByteArray := prog_7_method_11_code
def yX5_dropRule : MethodName := ⟨RX5, "dropRule", "()I"⟩
abbrev cX5_say : ByteArray := prog_7_method_12_code
def yX5_say : MethodName := ⟨RX5, "say", "(I)I"⟩
abbrev cX5_isPlace : ByteArray := prog_7_method_13_code
def yX5_isPlace : MethodName := ⟨RX5, "isPlace", "(I)Z"⟩
abbrev cX5_change : ByteArray := prog_7_method_14_code
def yX5_change : MethodName := ⟨RX5, "change", "(II)I"⟩
abbrev cX5_hush : ByteArray := prog_7_method_15_code
def yX5_hush : MethodName := ⟨RX5, "hush", "()I"⟩
abbrev cX5_said : ByteArray := prog_7_method_16_code
def yX5_said : MethodName := ⟨RX5, "said", "()I"⟩
abbrev cX5_wordAt : ByteArray := prog_7_method_17_code
def yX5_wordAt : MethodName := ⟨RX5, "wordAt", "(I)I"⟩
abbrev cX5_takes : ByteArray := prog_7_method_18_code
def yX5_takes : MethodName := ⟨RX5, "takes", "()V"⟩
abbrev cX5_makes : ByteArray := prog_7_method_19_code
def yX5_makes : MethodName := ⟨RX5, "makes", "(III)I"⟩
abbrev cX5_makesBoth : ByteArray := prog_7_method_20_code
def yX5_makesBoth : MethodName := ⟨RX5, "makesBoth", "(III)I"⟩
abbrev cX5_span : ByteArray := prog_7_method_21_code
def yX5_span : MethodName := ⟨RX5, "span", "(II)I"⟩
abbrev cX5_parses : ByteArray := prog_7_method_22_code
def yX5_parses : MethodName := ⟨RX5, "parses", "(I)V"⟩
abbrev cX5_together : ByteArray := prog_7_method_23_code
def yX5_together : MethodName := ⟨RX5, "together", "(III)I"⟩
abbrev cX5_isSentence : ByteArray := prog_7_method_24_code
def yX5_isSentence : MethodName := ⟨RX5, "isSentence", "()Z"⟩
abbrev cX5_counts : ByteArray := prog_7_method_25_code
def yX5_counts : MethodName := ⟨RX5, "counts", "()V"⟩
abbrev cX5_adds : ByteArray := prog_7_method_26_code
def yX5_adds : MethodName := ⟨RX5, "adds", "(IIII)V"⟩
abbrev cX5_countOf : ByteArray := prog_7_method_27_code
def yX5_countOf : MethodName := ⟨RX5, "countOf", "(III)I"⟩
abbrev cX5_readings : ByteArray := prog_7_method_28_code
def yX5_readings : MethodName := ⟨RX5, "readings", "()I"⟩
abbrev cX5_readingsPlainly : ByteArray := prog_7_method_29_code
def yX5_readingsPlainly : MethodName := ⟨RX5, "readingsPlainly", "()I"⟩
abbrev cX5_isPart : ByteArray := prog_7_method_30_code
def yX5_isPart : MethodName := ⟨RX5, "isPart", "(III)Z"⟩
abbrev cX5_readingsOf : ByteArray := prog_7_method_31_code
def yX5_readingsOf : MethodName := ⟨RX5, "readingsOf", "(III)I"⟩
abbrev cX5_has : ByteArray := prog_7_method_32_code
def yX5_has : MethodName := ⟨RX5, "has", "(IIII)Z"⟩
abbrev cX5_level : ByteArray := prog_7_method_33_code
def yX5_level : MethodName := ⟨RX5, "level", "()I"⟩
abbrev cX5_rows : ByteArray := prog_7_method_34_code
def yX5_rows : MethodName := ⟨RX5, "rows", "(I)I"⟩
abbrev cX5_lays : ByteArray := prog_7_method_35_code
def yX5_lays : MethodName := ⟨RX5, "lays", "(II)V"⟩
abbrev cX5_sentencesOf : ByteArray := prog_7_method_36_code
def yX5_sentencesOf : MethodName := ⟨RX5, "sentencesOf", "(I)I"⟩
abbrev cX5_isShort : ByteArray := prog_7_method_37_code
def yX5_isShort : MethodName := ⟨RX5, "isShort", "(I)Z"⟩
abbrev cX5_sentences : ByteArray := prog_7_method_38_code
def yX5_sentences : MethodName := ⟨RX5, "sentences", "(I)I"⟩
abbrev cX5_sentence : ByteArray := prog_7_method_39_code
def yX5_sentence : MethodName := ⟨RX5, "sentence", "(II)I"⟩
abbrev cX5_share : ByteArray := prog_7_method_40_code
def yX5_share : MethodName := ⟨RX5, "share", "(I)F"⟩
abbrev cX5_spoil : ByteArray := prog_7_method_41_code
def yX5_spoil : MethodName := ⟨RX5, "spoil", "(I)I"⟩
abbrev cX5_changes : ByteArray := prog_7_method_42_code
def yX5_changes : MethodName := ⟨RX5, "changes", "()I"⟩
abbrev cX5_correction : ByteArray := prog_7_method_43_code
def yX5_correction : MethodName := ⟨RX5, "correction", "(I)I"⟩
def RJx145de : String := "java/io/Serializable"
def TJx145de : u_T := fun k => match k with
  | _ => ("", "", "", false)
def tyJx145de : Nat → FieldType := fun k => match k with
  | _ => .int
abbrev wsJx145de0 : List Cond := u_ws RJx145de TJx145de 0
theorem nmJx145de : ∀ a, a < 0 → ∀ b, b < 0 → a ≠ b → (TJx145de a).2.1 ≠ (TJx145de b).2.1 := by decide +kernel
theorem tyJx145de_ok : ∀ k, k < 0 → parseFieldDescriptor (TJx145de k).2.2.1 = some (tyJx145de k) := by decide +kernel
def RJ0 : String := "java/lang/String"
def TJ0 : u_T := fun k => match k with
  | _ => ("", "", "", false)
def tyJ0 : Nat → FieldType := fun k => match k with
  | _ => .int
abbrev wsJ00 : List Cond := u_ws RJ0 TJ0 0
theorem nmJ0 : ∀ a, a < 0 → ∀ b, b < 0 → a ≠ b → (TJ0 a).2.1 ≠ (TJ0 b).2.1 := by decide +kernel
theorem tyJ0_ok : ∀ k, k < 0 → parseFieldDescriptor (TJ0 k).2.2.1 = some (tyJ0 k) := by decide +kernel
def RJ10 : String := "java/lang/System"
def TJ10 : u_T := fun k => match k with
  | _ => ("", "", "", false)
def tyJ10 : Nat → FieldType := fun k => match k with
  | _ => .int
abbrev wsJ100 : List Cond := u_ws RJ10 TJ10 0
theorem nmJ10 : ∀ a, a < 0 → ∀ b, b < 0 → a ≠ b → (TJ10 a).2.1 ≠ (TJ10 b).2.1 := by decide +kernel
theorem tyJ10_ok : ∀ k, k < 0 → parseFieldDescriptor (TJ10 k).2.2.1 = some (tyJ10 k) := by decide +kernel
def RJ7 : String := "java/util/Arrays"
def TJ7 : u_T := fun k => match k with
  | _ => ("", "", "", false)
def tyJ7 : Nat → FieldType := fun k => match k with
  | _ => .int
abbrev wsJ70 : List Cond := u_ws RJ7 TJ7 0
theorem nmJ7 : ∀ a, a < 0 → ∀ b, b < 0 → a ≠ b → (TJ7 a).2.1 ≠ (TJ7 b).2.1 := by decide +kernel
theorem tyJ7_ok : ∀ k, k < 0 → parseFieldDescriptor (TJ7 k).2.2.1 = some (tyJ7 k) := by decide +kernel
abbrev cJ7_fill_53178 : ByteArray := prog_16_method_103_code
def yJ7_fill_53178 : MethodName := ⟨RJ7, "fill", "([II)V"⟩
def RL : String := "SentenceGymLaw"
abbrev cL_addWord : ByteArray := method_3_code
def yL_addWord : MethodName := ⟨RL, "addWord", "(LSentenceGym;III[J)I"⟩
abbrev cL_setWord : ByteArray := method_4_code
def yL_setWord : MethodName := ⟨RL, "setWord", "(LSentenceGym;IIII[J)I"⟩
abbrev cL_addRule : ByteArray := method_5_code
def yL_addRule : MethodName := ⟨RL, "addRule", "(LSentenceGym;IIII[J)I"⟩
abbrev cL_dropRule : ByteArray := method_6_code
def yL_dropRule : MethodName := ⟨RL, "dropRule", "(LSentenceGym;[J)I"⟩
abbrev cL_say : ByteArray := method_7_code
def yL_say : MethodName := ⟨RL, "say", "(LSentenceGym;I[J)I"⟩
abbrev cL_change : ByteArray := method_8_code
def yL_change : MethodName := ⟨RL, "change", "(LSentenceGym;II[J)I"⟩
abbrev cL_wordAt : ByteArray := method_9_code
def yL_wordAt : MethodName := ⟨RL, "wordAt", "(LSentenceGym;I[J)I"⟩
abbrev cL_readingsOf : ByteArray := method_10_code
def yL_readingsOf : MethodName := ⟨RL, "readingsOf", "(LSentenceGym;III[J)I"⟩
abbrev cL_has : ByteArray := method_11_code
def yL_has : MethodName := ⟨RL, "has", "(LSentenceGym;IIII[J)I"⟩
abbrev cL_sentences : ByteArray := method_12_code
def yL_sentences : MethodName := ⟨RL, "sentences", "(LSentenceGym;I[J)I"⟩
abbrev cL_sentence : ByteArray := method_13_code
def yL_sentence : MethodName := ⟨RL, "sentence", "(LSentenceGym;II[J)I"⟩
abbrev cL_share : ByteArray := method_14_code
def yL_share : MethodName := ⟨RL, "share", "(LSentenceGym;I[D)I"⟩
abbrev cL_spoil : ByteArray := method_15_code
def yL_spoil : MethodName := ⟨RL, "spoil", "(LSentenceGym;I[J)I"⟩
abbrev cL_correction : ByteArray := method_16_code
def yL_correction : MethodName := ⟨RL, "correction", "(LSentenceGym;I[J)I"⟩
abbrev cL_law : ByteArray := code
def yL_law : MethodName := ⟨RL, "law", "([I)Z"⟩
def wsX0_init : List Cond := .code yX0_init cX0_init 1 none :: ([.methodLink RX0 3 objectInit, .instanceMethod objectInit, .code objectInit ⟨#[0xb1]⟩ 1 none, .classLink RX0 9 "[[I", .arrayClass .int, .fieldLink RX0 11 "SentenceGym$CountChart" "counts" "[[I"] ++ wsX00)
def wsX4_spanOf : List Cond := .code yX4_spanOf cX4_spanOf 2 (some .int) :: ([])
def wsX4_countOf : List Cond := .code yX4_countOf cX4_countOf 4 (some .int) :: ([])
def wsX0_countSpan : List Cond := .code yX0_countSpan cX0_countSpan 4 (some .int) :: ([.fieldLink RX0 11 "SentenceGym$CountChart" "counts" "[[I", .static yX4_spanOf, .initialized RX4, .code yX4_spanOf cX4_spanOf 2 (some .int), .static yX4_countOf, .code yX4_countOf cX4_countOf 4 (some .int)] ++ wsX00)
def wsJ7_fill_53178 : List Cond := .code yJ7_fill_53178 cJ7_fill_53178 4 none :: ([])
def wsX1_countWord : List Cond := .code yX1_countWord cX1_countWord 3 none :: ([.fieldLink RX1 15 "SentenceGym$Grammar" "wordCategory" "[I", .fieldLink RX1 19 "SentenceGym$Grammar" "wordPair" "[I"] ++ wsX10)
def wsX1_addJoinedWith : List Cond := .code yX1_addJoinedWith cX1_addJoinedWith 9 none :: ([.fieldLink RX1 36 "SentenceGym$Grammar" "pairMade" "[[I", .fieldLink RX1 31 "SentenceGym$Grammar" "second" "[I", .fieldLink RX1 25 "SentenceGym$Grammar" "made" "[I"] ++ wsX10)
def wsX1_addJoined : List Cond := .code yX1_addJoined cX1_addJoined 7 none :: ([.fieldLink RX1 22 "SentenceGym$Grammar" "rules" "I", .fieldLink RX1 28 "SentenceGym$Grammar" "first" "[I", .methodLink RX1 54 yX1_addJoinedWith, .instanceMethod yX1_addJoinedWith, .selects RX1 yX1_addJoinedWith yX1_addJoinedWith, .initialized RX1, .code yX1_addJoinedWith cX1_addJoinedWith 9 none, .fieldLink RX1 36 "SentenceGym$Grammar" "pairMade" "[[I", .fieldLink RX1 31 "SentenceGym$Grammar" "second" "[I", .fieldLink RX1 25 "SentenceGym$Grammar" "made" "[I"] ++ wsX10)
def wsX0_fillSpan_r1 : List Cond := [Cond.fieldLink RX0 11 "SentenceGym$CountChart" "counts" "[[I", Cond.static yX4_spanOf, Cond.initialized RX4, Cond.code yX4_spanOf cX4_spanOf 2 (some .int), Cond.methodLink RX0 28 yJ7_fill_53178, Cond.static yJ7_fill_53178, Cond.initialized RJ7, Cond.code yJ7_fill_53178 cJ7_fill_53178 4 none, Cond.instanceMethod yX1_countWord, Cond.initialized RX1, Cond.selects RX1 yX1_countWord yX1_countWord, Cond.code yX1_countWord cX1_countWord 3 none, Cond.fieldLink RX1 15 "SentenceGym$Grammar" "wordCategory" "[I", Cond.fieldLink RX1 19 "SentenceGym$Grammar" "wordPair" "[I", Cond.instanceMethod yX1_addJoined, Cond.selects RX1 yX1_addJoined yX1_addJoined, Cond.code yX1_addJoined cX1_addJoined 7 none, Cond.fieldLink RX1 22 "SentenceGym$Grammar" "rules" "I", Cond.fieldLink RX1 28 "SentenceGym$Grammar" "first" "[I", Cond.methodLink RX1 54 yX1_addJoinedWith, Cond.instanceMethod yX1_addJoinedWith, Cond.selects RX1 yX1_addJoinedWith yX1_addJoinedWith, Cond.code yX1_addJoinedWith cX1_addJoinedWith 9 none, Cond.fieldLink RX1 36 "SentenceGym$Grammar" "pairMade" "[[I"]
def wsX0_fillSpan_r2 : List Cond := [Cond.fieldLink RX1 31 "SentenceGym$Grammar" "second" "[I", Cond.fieldLink RX1 25 "SentenceGym$Grammar" "made" "[I"]
def wsX0_fillSpan : List Cond := .code yX0_fillSpan cX0_fillSpan 9 none :: ((wsX0_fillSpan_r1 ++ wsX0_fillSpan_r2) ++ wsX00 ++ wsX10)
def wsX0_fill_r1 : List Cond := [Cond.methodLink RX0 24 yX0_fillSpan, Cond.instanceMethod yX0_fillSpan, Cond.selects RX0 yX0_fillSpan yX0_fillSpan, Cond.initialized RX0, Cond.code yX0_fillSpan cX0_fillSpan 9 none, Cond.fieldLink RX0 11 "SentenceGym$CountChart" "counts" "[[I", Cond.static yX4_spanOf, Cond.initialized RX4, Cond.code yX4_spanOf cX4_spanOf 2 (some .int), Cond.methodLink RX0 28 yJ7_fill_53178, Cond.static yJ7_fill_53178, Cond.initialized RJ7, Cond.code yJ7_fill_53178 cJ7_fill_53178 4 none, Cond.instanceMethod yX1_countWord, Cond.initialized RX1, Cond.selects RX1 yX1_countWord yX1_countWord, Cond.code yX1_countWord cX1_countWord 3 none, Cond.fieldLink RX1 15 "SentenceGym$Grammar" "wordCategory" "[I", Cond.fieldLink RX1 19 "SentenceGym$Grammar" "wordPair" "[I", Cond.instanceMethod yX1_addJoined, Cond.selects RX1 yX1_addJoined yX1_addJoined, Cond.code yX1_addJoined cX1_addJoined 7 none, Cond.fieldLink RX1 22 "SentenceGym$Grammar" "rules" "I", Cond.fieldLink RX1 28 "SentenceGym$Grammar" "first" "[I"]
def wsX0_fill_r2 : List Cond := [Cond.methodLink RX1 54 yX1_addJoinedWith, Cond.instanceMethod yX1_addJoinedWith, Cond.selects RX1 yX1_addJoinedWith yX1_addJoinedWith, Cond.code yX1_addJoinedWith cX1_addJoinedWith 9 none, Cond.fieldLink RX1 36 "SentenceGym$Grammar" "pairMade" "[[I", Cond.fieldLink RX1 31 "SentenceGym$Grammar" "second" "[I", Cond.fieldLink RX1 25 "SentenceGym$Grammar" "made" "[I"]
def wsX0_fill : List Cond := .code yX0_fill cX0_fill 6 none :: ((wsX0_fill_r1 ++ wsX0_fill_r2) ++ wsX00 ++ wsX10)
def wsX1_init : List Cond := .code yX1_init cX1_init 1 none :: ([.methodLink RX1 3 objectInit, .instanceMethod objectInit, .code objectInit ⟨#[0xb1]⟩ 1 none, .fieldLink RX1 9 "SentenceGym$Grammar" "words" "I", .arrayClass .int, .fieldLink RX1 15 "SentenceGym$Grammar" "wordCategory" "[I", .fieldLink RX1 19 "SentenceGym$Grammar" "wordPair" "[I", .fieldLink RX1 22 "SentenceGym$Grammar" "rules" "I", .fieldLink RX1 25 "SentenceGym$Grammar" "made" "[I", .fieldLink RX1 28 "SentenceGym$Grammar" "first" "[I", .fieldLink RX1 31 "SentenceGym$Grammar" "second" "[I", .classLink RX1 34 "[[I", .fieldLink RX1 36 "SentenceGym$Grammar" "pairMade" "[[I"] ++ wsX10)
def wsX1_defineWord : List Cond := .code yX1_defineWord cX1_defineWord 4 none :: ([.fieldLink RX1 15 "SentenceGym$Grammar" "wordCategory" "[I", .fieldLink RX1 19 "SentenceGym$Grammar" "wordPair" "[I"] ++ wsX10)
def wsX1_joinedValue : List Cond := .code yX1_joinedValue cX1_joinedValue 3 (some .int) :: ([])
def wsX4_pairOf : List Cond := .code yX4_pairOf cX4_pairOf 2 (some .int) :: ([])
def wsX1_joinedPair : List Cond := .code yX1_joinedPair cX1_joinedPair 5 (some .int) :: ([.methodLink RX1 43 yX1_joinedValue, .static yX1_joinedValue, .initialized RX1, .code yX1_joinedValue cX1_joinedValue 3 (some .int), .static yX4_pairOf, .initialized RX4, .code yX4_pairOf cX4_pairOf 2 (some .int)])
def wsX1_defineRule : List Cond := .code yX1_defineRule cX1_defineRule 7 none :: ([.fieldLink RX1 25 "SentenceGym$Grammar" "made" "[I", .fieldLink RX1 28 "SentenceGym$Grammar" "first" "[I", .fieldLink RX1 31 "SentenceGym$Grammar" "second" "[I", .fieldLink RX1 36 "SentenceGym$Grammar" "pairMade" "[[I", .methodLink RX1 39 yX1_joinedPair, .static yX1_joinedPair, .initialized RX1, .code yX1_joinedPair cX1_joinedPair 5 (some .int), .methodLink RX1 43 yX1_joinedValue, .static yX1_joinedValue, .code yX1_joinedValue cX1_joinedValue 3 (some .int), .static yX4_pairOf, .initialized RX4, .code yX4_pairOf cX4_pairOf 2 (some .int)] ++ wsX10)
def wsX4_hasPair : List Cond := .code yX4_hasPair cX4_hasPair 2 (some .boolean) :: ([])
def wsX1_pairsMade : List Cond := .code yX1_pairsMade cX1_pairsMade 8 (some .int) :: ([.fieldLink RX1 36 "SentenceGym$Grammar" "pairMade" "[[I", .static yX4_hasPair, .initialized RX4, .code yX4_hasPair cX4_hasPair 2 (some .boolean)] ++ wsX10)
def wsX2_init : List Cond := .code yX2_init cX2_init 1 none :: ([.methodLink RX2 3 objectInit, .instanceMethod objectInit, .code objectInit ⟨#[0xb1]⟩ 1 none, .arrayClass .int, .fieldLink RX2 9 "SentenceGym$PartSets" "pairs" "[I"] ++ wsX20)
def wsX2_pairsOf : List Cond := .code yX2_pairsOf cX2_pairsOf 4 (some .int) :: ([.fieldLink RX2 9 "SentenceGym$PartSets" "pairs" "[I", .static yX4_spanOf, .initialized RX4, .code yX4_spanOf cX4_spanOf 2 (some .int)] ++ wsX20)
def wsX2_holdsSentence : List Cond := .code yX2_holdsSentence cX2_holdsSentence 2 (some .boolean) :: ([.methodLink RX2 19 yX2_pairsOf, .instanceMethod yX2_pairsOf, .selects RX2 yX2_pairsOf yX2_pairsOf, .initialized RX2, .code yX2_pairsOf cX2_pairsOf 4 (some .int), .fieldLink RX2 9 "SentenceGym$PartSets" "pairs" "[I", .static yX4_spanOf, .initialized RX4, .code yX4_spanOf cX4_spanOf 2 (some .int)] ++ wsX20)
def wsX2_clearSpan : List Cond := .code yX2_clearSpan cX2_clearSpan 5 none :: ([.fieldLink RX2 9 "SentenceGym$PartSets" "pairs" "[I", .static yX4_spanOf, .initialized RX4, .code yX4_spanOf cX4_spanOf 2 (some .int)] ++ wsX20)
def wsX2_allowWord : List Cond := .code yX2_allowWord cX2_allowWord 5 none :: ([.fieldLink RX2 9 "SentenceGym$PartSets" "pairs" "[I", .static yX4_spanOf, .initialized RX4, .code yX4_spanOf cX4_spanOf 2 (some .int)] ++ wsX20 ++ wsX10)
def wsX2_putWord : List Cond := .code yX2_putWord cX2_putWord 4 none :: ([.methodLink RX2 30 yX2_clearSpan, .instanceMethod yX2_clearSpan, .selects RX2 yX2_clearSpan yX2_clearSpan, .initialized RX2, .code yX2_clearSpan cX2_clearSpan 5 none, .fieldLink RX2 9 "SentenceGym$PartSets" "pairs" "[I", .static yX4_spanOf, .initialized RX4, .code yX4_spanOf cX4_spanOf 2 (some .int), .methodLink RX2 34 yX2_allowWord, .instanceMethod yX2_allowWord, .selects RX2 yX2_allowWord yX2_allowWord, .code yX2_allowWord cX2_allowWord 5 none] ++ wsX20 ++ wsX10)
def wsX2_join : List Cond := .code yX2_join cX2_join 10 none :: ([.fieldLink RX2 9 "SentenceGym$PartSets" "pairs" "[I", .instanceMethod yX1_pairsMade, .initialized RX1, .selects RX1 yX1_pairsMade yX1_pairsMade, .code yX1_pairsMade cX1_pairsMade 8 (some .int), .fieldLink RX1 36 "SentenceGym$Grammar" "pairMade" "[[I", .static yX4_hasPair, .initialized RX4, .code yX4_hasPair cX4_hasPair 2 (some .boolean)] ++ wsX20 ++ wsX10)
def wsX2_joinUpTo : List Cond := .code yX2_joinUpTo cX2_joinUpTo 9 none :: ([.methodLink RX2 30 yX2_clearSpan, .instanceMethod yX2_clearSpan, .selects RX2 yX2_clearSpan yX2_clearSpan, .initialized RX2, .code yX2_clearSpan cX2_clearSpan 5 none, .fieldLink RX2 9 "SentenceGym$PartSets" "pairs" "[I", .static yX4_spanOf, .initialized RX4, .code yX4_spanOf cX4_spanOf 2 (some .int), .methodLink RX2 49 yX2_join, .instanceMethod yX2_join, .selects RX2 yX2_join yX2_join, .code yX2_join cX2_join 10 none, .instanceMethod yX1_pairsMade, .initialized RX1, .selects RX1 yX1_pairsMade yX1_pairsMade, .code yX1_pairsMade cX1_pairsMade 8 (some .int), .fieldLink RX1 36 "SentenceGym$Grammar" "pairMade" "[[I", .static yX4_hasPair, .code yX4_hasPair cX4_hasPair 2 (some .boolean)] ++ wsX20 ++ wsX10)
def wsX2_parse_r1 : List Cond := [Cond.methodLink RX2 23 yX2_putWord, Cond.instanceMethod yX2_putWord, Cond.selects RX2 yX2_putWord yX2_putWord, Cond.initialized RX2, Cond.code yX2_putWord cX2_putWord 4 none, Cond.methodLink RX2 30 yX2_clearSpan, Cond.instanceMethod yX2_clearSpan, Cond.selects RX2 yX2_clearSpan yX2_clearSpan, Cond.code yX2_clearSpan cX2_clearSpan 5 none, Cond.fieldLink RX2 9 "SentenceGym$PartSets" "pairs" "[I", Cond.static yX4_spanOf, Cond.initialized RX4, Cond.code yX4_spanOf cX4_spanOf 2 (some .int), Cond.methodLink RX2 34 yX2_allowWord, Cond.instanceMethod yX2_allowWord, Cond.selects RX2 yX2_allowWord yX2_allowWord, Cond.code yX2_allowWord cX2_allowWord 5 none, Cond.methodLink RX2 27 yX2_joinUpTo, Cond.instanceMethod yX2_joinUpTo, Cond.selects RX2 yX2_joinUpTo yX2_joinUpTo, Cond.code yX2_joinUpTo cX2_joinUpTo 9 none, Cond.methodLink RX2 49 yX2_join, Cond.instanceMethod yX2_join, Cond.selects RX2 yX2_join yX2_join]
def wsX2_parse_r2 : List Cond := [Cond.code yX2_join cX2_join 10 none, Cond.instanceMethod yX1_pairsMade, Cond.initialized RX1, Cond.selects RX1 yX1_pairsMade yX1_pairsMade, Cond.code yX1_pairsMade cX1_pairsMade 8 (some .int), Cond.fieldLink RX1 36 "SentenceGym$Grammar" "pairMade" "[[I", Cond.static yX4_hasPair, Cond.code yX4_hasPair cX4_hasPair 2 (some .boolean)]
def wsX2_parse : List Cond := .code yX2_parse cX2_parse 6 none :: ((wsX2_parse_r1 ++ wsX2_parse_r2) ++ wsX20 ++ wsX10)
def wsX2_putAnyWord : List Cond := .code yX2_putAnyWord cX2_putAnyWord 4 none :: ([.methodLink RX2 30 yX2_clearSpan, .instanceMethod yX2_clearSpan, .selects RX2 yX2_clearSpan yX2_clearSpan, .initialized RX2, .code yX2_clearSpan cX2_clearSpan 5 none, .fieldLink RX2 9 "SentenceGym$PartSets" "pairs" "[I", .static yX4_spanOf, .initialized RX4, .code yX4_spanOf cX4_spanOf 2 (some .int), .methodLink RX2 34 yX2_allowWord, .instanceMethod yX2_allowWord, .selects RX2 yX2_allowWord yX2_allowWord, .code yX2_allowWord cX2_allowWord 5 none] ++ wsX10 ++ wsX20)
def wsX3_init : List Cond := .code yX3_init cX3_init 1 none :: ([.methodLink RX3 3 objectInit, .instanceMethod objectInit, .code objectInit ⟨#[0xb1]⟩ 1 none, .classLink RX3 9 "[[I", .arrayClass .int, .fieldLink RX3 11 "SentenceGym$PlainCounter" "counts" "[[I"] ++ wsX30)
def wsX3_count_r1 : List Cond := [Cond.fieldLink RX3 11 "SentenceGym$PlainCounter" "counts" "[[I", Cond.methodLink RX3 24 yJ7_fill_53178, Cond.static yJ7_fill_53178, Cond.initialized RJ7, Cond.code yJ7_fill_53178 cJ7_fill_53178 4 none, Cond.instanceMethod yX1_countWord, Cond.initialized RX1, Cond.selects RX1 yX1_countWord yX1_countWord, Cond.code yX1_countWord cX1_countWord 3 none, Cond.fieldLink RX1 15 "SentenceGym$Grammar" "wordCategory" "[I", Cond.fieldLink RX1 19 "SentenceGym$Grammar" "wordPair" "[I", Cond.methodLink RX3 16 yX3_count, Cond.instanceMethod yX3_count, Cond.selects RX3 yX3_count yX3_count, Cond.initialized RX3, Cond.instanceMethod yX1_addJoined, Cond.selects RX1 yX1_addJoined yX1_addJoined, Cond.code yX1_addJoined cX1_addJoined 7 none, Cond.fieldLink RX1 22 "SentenceGym$Grammar" "rules" "I", Cond.fieldLink RX1 28 "SentenceGym$Grammar" "first" "[I", Cond.methodLink RX1 54 yX1_addJoinedWith, Cond.instanceMethod yX1_addJoinedWith, Cond.selects RX1 yX1_addJoinedWith yX1_addJoinedWith, Cond.code yX1_addJoinedWith cX1_addJoinedWith 9 none]
def wsX3_count_r2 : List Cond := [Cond.fieldLink RX1 36 "SentenceGym$Grammar" "pairMade" "[[I", Cond.fieldLink RX1 31 "SentenceGym$Grammar" "second" "[I", Cond.fieldLink RX1 25 "SentenceGym$Grammar" "made" "[I"]
def wsX3_count : List Cond := .code yX3_count cX3_count 10 none :: ((wsX3_count_r1 ++ wsX3_count_r2) ++ wsX30 ++ wsX10)
def wsX3_countRow_r1 : List Cond := [Cond.fieldLink RX3 11 "SentenceGym$PlainCounter" "counts" "[[I", Cond.methodLink RX3 16 yX3_count, Cond.instanceMethod yX3_count, Cond.selects RX3 yX3_count yX3_count, Cond.initialized RX3, Cond.code yX3_count cX3_count 10 none, Cond.methodLink RX3 24 yJ7_fill_53178, Cond.static yJ7_fill_53178, Cond.initialized RJ7, Cond.code yJ7_fill_53178 cJ7_fill_53178 4 none, Cond.instanceMethod yX1_countWord, Cond.initialized RX1, Cond.selects RX1 yX1_countWord yX1_countWord, Cond.code yX1_countWord cX1_countWord 3 none, Cond.fieldLink RX1 15 "SentenceGym$Grammar" "wordCategory" "[I", Cond.fieldLink RX1 19 "SentenceGym$Grammar" "wordPair" "[I", Cond.instanceMethod yX1_addJoined, Cond.selects RX1 yX1_addJoined yX1_addJoined, Cond.code yX1_addJoined cX1_addJoined 7 none, Cond.fieldLink RX1 22 "SentenceGym$Grammar" "rules" "I", Cond.fieldLink RX1 28 "SentenceGym$Grammar" "first" "[I", Cond.methodLink RX1 54 yX1_addJoinedWith, Cond.instanceMethod yX1_addJoinedWith, Cond.selects RX1 yX1_addJoinedWith yX1_addJoinedWith]
def wsX3_countRow_r2 : List Cond := [Cond.code yX1_addJoinedWith cX1_addJoinedWith 9 none, Cond.fieldLink RX1 36 "SentenceGym$Grammar" "pairMade" "[[I", Cond.fieldLink RX1 31 "SentenceGym$Grammar" "second" "[I", Cond.fieldLink RX1 25 "SentenceGym$Grammar" "made" "[I", Cond.static yX4_countOf, Cond.initialized RX4, Cond.code yX4_countOf cX4_countOf 4 (some .int)]
def wsX3_countRow : List Cond := .code yX3_countRow cX3_countRow 5 (some .int) :: ((wsX3_countRow_r1 ++ wsX3_countRow_r2) ++ wsX30 ++ wsX10)
def wsX4_init_r1 : List Cond := [Cond.methodLink RX4 3 objectInit, Cond.instanceMethod objectInit, Cond.code objectInit ⟨#[0xb1]⟩ 1 none, Cond.classLink RX4 9 RX1, Cond.instantiable RX1 8, Cond.initialized RX1, Cond.fieldLink RX4 12 "SentenceGym" "grammar" "LSentenceGym$Grammar;", Cond.arrayClass .int, Cond.fieldLink RX4 16 "SentenceGym" "row" "[I", Cond.fieldLink RX4 20 "SentenceGym" "rowLength" "I", Cond.fieldLink RX4 24 "SentenceGym" "trial" "[I", Cond.classLink RX4 27 RX2, Cond.instantiable RX2 1, Cond.initialized RX2, Cond.fieldLink RX4 30 "SentenceGym" "partSets" "LSentenceGym$PartSets;", Cond.classLink RX4 34 RX0, Cond.instantiable RX0 1, Cond.initialized RX0, Cond.fieldLink RX4 37 "SentenceGym" "countChart" "LSentenceGym$CountChart;", Cond.classLink RX4 41 RX3, Cond.instantiable RX3 1, Cond.initialized RX3, Cond.fieldLink RX4 44 "SentenceGym" "plainCounter" "LSentenceGym$PlainCounter;", Cond.instanceMethod yX1_init]
def wsX4_init_r2 : List Cond := [Cond.code yX1_init cX1_init 1 none, Cond.methodLink RX1 3 objectInit, Cond.fieldLink RX1 9 "SentenceGym$Grammar" "words" "I", Cond.fieldLink RX1 15 "SentenceGym$Grammar" "wordCategory" "[I", Cond.fieldLink RX1 19 "SentenceGym$Grammar" "wordPair" "[I", Cond.fieldLink RX1 22 "SentenceGym$Grammar" "rules" "I", Cond.fieldLink RX1 25 "SentenceGym$Grammar" "made" "[I", Cond.fieldLink RX1 28 "SentenceGym$Grammar" "first" "[I", Cond.fieldLink RX1 31 "SentenceGym$Grammar" "second" "[I", Cond.classLink RX1 34 "[[I", Cond.fieldLink RX1 36 "SentenceGym$Grammar" "pairMade" "[[I", Cond.instanceMethod yX2_init, Cond.code yX2_init cX2_init 1 none, Cond.methodLink RX2 3 objectInit, Cond.fieldLink RX2 9 "SentenceGym$PartSets" "pairs" "[I", Cond.instanceMethod yX0_init, Cond.code yX0_init cX0_init 1 none, Cond.methodLink RX0 3 objectInit, Cond.classLink RX0 9 "[[I", Cond.fieldLink RX0 11 "SentenceGym$CountChart" "counts" "[[I", Cond.instanceMethod yX3_init, Cond.code yX3_init cX3_init 1 none, Cond.methodLink RX3 3 objectInit, Cond.classLink RX3 9 "[[I"]
def wsX4_init_r3 : List Cond := [Cond.fieldLink RX3 11 "SentenceGym$PlainCounter" "counts" "[[I"]
def wsX4_init : List Cond := .code yX4_init cX4_init 1 none :: ((wsX4_init_r1 ++ (wsX4_init_r2 ++ wsX4_init_r3)) ++ wsX10 ++ wsX40 ++ wsX20 ++ wsX00 ++ wsX30)
def wsX4_isOutside : List Cond := .code yX4_isOutside cX4_isOutside 2 (some .boolean) :: ([])
def wsX4_isNoKind : List Cond := .code yX4_isNoKind cX4_isNoKind 3 (some .boolean) :: ([.methodLink RX4 75 yX4_isOutside, .static yX4_isOutside, .initialized RX4, .code yX4_isOutside cX4_isOutside 2 (some .boolean)])
def wsX4_addWord : List Cond := .code yX4_addWord cX4_addWord 5 (some .int) :: ([.classLink RX4 52 "java/lang/IllegalArgumentException", .initialized "java/lang/IllegalArgumentException", .classLink RX4 62 "java/lang/IllegalStateException", .initialized "java/lang/IllegalStateException", .fieldLink RX4 12 "SentenceGym" "grammar" "LSentenceGym$Grammar;", .methodLink RX4 48 yX4_isNoKind, .static yX4_isNoKind, .initialized RX4, .code yX4_isNoKind cX4_isNoKind 3 (some .boolean), .methodLink RX4 75 yX4_isOutside, .static yX4_isOutside, .code yX4_isOutside cX4_isOutside 2 (some .boolean), .methodLink RX4 67 yX4_pairOf, .static yX4_pairOf, .code yX4_pairOf cX4_pairOf 2 (some .int), .instanceMethod yX1_defineWord, .initialized RX1, .selects RX1 yX1_defineWord yX1_defineWord, .code yX1_defineWord cX1_defineWord 4 none, .fieldLink RX1 15 "SentenceGym$Grammar" "wordCategory" "[I", .fieldLink RX1 19 "SentenceGym$Grammar" "wordPair" "[I"] ++ wsX40 ++ wsX10 ++ (vx_atS RX4 56 "java/lang/IllegalArgumentException" ["java/lang/RuntimeException", "java/lang/Exception"]).filter goodWord ++ (vx_atS RX4 66 "java/lang/IllegalStateException" ["java/lang/RuntimeException", "java/lang/Exception"]).filter goodWord)
def wsX4_setWord : List Cond := .code yX4_setWord cX4_setWord 6 (some .int) :: ([.classLink RX4 79 "java/lang/IndexOutOfBoundsException", .initialized "java/lang/IndexOutOfBoundsException", .classLink RX4 52 "java/lang/IllegalArgumentException", .initialized "java/lang/IllegalArgumentException", .fieldLink RX4 12 "SentenceGym" "grammar" "LSentenceGym$Grammar;", .methodLink RX4 75 yX4_isOutside, .static yX4_isOutside, .initialized RX4, .code yX4_isOutside cX4_isOutside 2 (some .boolean), .methodLink RX4 48 yX4_isNoKind, .static yX4_isNoKind, .code yX4_isNoKind cX4_isNoKind 3 (some .boolean), .methodLink RX4 67 yX4_pairOf, .static yX4_pairOf, .code yX4_pairOf cX4_pairOf 2 (some .int), .instanceMethod yX1_defineWord, .initialized RX1, .selects RX1 yX1_defineWord yX1_defineWord, .code yX1_defineWord cX1_defineWord 4 none, .fieldLink RX1 15 "SentenceGym$Grammar" "wordCategory" "[I", .fieldLink RX1 19 "SentenceGym$Grammar" "wordPair" "[I"] ++ wsX40 ++ wsX10 ++ (vx_atS RX4 83 "java/lang/IndexOutOfBoundsException" ["java/lang/RuntimeException", "java/lang/Exception"]).filter goodWord ++ (vx_atS RX4 56 "java/lang/IllegalArgumentException" ["java/lang/RuntimeException", "java/lang/Exception"]).filter goodWord)
def wsX4_isNoDigitPair : List Cond := .code yX4_isNoDigitPair cX4_isNoDigitPair 1 (some .boolean) :: ([])
def wsX4_addRule_r1 : List Cond := [Cond.classLink RX4 52 "java/lang/IllegalArgumentException", Cond.initialized "java/lang/IllegalArgumentException", Cond.classLink RX4 62 "java/lang/IllegalStateException", Cond.initialized "java/lang/IllegalStateException", Cond.fieldLink RX4 12 "SentenceGym" "grammar" "LSentenceGym$Grammar;", Cond.methodLink RX4 75 yX4_isOutside, Cond.static yX4_isOutside, Cond.initialized RX4, Cond.code yX4_isOutside cX4_isOutside 2 (some .boolean), Cond.methodLink RX4 87 yX4_isNoDigitPair, Cond.static yX4_isNoDigitPair, Cond.code yX4_isNoDigitPair cX4_isNoDigitPair 1 (some .boolean), Cond.instanceMethod yX1_defineRule, Cond.initialized RX1, Cond.selects RX1 yX1_defineRule yX1_defineRule, Cond.code yX1_defineRule cX1_defineRule 7 none, Cond.fieldLink RX1 25 "SentenceGym$Grammar" "made" "[I", Cond.fieldLink RX1 28 "SentenceGym$Grammar" "first" "[I", Cond.fieldLink RX1 31 "SentenceGym$Grammar" "second" "[I", Cond.fieldLink RX1 36 "SentenceGym$Grammar" "pairMade" "[[I", Cond.methodLink RX1 39 yX1_joinedPair, Cond.static yX1_joinedPair, Cond.code yX1_joinedPair cX1_joinedPair 5 (some .int), Cond.methodLink RX1 43 yX1_joinedValue]
def wsX4_addRule_r2 : List Cond := [Cond.static yX1_joinedValue, Cond.code yX1_joinedValue cX1_joinedValue 3 (some .int), Cond.static yX4_pairOf, Cond.code yX4_pairOf cX4_pairOf 2 (some .int)]
def wsX4_addRule : List Cond := .code yX4_addRule cX4_addRule 6 (some .int) :: ((wsX4_addRule_r1 ++ wsX4_addRule_r2) ++ wsX40 ++ wsX10 ++ (vx_atS RX4 56 "java/lang/IllegalArgumentException" ["java/lang/RuntimeException", "java/lang/Exception"]).filter goodWord ++ (vx_atS RX4 66 "java/lang/IllegalStateException" ["java/lang/RuntimeException", "java/lang/Exception"]).filter goodWord)
def wsX4_dropRule : List Cond := .code yX4_dropRule cX4_dropRule 1 (some .int) :: ([.classLink RX4 62 "java/lang/IllegalStateException", .initialized "java/lang/IllegalStateException", .fieldLink RX4 12 "SentenceGym" "grammar" "LSentenceGym$Grammar;"] ++ wsX40 ++ wsX10 ++ (vx_atS RX4 66 "java/lang/IllegalStateException" ["java/lang/RuntimeException", "java/lang/Exception"]).filter goodWord)
def wsX4_say : List Cond := .code yX4_say cX4_say 2 (some .int) :: ([.classLink RX4 79 "java/lang/IndexOutOfBoundsException", .initialized "java/lang/IndexOutOfBoundsException", .classLink RX4 62 "java/lang/IllegalStateException", .initialized "java/lang/IllegalStateException", .fieldLink RX4 12 "SentenceGym" "grammar" "LSentenceGym$Grammar;", .fieldLink RX4 20 "SentenceGym" "rowLength" "I", .fieldLink RX4 16 "SentenceGym" "row" "[I", .methodLink RX4 75 yX4_isOutside, .static yX4_isOutside, .initialized RX4, .code yX4_isOutside cX4_isOutside 2 (some .boolean)] ++ wsX40 ++ wsX10 ++ (vx_atS RX4 83 "java/lang/IndexOutOfBoundsException" ["java/lang/RuntimeException", "java/lang/Exception"]).filter goodWord ++ (vx_atS RX4 66 "java/lang/IllegalStateException" ["java/lang/RuntimeException", "java/lang/Exception"]).filter goodWord)
def wsX4_change : List Cond := .code yX4_change cX4_change 4 (some .int) :: ([.classLink RX4 79 "java/lang/IndexOutOfBoundsException", .initialized "java/lang/IndexOutOfBoundsException", .fieldLink RX4 20 "SentenceGym" "rowLength" "I", .fieldLink RX4 12 "SentenceGym" "grammar" "LSentenceGym$Grammar;", .fieldLink RX4 16 "SentenceGym" "row" "[I", .methodLink RX4 75 yX4_isOutside, .static yX4_isOutside, .initialized RX4, .code yX4_isOutside cX4_isOutside 2 (some .boolean)] ++ wsX40 ++ wsX10 ++ (vx_atS RX4 83 "java/lang/IndexOutOfBoundsException" ["java/lang/RuntimeException", "java/lang/Exception"]).filter goodWord)
def wsX4_hush : List Cond := .code yX4_hush cX4_hush 2 (some .int) :: ([.fieldLink RX4 20 "SentenceGym" "rowLength" "I"] ++ wsX40)
def wsX4_said : List Cond := .code yX4_said cX4_said 1 (some .int) :: ([.fieldLink RX4 20 "SentenceGym" "rowLength" "I"] ++ wsX40)
def wsX4_wordAt : List Cond := .code yX4_wordAt cX4_wordAt 2 (some .int) :: ([.classLink RX4 79 "java/lang/IndexOutOfBoundsException", .initialized "java/lang/IndexOutOfBoundsException", .fieldLink RX4 20 "SentenceGym" "rowLength" "I", .fieldLink RX4 16 "SentenceGym" "row" "[I", .methodLink RX4 75 yX4_isOutside, .static yX4_isOutside, .initialized RX4, .code yX4_isOutside cX4_isOutside 2 (some .boolean)] ++ wsX40 ++ (vx_atS RX4 83 "java/lang/IndexOutOfBoundsException" ["java/lang/RuntimeException", "java/lang/Exception"]).filter goodWord)
def wsX4_told : List Cond := .code yX4_told cX4_told 1 (some .int) :: ([.constant RX4 166 (1000000)])
def wsX4_countReadings_r1 : List Cond := [Cond.fieldLink RX4 37 "SentenceGym" "countChart" "LSentenceGym$CountChart;", Cond.fieldLink RX4 12 "SentenceGym" "grammar" "LSentenceGym$Grammar;", Cond.fieldLink RX4 16 "SentenceGym" "row" "[I", Cond.fieldLink RX4 20 "SentenceGym" "rowLength" "I", Cond.instanceMethod yX0_fill, Cond.initialized RX0, Cond.selects RX0 yX0_fill yX0_fill, Cond.code yX0_fill cX0_fill 6 none, Cond.methodLink RX0 24 yX0_fillSpan, Cond.instanceMethod yX0_fillSpan, Cond.selects RX0 yX0_fillSpan yX0_fillSpan, Cond.code yX0_fillSpan cX0_fillSpan 9 none, Cond.fieldLink RX0 11 "SentenceGym$CountChart" "counts" "[[I", Cond.static yX4_spanOf, Cond.initialized RX4, Cond.code yX4_spanOf cX4_spanOf 2 (some .int), Cond.methodLink RX0 28 yJ7_fill_53178, Cond.static yJ7_fill_53178, Cond.initialized RJ7, Cond.code yJ7_fill_53178 cJ7_fill_53178 4 none, Cond.instanceMethod yX1_countWord, Cond.initialized RX1, Cond.selects RX1 yX1_countWord yX1_countWord, Cond.code yX1_countWord cX1_countWord 3 none]
def wsX4_countReadings_r2 : List Cond := [Cond.fieldLink RX1 15 "SentenceGym$Grammar" "wordCategory" "[I", Cond.fieldLink RX1 19 "SentenceGym$Grammar" "wordPair" "[I", Cond.instanceMethod yX1_addJoined, Cond.selects RX1 yX1_addJoined yX1_addJoined, Cond.code yX1_addJoined cX1_addJoined 7 none, Cond.fieldLink RX1 22 "SentenceGym$Grammar" "rules" "I", Cond.fieldLink RX1 28 "SentenceGym$Grammar" "first" "[I", Cond.methodLink RX1 54 yX1_addJoinedWith, Cond.instanceMethod yX1_addJoinedWith, Cond.selects RX1 yX1_addJoinedWith yX1_addJoinedWith, Cond.code yX1_addJoinedWith cX1_addJoinedWith 9 none, Cond.fieldLink RX1 36 "SentenceGym$Grammar" "pairMade" "[[I", Cond.fieldLink RX1 31 "SentenceGym$Grammar" "second" "[I", Cond.fieldLink RX1 25 "SentenceGym$Grammar" "made" "[I", Cond.instanceMethod yX0_countSpan, Cond.selects RX0 yX0_countSpan yX0_countSpan, Cond.code yX0_countSpan cX0_countSpan 4 (some .int), Cond.static yX4_countOf, Cond.code yX4_countOf cX4_countOf 4 (some .int), Cond.methodLink RX4 118 yX4_told, Cond.static yX4_told, Cond.code yX4_told cX4_told 1 (some .int), Cond.constant RX4 166 (1000000)]
def wsX4_countReadings : List Cond := .code yX4_countReadings cX4_countReadings 4 (some .int) :: ((wsX4_countReadings_r1 ++ wsX4_countReadings_r2) ++ wsX40 ++ wsX00 ++ wsX10)
def wsX4_readings_r1 : List Cond := [Cond.fieldLink RX4 20 "SentenceGym" "rowLength" "I", Cond.methodLink RX4 110 yX4_countReadings, Cond.instanceMethod yX4_countReadings, Cond.selects RX4 yX4_countReadings yX4_countReadings, Cond.initialized RX4, Cond.code yX4_countReadings cX4_countReadings 4 (some .int), Cond.fieldLink RX4 37 "SentenceGym" "countChart" "LSentenceGym$CountChart;", Cond.fieldLink RX4 12 "SentenceGym" "grammar" "LSentenceGym$Grammar;", Cond.fieldLink RX4 16 "SentenceGym" "row" "[I", Cond.instanceMethod yX0_fill, Cond.initialized RX0, Cond.selects RX0 yX0_fill yX0_fill, Cond.code yX0_fill cX0_fill 6 none, Cond.methodLink RX0 24 yX0_fillSpan, Cond.instanceMethod yX0_fillSpan, Cond.selects RX0 yX0_fillSpan yX0_fillSpan, Cond.code yX0_fillSpan cX0_fillSpan 9 none, Cond.fieldLink RX0 11 "SentenceGym$CountChart" "counts" "[[I", Cond.static yX4_spanOf, Cond.code yX4_spanOf cX4_spanOf 2 (some .int), Cond.methodLink RX0 28 yJ7_fill_53178, Cond.static yJ7_fill_53178, Cond.initialized RJ7, Cond.code yJ7_fill_53178 cJ7_fill_53178 4 none]
def wsX4_readings_r2 : List Cond := [Cond.instanceMethod yX1_countWord, Cond.initialized RX1, Cond.selects RX1 yX1_countWord yX1_countWord, Cond.code yX1_countWord cX1_countWord 3 none, Cond.fieldLink RX1 15 "SentenceGym$Grammar" "wordCategory" "[I", Cond.fieldLink RX1 19 "SentenceGym$Grammar" "wordPair" "[I", Cond.instanceMethod yX1_addJoined, Cond.selects RX1 yX1_addJoined yX1_addJoined, Cond.code yX1_addJoined cX1_addJoined 7 none, Cond.fieldLink RX1 22 "SentenceGym$Grammar" "rules" "I", Cond.fieldLink RX1 28 "SentenceGym$Grammar" "first" "[I", Cond.methodLink RX1 54 yX1_addJoinedWith, Cond.instanceMethod yX1_addJoinedWith, Cond.selects RX1 yX1_addJoinedWith yX1_addJoinedWith, Cond.code yX1_addJoinedWith cX1_addJoinedWith 9 none, Cond.fieldLink RX1 36 "SentenceGym$Grammar" "pairMade" "[[I", Cond.fieldLink RX1 31 "SentenceGym$Grammar" "second" "[I", Cond.fieldLink RX1 25 "SentenceGym$Grammar" "made" "[I", Cond.instanceMethod yX0_countSpan, Cond.selects RX0 yX0_countSpan yX0_countSpan, Cond.code yX0_countSpan cX0_countSpan 4 (some .int), Cond.static yX4_countOf, Cond.code yX4_countOf cX4_countOf 4 (some .int), Cond.methodLink RX4 118 yX4_told]
def wsX4_readings_r3 : List Cond := [Cond.static yX4_told, Cond.code yX4_told cX4_told 1 (some .int), Cond.constant RX4 166 (1000000)]
def wsX4_readings : List Cond := .code yX4_readings cX4_readings 1 (some .int) :: ((wsX4_readings_r1 ++ (wsX4_readings_r2 ++ wsX4_readings_r3)) ++ wsX40 ++ wsX00 ++ wsX10)
def wsX4_readingsPlainly_r1 : List Cond := [Cond.fieldLink RX4 20 "SentenceGym" "rowLength" "I", Cond.fieldLink RX4 44 "SentenceGym" "plainCounter" "LSentenceGym$PlainCounter;", Cond.fieldLink RX4 12 "SentenceGym" "grammar" "LSentenceGym$Grammar;", Cond.fieldLink RX4 16 "SentenceGym" "row" "[I", Cond.instanceMethod yX3_countRow, Cond.initialized RX3, Cond.selects RX3 yX3_countRow yX3_countRow, Cond.code yX3_countRow cX3_countRow 5 (some .int), Cond.fieldLink RX3 11 "SentenceGym$PlainCounter" "counts" "[[I", Cond.methodLink RX3 16 yX3_count, Cond.instanceMethod yX3_count, Cond.selects RX3 yX3_count yX3_count, Cond.code yX3_count cX3_count 10 none, Cond.methodLink RX3 24 yJ7_fill_53178, Cond.static yJ7_fill_53178, Cond.initialized RJ7, Cond.code yJ7_fill_53178 cJ7_fill_53178 4 none, Cond.instanceMethod yX1_countWord, Cond.initialized RX1, Cond.selects RX1 yX1_countWord yX1_countWord, Cond.code yX1_countWord cX1_countWord 3 none, Cond.fieldLink RX1 15 "SentenceGym$Grammar" "wordCategory" "[I", Cond.fieldLink RX1 19 "SentenceGym$Grammar" "wordPair" "[I", Cond.instanceMethod yX1_addJoined]
def wsX4_readingsPlainly_r2 : List Cond := [Cond.selects RX1 yX1_addJoined yX1_addJoined, Cond.code yX1_addJoined cX1_addJoined 7 none, Cond.fieldLink RX1 22 "SentenceGym$Grammar" "rules" "I", Cond.fieldLink RX1 28 "SentenceGym$Grammar" "first" "[I", Cond.methodLink RX1 54 yX1_addJoinedWith, Cond.instanceMethod yX1_addJoinedWith, Cond.selects RX1 yX1_addJoinedWith yX1_addJoinedWith, Cond.code yX1_addJoinedWith cX1_addJoinedWith 9 none, Cond.fieldLink RX1 36 "SentenceGym$Grammar" "pairMade" "[[I", Cond.fieldLink RX1 31 "SentenceGym$Grammar" "second" "[I", Cond.fieldLink RX1 25 "SentenceGym$Grammar" "made" "[I", Cond.static yX4_countOf, Cond.initialized RX4, Cond.code yX4_countOf cX4_countOf 4 (some .int), Cond.methodLink RX4 118 yX4_told, Cond.static yX4_told, Cond.code yX4_told cX4_told 1 (some .int), Cond.constant RX4 166 (1000000)]
def wsX4_readingsPlainly : List Cond := .code yX4_readingsPlainly cX4_readingsPlainly 1 (some .int) :: ((wsX4_readingsPlainly_r1 ++ wsX4_readingsPlainly_r2) ++ wsX40 ++ wsX30 ++ wsX10)
def wsX4_isNoSpan : List Cond := .code yX4_isNoSpan cX4_isNoSpan 3 (some .boolean) :: ([.fieldLink RX4 20 "SentenceGym" "rowLength" "I"] ++ wsX40)
def wsX4_readingsOf_r1 : List Cond := [Cond.classLink RX4 79 "java/lang/IndexOutOfBoundsException", Cond.initialized "java/lang/IndexOutOfBoundsException", Cond.methodLink RX4 122 yX4_isNoSpan, Cond.instanceMethod yX4_isNoSpan, Cond.selects RX4 yX4_isNoSpan yX4_isNoSpan, Cond.initialized RX4, Cond.code yX4_isNoSpan cX4_isNoSpan 3 (some .boolean), Cond.fieldLink RX4 20 "SentenceGym" "rowLength" "I", Cond.methodLink RX4 75 yX4_isOutside, Cond.static yX4_isOutside, Cond.code yX4_isOutside cX4_isOutside 2 (some .boolean), Cond.methodLink RX4 110 yX4_countReadings, Cond.instanceMethod yX4_countReadings, Cond.selects RX4 yX4_countReadings yX4_countReadings, Cond.code yX4_countReadings cX4_countReadings 4 (some .int), Cond.fieldLink RX4 37 "SentenceGym" "countChart" "LSentenceGym$CountChart;", Cond.fieldLink RX4 12 "SentenceGym" "grammar" "LSentenceGym$Grammar;", Cond.fieldLink RX4 16 "SentenceGym" "row" "[I", Cond.instanceMethod yX0_fill, Cond.initialized RX0, Cond.selects RX0 yX0_fill yX0_fill, Cond.code yX0_fill cX0_fill 6 none, Cond.methodLink RX0 24 yX0_fillSpan, Cond.instanceMethod yX0_fillSpan]
def wsX4_readingsOf_r2 : List Cond := [Cond.selects RX0 yX0_fillSpan yX0_fillSpan, Cond.code yX0_fillSpan cX0_fillSpan 9 none, Cond.fieldLink RX0 11 "SentenceGym$CountChart" "counts" "[[I", Cond.static yX4_spanOf, Cond.code yX4_spanOf cX4_spanOf 2 (some .int), Cond.methodLink RX0 28 yJ7_fill_53178, Cond.static yJ7_fill_53178, Cond.initialized RJ7, Cond.code yJ7_fill_53178 cJ7_fill_53178 4 none, Cond.instanceMethod yX1_countWord, Cond.initialized RX1, Cond.selects RX1 yX1_countWord yX1_countWord, Cond.code yX1_countWord cX1_countWord 3 none, Cond.fieldLink RX1 15 "SentenceGym$Grammar" "wordCategory" "[I", Cond.fieldLink RX1 19 "SentenceGym$Grammar" "wordPair" "[I", Cond.instanceMethod yX1_addJoined, Cond.selects RX1 yX1_addJoined yX1_addJoined, Cond.code yX1_addJoined cX1_addJoined 7 none, Cond.fieldLink RX1 22 "SentenceGym$Grammar" "rules" "I", Cond.fieldLink RX1 28 "SentenceGym$Grammar" "first" "[I", Cond.methodLink RX1 54 yX1_addJoinedWith, Cond.instanceMethod yX1_addJoinedWith, Cond.selects RX1 yX1_addJoinedWith yX1_addJoinedWith, Cond.code yX1_addJoinedWith cX1_addJoinedWith 9 none]
def wsX4_readingsOf_r3 : List Cond := [Cond.fieldLink RX1 36 "SentenceGym$Grammar" "pairMade" "[[I", Cond.fieldLink RX1 31 "SentenceGym$Grammar" "second" "[I", Cond.fieldLink RX1 25 "SentenceGym$Grammar" "made" "[I", Cond.instanceMethod yX0_countSpan, Cond.selects RX0 yX0_countSpan yX0_countSpan, Cond.code yX0_countSpan cX0_countSpan 4 (some .int), Cond.static yX4_countOf, Cond.code yX4_countOf cX4_countOf 4 (some .int), Cond.methodLink RX4 118 yX4_told, Cond.static yX4_told, Cond.code yX4_told cX4_told 1 (some .int), Cond.constant RX4 166 (1000000)]
def wsX4_readingsOf : List Cond := .code yX4_readingsOf cX4_readingsOf 4 (some .int) :: ((wsX4_readingsOf_r1 ++ (wsX4_readingsOf_r2 ++ wsX4_readingsOf_r3)) ++ wsX40 ++ wsX00 ++ wsX10 ++ (vx_atS RX4 83 "java/lang/IndexOutOfBoundsException" ["java/lang/RuntimeException", "java/lang/Exception"]).filter goodWord)
def wsX4_has_r1 : List Cond := [Cond.classLink RX4 79 "java/lang/IndexOutOfBoundsException", Cond.initialized "java/lang/IndexOutOfBoundsException", Cond.classLink RX4 52 "java/lang/IllegalArgumentException", Cond.initialized "java/lang/IllegalArgumentException", Cond.fieldLink RX4 30 "SentenceGym" "partSets" "LSentenceGym$PartSets;", Cond.fieldLink RX4 12 "SentenceGym" "grammar" "LSentenceGym$Grammar;", Cond.fieldLink RX4 16 "SentenceGym" "row" "[I", Cond.fieldLink RX4 20 "SentenceGym" "rowLength" "I", Cond.methodLink RX4 122 yX4_isNoSpan, Cond.instanceMethod yX4_isNoSpan, Cond.selects RX4 yX4_isNoSpan yX4_isNoSpan, Cond.initialized RX4, Cond.code yX4_isNoSpan cX4_isNoSpan 3 (some .boolean), Cond.methodLink RX4 75 yX4_isOutside, Cond.static yX4_isOutside, Cond.code yX4_isOutside cX4_isOutside 2 (some .boolean), Cond.methodLink RX4 87 yX4_isNoDigitPair, Cond.static yX4_isNoDigitPair, Cond.code yX4_isNoDigitPair cX4_isNoDigitPair 1 (some .boolean), Cond.instanceMethod yX2_parse, Cond.initialized RX2, Cond.selects RX2 yX2_parse yX2_parse, Cond.code yX2_parse cX2_parse 6 none, Cond.methodLink RX2 23 yX2_putWord]
def wsX4_has_r2 : List Cond := [Cond.instanceMethod yX2_putWord, Cond.selects RX2 yX2_putWord yX2_putWord, Cond.code yX2_putWord cX2_putWord 4 none, Cond.methodLink RX2 30 yX2_clearSpan, Cond.instanceMethod yX2_clearSpan, Cond.selects RX2 yX2_clearSpan yX2_clearSpan, Cond.code yX2_clearSpan cX2_clearSpan 5 none, Cond.fieldLink RX2 9 "SentenceGym$PartSets" "pairs" "[I", Cond.static yX4_spanOf, Cond.code yX4_spanOf cX4_spanOf 2 (some .int), Cond.methodLink RX2 34 yX2_allowWord, Cond.instanceMethod yX2_allowWord, Cond.selects RX2 yX2_allowWord yX2_allowWord, Cond.code yX2_allowWord cX2_allowWord 5 none, Cond.methodLink RX2 27 yX2_joinUpTo, Cond.instanceMethod yX2_joinUpTo, Cond.selects RX2 yX2_joinUpTo yX2_joinUpTo, Cond.code yX2_joinUpTo cX2_joinUpTo 9 none, Cond.methodLink RX2 49 yX2_join, Cond.instanceMethod yX2_join, Cond.selects RX2 yX2_join yX2_join, Cond.code yX2_join cX2_join 10 none, Cond.instanceMethod yX1_pairsMade, Cond.initialized RX1]
def wsX4_has_r3 : List Cond := [Cond.selects RX1 yX1_pairsMade yX1_pairsMade, Cond.code yX1_pairsMade cX1_pairsMade 8 (some .int), Cond.fieldLink RX1 36 "SentenceGym$Grammar" "pairMade" "[[I", Cond.static yX4_hasPair, Cond.code yX4_hasPair cX4_hasPair 2 (some .boolean), Cond.instanceMethod yX2_pairsOf, Cond.selects RX2 yX2_pairsOf yX2_pairsOf, Cond.code yX2_pairsOf cX2_pairsOf 4 (some .int), Cond.methodLink RX4 67 yX4_pairOf, Cond.static yX4_pairOf, Cond.code yX4_pairOf cX4_pairOf 2 (some .int), Cond.methodLink RX4 136 yX4_hasPair]
def wsX4_has : List Cond := .code yX4_has cX4_has 6 (some .boolean) :: ((wsX4_has_r1 ++ (wsX4_has_r2 ++ wsX4_has_r3)) ++ wsX40 ++ wsX10 ++ wsX20 ++ (vx_atS RX4 83 "java/lang/IndexOutOfBoundsException" ["java/lang/RuntimeException", "java/lang/Exception"]).filter goodWord ++ (vx_atS RX4 56 "java/lang/IllegalArgumentException" ["java/lang/RuntimeException", "java/lang/Exception"]).filter goodWord)
def wsX4_level_r1 : List Cond := [Cond.fieldLink RX4 12 "SentenceGym" "grammar" "LSentenceGym$Grammar;", Cond.fieldLink RX4 30 "SentenceGym" "partSets" "LSentenceGym$PartSets;", Cond.fieldLink RX4 16 "SentenceGym" "row" "[I", Cond.fieldLink RX4 20 "SentenceGym" "rowLength" "I", Cond.instanceMethod yX2_parse, Cond.initialized RX2, Cond.selects RX2 yX2_parse yX2_parse, Cond.code yX2_parse cX2_parse 6 none, Cond.methodLink RX2 23 yX2_putWord, Cond.instanceMethod yX2_putWord, Cond.selects RX2 yX2_putWord yX2_putWord, Cond.code yX2_putWord cX2_putWord 4 none, Cond.methodLink RX2 30 yX2_clearSpan, Cond.instanceMethod yX2_clearSpan, Cond.selects RX2 yX2_clearSpan yX2_clearSpan, Cond.code yX2_clearSpan cX2_clearSpan 5 none, Cond.fieldLink RX2 9 "SentenceGym$PartSets" "pairs" "[I", Cond.static yX4_spanOf, Cond.initialized RX4, Cond.code yX4_spanOf cX4_spanOf 2 (some .int), Cond.methodLink RX2 34 yX2_allowWord, Cond.instanceMethod yX2_allowWord, Cond.selects RX2 yX2_allowWord yX2_allowWord, Cond.code yX2_allowWord cX2_allowWord 5 none]
def wsX4_level_r2 : List Cond := [Cond.methodLink RX2 27 yX2_joinUpTo, Cond.instanceMethod yX2_joinUpTo, Cond.selects RX2 yX2_joinUpTo yX2_joinUpTo, Cond.code yX2_joinUpTo cX2_joinUpTo 9 none, Cond.methodLink RX2 49 yX2_join, Cond.instanceMethod yX2_join, Cond.selects RX2 yX2_join yX2_join, Cond.code yX2_join cX2_join 10 none, Cond.instanceMethod yX1_pairsMade, Cond.initialized RX1, Cond.selects RX1 yX1_pairsMade yX1_pairsMade, Cond.code yX1_pairsMade cX1_pairsMade 8 (some .int), Cond.fieldLink RX1 36 "SentenceGym$Grammar" "pairMade" "[[I", Cond.static yX4_hasPair, Cond.code yX4_hasPair cX4_hasPair 2 (some .boolean), Cond.instanceMethod yX2_holdsSentence, Cond.selects RX2 yX2_holdsSentence yX2_holdsSentence, Cond.code yX2_holdsSentence cX2_holdsSentence 2 (some .boolean), Cond.methodLink RX2 19 yX2_pairsOf, Cond.instanceMethod yX2_pairsOf, Cond.selects RX2 yX2_pairsOf yX2_pairsOf, Cond.code yX2_pairsOf cX2_pairsOf 4 (some .int)]
def wsX4_level : List Cond := .code yX4_level cX4_level 2 (some .int) :: ((wsX4_level_r1 ++ wsX4_level_r2) ++ wsX40 ++ wsX10 ++ wsX20)
def wsX4_isNoLength : List Cond := .code yX4_isNoLength cX4_isNoLength 1 (some .boolean) :: ([])
def wsX4_rowsOfLength : List Cond := .code yX4_rowsOfLength cX4_rowsOfLength 4 (some .int) :: ([.fieldLink RX4 12 "SentenceGym" "grammar" "LSentenceGym$Grammar;"] ++ wsX40 ++ wsX10)
def wsX4_clearTrial : List Cond := .code yX4_clearTrial cX4_clearTrial 2 none :: ([.fieldLink RX4 24 "SentenceGym" "trial" "[I"] ++ wsX40)
def wsX4_nextTrial : List Cond := .code yX4_nextTrial cX4_nextTrial 3 (some .int) :: ([.fieldLink RX4 24 "SentenceGym" "trial" "[I", .fieldLink RX4 12 "SentenceGym" "grammar" "LSentenceGym$Grammar;"] ++ wsX40 ++ wsX10)
def wsX4_makeSentences_r1 : List Cond := [Cond.fieldLink RX4 30 "SentenceGym" "partSets" "LSentenceGym$PartSets;", Cond.fieldLink RX4 12 "SentenceGym" "grammar" "LSentenceGym$Grammar;", Cond.fieldLink RX4 24 "SentenceGym" "trial" "[I", Cond.methodLink RX4 147 yX4_rowsOfLength, Cond.instanceMethod yX4_rowsOfLength, Cond.selects RX4 yX4_rowsOfLength yX4_rowsOfLength, Cond.initialized RX4, Cond.code yX4_rowsOfLength cX4_rowsOfLength 4 (some .int), Cond.methodLink RX4 191 yX4_clearTrial, Cond.instanceMethod yX4_clearTrial, Cond.selects RX4 yX4_clearTrial yX4_clearTrial, Cond.code yX4_clearTrial cX4_clearTrial 2 none, Cond.instanceMethod yX2_putWord, Cond.initialized RX2, Cond.selects RX2 yX2_putWord yX2_putWord, Cond.code yX2_putWord cX2_putWord 4 none, Cond.methodLink RX2 30 yX2_clearSpan, Cond.instanceMethod yX2_clearSpan, Cond.selects RX2 yX2_clearSpan yX2_clearSpan, Cond.code yX2_clearSpan cX2_clearSpan 5 none, Cond.fieldLink RX2 9 "SentenceGym$PartSets" "pairs" "[I", Cond.static yX4_spanOf, Cond.code yX4_spanOf cX4_spanOf 2 (some .int), Cond.methodLink RX2 34 yX2_allowWord]
def wsX4_makeSentences_r2 : List Cond := [Cond.instanceMethod yX2_allowWord, Cond.selects RX2 yX2_allowWord yX2_allowWord, Cond.code yX2_allowWord cX2_allowWord 5 none, Cond.instanceMethod yX2_joinUpTo, Cond.selects RX2 yX2_joinUpTo yX2_joinUpTo, Cond.code yX2_joinUpTo cX2_joinUpTo 9 none, Cond.methodLink RX2 49 yX2_join, Cond.instanceMethod yX2_join, Cond.selects RX2 yX2_join yX2_join, Cond.code yX2_join cX2_join 10 none, Cond.instanceMethod yX1_pairsMade, Cond.initialized RX1, Cond.selects RX1 yX1_pairsMade yX1_pairsMade, Cond.code yX1_pairsMade cX1_pairsMade 8 (some .int), Cond.fieldLink RX1 36 "SentenceGym$Grammar" "pairMade" "[[I", Cond.static yX4_hasPair, Cond.code yX4_hasPair cX4_hasPair 2 (some .boolean), Cond.instanceMethod yX2_holdsSentence, Cond.selects RX2 yX2_holdsSentence yX2_holdsSentence, Cond.code yX2_holdsSentence cX2_holdsSentence 2 (some .boolean), Cond.methodLink RX2 19 yX2_pairsOf, Cond.instanceMethod yX2_pairsOf, Cond.selects RX2 yX2_pairsOf yX2_pairsOf, Cond.code yX2_pairsOf cX2_pairsOf 4 (some .int)]
def wsX4_makeSentences_r3 : List Cond := [Cond.methodLink RX4 194 yX4_nextTrial, Cond.instanceMethod yX4_nextTrial, Cond.selects RX4 yX4_nextTrial yX4_nextTrial, Cond.code yX4_nextTrial cX4_nextTrial 3 (some .int)]
def wsX4_makeSentences : List Cond := .code yX4_makeSentences cX4_makeSentences 8 (some .int) :: ((wsX4_makeSentences_r1 ++ (wsX4_makeSentences_r2 ++ wsX4_makeSentences_r3)) ++ wsX40 ++ wsX10 ++ wsX20)
def wsX4_sentences_r1 : List Cond := [Cond.classLink RX4 52 "java/lang/IllegalArgumentException", Cond.initialized "java/lang/IllegalArgumentException", Cond.methodLink RX4 142 yX4_isNoLength, Cond.static yX4_isNoLength, Cond.initialized RX4, Cond.code yX4_isNoLength cX4_isNoLength 1 (some .boolean), Cond.methodLink RX4 147 yX4_rowsOfLength, Cond.instanceMethod yX4_rowsOfLength, Cond.selects RX4 yX4_rowsOfLength yX4_rowsOfLength, Cond.code yX4_rowsOfLength cX4_rowsOfLength 4 (some .int), Cond.fieldLink RX4 12 "SentenceGym" "grammar" "LSentenceGym$Grammar;", Cond.methodLink RX4 150 yX4_makeSentences, Cond.instanceMethod yX4_makeSentences, Cond.selects RX4 yX4_makeSentences yX4_makeSentences, Cond.code yX4_makeSentences cX4_makeSentences 8 (some .int), Cond.fieldLink RX4 30 "SentenceGym" "partSets" "LSentenceGym$PartSets;", Cond.fieldLink RX4 24 "SentenceGym" "trial" "[I", Cond.methodLink RX4 191 yX4_clearTrial, Cond.instanceMethod yX4_clearTrial, Cond.selects RX4 yX4_clearTrial yX4_clearTrial, Cond.code yX4_clearTrial cX4_clearTrial 2 none, Cond.instanceMethod yX2_putWord, Cond.initialized RX2, Cond.selects RX2 yX2_putWord yX2_putWord]
def wsX4_sentences_r2 : List Cond := [Cond.code yX2_putWord cX2_putWord 4 none, Cond.methodLink RX2 30 yX2_clearSpan, Cond.instanceMethod yX2_clearSpan, Cond.selects RX2 yX2_clearSpan yX2_clearSpan, Cond.code yX2_clearSpan cX2_clearSpan 5 none, Cond.fieldLink RX2 9 "SentenceGym$PartSets" "pairs" "[I", Cond.static yX4_spanOf, Cond.code yX4_spanOf cX4_spanOf 2 (some .int), Cond.methodLink RX2 34 yX2_allowWord, Cond.instanceMethod yX2_allowWord, Cond.selects RX2 yX2_allowWord yX2_allowWord, Cond.code yX2_allowWord cX2_allowWord 5 none, Cond.instanceMethod yX2_joinUpTo, Cond.selects RX2 yX2_joinUpTo yX2_joinUpTo, Cond.code yX2_joinUpTo cX2_joinUpTo 9 none, Cond.methodLink RX2 49 yX2_join, Cond.instanceMethod yX2_join, Cond.selects RX2 yX2_join yX2_join, Cond.code yX2_join cX2_join 10 none, Cond.instanceMethod yX1_pairsMade, Cond.initialized RX1, Cond.selects RX1 yX1_pairsMade yX1_pairsMade, Cond.code yX1_pairsMade cX1_pairsMade 8 (some .int), Cond.fieldLink RX1 36 "SentenceGym$Grammar" "pairMade" "[[I"]
def wsX4_sentences_r3 : List Cond := [Cond.static yX4_hasPair, Cond.code yX4_hasPair cX4_hasPair 2 (some .boolean), Cond.instanceMethod yX2_holdsSentence, Cond.selects RX2 yX2_holdsSentence yX2_holdsSentence, Cond.code yX2_holdsSentence cX2_holdsSentence 2 (some .boolean), Cond.methodLink RX2 19 yX2_pairsOf, Cond.instanceMethod yX2_pairsOf, Cond.selects RX2 yX2_pairsOf yX2_pairsOf, Cond.code yX2_pairsOf cX2_pairsOf 4 (some .int), Cond.methodLink RX4 194 yX4_nextTrial, Cond.instanceMethod yX4_nextTrial, Cond.selects RX4 yX4_nextTrial yX4_nextTrial, Cond.code yX4_nextTrial cX4_nextTrial 3 (some .int)]
def wsX4_sentences : List Cond := .code yX4_sentences cX4_sentences 2 (some .int) :: ((wsX4_sentences_r1 ++ (wsX4_sentences_r2 ++ wsX4_sentences_r3)) ++ wsX40 ++ wsX10 ++ wsX20 ++ (vx_atS RX4 56 "java/lang/IllegalArgumentException" ["java/lang/RuntimeException", "java/lang/Exception"]).filter goodWord)
def wsX4_trialAsDigits : List Cond := .code yX4_trialAsDigits cX4_trialAsDigits 4 (some .int) :: ([.fieldLink RX4 24 "SentenceGym" "trial" "[I"] ++ wsX40)
def wsX4_sentence_r1 : List Cond := [Cond.classLink RX4 52 "java/lang/IllegalArgumentException", Cond.initialized "java/lang/IllegalArgumentException", Cond.methodLink RX4 142 yX4_isNoLength, Cond.static yX4_isNoLength, Cond.initialized RX4, Cond.code yX4_isNoLength cX4_isNoLength 1 (some .boolean), Cond.methodLink RX4 150 yX4_makeSentences, Cond.instanceMethod yX4_makeSentences, Cond.selects RX4 yX4_makeSentences yX4_makeSentences, Cond.code yX4_makeSentences cX4_makeSentences 8 (some .int), Cond.fieldLink RX4 30 "SentenceGym" "partSets" "LSentenceGym$PartSets;", Cond.fieldLink RX4 12 "SentenceGym" "grammar" "LSentenceGym$Grammar;", Cond.fieldLink RX4 24 "SentenceGym" "trial" "[I", Cond.methodLink RX4 147 yX4_rowsOfLength, Cond.instanceMethod yX4_rowsOfLength, Cond.selects RX4 yX4_rowsOfLength yX4_rowsOfLength, Cond.code yX4_rowsOfLength cX4_rowsOfLength 4 (some .int), Cond.methodLink RX4 191 yX4_clearTrial, Cond.instanceMethod yX4_clearTrial, Cond.selects RX4 yX4_clearTrial yX4_clearTrial, Cond.code yX4_clearTrial cX4_clearTrial 2 none, Cond.instanceMethod yX2_putWord, Cond.initialized RX2, Cond.selects RX2 yX2_putWord yX2_putWord]
def wsX4_sentence_r2 : List Cond := [Cond.code yX2_putWord cX2_putWord 4 none, Cond.methodLink RX2 30 yX2_clearSpan, Cond.instanceMethod yX2_clearSpan, Cond.selects RX2 yX2_clearSpan yX2_clearSpan, Cond.code yX2_clearSpan cX2_clearSpan 5 none, Cond.fieldLink RX2 9 "SentenceGym$PartSets" "pairs" "[I", Cond.static yX4_spanOf, Cond.code yX4_spanOf cX4_spanOf 2 (some .int), Cond.methodLink RX2 34 yX2_allowWord, Cond.instanceMethod yX2_allowWord, Cond.selects RX2 yX2_allowWord yX2_allowWord, Cond.code yX2_allowWord cX2_allowWord 5 none, Cond.instanceMethod yX2_joinUpTo, Cond.selects RX2 yX2_joinUpTo yX2_joinUpTo, Cond.code yX2_joinUpTo cX2_joinUpTo 9 none, Cond.methodLink RX2 49 yX2_join, Cond.instanceMethod yX2_join, Cond.selects RX2 yX2_join yX2_join, Cond.code yX2_join cX2_join 10 none, Cond.instanceMethod yX1_pairsMade, Cond.initialized RX1, Cond.selects RX1 yX1_pairsMade yX1_pairsMade, Cond.code yX1_pairsMade cX1_pairsMade 8 (some .int), Cond.fieldLink RX1 36 "SentenceGym$Grammar" "pairMade" "[[I"]
def wsX4_sentence_r3 : List Cond := [Cond.static yX4_hasPair, Cond.code yX4_hasPair cX4_hasPair 2 (some .boolean), Cond.instanceMethod yX2_holdsSentence, Cond.selects RX2 yX2_holdsSentence yX2_holdsSentence, Cond.code yX2_holdsSentence cX2_holdsSentence 2 (some .boolean), Cond.methodLink RX2 19 yX2_pairsOf, Cond.instanceMethod yX2_pairsOf, Cond.selects RX2 yX2_pairsOf yX2_pairsOf, Cond.code yX2_pairsOf cX2_pairsOf 4 (some .int), Cond.methodLink RX4 194 yX4_nextTrial, Cond.instanceMethod yX4_nextTrial, Cond.selects RX4 yX4_nextTrial yX4_nextTrial, Cond.code yX4_nextTrial cX4_nextTrial 3 (some .int), Cond.methodLink RX4 155 yX4_trialAsDigits, Cond.instanceMethod yX4_trialAsDigits, Cond.selects RX4 yX4_trialAsDigits yX4_trialAsDigits, Cond.code yX4_trialAsDigits cX4_trialAsDigits 4 (some .int)]
def wsX4_sentence : List Cond := .code yX4_sentence cX4_sentence 3 (some .int) :: ((wsX4_sentence_r1 ++ (wsX4_sentence_r2 ++ wsX4_sentence_r3)) ++ wsX40 ++ wsX10 ++ wsX20 ++ (vx_atS RX4 56 "java/lang/IllegalArgumentException" ["java/lang/RuntimeException", "java/lang/Exception"]).filter goodWord)
def wsX4_share_r1 : List Cond := [Cond.classLink RX4 52 "java/lang/IllegalArgumentException", Cond.initialized "java/lang/IllegalArgumentException", Cond.methodLink RX4 142 yX4_isNoLength, Cond.static yX4_isNoLength, Cond.initialized RX4, Cond.code yX4_isNoLength cX4_isNoLength 1 (some .boolean), Cond.methodLink RX4 147 yX4_rowsOfLength, Cond.instanceMethod yX4_rowsOfLength, Cond.selects RX4 yX4_rowsOfLength yX4_rowsOfLength, Cond.code yX4_rowsOfLength cX4_rowsOfLength 4 (some .int), Cond.fieldLink RX4 12 "SentenceGym" "grammar" "LSentenceGym$Grammar;", Cond.methodLink RX4 150 yX4_makeSentences, Cond.instanceMethod yX4_makeSentences, Cond.selects RX4 yX4_makeSentences yX4_makeSentences, Cond.code yX4_makeSentences cX4_makeSentences 8 (some .int), Cond.fieldLink RX4 30 "SentenceGym" "partSets" "LSentenceGym$PartSets;", Cond.fieldLink RX4 24 "SentenceGym" "trial" "[I", Cond.methodLink RX4 191 yX4_clearTrial, Cond.instanceMethod yX4_clearTrial, Cond.selects RX4 yX4_clearTrial yX4_clearTrial, Cond.code yX4_clearTrial cX4_clearTrial 2 none, Cond.instanceMethod yX2_putWord, Cond.initialized RX2, Cond.selects RX2 yX2_putWord yX2_putWord]
def wsX4_share_r2 : List Cond := [Cond.code yX2_putWord cX2_putWord 4 none, Cond.methodLink RX2 30 yX2_clearSpan, Cond.instanceMethod yX2_clearSpan, Cond.selects RX2 yX2_clearSpan yX2_clearSpan, Cond.code yX2_clearSpan cX2_clearSpan 5 none, Cond.fieldLink RX2 9 "SentenceGym$PartSets" "pairs" "[I", Cond.static yX4_spanOf, Cond.code yX4_spanOf cX4_spanOf 2 (some .int), Cond.methodLink RX2 34 yX2_allowWord, Cond.instanceMethod yX2_allowWord, Cond.selects RX2 yX2_allowWord yX2_allowWord, Cond.code yX2_allowWord cX2_allowWord 5 none, Cond.instanceMethod yX2_joinUpTo, Cond.selects RX2 yX2_joinUpTo yX2_joinUpTo, Cond.code yX2_joinUpTo cX2_joinUpTo 9 none, Cond.methodLink RX2 49 yX2_join, Cond.instanceMethod yX2_join, Cond.selects RX2 yX2_join yX2_join, Cond.code yX2_join cX2_join 10 none, Cond.instanceMethod yX1_pairsMade, Cond.initialized RX1, Cond.selects RX1 yX1_pairsMade yX1_pairsMade, Cond.code yX1_pairsMade cX1_pairsMade 8 (some .int), Cond.fieldLink RX1 36 "SentenceGym$Grammar" "pairMade" "[[I"]
def wsX4_share_r3 : List Cond := [Cond.static yX4_hasPair, Cond.code yX4_hasPair cX4_hasPair 2 (some .boolean), Cond.instanceMethod yX2_holdsSentence, Cond.selects RX2 yX2_holdsSentence yX2_holdsSentence, Cond.code yX2_holdsSentence cX2_holdsSentence 2 (some .boolean), Cond.methodLink RX2 19 yX2_pairsOf, Cond.instanceMethod yX2_pairsOf, Cond.selects RX2 yX2_pairsOf yX2_pairsOf, Cond.code yX2_pairsOf cX2_pairsOf 4 (some .int), Cond.methodLink RX4 194 yX4_nextTrial, Cond.instanceMethod yX4_nextTrial, Cond.selects RX4 yX4_nextTrial yX4_nextTrial, Cond.code yX4_nextTrial cX4_nextTrial 3 (some .int)]
def wsX4_share : List Cond := .code yX4_share cX4_share 3 (some .float) :: ((wsX4_share_r1 ++ (wsX4_share_r2 ++ wsX4_share_r3)) ++ wsX40 ++ wsX10 ++ wsX20 ++ (vx_atS RX4 56 "java/lang/IllegalArgumentException" ["java/lang/RuntimeException", "java/lang/Exception"]).filter goodWord)
def wsX4_isSentenceFreeAt_r1 : List Cond := [Cond.fieldLink RX4 20 "SentenceGym" "rowLength" "I", Cond.fieldLink RX4 30 "SentenceGym" "partSets" "LSentenceGym$PartSets;", Cond.fieldLink RX4 12 "SentenceGym" "grammar" "LSentenceGym$Grammar;", Cond.fieldLink RX4 16 "SentenceGym" "row" "[I", Cond.instanceMethod yX2_putAnyWord, Cond.initialized RX2, Cond.selects RX2 yX2_putAnyWord yX2_putAnyWord, Cond.code yX2_putAnyWord cX2_putAnyWord 4 none, Cond.methodLink RX2 30 yX2_clearSpan, Cond.instanceMethod yX2_clearSpan, Cond.selects RX2 yX2_clearSpan yX2_clearSpan, Cond.code yX2_clearSpan cX2_clearSpan 5 none, Cond.fieldLink RX2 9 "SentenceGym$PartSets" "pairs" "[I", Cond.static yX4_spanOf, Cond.initialized RX4, Cond.code yX4_spanOf cX4_spanOf 2 (some .int), Cond.methodLink RX2 34 yX2_allowWord, Cond.instanceMethod yX2_allowWord, Cond.selects RX2 yX2_allowWord yX2_allowWord, Cond.code yX2_allowWord cX2_allowWord 5 none, Cond.instanceMethod yX2_putWord, Cond.selects RX2 yX2_putWord yX2_putWord, Cond.code yX2_putWord cX2_putWord 4 none, Cond.instanceMethod yX2_joinUpTo]
def wsX4_isSentenceFreeAt_r2 : List Cond := [Cond.selects RX2 yX2_joinUpTo yX2_joinUpTo, Cond.code yX2_joinUpTo cX2_joinUpTo 9 none, Cond.methodLink RX2 49 yX2_join, Cond.instanceMethod yX2_join, Cond.selects RX2 yX2_join yX2_join, Cond.code yX2_join cX2_join 10 none, Cond.instanceMethod yX1_pairsMade, Cond.initialized RX1, Cond.selects RX1 yX1_pairsMade yX1_pairsMade, Cond.code yX1_pairsMade cX1_pairsMade 8 (some .int), Cond.fieldLink RX1 36 "SentenceGym$Grammar" "pairMade" "[[I", Cond.static yX4_hasPair, Cond.code yX4_hasPair cX4_hasPair 2 (some .boolean), Cond.instanceMethod yX2_holdsSentence, Cond.selects RX2 yX2_holdsSentence yX2_holdsSentence, Cond.code yX2_holdsSentence cX2_holdsSentence 2 (some .boolean), Cond.methodLink RX2 19 yX2_pairsOf, Cond.instanceMethod yX2_pairsOf, Cond.selects RX2 yX2_pairsOf yX2_pairsOf, Cond.code yX2_pairsOf cX2_pairsOf 4 (some .int)]
def wsX4_isSentenceFreeAt : List Cond := .code yX4_isSentenceFreeAt cX4_isSentenceFreeAt 4 (some .boolean) :: ((wsX4_isSentenceFreeAt_r1 ++ wsX4_isSentenceFreeAt_r2) ++ wsX40 ++ wsX10 ++ wsX20)
def wsX4_isSentenceWith_r1 : List Cond := [Cond.fieldLink RX4 16 "SentenceGym" "row" "[I", Cond.fieldLink RX4 24 "SentenceGym" "trial" "[I", Cond.fieldLink RX4 20 "SentenceGym" "rowLength" "I", Cond.methodLink RX4 174 arraycopyName, Cond.native arraycopyName, Cond.static arraycopyName, Cond.initialized "java/lang/System", Cond.fieldLink RX4 30 "SentenceGym" "partSets" "LSentenceGym$PartSets;", Cond.fieldLink RX4 12 "SentenceGym" "grammar" "LSentenceGym$Grammar;", Cond.instanceMethod yX2_parse, Cond.initialized RX2, Cond.selects RX2 yX2_parse yX2_parse, Cond.code yX2_parse cX2_parse 6 none, Cond.methodLink RX2 23 yX2_putWord, Cond.instanceMethod yX2_putWord, Cond.selects RX2 yX2_putWord yX2_putWord, Cond.code yX2_putWord cX2_putWord 4 none, Cond.methodLink RX2 30 yX2_clearSpan, Cond.instanceMethod yX2_clearSpan, Cond.selects RX2 yX2_clearSpan yX2_clearSpan, Cond.code yX2_clearSpan cX2_clearSpan 5 none, Cond.fieldLink RX2 9 "SentenceGym$PartSets" "pairs" "[I", Cond.static yX4_spanOf, Cond.initialized RX4]
def wsX4_isSentenceWith_r2 : List Cond := [Cond.code yX4_spanOf cX4_spanOf 2 (some .int), Cond.methodLink RX2 34 yX2_allowWord, Cond.instanceMethod yX2_allowWord, Cond.selects RX2 yX2_allowWord yX2_allowWord, Cond.code yX2_allowWord cX2_allowWord 5 none, Cond.methodLink RX2 27 yX2_joinUpTo, Cond.instanceMethod yX2_joinUpTo, Cond.selects RX2 yX2_joinUpTo yX2_joinUpTo, Cond.code yX2_joinUpTo cX2_joinUpTo 9 none, Cond.methodLink RX2 49 yX2_join, Cond.instanceMethod yX2_join, Cond.selects RX2 yX2_join yX2_join, Cond.code yX2_join cX2_join 10 none, Cond.instanceMethod yX1_pairsMade, Cond.initialized RX1, Cond.selects RX1 yX1_pairsMade yX1_pairsMade, Cond.code yX1_pairsMade cX1_pairsMade 8 (some .int), Cond.fieldLink RX1 36 "SentenceGym$Grammar" "pairMade" "[[I", Cond.static yX4_hasPair, Cond.code yX4_hasPair cX4_hasPair 2 (some .boolean), Cond.instanceMethod yX2_holdsSentence, Cond.selects RX2 yX2_holdsSentence yX2_holdsSentence, Cond.code yX2_holdsSentence cX2_holdsSentence 2 (some .boolean), Cond.methodLink RX2 19 yX2_pairsOf]
def wsX4_isSentenceWith_r3 : List Cond := [Cond.instanceMethod yX2_pairsOf, Cond.selects RX2 yX2_pairsOf yX2_pairsOf, Cond.code yX2_pairsOf cX2_pairsOf 4 (some .int)]
def wsX4_isSentenceWith : List Cond := .code yX4_isSentenceWith cX4_isSentenceWith 3 (some .boolean) :: ((wsX4_isSentenceWith_r1 ++ (wsX4_isSentenceWith_r2 ++ wsX4_isSentenceWith_r3)) ++ wsX40 ++ wsX10 ++ wsX20)
def wsX4_spoil_r1 : List Cond := [Cond.classLink RX4 79 "java/lang/IndexOutOfBoundsException", Cond.initialized "java/lang/IndexOutOfBoundsException", Cond.fieldLink RX4 20 "SentenceGym" "rowLength" "I", Cond.fieldLink RX4 12 "SentenceGym" "grammar" "LSentenceGym$Grammar;", Cond.fieldLink RX4 16 "SentenceGym" "row" "[I", Cond.methodLink RX4 75 yX4_isOutside, Cond.static yX4_isOutside, Cond.initialized RX4, Cond.code yX4_isOutside cX4_isOutside 2 (some .boolean), Cond.methodLink RX4 158 yX4_isSentenceFreeAt, Cond.instanceMethod yX4_isSentenceFreeAt, Cond.selects RX4 yX4_isSentenceFreeAt yX4_isSentenceFreeAt, Cond.code yX4_isSentenceFreeAt cX4_isSentenceFreeAt 4 (some .boolean), Cond.fieldLink RX4 30 "SentenceGym" "partSets" "LSentenceGym$PartSets;", Cond.instanceMethod yX2_putAnyWord, Cond.initialized RX2, Cond.selects RX2 yX2_putAnyWord yX2_putAnyWord, Cond.code yX2_putAnyWord cX2_putAnyWord 4 none, Cond.methodLink RX2 30 yX2_clearSpan, Cond.instanceMethod yX2_clearSpan, Cond.selects RX2 yX2_clearSpan yX2_clearSpan, Cond.code yX2_clearSpan cX2_clearSpan 5 none, Cond.fieldLink RX2 9 "SentenceGym$PartSets" "pairs" "[I", Cond.static yX4_spanOf]
def wsX4_spoil_r2 : List Cond := [Cond.code yX4_spanOf cX4_spanOf 2 (some .int), Cond.methodLink RX2 34 yX2_allowWord, Cond.instanceMethod yX2_allowWord, Cond.selects RX2 yX2_allowWord yX2_allowWord, Cond.code yX2_allowWord cX2_allowWord 5 none, Cond.instanceMethod yX2_putWord, Cond.selects RX2 yX2_putWord yX2_putWord, Cond.code yX2_putWord cX2_putWord 4 none, Cond.instanceMethod yX2_joinUpTo, Cond.selects RX2 yX2_joinUpTo yX2_joinUpTo, Cond.code yX2_joinUpTo cX2_joinUpTo 9 none, Cond.methodLink RX2 49 yX2_join, Cond.instanceMethod yX2_join, Cond.selects RX2 yX2_join yX2_join, Cond.code yX2_join cX2_join 10 none, Cond.instanceMethod yX1_pairsMade, Cond.initialized RX1, Cond.selects RX1 yX1_pairsMade yX1_pairsMade, Cond.code yX1_pairsMade cX1_pairsMade 8 (some .int), Cond.fieldLink RX1 36 "SentenceGym$Grammar" "pairMade" "[[I", Cond.static yX4_hasPair, Cond.code yX4_hasPair cX4_hasPair 2 (some .boolean), Cond.instanceMethod yX2_holdsSentence, Cond.selects RX2 yX2_holdsSentence yX2_holdsSentence]
def wsX4_spoil_r3 : List Cond := [Cond.code yX2_holdsSentence cX2_holdsSentence 2 (some .boolean), Cond.methodLink RX2 19 yX2_pairsOf, Cond.instanceMethod yX2_pairsOf, Cond.selects RX2 yX2_pairsOf yX2_pairsOf, Cond.code yX2_pairsOf cX2_pairsOf 4 (some .int), Cond.methodLink RX4 161 yX4_isSentenceWith, Cond.instanceMethod yX4_isSentenceWith, Cond.selects RX4 yX4_isSentenceWith yX4_isSentenceWith, Cond.code yX4_isSentenceWith cX4_isSentenceWith 3 (some .boolean), Cond.fieldLink RX4 24 "SentenceGym" "trial" "[I", Cond.methodLink RX4 174 arraycopyName, Cond.native arraycopyName, Cond.static arraycopyName, Cond.initialized "java/lang/System", Cond.instanceMethod yX2_parse, Cond.selects RX2 yX2_parse yX2_parse, Cond.code yX2_parse cX2_parse 6 none, Cond.methodLink RX2 23 yX2_putWord, Cond.methodLink RX2 27 yX2_joinUpTo]
def wsX4_spoil : List Cond := .code yX4_spoil cX4_spoil 4 (some .int) :: ((wsX4_spoil_r1 ++ (wsX4_spoil_r2 ++ wsX4_spoil_r3)) ++ wsX40 ++ wsX10 ++ wsX20 ++ (vx_atS RX4 83 "java/lang/IndexOutOfBoundsException" ["java/lang/RuntimeException", "java/lang/Exception"]).filter goodWord)
def wsX4_changes_r1 : List Cond := [Cond.fieldLink RX4 20 "SentenceGym" "rowLength" "I", Cond.methodLink RX4 158 yX4_isSentenceFreeAt, Cond.instanceMethod yX4_isSentenceFreeAt, Cond.selects RX4 yX4_isSentenceFreeAt yX4_isSentenceFreeAt, Cond.initialized RX4, Cond.code yX4_isSentenceFreeAt cX4_isSentenceFreeAt 4 (some .boolean), Cond.fieldLink RX4 30 "SentenceGym" "partSets" "LSentenceGym$PartSets;", Cond.fieldLink RX4 12 "SentenceGym" "grammar" "LSentenceGym$Grammar;", Cond.fieldLink RX4 16 "SentenceGym" "row" "[I", Cond.instanceMethod yX2_putAnyWord, Cond.initialized RX2, Cond.selects RX2 yX2_putAnyWord yX2_putAnyWord, Cond.code yX2_putAnyWord cX2_putAnyWord 4 none, Cond.methodLink RX2 30 yX2_clearSpan, Cond.instanceMethod yX2_clearSpan, Cond.selects RX2 yX2_clearSpan yX2_clearSpan, Cond.code yX2_clearSpan cX2_clearSpan 5 none, Cond.fieldLink RX2 9 "SentenceGym$PartSets" "pairs" "[I", Cond.static yX4_spanOf, Cond.code yX4_spanOf cX4_spanOf 2 (some .int), Cond.methodLink RX2 34 yX2_allowWord, Cond.instanceMethod yX2_allowWord, Cond.selects RX2 yX2_allowWord yX2_allowWord, Cond.code yX2_allowWord cX2_allowWord 5 none]
def wsX4_changes_r2 : List Cond := [Cond.instanceMethod yX2_putWord, Cond.selects RX2 yX2_putWord yX2_putWord, Cond.code yX2_putWord cX2_putWord 4 none, Cond.instanceMethod yX2_joinUpTo, Cond.selects RX2 yX2_joinUpTo yX2_joinUpTo, Cond.code yX2_joinUpTo cX2_joinUpTo 9 none, Cond.methodLink RX2 49 yX2_join, Cond.instanceMethod yX2_join, Cond.selects RX2 yX2_join yX2_join, Cond.code yX2_join cX2_join 10 none, Cond.instanceMethod yX1_pairsMade, Cond.initialized RX1, Cond.selects RX1 yX1_pairsMade yX1_pairsMade, Cond.code yX1_pairsMade cX1_pairsMade 8 (some .int), Cond.fieldLink RX1 36 "SentenceGym$Grammar" "pairMade" "[[I", Cond.static yX4_hasPair, Cond.code yX4_hasPair cX4_hasPair 2 (some .boolean), Cond.instanceMethod yX2_holdsSentence, Cond.selects RX2 yX2_holdsSentence yX2_holdsSentence, Cond.code yX2_holdsSentence cX2_holdsSentence 2 (some .boolean), Cond.methodLink RX2 19 yX2_pairsOf, Cond.instanceMethod yX2_pairsOf, Cond.selects RX2 yX2_pairsOf yX2_pairsOf, Cond.code yX2_pairsOf cX2_pairsOf 4 (some .int)]
def wsX4_changes : List Cond := .code yX4_changes cX4_changes 3 (some .int) :: ((wsX4_changes_r1 ++ wsX4_changes_r2) ++ wsX40 ++ wsX10 ++ wsX20)
def wsX4_correction_r1 : List Cond := [Cond.classLink RX4 79 "java/lang/IndexOutOfBoundsException", Cond.initialized "java/lang/IndexOutOfBoundsException", Cond.fieldLink RX4 20 "SentenceGym" "rowLength" "I", Cond.fieldLink RX4 12 "SentenceGym" "grammar" "LSentenceGym$Grammar;", Cond.fieldLink RX4 16 "SentenceGym" "row" "[I", Cond.methodLink RX4 161 yX4_isSentenceWith, Cond.instanceMethod yX4_isSentenceWith, Cond.selects RX4 yX4_isSentenceWith yX4_isSentenceWith, Cond.initialized RX4, Cond.code yX4_isSentenceWith cX4_isSentenceWith 3 (some .boolean), Cond.fieldLink RX4 24 "SentenceGym" "trial" "[I", Cond.methodLink RX4 174 arraycopyName, Cond.native arraycopyName, Cond.static arraycopyName, Cond.initialized "java/lang/System", Cond.fieldLink RX4 30 "SentenceGym" "partSets" "LSentenceGym$PartSets;", Cond.instanceMethod yX2_parse, Cond.initialized RX2, Cond.selects RX2 yX2_parse yX2_parse, Cond.code yX2_parse cX2_parse 6 none, Cond.methodLink RX2 23 yX2_putWord, Cond.instanceMethod yX2_putWord, Cond.selects RX2 yX2_putWord yX2_putWord, Cond.code yX2_putWord cX2_putWord 4 none]
def wsX4_correction_r2 : List Cond := [Cond.methodLink RX2 30 yX2_clearSpan, Cond.instanceMethod yX2_clearSpan, Cond.selects RX2 yX2_clearSpan yX2_clearSpan, Cond.code yX2_clearSpan cX2_clearSpan 5 none, Cond.fieldLink RX2 9 "SentenceGym$PartSets" "pairs" "[I", Cond.static yX4_spanOf, Cond.code yX4_spanOf cX4_spanOf 2 (some .int), Cond.methodLink RX2 34 yX2_allowWord, Cond.instanceMethod yX2_allowWord, Cond.selects RX2 yX2_allowWord yX2_allowWord, Cond.code yX2_allowWord cX2_allowWord 5 none, Cond.methodLink RX2 27 yX2_joinUpTo, Cond.instanceMethod yX2_joinUpTo, Cond.selects RX2 yX2_joinUpTo yX2_joinUpTo, Cond.code yX2_joinUpTo cX2_joinUpTo 9 none, Cond.methodLink RX2 49 yX2_join, Cond.instanceMethod yX2_join, Cond.selects RX2 yX2_join yX2_join, Cond.code yX2_join cX2_join 10 none, Cond.instanceMethod yX1_pairsMade, Cond.initialized RX1, Cond.selects RX1 yX1_pairsMade yX1_pairsMade, Cond.code yX1_pairsMade cX1_pairsMade 8 (some .int), Cond.fieldLink RX1 36 "SentenceGym$Grammar" "pairMade" "[[I"]
def wsX4_correction_r3 : List Cond := [Cond.static yX4_hasPair, Cond.code yX4_hasPair cX4_hasPair 2 (some .boolean), Cond.instanceMethod yX2_holdsSentence, Cond.selects RX2 yX2_holdsSentence yX2_holdsSentence, Cond.code yX2_holdsSentence cX2_holdsSentence 2 (some .boolean), Cond.methodLink RX2 19 yX2_pairsOf, Cond.instanceMethod yX2_pairsOf, Cond.selects RX2 yX2_pairsOf yX2_pairsOf, Cond.code yX2_pairsOf cX2_pairsOf 4 (some .int)]
def wsX4_correction : List Cond := .code yX4_correction cX4_correction 5 (some .int) :: ((wsX4_correction_r1 ++ (wsX4_correction_r2 ++ wsX4_correction_r3)) ++ wsX40 ++ wsX10 ++ wsX20 ++ (vx_atS RX4 83 "java/lang/IndexOutOfBoundsException" ["java/lang/RuntimeException", "java/lang/Exception"]).filter goodWord)
def wsX5_init : List Cond := .code yX5_init cX5_init 1 none :: ([.methodLink RX5 1 objectInit, .instanceMethod objectInit, .code objectInit ⟨#[0xb1]⟩ 1 none, .arrayClass .int, .fieldLink RX5 7 "SentenceGymModel" "category" "[I", .fieldLink RX5 13 "SentenceGymModel" "value" "[I", .fieldLink RX5 16 "SentenceGymModel" "made" "[I", .fieldLink RX5 19 "SentenceGymModel" "first" "[I", .fieldLink RX5 22 "SentenceGymModel" "second" "[I", .fieldLink RX5 25 "SentenceGymModel" "modes" "[I", .fieldLink RX5 28 "SentenceGymModel" "row" "[I", .fieldLink RX5 31 "SentenceGymModel" "line" "[I", .fieldLink RX5 34 "SentenceGymModel" "set" "[I", .arrayClass .long, .fieldLink RX5 37 "SentenceGymModel" "many" "[J"] ++ wsX50)
def wsX5_thrown : List Cond := .code yX5_thrown cX5_thrown 1 (some .int) :: ([.fieldLink RX5 41 "SentenceGymModel" "thrown" "I"] ++ wsX50)
def wsX5_goes : List Cond := .code yX5_goes cX5_goes 3 (some .boolean) :: ([.fieldLink RX5 41 "SentenceGymModel" "thrown" "I"] ++ wsX50)
def wsX5_isWithin : List Cond := .code yX5_isWithin cX5_isWithin 3 (some .boolean) :: ([])
def wsX5_isWord : List Cond := .code yX5_isWord cX5_isWord 2 (some .boolean) :: ([.fieldLink RX5 45 "SentenceGymModel" "words" "I"] ++ wsX50)
def wsX5_isPair : List Cond := .code yX5_isPair cX5_isPair 1 (some .boolean) :: ([])
def wsX5_areValues : List Cond := .code yX5_areValues cX5_areValues 3 (some .boolean) :: ([.methodLink RX5 48 yX5_isWithin, .static yX5_isWithin, .initialized RX5, .code yX5_isWithin cX5_isWithin 3 (some .boolean)])
def wsX5_addWord : List Cond := .code yX5_addWord cX5_addWord 4 (some .int) :: ([.fieldLink RX5 45 "SentenceGymModel" "words" "I", .fieldLink RX5 7 "SentenceGymModel" "category" "[I", .fieldLink RX5 13 "SentenceGymModel" "value" "[I", .methodLink RX5 52 yX5_areValues, .static yX5_areValues, .initialized RX5, .code yX5_areValues cX5_areValues 3 (some .boolean), .methodLink RX5 48 yX5_isWithin, .static yX5_isWithin, .code yX5_isWithin cX5_isWithin 3 (some .boolean), .methodLink RX5 55 yX5_goes, .instanceMethod yX5_goes, .selects RX5 yX5_goes yX5_goes, .code yX5_goes cX5_goes 3 (some .boolean), .fieldLink RX5 41 "SentenceGymModel" "thrown" "I"] ++ wsX50)
def wsX5_setWord : List Cond := .code yX5_setWord cX5_setWord 6 (some .int) :: ([.fieldLink RX5 7 "SentenceGymModel" "category" "[I", .fieldLink RX5 13 "SentenceGymModel" "value" "[I", .methodLink RX5 59 yX5_isWord, .instanceMethod yX5_isWord, .selects RX5 yX5_isWord yX5_isWord, .initialized RX5, .code yX5_isWord cX5_isWord 2 (some .boolean), .fieldLink RX5 45 "SentenceGymModel" "words" "I", .methodLink RX5 52 yX5_areValues, .static yX5_areValues, .code yX5_areValues cX5_areValues 3 (some .boolean), .methodLink RX5 48 yX5_isWithin, .static yX5_isWithin, .code yX5_isWithin cX5_isWithin 3 (some .boolean), .methodLink RX5 55 yX5_goes, .instanceMethod yX5_goes, .selects RX5 yX5_goes yX5_goes, .code yX5_goes cX5_goes 3 (some .boolean), .fieldLink RX5 41 "SentenceGymModel" "thrown" "I"] ++ wsX50)
def wsX5_addRule : List Cond := .code yX5_addRule cX5_addRule 6 (some .int) :: ([.fieldLink RX5 66 "SentenceGymModel" "rules" "I", .fieldLink RX5 16 "SentenceGymModel" "made" "[I", .fieldLink RX5 19 "SentenceGymModel" "first" "[I", .fieldLink RX5 22 "SentenceGymModel" "second" "[I", .fieldLink RX5 25 "SentenceGymModel" "modes" "[I", .methodLink RX5 48 yX5_isWithin, .static yX5_isWithin, .initialized RX5, .code yX5_isWithin cX5_isWithin 3 (some .boolean), .methodLink RX5 63 yX5_isPair, .static yX5_isPair, .code yX5_isPair cX5_isPair 1 (some .boolean), .methodLink RX5 55 yX5_goes, .instanceMethod yX5_goes, .selects RX5 yX5_goes yX5_goes, .code yX5_goes cX5_goes 3 (some .boolean), .fieldLink RX5 41 "SentenceGymModel" "thrown" "I"] ++ wsX50)
def wsX5_dropRule : List Cond := .code yX5_dropRule cX5_dropRule 1 (some .int) :: ([.fieldLink RX5 66 "SentenceGymModel" "rules" "I", .methodLink RX5 55 yX5_goes, .instanceMethod yX5_goes, .selects RX5 yX5_goes yX5_goes, .initialized RX5, .code yX5_goes cX5_goes 3 (some .boolean), .fieldLink RX5 41 "SentenceGymModel" "thrown" "I"] ++ wsX50)
def wsX5_say : List Cond := .code yX5_say cX5_say 2 (some .int) :: ([.fieldLink RX5 69 "SentenceGymModel" "said" "I", .fieldLink RX5 28 "SentenceGymModel" "row" "[I", .methodLink RX5 59 yX5_isWord, .instanceMethod yX5_isWord, .selects RX5 yX5_isWord yX5_isWord, .initialized RX5, .code yX5_isWord cX5_isWord 2 (some .boolean), .fieldLink RX5 45 "SentenceGymModel" "words" "I", .methodLink RX5 55 yX5_goes, .instanceMethod yX5_goes, .selects RX5 yX5_goes yX5_goes, .code yX5_goes cX5_goes 3 (some .boolean), .fieldLink RX5 41 "SentenceGymModel" "thrown" "I"] ++ wsX50)
def wsX5_isPlace : List Cond := .code yX5_isPlace cX5_isPlace 2 (some .boolean) :: ([.fieldLink RX5 69 "SentenceGymModel" "said" "I"] ++ wsX50)
def wsX5_change : List Cond := .code yX5_change cX5_change 4 (some .int) :: ([.fieldLink RX5 28 "SentenceGymModel" "row" "[I", .methodLink RX5 72 yX5_isPlace, .instanceMethod yX5_isPlace, .selects RX5 yX5_isPlace yX5_isPlace, .initialized RX5, .code yX5_isPlace cX5_isPlace 2 (some .boolean), .fieldLink RX5 69 "SentenceGymModel" "said" "I", .methodLink RX5 59 yX5_isWord, .instanceMethod yX5_isWord, .selects RX5 yX5_isWord yX5_isWord, .code yX5_isWord cX5_isWord 2 (some .boolean), .fieldLink RX5 45 "SentenceGymModel" "words" "I", .methodLink RX5 55 yX5_goes, .instanceMethod yX5_goes, .selects RX5 yX5_goes yX5_goes, .code yX5_goes cX5_goes 3 (some .boolean), .fieldLink RX5 41 "SentenceGymModel" "thrown" "I"] ++ wsX50)
def wsX5_hush : List Cond := .code yX5_hush cX5_hush 2 (some .int) :: ([.fieldLink RX5 41 "SentenceGymModel" "thrown" "I", .fieldLink RX5 69 "SentenceGymModel" "said" "I"] ++ wsX50)
def wsX5_said : List Cond := .code yX5_said cX5_said 1 (some .int) :: ([.fieldLink RX5 41 "SentenceGymModel" "thrown" "I", .fieldLink RX5 69 "SentenceGymModel" "said" "I"] ++ wsX50)
def wsX5_wordAt : List Cond := .code yX5_wordAt cX5_wordAt 2 (some .int) :: ([.fieldLink RX5 28 "SentenceGymModel" "row" "[I", .methodLink RX5 72 yX5_isPlace, .instanceMethod yX5_isPlace, .selects RX5 yX5_isPlace yX5_isPlace, .initialized RX5, .code yX5_isPlace cX5_isPlace 2 (some .boolean), .fieldLink RX5 69 "SentenceGymModel" "said" "I", .methodLink RX5 55 yX5_goes, .instanceMethod yX5_goes, .selects RX5 yX5_goes yX5_goes, .code yX5_goes cX5_goes 3 (some .boolean), .fieldLink RX5 41 "SentenceGymModel" "thrown" "I"] ++ wsX50)
def wsX5_takes : List Cond := .code yX5_takes cX5_takes 2 none :: ([.fieldLink RX5 69 "SentenceGymModel" "said" "I", .fieldLink RX5 75 "SentenceGymModel" "length" "I", .fieldLink RX5 31 "SentenceGymModel" "line" "[I", .fieldLink RX5 28 "SentenceGymModel" "row" "[I"] ++ wsX50)
def wsX5_makes : List Cond := .code yX5_makes cX5_makes 3 (some .int) :: ([])
def wsX5_makesBoth : List Cond := .code yX5_makesBoth cX5_makesBoth 6 (some .int) :: ([.fieldLink RX5 25 "SentenceGymModel" "modes" "[I", .methodLink RX5 78 yX5_makes, .static yX5_makes, .initialized RX5, .code yX5_makes cX5_makes 3 (some .int)] ++ wsX50)
def wsX5_span : List Cond := .code yX5_span cX5_span 2 (some .int) :: ([])
def wsX5_together : List Cond := .code yX5_together cX5_together 8 (some .int) :: ([.methodLink RX5 89 yX5_makesBoth, .instanceMethod yX5_makesBoth, .selects RX5 yX5_makesBoth yX5_makesBoth, .initialized RX5, .code yX5_makesBoth cX5_makesBoth 6 (some .int), .fieldLink RX5 25 "SentenceGymModel" "modes" "[I", .methodLink RX5 78 yX5_makes, .static yX5_makes, .code yX5_makes cX5_makes 3 (some .int)] ++ wsX50)
def wsX5_parses : List Cond := .code yX5_parses cX5_parses 9 none :: ([.fieldLink RX5 75 "SentenceGymModel" "length" "I", .fieldLink RX5 34 "SentenceGymModel" "set" "[I", .fieldLink RX5 7 "SentenceGymModel" "category" "[I", .fieldLink RX5 31 "SentenceGymModel" "line" "[I", .fieldLink RX5 13 "SentenceGymModel" "value" "[I", .fieldLink RX5 19 "SentenceGymModel" "first" "[I", .fieldLink RX5 22 "SentenceGymModel" "second" "[I", .fieldLink RX5 16 "SentenceGymModel" "made" "[I", .methodLink RX5 82 yX5_span, .static yX5_span, .initialized RX5, .code yX5_span cX5_span 2 (some .int), .methodLink RX5 86 yX5_together, .instanceMethod yX5_together, .selects RX5 yX5_together yX5_together, .code yX5_together cX5_together 8 (some .int), .methodLink RX5 89 yX5_makesBoth, .instanceMethod yX5_makesBoth, .selects RX5 yX5_makesBoth yX5_makesBoth, .code yX5_makesBoth cX5_makesBoth 6 (some .int), .fieldLink RX5 25 "SentenceGymModel" "modes" "[I", .methodLink RX5 78 yX5_makes, .static yX5_makes, .code yX5_makes cX5_makes 3 (some .int)] ++ wsX50)
def wsX5_isSentence_r1 : List Cond := [Cond.fieldLink RX5 66 "SentenceGymModel" "rules" "I", Cond.fieldLink RX5 75 "SentenceGymModel" "length" "I", Cond.fieldLink RX5 34 "SentenceGymModel" "set" "[I", Cond.methodLink RX5 92 yX5_parses, Cond.instanceMethod yX5_parses, Cond.selects RX5 yX5_parses yX5_parses, Cond.initialized RX5, Cond.code yX5_parses cX5_parses 9 none, Cond.fieldLink RX5 7 "SentenceGymModel" "category" "[I", Cond.fieldLink RX5 31 "SentenceGymModel" "line" "[I", Cond.fieldLink RX5 13 "SentenceGymModel" "value" "[I", Cond.fieldLink RX5 19 "SentenceGymModel" "first" "[I", Cond.fieldLink RX5 22 "SentenceGymModel" "second" "[I", Cond.fieldLink RX5 16 "SentenceGymModel" "made" "[I", Cond.methodLink RX5 82 yX5_span, Cond.static yX5_span, Cond.code yX5_span cX5_span 2 (some .int), Cond.methodLink RX5 86 yX5_together, Cond.instanceMethod yX5_together, Cond.selects RX5 yX5_together yX5_together, Cond.code yX5_together cX5_together 8 (some .int), Cond.methodLink RX5 89 yX5_makesBoth, Cond.instanceMethod yX5_makesBoth, Cond.selects RX5 yX5_makesBoth yX5_makesBoth]
def wsX5_isSentence_r2 : List Cond := [Cond.code yX5_makesBoth cX5_makesBoth 6 (some .int), Cond.fieldLink RX5 25 "SentenceGymModel" "modes" "[I", Cond.methodLink RX5 78 yX5_makes, Cond.static yX5_makes, Cond.code yX5_makes cX5_makes 3 (some .int)]
def wsX5_isSentence : List Cond := .code yX5_isSentence cX5_isSentence 1 (some .boolean) :: ((wsX5_isSentence_r1 ++ wsX5_isSentence_r2) ++ wsX50)
def wsX5_adds : List Cond := .code yX5_adds cX5_adds 8 none :: ([.fieldLink RX5 37 "SentenceGymModel" "many" "[J", .methodLink RX5 89 yX5_makesBoth, .instanceMethod yX5_makesBoth, .selects RX5 yX5_makesBoth yX5_makesBoth, .initialized RX5, .code yX5_makesBoth cX5_makesBoth 6 (some .int), .fieldLink RX5 25 "SentenceGymModel" "modes" "[I", .methodLink RX5 78 yX5_makes, .static yX5_makes, .code yX5_makes cX5_makes 3 (some .int)] ++ wsX50)
def wsX5_counts_r1 : List Cond := [Cond.fieldLink RX5 75 "SentenceGymModel" "length" "I", Cond.fieldLink RX5 37 "SentenceGymModel" "many" "[J", Cond.fieldLink RX5 7 "SentenceGymModel" "category" "[I", Cond.fieldLink RX5 31 "SentenceGymModel" "line" "[I", Cond.fieldLink RX5 13 "SentenceGymModel" "value" "[I", Cond.fieldLink RX5 66 "SentenceGymModel" "rules" "I", Cond.fieldLink RX5 16 "SentenceGymModel" "made" "[I", Cond.fieldLink RX5 19 "SentenceGymModel" "first" "[I", Cond.fieldLink RX5 22 "SentenceGymModel" "second" "[I", Cond.methodLink RX5 82 yX5_span, Cond.static yX5_span, Cond.initialized RX5, Cond.code yX5_span cX5_span 2 (some .int), Cond.methodLink RX5 96 yX5_adds, Cond.instanceMethod yX5_adds, Cond.selects RX5 yX5_adds yX5_adds, Cond.code yX5_adds cX5_adds 8 none, Cond.methodLink RX5 89 yX5_makesBoth, Cond.instanceMethod yX5_makesBoth, Cond.selects RX5 yX5_makesBoth yX5_makesBoth, Cond.code yX5_makesBoth cX5_makesBoth 6 (some .int), Cond.fieldLink RX5 25 "SentenceGymModel" "modes" "[I", Cond.methodLink RX5 78 yX5_makes, Cond.static yX5_makes]
def wsX5_counts_r2 : List Cond := [Cond.code yX5_makes cX5_makes 3 (some .int)]
def wsX5_counts : List Cond := .code yX5_counts cX5_counts 6 none :: ((wsX5_counts_r1 ++ wsX5_counts_r2) ++ wsX50)
def wsX5_countOf_r1 : List Cond := [Cond.fieldLink RX5 37 "SentenceGymModel" "many" "[J", Cond.constantLong RX5 106 (1000000), Cond.constant RX5 108 (1000000), Cond.methodLink RX5 100 yX5_takes, Cond.instanceMethod yX5_takes, Cond.selects RX5 yX5_takes yX5_takes, Cond.initialized RX5, Cond.code yX5_takes cX5_takes 2 none, Cond.fieldLink RX5 69 "SentenceGymModel" "said" "I", Cond.fieldLink RX5 75 "SentenceGymModel" "length" "I", Cond.fieldLink RX5 31 "SentenceGymModel" "line" "[I", Cond.fieldLink RX5 28 "SentenceGymModel" "row" "[I", Cond.methodLink RX5 103 yX5_counts, Cond.instanceMethod yX5_counts, Cond.selects RX5 yX5_counts yX5_counts, Cond.code yX5_counts cX5_counts 6 none, Cond.fieldLink RX5 7 "SentenceGymModel" "category" "[I", Cond.fieldLink RX5 13 "SentenceGymModel" "value" "[I", Cond.fieldLink RX5 66 "SentenceGymModel" "rules" "I", Cond.fieldLink RX5 16 "SentenceGymModel" "made" "[I", Cond.fieldLink RX5 19 "SentenceGymModel" "first" "[I", Cond.fieldLink RX5 22 "SentenceGymModel" "second" "[I", Cond.methodLink RX5 82 yX5_span, Cond.static yX5_span]
def wsX5_countOf_r2 : List Cond := [Cond.code yX5_span cX5_span 2 (some .int), Cond.methodLink RX5 96 yX5_adds, Cond.instanceMethod yX5_adds, Cond.selects RX5 yX5_adds yX5_adds, Cond.code yX5_adds cX5_adds 8 none, Cond.methodLink RX5 89 yX5_makesBoth, Cond.instanceMethod yX5_makesBoth, Cond.selects RX5 yX5_makesBoth yX5_makesBoth, Cond.code yX5_makesBoth cX5_makesBoth 6 (some .int), Cond.fieldLink RX5 25 "SentenceGymModel" "modes" "[I", Cond.methodLink RX5 78 yX5_makes, Cond.static yX5_makes, Cond.code yX5_makes cX5_makes 3 (some .int)]
def wsX5_countOf : List Cond := .code yX5_countOf cX5_countOf 7 (some .int) :: ((wsX5_countOf_r1 ++ wsX5_countOf_r2) ++ wsX50)
def wsX5_readings_r1 : List Cond := [Cond.fieldLink RX5 41 "SentenceGymModel" "thrown" "I", Cond.fieldLink RX5 69 "SentenceGymModel" "said" "I", Cond.methodLink RX5 109 yX5_countOf, Cond.instanceMethod yX5_countOf, Cond.selects RX5 yX5_countOf yX5_countOf, Cond.initialized RX5, Cond.code yX5_countOf cX5_countOf 7 (some .int), Cond.fieldLink RX5 37 "SentenceGymModel" "many" "[J", Cond.constantLong RX5 106 (1000000), Cond.constant RX5 108 (1000000), Cond.methodLink RX5 100 yX5_takes, Cond.instanceMethod yX5_takes, Cond.selects RX5 yX5_takes yX5_takes, Cond.code yX5_takes cX5_takes 2 none, Cond.fieldLink RX5 75 "SentenceGymModel" "length" "I", Cond.fieldLink RX5 31 "SentenceGymModel" "line" "[I", Cond.fieldLink RX5 28 "SentenceGymModel" "row" "[I", Cond.methodLink RX5 103 yX5_counts, Cond.instanceMethod yX5_counts, Cond.selects RX5 yX5_counts yX5_counts, Cond.code yX5_counts cX5_counts 6 none, Cond.fieldLink RX5 7 "SentenceGymModel" "category" "[I", Cond.fieldLink RX5 13 "SentenceGymModel" "value" "[I", Cond.fieldLink RX5 66 "SentenceGymModel" "rules" "I"]
def wsX5_readings_r2 : List Cond := [Cond.fieldLink RX5 16 "SentenceGymModel" "made" "[I", Cond.fieldLink RX5 19 "SentenceGymModel" "first" "[I", Cond.fieldLink RX5 22 "SentenceGymModel" "second" "[I", Cond.methodLink RX5 82 yX5_span, Cond.static yX5_span, Cond.code yX5_span cX5_span 2 (some .int), Cond.methodLink RX5 96 yX5_adds, Cond.instanceMethod yX5_adds, Cond.selects RX5 yX5_adds yX5_adds, Cond.code yX5_adds cX5_adds 8 none, Cond.methodLink RX5 89 yX5_makesBoth, Cond.instanceMethod yX5_makesBoth, Cond.selects RX5 yX5_makesBoth yX5_makesBoth, Cond.code yX5_makesBoth cX5_makesBoth 6 (some .int), Cond.fieldLink RX5 25 "SentenceGymModel" "modes" "[I", Cond.methodLink RX5 78 yX5_makes, Cond.static yX5_makes, Cond.code yX5_makes cX5_makes 3 (some .int)]
def wsX5_readings : List Cond := .code yX5_readings cX5_readings 1 (some .int) :: ((wsX5_readings_r1 ++ wsX5_readings_r2) ++ wsX50)
def wsX5_readingsPlainly_r1 : List Cond := [Cond.methodLink RX5 112 yX5_readings, Cond.instanceMethod yX5_readings, Cond.selects RX5 yX5_readings yX5_readings, Cond.initialized RX5, Cond.code yX5_readings cX5_readings 1 (some .int), Cond.fieldLink RX5 41 "SentenceGymModel" "thrown" "I", Cond.fieldLink RX5 69 "SentenceGymModel" "said" "I", Cond.methodLink RX5 109 yX5_countOf, Cond.instanceMethod yX5_countOf, Cond.selects RX5 yX5_countOf yX5_countOf, Cond.code yX5_countOf cX5_countOf 7 (some .int), Cond.fieldLink RX5 37 "SentenceGymModel" "many" "[J", Cond.constantLong RX5 106 (1000000), Cond.constant RX5 108 (1000000), Cond.methodLink RX5 100 yX5_takes, Cond.instanceMethod yX5_takes, Cond.selects RX5 yX5_takes yX5_takes, Cond.code yX5_takes cX5_takes 2 none, Cond.fieldLink RX5 75 "SentenceGymModel" "length" "I", Cond.fieldLink RX5 31 "SentenceGymModel" "line" "[I", Cond.fieldLink RX5 28 "SentenceGymModel" "row" "[I", Cond.methodLink RX5 103 yX5_counts, Cond.instanceMethod yX5_counts, Cond.selects RX5 yX5_counts yX5_counts]
def wsX5_readingsPlainly_r2 : List Cond := [Cond.code yX5_counts cX5_counts 6 none, Cond.fieldLink RX5 7 "SentenceGymModel" "category" "[I", Cond.fieldLink RX5 13 "SentenceGymModel" "value" "[I", Cond.fieldLink RX5 66 "SentenceGymModel" "rules" "I", Cond.fieldLink RX5 16 "SentenceGymModel" "made" "[I", Cond.fieldLink RX5 19 "SentenceGymModel" "first" "[I", Cond.fieldLink RX5 22 "SentenceGymModel" "second" "[I", Cond.methodLink RX5 82 yX5_span, Cond.static yX5_span, Cond.code yX5_span cX5_span 2 (some .int), Cond.methodLink RX5 96 yX5_adds, Cond.instanceMethod yX5_adds, Cond.selects RX5 yX5_adds yX5_adds, Cond.code yX5_adds cX5_adds 8 none, Cond.methodLink RX5 89 yX5_makesBoth, Cond.instanceMethod yX5_makesBoth, Cond.selects RX5 yX5_makesBoth yX5_makesBoth, Cond.code yX5_makesBoth cX5_makesBoth 6 (some .int), Cond.fieldLink RX5 25 "SentenceGymModel" "modes" "[I", Cond.methodLink RX5 78 yX5_makes, Cond.static yX5_makes, Cond.code yX5_makes cX5_makes 3 (some .int)]
def wsX5_readingsPlainly : List Cond := .code yX5_readingsPlainly cX5_readingsPlainly 1 (some .int) :: ((wsX5_readingsPlainly_r1 ++ wsX5_readingsPlainly_r2) ++ wsX50)
def wsX5_isPart : List Cond := .code yX5_isPart cX5_isPart 4 (some .boolean) :: ([.fieldLink RX5 69 "SentenceGymModel" "said" "I", .methodLink RX5 48 yX5_isWithin, .static yX5_isWithin, .initialized RX5, .code yX5_isWithin cX5_isWithin 3 (some .boolean)] ++ wsX50)
def wsX5_readingsOf_r1 : List Cond := [Cond.methodLink RX5 116 yX5_isPart, Cond.instanceMethod yX5_isPart, Cond.selects RX5 yX5_isPart yX5_isPart, Cond.initialized RX5, Cond.code yX5_isPart cX5_isPart 4 (some .boolean), Cond.fieldLink RX5 69 "SentenceGymModel" "said" "I", Cond.methodLink RX5 48 yX5_isWithin, Cond.static yX5_isWithin, Cond.code yX5_isWithin cX5_isWithin 3 (some .boolean), Cond.methodLink RX5 55 yX5_goes, Cond.instanceMethod yX5_goes, Cond.selects RX5 yX5_goes yX5_goes, Cond.code yX5_goes cX5_goes 3 (some .boolean), Cond.fieldLink RX5 41 "SentenceGymModel" "thrown" "I", Cond.methodLink RX5 109 yX5_countOf, Cond.instanceMethod yX5_countOf, Cond.selects RX5 yX5_countOf yX5_countOf, Cond.code yX5_countOf cX5_countOf 7 (some .int), Cond.fieldLink RX5 37 "SentenceGymModel" "many" "[J", Cond.constantLong RX5 106 (1000000), Cond.constant RX5 108 (1000000), Cond.methodLink RX5 100 yX5_takes, Cond.instanceMethod yX5_takes, Cond.selects RX5 yX5_takes yX5_takes]
def wsX5_readingsOf_r2 : List Cond := [Cond.code yX5_takes cX5_takes 2 none, Cond.fieldLink RX5 75 "SentenceGymModel" "length" "I", Cond.fieldLink RX5 31 "SentenceGymModel" "line" "[I", Cond.fieldLink RX5 28 "SentenceGymModel" "row" "[I", Cond.methodLink RX5 103 yX5_counts, Cond.instanceMethod yX5_counts, Cond.selects RX5 yX5_counts yX5_counts, Cond.code yX5_counts cX5_counts 6 none, Cond.fieldLink RX5 7 "SentenceGymModel" "category" "[I", Cond.fieldLink RX5 13 "SentenceGymModel" "value" "[I", Cond.fieldLink RX5 66 "SentenceGymModel" "rules" "I", Cond.fieldLink RX5 16 "SentenceGymModel" "made" "[I", Cond.fieldLink RX5 19 "SentenceGymModel" "first" "[I", Cond.fieldLink RX5 22 "SentenceGymModel" "second" "[I", Cond.methodLink RX5 82 yX5_span, Cond.static yX5_span, Cond.code yX5_span cX5_span 2 (some .int), Cond.methodLink RX5 96 yX5_adds, Cond.instanceMethod yX5_adds, Cond.selects RX5 yX5_adds yX5_adds, Cond.code yX5_adds cX5_adds 8 none, Cond.methodLink RX5 89 yX5_makesBoth, Cond.instanceMethod yX5_makesBoth, Cond.selects RX5 yX5_makesBoth yX5_makesBoth]
def wsX5_readingsOf_r3 : List Cond := [Cond.code yX5_makesBoth cX5_makesBoth 6 (some .int), Cond.fieldLink RX5 25 "SentenceGymModel" "modes" "[I", Cond.methodLink RX5 78 yX5_makes, Cond.static yX5_makes, Cond.code yX5_makes cX5_makes 3 (some .int)]
def wsX5_readingsOf : List Cond := .code yX5_readingsOf cX5_readingsOf 4 (some .int) :: ((wsX5_readingsOf_r1 ++ (wsX5_readingsOf_r2 ++ wsX5_readingsOf_r3)) ++ wsX50)
def wsX5_has_r1 : List Cond := [Cond.fieldLink RX5 66 "SentenceGymModel" "rules" "I", Cond.fieldLink RX5 34 "SentenceGymModel" "set" "[I", Cond.methodLink RX5 116 yX5_isPart, Cond.instanceMethod yX5_isPart, Cond.selects RX5 yX5_isPart yX5_isPart, Cond.initialized RX5, Cond.code yX5_isPart cX5_isPart 4 (some .boolean), Cond.fieldLink RX5 69 "SentenceGymModel" "said" "I", Cond.methodLink RX5 48 yX5_isWithin, Cond.static yX5_isWithin, Cond.code yX5_isWithin cX5_isWithin 3 (some .boolean), Cond.methodLink RX5 63 yX5_isPair, Cond.static yX5_isPair, Cond.code yX5_isPair cX5_isPair 1 (some .boolean), Cond.methodLink RX5 55 yX5_goes, Cond.instanceMethod yX5_goes, Cond.selects RX5 yX5_goes yX5_goes, Cond.code yX5_goes cX5_goes 3 (some .boolean), Cond.fieldLink RX5 41 "SentenceGymModel" "thrown" "I", Cond.methodLink RX5 100 yX5_takes, Cond.instanceMethod yX5_takes, Cond.selects RX5 yX5_takes yX5_takes, Cond.code yX5_takes cX5_takes 2 none, Cond.fieldLink RX5 75 "SentenceGymModel" "length" "I"]
def wsX5_has_r2 : List Cond := [Cond.fieldLink RX5 31 "SentenceGymModel" "line" "[I", Cond.fieldLink RX5 28 "SentenceGymModel" "row" "[I", Cond.methodLink RX5 92 yX5_parses, Cond.instanceMethod yX5_parses, Cond.selects RX5 yX5_parses yX5_parses, Cond.code yX5_parses cX5_parses 9 none, Cond.fieldLink RX5 7 "SentenceGymModel" "category" "[I", Cond.fieldLink RX5 13 "SentenceGymModel" "value" "[I", Cond.fieldLink RX5 19 "SentenceGymModel" "first" "[I", Cond.fieldLink RX5 22 "SentenceGymModel" "second" "[I", Cond.fieldLink RX5 16 "SentenceGymModel" "made" "[I", Cond.methodLink RX5 82 yX5_span, Cond.static yX5_span, Cond.code yX5_span cX5_span 2 (some .int), Cond.methodLink RX5 86 yX5_together, Cond.instanceMethod yX5_together, Cond.selects RX5 yX5_together yX5_together, Cond.code yX5_together cX5_together 8 (some .int), Cond.methodLink RX5 89 yX5_makesBoth, Cond.instanceMethod yX5_makesBoth, Cond.selects RX5 yX5_makesBoth yX5_makesBoth, Cond.code yX5_makesBoth cX5_makesBoth 6 (some .int), Cond.fieldLink RX5 25 "SentenceGymModel" "modes" "[I", Cond.methodLink RX5 78 yX5_makes]
def wsX5_has_r3 : List Cond := [Cond.static yX5_makes, Cond.code yX5_makes cX5_makes 3 (some .int)]
def wsX5_has : List Cond := .code yX5_has cX5_has 5 (some .boolean) :: ((wsX5_has_r1 ++ (wsX5_has_r2 ++ wsX5_has_r3)) ++ wsX50)
def wsX5_level_r1 : List Cond := [Cond.fieldLink RX5 41 "SentenceGymModel" "thrown" "I", Cond.fieldLink RX5 66 "SentenceGymModel" "rules" "I", Cond.fieldLink RX5 75 "SentenceGymModel" "length" "I", Cond.fieldLink RX5 34 "SentenceGymModel" "set" "[I", Cond.methodLink RX5 100 yX5_takes, Cond.instanceMethod yX5_takes, Cond.selects RX5 yX5_takes yX5_takes, Cond.initialized RX5, Cond.code yX5_takes cX5_takes 2 none, Cond.fieldLink RX5 69 "SentenceGymModel" "said" "I", Cond.fieldLink RX5 31 "SentenceGymModel" "line" "[I", Cond.fieldLink RX5 28 "SentenceGymModel" "row" "[I", Cond.methodLink RX5 92 yX5_parses, Cond.instanceMethod yX5_parses, Cond.selects RX5 yX5_parses yX5_parses, Cond.code yX5_parses cX5_parses 9 none, Cond.fieldLink RX5 7 "SentenceGymModel" "category" "[I", Cond.fieldLink RX5 13 "SentenceGymModel" "value" "[I", Cond.fieldLink RX5 19 "SentenceGymModel" "first" "[I", Cond.fieldLink RX5 22 "SentenceGymModel" "second" "[I", Cond.fieldLink RX5 16 "SentenceGymModel" "made" "[I", Cond.methodLink RX5 82 yX5_span, Cond.static yX5_span, Cond.code yX5_span cX5_span 2 (some .int)]
def wsX5_level_r2 : List Cond := [Cond.methodLink RX5 86 yX5_together, Cond.instanceMethod yX5_together, Cond.selects RX5 yX5_together yX5_together, Cond.code yX5_together cX5_together 8 (some .int), Cond.methodLink RX5 89 yX5_makesBoth, Cond.instanceMethod yX5_makesBoth, Cond.selects RX5 yX5_makesBoth yX5_makesBoth, Cond.code yX5_makesBoth cX5_makesBoth 6 (some .int), Cond.fieldLink RX5 25 "SentenceGymModel" "modes" "[I", Cond.methodLink RX5 78 yX5_makes, Cond.static yX5_makes, Cond.code yX5_makes cX5_makes 3 (some .int)]
def wsX5_level : List Cond := .code yX5_level cX5_level 3 (some .int) :: ((wsX5_level_r1 ++ wsX5_level_r2) ++ wsX50)
def wsX5_rows : List Cond := .code yX5_rows cX5_rows 4 (some .int) :: ([.fieldLink RX5 45 "SentenceGymModel" "words" "I"] ++ wsX50)
def wsX5_lays : List Cond := .code yX5_lays cX5_lays 5 none :: ([.fieldLink RX5 75 "SentenceGymModel" "length" "I", .fieldLink RX5 31 "SentenceGymModel" "line" "[I", .fieldLink RX5 45 "SentenceGymModel" "words" "I"] ++ wsX50)
def wsX5_sentencesOf_r1 : List Cond := [Cond.methodLink RX5 119 yX5_rows, Cond.instanceMethod yX5_rows, Cond.selects RX5 yX5_rows yX5_rows, Cond.initialized RX5, Cond.code yX5_rows cX5_rows 4 (some .int), Cond.fieldLink RX5 45 "SentenceGymModel" "words" "I", Cond.methodLink RX5 123 yX5_lays, Cond.instanceMethod yX5_lays, Cond.selects RX5 yX5_lays yX5_lays, Cond.code yX5_lays cX5_lays 5 none, Cond.fieldLink RX5 75 "SentenceGymModel" "length" "I", Cond.fieldLink RX5 31 "SentenceGymModel" "line" "[I", Cond.methodLink RX5 127 yX5_isSentence, Cond.instanceMethod yX5_isSentence, Cond.selects RX5 yX5_isSentence yX5_isSentence, Cond.code yX5_isSentence cX5_isSentence 1 (some .boolean), Cond.fieldLink RX5 66 "SentenceGymModel" "rules" "I", Cond.fieldLink RX5 34 "SentenceGymModel" "set" "[I", Cond.methodLink RX5 92 yX5_parses, Cond.instanceMethod yX5_parses, Cond.selects RX5 yX5_parses yX5_parses, Cond.code yX5_parses cX5_parses 9 none, Cond.fieldLink RX5 7 "SentenceGymModel" "category" "[I", Cond.fieldLink RX5 13 "SentenceGymModel" "value" "[I"]
def wsX5_sentencesOf_r2 : List Cond := [Cond.fieldLink RX5 19 "SentenceGymModel" "first" "[I", Cond.fieldLink RX5 22 "SentenceGymModel" "second" "[I", Cond.fieldLink RX5 16 "SentenceGymModel" "made" "[I", Cond.methodLink RX5 82 yX5_span, Cond.static yX5_span, Cond.code yX5_span cX5_span 2 (some .int), Cond.methodLink RX5 86 yX5_together, Cond.instanceMethod yX5_together, Cond.selects RX5 yX5_together yX5_together, Cond.code yX5_together cX5_together 8 (some .int), Cond.methodLink RX5 89 yX5_makesBoth, Cond.instanceMethod yX5_makesBoth, Cond.selects RX5 yX5_makesBoth yX5_makesBoth, Cond.code yX5_makesBoth cX5_makesBoth 6 (some .int), Cond.fieldLink RX5 25 "SentenceGymModel" "modes" "[I", Cond.methodLink RX5 78 yX5_makes, Cond.static yX5_makes, Cond.code yX5_makes cX5_makes 3 (some .int)]
def wsX5_sentencesOf : List Cond := .code yX5_sentencesOf cX5_sentencesOf 4 (some .int) :: ((wsX5_sentencesOf_r1 ++ wsX5_sentencesOf_r2) ++ wsX50)
def wsX5_isShort : List Cond := .code yX5_isShort cX5_isShort 1 (some .boolean) :: ([])
def wsX5_sentences_r1 : List Cond := [Cond.methodLink RX5 131 yX5_isShort, Cond.static yX5_isShort, Cond.initialized RX5, Cond.code yX5_isShort cX5_isShort 1 (some .boolean), Cond.methodLink RX5 55 yX5_goes, Cond.instanceMethod yX5_goes, Cond.selects RX5 yX5_goes yX5_goes, Cond.code yX5_goes cX5_goes 3 (some .boolean), Cond.fieldLink RX5 41 "SentenceGymModel" "thrown" "I", Cond.methodLink RX5 134 yX5_sentencesOf, Cond.instanceMethod yX5_sentencesOf, Cond.selects RX5 yX5_sentencesOf yX5_sentencesOf, Cond.code yX5_sentencesOf cX5_sentencesOf 4 (some .int), Cond.methodLink RX5 119 yX5_rows, Cond.instanceMethod yX5_rows, Cond.selects RX5 yX5_rows yX5_rows, Cond.code yX5_rows cX5_rows 4 (some .int), Cond.fieldLink RX5 45 "SentenceGymModel" "words" "I", Cond.methodLink RX5 123 yX5_lays, Cond.instanceMethod yX5_lays, Cond.selects RX5 yX5_lays yX5_lays, Cond.code yX5_lays cX5_lays 5 none, Cond.fieldLink RX5 75 "SentenceGymModel" "length" "I", Cond.fieldLink RX5 31 "SentenceGymModel" "line" "[I"]
def wsX5_sentences_r2 : List Cond := [Cond.methodLink RX5 127 yX5_isSentence, Cond.instanceMethod yX5_isSentence, Cond.selects RX5 yX5_isSentence yX5_isSentence, Cond.code yX5_isSentence cX5_isSentence 1 (some .boolean), Cond.fieldLink RX5 66 "SentenceGymModel" "rules" "I", Cond.fieldLink RX5 34 "SentenceGymModel" "set" "[I", Cond.methodLink RX5 92 yX5_parses, Cond.instanceMethod yX5_parses, Cond.selects RX5 yX5_parses yX5_parses, Cond.code yX5_parses cX5_parses 9 none, Cond.fieldLink RX5 7 "SentenceGymModel" "category" "[I", Cond.fieldLink RX5 13 "SentenceGymModel" "value" "[I", Cond.fieldLink RX5 19 "SentenceGymModel" "first" "[I", Cond.fieldLink RX5 22 "SentenceGymModel" "second" "[I", Cond.fieldLink RX5 16 "SentenceGymModel" "made" "[I", Cond.methodLink RX5 82 yX5_span, Cond.static yX5_span, Cond.code yX5_span cX5_span 2 (some .int), Cond.methodLink RX5 86 yX5_together, Cond.instanceMethod yX5_together, Cond.selects RX5 yX5_together yX5_together, Cond.code yX5_together cX5_together 8 (some .int), Cond.methodLink RX5 89 yX5_makesBoth, Cond.instanceMethod yX5_makesBoth]
def wsX5_sentences_r3 : List Cond := [Cond.selects RX5 yX5_makesBoth yX5_makesBoth, Cond.code yX5_makesBoth cX5_makesBoth 6 (some .int), Cond.fieldLink RX5 25 "SentenceGymModel" "modes" "[I", Cond.methodLink RX5 78 yX5_makes, Cond.static yX5_makes, Cond.code yX5_makes cX5_makes 3 (some .int)]
def wsX5_sentences : List Cond := .code yX5_sentences cX5_sentences 2 (some .int) :: ((wsX5_sentences_r1 ++ (wsX5_sentences_r2 ++ wsX5_sentences_r3)) ++ wsX50)
def wsX5_sentence_r1 : List Cond := [Cond.fieldLink RX5 31 "SentenceGymModel" "line" "[I", Cond.methodLink RX5 131 yX5_isShort, Cond.static yX5_isShort, Cond.initialized RX5, Cond.code yX5_isShort cX5_isShort 1 (some .boolean), Cond.methodLink RX5 55 yX5_goes, Cond.instanceMethod yX5_goes, Cond.selects RX5 yX5_goes yX5_goes, Cond.code yX5_goes cX5_goes 3 (some .boolean), Cond.fieldLink RX5 41 "SentenceGymModel" "thrown" "I", Cond.methodLink RX5 119 yX5_rows, Cond.instanceMethod yX5_rows, Cond.selects RX5 yX5_rows yX5_rows, Cond.code yX5_rows cX5_rows 4 (some .int), Cond.fieldLink RX5 45 "SentenceGymModel" "words" "I", Cond.methodLink RX5 123 yX5_lays, Cond.instanceMethod yX5_lays, Cond.selects RX5 yX5_lays yX5_lays, Cond.code yX5_lays cX5_lays 5 none, Cond.fieldLink RX5 75 "SentenceGymModel" "length" "I", Cond.methodLink RX5 127 yX5_isSentence, Cond.instanceMethod yX5_isSentence, Cond.selects RX5 yX5_isSentence yX5_isSentence, Cond.code yX5_isSentence cX5_isSentence 1 (some .boolean)]
def wsX5_sentence_r2 : List Cond := [Cond.fieldLink RX5 66 "SentenceGymModel" "rules" "I", Cond.fieldLink RX5 34 "SentenceGymModel" "set" "[I", Cond.methodLink RX5 92 yX5_parses, Cond.instanceMethod yX5_parses, Cond.selects RX5 yX5_parses yX5_parses, Cond.code yX5_parses cX5_parses 9 none, Cond.fieldLink RX5 7 "SentenceGymModel" "category" "[I", Cond.fieldLink RX5 13 "SentenceGymModel" "value" "[I", Cond.fieldLink RX5 19 "SentenceGymModel" "first" "[I", Cond.fieldLink RX5 22 "SentenceGymModel" "second" "[I", Cond.fieldLink RX5 16 "SentenceGymModel" "made" "[I", Cond.methodLink RX5 82 yX5_span, Cond.static yX5_span, Cond.code yX5_span cX5_span 2 (some .int), Cond.methodLink RX5 86 yX5_together, Cond.instanceMethod yX5_together, Cond.selects RX5 yX5_together yX5_together, Cond.code yX5_together cX5_together 8 (some .int), Cond.methodLink RX5 89 yX5_makesBoth, Cond.instanceMethod yX5_makesBoth, Cond.selects RX5 yX5_makesBoth yX5_makesBoth, Cond.code yX5_makesBoth cX5_makesBoth 6 (some .int), Cond.fieldLink RX5 25 "SentenceGymModel" "modes" "[I", Cond.methodLink RX5 78 yX5_makes]
def wsX5_sentence_r3 : List Cond := [Cond.static yX5_makes, Cond.code yX5_makes cX5_makes 3 (some .int)]
def wsX5_sentence : List Cond := .code yX5_sentence cX5_sentence 7 (some .int) :: ((wsX5_sentence_r1 ++ (wsX5_sentence_r2 ++ wsX5_sentence_r3)) ++ wsX50)
def wsX5_share_r1 : List Cond := [Cond.fieldLink RX5 45 "SentenceGymModel" "words" "I", Cond.methodLink RX5 131 yX5_isShort, Cond.static yX5_isShort, Cond.initialized RX5, Cond.code yX5_isShort cX5_isShort 1 (some .boolean), Cond.methodLink RX5 55 yX5_goes, Cond.instanceMethod yX5_goes, Cond.selects RX5 yX5_goes yX5_goes, Cond.code yX5_goes cX5_goes 3 (some .boolean), Cond.fieldLink RX5 41 "SentenceGymModel" "thrown" "I", Cond.methodLink RX5 134 yX5_sentencesOf, Cond.instanceMethod yX5_sentencesOf, Cond.selects RX5 yX5_sentencesOf yX5_sentencesOf, Cond.code yX5_sentencesOf cX5_sentencesOf 4 (some .int), Cond.methodLink RX5 119 yX5_rows, Cond.instanceMethod yX5_rows, Cond.selects RX5 yX5_rows yX5_rows, Cond.code yX5_rows cX5_rows 4 (some .int), Cond.methodLink RX5 123 yX5_lays, Cond.instanceMethod yX5_lays, Cond.selects RX5 yX5_lays yX5_lays, Cond.code yX5_lays cX5_lays 5 none, Cond.fieldLink RX5 75 "SentenceGymModel" "length" "I", Cond.fieldLink RX5 31 "SentenceGymModel" "line" "[I"]
def wsX5_share_r2 : List Cond := [Cond.methodLink RX5 127 yX5_isSentence, Cond.instanceMethod yX5_isSentence, Cond.selects RX5 yX5_isSentence yX5_isSentence, Cond.code yX5_isSentence cX5_isSentence 1 (some .boolean), Cond.fieldLink RX5 66 "SentenceGymModel" "rules" "I", Cond.fieldLink RX5 34 "SentenceGymModel" "set" "[I", Cond.methodLink RX5 92 yX5_parses, Cond.instanceMethod yX5_parses, Cond.selects RX5 yX5_parses yX5_parses, Cond.code yX5_parses cX5_parses 9 none, Cond.fieldLink RX5 7 "SentenceGymModel" "category" "[I", Cond.fieldLink RX5 13 "SentenceGymModel" "value" "[I", Cond.fieldLink RX5 19 "SentenceGymModel" "first" "[I", Cond.fieldLink RX5 22 "SentenceGymModel" "second" "[I", Cond.fieldLink RX5 16 "SentenceGymModel" "made" "[I", Cond.methodLink RX5 82 yX5_span, Cond.static yX5_span, Cond.code yX5_span cX5_span 2 (some .int), Cond.methodLink RX5 86 yX5_together, Cond.instanceMethod yX5_together, Cond.selects RX5 yX5_together yX5_together, Cond.code yX5_together cX5_together 8 (some .int), Cond.methodLink RX5 89 yX5_makesBoth, Cond.instanceMethod yX5_makesBoth]
def wsX5_share_r3 : List Cond := [Cond.selects RX5 yX5_makesBoth yX5_makesBoth, Cond.code yX5_makesBoth cX5_makesBoth 6 (some .int), Cond.fieldLink RX5 25 "SentenceGymModel" "modes" "[I", Cond.methodLink RX5 78 yX5_makes, Cond.static yX5_makes, Cond.code yX5_makes cX5_makes 3 (some .int)]
def wsX5_share : List Cond := .code yX5_share cX5_share 2 (some .float) :: ((wsX5_share_r1 ++ (wsX5_share_r2 ++ wsX5_share_r3)) ++ wsX50)
def wsX5_spoil_r1 : List Cond := [Cond.fieldLink RX5 45 "SentenceGymModel" "words" "I", Cond.fieldLink RX5 28 "SentenceGymModel" "row" "[I", Cond.fieldLink RX5 7 "SentenceGymModel" "category" "[I", Cond.fieldLink RX5 31 "SentenceGymModel" "line" "[I", Cond.methodLink RX5 72 yX5_isPlace, Cond.instanceMethod yX5_isPlace, Cond.selects RX5 yX5_isPlace yX5_isPlace, Cond.initialized RX5, Cond.code yX5_isPlace cX5_isPlace 2 (some .boolean), Cond.fieldLink RX5 69 "SentenceGymModel" "said" "I", Cond.methodLink RX5 55 yX5_goes, Cond.instanceMethod yX5_goes, Cond.selects RX5 yX5_goes yX5_goes, Cond.code yX5_goes cX5_goes 3 (some .boolean), Cond.fieldLink RX5 41 "SentenceGymModel" "thrown" "I", Cond.methodLink RX5 100 yX5_takes, Cond.instanceMethod yX5_takes, Cond.selects RX5 yX5_takes yX5_takes, Cond.code yX5_takes cX5_takes 2 none, Cond.fieldLink RX5 75 "SentenceGymModel" "length" "I", Cond.methodLink RX5 127 yX5_isSentence, Cond.instanceMethod yX5_isSentence, Cond.selects RX5 yX5_isSentence yX5_isSentence, Cond.code yX5_isSentence cX5_isSentence 1 (some .boolean)]
def wsX5_spoil_r2 : List Cond := [Cond.fieldLink RX5 66 "SentenceGymModel" "rules" "I", Cond.fieldLink RX5 34 "SentenceGymModel" "set" "[I", Cond.methodLink RX5 92 yX5_parses, Cond.instanceMethod yX5_parses, Cond.selects RX5 yX5_parses yX5_parses, Cond.code yX5_parses cX5_parses 9 none, Cond.fieldLink RX5 13 "SentenceGymModel" "value" "[I", Cond.fieldLink RX5 19 "SentenceGymModel" "first" "[I", Cond.fieldLink RX5 22 "SentenceGymModel" "second" "[I", Cond.fieldLink RX5 16 "SentenceGymModel" "made" "[I", Cond.methodLink RX5 82 yX5_span, Cond.static yX5_span, Cond.code yX5_span cX5_span 2 (some .int), Cond.methodLink RX5 86 yX5_together, Cond.instanceMethod yX5_together, Cond.selects RX5 yX5_together yX5_together, Cond.code yX5_together cX5_together 8 (some .int), Cond.methodLink RX5 89 yX5_makesBoth, Cond.instanceMethod yX5_makesBoth, Cond.selects RX5 yX5_makesBoth yX5_makesBoth, Cond.code yX5_makesBoth cX5_makesBoth 6 (some .int), Cond.fieldLink RX5 25 "SentenceGymModel" "modes" "[I", Cond.methodLink RX5 78 yX5_makes, Cond.static yX5_makes]
def wsX5_spoil_r3 : List Cond := [Cond.code yX5_makes cX5_makes 3 (some .int)]
def wsX5_spoil : List Cond := .code yX5_spoil cX5_spoil 4 (some .int) :: ((wsX5_spoil_r1 ++ (wsX5_spoil_r2 ++ wsX5_spoil_r3)) ++ wsX50)
def wsX5_changes_r1 : List Cond := [Cond.fieldLink RX5 41 "SentenceGymModel" "thrown" "I", Cond.fieldLink RX5 69 "SentenceGymModel" "said" "I", Cond.fieldLink RX5 45 "SentenceGymModel" "words" "I", Cond.fieldLink RX5 31 "SentenceGymModel" "line" "[I", Cond.methodLink RX5 100 yX5_takes, Cond.instanceMethod yX5_takes, Cond.selects RX5 yX5_takes yX5_takes, Cond.initialized RX5, Cond.code yX5_takes cX5_takes 2 none, Cond.fieldLink RX5 75 "SentenceGymModel" "length" "I", Cond.fieldLink RX5 28 "SentenceGymModel" "row" "[I", Cond.methodLink RX5 127 yX5_isSentence, Cond.instanceMethod yX5_isSentence, Cond.selects RX5 yX5_isSentence yX5_isSentence, Cond.code yX5_isSentence cX5_isSentence 1 (some .boolean), Cond.fieldLink RX5 66 "SentenceGymModel" "rules" "I", Cond.fieldLink RX5 34 "SentenceGymModel" "set" "[I", Cond.methodLink RX5 92 yX5_parses, Cond.instanceMethod yX5_parses, Cond.selects RX5 yX5_parses yX5_parses, Cond.code yX5_parses cX5_parses 9 none, Cond.fieldLink RX5 7 "SentenceGymModel" "category" "[I", Cond.fieldLink RX5 13 "SentenceGymModel" "value" "[I", Cond.fieldLink RX5 19 "SentenceGymModel" "first" "[I"]
def wsX5_changes_r2 : List Cond := [Cond.fieldLink RX5 22 "SentenceGymModel" "second" "[I", Cond.fieldLink RX5 16 "SentenceGymModel" "made" "[I", Cond.methodLink RX5 82 yX5_span, Cond.static yX5_span, Cond.code yX5_span cX5_span 2 (some .int), Cond.methodLink RX5 86 yX5_together, Cond.instanceMethod yX5_together, Cond.selects RX5 yX5_together yX5_together, Cond.code yX5_together cX5_together 8 (some .int), Cond.methodLink RX5 89 yX5_makesBoth, Cond.instanceMethod yX5_makesBoth, Cond.selects RX5 yX5_makesBoth yX5_makesBoth, Cond.code yX5_makesBoth cX5_makesBoth 6 (some .int), Cond.fieldLink RX5 25 "SentenceGymModel" "modes" "[I", Cond.methodLink RX5 78 yX5_makes, Cond.static yX5_makes, Cond.code yX5_makes cX5_makes 3 (some .int)]
def wsX5_changes : List Cond := .code yX5_changes cX5_changes 5 (some .int) :: ((wsX5_changes_r1 ++ wsX5_changes_r2) ++ wsX50)
def wsX5_correction_r1 : List Cond := [Cond.fieldLink RX5 69 "SentenceGymModel" "said" "I", Cond.fieldLink RX5 45 "SentenceGymModel" "words" "I", Cond.fieldLink RX5 31 "SentenceGymModel" "line" "[I", Cond.fieldLink RX5 28 "SentenceGymModel" "row" "[I", Cond.methodLink RX5 55 yX5_goes, Cond.instanceMethod yX5_goes, Cond.selects RX5 yX5_goes yX5_goes, Cond.initialized RX5, Cond.code yX5_goes cX5_goes 3 (some .boolean), Cond.fieldLink RX5 41 "SentenceGymModel" "thrown" "I", Cond.methodLink RX5 100 yX5_takes, Cond.instanceMethod yX5_takes, Cond.selects RX5 yX5_takes yX5_takes, Cond.code yX5_takes cX5_takes 2 none, Cond.fieldLink RX5 75 "SentenceGymModel" "length" "I", Cond.methodLink RX5 127 yX5_isSentence, Cond.instanceMethod yX5_isSentence, Cond.selects RX5 yX5_isSentence yX5_isSentence, Cond.code yX5_isSentence cX5_isSentence 1 (some .boolean), Cond.fieldLink RX5 66 "SentenceGymModel" "rules" "I", Cond.fieldLink RX5 34 "SentenceGymModel" "set" "[I", Cond.methodLink RX5 92 yX5_parses, Cond.instanceMethod yX5_parses, Cond.selects RX5 yX5_parses yX5_parses]
def wsX5_correction_r2 : List Cond := [Cond.code yX5_parses cX5_parses 9 none, Cond.fieldLink RX5 7 "SentenceGymModel" "category" "[I", Cond.fieldLink RX5 13 "SentenceGymModel" "value" "[I", Cond.fieldLink RX5 19 "SentenceGymModel" "first" "[I", Cond.fieldLink RX5 22 "SentenceGymModel" "second" "[I", Cond.fieldLink RX5 16 "SentenceGymModel" "made" "[I", Cond.methodLink RX5 82 yX5_span, Cond.static yX5_span, Cond.code yX5_span cX5_span 2 (some .int), Cond.methodLink RX5 86 yX5_together, Cond.instanceMethod yX5_together, Cond.selects RX5 yX5_together yX5_together, Cond.code yX5_together cX5_together 8 (some .int), Cond.methodLink RX5 89 yX5_makesBoth, Cond.instanceMethod yX5_makesBoth, Cond.selects RX5 yX5_makesBoth yX5_makesBoth, Cond.code yX5_makesBoth cX5_makesBoth 6 (some .int), Cond.fieldLink RX5 25 "SentenceGymModel" "modes" "[I", Cond.methodLink RX5 78 yX5_makes, Cond.static yX5_makes, Cond.code yX5_makes cX5_makes 3 (some .int)]
def wsX5_correction : List Cond := .code yX5_correction cX5_correction 7 (some .int) :: ((wsX5_correction_r1 ++ wsX5_correction_r2) ++ wsX50)
def wsL_addWord_r1 : List Cond := [Cond.classLink RL 13 "java/lang/IllegalArgumentException", Cond.classLink RL 15 "java/lang/IllegalStateException", Cond.methodLink RL 7 yX4_addWord, Cond.instanceMethod yX4_addWord, Cond.selects RX4 yX4_addWord yX4_addWord, Cond.initialized RX4, Cond.code yX4_addWord cX4_addWord 5 (some .int), Cond.classLink RX4 52 "java/lang/IllegalArgumentException", Cond.initialized "java/lang/IllegalArgumentException", Cond.classLink RX4 62 "java/lang/IllegalStateException", Cond.initialized "java/lang/IllegalStateException", Cond.fieldLink RX4 12 "SentenceGym" "grammar" "LSentenceGym$Grammar;", Cond.methodLink RX4 48 yX4_isNoKind, Cond.static yX4_isNoKind, Cond.code yX4_isNoKind cX4_isNoKind 3 (some .boolean), Cond.methodLink RX4 75 yX4_isOutside, Cond.static yX4_isOutside, Cond.code yX4_isOutside cX4_isOutside 2 (some .boolean), Cond.methodLink RX4 67 yX4_pairOf, Cond.static yX4_pairOf, Cond.code yX4_pairOf cX4_pairOf 2 (some .int), Cond.instanceMethod yX1_defineWord, Cond.initialized RX1, Cond.selects RX1 yX1_defineWord yX1_defineWord]
def wsL_addWord_r2 : List Cond := [Cond.code yX1_defineWord cX1_defineWord 4 none, Cond.fieldLink RX1 15 "SentenceGym$Grammar" "wordCategory" "[I", Cond.fieldLink RX1 19 "SentenceGym$Grammar" "wordPair" "[I"]
def wsL_addWord : List Cond := .codeWith yL_addWord cL_addWord 6 (some .int) [(0, 12, 15, 13), (0, 12, 19, 15)] :: ((wsL_addWord_r1 ++ wsL_addWord_r2) ++ wsX40 ++ wsX10 ++ (vx_atS RX4 56 "java/lang/IllegalArgumentException" ["java/lang/RuntimeException", "java/lang/Exception"]).filter goodWord ++ (vx_atS RX4 66 "java/lang/IllegalStateException" ["java/lang/RuntimeException", "java/lang/Exception"]).filter goodWord)
def wsL_setWord_r1 : List Cond := [Cond.classLink RL 21 "java/lang/IndexOutOfBoundsException", Cond.classLink RL 13 "java/lang/IllegalArgumentException", Cond.methodLink RL 17 yX4_setWord, Cond.instanceMethod yX4_setWord, Cond.selects RX4 yX4_setWord yX4_setWord, Cond.initialized RX4, Cond.code yX4_setWord cX4_setWord 6 (some .int), Cond.classLink RX4 79 "java/lang/IndexOutOfBoundsException", Cond.initialized "java/lang/IndexOutOfBoundsException", Cond.classLink RX4 52 "java/lang/IllegalArgumentException", Cond.initialized "java/lang/IllegalArgumentException", Cond.fieldLink RX4 12 "SentenceGym" "grammar" "LSentenceGym$Grammar;", Cond.methodLink RX4 75 yX4_isOutside, Cond.static yX4_isOutside, Cond.code yX4_isOutside cX4_isOutside 2 (some .boolean), Cond.methodLink RX4 48 yX4_isNoKind, Cond.static yX4_isNoKind, Cond.code yX4_isNoKind cX4_isNoKind 3 (some .boolean), Cond.methodLink RX4 67 yX4_pairOf, Cond.static yX4_pairOf, Cond.code yX4_pairOf cX4_pairOf 2 (some .int), Cond.instanceMethod yX1_defineWord, Cond.initialized RX1, Cond.selects RX1 yX1_defineWord yX1_defineWord]
def wsL_setWord_r2 : List Cond := [Cond.code yX1_defineWord cX1_defineWord 4 none, Cond.fieldLink RX1 15 "SentenceGym$Grammar" "wordCategory" "[I", Cond.fieldLink RX1 19 "SentenceGym$Grammar" "wordPair" "[I"]
def wsL_setWord : List Cond := .codeWith yL_setWord cL_setWord 7 (some .int) [(0, 14, 17, 21), (0, 14, 21, 13)] :: ((wsL_setWord_r1 ++ wsL_setWord_r2) ++ wsX40 ++ wsX10 ++ (vx_atS RX4 83 "java/lang/IndexOutOfBoundsException" ["java/lang/RuntimeException", "java/lang/Exception"]).filter goodWord ++ (vx_atS RX4 56 "java/lang/IllegalArgumentException" ["java/lang/RuntimeException", "java/lang/Exception"]).filter goodWord)
def wsL_addRule_r1 : List Cond := [Cond.classLink RL 13 "java/lang/IllegalArgumentException", Cond.classLink RL 15 "java/lang/IllegalStateException", Cond.methodLink RL 23 yX4_addRule, Cond.instanceMethod yX4_addRule, Cond.selects RX4 yX4_addRule yX4_addRule, Cond.initialized RX4, Cond.code yX4_addRule cX4_addRule 6 (some .int), Cond.classLink RX4 52 "java/lang/IllegalArgumentException", Cond.initialized "java/lang/IllegalArgumentException", Cond.classLink RX4 62 "java/lang/IllegalStateException", Cond.initialized "java/lang/IllegalStateException", Cond.fieldLink RX4 12 "SentenceGym" "grammar" "LSentenceGym$Grammar;", Cond.methodLink RX4 75 yX4_isOutside, Cond.static yX4_isOutside, Cond.code yX4_isOutside cX4_isOutside 2 (some .boolean), Cond.methodLink RX4 87 yX4_isNoDigitPair, Cond.static yX4_isNoDigitPair, Cond.code yX4_isNoDigitPair cX4_isNoDigitPair 1 (some .boolean), Cond.instanceMethod yX1_defineRule, Cond.initialized RX1, Cond.selects RX1 yX1_defineRule yX1_defineRule, Cond.code yX1_defineRule cX1_defineRule 7 none, Cond.fieldLink RX1 25 "SentenceGym$Grammar" "made" "[I", Cond.fieldLink RX1 28 "SentenceGym$Grammar" "first" "[I"]
def wsL_addRule_r2 : List Cond := [Cond.fieldLink RX1 31 "SentenceGym$Grammar" "second" "[I", Cond.fieldLink RX1 36 "SentenceGym$Grammar" "pairMade" "[[I", Cond.methodLink RX1 39 yX1_joinedPair, Cond.static yX1_joinedPair, Cond.code yX1_joinedPair cX1_joinedPair 5 (some .int), Cond.methodLink RX1 43 yX1_joinedValue, Cond.static yX1_joinedValue, Cond.code yX1_joinedValue cX1_joinedValue 3 (some .int), Cond.static yX4_pairOf, Cond.code yX4_pairOf cX4_pairOf 2 (some .int)]
def wsL_addRule : List Cond := .codeWith yL_addRule cL_addRule 7 (some .int) [(0, 14, 17, 13), (0, 14, 21, 15)] :: ((wsL_addRule_r1 ++ wsL_addRule_r2) ++ wsX40 ++ wsX10 ++ (vx_atS RX4 56 "java/lang/IllegalArgumentException" ["java/lang/RuntimeException", "java/lang/Exception"]).filter goodWord ++ (vx_atS RX4 66 "java/lang/IllegalStateException" ["java/lang/RuntimeException", "java/lang/Exception"]).filter goodWord)
def wsL_dropRule : List Cond := .codeWith yL_dropRule cL_dropRule 3 (some .int) [(0, 8, 11, 15)] :: ([.classLink RL 15 "java/lang/IllegalStateException", .methodLink RL 26 yX4_dropRule, .instanceMethod yX4_dropRule, .selects RX4 yX4_dropRule yX4_dropRule, .initialized RX4, .code yX4_dropRule cX4_dropRule 1 (some .int), .classLink RX4 62 "java/lang/IllegalStateException", .initialized "java/lang/IllegalStateException", .fieldLink RX4 12 "SentenceGym" "grammar" "LSentenceGym$Grammar;"] ++ wsX40 ++ wsX10 ++ (vx_atS RX4 66 "java/lang/IllegalStateException" ["java/lang/RuntimeException", "java/lang/Exception"]).filter goodWord)
def wsL_say : List Cond := .codeWith yL_say cL_say 4 (some .int) [(0, 9, 12, 21), (0, 9, 15, 15)] :: ([.classLink RL 21 "java/lang/IndexOutOfBoundsException", .classLink RL 15 "java/lang/IllegalStateException", .methodLink RL 30 yX4_say, .instanceMethod yX4_say, .selects RX4 yX4_say yX4_say, .initialized RX4, .code yX4_say cX4_say 2 (some .int), .classLink RX4 79 "java/lang/IndexOutOfBoundsException", .initialized "java/lang/IndexOutOfBoundsException", .classLink RX4 62 "java/lang/IllegalStateException", .initialized "java/lang/IllegalStateException", .fieldLink RX4 12 "SentenceGym" "grammar" "LSentenceGym$Grammar;", .fieldLink RX4 20 "SentenceGym" "rowLength" "I", .fieldLink RX4 16 "SentenceGym" "row" "[I", .methodLink RX4 75 yX4_isOutside, .static yX4_isOutside, .code yX4_isOutside cX4_isOutside 2 (some .boolean)] ++ wsX40 ++ wsX10 ++ (vx_atS RX4 83 "java/lang/IndexOutOfBoundsException" ["java/lang/RuntimeException", "java/lang/Exception"]).filter goodWord ++ (vx_atS RX4 66 "java/lang/IllegalStateException" ["java/lang/RuntimeException", "java/lang/Exception"]).filter goodWord)
def wsL_change : List Cond := .codeWith yL_change cL_change 5 (some .int) [(0, 10, 13, 21)] :: ([.classLink RL 21 "java/lang/IndexOutOfBoundsException", .methodLink RL 34 yX4_change, .instanceMethod yX4_change, .selects RX4 yX4_change yX4_change, .initialized RX4, .code yX4_change cX4_change 4 (some .int), .classLink RX4 79 "java/lang/IndexOutOfBoundsException", .initialized "java/lang/IndexOutOfBoundsException", .fieldLink RX4 20 "SentenceGym" "rowLength" "I", .fieldLink RX4 12 "SentenceGym" "grammar" "LSentenceGym$Grammar;", .fieldLink RX4 16 "SentenceGym" "row" "[I", .methodLink RX4 75 yX4_isOutside, .static yX4_isOutside, .code yX4_isOutside cX4_isOutside 2 (some .boolean)] ++ wsX40 ++ wsX10 ++ (vx_atS RX4 83 "java/lang/IndexOutOfBoundsException" ["java/lang/RuntimeException", "java/lang/Exception"]).filter goodWord)
def wsL_wordAt : List Cond := .codeWith yL_wordAt cL_wordAt 4 (some .int) [(0, 9, 12, 21)] :: ([.classLink RL 21 "java/lang/IndexOutOfBoundsException", .methodLink RL 38 yX4_wordAt, .instanceMethod yX4_wordAt, .selects RX4 yX4_wordAt yX4_wordAt, .initialized RX4, .code yX4_wordAt cX4_wordAt 2 (some .int), .classLink RX4 79 "java/lang/IndexOutOfBoundsException", .initialized "java/lang/IndexOutOfBoundsException", .fieldLink RX4 20 "SentenceGym" "rowLength" "I", .fieldLink RX4 16 "SentenceGym" "row" "[I", .methodLink RX4 75 yX4_isOutside, .static yX4_isOutside, .code yX4_isOutside cX4_isOutside 2 (some .boolean)] ++ wsX40 ++ (vx_atS RX4 83 "java/lang/IndexOutOfBoundsException" ["java/lang/RuntimeException", "java/lang/Exception"]).filter goodWord)
def wsL_readingsOf_r1 : List Cond := [Cond.classLink RL 21 "java/lang/IndexOutOfBoundsException", Cond.methodLink RL 41 yX4_readingsOf, Cond.instanceMethod yX4_readingsOf, Cond.selects RX4 yX4_readingsOf yX4_readingsOf, Cond.initialized RX4, Cond.code yX4_readingsOf cX4_readingsOf 4 (some .int), Cond.classLink RX4 79 "java/lang/IndexOutOfBoundsException", Cond.initialized "java/lang/IndexOutOfBoundsException", Cond.methodLink RX4 122 yX4_isNoSpan, Cond.instanceMethod yX4_isNoSpan, Cond.selects RX4 yX4_isNoSpan yX4_isNoSpan, Cond.code yX4_isNoSpan cX4_isNoSpan 3 (some .boolean), Cond.fieldLink RX4 20 "SentenceGym" "rowLength" "I", Cond.methodLink RX4 75 yX4_isOutside, Cond.static yX4_isOutside, Cond.code yX4_isOutside cX4_isOutside 2 (some .boolean), Cond.methodLink RX4 110 yX4_countReadings, Cond.instanceMethod yX4_countReadings, Cond.selects RX4 yX4_countReadings yX4_countReadings, Cond.code yX4_countReadings cX4_countReadings 4 (some .int), Cond.fieldLink RX4 37 "SentenceGym" "countChart" "LSentenceGym$CountChart;", Cond.fieldLink RX4 12 "SentenceGym" "grammar" "LSentenceGym$Grammar;", Cond.fieldLink RX4 16 "SentenceGym" "row" "[I", Cond.instanceMethod yX0_fill]
def wsL_readingsOf_r2 : List Cond := [Cond.initialized RX0, Cond.selects RX0 yX0_fill yX0_fill, Cond.code yX0_fill cX0_fill 6 none, Cond.methodLink RX0 24 yX0_fillSpan, Cond.instanceMethod yX0_fillSpan, Cond.selects RX0 yX0_fillSpan yX0_fillSpan, Cond.code yX0_fillSpan cX0_fillSpan 9 none, Cond.fieldLink RX0 11 "SentenceGym$CountChart" "counts" "[[I", Cond.static yX4_spanOf, Cond.code yX4_spanOf cX4_spanOf 2 (some .int), Cond.methodLink RX0 28 yJ7_fill_53178, Cond.static yJ7_fill_53178, Cond.initialized RJ7, Cond.code yJ7_fill_53178 cJ7_fill_53178 4 none, Cond.instanceMethod yX1_countWord, Cond.initialized RX1, Cond.selects RX1 yX1_countWord yX1_countWord, Cond.code yX1_countWord cX1_countWord 3 none, Cond.fieldLink RX1 15 "SentenceGym$Grammar" "wordCategory" "[I", Cond.fieldLink RX1 19 "SentenceGym$Grammar" "wordPair" "[I", Cond.instanceMethod yX1_addJoined, Cond.selects RX1 yX1_addJoined yX1_addJoined, Cond.code yX1_addJoined cX1_addJoined 7 none, Cond.fieldLink RX1 22 "SentenceGym$Grammar" "rules" "I"]
def wsL_readingsOf_r3 : List Cond := [Cond.fieldLink RX1 28 "SentenceGym$Grammar" "first" "[I", Cond.methodLink RX1 54 yX1_addJoinedWith, Cond.instanceMethod yX1_addJoinedWith, Cond.selects RX1 yX1_addJoinedWith yX1_addJoinedWith, Cond.code yX1_addJoinedWith cX1_addJoinedWith 9 none, Cond.fieldLink RX1 36 "SentenceGym$Grammar" "pairMade" "[[I", Cond.fieldLink RX1 31 "SentenceGym$Grammar" "second" "[I", Cond.fieldLink RX1 25 "SentenceGym$Grammar" "made" "[I", Cond.instanceMethod yX0_countSpan, Cond.selects RX0 yX0_countSpan yX0_countSpan, Cond.code yX0_countSpan cX0_countSpan 4 (some .int), Cond.static yX4_countOf, Cond.code yX4_countOf cX4_countOf 4 (some .int), Cond.methodLink RX4 118 yX4_told, Cond.static yX4_told, Cond.code yX4_told cX4_told 1 (some .int), Cond.constant RX4 166 (1000000)]
def wsL_readingsOf : List Cond := .codeWith yL_readingsOf cL_readingsOf 6 (some .int) [(0, 12, 15, 21)] :: ((wsL_readingsOf_r1 ++ (wsL_readingsOf_r2 ++ wsL_readingsOf_r3)) ++ wsX40 ++ wsX00 ++ wsX10 ++ (vx_atS RX4 83 "java/lang/IndexOutOfBoundsException" ["java/lang/RuntimeException", "java/lang/Exception"]).filter goodWord)
def wsL_has_r1 : List Cond := [Cond.classLink RL 21 "java/lang/IndexOutOfBoundsException", Cond.classLink RL 13 "java/lang/IllegalArgumentException", Cond.methodLink RL 44 yX4_has, Cond.instanceMethod yX4_has, Cond.selects RX4 yX4_has yX4_has, Cond.initialized RX4, Cond.code yX4_has cX4_has 6 (some .boolean), Cond.classLink RX4 79 "java/lang/IndexOutOfBoundsException", Cond.initialized "java/lang/IndexOutOfBoundsException", Cond.classLink RX4 52 "java/lang/IllegalArgumentException", Cond.initialized "java/lang/IllegalArgumentException", Cond.fieldLink RX4 30 "SentenceGym" "partSets" "LSentenceGym$PartSets;", Cond.fieldLink RX4 12 "SentenceGym" "grammar" "LSentenceGym$Grammar;", Cond.fieldLink RX4 16 "SentenceGym" "row" "[I", Cond.fieldLink RX4 20 "SentenceGym" "rowLength" "I", Cond.methodLink RX4 122 yX4_isNoSpan, Cond.instanceMethod yX4_isNoSpan, Cond.selects RX4 yX4_isNoSpan yX4_isNoSpan, Cond.code yX4_isNoSpan cX4_isNoSpan 3 (some .boolean), Cond.methodLink RX4 75 yX4_isOutside, Cond.static yX4_isOutside, Cond.code yX4_isOutside cX4_isOutside 2 (some .boolean), Cond.methodLink RX4 87 yX4_isNoDigitPair, Cond.static yX4_isNoDigitPair]
def wsL_has_r2 : List Cond := [Cond.code yX4_isNoDigitPair cX4_isNoDigitPair 1 (some .boolean), Cond.instanceMethod yX2_parse, Cond.initialized RX2, Cond.selects RX2 yX2_parse yX2_parse, Cond.code yX2_parse cX2_parse 6 none, Cond.methodLink RX2 23 yX2_putWord, Cond.instanceMethod yX2_putWord, Cond.selects RX2 yX2_putWord yX2_putWord, Cond.code yX2_putWord cX2_putWord 4 none, Cond.methodLink RX2 30 yX2_clearSpan, Cond.instanceMethod yX2_clearSpan, Cond.selects RX2 yX2_clearSpan yX2_clearSpan, Cond.code yX2_clearSpan cX2_clearSpan 5 none, Cond.fieldLink RX2 9 "SentenceGym$PartSets" "pairs" "[I", Cond.static yX4_spanOf, Cond.code yX4_spanOf cX4_spanOf 2 (some .int), Cond.methodLink RX2 34 yX2_allowWord, Cond.instanceMethod yX2_allowWord, Cond.selects RX2 yX2_allowWord yX2_allowWord, Cond.code yX2_allowWord cX2_allowWord 5 none, Cond.methodLink RX2 27 yX2_joinUpTo, Cond.instanceMethod yX2_joinUpTo, Cond.selects RX2 yX2_joinUpTo yX2_joinUpTo, Cond.code yX2_joinUpTo cX2_joinUpTo 9 none]
def wsL_has_r3 : List Cond := [Cond.methodLink RX2 49 yX2_join, Cond.instanceMethod yX2_join, Cond.selects RX2 yX2_join yX2_join, Cond.code yX2_join cX2_join 10 none, Cond.instanceMethod yX1_pairsMade, Cond.initialized RX1, Cond.selects RX1 yX1_pairsMade yX1_pairsMade, Cond.code yX1_pairsMade cX1_pairsMade 8 (some .int), Cond.fieldLink RX1 36 "SentenceGym$Grammar" "pairMade" "[[I", Cond.static yX4_hasPair, Cond.code yX4_hasPair cX4_hasPair 2 (some .boolean), Cond.instanceMethod yX2_pairsOf, Cond.selects RX2 yX2_pairsOf yX2_pairsOf, Cond.code yX2_pairsOf cX2_pairsOf 4 (some .int), Cond.methodLink RX4 67 yX4_pairOf, Cond.static yX4_pairOf, Cond.code yX4_pairOf cX4_pairOf 2 (some .int), Cond.methodLink RX4 136 yX4_hasPair]
def wsL_has : List Cond := .codeWith yL_has cL_has 7 (some .int) [(0, 21, 24, 21), (0, 21, 28, 13)] :: ((wsL_has_r1 ++ (wsL_has_r2 ++ wsL_has_r3)) ++ wsX40 ++ wsX10 ++ wsX20 ++ (vx_atS RX4 83 "java/lang/IndexOutOfBoundsException" ["java/lang/RuntimeException", "java/lang/Exception"]).filter goodWord ++ (vx_atS RX4 56 "java/lang/IllegalArgumentException" ["java/lang/RuntimeException", "java/lang/Exception"]).filter goodWord)
def wsL_sentences_r1 : List Cond := [Cond.classLink RL 13 "java/lang/IllegalArgumentException", Cond.methodLink RL 48 yX4_sentences, Cond.instanceMethod yX4_sentences, Cond.selects RX4 yX4_sentences yX4_sentences, Cond.initialized RX4, Cond.code yX4_sentences cX4_sentences 2 (some .int), Cond.classLink RX4 52 "java/lang/IllegalArgumentException", Cond.initialized "java/lang/IllegalArgumentException", Cond.methodLink RX4 142 yX4_isNoLength, Cond.static yX4_isNoLength, Cond.code yX4_isNoLength cX4_isNoLength 1 (some .boolean), Cond.methodLink RX4 147 yX4_rowsOfLength, Cond.instanceMethod yX4_rowsOfLength, Cond.selects RX4 yX4_rowsOfLength yX4_rowsOfLength, Cond.code yX4_rowsOfLength cX4_rowsOfLength 4 (some .int), Cond.fieldLink RX4 12 "SentenceGym" "grammar" "LSentenceGym$Grammar;", Cond.methodLink RX4 150 yX4_makeSentences, Cond.instanceMethod yX4_makeSentences, Cond.selects RX4 yX4_makeSentences yX4_makeSentences, Cond.code yX4_makeSentences cX4_makeSentences 8 (some .int), Cond.fieldLink RX4 30 "SentenceGym" "partSets" "LSentenceGym$PartSets;", Cond.fieldLink RX4 24 "SentenceGym" "trial" "[I", Cond.methodLink RX4 191 yX4_clearTrial, Cond.instanceMethod yX4_clearTrial]
def wsL_sentences_r2 : List Cond := [Cond.selects RX4 yX4_clearTrial yX4_clearTrial, Cond.code yX4_clearTrial cX4_clearTrial 2 none, Cond.instanceMethod yX2_putWord, Cond.initialized RX2, Cond.selects RX2 yX2_putWord yX2_putWord, Cond.code yX2_putWord cX2_putWord 4 none, Cond.methodLink RX2 30 yX2_clearSpan, Cond.instanceMethod yX2_clearSpan, Cond.selects RX2 yX2_clearSpan yX2_clearSpan, Cond.code yX2_clearSpan cX2_clearSpan 5 none, Cond.fieldLink RX2 9 "SentenceGym$PartSets" "pairs" "[I", Cond.static yX4_spanOf, Cond.code yX4_spanOf cX4_spanOf 2 (some .int), Cond.methodLink RX2 34 yX2_allowWord, Cond.instanceMethod yX2_allowWord, Cond.selects RX2 yX2_allowWord yX2_allowWord, Cond.code yX2_allowWord cX2_allowWord 5 none, Cond.instanceMethod yX2_joinUpTo, Cond.selects RX2 yX2_joinUpTo yX2_joinUpTo, Cond.code yX2_joinUpTo cX2_joinUpTo 9 none, Cond.methodLink RX2 49 yX2_join, Cond.instanceMethod yX2_join, Cond.selects RX2 yX2_join yX2_join, Cond.code yX2_join cX2_join 10 none]
def wsL_sentences_r3 : List Cond := [Cond.instanceMethod yX1_pairsMade, Cond.initialized RX1, Cond.selects RX1 yX1_pairsMade yX1_pairsMade, Cond.code yX1_pairsMade cX1_pairsMade 8 (some .int), Cond.fieldLink RX1 36 "SentenceGym$Grammar" "pairMade" "[[I", Cond.static yX4_hasPair, Cond.code yX4_hasPair cX4_hasPair 2 (some .boolean), Cond.instanceMethod yX2_holdsSentence, Cond.selects RX2 yX2_holdsSentence yX2_holdsSentence, Cond.code yX2_holdsSentence cX2_holdsSentence 2 (some .boolean), Cond.methodLink RX2 19 yX2_pairsOf, Cond.instanceMethod yX2_pairsOf, Cond.selects RX2 yX2_pairsOf yX2_pairsOf, Cond.code yX2_pairsOf cX2_pairsOf 4 (some .int), Cond.methodLink RX4 194 yX4_nextTrial, Cond.instanceMethod yX4_nextTrial, Cond.selects RX4 yX4_nextTrial yX4_nextTrial, Cond.code yX4_nextTrial cX4_nextTrial 3 (some .int)]
def wsL_sentences : List Cond := .codeWith yL_sentences cL_sentences 4 (some .int) [(0, 9, 12, 13)] :: ((wsL_sentences_r1 ++ (wsL_sentences_r2 ++ wsL_sentences_r3)) ++ wsX40 ++ wsX10 ++ wsX20 ++ (vx_atS RX4 56 "java/lang/IllegalArgumentException" ["java/lang/RuntimeException", "java/lang/Exception"]).filter goodWord)
def wsL_sentence_r1 : List Cond := [Cond.classLink RL 13 "java/lang/IllegalArgumentException", Cond.methodLink RL 51 yX4_sentence, Cond.instanceMethod yX4_sentence, Cond.selects RX4 yX4_sentence yX4_sentence, Cond.initialized RX4, Cond.code yX4_sentence cX4_sentence 3 (some .int), Cond.classLink RX4 52 "java/lang/IllegalArgumentException", Cond.initialized "java/lang/IllegalArgumentException", Cond.methodLink RX4 142 yX4_isNoLength, Cond.static yX4_isNoLength, Cond.code yX4_isNoLength cX4_isNoLength 1 (some .boolean), Cond.methodLink RX4 150 yX4_makeSentences, Cond.instanceMethod yX4_makeSentences, Cond.selects RX4 yX4_makeSentences yX4_makeSentences, Cond.code yX4_makeSentences cX4_makeSentences 8 (some .int), Cond.fieldLink RX4 30 "SentenceGym" "partSets" "LSentenceGym$PartSets;", Cond.fieldLink RX4 12 "SentenceGym" "grammar" "LSentenceGym$Grammar;", Cond.fieldLink RX4 24 "SentenceGym" "trial" "[I", Cond.methodLink RX4 147 yX4_rowsOfLength, Cond.instanceMethod yX4_rowsOfLength, Cond.selects RX4 yX4_rowsOfLength yX4_rowsOfLength, Cond.code yX4_rowsOfLength cX4_rowsOfLength 4 (some .int), Cond.methodLink RX4 191 yX4_clearTrial, Cond.instanceMethod yX4_clearTrial]
def wsL_sentence_r2 : List Cond := [Cond.selects RX4 yX4_clearTrial yX4_clearTrial, Cond.code yX4_clearTrial cX4_clearTrial 2 none, Cond.instanceMethod yX2_putWord, Cond.initialized RX2, Cond.selects RX2 yX2_putWord yX2_putWord, Cond.code yX2_putWord cX2_putWord 4 none, Cond.methodLink RX2 30 yX2_clearSpan, Cond.instanceMethod yX2_clearSpan, Cond.selects RX2 yX2_clearSpan yX2_clearSpan, Cond.code yX2_clearSpan cX2_clearSpan 5 none, Cond.fieldLink RX2 9 "SentenceGym$PartSets" "pairs" "[I", Cond.static yX4_spanOf, Cond.code yX4_spanOf cX4_spanOf 2 (some .int), Cond.methodLink RX2 34 yX2_allowWord, Cond.instanceMethod yX2_allowWord, Cond.selects RX2 yX2_allowWord yX2_allowWord, Cond.code yX2_allowWord cX2_allowWord 5 none, Cond.instanceMethod yX2_joinUpTo, Cond.selects RX2 yX2_joinUpTo yX2_joinUpTo, Cond.code yX2_joinUpTo cX2_joinUpTo 9 none, Cond.methodLink RX2 49 yX2_join, Cond.instanceMethod yX2_join, Cond.selects RX2 yX2_join yX2_join, Cond.code yX2_join cX2_join 10 none]
def wsL_sentence_r3 : List Cond := [Cond.instanceMethod yX1_pairsMade, Cond.initialized RX1, Cond.selects RX1 yX1_pairsMade yX1_pairsMade, Cond.code yX1_pairsMade cX1_pairsMade 8 (some .int), Cond.fieldLink RX1 36 "SentenceGym$Grammar" "pairMade" "[[I", Cond.static yX4_hasPair, Cond.code yX4_hasPair cX4_hasPair 2 (some .boolean), Cond.instanceMethod yX2_holdsSentence, Cond.selects RX2 yX2_holdsSentence yX2_holdsSentence, Cond.code yX2_holdsSentence cX2_holdsSentence 2 (some .boolean), Cond.methodLink RX2 19 yX2_pairsOf, Cond.instanceMethod yX2_pairsOf, Cond.selects RX2 yX2_pairsOf yX2_pairsOf, Cond.code yX2_pairsOf cX2_pairsOf 4 (some .int), Cond.methodLink RX4 194 yX4_nextTrial, Cond.instanceMethod yX4_nextTrial, Cond.selects RX4 yX4_nextTrial yX4_nextTrial, Cond.code yX4_nextTrial cX4_nextTrial 3 (some .int), Cond.methodLink RX4 155 yX4_trialAsDigits, Cond.instanceMethod yX4_trialAsDigits, Cond.selects RX4 yX4_trialAsDigits yX4_trialAsDigits, Cond.code yX4_trialAsDigits cX4_trialAsDigits 4 (some .int)]
def wsL_sentence : List Cond := .codeWith yL_sentence cL_sentence 5 (some .int) [(0, 10, 13, 13)] :: ((wsL_sentence_r1 ++ (wsL_sentence_r2 ++ wsL_sentence_r3)) ++ wsX40 ++ wsX10 ++ wsX20 ++ (vx_atS RX4 56 "java/lang/IllegalArgumentException" ["java/lang/RuntimeException", "java/lang/Exception"]).filter goodWord)
def wsL_share_r1 : List Cond := [Cond.classLink RL 13 "java/lang/IllegalArgumentException", Cond.methodLink RL 54 yX4_share, Cond.instanceMethod yX4_share, Cond.selects RX4 yX4_share yX4_share, Cond.initialized RX4, Cond.code yX4_share cX4_share 3 (some .float), Cond.classLink RX4 52 "java/lang/IllegalArgumentException", Cond.initialized "java/lang/IllegalArgumentException", Cond.methodLink RX4 142 yX4_isNoLength, Cond.static yX4_isNoLength, Cond.code yX4_isNoLength cX4_isNoLength 1 (some .boolean), Cond.methodLink RX4 147 yX4_rowsOfLength, Cond.instanceMethod yX4_rowsOfLength, Cond.selects RX4 yX4_rowsOfLength yX4_rowsOfLength, Cond.code yX4_rowsOfLength cX4_rowsOfLength 4 (some .int), Cond.fieldLink RX4 12 "SentenceGym" "grammar" "LSentenceGym$Grammar;", Cond.methodLink RX4 150 yX4_makeSentences, Cond.instanceMethod yX4_makeSentences, Cond.selects RX4 yX4_makeSentences yX4_makeSentences, Cond.code yX4_makeSentences cX4_makeSentences 8 (some .int), Cond.fieldLink RX4 30 "SentenceGym" "partSets" "LSentenceGym$PartSets;", Cond.fieldLink RX4 24 "SentenceGym" "trial" "[I", Cond.methodLink RX4 191 yX4_clearTrial, Cond.instanceMethod yX4_clearTrial]
def wsL_share_r2 : List Cond := [Cond.selects RX4 yX4_clearTrial yX4_clearTrial, Cond.code yX4_clearTrial cX4_clearTrial 2 none, Cond.instanceMethod yX2_putWord, Cond.initialized RX2, Cond.selects RX2 yX2_putWord yX2_putWord, Cond.code yX2_putWord cX2_putWord 4 none, Cond.methodLink RX2 30 yX2_clearSpan, Cond.instanceMethod yX2_clearSpan, Cond.selects RX2 yX2_clearSpan yX2_clearSpan, Cond.code yX2_clearSpan cX2_clearSpan 5 none, Cond.fieldLink RX2 9 "SentenceGym$PartSets" "pairs" "[I", Cond.static yX4_spanOf, Cond.code yX4_spanOf cX4_spanOf 2 (some .int), Cond.methodLink RX2 34 yX2_allowWord, Cond.instanceMethod yX2_allowWord, Cond.selects RX2 yX2_allowWord yX2_allowWord, Cond.code yX2_allowWord cX2_allowWord 5 none, Cond.instanceMethod yX2_joinUpTo, Cond.selects RX2 yX2_joinUpTo yX2_joinUpTo, Cond.code yX2_joinUpTo cX2_joinUpTo 9 none, Cond.methodLink RX2 49 yX2_join, Cond.instanceMethod yX2_join, Cond.selects RX2 yX2_join yX2_join, Cond.code yX2_join cX2_join 10 none]
def wsL_share_r3 : List Cond := [Cond.instanceMethod yX1_pairsMade, Cond.initialized RX1, Cond.selects RX1 yX1_pairsMade yX1_pairsMade, Cond.code yX1_pairsMade cX1_pairsMade 8 (some .int), Cond.fieldLink RX1 36 "SentenceGym$Grammar" "pairMade" "[[I", Cond.static yX4_hasPair, Cond.code yX4_hasPair cX4_hasPair 2 (some .boolean), Cond.instanceMethod yX2_holdsSentence, Cond.selects RX2 yX2_holdsSentence yX2_holdsSentence, Cond.code yX2_holdsSentence cX2_holdsSentence 2 (some .boolean), Cond.methodLink RX2 19 yX2_pairsOf, Cond.instanceMethod yX2_pairsOf, Cond.selects RX2 yX2_pairsOf yX2_pairsOf, Cond.code yX2_pairsOf cX2_pairsOf 4 (some .int), Cond.methodLink RX4 194 yX4_nextTrial, Cond.instanceMethod yX4_nextTrial, Cond.selects RX4 yX4_nextTrial yX4_nextTrial, Cond.code yX4_nextTrial cX4_nextTrial 3 (some .int)]
def wsL_share : List Cond := .codeWith yL_share cL_share 4 (some .int) [(0, 9, 12, 13)] :: ((wsL_share_r1 ++ (wsL_share_r2 ++ wsL_share_r3)) ++ wsX40 ++ wsX10 ++ wsX20 ++ (vx_atS RX4 56 "java/lang/IllegalArgumentException" ["java/lang/RuntimeException", "java/lang/Exception"]).filter goodWord)
def wsL_spoil_r1 : List Cond := [Cond.classLink RL 21 "java/lang/IndexOutOfBoundsException", Cond.methodLink RL 58 yX4_spoil, Cond.instanceMethod yX4_spoil, Cond.selects RX4 yX4_spoil yX4_spoil, Cond.initialized RX4, Cond.code yX4_spoil cX4_spoil 4 (some .int), Cond.classLink RX4 79 "java/lang/IndexOutOfBoundsException", Cond.initialized "java/lang/IndexOutOfBoundsException", Cond.fieldLink RX4 20 "SentenceGym" "rowLength" "I", Cond.fieldLink RX4 12 "SentenceGym" "grammar" "LSentenceGym$Grammar;", Cond.fieldLink RX4 16 "SentenceGym" "row" "[I", Cond.methodLink RX4 75 yX4_isOutside, Cond.static yX4_isOutside, Cond.code yX4_isOutside cX4_isOutside 2 (some .boolean), Cond.methodLink RX4 158 yX4_isSentenceFreeAt, Cond.instanceMethod yX4_isSentenceFreeAt, Cond.selects RX4 yX4_isSentenceFreeAt yX4_isSentenceFreeAt, Cond.code yX4_isSentenceFreeAt cX4_isSentenceFreeAt 4 (some .boolean), Cond.fieldLink RX4 30 "SentenceGym" "partSets" "LSentenceGym$PartSets;", Cond.instanceMethod yX2_putAnyWord, Cond.initialized RX2, Cond.selects RX2 yX2_putAnyWord yX2_putAnyWord, Cond.code yX2_putAnyWord cX2_putAnyWord 4 none, Cond.methodLink RX2 30 yX2_clearSpan]
def wsL_spoil_r2 : List Cond := [Cond.instanceMethod yX2_clearSpan, Cond.selects RX2 yX2_clearSpan yX2_clearSpan, Cond.code yX2_clearSpan cX2_clearSpan 5 none, Cond.fieldLink RX2 9 "SentenceGym$PartSets" "pairs" "[I", Cond.static yX4_spanOf, Cond.code yX4_spanOf cX4_spanOf 2 (some .int), Cond.methodLink RX2 34 yX2_allowWord, Cond.instanceMethod yX2_allowWord, Cond.selects RX2 yX2_allowWord yX2_allowWord, Cond.code yX2_allowWord cX2_allowWord 5 none, Cond.instanceMethod yX2_putWord, Cond.selects RX2 yX2_putWord yX2_putWord, Cond.code yX2_putWord cX2_putWord 4 none, Cond.instanceMethod yX2_joinUpTo, Cond.selects RX2 yX2_joinUpTo yX2_joinUpTo, Cond.code yX2_joinUpTo cX2_joinUpTo 9 none, Cond.methodLink RX2 49 yX2_join, Cond.instanceMethod yX2_join, Cond.selects RX2 yX2_join yX2_join, Cond.code yX2_join cX2_join 10 none, Cond.instanceMethod yX1_pairsMade, Cond.initialized RX1, Cond.selects RX1 yX1_pairsMade yX1_pairsMade, Cond.code yX1_pairsMade cX1_pairsMade 8 (some .int)]
def wsL_spoil_r3 : List Cond := [Cond.fieldLink RX1 36 "SentenceGym$Grammar" "pairMade" "[[I", Cond.static yX4_hasPair, Cond.code yX4_hasPair cX4_hasPair 2 (some .boolean), Cond.instanceMethod yX2_holdsSentence, Cond.selects RX2 yX2_holdsSentence yX2_holdsSentence, Cond.code yX2_holdsSentence cX2_holdsSentence 2 (some .boolean), Cond.methodLink RX2 19 yX2_pairsOf, Cond.instanceMethod yX2_pairsOf, Cond.selects RX2 yX2_pairsOf yX2_pairsOf, Cond.code yX2_pairsOf cX2_pairsOf 4 (some .int), Cond.methodLink RX4 161 yX4_isSentenceWith, Cond.instanceMethod yX4_isSentenceWith, Cond.selects RX4 yX4_isSentenceWith yX4_isSentenceWith, Cond.code yX4_isSentenceWith cX4_isSentenceWith 3 (some .boolean), Cond.fieldLink RX4 24 "SentenceGym" "trial" "[I", Cond.methodLink RX4 174 arraycopyName, Cond.native arraycopyName, Cond.static arraycopyName, Cond.initialized "java/lang/System", Cond.instanceMethod yX2_parse, Cond.selects RX2 yX2_parse yX2_parse, Cond.code yX2_parse cX2_parse 6 none, Cond.methodLink RX2 23 yX2_putWord, Cond.methodLink RX2 27 yX2_joinUpTo]
def wsL_spoil : List Cond := .codeWith yL_spoil cL_spoil 4 (some .int) [(0, 9, 12, 21)] :: ((wsL_spoil_r1 ++ (wsL_spoil_r2 ++ wsL_spoil_r3)) ++ wsX40 ++ wsX10 ++ wsX20 ++ (vx_atS RX4 83 "java/lang/IndexOutOfBoundsException" ["java/lang/RuntimeException", "java/lang/Exception"]).filter goodWord)
def wsL_correction_r1 : List Cond := [Cond.classLink RL 21 "java/lang/IndexOutOfBoundsException", Cond.methodLink RL 61 yX4_correction, Cond.instanceMethod yX4_correction, Cond.selects RX4 yX4_correction yX4_correction, Cond.initialized RX4, Cond.code yX4_correction cX4_correction 5 (some .int), Cond.classLink RX4 79 "java/lang/IndexOutOfBoundsException", Cond.initialized "java/lang/IndexOutOfBoundsException", Cond.fieldLink RX4 20 "SentenceGym" "rowLength" "I", Cond.fieldLink RX4 12 "SentenceGym" "grammar" "LSentenceGym$Grammar;", Cond.fieldLink RX4 16 "SentenceGym" "row" "[I", Cond.methodLink RX4 161 yX4_isSentenceWith, Cond.instanceMethod yX4_isSentenceWith, Cond.selects RX4 yX4_isSentenceWith yX4_isSentenceWith, Cond.code yX4_isSentenceWith cX4_isSentenceWith 3 (some .boolean), Cond.fieldLink RX4 24 "SentenceGym" "trial" "[I", Cond.methodLink RX4 174 arraycopyName, Cond.native arraycopyName, Cond.static arraycopyName, Cond.initialized "java/lang/System", Cond.fieldLink RX4 30 "SentenceGym" "partSets" "LSentenceGym$PartSets;", Cond.instanceMethod yX2_parse, Cond.initialized RX2, Cond.selects RX2 yX2_parse yX2_parse]
def wsL_correction_r2 : List Cond := [Cond.code yX2_parse cX2_parse 6 none, Cond.methodLink RX2 23 yX2_putWord, Cond.instanceMethod yX2_putWord, Cond.selects RX2 yX2_putWord yX2_putWord, Cond.code yX2_putWord cX2_putWord 4 none, Cond.methodLink RX2 30 yX2_clearSpan, Cond.instanceMethod yX2_clearSpan, Cond.selects RX2 yX2_clearSpan yX2_clearSpan, Cond.code yX2_clearSpan cX2_clearSpan 5 none, Cond.fieldLink RX2 9 "SentenceGym$PartSets" "pairs" "[I", Cond.static yX4_spanOf, Cond.code yX4_spanOf cX4_spanOf 2 (some .int), Cond.methodLink RX2 34 yX2_allowWord, Cond.instanceMethod yX2_allowWord, Cond.selects RX2 yX2_allowWord yX2_allowWord, Cond.code yX2_allowWord cX2_allowWord 5 none, Cond.methodLink RX2 27 yX2_joinUpTo, Cond.instanceMethod yX2_joinUpTo, Cond.selects RX2 yX2_joinUpTo yX2_joinUpTo, Cond.code yX2_joinUpTo cX2_joinUpTo 9 none, Cond.methodLink RX2 49 yX2_join, Cond.instanceMethod yX2_join, Cond.selects RX2 yX2_join yX2_join, Cond.code yX2_join cX2_join 10 none]
def wsL_correction_r3 : List Cond := [Cond.instanceMethod yX1_pairsMade, Cond.initialized RX1, Cond.selects RX1 yX1_pairsMade yX1_pairsMade, Cond.code yX1_pairsMade cX1_pairsMade 8 (some .int), Cond.fieldLink RX1 36 "SentenceGym$Grammar" "pairMade" "[[I", Cond.static yX4_hasPair, Cond.code yX4_hasPair cX4_hasPair 2 (some .boolean), Cond.instanceMethod yX2_holdsSentence, Cond.selects RX2 yX2_holdsSentence yX2_holdsSentence, Cond.code yX2_holdsSentence cX2_holdsSentence 2 (some .boolean), Cond.methodLink RX2 19 yX2_pairsOf, Cond.instanceMethod yX2_pairsOf, Cond.selects RX2 yX2_pairsOf yX2_pairsOf, Cond.code yX2_pairsOf cX2_pairsOf 4 (some .int)]
def wsL_correction : List Cond := .codeWith yL_correction cL_correction 4 (some .int) [(0, 9, 12, 21)] :: ((wsL_correction_r1 ++ (wsL_correction_r2 ++ wsL_correction_r3)) ++ wsX40 ++ wsX10 ++ wsX20 ++ (vx_atS RX4 83 "java/lang/IndexOutOfBoundsException" ["java/lang/RuntimeException", "java/lang/Exception"]).filter goodWord)
def wsL_law0_r1 : List Cond := [Cond.classLink RL 8 RX4, Cond.instantiable RX4 7, Cond.initialized RX4, Cond.classLink RL 65 RX5, Cond.instantiable RX5 15, Cond.initialized RX5, Cond.arrayClass .long, Cond.arrayClass .double, Cond.methodLink RL 64 yX4_init, Cond.instanceMethod yX4_init, Cond.code yX4_init cX4_init 1 none, Cond.methodLink RX4 3 objectInit, Cond.instanceMethod objectInit, Cond.code objectInit ⟨#[0xb1]⟩ 1 none, Cond.classLink RX4 9 RX1, Cond.instantiable RX1 8, Cond.initialized RX1, Cond.fieldLink RX4 12 "SentenceGym" "grammar" "LSentenceGym$Grammar;", Cond.arrayClass .int, Cond.fieldLink RX4 16 "SentenceGym" "row" "[I", Cond.fieldLink RX4 20 "SentenceGym" "rowLength" "I", Cond.fieldLink RX4 24 "SentenceGym" "trial" "[I", Cond.classLink RX4 27 RX2, Cond.instantiable RX2 1]
def wsL_law0_r2 : List Cond := [Cond.initialized RX2, Cond.fieldLink RX4 30 "SentenceGym" "partSets" "LSentenceGym$PartSets;", Cond.classLink RX4 34 RX0, Cond.instantiable RX0 1, Cond.initialized RX0, Cond.fieldLink RX4 37 "SentenceGym" "countChart" "LSentenceGym$CountChart;", Cond.classLink RX4 41 RX3, Cond.instantiable RX3 1, Cond.initialized RX3, Cond.fieldLink RX4 44 "SentenceGym" "plainCounter" "LSentenceGym$PlainCounter;", Cond.instanceMethod yX1_init, Cond.code yX1_init cX1_init 1 none, Cond.methodLink RX1 3 objectInit, Cond.fieldLink RX1 9 "SentenceGym$Grammar" "words" "I", Cond.fieldLink RX1 15 "SentenceGym$Grammar" "wordCategory" "[I", Cond.fieldLink RX1 19 "SentenceGym$Grammar" "wordPair" "[I", Cond.fieldLink RX1 22 "SentenceGym$Grammar" "rules" "I", Cond.fieldLink RX1 25 "SentenceGym$Grammar" "made" "[I", Cond.fieldLink RX1 28 "SentenceGym$Grammar" "first" "[I", Cond.fieldLink RX1 31 "SentenceGym$Grammar" "second" "[I", Cond.classLink RX1 34 "[[I", Cond.fieldLink RX1 36 "SentenceGym$Grammar" "pairMade" "[[I", Cond.instanceMethod yX2_init, Cond.code yX2_init cX2_init 1 none]
def wsL_law0_r3 : List Cond := [Cond.methodLink RX2 3 objectInit, Cond.fieldLink RX2 9 "SentenceGym$PartSets" "pairs" "[I", Cond.instanceMethod yX0_init, Cond.code yX0_init cX0_init 1 none, Cond.methodLink RX0 3 objectInit, Cond.classLink RX0 9 "[[I", Cond.fieldLink RX0 11 "SentenceGym$CountChart" "counts" "[[I", Cond.instanceMethod yX3_init, Cond.code yX3_init cX3_init 1 none, Cond.methodLink RX3 3 objectInit, Cond.classLink RX3 9 "[[I", Cond.fieldLink RX3 11 "SentenceGym$PlainCounter" "counts" "[[I", Cond.methodLink RL 67 yX5_init, Cond.instanceMethod yX5_init, Cond.code yX5_init cX5_init 1 none, Cond.methodLink RX5 1 objectInit, Cond.fieldLink RX5 7 "SentenceGymModel" "category" "[I", Cond.fieldLink RX5 13 "SentenceGymModel" "value" "[I", Cond.fieldLink RX5 16 "SentenceGymModel" "made" "[I", Cond.fieldLink RX5 19 "SentenceGymModel" "first" "[I", Cond.fieldLink RX5 22 "SentenceGymModel" "second" "[I", Cond.fieldLink RX5 25 "SentenceGymModel" "modes" "[I", Cond.fieldLink RX5 28 "SentenceGymModel" "row" "[I", Cond.fieldLink RX5 31 "SentenceGymModel" "line" "[I"]
def wsL_law0_r4 : List Cond := [Cond.fieldLink RX5 34 "SentenceGymModel" "set" "[I", Cond.fieldLink RX5 37 "SentenceGymModel" "many" "[J", Cond.methodLink RL 68 yL_addWord, Cond.static yL_addWord, Cond.initialized RL, Cond.codeWith yL_addWord cL_addWord 6 (some .int) [(0, 12, 15, 13), (0, 12, 19, 15)], Cond.classLink RL 13 "java/lang/IllegalArgumentException", Cond.classLink RL 15 "java/lang/IllegalStateException", Cond.methodLink RL 7 yX4_addWord, Cond.instanceMethod yX4_addWord, Cond.selects RX4 yX4_addWord yX4_addWord, Cond.code yX4_addWord cX4_addWord 5 (some .int), Cond.classLink RX4 52 "java/lang/IllegalArgumentException", Cond.initialized "java/lang/IllegalArgumentException", Cond.classLink RX4 62 "java/lang/IllegalStateException", Cond.initialized "java/lang/IllegalStateException", Cond.methodLink RX4 48 yX4_isNoKind, Cond.static yX4_isNoKind, Cond.code yX4_isNoKind cX4_isNoKind 3 (some .boolean), Cond.methodLink RX4 75 yX4_isOutside, Cond.static yX4_isOutside, Cond.code yX4_isOutside cX4_isOutside 2 (some .boolean), Cond.methodLink RX4 67 yX4_pairOf, Cond.static yX4_pairOf]
def wsL_law0_r5 : List Cond := [Cond.code yX4_pairOf cX4_pairOf 2 (some .int), Cond.instanceMethod yX1_defineWord, Cond.selects RX1 yX1_defineWord yX1_defineWord, Cond.code yX1_defineWord cX1_defineWord 4 none, Cond.methodLink RL 73 yX5_addWord, Cond.instanceMethod yX5_addWord, Cond.selects RX5 yX5_addWord yX5_addWord, Cond.code yX5_addWord cX5_addWord 4 (some .int), Cond.fieldLink RX5 45 "SentenceGymModel" "words" "I", Cond.methodLink RX5 52 yX5_areValues, Cond.static yX5_areValues, Cond.code yX5_areValues cX5_areValues 3 (some .boolean), Cond.methodLink RX5 48 yX5_isWithin, Cond.static yX5_isWithin, Cond.code yX5_isWithin cX5_isWithin 3 (some .boolean), Cond.methodLink RX5 55 yX5_goes, Cond.instanceMethod yX5_goes, Cond.selects RX5 yX5_goes yX5_goes, Cond.code yX5_goes cX5_goes 3 (some .boolean), Cond.fieldLink RX5 41 "SentenceGymModel" "thrown" "I", Cond.methodLink RL 74 yX5_thrown, Cond.instanceMethod yX5_thrown, Cond.selects RX5 yX5_thrown yX5_thrown, Cond.code yX5_thrown cX5_thrown 1 (some .int)]
def wsL_law0_r6 : List Cond := [Cond.methodLink RL 77 yL_setWord, Cond.static yL_setWord, Cond.codeWith yL_setWord cL_setWord 7 (some .int) [(0, 14, 17, 21), (0, 14, 21, 13)], Cond.classLink RL 21 "java/lang/IndexOutOfBoundsException", Cond.methodLink RL 17 yX4_setWord, Cond.instanceMethod yX4_setWord, Cond.selects RX4 yX4_setWord yX4_setWord, Cond.code yX4_setWord cX4_setWord 6 (some .int), Cond.classLink RX4 79 "java/lang/IndexOutOfBoundsException", Cond.initialized "java/lang/IndexOutOfBoundsException", Cond.methodLink RL 80 yX5_setWord, Cond.instanceMethod yX5_setWord, Cond.selects RX5 yX5_setWord yX5_setWord, Cond.code yX5_setWord cX5_setWord 6 (some .int), Cond.methodLink RX5 59 yX5_isWord, Cond.instanceMethod yX5_isWord, Cond.selects RX5 yX5_isWord yX5_isWord, Cond.code yX5_isWord cX5_isWord 2 (some .boolean), Cond.methodLink RL 81 yL_addRule, Cond.static yL_addRule, Cond.codeWith yL_addRule cL_addRule 7 (some .int) [(0, 14, 17, 13), (0, 14, 21, 15)], Cond.methodLink RL 23 yX4_addRule, Cond.instanceMethod yX4_addRule, Cond.selects RX4 yX4_addRule yX4_addRule]
def wsL_law0_r7 : List Cond := [Cond.code yX4_addRule cX4_addRule 6 (some .int), Cond.methodLink RX4 87 yX4_isNoDigitPair, Cond.static yX4_isNoDigitPair, Cond.code yX4_isNoDigitPair cX4_isNoDigitPair 1 (some .boolean), Cond.instanceMethod yX1_defineRule, Cond.selects RX1 yX1_defineRule yX1_defineRule, Cond.code yX1_defineRule cX1_defineRule 7 none, Cond.methodLink RX1 39 yX1_joinedPair, Cond.static yX1_joinedPair, Cond.code yX1_joinedPair cX1_joinedPair 5 (some .int), Cond.methodLink RX1 43 yX1_joinedValue, Cond.static yX1_joinedValue, Cond.code yX1_joinedValue cX1_joinedValue 3 (some .int), Cond.methodLink RL 83 yX5_addRule, Cond.instanceMethod yX5_addRule, Cond.selects RX5 yX5_addRule yX5_addRule, Cond.code yX5_addRule cX5_addRule 6 (some .int), Cond.fieldLink RX5 66 "SentenceGymModel" "rules" "I", Cond.methodLink RX5 63 yX5_isPair, Cond.static yX5_isPair, Cond.code yX5_isPair cX5_isPair 1 (some .boolean), Cond.methodLink RL 84 yL_dropRule, Cond.static yL_dropRule, Cond.codeWith yL_dropRule cL_dropRule 3 (some .int) [(0, 8, 11, 15)]]
def wsL_law0_r8 : List Cond := [Cond.methodLink RL 26 yX4_dropRule, Cond.instanceMethod yX4_dropRule, Cond.selects RX4 yX4_dropRule yX4_dropRule, Cond.code yX4_dropRule cX4_dropRule 1 (some .int), Cond.methodLink RL 87 yX5_dropRule, Cond.instanceMethod yX5_dropRule, Cond.selects RX5 yX5_dropRule yX5_dropRule, Cond.code yX5_dropRule cX5_dropRule 1 (some .int), Cond.methodLink RL 88 yL_say, Cond.static yL_say, Cond.codeWith yL_say cL_say 4 (some .int) [(0, 9, 12, 21), (0, 9, 15, 15)], Cond.methodLink RL 30 yX4_say, Cond.instanceMethod yX4_say, Cond.selects RX4 yX4_say yX4_say, Cond.code yX4_say cX4_say 2 (some .int), Cond.methodLink RL 91 yX5_say, Cond.instanceMethod yX5_say, Cond.selects RX5 yX5_say yX5_say, Cond.code yX5_say cX5_say 2 (some .int), Cond.fieldLink RX5 69 "SentenceGymModel" "said" "I", Cond.methodLink RL 92 yL_change, Cond.static yL_change, Cond.codeWith yL_change cL_change 5 (some .int) [(0, 10, 13, 21)], Cond.methodLink RL 34 yX4_change]
def wsL_law0_r9 : List Cond := [Cond.instanceMethod yX4_change, Cond.selects RX4 yX4_change yX4_change, Cond.code yX4_change cX4_change 4 (some .int), Cond.methodLink RL 95 yX5_change, Cond.instanceMethod yX5_change, Cond.selects RX5 yX5_change yX5_change, Cond.code yX5_change cX5_change 4 (some .int), Cond.methodLink RX5 72 yX5_isPlace, Cond.instanceMethod yX5_isPlace, Cond.selects RX5 yX5_isPlace yX5_isPlace, Cond.code yX5_isPlace cX5_isPlace 2 (some .boolean), Cond.methodLink RL 96 yX4_hush, Cond.instanceMethod yX4_hush, Cond.selects RX4 yX4_hush yX4_hush, Cond.code yX4_hush cX4_hush 2 (some .int), Cond.methodLink RL 99 yX5_hush, Cond.instanceMethod yX5_hush, Cond.selects RX5 yX5_hush yX5_hush, Cond.code yX5_hush cX5_hush 2 (some .int), Cond.methodLink RL 100 yX4_said, Cond.instanceMethod yX4_said, Cond.selects RX4 yX4_said yX4_said, Cond.code yX4_said cX4_said 1 (some .int), Cond.methodLink RL 103 yX5_said]
def wsL_law0_r10 : List Cond := [Cond.instanceMethod yX5_said, Cond.selects RX5 yX5_said yX5_said, Cond.code yX5_said cX5_said 1 (some .int), Cond.methodLink RL 104 yL_wordAt, Cond.static yL_wordAt, Cond.codeWith yL_wordAt cL_wordAt 4 (some .int) [(0, 9, 12, 21)], Cond.methodLink RL 38 yX4_wordAt, Cond.instanceMethod yX4_wordAt, Cond.selects RX4 yX4_wordAt yX4_wordAt, Cond.code yX4_wordAt cX4_wordAt 2 (some .int), Cond.methodLink RL 106 yX5_wordAt, Cond.instanceMethod yX5_wordAt, Cond.selects RX5 yX5_wordAt yX5_wordAt, Cond.code yX5_wordAt cX5_wordAt 2 (some .int), Cond.methodLink RL 107 yX4_readings, Cond.instanceMethod yX4_readings, Cond.selects RX4 yX4_readings yX4_readings, Cond.code yX4_readings cX4_readings 1 (some .int), Cond.methodLink RX4 110 yX4_countReadings, Cond.instanceMethod yX4_countReadings, Cond.selects RX4 yX4_countReadings yX4_countReadings, Cond.code yX4_countReadings cX4_countReadings 4 (some .int), Cond.instanceMethod yX0_fill, Cond.selects RX0 yX0_fill yX0_fill]
def wsL_law0_r11 : List Cond := [Cond.code yX0_fill cX0_fill 6 none, Cond.methodLink RX0 24 yX0_fillSpan, Cond.instanceMethod yX0_fillSpan, Cond.selects RX0 yX0_fillSpan yX0_fillSpan, Cond.code yX0_fillSpan cX0_fillSpan 9 none, Cond.static yX4_spanOf, Cond.code yX4_spanOf cX4_spanOf 2 (some .int), Cond.methodLink RX0 28 yJ7_fill_53178, Cond.static yJ7_fill_53178, Cond.initialized RJ7, Cond.code yJ7_fill_53178 cJ7_fill_53178 4 none, Cond.instanceMethod yX1_countWord, Cond.selects RX1 yX1_countWord yX1_countWord, Cond.code yX1_countWord cX1_countWord 3 none, Cond.instanceMethod yX1_addJoined, Cond.selects RX1 yX1_addJoined yX1_addJoined, Cond.code yX1_addJoined cX1_addJoined 7 none, Cond.methodLink RX1 54 yX1_addJoinedWith, Cond.instanceMethod yX1_addJoinedWith, Cond.selects RX1 yX1_addJoinedWith yX1_addJoinedWith, Cond.code yX1_addJoinedWith cX1_addJoinedWith 9 none, Cond.instanceMethod yX0_countSpan, Cond.selects RX0 yX0_countSpan yX0_countSpan, Cond.code yX0_countSpan cX0_countSpan 4 (some .int)]
def wsL_law0_r12 : List Cond := [Cond.static yX4_countOf, Cond.code yX4_countOf cX4_countOf 4 (some .int), Cond.methodLink RX4 118 yX4_told, Cond.static yX4_told, Cond.code yX4_told cX4_told 1 (some .int), Cond.constant RX4 166 (1000000), Cond.methodLink RL 110 yX5_readings, Cond.instanceMethod yX5_readings, Cond.selects RX5 yX5_readings yX5_readings, Cond.code yX5_readings cX5_readings 1 (some .int), Cond.methodLink RX5 109 yX5_countOf, Cond.instanceMethod yX5_countOf, Cond.selects RX5 yX5_countOf yX5_countOf, Cond.code yX5_countOf cX5_countOf 7 (some .int), Cond.constantLong RX5 106 (1000000), Cond.constant RX5 108 (1000000), Cond.methodLink RX5 100 yX5_takes, Cond.instanceMethod yX5_takes, Cond.selects RX5 yX5_takes yX5_takes, Cond.code yX5_takes cX5_takes 2 none, Cond.fieldLink RX5 75 "SentenceGymModel" "length" "I", Cond.methodLink RX5 103 yX5_counts, Cond.instanceMethod yX5_counts, Cond.selects RX5 yX5_counts yX5_counts]
def wsL_law0_r13 : List Cond := [Cond.code yX5_counts cX5_counts 6 none, Cond.methodLink RX5 82 yX5_span, Cond.static yX5_span, Cond.code yX5_span cX5_span 2 (some .int), Cond.methodLink RX5 96 yX5_adds, Cond.instanceMethod yX5_adds, Cond.selects RX5 yX5_adds yX5_adds, Cond.code yX5_adds cX5_adds 8 none, Cond.methodLink RX5 89 yX5_makesBoth, Cond.instanceMethod yX5_makesBoth, Cond.selects RX5 yX5_makesBoth yX5_makesBoth, Cond.code yX5_makesBoth cX5_makesBoth 6 (some .int), Cond.methodLink RX5 78 yX5_makes, Cond.static yX5_makes, Cond.code yX5_makes cX5_makes 3 (some .int), Cond.methodLink RL 111 yX4_readingsPlainly, Cond.instanceMethod yX4_readingsPlainly, Cond.selects RX4 yX4_readingsPlainly yX4_readingsPlainly, Cond.code yX4_readingsPlainly cX4_readingsPlainly 1 (some .int), Cond.instanceMethod yX3_countRow, Cond.selects RX3 yX3_countRow yX3_countRow, Cond.code yX3_countRow cX3_countRow 5 (some .int), Cond.methodLink RX3 16 yX3_count, Cond.instanceMethod yX3_count]
def wsL_law0_r14 : List Cond := [Cond.selects RX3 yX3_count yX3_count, Cond.code yX3_count cX3_count 10 none, Cond.methodLink RX3 24 yJ7_fill_53178, Cond.methodLink RL 114 yX5_readingsPlainly, Cond.instanceMethod yX5_readingsPlainly, Cond.selects RX5 yX5_readingsPlainly yX5_readingsPlainly, Cond.code yX5_readingsPlainly cX5_readingsPlainly 1 (some .int), Cond.methodLink RX5 112 yX5_readings, Cond.methodLink RL 115 yL_readingsOf, Cond.static yL_readingsOf, Cond.codeWith yL_readingsOf cL_readingsOf 6 (some .int) [(0, 12, 15, 21)], Cond.methodLink RL 41 yX4_readingsOf, Cond.instanceMethod yX4_readingsOf, Cond.selects RX4 yX4_readingsOf yX4_readingsOf, Cond.code yX4_readingsOf cX4_readingsOf 4 (some .int), Cond.methodLink RX4 122 yX4_isNoSpan, Cond.instanceMethod yX4_isNoSpan, Cond.selects RX4 yX4_isNoSpan yX4_isNoSpan, Cond.code yX4_isNoSpan cX4_isNoSpan 3 (some .boolean), Cond.methodLink RL 117 yX5_readingsOf, Cond.instanceMethod yX5_readingsOf, Cond.selects RX5 yX5_readingsOf yX5_readingsOf, Cond.code yX5_readingsOf cX5_readingsOf 4 (some .int), Cond.methodLink RX5 116 yX5_isPart]
def wsL_law0_r15 : List Cond := [Cond.instanceMethod yX5_isPart, Cond.selects RX5 yX5_isPart yX5_isPart, Cond.code yX5_isPart cX5_isPart 4 (some .boolean), Cond.methodLink RL 118 yL_has, Cond.static yL_has, Cond.codeWith yL_has cL_has 7 (some .int) [(0, 21, 24, 21), (0, 21, 28, 13)], Cond.methodLink RL 44 yX4_has, Cond.instanceMethod yX4_has, Cond.selects RX4 yX4_has yX4_has, Cond.code yX4_has cX4_has 6 (some .boolean), Cond.instanceMethod yX2_parse, Cond.selects RX2 yX2_parse yX2_parse, Cond.code yX2_parse cX2_parse 6 none, Cond.methodLink RX2 23 yX2_putWord, Cond.instanceMethod yX2_putWord, Cond.selects RX2 yX2_putWord yX2_putWord, Cond.code yX2_putWord cX2_putWord 4 none, Cond.methodLink RX2 30 yX2_clearSpan, Cond.instanceMethod yX2_clearSpan, Cond.selects RX2 yX2_clearSpan yX2_clearSpan, Cond.code yX2_clearSpan cX2_clearSpan 5 none, Cond.methodLink RX2 34 yX2_allowWord, Cond.instanceMethod yX2_allowWord, Cond.selects RX2 yX2_allowWord yX2_allowWord]
def wsL_law0_r16 : List Cond := [Cond.code yX2_allowWord cX2_allowWord 5 none, Cond.methodLink RX2 27 yX2_joinUpTo, Cond.instanceMethod yX2_joinUpTo, Cond.selects RX2 yX2_joinUpTo yX2_joinUpTo, Cond.code yX2_joinUpTo cX2_joinUpTo 9 none, Cond.methodLink RX2 49 yX2_join, Cond.instanceMethod yX2_join, Cond.selects RX2 yX2_join yX2_join, Cond.code yX2_join cX2_join 10 none, Cond.instanceMethod yX1_pairsMade, Cond.selects RX1 yX1_pairsMade yX1_pairsMade, Cond.code yX1_pairsMade cX1_pairsMade 8 (some .int), Cond.static yX4_hasPair, Cond.code yX4_hasPair cX4_hasPair 2 (some .boolean), Cond.instanceMethod yX2_pairsOf, Cond.selects RX2 yX2_pairsOf yX2_pairsOf, Cond.code yX2_pairsOf cX2_pairsOf 4 (some .int), Cond.methodLink RX4 136 yX4_hasPair, Cond.methodLink RL 120 yX5_has, Cond.instanceMethod yX5_has, Cond.selects RX5 yX5_has yX5_has, Cond.code yX5_has cX5_has 5 (some .boolean), Cond.methodLink RX5 92 yX5_parses, Cond.instanceMethod yX5_parses]
def wsL_law0_r17 : List Cond := [Cond.selects RX5 yX5_parses yX5_parses, Cond.code yX5_parses cX5_parses 9 none, Cond.methodLink RX5 86 yX5_together, Cond.instanceMethod yX5_together, Cond.selects RX5 yX5_together yX5_together, Cond.code yX5_together cX5_together 8 (some .int), Cond.methodLink RL 121 yX4_level, Cond.instanceMethod yX4_level, Cond.selects RX4 yX4_level yX4_level, Cond.code yX4_level cX4_level 2 (some .int), Cond.instanceMethod yX2_holdsSentence, Cond.selects RX2 yX2_holdsSentence yX2_holdsSentence, Cond.code yX2_holdsSentence cX2_holdsSentence 2 (some .boolean), Cond.methodLink RX2 19 yX2_pairsOf, Cond.methodLink RL 124 yX5_level, Cond.instanceMethod yX5_level, Cond.selects RX5 yX5_level yX5_level, Cond.code yX5_level cX5_level 3 (some .int), Cond.methodLink RL 125 yL_sentences, Cond.static yL_sentences, Cond.codeWith yL_sentences cL_sentences 4 (some .int) [(0, 9, 12, 13)], Cond.methodLink RL 48 yX4_sentences, Cond.instanceMethod yX4_sentences, Cond.selects RX4 yX4_sentences yX4_sentences]
def wsL_law0_r18 : List Cond := [Cond.code yX4_sentences cX4_sentences 2 (some .int), Cond.methodLink RX4 142 yX4_isNoLength, Cond.static yX4_isNoLength, Cond.code yX4_isNoLength cX4_isNoLength 1 (some .boolean), Cond.methodLink RX4 147 yX4_rowsOfLength, Cond.instanceMethod yX4_rowsOfLength, Cond.selects RX4 yX4_rowsOfLength yX4_rowsOfLength, Cond.code yX4_rowsOfLength cX4_rowsOfLength 4 (some .int), Cond.methodLink RX4 150 yX4_makeSentences, Cond.instanceMethod yX4_makeSentences, Cond.selects RX4 yX4_makeSentences yX4_makeSentences, Cond.code yX4_makeSentences cX4_makeSentences 8 (some .int), Cond.methodLink RX4 191 yX4_clearTrial, Cond.instanceMethod yX4_clearTrial, Cond.selects RX4 yX4_clearTrial yX4_clearTrial, Cond.code yX4_clearTrial cX4_clearTrial 2 none, Cond.methodLink RX4 194 yX4_nextTrial, Cond.instanceMethod yX4_nextTrial, Cond.selects RX4 yX4_nextTrial yX4_nextTrial, Cond.code yX4_nextTrial cX4_nextTrial 3 (some .int), Cond.methodLink RL 127 yX5_sentences, Cond.instanceMethod yX5_sentences, Cond.selects RX5 yX5_sentences yX5_sentences, Cond.code yX5_sentences cX5_sentences 2 (some .int)]
def wsL_law0_r19 : List Cond := [Cond.methodLink RX5 131 yX5_isShort, Cond.static yX5_isShort, Cond.code yX5_isShort cX5_isShort 1 (some .boolean), Cond.methodLink RX5 134 yX5_sentencesOf, Cond.instanceMethod yX5_sentencesOf, Cond.selects RX5 yX5_sentencesOf yX5_sentencesOf, Cond.code yX5_sentencesOf cX5_sentencesOf 4 (some .int), Cond.methodLink RX5 119 yX5_rows, Cond.instanceMethod yX5_rows, Cond.selects RX5 yX5_rows yX5_rows, Cond.code yX5_rows cX5_rows 4 (some .int), Cond.methodLink RX5 123 yX5_lays, Cond.instanceMethod yX5_lays, Cond.selects RX5 yX5_lays yX5_lays, Cond.code yX5_lays cX5_lays 5 none, Cond.methodLink RX5 127 yX5_isSentence, Cond.instanceMethod yX5_isSentence, Cond.selects RX5 yX5_isSentence yX5_isSentence, Cond.code yX5_isSentence cX5_isSentence 1 (some .boolean), Cond.methodLink RL 128 yL_sentence, Cond.static yL_sentence, Cond.codeWith yL_sentence cL_sentence 5 (some .int) [(0, 10, 13, 13)], Cond.methodLink RL 51 yX4_sentence, Cond.instanceMethod yX4_sentence]
def wsL_law0_r20 : List Cond := [Cond.selects RX4 yX4_sentence yX4_sentence, Cond.code yX4_sentence cX4_sentence 3 (some .int), Cond.methodLink RX4 155 yX4_trialAsDigits, Cond.instanceMethod yX4_trialAsDigits, Cond.selects RX4 yX4_trialAsDigits yX4_trialAsDigits, Cond.code yX4_trialAsDigits cX4_trialAsDigits 4 (some .int), Cond.methodLink RL 130 yX5_sentence, Cond.instanceMethod yX5_sentence, Cond.selects RX5 yX5_sentence yX5_sentence, Cond.code yX5_sentence cX5_sentence 7 (some .int), Cond.methodLink RL 131 yL_share, Cond.static yL_share, Cond.codeWith yL_share cL_share 4 (some .int) [(0, 9, 12, 13)], Cond.methodLink RL 54 yX4_share, Cond.instanceMethod yX4_share, Cond.selects RX4 yX4_share yX4_share, Cond.code yX4_share cX4_share 3 (some .float), Cond.methodLink RL 134 yX5_share, Cond.instanceMethod yX5_share, Cond.selects RX5 yX5_share yX5_share, Cond.code yX5_share cX5_share 2 (some .float), Cond.methodLink RL 135 yL_spoil, Cond.static yL_spoil, Cond.codeWith yL_spoil cL_spoil 4 (some .int) [(0, 9, 12, 21)]]
def wsL_law0_r21 : List Cond := [Cond.methodLink RL 58 yX4_spoil, Cond.instanceMethod yX4_spoil, Cond.selects RX4 yX4_spoil yX4_spoil, Cond.code yX4_spoil cX4_spoil 4 (some .int), Cond.methodLink RX4 158 yX4_isSentenceFreeAt, Cond.instanceMethod yX4_isSentenceFreeAt, Cond.selects RX4 yX4_isSentenceFreeAt yX4_isSentenceFreeAt, Cond.code yX4_isSentenceFreeAt cX4_isSentenceFreeAt 4 (some .boolean), Cond.instanceMethod yX2_putAnyWord, Cond.selects RX2 yX2_putAnyWord yX2_putAnyWord, Cond.code yX2_putAnyWord cX2_putAnyWord 4 none, Cond.methodLink RX4 161 yX4_isSentenceWith, Cond.instanceMethod yX4_isSentenceWith, Cond.selects RX4 yX4_isSentenceWith yX4_isSentenceWith, Cond.code yX4_isSentenceWith cX4_isSentenceWith 3 (some .boolean), Cond.methodLink RX4 174 arraycopyName, Cond.native arraycopyName, Cond.static arraycopyName, Cond.initialized "java/lang/System", Cond.methodLink RL 137 yX5_spoil, Cond.instanceMethod yX5_spoil, Cond.selects RX5 yX5_spoil yX5_spoil, Cond.code yX5_spoil cX5_spoil 4 (some .int), Cond.methodLink RL 138 yX4_changes]
def wsL_law0_r22 : List Cond := [Cond.instanceMethod yX4_changes, Cond.selects RX4 yX4_changes yX4_changes, Cond.code yX4_changes cX4_changes 3 (some .int), Cond.methodLink RL 141 yX5_changes, Cond.instanceMethod yX5_changes, Cond.selects RX5 yX5_changes yX5_changes, Cond.code yX5_changes cX5_changes 5 (some .int), Cond.methodLink RL 142 yL_correction, Cond.static yL_correction, Cond.codeWith yL_correction cL_correction 4 (some .int) [(0, 9, 12, 21)], Cond.methodLink RL 61 yX4_correction, Cond.instanceMethod yX4_correction, Cond.selects RX4 yX4_correction yX4_correction, Cond.code yX4_correction cX4_correction 5 (some .int), Cond.methodLink RL 144 yX5_correction, Cond.instanceMethod yX5_correction, Cond.selects RX5 yX5_correction yX5_correction, Cond.code yX5_correction cX5_correction 7 (some .int)]
def wsL_law0 : List Cond := (wsL_law0_r1 ++ (wsL_law0_r2 ++ (wsL_law0_r3 ++ (wsL_law0_r4 ++ (wsL_law0_r5 ++ (wsL_law0_r6 ++ (wsL_law0_r7 ++ (wsL_law0_r8 ++ (wsL_law0_r9 ++ (wsL_law0_r10 ++ (wsL_law0_r11 ++ (wsL_law0_r12 ++ (wsL_law0_r13 ++ (wsL_law0_r14 ++ (wsL_law0_r15 ++ (wsL_law0_r16 ++ (wsL_law0_r17 ++ (wsL_law0_r18 ++ (wsL_law0_r19 ++ (wsL_law0_r20 ++ (wsL_law0_r21 ++ wsL_law0_r22))))))))))))))))))))) ++ wsX40 ++ wsX50 ++ wsX10 ++ wsX20 ++ wsX00 ++ wsX30 ++ ([] : List Cond)
def wsL_law : List Cond := wsL_law0 ++ (vx_atS RX4 56 "java/lang/IllegalArgumentException" ["java/lang/RuntimeException", "java/lang/Exception"]).filter goodWord ++ (vx_atS RX4 66 "java/lang/IllegalStateException" ["java/lang/RuntimeException", "java/lang/Exception"]).filter goodWord ++ (vx_atS RX4 83 "java/lang/IndexOutOfBoundsException" ["java/lang/RuntimeException", "java/lang/Exception"]).filter goodWord
theorem inlX0 : ∀ w ∈ wsX00, w ∈ wsL_law := fun _ h => List.mem_append_left _ (List.mem_append_left _ (List.mem_append_left _ (List.mem_append_left _ (List.mem_append_left _ (List.mem_append_right _ h)))))
theorem inX0 : ∀ w ∈ wsX00, w ∈ lw_tbl := fun w h => wsL_law_in w (inlX0 w h)
theorem inlX1 : ∀ w ∈ wsX10, w ∈ wsL_law := fun _ h => List.mem_append_left _ (List.mem_append_left _ (List.mem_append_left _ (List.mem_append_left _ (List.mem_append_left _ (List.mem_append_left _ (List.mem_append_left _ (List.mem_append_right _ h)))))))
theorem inX1 : ∀ w ∈ wsX10, w ∈ lw_tbl := fun w h => wsL_law_in w (inlX1 w h)
theorem inlX2 : ∀ w ∈ wsX20, w ∈ wsL_law := fun _ h => List.mem_append_left _ (List.mem_append_left _ (List.mem_append_left _ (List.mem_append_left _ (List.mem_append_left _ (List.mem_append_left _ (List.mem_append_right _ h))))))
theorem inX2 : ∀ w ∈ wsX20, w ∈ lw_tbl := fun w h => wsL_law_in w (inlX2 w h)
theorem inlX3 : ∀ w ∈ wsX30, w ∈ wsL_law := fun _ h => List.mem_append_left _ (List.mem_append_left _ (List.mem_append_left _ (List.mem_append_left _ (List.mem_append_right _ h))))
theorem inX3 : ∀ w ∈ wsX30, w ∈ lw_tbl := fun w h => wsL_law_in w (inlX3 w h)
theorem inlX4 : ∀ w ∈ wsX40, w ∈ wsL_law := fun _ h => List.mem_append_left _ (List.mem_append_left _ (List.mem_append_left _ (List.mem_append_left _ (List.mem_append_left _ (List.mem_append_left _ (List.mem_append_left _ (List.mem_append_left _ (List.mem_append_left _ (List.mem_append_right _ h)))))))))
theorem inX4 : ∀ w ∈ wsX40, w ∈ lw_tbl := fun w h => wsL_law_in w (inlX4 w h)
theorem inlX5 : ∀ w ∈ wsX50, w ∈ wsL_law := fun _ h => List.mem_append_left _ (List.mem_append_left _ (List.mem_append_left _ (List.mem_append_left _ (List.mem_append_left _ (List.mem_append_left _ (List.mem_append_left _ (List.mem_append_left _ (List.mem_append_right _ h))))))))
theorem inX5 : ∀ w ∈ wsX50, w ∈ lw_tbl := fun w h => wsL_law_in w (inlX5 w h)
theorem inJx145de : ∀ w ∈ wsJx145de0, w ∈ lw_tbl := by decide +kernel
theorem inJ0 : ∀ w ∈ wsJ00, w ∈ lw_tbl := by decide +kernel
theorem inJ10 : ∀ w ∈ wsJ100, w ∈ lw_tbl := by decide +kernel
theorem inJ7 : ∀ w ∈ wsJ70, w ∈ lw_tbl := by decide +kernel
theorem dX0_init_0 : decode cX0_init 0 = .ok (.aload_n 0, 1) := by decide +kernel
theorem dX0_init_1 : decode cX0_init 1 = .ok (.invokespecial 3, 3) := by decide +kernel
theorem dX0_init_4 : decode cX0_init 4 = .ok (.aload_n 0, 1) := by decide +kernel
theorem dX0_init_5 : decode cX0_init 5 = .ok (.bipush 21, 2) := by decide +kernel
theorem dX0_init_7 : decode cX0_init 7 = .ok (.sipush 128, 3) := by decide +kernel
theorem dX0_init_10 : decode cX0_init 10 = .ok (.multianewarray 9 2, 4) := by decide +kernel
theorem dX0_init_14 : decode cX0_init 14 = .ok (.putfield 11, 3) := by decide +kernel
theorem dX0_init_17 : decode cX0_init 17 = .ok (.return_, 1) := by decide +kernel
set_option maxRecDepth 20000 in
theorem ggX0_countSpan_X4_spanOf : GoodIn wsX0_countSpan wsX4_spanOf := goodIn_r _ [4] (by decide +kernel) (by decide +kernel)
set_option maxRecDepth 20000 in
theorem gX0_countSpan_X4_spanOf_n16 : GoodIn wsX0_countSpan (wsX4_spanOf) := ggX0_countSpan_X4_spanOf
set_option maxRecDepth 20000 in
theorem ggX0_countSpan_X4_countOf : GoodIn wsX0_countSpan wsX4_countOf := goodIn_r _ [6] (by decide +kernel) (by decide +kernel)
set_option maxRecDepth 20000 in
theorem gX0_countSpan_X4_countOf_n20 : GoodIn wsX0_countSpan (wsX4_countOf) := ggX0_countSpan_X4_countOf
theorem dX0_countSpan_0 : decode cX0_countSpan 0 = .ok (.aload_n 0, 1) := by decide +kernel
theorem dX0_countSpan_1 : decode cX0_countSpan 1 = .ok (.getfield 11, 3) := by decide +kernel
theorem dX0_countSpan_4 : decode cX0_countSpan 4 = .ok (.iload_n 1, 1) := by decide +kernel
theorem dX0_countSpan_5 : decode cX0_countSpan 5 = .ok (.iload_n 2, 1) := by decide +kernel
theorem dX0_countSpan_6 : decode cX0_countSpan 6 = .ok (.invokestatic 16, 3) := by decide +kernel
theorem dX0_countSpan_9 : decode cX0_countSpan 9 = .ok (.aaload, 1) := by decide +kernel
theorem dX0_countSpan_10 : decode cX0_countSpan 10 = .ok (.iload_n 3, 1) := by decide +kernel
theorem dX0_countSpan_11 : decode cX0_countSpan 11 = .ok (.invokestatic 20, 3) := by decide +kernel
theorem dX0_countSpan_14 : decode cX0_countSpan 14 = .ok (.ireturn, 1) := by decide +kernel
set_option maxRecDepth 20000 in
theorem ggX0_fill_X0_fillSpan : GoodIn wsX0_fill wsX0_fillSpan := goodIn_r _ [5, 6, 7, 8, 9, 10, 11, 12, 13, 14, 15, 16, 17, 18, 19, 20, 21, 22, 23, 24, 25, 26, 27, 28, 29, 30, 31, 32, 33, 34, 35, 36, 37, 38, 39, 40] (by decide +kernel) (by decide +kernel)
set_option maxRecDepth 20000 in
theorem gX0_fill_X0_fillSpan : GoodIn wsX0_fill (wsV RX0 24 RX0 yX0_fillSpan wsX0_fillSpan) := goodIn_app (goodIn_of _ (by decide +kernel)) ggX0_fill_X0_fillSpan
theorem dX0_fill_0 : decode cX0_fill 0 = .ok (.iconst 1, 1) := by decide +kernel
theorem dX0_fill_1 : decode cX0_fill 1 = .ok (.istore 4, 2) := by decide +kernel
theorem dX0_fill_3 : decode cX0_fill 3 = .ok (.iload 4, 2) := by decide +kernel
theorem dX0_fill_5 : decode cX0_fill 5 = .ok (.iload_n 3, 1) := by decide +kernel
theorem dX0_fill_6 : decode cX0_fill 6 = .ok (.if_icmp .gt 36, 3) := by decide +kernel
theorem dX0_fill_9 : decode cX0_fill 9 = .ok (.iload 4, 2) := by decide +kernel
theorem dX0_fill_11 : decode cX0_fill 11 = .ok (.iconst 1, 1) := by decide +kernel
theorem dX0_fill_12 : decode cX0_fill 12 = .ok (.isub, 1) := by decide +kernel
theorem dX0_fill_13 : decode cX0_fill 13 = .ok (.istore 5, 2) := by decide +kernel
theorem dX0_fill_15 : decode cX0_fill 15 = .ok (.iload 5, 2) := by decide +kernel
theorem dX0_fill_17 : decode cX0_fill 17 = .ok (.ifCond .lt 19, 3) := by decide +kernel
theorem dX0_fill_20 : decode cX0_fill 20 = .ok (.aload_n 0, 1) := by decide +kernel
theorem dX0_fill_21 : decode cX0_fill 21 = .ok (.aload_n 1, 1) := by decide +kernel
theorem dX0_fill_22 : decode cX0_fill 22 = .ok (.aload_n 2, 1) := by decide +kernel
theorem dX0_fill_23 : decode cX0_fill 23 = .ok (.iload 5, 2) := by decide +kernel
theorem dX0_fill_25 : decode cX0_fill 25 = .ok (.iload 4, 2) := by decide +kernel
theorem dX0_fill_27 : decode cX0_fill 27 = .ok (.invokevirtual 24, 3) := by decide +kernel
theorem dX0_fill_30 : decode cX0_fill 30 = .ok (.iinc 5 (-1), 3) := by decide +kernel
theorem dX0_fill_33 : decode cX0_fill 33 = .ok (.goto (-18), 3) := by decide +kernel
theorem dX0_fill_36 : decode cX0_fill 36 = .ok (.iinc 4 1, 3) := by decide +kernel
theorem dX0_fill_39 : decode cX0_fill 39 = .ok (.goto (-36), 3) := by decide +kernel
theorem dX0_fill_42 : decode cX0_fill 42 = .ok (.return_, 1) := by decide +kernel
set_option maxRecDepth 20000 in
theorem ggX0_fillSpan_X4_spanOf : GoodIn wsX0_fillSpan wsX4_spanOf := goodIn_r _ [4] (by decide +kernel) (by decide +kernel)
set_option maxRecDepth 20000 in
theorem gX0_fillSpan_X4_spanOf_n16 : GoodIn wsX0_fillSpan (wsX4_spanOf) := ggX0_fillSpan_X4_spanOf
set_option maxRecDepth 20000 in
theorem ggX0_fillSpan_J7_fill_53178 : GoodIn wsX0_fillSpan wsJ7_fill_53178 := goodIn_r _ [8] (by decide +kernel) (by decide +kernel)
set_option maxRecDepth 20000 in
theorem gX0_fillSpan_J7_fill_53178 : GoodIn wsX0_fillSpan (va_wsS RX0 28 yJ7_fill_53178 wsJ7_fill_53178) := goodIn_app (goodIn_of _ (by decide +kernel)) ggX0_fillSpan_J7_fill_53178
set_option maxRecDepth 20000 in
theorem ggX0_fillSpan_X1_countWord : GoodIn wsX0_fillSpan wsX1_countWord := goodIn_r _ [12, 13, 14, 28, 29, 30, 31, 32, 33, 34, 35] (by decide +kernel) (by decide +kernel)
set_option maxRecDepth 20000 in
theorem gX0_fillSpan_X1_countWord_n34 : GoodIn wsX0_fillSpan (wsX1_countWord) := ggX0_fillSpan_X1_countWord
set_option maxRecDepth 20000 in
theorem ggX0_fillSpan_X1_addJoined : GoodIn wsX0_fillSpan wsX1_addJoined := goodIn_r _ [17, 18, 19, 20, 21, 22, 10, 23, 24, 25, 26, 28, 29, 30, 31, 32, 33, 34, 35] (by decide +kernel) (by decide +kernel)
set_option maxRecDepth 20000 in
theorem gX0_fillSpan_X1_addJoined_n40 : GoodIn wsX0_fillSpan (wsX1_addJoined) := ggX0_fillSpan_X1_addJoined
theorem dX0_fillSpan_0 : decode cX0_fillSpan 0 = .ok (.aload_n 0, 1) := by decide +kernel
theorem dX0_fillSpan_1 : decode cX0_fillSpan 1 = .ok (.getfield 11, 3) := by decide +kernel
theorem dX0_fillSpan_4 : decode cX0_fillSpan 4 = .ok (.iload_n 3, 1) := by decide +kernel
theorem dX0_fillSpan_5 : decode cX0_fillSpan 5 = .ok (.iload 4, 2) := by decide +kernel
theorem dX0_fillSpan_7 : decode cX0_fillSpan 7 = .ok (.invokestatic 16, 3) := by decide +kernel
theorem dX0_fillSpan_10 : decode cX0_fillSpan 10 = .ok (.aaload, 1) := by decide +kernel
theorem dX0_fillSpan_11 : decode cX0_fillSpan 11 = .ok (.astore 5, 2) := by decide +kernel
theorem dX0_fillSpan_13 : decode cX0_fillSpan 13 = .ok (.aload 5, 2) := by decide +kernel
theorem dX0_fillSpan_15 : decode cX0_fillSpan 15 = .ok (.iconst 0, 1) := by decide +kernel
theorem dX0_fillSpan_16 : decode cX0_fillSpan 16 = .ok (.invokestatic 28, 3) := by decide +kernel
theorem dX0_fillSpan_19 : decode cX0_fillSpan 19 = .ok (.iload 4, 2) := by decide +kernel
theorem dX0_fillSpan_21 : decode cX0_fillSpan 21 = .ok (.iload_n 3, 1) := by decide +kernel
theorem dX0_fillSpan_22 : decode cX0_fillSpan 22 = .ok (.iconst 1, 1) := by decide +kernel
theorem dX0_fillSpan_23 : decode cX0_fillSpan 23 = .ok (.iadd, 1) := by decide +kernel
theorem dX0_fillSpan_24 : decode cX0_fillSpan 24 = .ok (.if_icmp .ne 12, 3) := by decide +kernel
theorem dX0_fillSpan_27 : decode cX0_fillSpan 27 = .ok (.aload_n 1, 1) := by decide +kernel
theorem dX0_fillSpan_28 : decode cX0_fillSpan 28 = .ok (.aload_n 2, 1) := by decide +kernel
theorem dX0_fillSpan_29 : decode cX0_fillSpan 29 = .ok (.iload_n 3, 1) := by decide +kernel
theorem dX0_fillSpan_30 : decode cX0_fillSpan 30 = .ok (.iaload, 1) := by decide +kernel
theorem dX0_fillSpan_31 : decode cX0_fillSpan 31 = .ok (.aload 5, 2) := by decide +kernel
theorem dX0_fillSpan_33 : decode cX0_fillSpan 33 = .ok (.invokevirtual 34, 3) := by decide +kernel
theorem dX0_fillSpan_36 : decode cX0_fillSpan 36 = .ok (.iload_n 3, 1) := by decide +kernel
theorem dX0_fillSpan_37 : decode cX0_fillSpan 37 = .ok (.iconst 1, 1) := by decide +kernel
theorem dX0_fillSpan_38 : decode cX0_fillSpan 38 = .ok (.iadd, 1) := by decide +kernel
theorem dX0_fillSpan_39 : decode cX0_fillSpan 39 = .ok (.istore 6, 2) := by decide +kernel
theorem dX0_fillSpan_41 : decode cX0_fillSpan 41 = .ok (.iload 6, 2) := by decide +kernel
theorem dX0_fillSpan_43 : decode cX0_fillSpan 43 = .ok (.iload 4, 2) := by decide +kernel
theorem dX0_fillSpan_45 : decode cX0_fillSpan 45 = .ok (.if_icmp .ge 46, 3) := by decide +kernel
theorem dX0_fillSpan_48 : decode cX0_fillSpan 48 = .ok (.aload_n 0, 1) := by decide +kernel
theorem dX0_fillSpan_49 : decode cX0_fillSpan 49 = .ok (.getfield 11, 3) := by decide +kernel
theorem dX0_fillSpan_52 : decode cX0_fillSpan 52 = .ok (.iload_n 3, 1) := by decide +kernel
theorem dX0_fillSpan_53 : decode cX0_fillSpan 53 = .ok (.iload 6, 2) := by decide +kernel
theorem dX0_fillSpan_55 : decode cX0_fillSpan 55 = .ok (.invokestatic 16, 3) := by decide +kernel
theorem dX0_fillSpan_58 : decode cX0_fillSpan 58 = .ok (.aaload, 1) := by decide +kernel
theorem dX0_fillSpan_59 : decode cX0_fillSpan 59 = .ok (.astore 7, 2) := by decide +kernel
theorem dX0_fillSpan_61 : decode cX0_fillSpan 61 = .ok (.aload_n 0, 1) := by decide +kernel
theorem dX0_fillSpan_62 : decode cX0_fillSpan 62 = .ok (.getfield 11, 3) := by decide +kernel
theorem dX0_fillSpan_65 : decode cX0_fillSpan 65 = .ok (.iload 6, 2) := by decide +kernel
theorem dX0_fillSpan_67 : decode cX0_fillSpan 67 = .ok (.iload 4, 2) := by decide +kernel
theorem dX0_fillSpan_69 : decode cX0_fillSpan 69 = .ok (.invokestatic 16, 3) := by decide +kernel
theorem dX0_fillSpan_72 : decode cX0_fillSpan 72 = .ok (.aaload, 1) := by decide +kernel
theorem dX0_fillSpan_73 : decode cX0_fillSpan 73 = .ok (.astore 8, 2) := by decide +kernel
theorem dX0_fillSpan_75 : decode cX0_fillSpan 75 = .ok (.aload_n 1, 1) := by decide +kernel
theorem dX0_fillSpan_76 : decode cX0_fillSpan 76 = .ok (.aload 7, 2) := by decide +kernel
theorem dX0_fillSpan_78 : decode cX0_fillSpan 78 = .ok (.aload 8, 2) := by decide +kernel
theorem dX0_fillSpan_80 : decode cX0_fillSpan 80 = .ok (.aload 5, 2) := by decide +kernel
theorem dX0_fillSpan_82 : decode cX0_fillSpan 82 = .ok (.invokevirtual 40, 3) := by decide +kernel
theorem dX0_fillSpan_85 : decode cX0_fillSpan 85 = .ok (.iinc 6 1, 3) := by decide +kernel
theorem dX0_fillSpan_88 : decode cX0_fillSpan 88 = .ok (.goto (-47), 3) := by decide +kernel
theorem dX0_fillSpan_91 : decode cX0_fillSpan 91 = .ok (.return_, 1) := by decide +kernel
theorem dX1_init_0 : decode cX1_init 0 = .ok (.aload_n 0, 1) := by decide +kernel
theorem dX1_init_1 : decode cX1_init 1 = .ok (.invokespecial 3, 3) := by decide +kernel
theorem dX1_init_4 : decode cX1_init 4 = .ok (.aload_n 0, 1) := by decide +kernel
theorem dX1_init_5 : decode cX1_init 5 = .ok (.iconst 0, 1) := by decide +kernel
theorem dX1_init_6 : decode cX1_init 6 = .ok (.putfield 9, 3) := by decide +kernel
theorem dX1_init_9 : decode cX1_init 9 = .ok (.aload_n 0, 1) := by decide +kernel
theorem dX1_init_10 : decode cX1_init 10 = .ok (.bipush 9, 2) := by decide +kernel
theorem dX1_init_12 : decode cX1_init 12 = .ok (.newarray .int, 2) := by decide +kernel
theorem dX1_init_14 : decode cX1_init 14 = .ok (.putfield 15, 3) := by decide +kernel
theorem dX1_init_17 : decode cX1_init 17 = .ok (.aload_n 0, 1) := by decide +kernel
theorem dX1_init_18 : decode cX1_init 18 = .ok (.bipush 9, 2) := by decide +kernel
theorem dX1_init_20 : decode cX1_init 20 = .ok (.newarray .int, 2) := by decide +kernel
theorem dX1_init_22 : decode cX1_init 22 = .ok (.putfield 19, 3) := by decide +kernel
theorem dX1_init_25 : decode cX1_init 25 = .ok (.aload_n 0, 1) := by decide +kernel
theorem dX1_init_26 : decode cX1_init 26 = .ok (.iconst 0, 1) := by decide +kernel
theorem dX1_init_27 : decode cX1_init 27 = .ok (.putfield 22, 3) := by decide +kernel
theorem dX1_init_30 : decode cX1_init 30 = .ok (.aload_n 0, 1) := by decide +kernel
theorem dX1_init_31 : decode cX1_init 31 = .ok (.bipush 8, 2) := by decide +kernel
theorem dX1_init_33 : decode cX1_init 33 = .ok (.newarray .int, 2) := by decide +kernel
theorem dX1_init_35 : decode cX1_init 35 = .ok (.putfield 25, 3) := by decide +kernel
theorem dX1_init_38 : decode cX1_init 38 = .ok (.aload_n 0, 1) := by decide +kernel
theorem dX1_init_39 : decode cX1_init 39 = .ok (.bipush 8, 2) := by decide +kernel
theorem dX1_init_41 : decode cX1_init 41 = .ok (.newarray .int, 2) := by decide +kernel
theorem dX1_init_43 : decode cX1_init 43 = .ok (.putfield 28, 3) := by decide +kernel
theorem dX1_init_46 : decode cX1_init 46 = .ok (.aload_n 0, 1) := by decide +kernel
theorem dX1_init_47 : decode cX1_init 47 = .ok (.bipush 8, 2) := by decide +kernel
theorem dX1_init_49 : decode cX1_init 49 = .ok (.newarray .int, 2) := by decide +kernel
theorem dX1_init_51 : decode cX1_init 51 = .ok (.putfield 31, 3) := by decide +kernel
theorem dX1_init_54 : decode cX1_init 54 = .ok (.aload_n 0, 1) := by decide +kernel
theorem dX1_init_55 : decode cX1_init 55 = .ok (.bipush 8, 2) := by decide +kernel
theorem dX1_init_57 : decode cX1_init 57 = .ok (.sipush 256, 3) := by decide +kernel
theorem dX1_init_60 : decode cX1_init 60 = .ok (.multianewarray 34 2, 4) := by decide +kernel
theorem dX1_init_64 : decode cX1_init 64 = .ok (.putfield 36, 3) := by decide +kernel
theorem dX1_init_67 : decode cX1_init 67 = .ok (.return_, 1) := by decide +kernel
theorem dX1_defineWord_0 : decode cX1_defineWord 0 = .ok (.aload_n 0, 1) := by decide +kernel
theorem dX1_defineWord_1 : decode cX1_defineWord 1 = .ok (.getfield 15, 3) := by decide +kernel
theorem dX1_defineWord_4 : decode cX1_defineWord 4 = .ok (.iload_n 1, 1) := by decide +kernel
theorem dX1_defineWord_5 : decode cX1_defineWord 5 = .ok (.iload_n 2, 1) := by decide +kernel
theorem dX1_defineWord_6 : decode cX1_defineWord 6 = .ok (.iastore, 1) := by decide +kernel
theorem dX1_defineWord_7 : decode cX1_defineWord 7 = .ok (.aload_n 0, 1) := by decide +kernel
theorem dX1_defineWord_8 : decode cX1_defineWord 8 = .ok (.getfield 19, 3) := by decide +kernel
theorem dX1_defineWord_11 : decode cX1_defineWord 11 = .ok (.iload_n 1, 1) := by decide +kernel
theorem dX1_defineWord_12 : decode cX1_defineWord 12 = .ok (.iload_n 3, 1) := by decide +kernel
theorem dX1_defineWord_13 : decode cX1_defineWord 13 = .ok (.iastore, 1) := by decide +kernel
theorem dX1_defineWord_14 : decode cX1_defineWord 14 = .ok (.return_, 1) := by decide +kernel
set_option maxRecDepth 20000 in
theorem ggX1_defineRule_X1_joinedPair : GoodIn wsX1_defineRule wsX1_joinedPair := goodIn_r _ [8, 9, 10, 7, 11, 12, 13, 14] (by decide +kernel) (by decide +kernel)
set_option maxRecDepth 20000 in
theorem gX1_defineRule_X1_joinedPair : GoodIn wsX1_defineRule (va_wsS RX1 39 yX1_joinedPair wsX1_joinedPair) := goodIn_app (goodIn_of _ (by decide +kernel)) ggX1_defineRule_X1_joinedPair
theorem dX1_defineRule_0 : decode cX1_defineRule 0 = .ok (.aload_n 0, 1) := by decide +kernel
theorem dX1_defineRule_1 : decode cX1_defineRule 1 = .ok (.getfield 25, 3) := by decide +kernel
theorem dX1_defineRule_4 : decode cX1_defineRule 4 = .ok (.iload_n 1, 1) := by decide +kernel
theorem dX1_defineRule_5 : decode cX1_defineRule 5 = .ok (.iload_n 2, 1) := by decide +kernel
theorem dX1_defineRule_6 : decode cX1_defineRule 6 = .ok (.iastore, 1) := by decide +kernel
theorem dX1_defineRule_7 : decode cX1_defineRule 7 = .ok (.aload_n 0, 1) := by decide +kernel
theorem dX1_defineRule_8 : decode cX1_defineRule 8 = .ok (.getfield 28, 3) := by decide +kernel
theorem dX1_defineRule_11 : decode cX1_defineRule 11 = .ok (.iload_n 1, 1) := by decide +kernel
theorem dX1_defineRule_12 : decode cX1_defineRule 12 = .ok (.iload_n 3, 1) := by decide +kernel
theorem dX1_defineRule_13 : decode cX1_defineRule 13 = .ok (.iastore, 1) := by decide +kernel
theorem dX1_defineRule_14 : decode cX1_defineRule 14 = .ok (.aload_n 0, 1) := by decide +kernel
theorem dX1_defineRule_15 : decode cX1_defineRule 15 = .ok (.getfield 31, 3) := by decide +kernel
theorem dX1_defineRule_18 : decode cX1_defineRule 18 = .ok (.iload_n 1, 1) := by decide +kernel
theorem dX1_defineRule_19 : decode cX1_defineRule 19 = .ok (.iload 4, 2) := by decide +kernel
theorem dX1_defineRule_21 : decode cX1_defineRule 21 = .ok (.iastore, 1) := by decide +kernel
theorem dX1_defineRule_22 : decode cX1_defineRule 22 = .ok (.iconst 0, 1) := by decide +kernel
theorem dX1_defineRule_23 : decode cX1_defineRule 23 = .ok (.istore 6, 2) := by decide +kernel
theorem dX1_defineRule_25 : decode cX1_defineRule 25 = .ok (.iload 6, 2) := by decide +kernel
theorem dX1_defineRule_27 : decode cX1_defineRule 27 = .ok (.sipush 256, 3) := by decide +kernel
theorem dX1_defineRule_30 : decode cX1_defineRule 30 = .ok (.if_icmp .ge 33, 3) := by decide +kernel
theorem dX1_defineRule_33 : decode cX1_defineRule 33 = .ok (.aload_n 0, 1) := by decide +kernel
theorem dX1_defineRule_34 : decode cX1_defineRule 34 = .ok (.getfield 36, 3) := by decide +kernel
theorem dX1_defineRule_37 : decode cX1_defineRule 37 = .ok (.iload_n 1, 1) := by decide +kernel
theorem dX1_defineRule_38 : decode cX1_defineRule 38 = .ok (.aaload, 1) := by decide +kernel
theorem dX1_defineRule_39 : decode cX1_defineRule 39 = .ok (.iload 6, 2) := by decide +kernel
theorem dX1_defineRule_41 : decode cX1_defineRule 41 = .ok (.iload 5, 2) := by decide +kernel
theorem dX1_defineRule_43 : decode cX1_defineRule 43 = .ok (.iload 6, 2) := by decide +kernel
theorem dX1_defineRule_45 : decode cX1_defineRule 45 = .ok (.bipush 16, 2) := by decide +kernel
theorem dX1_defineRule_47 : decode cX1_defineRule 47 = .ok (.idiv, 1) := by decide +kernel
theorem dX1_defineRule_48 : decode cX1_defineRule 48 = .ok (.iload 6, 2) := by decide +kernel
theorem dX1_defineRule_50 : decode cX1_defineRule 50 = .ok (.bipush 16, 2) := by decide +kernel
theorem dX1_defineRule_52 : decode cX1_defineRule 52 = .ok (.irem, 1) := by decide +kernel
theorem dX1_defineRule_53 : decode cX1_defineRule 53 = .ok (.invokestatic 39, 3) := by decide +kernel
theorem dX1_defineRule_56 : decode cX1_defineRule 56 = .ok (.iastore, 1) := by decide +kernel
theorem dX1_defineRule_57 : decode cX1_defineRule 57 = .ok (.iinc 6 1, 3) := by decide +kernel
theorem dX1_defineRule_60 : decode cX1_defineRule 60 = .ok (.goto (-35), 3) := by decide +kernel
theorem dX1_defineRule_63 : decode cX1_defineRule 63 = .ok (.return_, 1) := by decide +kernel
set_option maxRecDepth 20000 in
theorem ggX1_joinedPair_X1_joinedValue : GoodIn wsX1_joinedPair wsX1_joinedValue := goodIn_r _ [4] (by decide +kernel) (by decide +kernel)
set_option maxRecDepth 20000 in
theorem gX1_joinedPair_X1_joinedValue : GoodIn wsX1_joinedPair (va_wsS RX1 43 yX1_joinedValue wsX1_joinedValue) := goodIn_app (goodIn_of _ (by decide +kernel)) ggX1_joinedPair_X1_joinedValue
set_option maxRecDepth 20000 in
theorem ggX1_joinedPair_X4_pairOf : GoodIn wsX1_joinedPair wsX4_pairOf := goodIn_r _ [7] (by decide +kernel) (by decide +kernel)
set_option maxRecDepth 20000 in
theorem gX1_joinedPair_X4_pairOf_n46 : GoodIn wsX1_joinedPair (wsX4_pairOf) := ggX1_joinedPair_X4_pairOf
theorem dX1_joinedPair_0 : decode cX1_joinedPair 0 = .ok (.iload_n 0, 1) := by decide +kernel
theorem dX1_joinedPair_1 : decode cX1_joinedPair 1 = .ok (.bipush 10, 2) := by decide +kernel
theorem dX1_joinedPair_3 : decode cX1_joinedPair 3 = .ok (.idiv, 1) := by decide +kernel
theorem dX1_joinedPair_4 : decode cX1_joinedPair 4 = .ok (.iload_n 1, 1) := by decide +kernel
theorem dX1_joinedPair_5 : decode cX1_joinedPair 5 = .ok (.iconst 4, 1) := by decide +kernel
theorem dX1_joinedPair_6 : decode cX1_joinedPair 6 = .ok (.idiv, 1) := by decide +kernel
theorem dX1_joinedPair_7 : decode cX1_joinedPair 7 = .ok (.iload_n 2, 1) := by decide +kernel
theorem dX1_joinedPair_8 : decode cX1_joinedPair 8 = .ok (.iconst 4, 1) := by decide +kernel
theorem dX1_joinedPair_9 : decode cX1_joinedPair 9 = .ok (.idiv, 1) := by decide +kernel
theorem dX1_joinedPair_10 : decode cX1_joinedPair 10 = .ok (.invokestatic 43, 3) := by decide +kernel
theorem dX1_joinedPair_13 : decode cX1_joinedPair 13 = .ok (.istore_n 3, 1) := by decide +kernel
theorem dX1_joinedPair_14 : decode cX1_joinedPair 14 = .ok (.iload_n 0, 1) := by decide +kernel
theorem dX1_joinedPair_15 : decode cX1_joinedPair 15 = .ok (.bipush 10, 2) := by decide +kernel
theorem dX1_joinedPair_17 : decode cX1_joinedPair 17 = .ok (.irem, 1) := by decide +kernel
theorem dX1_joinedPair_18 : decode cX1_joinedPair 18 = .ok (.iload_n 1, 1) := by decide +kernel
theorem dX1_joinedPair_19 : decode cX1_joinedPair 19 = .ok (.iconst 4, 1) := by decide +kernel
theorem dX1_joinedPair_20 : decode cX1_joinedPair 20 = .ok (.irem, 1) := by decide +kernel
theorem dX1_joinedPair_21 : decode cX1_joinedPair 21 = .ok (.iload_n 2, 1) := by decide +kernel
theorem dX1_joinedPair_22 : decode cX1_joinedPair 22 = .ok (.iconst 4, 1) := by decide +kernel
theorem dX1_joinedPair_23 : decode cX1_joinedPair 23 = .ok (.irem, 1) := by decide +kernel
theorem dX1_joinedPair_24 : decode cX1_joinedPair 24 = .ok (.invokestatic 43, 3) := by decide +kernel
theorem dX1_joinedPair_27 : decode cX1_joinedPair 27 = .ok (.istore 4, 2) := by decide +kernel
theorem dX1_joinedPair_29 : decode cX1_joinedPair 29 = .ok (.iload_n 3, 1) := by decide +kernel
theorem dX1_joinedPair_30 : decode cX1_joinedPair 30 = .ok (.iconst (-1), 1) := by decide +kernel
theorem dX1_joinedPair_31 : decode cX1_joinedPair 31 = .ok (.if_icmp .eq 9, 3) := by decide +kernel
theorem dX1_joinedPair_34 : decode cX1_joinedPair 34 = .ok (.iload 4, 2) := by decide +kernel
theorem dX1_joinedPair_36 : decode cX1_joinedPair 36 = .ok (.iconst (-1), 1) := by decide +kernel
theorem dX1_joinedPair_37 : decode cX1_joinedPair 37 = .ok (.if_icmp .ne 7, 3) := by decide +kernel
theorem dX1_joinedPair_40 : decode cX1_joinedPair 40 = .ok (.iconst (-1), 1) := by decide +kernel
theorem dX1_joinedPair_41 : decode cX1_joinedPair 41 = .ok (.goto 9, 3) := by decide +kernel
theorem dX1_joinedPair_44 : decode cX1_joinedPair 44 = .ok (.iload_n 3, 1) := by decide +kernel
theorem dX1_joinedPair_45 : decode cX1_joinedPair 45 = .ok (.iload 4, 2) := by decide +kernel
theorem dX1_joinedPair_47 : decode cX1_joinedPair 47 = .ok (.invokestatic 46, 3) := by decide +kernel
theorem dX1_joinedPair_50 : decode cX1_joinedPair 50 = .ok (.ireturn, 1) := by decide +kernel
theorem dX1_joinedValue_0 : decode cX1_joinedValue 0 = .ok (.iload_n 0, 1) := by decide +kernel
theorem dX1_joinedValue_1 : decode cX1_joinedValue 1 = .ok (.tableswitch 52 0 2 #[27, 29, 31], 27) := by decide +kernel
theorem dX1_joinedValue_28 : decode cX1_joinedValue 28 = .ok (.iload_n 1, 1) := by decide +kernel
theorem dX1_joinedValue_29 : decode cX1_joinedValue 29 = .ok (.ireturn, 1) := by decide +kernel
theorem dX1_joinedValue_30 : decode cX1_joinedValue 30 = .ok (.iload_n 2, 1) := by decide +kernel
theorem dX1_joinedValue_31 : decode cX1_joinedValue 31 = .ok (.ireturn, 1) := by decide +kernel
theorem dX1_joinedValue_32 : decode cX1_joinedValue 32 = .ok (.iload_n 1, 1) := by decide +kernel
theorem dX1_joinedValue_33 : decode cX1_joinedValue 33 = .ok (.iload_n 2, 1) := by decide +kernel
theorem dX1_joinedValue_34 : decode cX1_joinedValue 34 = .ok (.if_icmp .eq 7, 3) := by decide +kernel
theorem dX1_joinedValue_37 : decode cX1_joinedValue 37 = .ok (.iload_n 2, 1) := by decide +kernel
theorem dX1_joinedValue_38 : decode cX1_joinedValue 38 = .ok (.ifCond .ne 5, 3) := by decide +kernel
theorem dX1_joinedValue_41 : decode cX1_joinedValue 41 = .ok (.iload_n 1, 1) := by decide +kernel
theorem dX1_joinedValue_42 : decode cX1_joinedValue 42 = .ok (.ireturn, 1) := by decide +kernel
theorem dX1_joinedValue_43 : decode cX1_joinedValue 43 = .ok (.iload_n 1, 1) := by decide +kernel
theorem dX1_joinedValue_44 : decode cX1_joinedValue 44 = .ok (.ifCond .ne 7, 3) := by decide +kernel
theorem dX1_joinedValue_47 : decode cX1_joinedValue 47 = .ok (.iload_n 2, 1) := by decide +kernel
theorem dX1_joinedValue_48 : decode cX1_joinedValue 48 = .ok (.goto 4, 3) := by decide +kernel
theorem dX1_joinedValue_51 : decode cX1_joinedValue 51 = .ok (.iconst (-1), 1) := by decide +kernel
theorem dX1_joinedValue_52 : decode cX1_joinedValue 52 = .ok (.ireturn, 1) := by decide +kernel
theorem dX1_joinedValue_53 : decode cX1_joinedValue 53 = .ok (.iconst 0, 1) := by decide +kernel
theorem dX1_joinedValue_54 : decode cX1_joinedValue 54 = .ok (.ireturn, 1) := by decide +kernel
set_option maxRecDepth 20000 in
theorem ggX1_pairsMade_X4_hasPair : GoodIn wsX1_pairsMade wsX4_hasPair := goodIn_r _ [4] (by decide +kernel) (by decide +kernel)
set_option maxRecDepth 20000 in
theorem gX1_pairsMade_X4_hasPair_n50 : GoodIn wsX1_pairsMade (wsX4_hasPair) := ggX1_pairsMade_X4_hasPair
theorem dX1_pairsMade_0 : decode cX1_pairsMade 0 = .ok (.iconst 0, 1) := by decide +kernel
theorem dX1_pairsMade_1 : decode cX1_pairsMade 1 = .ok (.istore 4, 2) := by decide +kernel
theorem dX1_pairsMade_3 : decode cX1_pairsMade 3 = .ok (.iconst 0, 1) := by decide +kernel
theorem dX1_pairsMade_4 : decode cX1_pairsMade 4 = .ok (.istore 5, 2) := by decide +kernel
theorem dX1_pairsMade_6 : decode cX1_pairsMade 6 = .ok (.iload 5, 2) := by decide +kernel
theorem dX1_pairsMade_8 : decode cX1_pairsMade 8 = .ok (.bipush 16, 2) := by decide +kernel
theorem dX1_pairsMade_10 : decode cX1_pairsMade 10 = .ok (.if_icmp .ge 78, 3) := by decide +kernel
theorem dX1_pairsMade_13 : decode cX1_pairsMade 13 = .ok (.iload_n 2, 1) := by decide +kernel
theorem dX1_pairsMade_14 : decode cX1_pairsMade 14 = .ok (.iload 5, 2) := by decide +kernel
theorem dX1_pairsMade_16 : decode cX1_pairsMade 16 = .ok (.invokestatic 50, 3) := by decide +kernel
theorem dX1_pairsMade_19 : decode cX1_pairsMade 19 = .ok (.ifCond .ne 6, 3) := by decide +kernel
theorem dX1_pairsMade_22 : decode cX1_pairsMade 22 = .ok (.goto 60, 3) := by decide +kernel
theorem dX1_pairsMade_25 : decode cX1_pairsMade 25 = .ok (.iconst 0, 1) := by decide +kernel
theorem dX1_pairsMade_26 : decode cX1_pairsMade 26 = .ok (.istore 6, 2) := by decide +kernel
theorem dX1_pairsMade_28 : decode cX1_pairsMade 28 = .ok (.iload 6, 2) := by decide +kernel
theorem dX1_pairsMade_30 : decode cX1_pairsMade 30 = .ok (.bipush 16, 2) := by decide +kernel
theorem dX1_pairsMade_32 : decode cX1_pairsMade 32 = .ok (.if_icmp .ge 50, 3) := by decide +kernel
theorem dX1_pairsMade_35 : decode cX1_pairsMade 35 = .ok (.aload_n 0, 1) := by decide +kernel
theorem dX1_pairsMade_36 : decode cX1_pairsMade 36 = .ok (.getfield 36, 3) := by decide +kernel
theorem dX1_pairsMade_39 : decode cX1_pairsMade 39 = .ok (.iload_n 1, 1) := by decide +kernel
theorem dX1_pairsMade_40 : decode cX1_pairsMade 40 = .ok (.aaload, 1) := by decide +kernel
theorem dX1_pairsMade_41 : decode cX1_pairsMade 41 = .ok (.iload 5, 2) := by decide +kernel
theorem dX1_pairsMade_43 : decode cX1_pairsMade 43 = .ok (.bipush 16, 2) := by decide +kernel
theorem dX1_pairsMade_45 : decode cX1_pairsMade 45 = .ok (.imul, 1) := by decide +kernel
theorem dX1_pairsMade_46 : decode cX1_pairsMade 46 = .ok (.iload 6, 2) := by decide +kernel
theorem dX1_pairsMade_48 : decode cX1_pairsMade 48 = .ok (.iadd, 1) := by decide +kernel
theorem dX1_pairsMade_49 : decode cX1_pairsMade 49 = .ok (.iaload, 1) := by decide +kernel
theorem dX1_pairsMade_50 : decode cX1_pairsMade 50 = .ok (.istore 7, 2) := by decide +kernel
theorem dX1_pairsMade_52 : decode cX1_pairsMade 52 = .ok (.iload 7, 2) := by decide +kernel
theorem dX1_pairsMade_54 : decode cX1_pairsMade 54 = .ok (.iconst (-1), 1) := by decide +kernel
theorem dX1_pairsMade_55 : decode cX1_pairsMade 55 = .ok (.if_icmp .eq 21, 3) := by decide +kernel
theorem dX1_pairsMade_58 : decode cX1_pairsMade 58 = .ok (.iload_n 3, 1) := by decide +kernel
theorem dX1_pairsMade_59 : decode cX1_pairsMade 59 = .ok (.iload 6, 2) := by decide +kernel
theorem dX1_pairsMade_61 : decode cX1_pairsMade 61 = .ok (.invokestatic 50, 3) := by decide +kernel
theorem dX1_pairsMade_64 : decode cX1_pairsMade 64 = .ok (.ifCond .eq 12, 3) := by decide +kernel
theorem dX1_pairsMade_67 : decode cX1_pairsMade 67 = .ok (.iload 4, 2) := by decide +kernel
theorem dX1_pairsMade_69 : decode cX1_pairsMade 69 = .ok (.iconst 1, 1) := by decide +kernel
theorem dX1_pairsMade_70 : decode cX1_pairsMade 70 = .ok (.iload 7, 2) := by decide +kernel
theorem dX1_pairsMade_72 : decode cX1_pairsMade 72 = .ok (.ishl, 1) := by decide +kernel
theorem dX1_pairsMade_73 : decode cX1_pairsMade 73 = .ok (.ior, 1) := by decide +kernel
theorem dX1_pairsMade_74 : decode cX1_pairsMade 74 = .ok (.istore 4, 2) := by decide +kernel
theorem dX1_pairsMade_76 : decode cX1_pairsMade 76 = .ok (.iinc 6 1, 3) := by decide +kernel
theorem dX1_pairsMade_79 : decode cX1_pairsMade 79 = .ok (.goto (-51), 3) := by decide +kernel
theorem dX1_pairsMade_82 : decode cX1_pairsMade 82 = .ok (.iinc 5 1, 3) := by decide +kernel
theorem dX1_pairsMade_85 : decode cX1_pairsMade 85 = .ok (.goto (-79), 3) := by decide +kernel
theorem dX1_pairsMade_88 : decode cX1_pairsMade 88 = .ok (.iload 4, 2) := by decide +kernel
theorem dX1_pairsMade_90 : decode cX1_pairsMade 90 = .ok (.ireturn, 1) := by decide +kernel
theorem dX1_countWord_0 : decode cX1_countWord 0 = .ok (.aload_n 2, 1) := by decide +kernel
theorem dX1_countWord_1 : decode cX1_countWord 1 = .ok (.aload_n 0, 1) := by decide +kernel
theorem dX1_countWord_2 : decode cX1_countWord 2 = .ok (.getfield 15, 3) := by decide +kernel
theorem dX1_countWord_5 : decode cX1_countWord 5 = .ok (.iload_n 1, 1) := by decide +kernel
theorem dX1_countWord_6 : decode cX1_countWord 6 = .ok (.iaload, 1) := by decide +kernel
theorem dX1_countWord_7 : decode cX1_countWord 7 = .ok (.bipush 16, 2) := by decide +kernel
theorem dX1_countWord_9 : decode cX1_countWord 9 = .ok (.imul, 1) := by decide +kernel
theorem dX1_countWord_10 : decode cX1_countWord 10 = .ok (.aload_n 0, 1) := by decide +kernel
theorem dX1_countWord_11 : decode cX1_countWord 11 = .ok (.getfield 19, 3) := by decide +kernel
theorem dX1_countWord_14 : decode cX1_countWord 14 = .ok (.iload_n 1, 1) := by decide +kernel
theorem dX1_countWord_15 : decode cX1_countWord 15 = .ok (.iaload, 1) := by decide +kernel
theorem dX1_countWord_16 : decode cX1_countWord 16 = .ok (.iadd, 1) := by decide +kernel
theorem dX1_countWord_17 : decode cX1_countWord 17 = .ok (.iconst 1, 1) := by decide +kernel
theorem dX1_countWord_18 : decode cX1_countWord 18 = .ok (.iastore, 1) := by decide +kernel
theorem dX1_countWord_19 : decode cX1_countWord 19 = .ok (.return_, 1) := by decide +kernel
set_option maxRecDepth 20000 in
theorem ggX1_addJoined_X1_addJoinedWith : GoodIn wsX1_addJoined wsX1_addJoinedWith := goodIn_r _ [7, 8, 9, 10, 11, 12, 13, 14, 15, 16, 17, 18] (by decide +kernel) (by decide +kernel)
set_option maxRecDepth 20000 in
theorem gX1_addJoined_X1_addJoinedWith : GoodIn wsX1_addJoined (wsV RX1 54 RX1 yX1_addJoinedWith wsX1_addJoinedWith) := goodIn_app (goodIn_of _ (by decide +kernel)) ggX1_addJoined_X1_addJoinedWith
theorem dX1_addJoined_0 : decode cX1_addJoined 0 = .ok (.iconst 0, 1) := by decide +kernel
theorem dX1_addJoined_1 : decode cX1_addJoined 1 = .ok (.istore 4, 2) := by decide +kernel
theorem dX1_addJoined_3 : decode cX1_addJoined 3 = .ok (.iload 4, 2) := by decide +kernel
theorem dX1_addJoined_5 : decode cX1_addJoined 5 = .ok (.aload_n 0, 1) := by decide +kernel
theorem dX1_addJoined_6 : decode cX1_addJoined 6 = .ok (.getfield 22, 3) := by decide +kernel
theorem dX1_addJoined_9 : decode cX1_addJoined 9 = .ok (.if_icmp .ge 59, 3) := by decide +kernel
theorem dX1_addJoined_12 : decode cX1_addJoined 12 = .ok (.iconst 0, 1) := by decide +kernel
theorem dX1_addJoined_13 : decode cX1_addJoined 13 = .ok (.istore 5, 2) := by decide +kernel
theorem dX1_addJoined_15 : decode cX1_addJoined 15 = .ok (.iload 5, 2) := by decide +kernel
theorem dX1_addJoined_17 : decode cX1_addJoined 17 = .ok (.bipush 16, 2) := by decide +kernel
theorem dX1_addJoined_19 : decode cX1_addJoined 19 = .ok (.if_icmp .ge 43, 3) := by decide +kernel
theorem dX1_addJoined_22 : decode cX1_addJoined 22 = .ok (.aload_n 1, 1) := by decide +kernel
theorem dX1_addJoined_23 : decode cX1_addJoined 23 = .ok (.aload_n 0, 1) := by decide +kernel
theorem dX1_addJoined_24 : decode cX1_addJoined 24 = .ok (.getfield 28, 3) := by decide +kernel
theorem dX1_addJoined_27 : decode cX1_addJoined 27 = .ok (.iload 4, 2) := by decide +kernel
theorem dX1_addJoined_29 : decode cX1_addJoined 29 = .ok (.iaload, 1) := by decide +kernel
theorem dX1_addJoined_30 : decode cX1_addJoined 30 = .ok (.bipush 16, 2) := by decide +kernel
theorem dX1_addJoined_32 : decode cX1_addJoined 32 = .ok (.imul, 1) := by decide +kernel
theorem dX1_addJoined_33 : decode cX1_addJoined 33 = .ok (.iload 5, 2) := by decide +kernel
theorem dX1_addJoined_35 : decode cX1_addJoined 35 = .ok (.iadd, 1) := by decide +kernel
theorem dX1_addJoined_36 : decode cX1_addJoined 36 = .ok (.iaload, 1) := by decide +kernel
theorem dX1_addJoined_37 : decode cX1_addJoined 37 = .ok (.istore 6, 2) := by decide +kernel
theorem dX1_addJoined_39 : decode cX1_addJoined 39 = .ok (.iload 6, 2) := by decide +kernel
theorem dX1_addJoined_41 : decode cX1_addJoined 41 = .ok (.ifCond .eq 15, 3) := by decide +kernel
theorem dX1_addJoined_44 : decode cX1_addJoined 44 = .ok (.aload_n 0, 1) := by decide +kernel
theorem dX1_addJoined_45 : decode cX1_addJoined 45 = .ok (.iload 4, 2) := by decide +kernel
theorem dX1_addJoined_47 : decode cX1_addJoined 47 = .ok (.iload 5, 2) := by decide +kernel
theorem dX1_addJoined_49 : decode cX1_addJoined 49 = .ok (.iload 6, 2) := by decide +kernel
theorem dX1_addJoined_51 : decode cX1_addJoined 51 = .ok (.aload_n 2, 1) := by decide +kernel
theorem dX1_addJoined_52 : decode cX1_addJoined 52 = .ok (.aload_n 3, 1) := by decide +kernel
theorem dX1_addJoined_53 : decode cX1_addJoined 53 = .ok (.invokevirtual 54, 3) := by decide +kernel
theorem dX1_addJoined_56 : decode cX1_addJoined 56 = .ok (.iinc 5 1, 3) := by decide +kernel
theorem dX1_addJoined_59 : decode cX1_addJoined 59 = .ok (.goto (-44), 3) := by decide +kernel
theorem dX1_addJoined_62 : decode cX1_addJoined 62 = .ok (.iinc 4 1, 3) := by decide +kernel
theorem dX1_addJoined_65 : decode cX1_addJoined 65 = .ok (.goto (-62), 3) := by decide +kernel
theorem dX1_addJoined_68 : decode cX1_addJoined 68 = .ok (.return_, 1) := by decide +kernel
theorem dX1_addJoinedWith_0 : decode cX1_addJoinedWith 0 = .ok (.iconst 0, 1) := by decide +kernel
theorem dX1_addJoinedWith_1 : decode cX1_addJoinedWith 1 = .ok (.istore 6, 2) := by decide +kernel
theorem dX1_addJoinedWith_3 : decode cX1_addJoinedWith 3 = .ok (.iload 6, 2) := by decide +kernel
theorem dX1_addJoinedWith_5 : decode cX1_addJoinedWith 5 = .ok (.bipush 16, 2) := by decide +kernel
theorem dX1_addJoinedWith_7 : decode cX1_addJoinedWith 7 = .ok (.if_icmp .ge 70, 3) := by decide +kernel
theorem dX1_addJoinedWith_10 : decode cX1_addJoinedWith 10 = .ok (.aload_n 0, 1) := by decide +kernel
theorem dX1_addJoinedWith_11 : decode cX1_addJoinedWith 11 = .ok (.getfield 36, 3) := by decide +kernel
theorem dX1_addJoinedWith_14 : decode cX1_addJoinedWith 14 = .ok (.iload_n 1, 1) := by decide +kernel
theorem dX1_addJoinedWith_15 : decode cX1_addJoinedWith 15 = .ok (.aaload, 1) := by decide +kernel
theorem dX1_addJoinedWith_16 : decode cX1_addJoinedWith 16 = .ok (.iload_n 2, 1) := by decide +kernel
theorem dX1_addJoinedWith_17 : decode cX1_addJoinedWith 17 = .ok (.bipush 16, 2) := by decide +kernel
theorem dX1_addJoinedWith_19 : decode cX1_addJoinedWith 19 = .ok (.imul, 1) := by decide +kernel
theorem dX1_addJoinedWith_20 : decode cX1_addJoinedWith 20 = .ok (.iload 6, 2) := by decide +kernel
theorem dX1_addJoinedWith_22 : decode cX1_addJoinedWith 22 = .ok (.iadd, 1) := by decide +kernel
theorem dX1_addJoinedWith_23 : decode cX1_addJoinedWith 23 = .ok (.iaload, 1) := by decide +kernel
theorem dX1_addJoinedWith_24 : decode cX1_addJoinedWith 24 = .ok (.istore 7, 2) := by decide +kernel
theorem dX1_addJoinedWith_26 : decode cX1_addJoinedWith 26 = .ok (.iload 7, 2) := by decide +kernel
theorem dX1_addJoinedWith_28 : decode cX1_addJoinedWith 28 = .ok (.iconst (-1), 1) := by decide +kernel
theorem dX1_addJoinedWith_29 : decode cX1_addJoinedWith 29 = .ok (.if_icmp .eq 42, 3) := by decide +kernel
theorem dX1_addJoinedWith_32 : decode cX1_addJoinedWith 32 = .ok (.aload 4, 2) := by decide +kernel
theorem dX1_addJoinedWith_34 : decode cX1_addJoinedWith 34 = .ok (.aload_n 0, 1) := by decide +kernel
theorem dX1_addJoinedWith_35 : decode cX1_addJoinedWith 35 = .ok (.getfield 31, 3) := by decide +kernel
theorem dX1_addJoinedWith_38 : decode cX1_addJoinedWith 38 = .ok (.iload_n 1, 1) := by decide +kernel
theorem dX1_addJoinedWith_39 : decode cX1_addJoinedWith 39 = .ok (.iaload, 1) := by decide +kernel
theorem dX1_addJoinedWith_40 : decode cX1_addJoinedWith 40 = .ok (.bipush 16, 2) := by decide +kernel
theorem dX1_addJoinedWith_42 : decode cX1_addJoinedWith 42 = .ok (.imul, 1) := by decide +kernel
theorem dX1_addJoinedWith_43 : decode cX1_addJoinedWith 43 = .ok (.iload 6, 2) := by decide +kernel
theorem dX1_addJoinedWith_45 : decode cX1_addJoinedWith 45 = .ok (.iadd, 1) := by decide +kernel
theorem dX1_addJoinedWith_46 : decode cX1_addJoinedWith 46 = .ok (.iaload, 1) := by decide +kernel
theorem dX1_addJoinedWith_47 : decode cX1_addJoinedWith 47 = .ok (.istore 8, 2) := by decide +kernel
theorem dX1_addJoinedWith_49 : decode cX1_addJoinedWith 49 = .ok (.aload 5, 2) := by decide +kernel
theorem dX1_addJoinedWith_51 : decode cX1_addJoinedWith 51 = .ok (.aload_n 0, 1) := by decide +kernel
theorem dX1_addJoinedWith_52 : decode cX1_addJoinedWith 52 = .ok (.getfield 25, 3) := by decide +kernel
theorem dX1_addJoinedWith_55 : decode cX1_addJoinedWith 55 = .ok (.iload_n 1, 1) := by decide +kernel
theorem dX1_addJoinedWith_56 : decode cX1_addJoinedWith 56 = .ok (.iaload, 1) := by decide +kernel
theorem dX1_addJoinedWith_57 : decode cX1_addJoinedWith 57 = .ok (.bipush 16, 2) := by decide +kernel
theorem dX1_addJoinedWith_59 : decode cX1_addJoinedWith 59 = .ok (.imul, 1) := by decide +kernel
theorem dX1_addJoinedWith_60 : decode cX1_addJoinedWith 60 = .ok (.iload 7, 2) := by decide +kernel
theorem dX1_addJoinedWith_62 : decode cX1_addJoinedWith 62 = .ok (.iadd, 1) := by decide +kernel
theorem dX1_addJoinedWith_63 : decode cX1_addJoinedWith 63 = .ok (.dup2, 1) := by decide +kernel
theorem dX1_addJoinedWith_64 : decode cX1_addJoinedWith 64 = .ok (.iaload, 1) := by decide +kernel
theorem dX1_addJoinedWith_65 : decode cX1_addJoinedWith 65 = .ok (.iload_n 3, 1) := by decide +kernel
theorem dX1_addJoinedWith_66 : decode cX1_addJoinedWith 66 = .ok (.iload 8, 2) := by decide +kernel
theorem dX1_addJoinedWith_68 : decode cX1_addJoinedWith 68 = .ok (.imul, 1) := by decide +kernel
theorem dX1_addJoinedWith_69 : decode cX1_addJoinedWith 69 = .ok (.iadd, 1) := by decide +kernel
theorem dX1_addJoinedWith_70 : decode cX1_addJoinedWith 70 = .ok (.iastore, 1) := by decide +kernel
theorem dX1_addJoinedWith_71 : decode cX1_addJoinedWith 71 = .ok (.iinc 6 1, 3) := by decide +kernel
theorem dX1_addJoinedWith_74 : decode cX1_addJoinedWith 74 = .ok (.goto (-71), 3) := by decide +kernel
theorem dX1_addJoinedWith_77 : decode cX1_addJoinedWith 77 = .ok (.return_, 1) := by decide +kernel
theorem dX2_init_0 : decode cX2_init 0 = .ok (.aload_n 0, 1) := by decide +kernel
theorem dX2_init_1 : decode cX2_init 1 = .ok (.invokespecial 3, 3) := by decide +kernel
theorem dX2_init_4 : decode cX2_init 4 = .ok (.aload_n 0, 1) := by decide +kernel
theorem dX2_init_5 : decode cX2_init 5 = .ok (.sipush 168, 3) := by decide +kernel
theorem dX2_init_8 : decode cX2_init 8 = .ok (.newarray .int, 2) := by decide +kernel
theorem dX2_init_10 : decode cX2_init 10 = .ok (.putfield 9, 3) := by decide +kernel
theorem dX2_init_13 : decode cX2_init 13 = .ok (.return_, 1) := by decide +kernel
set_option maxRecDepth 20000 in
theorem ggX2_pairsOf_X4_spanOf : GoodIn wsX2_pairsOf wsX4_spanOf := goodIn_r _ [4] (by decide +kernel) (by decide +kernel)
set_option maxRecDepth 20000 in
theorem gX2_pairsOf_X4_spanOf_n15 : GoodIn wsX2_pairsOf (wsX4_spanOf) := ggX2_pairsOf_X4_spanOf
theorem dX2_pairsOf_0 : decode cX2_pairsOf 0 = .ok (.aload_n 0, 1) := by decide +kernel
theorem dX2_pairsOf_1 : decode cX2_pairsOf 1 = .ok (.getfield 9, 3) := by decide +kernel
theorem dX2_pairsOf_4 : decode cX2_pairsOf 4 = .ok (.iload_n 1, 1) := by decide +kernel
theorem dX2_pairsOf_5 : decode cX2_pairsOf 5 = .ok (.iload_n 2, 1) := by decide +kernel
theorem dX2_pairsOf_6 : decode cX2_pairsOf 6 = .ok (.invokestatic 15, 3) := by decide +kernel
theorem dX2_pairsOf_9 : decode cX2_pairsOf 9 = .ok (.bipush 8, 2) := by decide +kernel
theorem dX2_pairsOf_11 : decode cX2_pairsOf 11 = .ok (.imul, 1) := by decide +kernel
theorem dX2_pairsOf_12 : decode cX2_pairsOf 12 = .ok (.iload_n 3, 1) := by decide +kernel
theorem dX2_pairsOf_13 : decode cX2_pairsOf 13 = .ok (.iadd, 1) := by decide +kernel
theorem dX2_pairsOf_14 : decode cX2_pairsOf 14 = .ok (.iaload, 1) := by decide +kernel
theorem dX2_pairsOf_15 : decode cX2_pairsOf 15 = .ok (.ireturn, 1) := by decide +kernel
set_option maxRecDepth 20000 in
theorem ggX2_holdsSentence_X2_pairsOf : GoodIn wsX2_holdsSentence wsX2_pairsOf := goodIn_r _ [5, 6, 7, 8, 9, 10] (by decide +kernel) (by decide +kernel)
set_option maxRecDepth 20000 in
theorem gX2_holdsSentence_X2_pairsOf : GoodIn wsX2_holdsSentence (wsV RX2 19 RX2 yX2_pairsOf wsX2_pairsOf) := goodIn_app (goodIn_of _ (by decide +kernel)) ggX2_holdsSentence_X2_pairsOf
theorem dX2_holdsSentence_0 : decode cX2_holdsSentence 0 = .ok (.iload_n 1, 1) := by decide +kernel
theorem dX2_holdsSentence_1 : decode cX2_holdsSentence 1 = .ok (.ifCond .le 17, 3) := by decide +kernel
theorem dX2_holdsSentence_4 : decode cX2_holdsSentence 4 = .ok (.aload_n 0, 1) := by decide +kernel
theorem dX2_holdsSentence_5 : decode cX2_holdsSentence 5 = .ok (.iconst 0, 1) := by decide +kernel
theorem dX2_holdsSentence_6 : decode cX2_holdsSentence 6 = .ok (.iload_n 1, 1) := by decide +kernel
theorem dX2_holdsSentence_7 : decode cX2_holdsSentence 7 = .ok (.iconst 0, 1) := by decide +kernel
theorem dX2_holdsSentence_8 : decode cX2_holdsSentence 8 = .ok (.invokevirtual 19, 3) := by decide +kernel
theorem dX2_holdsSentence_11 : decode cX2_holdsSentence 11 = .ok (.ifCond .eq 7, 3) := by decide +kernel
theorem dX2_holdsSentence_14 : decode cX2_holdsSentence 14 = .ok (.iconst 1, 1) := by decide +kernel
theorem dX2_holdsSentence_15 : decode cX2_holdsSentence 15 = .ok (.goto 4, 3) := by decide +kernel
theorem dX2_holdsSentence_18 : decode cX2_holdsSentence 18 = .ok (.iconst 0, 1) := by decide +kernel
theorem dX2_holdsSentence_19 : decode cX2_holdsSentence 19 = .ok (.ireturn, 1) := by decide +kernel
set_option maxRecDepth 20000 in
theorem ggX2_parse_X2_putWord : GoodIn wsX2_parse wsX2_putWord := goodIn_r _ [5, 6, 7, 8, 4, 9, 10, 11, 12, 13, 14, 15, 16, 17, 33, 34, 35, 36, 37, 38, 39, 40, 41] (by decide +kernel) (by decide +kernel)
set_option maxRecDepth 20000 in
theorem gX2_parse_X2_putWord : GoodIn wsX2_parse (wsV RX2 23 RX2 yX2_putWord wsX2_putWord) := goodIn_app (goodIn_of _ (by decide +kernel)) ggX2_parse_X2_putWord
set_option maxRecDepth 20000 in
theorem ggX2_parse_X2_joinUpTo : GoodIn wsX2_parse wsX2_joinUpTo := goodIn_r _ [21, 6, 7, 8, 4, 9, 10, 11, 12, 13, 22, 23, 24, 25, 26, 27, 28, 29, 30, 31, 32, 33, 34, 35, 36, 37, 38, 39, 40, 41] (by decide +kernel) (by decide +kernel)
set_option maxRecDepth 20000 in
theorem gX2_parse_X2_joinUpTo : GoodIn wsX2_parse (wsV RX2 27 RX2 yX2_joinUpTo wsX2_joinUpTo) := goodIn_app (goodIn_of _ (by decide +kernel)) ggX2_parse_X2_joinUpTo
theorem dX2_parse_0 : decode cX2_parse 0 = .ok (.iconst 0, 1) := by decide +kernel
theorem dX2_parse_1 : decode cX2_parse 1 = .ok (.istore 5, 2) := by decide +kernel
theorem dX2_parse_3 : decode cX2_parse 3 = .ok (.iload 5, 2) := by decide +kernel
theorem dX2_parse_5 : decode cX2_parse 5 = .ok (.iload_n 3, 1) := by decide +kernel
theorem dX2_parse_6 : decode cX2_parse 6 = .ok (.if_icmp .ge 31, 3) := by decide +kernel
theorem dX2_parse_9 : decode cX2_parse 9 = .ok (.aload_n 0, 1) := by decide +kernel
theorem dX2_parse_10 : decode cX2_parse 10 = .ok (.aload_n 1, 1) := by decide +kernel
theorem dX2_parse_11 : decode cX2_parse 11 = .ok (.iload 5, 2) := by decide +kernel
theorem dX2_parse_13 : decode cX2_parse 13 = .ok (.aload_n 2, 1) := by decide +kernel
theorem dX2_parse_14 : decode cX2_parse 14 = .ok (.iload 5, 2) := by decide +kernel
theorem dX2_parse_16 : decode cX2_parse 16 = .ok (.iaload, 1) := by decide +kernel
theorem dX2_parse_17 : decode cX2_parse 17 = .ok (.invokevirtual 23, 3) := by decide +kernel
theorem dX2_parse_20 : decode cX2_parse 20 = .ok (.aload_n 0, 1) := by decide +kernel
theorem dX2_parse_21 : decode cX2_parse 21 = .ok (.aload_n 1, 1) := by decide +kernel
theorem dX2_parse_22 : decode cX2_parse 22 = .ok (.iload 5, 2) := by decide +kernel
theorem dX2_parse_24 : decode cX2_parse 24 = .ok (.iconst 1, 1) := by decide +kernel
theorem dX2_parse_25 : decode cX2_parse 25 = .ok (.iadd, 1) := by decide +kernel
theorem dX2_parse_26 : decode cX2_parse 26 = .ok (.iload 4, 2) := by decide +kernel
theorem dX2_parse_28 : decode cX2_parse 28 = .ok (.invokevirtual 27, 3) := by decide +kernel
theorem dX2_parse_31 : decode cX2_parse 31 = .ok (.iinc 5 1, 3) := by decide +kernel
theorem dX2_parse_34 : decode cX2_parse 34 = .ok (.goto (-31), 3) := by decide +kernel
theorem dX2_parse_37 : decode cX2_parse 37 = .ok (.return_, 1) := by decide +kernel
set_option maxRecDepth 20000 in
theorem ggX2_putWord_X2_clearSpan : GoodIn wsX2_putWord wsX2_clearSpan := goodIn_r _ [5, 6, 7, 8, 9, 14] (by decide +kernel) (by decide +kernel)
set_option maxRecDepth 20000 in
theorem gX2_putWord_X2_clearSpan : GoodIn wsX2_putWord (wsV RX2 30 RX2 yX2_clearSpan wsX2_clearSpan) := goodIn_app (goodIn_of _ (by decide +kernel)) ggX2_putWord_X2_clearSpan
set_option maxRecDepth 20000 in
theorem ggX2_putWord_X2_allowWord : GoodIn wsX2_putWord wsX2_allowWord := goodIn_r _ [13, 6, 7, 8, 9, 14, 15, 16, 17, 18, 19, 20, 21, 22] (by decide +kernel) (by decide +kernel)
set_option maxRecDepth 20000 in
theorem gX2_putWord_X2_allowWord : GoodIn wsX2_putWord (wsV RX2 34 RX2 yX2_allowWord wsX2_allowWord) := goodIn_app (goodIn_of _ (by decide +kernel)) ggX2_putWord_X2_allowWord
theorem dX2_putWord_0 : decode cX2_putWord 0 = .ok (.aload_n 0, 1) := by decide +kernel
theorem dX2_putWord_1 : decode cX2_putWord 1 = .ok (.iload_n 2, 1) := by decide +kernel
theorem dX2_putWord_2 : decode cX2_putWord 2 = .ok (.iload_n 2, 1) := by decide +kernel
theorem dX2_putWord_3 : decode cX2_putWord 3 = .ok (.iconst 1, 1) := by decide +kernel
theorem dX2_putWord_4 : decode cX2_putWord 4 = .ok (.iadd, 1) := by decide +kernel
theorem dX2_putWord_5 : decode cX2_putWord 5 = .ok (.invokevirtual 30, 3) := by decide +kernel
theorem dX2_putWord_8 : decode cX2_putWord 8 = .ok (.aload_n 0, 1) := by decide +kernel
theorem dX2_putWord_9 : decode cX2_putWord 9 = .ok (.aload_n 1, 1) := by decide +kernel
theorem dX2_putWord_10 : decode cX2_putWord 10 = .ok (.iload_n 2, 1) := by decide +kernel
theorem dX2_putWord_11 : decode cX2_putWord 11 = .ok (.iload_n 3, 1) := by decide +kernel
theorem dX2_putWord_12 : decode cX2_putWord 12 = .ok (.invokevirtual 34, 3) := by decide +kernel
theorem dX2_putWord_15 : decode cX2_putWord 15 = .ok (.return_, 1) := by decide +kernel
set_option maxRecDepth 20000 in
theorem ggX2_putAnyWord_X2_clearSpan : GoodIn wsX2_putAnyWord wsX2_clearSpan := goodIn_r _ [5, 6, 7, 8, 9, 22] (by decide +kernel) (by decide +kernel)
set_option maxRecDepth 20000 in
theorem gX2_putAnyWord_X2_clearSpan : GoodIn wsX2_putAnyWord (wsV RX2 30 RX2 yX2_clearSpan wsX2_clearSpan) := goodIn_app (goodIn_of _ (by decide +kernel)) ggX2_putAnyWord_X2_clearSpan
set_option maxRecDepth 20000 in
theorem ggX2_putAnyWord_X2_allowWord : GoodIn wsX2_putAnyWord wsX2_allowWord := goodIn_r _ [13, 6, 7, 8, 9, 22, 14, 15, 16, 17, 18, 19, 20, 21] (by decide +kernel) (by decide +kernel)
set_option maxRecDepth 20000 in
theorem gX2_putAnyWord_X2_allowWord : GoodIn wsX2_putAnyWord (wsV RX2 34 RX2 yX2_allowWord wsX2_allowWord) := goodIn_app (goodIn_of _ (by decide +kernel)) ggX2_putAnyWord_X2_allowWord
theorem dX2_putAnyWord_0 : decode cX2_putAnyWord 0 = .ok (.aload_n 0, 1) := by decide +kernel
theorem dX2_putAnyWord_1 : decode cX2_putAnyWord 1 = .ok (.iload_n 2, 1) := by decide +kernel
theorem dX2_putAnyWord_2 : decode cX2_putAnyWord 2 = .ok (.iload_n 2, 1) := by decide +kernel
theorem dX2_putAnyWord_3 : decode cX2_putAnyWord 3 = .ok (.iconst 1, 1) := by decide +kernel
theorem dX2_putAnyWord_4 : decode cX2_putAnyWord 4 = .ok (.iadd, 1) := by decide +kernel
theorem dX2_putAnyWord_5 : decode cX2_putAnyWord 5 = .ok (.invokevirtual 30, 3) := by decide +kernel
theorem dX2_putAnyWord_8 : decode cX2_putAnyWord 8 = .ok (.iconst 0, 1) := by decide +kernel
theorem dX2_putAnyWord_9 : decode cX2_putAnyWord 9 = .ok (.istore_n 3, 1) := by decide +kernel
theorem dX2_putAnyWord_10 : decode cX2_putAnyWord 10 = .ok (.iload_n 3, 1) := by decide +kernel
theorem dX2_putAnyWord_11 : decode cX2_putAnyWord 11 = .ok (.aload_n 1, 1) := by decide +kernel
theorem dX2_putAnyWord_12 : decode cX2_putAnyWord 12 = .ok (.getfield 37, 3) := by decide +kernel
theorem dX2_putAnyWord_15 : decode cX2_putAnyWord 15 = .ok (.if_icmp .ge 16, 3) := by decide +kernel
theorem dX2_putAnyWord_18 : decode cX2_putAnyWord 18 = .ok (.aload_n 0, 1) := by decide +kernel
theorem dX2_putAnyWord_19 : decode cX2_putAnyWord 19 = .ok (.aload_n 1, 1) := by decide +kernel
theorem dX2_putAnyWord_20 : decode cX2_putAnyWord 20 = .ok (.iload_n 2, 1) := by decide +kernel
theorem dX2_putAnyWord_21 : decode cX2_putAnyWord 21 = .ok (.iload_n 3, 1) := by decide +kernel
theorem dX2_putAnyWord_22 : decode cX2_putAnyWord 22 = .ok (.invokevirtual 34, 3) := by decide +kernel
theorem dX2_putAnyWord_25 : decode cX2_putAnyWord 25 = .ok (.iinc 3 1, 3) := by decide +kernel
theorem dX2_putAnyWord_28 : decode cX2_putAnyWord 28 = .ok (.goto (-18), 3) := by decide +kernel
theorem dX2_putAnyWord_31 : decode cX2_putAnyWord 31 = .ok (.return_, 1) := by decide +kernel
set_option maxRecDepth 20000 in
theorem ggX2_allowWord_X4_spanOf : GoodIn wsX2_allowWord wsX4_spanOf := goodIn_r _ [4] (by decide +kernel) (by decide +kernel)
set_option maxRecDepth 20000 in
theorem gX2_allowWord_X4_spanOf_n15 : GoodIn wsX2_allowWord (wsX4_spanOf) := ggX2_allowWord_X4_spanOf
theorem dX2_allowWord_0 : decode cX2_allowWord 0 = .ok (.iload_n 2, 1) := by decide +kernel
theorem dX2_allowWord_1 : decode cX2_allowWord 1 = .ok (.iload_n 2, 1) := by decide +kernel
theorem dX2_allowWord_2 : decode cX2_allowWord 2 = .ok (.iconst 1, 1) := by decide +kernel
theorem dX2_allowWord_3 : decode cX2_allowWord 3 = .ok (.iadd, 1) := by decide +kernel
theorem dX2_allowWord_4 : decode cX2_allowWord 4 = .ok (.invokestatic 15, 3) := by decide +kernel
theorem dX2_allowWord_7 : decode cX2_allowWord 7 = .ok (.istore 4, 2) := by decide +kernel
theorem dX2_allowWord_9 : decode cX2_allowWord 9 = .ok (.aload_n 0, 1) := by decide +kernel
theorem dX2_allowWord_10 : decode cX2_allowWord 10 = .ok (.getfield 9, 3) := by decide +kernel
theorem dX2_allowWord_13 : decode cX2_allowWord 13 = .ok (.iload 4, 2) := by decide +kernel
theorem dX2_allowWord_15 : decode cX2_allowWord 15 = .ok (.bipush 8, 2) := by decide +kernel
theorem dX2_allowWord_17 : decode cX2_allowWord 17 = .ok (.imul, 1) := by decide +kernel
theorem dX2_allowWord_18 : decode cX2_allowWord 18 = .ok (.aload_n 1, 1) := by decide +kernel
theorem dX2_allowWord_19 : decode cX2_allowWord 19 = .ok (.getfield 43, 3) := by decide +kernel
theorem dX2_allowWord_22 : decode cX2_allowWord 22 = .ok (.iload_n 3, 1) := by decide +kernel
theorem dX2_allowWord_23 : decode cX2_allowWord 23 = .ok (.iaload, 1) := by decide +kernel
theorem dX2_allowWord_24 : decode cX2_allowWord 24 = .ok (.iadd, 1) := by decide +kernel
theorem dX2_allowWord_25 : decode cX2_allowWord 25 = .ok (.dup2, 1) := by decide +kernel
theorem dX2_allowWord_26 : decode cX2_allowWord 26 = .ok (.iaload, 1) := by decide +kernel
theorem dX2_allowWord_27 : decode cX2_allowWord 27 = .ok (.iconst 1, 1) := by decide +kernel
theorem dX2_allowWord_28 : decode cX2_allowWord 28 = .ok (.aload_n 1, 1) := by decide +kernel
theorem dX2_allowWord_29 : decode cX2_allowWord 29 = .ok (.getfield 46, 3) := by decide +kernel
theorem dX2_allowWord_32 : decode cX2_allowWord 32 = .ok (.iload_n 3, 1) := by decide +kernel
theorem dX2_allowWord_33 : decode cX2_allowWord 33 = .ok (.iaload, 1) := by decide +kernel
theorem dX2_allowWord_34 : decode cX2_allowWord 34 = .ok (.ishl, 1) := by decide +kernel
theorem dX2_allowWord_35 : decode cX2_allowWord 35 = .ok (.ior, 1) := by decide +kernel
theorem dX2_allowWord_36 : decode cX2_allowWord 36 = .ok (.iastore, 1) := by decide +kernel
theorem dX2_allowWord_37 : decode cX2_allowWord 37 = .ok (.return_, 1) := by decide +kernel
set_option maxRecDepth 20000 in
theorem ggX2_clearSpan_X4_spanOf : GoodIn wsX2_clearSpan wsX4_spanOf := goodIn_r _ [4] (by decide +kernel) (by decide +kernel)
set_option maxRecDepth 20000 in
theorem gX2_clearSpan_X4_spanOf_n15 : GoodIn wsX2_clearSpan (wsX4_spanOf) := ggX2_clearSpan_X4_spanOf
theorem dX2_clearSpan_0 : decode cX2_clearSpan 0 = .ok (.iload_n 1, 1) := by decide +kernel
theorem dX2_clearSpan_1 : decode cX2_clearSpan 1 = .ok (.iload_n 2, 1) := by decide +kernel
theorem dX2_clearSpan_2 : decode cX2_clearSpan 2 = .ok (.invokestatic 15, 3) := by decide +kernel
theorem dX2_clearSpan_5 : decode cX2_clearSpan 5 = .ok (.bipush 8, 2) := by decide +kernel
theorem dX2_clearSpan_7 : decode cX2_clearSpan 7 = .ok (.imul, 1) := by decide +kernel
theorem dX2_clearSpan_8 : decode cX2_clearSpan 8 = .ok (.istore_n 3, 1) := by decide +kernel
theorem dX2_clearSpan_9 : decode cX2_clearSpan 9 = .ok (.iconst 0, 1) := by decide +kernel
theorem dX2_clearSpan_10 : decode cX2_clearSpan 10 = .ok (.istore 4, 2) := by decide +kernel
theorem dX2_clearSpan_12 : decode cX2_clearSpan 12 = .ok (.iload 4, 2) := by decide +kernel
theorem dX2_clearSpan_14 : decode cX2_clearSpan 14 = .ok (.bipush 8, 2) := by decide +kernel
theorem dX2_clearSpan_16 : decode cX2_clearSpan 16 = .ok (.if_icmp .ge 19, 3) := by decide +kernel
theorem dX2_clearSpan_19 : decode cX2_clearSpan 19 = .ok (.aload_n 0, 1) := by decide +kernel
theorem dX2_clearSpan_20 : decode cX2_clearSpan 20 = .ok (.getfield 9, 3) := by decide +kernel
theorem dX2_clearSpan_23 : decode cX2_clearSpan 23 = .ok (.iload_n 3, 1) := by decide +kernel
theorem dX2_clearSpan_24 : decode cX2_clearSpan 24 = .ok (.iload 4, 2) := by decide +kernel
theorem dX2_clearSpan_26 : decode cX2_clearSpan 26 = .ok (.iadd, 1) := by decide +kernel
theorem dX2_clearSpan_27 : decode cX2_clearSpan 27 = .ok (.iconst 0, 1) := by decide +kernel
theorem dX2_clearSpan_28 : decode cX2_clearSpan 28 = .ok (.iastore, 1) := by decide +kernel
theorem dX2_clearSpan_29 : decode cX2_clearSpan 29 = .ok (.iinc 4 1, 3) := by decide +kernel
theorem dX2_clearSpan_32 : decode cX2_clearSpan 32 = .ok (.goto (-20), 3) := by decide +kernel
theorem dX2_clearSpan_35 : decode cX2_clearSpan 35 = .ok (.return_, 1) := by decide +kernel
set_option maxRecDepth 20000 in
theorem ggX2_joinUpTo_X2_clearSpan : GoodIn wsX2_joinUpTo wsX2_clearSpan := goodIn_r _ [5, 6, 7, 8, 9, 21] (by decide +kernel) (by decide +kernel)
set_option maxRecDepth 20000 in
theorem gX2_joinUpTo_X2_clearSpan : GoodIn wsX2_joinUpTo (wsV RX2 30 RX2 yX2_clearSpan wsX2_clearSpan) := goodIn_app (goodIn_of _ (by decide +kernel)) ggX2_joinUpTo_X2_clearSpan
set_option maxRecDepth 20000 in
theorem ggX2_joinUpTo_X4_spanOf : GoodIn wsX2_joinUpTo wsX4_spanOf := goodIn_r _ [9] (by decide +kernel) (by decide +kernel)
set_option maxRecDepth 20000 in
theorem gX2_joinUpTo_X4_spanOf_n15 : GoodIn wsX2_joinUpTo (wsX4_spanOf) := ggX2_joinUpTo_X4_spanOf
set_option maxRecDepth 20000 in
theorem ggX2_joinUpTo_X2_join : GoodIn wsX2_joinUpTo wsX2_join := goodIn_r _ [13, 6, 14, 15, 16, 17, 18, 19, 8, 20, 21, 22, 23, 24, 25, 26, 27, 28, 29] (by decide +kernel) (by decide +kernel)
set_option maxRecDepth 20000 in
theorem gX2_joinUpTo_X2_join : GoodIn wsX2_joinUpTo (wsV RX2 49 RX2 yX2_join wsX2_join) := goodIn_app (goodIn_of _ (by decide +kernel)) ggX2_joinUpTo_X2_join
theorem dX2_joinUpTo_0 : decode cX2_joinUpTo 0 = .ok (.iload_n 2, 1) := by decide +kernel
theorem dX2_joinUpTo_1 : decode cX2_joinUpTo 1 = .ok (.iconst 2, 1) := by decide +kernel
theorem dX2_joinUpTo_2 : decode cX2_joinUpTo 2 = .ok (.isub, 1) := by decide +kernel
theorem dX2_joinUpTo_3 : decode cX2_joinUpTo 3 = .ok (.istore 4, 2) := by decide +kernel
theorem dX2_joinUpTo_5 : decode cX2_joinUpTo 5 = .ok (.iload 4, 2) := by decide +kernel
theorem dX2_joinUpTo_7 : decode cX2_joinUpTo 7 = .ok (.ifCond .lt 80, 3) := by decide +kernel
theorem dX2_joinUpTo_10 : decode cX2_joinUpTo 10 = .ok (.aload_n 0, 1) := by decide +kernel
theorem dX2_joinUpTo_11 : decode cX2_joinUpTo 11 = .ok (.iload 4, 2) := by decide +kernel
theorem dX2_joinUpTo_13 : decode cX2_joinUpTo 13 = .ok (.iload_n 2, 1) := by decide +kernel
theorem dX2_joinUpTo_14 : decode cX2_joinUpTo 14 = .ok (.invokevirtual 30, 3) := by decide +kernel
theorem dX2_joinUpTo_17 : decode cX2_joinUpTo 17 = .ok (.iload 4, 2) := by decide +kernel
theorem dX2_joinUpTo_19 : decode cX2_joinUpTo 19 = .ok (.iload_n 2, 1) := by decide +kernel
theorem dX2_joinUpTo_20 : decode cX2_joinUpTo 20 = .ok (.invokestatic 15, 3) := by decide +kernel
theorem dX2_joinUpTo_23 : decode cX2_joinUpTo 23 = .ok (.bipush 8, 2) := by decide +kernel
theorem dX2_joinUpTo_25 : decode cX2_joinUpTo 25 = .ok (.imul, 1) := by decide +kernel
theorem dX2_joinUpTo_26 : decode cX2_joinUpTo 26 = .ok (.istore 5, 2) := by decide +kernel
theorem dX2_joinUpTo_28 : decode cX2_joinUpTo 28 = .ok (.iload 4, 2) := by decide +kernel
theorem dX2_joinUpTo_30 : decode cX2_joinUpTo 30 = .ok (.iconst 1, 1) := by decide +kernel
theorem dX2_joinUpTo_31 : decode cX2_joinUpTo 31 = .ok (.iadd, 1) := by decide +kernel
theorem dX2_joinUpTo_32 : decode cX2_joinUpTo 32 = .ok (.istore 6, 2) := by decide +kernel
theorem dX2_joinUpTo_34 : decode cX2_joinUpTo 34 = .ok (.iload 6, 2) := by decide +kernel
theorem dX2_joinUpTo_36 : decode cX2_joinUpTo 36 = .ok (.iload_n 2, 1) := by decide +kernel
theorem dX2_joinUpTo_37 : decode cX2_joinUpTo 37 = .ok (.if_icmp .ge 44, 3) := by decide +kernel
theorem dX2_joinUpTo_40 : decode cX2_joinUpTo 40 = .ok (.iload 4, 2) := by decide +kernel
theorem dX2_joinUpTo_42 : decode cX2_joinUpTo 42 = .ok (.iload 6, 2) := by decide +kernel
theorem dX2_joinUpTo_44 : decode cX2_joinUpTo 44 = .ok (.invokestatic 15, 3) := by decide +kernel
theorem dX2_joinUpTo_47 : decode cX2_joinUpTo 47 = .ok (.bipush 8, 2) := by decide +kernel
theorem dX2_joinUpTo_49 : decode cX2_joinUpTo 49 = .ok (.imul, 1) := by decide +kernel
theorem dX2_joinUpTo_50 : decode cX2_joinUpTo 50 = .ok (.istore 7, 2) := by decide +kernel
theorem dX2_joinUpTo_52 : decode cX2_joinUpTo 52 = .ok (.iload 6, 2) := by decide +kernel
theorem dX2_joinUpTo_54 : decode cX2_joinUpTo 54 = .ok (.iload_n 2, 1) := by decide +kernel
theorem dX2_joinUpTo_55 : decode cX2_joinUpTo 55 = .ok (.invokestatic 15, 3) := by decide +kernel
theorem dX2_joinUpTo_58 : decode cX2_joinUpTo 58 = .ok (.bipush 8, 2) := by decide +kernel
theorem dX2_joinUpTo_60 : decode cX2_joinUpTo 60 = .ok (.imul, 1) := by decide +kernel
theorem dX2_joinUpTo_61 : decode cX2_joinUpTo 61 = .ok (.istore 8, 2) := by decide +kernel
theorem dX2_joinUpTo_63 : decode cX2_joinUpTo 63 = .ok (.aload_n 0, 1) := by decide +kernel
theorem dX2_joinUpTo_64 : decode cX2_joinUpTo 64 = .ok (.aload_n 1, 1) := by decide +kernel
theorem dX2_joinUpTo_65 : decode cX2_joinUpTo 65 = .ok (.iload_n 3, 1) := by decide +kernel
theorem dX2_joinUpTo_66 : decode cX2_joinUpTo 66 = .ok (.iload 7, 2) := by decide +kernel
theorem dX2_joinUpTo_68 : decode cX2_joinUpTo 68 = .ok (.iload 8, 2) := by decide +kernel
theorem dX2_joinUpTo_70 : decode cX2_joinUpTo 70 = .ok (.iload 5, 2) := by decide +kernel
theorem dX2_joinUpTo_72 : decode cX2_joinUpTo 72 = .ok (.invokevirtual 49, 3) := by decide +kernel
theorem dX2_joinUpTo_75 : decode cX2_joinUpTo 75 = .ok (.iinc 6 1, 3) := by decide +kernel
theorem dX2_joinUpTo_78 : decode cX2_joinUpTo 78 = .ok (.goto (-44), 3) := by decide +kernel
theorem dX2_joinUpTo_81 : decode cX2_joinUpTo 81 = .ok (.iinc 4 (-1), 3) := by decide +kernel
theorem dX2_joinUpTo_84 : decode cX2_joinUpTo 84 = .ok (.goto (-79), 3) := by decide +kernel
theorem dX2_joinUpTo_87 : decode cX2_joinUpTo 87 = .ok (.return_, 1) := by decide +kernel
set_option maxRecDepth 20000 in
theorem ggX2_join_X1_pairsMade : GoodIn wsX2_join wsX1_pairsMade := goodIn_r _ [5, 6, 7, 8, 9, 11, 12, 13, 14, 15, 16, 17, 18] (by decide +kernel) (by decide +kernel)
set_option maxRecDepth 20000 in
theorem gX2_join_X1_pairsMade_n59 : GoodIn wsX2_join (wsX1_pairsMade) := ggX2_join_X1_pairsMade
theorem dX2_join_0 : decode cX2_join 0 = .ok (.iconst 0, 1) := by decide +kernel
theorem dX2_join_1 : decode cX2_join 1 = .ok (.istore 6, 2) := by decide +kernel
theorem dX2_join_3 : decode cX2_join 3 = .ok (.iload 6, 2) := by decide +kernel
theorem dX2_join_5 : decode cX2_join 5 = .ok (.iload_n 2, 1) := by decide +kernel
theorem dX2_join_6 : decode cX2_join 6 = .ok (.if_icmp .ge 84, 3) := by decide +kernel
theorem dX2_join_9 : decode cX2_join 9 = .ok (.aload_n 0, 1) := by decide +kernel
theorem dX2_join_10 : decode cX2_join 10 = .ok (.getfield 9, 3) := by decide +kernel
theorem dX2_join_13 : decode cX2_join 13 = .ok (.iload_n 3, 1) := by decide +kernel
theorem dX2_join_14 : decode cX2_join 14 = .ok (.aload_n 1, 1) := by decide +kernel
theorem dX2_join_15 : decode cX2_join 15 = .ok (.getfield 53, 3) := by decide +kernel
theorem dX2_join_18 : decode cX2_join 18 = .ok (.iload 6, 2) := by decide +kernel
theorem dX2_join_20 : decode cX2_join 20 = .ok (.iaload, 1) := by decide +kernel
theorem dX2_join_21 : decode cX2_join 21 = .ok (.iadd, 1) := by decide +kernel
theorem dX2_join_22 : decode cX2_join 22 = .ok (.iaload, 1) := by decide +kernel
theorem dX2_join_23 : decode cX2_join 23 = .ok (.istore 7, 2) := by decide +kernel
theorem dX2_join_25 : decode cX2_join 25 = .ok (.aload_n 0, 1) := by decide +kernel
theorem dX2_join_26 : decode cX2_join 26 = .ok (.getfield 9, 3) := by decide +kernel
theorem dX2_join_29 : decode cX2_join 29 = .ok (.iload 4, 2) := by decide +kernel
theorem dX2_join_31 : decode cX2_join 31 = .ok (.aload_n 1, 1) := by decide +kernel
theorem dX2_join_32 : decode cX2_join 32 = .ok (.getfield 56, 3) := by decide +kernel
theorem dX2_join_35 : decode cX2_join 35 = .ok (.iload 6, 2) := by decide +kernel
theorem dX2_join_37 : decode cX2_join 37 = .ok (.iaload, 1) := by decide +kernel
theorem dX2_join_38 : decode cX2_join 38 = .ok (.iadd, 1) := by decide +kernel
theorem dX2_join_39 : decode cX2_join 39 = .ok (.iaload, 1) := by decide +kernel
theorem dX2_join_40 : decode cX2_join 40 = .ok (.istore 8, 2) := by decide +kernel
theorem dX2_join_42 : decode cX2_join 42 = .ok (.iload 7, 2) := by decide +kernel
theorem dX2_join_44 : decode cX2_join 44 = .ok (.ifCond .eq 40, 3) := by decide +kernel
theorem dX2_join_47 : decode cX2_join 47 = .ok (.iload 8, 2) := by decide +kernel
theorem dX2_join_49 : decode cX2_join 49 = .ok (.ifCond .eq 35, 3) := by decide +kernel
theorem dX2_join_52 : decode cX2_join 52 = .ok (.aload_n 1, 1) := by decide +kernel
theorem dX2_join_53 : decode cX2_join 53 = .ok (.iload 6, 2) := by decide +kernel
theorem dX2_join_55 : decode cX2_join 55 = .ok (.iload 7, 2) := by decide +kernel
theorem dX2_join_57 : decode cX2_join 57 = .ok (.iload 8, 2) := by decide +kernel
theorem dX2_join_59 : decode cX2_join 59 = .ok (.invokevirtual 59, 3) := by decide +kernel
theorem dX2_join_62 : decode cX2_join 62 = .ok (.istore 9, 2) := by decide +kernel
theorem dX2_join_64 : decode cX2_join 64 = .ok (.aload_n 0, 1) := by decide +kernel
theorem dX2_join_65 : decode cX2_join 65 = .ok (.getfield 9, 3) := by decide +kernel
theorem dX2_join_68 : decode cX2_join 68 = .ok (.iload 5, 2) := by decide +kernel
theorem dX2_join_70 : decode cX2_join 70 = .ok (.aload_n 1, 1) := by decide +kernel
theorem dX2_join_71 : decode cX2_join 71 = .ok (.getfield 62, 3) := by decide +kernel
theorem dX2_join_74 : decode cX2_join 74 = .ok (.iload 6, 2) := by decide +kernel
theorem dX2_join_76 : decode cX2_join 76 = .ok (.iaload, 1) := by decide +kernel
theorem dX2_join_77 : decode cX2_join 77 = .ok (.iadd, 1) := by decide +kernel
theorem dX2_join_78 : decode cX2_join 78 = .ok (.dup2, 1) := by decide +kernel
theorem dX2_join_79 : decode cX2_join 79 = .ok (.iaload, 1) := by decide +kernel
theorem dX2_join_80 : decode cX2_join 80 = .ok (.iload 9, 2) := by decide +kernel
theorem dX2_join_82 : decode cX2_join 82 = .ok (.ior, 1) := by decide +kernel
theorem dX2_join_83 : decode cX2_join 83 = .ok (.iastore, 1) := by decide +kernel
theorem dX2_join_84 : decode cX2_join 84 = .ok (.iinc 6 1, 3) := by decide +kernel
theorem dX2_join_87 : decode cX2_join 87 = .ok (.goto (-84), 3) := by decide +kernel
theorem dX2_join_90 : decode cX2_join 90 = .ok (.return_, 1) := by decide +kernel
theorem dX3_init_0 : decode cX3_init 0 = .ok (.aload_n 0, 1) := by decide +kernel
theorem dX3_init_1 : decode cX3_init 1 = .ok (.invokespecial 3, 3) := by decide +kernel
theorem dX3_init_4 : decode cX3_init 4 = .ok (.aload_n 0, 1) := by decide +kernel
theorem dX3_init_5 : decode cX3_init 5 = .ok (.bipush 13, 2) := by decide +kernel
theorem dX3_init_7 : decode cX3_init 7 = .ok (.sipush 128, 3) := by decide +kernel
theorem dX3_init_10 : decode cX3_init 10 = .ok (.multianewarray 9 2, 4) := by decide +kernel
theorem dX3_init_14 : decode cX3_init 14 = .ok (.putfield 11, 3) := by decide +kernel
theorem dX3_init_17 : decode cX3_init 17 = .ok (.return_, 1) := by decide +kernel
set_option maxRecDepth 20000 in
theorem ggX3_countRow_X3_count : GoodIn wsX3_countRow wsX3_count := goodIn_r _ [6, 1, 7, 8, 9, 10, 11, 12, 13, 14, 15, 16, 2, 3, 4, 5, 17, 18, 19, 20, 21, 22, 23, 24, 25, 26, 27, 28, 32, 33, 34, 35, 36, 37, 38, 39, 40] (by decide +kernel) (by decide +kernel)
set_option maxRecDepth 20000 in
theorem gX3_countRow_X3_count : GoodIn wsX3_countRow (wsV RX3 16 RX3 yX3_count wsX3_count) := goodIn_app (goodIn_of _ (by decide +kernel)) ggX3_countRow_X3_count
set_option maxRecDepth 20000 in
theorem ggX3_countRow_X4_countOf : GoodIn wsX3_countRow wsX4_countOf := goodIn_r _ [31] (by decide +kernel) (by decide +kernel)
set_option maxRecDepth 20000 in
theorem gX3_countRow_X4_countOf_n20 : GoodIn wsX3_countRow (wsX4_countOf) := ggX3_countRow_X4_countOf
theorem dX3_countRow_0 : decode cX3_countRow 0 = .ok (.aload_n 0, 1) := by decide +kernel
theorem dX3_countRow_1 : decode cX3_countRow 1 = .ok (.aload_n 1, 1) := by decide +kernel
theorem dX3_countRow_2 : decode cX3_countRow 2 = .ok (.aload_n 2, 1) := by decide +kernel
theorem dX3_countRow_3 : decode cX3_countRow 3 = .ok (.iconst 0, 1) := by decide +kernel
theorem dX3_countRow_4 : decode cX3_countRow 4 = .ok (.iload_n 3, 1) := by decide +kernel
theorem dX3_countRow_5 : decode cX3_countRow 5 = .ok (.iconst 0, 1) := by decide +kernel
theorem dX3_countRow_6 : decode cX3_countRow 6 = .ok (.iconst 0, 1) := by decide +kernel
theorem dX3_countRow_7 : decode cX3_countRow 7 = .ok (.invokevirtual 16, 3) := by decide +kernel
theorem dX3_countRow_10 : decode cX3_countRow 10 = .ok (.aload_n 0, 1) := by decide +kernel
theorem dX3_countRow_11 : decode cX3_countRow 11 = .ok (.getfield 11, 3) := by decide +kernel
theorem dX3_countRow_14 : decode cX3_countRow 14 = .ok (.iconst 0, 1) := by decide +kernel
theorem dX3_countRow_15 : decode cX3_countRow 15 = .ok (.aaload, 1) := by decide +kernel
theorem dX3_countRow_16 : decode cX3_countRow 16 = .ok (.iload 4, 2) := by decide +kernel
theorem dX3_countRow_18 : decode cX3_countRow 18 = .ok (.invokestatic 20, 3) := by decide +kernel
theorem dX3_countRow_21 : decode cX3_countRow 21 = .ok (.ireturn, 1) := by decide +kernel
set_option maxRecDepth 20000 in
theorem ggX3_count_J7_fill_53178 : GoodIn wsX3_count wsJ7_fill_53178 := goodIn_r _ [5] (by decide +kernel) (by decide +kernel)
set_option maxRecDepth 20000 in
theorem gX3_count_J7_fill_53178 : GoodIn wsX3_count (va_wsS RX3 24 yJ7_fill_53178 wsJ7_fill_53178) := goodIn_app (goodIn_of _ (by decide +kernel)) ggX3_count_J7_fill_53178
set_option maxRecDepth 20000 in
theorem ggX3_count_X1_countWord : GoodIn wsX3_count wsX1_countWord := goodIn_r _ [9, 10, 11, 29, 30, 31, 32, 33, 34, 35, 36] (by decide +kernel) (by decide +kernel)
set_option maxRecDepth 20000 in
theorem gX3_count_X1_countWord_n30 : GoodIn wsX3_count (wsX1_countWord) := ggX3_count_X1_countWord
set_option maxRecDepth 20000 in
theorem ggX3_count_X3_count : GoodIn wsX3_count wsX3_count := goodIn_r _ [0, 1, 2, 3, 4, 5, 6, 7, 8, 9, 10, 11, 12, 13, 14, 15, 16, 17, 18, 19, 20, 21, 22, 23, 24, 25, 26, 27, 28, 29, 30, 31, 32, 33, 34, 35, 36] (by decide +kernel) (by decide +kernel)
set_option maxRecDepth 20000 in
theorem gX3_count_X3_count : GoodIn wsX3_count (wsV RX3 16 RX3 yX3_count wsX3_count) := goodIn_app (goodIn_of _ (by decide +kernel)) ggX3_count_X3_count
set_option maxRecDepth 20000 in
theorem ggX3_count_X1_addJoined : GoodIn wsX3_count wsX1_addJoined := goodIn_r _ [18, 19, 20, 21, 22, 23, 7, 24, 25, 26, 27, 29, 30, 31, 32, 33, 34, 35, 36] (by decide +kernel) (by decide +kernel)
set_option maxRecDepth 20000 in
theorem gX3_count_X1_addJoined_n36 : GoodIn wsX3_count (wsX1_addJoined) := ggX3_count_X1_addJoined
theorem dX3_count_0 : decode cX3_count 0 = .ok (.aload_n 0, 1) := by decide +kernel
theorem dX3_count_1 : decode cX3_count 1 = .ok (.getfield 11, 3) := by decide +kernel
theorem dX3_count_4 : decode cX3_count 4 = .ok (.iload 6, 2) := by decide +kernel
theorem dX3_count_6 : decode cX3_count 6 = .ok (.aaload, 1) := by decide +kernel
theorem dX3_count_7 : decode cX3_count 7 = .ok (.iconst 0, 1) := by decide +kernel
theorem dX3_count_8 : decode cX3_count 8 = .ok (.invokestatic 24, 3) := by decide +kernel
theorem dX3_count_11 : decode cX3_count 11 = .ok (.iload 5, 2) := by decide +kernel
theorem dX3_count_13 : decode cX3_count 13 = .ok (.bipush 6, 2) := by decide +kernel
theorem dX3_count_15 : decode cX3_count 15 = .ok (.if_icmp .lt 4, 3) := by decide +kernel
theorem dX3_count_18 : decode cX3_count 18 = .ok (.return_, 1) := by decide +kernel
theorem dX3_count_19 : decode cX3_count 19 = .ok (.iload 4, 2) := by decide +kernel
theorem dX3_count_21 : decode cX3_count 21 = .ok (.iload_n 3, 1) := by decide +kernel
theorem dX3_count_22 : decode cX3_count 22 = .ok (.iconst 1, 1) := by decide +kernel
theorem dX3_count_23 : decode cX3_count 23 = .ok (.iadd, 1) := by decide +kernel
theorem dX3_count_24 : decode cX3_count 24 = .ok (.if_icmp .ne 17, 3) := by decide +kernel
theorem dX3_count_27 : decode cX3_count 27 = .ok (.aload_n 1, 1) := by decide +kernel
theorem dX3_count_28 : decode cX3_count 28 = .ok (.aload_n 2, 1) := by decide +kernel
theorem dX3_count_29 : decode cX3_count 29 = .ok (.iload_n 3, 1) := by decide +kernel
theorem dX3_count_30 : decode cX3_count 30 = .ok (.iaload, 1) := by decide +kernel
theorem dX3_count_31 : decode cX3_count 31 = .ok (.aload_n 0, 1) := by decide +kernel
theorem dX3_count_32 : decode cX3_count 32 = .ok (.getfield 11, 3) := by decide +kernel
theorem dX3_count_35 : decode cX3_count 35 = .ok (.iload 6, 2) := by decide +kernel
theorem dX3_count_37 : decode cX3_count 37 = .ok (.aaload, 1) := by decide +kernel
theorem dX3_count_38 : decode cX3_count 38 = .ok (.invokevirtual 30, 3) := by decide +kernel
theorem dX3_count_41 : decode cX3_count 41 = .ok (.iconst 2, 1) := by decide +kernel
theorem dX3_count_42 : decode cX3_count 42 = .ok (.iload 5, 2) := by decide +kernel
theorem dX3_count_44 : decode cX3_count 44 = .ok (.imul, 1) := by decide +kernel
theorem dX3_count_45 : decode cX3_count 45 = .ok (.iconst 1, 1) := by decide +kernel
theorem dX3_count_46 : decode cX3_count 46 = .ok (.iadd, 1) := by decide +kernel
theorem dX3_count_47 : decode cX3_count 47 = .ok (.istore 7, 2) := by decide +kernel
theorem dX3_count_49 : decode cX3_count 49 = .ok (.iload 7, 2) := by decide +kernel
theorem dX3_count_51 : decode cX3_count 51 = .ok (.iconst 1, 1) := by decide +kernel
theorem dX3_count_52 : decode cX3_count 52 = .ok (.iadd, 1) := by decide +kernel
theorem dX3_count_53 : decode cX3_count 53 = .ok (.istore 8, 2) := by decide +kernel
theorem dX3_count_55 : decode cX3_count 55 = .ok (.iload_n 3, 1) := by decide +kernel
theorem dX3_count_56 : decode cX3_count 56 = .ok (.iconst 1, 1) := by decide +kernel
theorem dX3_count_57 : decode cX3_count 57 = .ok (.iadd, 1) := by decide +kernel
theorem dX3_count_58 : decode cX3_count 58 = .ok (.istore 9, 2) := by decide +kernel
theorem dX3_count_60 : decode cX3_count 60 = .ok (.iload 9, 2) := by decide +kernel
theorem dX3_count_62 : decode cX3_count 62 = .ok (.iload 4, 2) := by decide +kernel
theorem dX3_count_64 : decode cX3_count 64 = .ok (.if_icmp .ge 65, 3) := by decide +kernel
theorem dX3_count_67 : decode cX3_count 67 = .ok (.aload_n 0, 1) := by decide +kernel
theorem dX3_count_68 : decode cX3_count 68 = .ok (.aload_n 1, 1) := by decide +kernel
theorem dX3_count_69 : decode cX3_count 69 = .ok (.aload_n 2, 1) := by decide +kernel
theorem dX3_count_70 : decode cX3_count 70 = .ok (.iload_n 3, 1) := by decide +kernel
theorem dX3_count_71 : decode cX3_count 71 = .ok (.iload 9, 2) := by decide +kernel
theorem dX3_count_73 : decode cX3_count 73 = .ok (.iload 5, 2) := by decide +kernel
theorem dX3_count_75 : decode cX3_count 75 = .ok (.iconst 1, 1) := by decide +kernel
theorem dX3_count_76 : decode cX3_count 76 = .ok (.iadd, 1) := by decide +kernel
theorem dX3_count_77 : decode cX3_count 77 = .ok (.iload 7, 2) := by decide +kernel
theorem dX3_count_79 : decode cX3_count 79 = .ok (.invokevirtual 16, 3) := by decide +kernel
theorem dX3_count_82 : decode cX3_count 82 = .ok (.aload_n 0, 1) := by decide +kernel
theorem dX3_count_83 : decode cX3_count 83 = .ok (.aload_n 1, 1) := by decide +kernel
theorem dX3_count_84 : decode cX3_count 84 = .ok (.aload_n 2, 1) := by decide +kernel
theorem dX3_count_85 : decode cX3_count 85 = .ok (.iload 9, 2) := by decide +kernel
theorem dX3_count_87 : decode cX3_count 87 = .ok (.iload 4, 2) := by decide +kernel
theorem dX3_count_89 : decode cX3_count 89 = .ok (.iload 5, 2) := by decide +kernel
theorem dX3_count_91 : decode cX3_count 91 = .ok (.iconst 1, 1) := by decide +kernel
theorem dX3_count_92 : decode cX3_count 92 = .ok (.iadd, 1) := by decide +kernel
theorem dX3_count_93 : decode cX3_count 93 = .ok (.iload 8, 2) := by decide +kernel
theorem dX3_count_95 : decode cX3_count 95 = .ok (.invokevirtual 16, 3) := by decide +kernel
theorem dX3_count_98 : decode cX3_count 98 = .ok (.aload_n 1, 1) := by decide +kernel
theorem dX3_count_99 : decode cX3_count 99 = .ok (.aload_n 0, 1) := by decide +kernel
theorem dX3_count_100 : decode cX3_count 100 = .ok (.getfield 11, 3) := by decide +kernel
theorem dX3_count_103 : decode cX3_count 103 = .ok (.iload 7, 2) := by decide +kernel
theorem dX3_count_105 : decode cX3_count 105 = .ok (.aaload, 1) := by decide +kernel
theorem dX3_count_106 : decode cX3_count 106 = .ok (.aload_n 0, 1) := by decide +kernel
theorem dX3_count_107 : decode cX3_count 107 = .ok (.getfield 11, 3) := by decide +kernel
theorem dX3_count_110 : decode cX3_count 110 = .ok (.iload 8, 2) := by decide +kernel
theorem dX3_count_112 : decode cX3_count 112 = .ok (.aaload, 1) := by decide +kernel
theorem dX3_count_113 : decode cX3_count 113 = .ok (.aload_n 0, 1) := by decide +kernel
theorem dX3_count_114 : decode cX3_count 114 = .ok (.getfield 11, 3) := by decide +kernel
theorem dX3_count_117 : decode cX3_count 117 = .ok (.iload 6, 2) := by decide +kernel
theorem dX3_count_119 : decode cX3_count 119 = .ok (.aaload, 1) := by decide +kernel
theorem dX3_count_120 : decode cX3_count 120 = .ok (.invokevirtual 36, 3) := by decide +kernel
theorem dX3_count_123 : decode cX3_count 123 = .ok (.iinc 9 1, 3) := by decide +kernel
theorem dX3_count_126 : decode cX3_count 126 = .ok (.goto (-66), 3) := by decide +kernel
theorem dX3_count_129 : decode cX3_count 129 = .ok (.return_, 1) := by decide +kernel
set_option maxRecDepth 20000 in
theorem ggX4_init_X1_init : GoodIn wsX4_init wsX1_init := goodIn_r _ [25, 26, 2, 3, 27, 8, 28, 29, 30, 31, 32, 33, 34, 35, 50, 51, 52, 53, 54, 55, 56, 57] (by decide +kernel) (by decide +kernel)
set_option maxRecDepth 20000 in
theorem gX4_init_X1_init_n11 : GoodIn wsX4_init (wsX1_init) := ggX4_init_X1_init
set_option maxRecDepth 20000 in
theorem ggX4_init_X2_init : GoodIn wsX4_init wsX2_init := goodIn_r _ [37, 38, 2, 3, 8, 39, 65] (by decide +kernel) (by decide +kernel)
set_option maxRecDepth 20000 in
theorem gX4_init_X2_init_n29 : GoodIn wsX4_init (wsX2_init) := ggX4_init_X2_init
set_option maxRecDepth 20000 in
theorem ggX4_init_X0_init : GoodIn wsX4_init wsX0_init := goodIn_r _ [41, 42, 2, 3, 43, 8, 44, 66] (by decide +kernel) (by decide +kernel)
set_option maxRecDepth 20000 in
theorem gX4_init_X0_init_n36 : GoodIn wsX4_init (wsX0_init) := ggX4_init_X0_init
set_option maxRecDepth 20000 in
theorem ggX4_init_X3_init : GoodIn wsX4_init wsX3_init := goodIn_r _ [46, 47, 2, 3, 48, 8, 49, 67] (by decide +kernel) (by decide +kernel)
set_option maxRecDepth 20000 in
theorem gX4_init_X3_init_n43 : GoodIn wsX4_init (wsX3_init) := ggX4_init_X3_init
abbrev vwCl : List vw_C := [(RX0, TX0, 1), (RX1, TX1, 8), (RX2, TX2, 1), (RX3, TX3, 1), (RX4, TX4, 7), (RX5, TX5, 15)]
end
section
theorem dX4_init_0 : decode cX4_init 0 = .ok (.aload_n 0, 1) := by decide +kernel
theorem dX4_init_1 : decode cX4_init 1 = .ok (.invokespecial 3, 3) := by decide +kernel
theorem dX4_init_4 : decode cX4_init 4 = .ok (.aload_n 0, 1) := by decide +kernel
theorem dX4_init_5 : decode cX4_init 5 = .ok (.new 9, 3) := by decide +kernel
theorem dX4_init_8 : decode cX4_init 8 = .ok (.dup, 1) := by decide +kernel
theorem dX4_init_9 : decode cX4_init 9 = .ok (.invokespecial 11, 3) := by decide +kernel
theorem dX4_init_12 : decode cX4_init 12 = .ok (.putfield 12, 3) := by decide +kernel
theorem dX4_init_15 : decode cX4_init 15 = .ok (.aload_n 0, 1) := by decide +kernel
theorem dX4_init_16 : decode cX4_init 16 = .ok (.bipush 6, 2) := by decide +kernel
theorem dX4_init_18 : decode cX4_init 18 = .ok (.newarray .int, 2) := by decide +kernel
theorem dX4_init_20 : decode cX4_init 20 = .ok (.putfield 16, 3) := by decide +kernel
theorem dX4_init_23 : decode cX4_init 23 = .ok (.aload_n 0, 1) := by decide +kernel
theorem dX4_init_24 : decode cX4_init 24 = .ok (.iconst 0, 1) := by decide +kernel
theorem dX4_init_25 : decode cX4_init 25 = .ok (.putfield 20, 3) := by decide +kernel
theorem dX4_init_28 : decode cX4_init 28 = .ok (.aload_n 0, 1) := by decide +kernel
theorem dX4_init_29 : decode cX4_init 29 = .ok (.bipush 6, 2) := by decide +kernel
theorem dX4_init_31 : decode cX4_init 31 = .ok (.newarray .int, 2) := by decide +kernel
theorem dX4_init_33 : decode cX4_init 33 = .ok (.putfield 24, 3) := by decide +kernel
theorem dX4_init_36 : decode cX4_init 36 = .ok (.aload_n 0, 1) := by decide +kernel
theorem dX4_init_37 : decode cX4_init 37 = .ok (.new 27, 3) := by decide +kernel
theorem dX4_init_40 : decode cX4_init 40 = .ok (.dup, 1) := by decide +kernel
theorem dX4_init_41 : decode cX4_init 41 = .ok (.invokespecial 29, 3) := by decide +kernel
theorem dX4_init_44 : decode cX4_init 44 = .ok (.putfield 30, 3) := by decide +kernel
theorem dX4_init_47 : decode cX4_init 47 = .ok (.aload_n 0, 1) := by decide +kernel
theorem dX4_init_48 : decode cX4_init 48 = .ok (.new 34, 3) := by decide +kernel
theorem dX4_init_51 : decode cX4_init 51 = .ok (.dup, 1) := by decide +kernel
theorem dX4_init_52 : decode cX4_init 52 = .ok (.invokespecial 36, 3) := by decide +kernel
theorem dX4_init_55 : decode cX4_init 55 = .ok (.putfield 37, 3) := by decide +kernel
theorem dX4_init_58 : decode cX4_init 58 = .ok (.aload_n 0, 1) := by decide +kernel
theorem dX4_init_59 : decode cX4_init 59 = .ok (.new 41, 3) := by decide +kernel
theorem dX4_init_62 : decode cX4_init 62 = .ok (.dup, 1) := by decide +kernel
theorem dX4_init_63 : decode cX4_init 63 = .ok (.invokespecial 43, 3) := by decide +kernel
theorem dX4_init_66 : decode cX4_init 66 = .ok (.putfield 44, 3) := by decide +kernel
theorem dX4_init_69 : decode cX4_init 69 = .ok (.return_, 1) := by decide +kernel
set_option maxRecDepth 20000 in
theorem ggX4_addWord_X4_isNoKind : GoodIn wsX4_addWord wsX4_isNoKind := goodIn_r _ [9, 10, 11, 8, 12] (by decide +kernel) (by decide +kernel)
set_option maxRecDepth 20000 in
theorem gX4_addWord_X4_isNoKind : GoodIn wsX4_addWord (va_wsS RX4 48 yX4_isNoKind wsX4_isNoKind) := goodIn_app (goodIn_of _ (by decide +kernel)) ggX4_addWord_X4_isNoKind
set_option maxRecDepth 20000 in
theorem ggX4_addWord_X4_pairOf : GoodIn wsX4_addWord wsX4_pairOf := goodIn_r _ [15] (by decide +kernel) (by decide +kernel)
set_option maxRecDepth 20000 in
theorem gX4_addWord_X4_pairOf : GoodIn wsX4_addWord (va_wsS RX4 67 yX4_pairOf wsX4_pairOf) := goodIn_app (goodIn_of _ (by decide +kernel)) ggX4_addWord_X4_pairOf
set_option maxRecDepth 20000 in
theorem ggX4_addWord_X1_defineWord : GoodIn wsX4_addWord wsX1_defineWord := goodIn_r _ [19, 20, 21, 29, 30, 31, 32, 33, 34, 35, 36] (by decide +kernel) (by decide +kernel)
set_option maxRecDepth 20000 in
theorem gX4_addWord_X1_defineWord_n71 : GoodIn wsX4_addWord (wsX1_defineWord) := ggX4_addWord_X1_defineWord
theorem dX4_addWord_0 : decode cX4_addWord 0 = .ok (.iload_n 1, 1) := by decide +kernel
theorem dX4_addWord_1 : decode cX4_addWord 1 = .ok (.iload_n 2, 1) := by decide +kernel
theorem dX4_addWord_2 : decode cX4_addWord 2 = .ok (.iload_n 3, 1) := by decide +kernel
theorem dX4_addWord_3 : decode cX4_addWord 3 = .ok (.invokestatic 48, 3) := by decide +kernel
theorem dX4_addWord_6 : decode cX4_addWord 6 = .ok (.ifCond .eq 13, 3) := by decide +kernel
theorem dX4_addWord_9 : decode cX4_addWord 9 = .ok (.new 52, 3) := by decide +kernel
theorem dX4_addWord_12 : decode cX4_addWord 12 = .ok (.dup, 1) := by decide +kernel
theorem dX4_addWord_13 : decode cX4_addWord 13 = .ok (.ldc 54, 2) := by decide +kernel
theorem dX4_addWord_15 : decode cX4_addWord 15 = .ok (.invokespecial 56, 3) := by decide +kernel
theorem dX4_addWord_18 : decode cX4_addWord 18 = .ok (.athrow, 1) := by decide +kernel
theorem dX4_addWord_19 : decode cX4_addWord 19 = .ok (.aload_n 0, 1) := by decide +kernel
theorem dX4_addWord_20 : decode cX4_addWord 20 = .ok (.getfield 12, 3) := by decide +kernel
theorem dX4_addWord_23 : decode cX4_addWord 23 = .ok (.getfield 59, 3) := by decide +kernel
theorem dX4_addWord_26 : decode cX4_addWord 26 = .ok (.bipush 9, 2) := by decide +kernel
theorem dX4_addWord_28 : decode cX4_addWord 28 = .ok (.if_icmp .lt 13, 3) := by decide +kernel
theorem dX4_addWord_31 : decode cX4_addWord 31 = .ok (.new 62, 3) := by decide +kernel
theorem dX4_addWord_34 : decode cX4_addWord 34 = .ok (.dup, 1) := by decide +kernel
theorem dX4_addWord_35 : decode cX4_addWord 35 = .ok (.ldc 64, 2) := by decide +kernel
theorem dX4_addWord_37 : decode cX4_addWord 37 = .ok (.invokespecial 66, 3) := by decide +kernel
theorem dX4_addWord_40 : decode cX4_addWord 40 = .ok (.athrow, 1) := by decide +kernel
theorem dX4_addWord_41 : decode cX4_addWord 41 = .ok (.aload_n 0, 1) := by decide +kernel
theorem dX4_addWord_42 : decode cX4_addWord 42 = .ok (.getfield 12, 3) := by decide +kernel
theorem dX4_addWord_45 : decode cX4_addWord 45 = .ok (.getfield 59, 3) := by decide +kernel
theorem dX4_addWord_48 : decode cX4_addWord 48 = .ok (.istore 4, 2) := by decide +kernel
theorem dX4_addWord_50 : decode cX4_addWord 50 = .ok (.aload_n 0, 1) := by decide +kernel
theorem dX4_addWord_51 : decode cX4_addWord 51 = .ok (.getfield 12, 3) := by decide +kernel
theorem dX4_addWord_54 : decode cX4_addWord 54 = .ok (.dup, 1) := by decide +kernel
theorem dX4_addWord_55 : decode cX4_addWord 55 = .ok (.getfield 59, 3) := by decide +kernel
theorem dX4_addWord_58 : decode cX4_addWord 58 = .ok (.iconst 1, 1) := by decide +kernel
theorem dX4_addWord_59 : decode cX4_addWord 59 = .ok (.iadd, 1) := by decide +kernel
theorem dX4_addWord_60 : decode cX4_addWord 60 = .ok (.putfield 59, 3) := by decide +kernel
theorem dX4_addWord_63 : decode cX4_addWord 63 = .ok (.aload_n 0, 1) := by decide +kernel
theorem dX4_addWord_64 : decode cX4_addWord 64 = .ok (.getfield 12, 3) := by decide +kernel
theorem dX4_addWord_67 : decode cX4_addWord 67 = .ok (.iload 4, 2) := by decide +kernel
theorem dX4_addWord_69 : decode cX4_addWord 69 = .ok (.iload_n 1, 1) := by decide +kernel
theorem dX4_addWord_70 : decode cX4_addWord 70 = .ok (.iload_n 2, 1) := by decide +kernel
theorem dX4_addWord_71 : decode cX4_addWord 71 = .ok (.iload_n 3, 1) := by decide +kernel
theorem dX4_addWord_72 : decode cX4_addWord 72 = .ok (.invokestatic 67, 3) := by decide +kernel
theorem dX4_addWord_75 : decode cX4_addWord 75 = .ok (.invokevirtual 71, 3) := by decide +kernel
theorem dX4_addWord_78 : decode cX4_addWord 78 = .ok (.iload 4, 2) := by decide +kernel
theorem dX4_addWord_80 : decode cX4_addWord 80 = .ok (.ireturn, 1) := by decide +kernel
set_option maxRecDepth 20000 in
theorem ggX4_setWord_X4_isOutside : GoodIn wsX4_setWord wsX4_isOutside := goodIn_r _ [9] (by decide +kernel) (by decide +kernel)
set_option maxRecDepth 20000 in
theorem gX4_setWord_X4_isOutside : GoodIn wsX4_setWord (va_wsS RX4 75 yX4_isOutside wsX4_isOutside) := goodIn_app (goodIn_of _ (by decide +kernel)) ggX4_setWord_X4_isOutside
set_option maxRecDepth 20000 in
theorem ggX4_setWord_X4_isNoKind : GoodIn wsX4_setWord wsX4_isNoKind := goodIn_r _ [12, 6, 7, 8, 9] (by decide +kernel) (by decide +kernel)
set_option maxRecDepth 20000 in
theorem gX4_setWord_X4_isNoKind : GoodIn wsX4_setWord (va_wsS RX4 48 yX4_isNoKind wsX4_isNoKind) := goodIn_app (goodIn_of _ (by decide +kernel)) ggX4_setWord_X4_isNoKind
set_option maxRecDepth 20000 in
theorem ggX4_setWord_X4_pairOf : GoodIn wsX4_setWord wsX4_pairOf := goodIn_r _ [15] (by decide +kernel) (by decide +kernel)
set_option maxRecDepth 20000 in
theorem gX4_setWord_X4_pairOf : GoodIn wsX4_setWord (va_wsS RX4 67 yX4_pairOf wsX4_pairOf) := goodIn_app (goodIn_of _ (by decide +kernel)) ggX4_setWord_X4_pairOf
set_option maxRecDepth 20000 in
theorem ggX4_setWord_X1_defineWord : GoodIn wsX4_setWord wsX1_defineWord := goodIn_r _ [19, 20, 21, 29, 30, 31, 32, 33, 34, 35, 36] (by decide +kernel) (by decide +kernel)
set_option maxRecDepth 20000 in
theorem gX4_setWord_X1_defineWord_n71 : GoodIn wsX4_setWord (wsX1_defineWord) := ggX4_setWord_X1_defineWord
theorem dX4_setWord_0 : decode cX4_setWord 0 = .ok (.iload_n 1, 1) := by decide +kernel
theorem dX4_setWord_1 : decode cX4_setWord 1 = .ok (.aload_n 0, 1) := by decide +kernel
theorem dX4_setWord_2 : decode cX4_setWord 2 = .ok (.getfield 12, 3) := by decide +kernel
theorem dX4_setWord_5 : decode cX4_setWord 5 = .ok (.getfield 59, 3) := by decide +kernel
theorem dX4_setWord_8 : decode cX4_setWord 8 = .ok (.invokestatic 75, 3) := by decide +kernel
theorem dX4_setWord_11 : decode cX4_setWord 11 = .ok (.ifCond .eq 13, 3) := by decide +kernel
theorem dX4_setWord_14 : decode cX4_setWord 14 = .ok (.new 79, 3) := by decide +kernel
theorem dX4_setWord_17 : decode cX4_setWord 17 = .ok (.dup, 1) := by decide +kernel
theorem dX4_setWord_18 : decode cX4_setWord 18 = .ok (.ldc 81, 2) := by decide +kernel
theorem dX4_setWord_20 : decode cX4_setWord 20 = .ok (.invokespecial 83, 3) := by decide +kernel
theorem dX4_setWord_23 : decode cX4_setWord 23 = .ok (.athrow, 1) := by decide +kernel
theorem dX4_setWord_24 : decode cX4_setWord 24 = .ok (.iload_n 2, 1) := by decide +kernel
theorem dX4_setWord_25 : decode cX4_setWord 25 = .ok (.iload_n 3, 1) := by decide +kernel
theorem dX4_setWord_26 : decode cX4_setWord 26 = .ok (.iload 4, 2) := by decide +kernel
theorem dX4_setWord_28 : decode cX4_setWord 28 = .ok (.invokestatic 48, 3) := by decide +kernel
theorem dX4_setWord_31 : decode cX4_setWord 31 = .ok (.ifCond .eq 13, 3) := by decide +kernel
theorem dX4_setWord_34 : decode cX4_setWord 34 = .ok (.new 52, 3) := by decide +kernel
theorem dX4_setWord_37 : decode cX4_setWord 37 = .ok (.dup, 1) := by decide +kernel
theorem dX4_setWord_38 : decode cX4_setWord 38 = .ok (.ldc 54, 2) := by decide +kernel
theorem dX4_setWord_40 : decode cX4_setWord 40 = .ok (.invokespecial 56, 3) := by decide +kernel
theorem dX4_setWord_43 : decode cX4_setWord 43 = .ok (.athrow, 1) := by decide +kernel
theorem dX4_setWord_44 : decode cX4_setWord 44 = .ok (.aload_n 0, 1) := by decide +kernel
theorem dX4_setWord_45 : decode cX4_setWord 45 = .ok (.getfield 12, 3) := by decide +kernel
theorem dX4_setWord_48 : decode cX4_setWord 48 = .ok (.getfield 84, 3) := by decide +kernel
theorem dX4_setWord_51 : decode cX4_setWord 51 = .ok (.iload_n 1, 1) := by decide +kernel
theorem dX4_setWord_52 : decode cX4_setWord 52 = .ok (.iaload, 1) := by decide +kernel
theorem dX4_setWord_53 : decode cX4_setWord 53 = .ok (.istore 5, 2) := by decide +kernel
theorem dX4_setWord_55 : decode cX4_setWord 55 = .ok (.aload_n 0, 1) := by decide +kernel
theorem dX4_setWord_56 : decode cX4_setWord 56 = .ok (.getfield 12, 3) := by decide +kernel
theorem dX4_setWord_59 : decode cX4_setWord 59 = .ok (.iload_n 1, 1) := by decide +kernel
theorem dX4_setWord_60 : decode cX4_setWord 60 = .ok (.iload_n 2, 1) := by decide +kernel
theorem dX4_setWord_61 : decode cX4_setWord 61 = .ok (.iload_n 3, 1) := by decide +kernel
theorem dX4_setWord_62 : decode cX4_setWord 62 = .ok (.iload 4, 2) := by decide +kernel
theorem dX4_setWord_64 : decode cX4_setWord 64 = .ok (.invokestatic 67, 3) := by decide +kernel
theorem dX4_setWord_67 : decode cX4_setWord 67 = .ok (.invokevirtual 71, 3) := by decide +kernel
theorem dX4_setWord_70 : decode cX4_setWord 70 = .ok (.iload 5, 2) := by decide +kernel
theorem dX4_setWord_72 : decode cX4_setWord 72 = .ok (.ireturn, 1) := by decide +kernel
set_option maxRecDepth 20000 in
theorem ggX4_addRule_X4_isOutside : GoodIn wsX4_addRule wsX4_isOutside := goodIn_r _ [9] (by decide +kernel) (by decide +kernel)
set_option maxRecDepth 20000 in
theorem gX4_addRule_X4_isOutside : GoodIn wsX4_addRule (va_wsS RX4 75 yX4_isOutside wsX4_isOutside) := goodIn_app (goodIn_of _ (by decide +kernel)) ggX4_addRule_X4_isOutside
set_option maxRecDepth 20000 in
theorem ggX4_addRule_X4_isNoDigitPair : GoodIn wsX4_addRule wsX4_isNoDigitPair := goodIn_r _ [12] (by decide +kernel) (by decide +kernel)
set_option maxRecDepth 20000 in
theorem gX4_addRule_X4_isNoDigitPair : GoodIn wsX4_addRule (va_wsS RX4 87 yX4_isNoDigitPair wsX4_isNoDigitPair) := goodIn_app (goodIn_of _ (by decide +kernel)) ggX4_addRule_X4_isNoDigitPair
set_option maxRecDepth 20000 in
theorem ggX4_addRule_X1_defineRule : GoodIn wsX4_addRule wsX1_defineRule := goodIn_r _ [16, 17, 18, 19, 20, 21, 22, 14, 23, 24, 25, 26, 27, 8, 28, 36, 37, 38, 39, 40, 41, 42, 43] (by decide +kernel) (by decide +kernel)
set_option maxRecDepth 20000 in
theorem gX4_addRule_X1_defineRule_n98 : GoodIn wsX4_addRule (wsX1_defineRule) := ggX4_addRule_X1_defineRule
theorem dX4_addRule_0 : decode cX4_addRule 0 = .ok (.iload_n 1, 1) := by decide +kernel
theorem dX4_addRule_1 : decode cX4_addRule 1 = .ok (.bipush 8, 2) := by decide +kernel
theorem dX4_addRule_3 : decode cX4_addRule 3 = .ok (.invokestatic 75, 3) := by decide +kernel
theorem dX4_addRule_6 : decode cX4_addRule 6 = .ok (.ifCond .ne 29, 3) := by decide +kernel
theorem dX4_addRule_9 : decode cX4_addRule 9 = .ok (.iload_n 2, 1) := by decide +kernel
theorem dX4_addRule_10 : decode cX4_addRule 10 = .ok (.bipush 8, 2) := by decide +kernel
theorem dX4_addRule_12 : decode cX4_addRule 12 = .ok (.invokestatic 75, 3) := by decide +kernel
theorem dX4_addRule_15 : decode cX4_addRule 15 = .ok (.ifCond .ne 20, 3) := by decide +kernel
theorem dX4_addRule_18 : decode cX4_addRule 18 = .ok (.iload_n 3, 1) := by decide +kernel
theorem dX4_addRule_19 : decode cX4_addRule 19 = .ok (.bipush 8, 2) := by decide +kernel
theorem dX4_addRule_21 : decode cX4_addRule 21 = .ok (.invokestatic 75, 3) := by decide +kernel
theorem dX4_addRule_24 : decode cX4_addRule 24 = .ok (.ifCond .ne 11, 3) := by decide +kernel
theorem dX4_addRule_27 : decode cX4_addRule 27 = .ok (.iload 4, 2) := by decide +kernel
theorem dX4_addRule_29 : decode cX4_addRule 29 = .ok (.invokestatic 87, 3) := by decide +kernel
theorem dX4_addRule_32 : decode cX4_addRule 32 = .ok (.ifCond .eq 13, 3) := by decide +kernel
theorem dX4_addRule_35 : decode cX4_addRule 35 = .ok (.new 52, 3) := by decide +kernel
theorem dX4_addRule_38 : decode cX4_addRule 38 = .ok (.dup, 1) := by decide +kernel
theorem dX4_addRule_39 : decode cX4_addRule 39 = .ok (.ldc 91, 2) := by decide +kernel
theorem dX4_addRule_41 : decode cX4_addRule 41 = .ok (.invokespecial 56, 3) := by decide +kernel
theorem dX4_addRule_44 : decode cX4_addRule 44 = .ok (.athrow, 1) := by decide +kernel
theorem dX4_addRule_45 : decode cX4_addRule 45 = .ok (.aload_n 0, 1) := by decide +kernel
theorem dX4_addRule_46 : decode cX4_addRule 46 = .ok (.getfield 12, 3) := by decide +kernel
theorem dX4_addRule_49 : decode cX4_addRule 49 = .ok (.getfield 93, 3) := by decide +kernel
theorem dX4_addRule_52 : decode cX4_addRule 52 = .ok (.bipush 8, 2) := by decide +kernel
theorem dX4_addRule_54 : decode cX4_addRule 54 = .ok (.if_icmp .lt 13, 3) := by decide +kernel
theorem dX4_addRule_57 : decode cX4_addRule 57 = .ok (.new 62, 3) := by decide +kernel
theorem dX4_addRule_60 : decode cX4_addRule 60 = .ok (.dup, 1) := by decide +kernel
theorem dX4_addRule_61 : decode cX4_addRule 61 = .ok (.ldc 96, 2) := by decide +kernel
theorem dX4_addRule_63 : decode cX4_addRule 63 = .ok (.invokespecial 66, 3) := by decide +kernel
theorem dX4_addRule_66 : decode cX4_addRule 66 = .ok (.athrow, 1) := by decide +kernel
theorem dX4_addRule_67 : decode cX4_addRule 67 = .ok (.aload_n 0, 1) := by decide +kernel
theorem dX4_addRule_68 : decode cX4_addRule 68 = .ok (.getfield 12, 3) := by decide +kernel
theorem dX4_addRule_71 : decode cX4_addRule 71 = .ok (.getfield 93, 3) := by decide +kernel
theorem dX4_addRule_74 : decode cX4_addRule 74 = .ok (.istore 5, 2) := by decide +kernel
theorem dX4_addRule_76 : decode cX4_addRule 76 = .ok (.aload_n 0, 1) := by decide +kernel
theorem dX4_addRule_77 : decode cX4_addRule 77 = .ok (.getfield 12, 3) := by decide +kernel
theorem dX4_addRule_80 : decode cX4_addRule 80 = .ok (.dup, 1) := by decide +kernel
theorem dX4_addRule_81 : decode cX4_addRule 81 = .ok (.getfield 93, 3) := by decide +kernel
theorem dX4_addRule_84 : decode cX4_addRule 84 = .ok (.iconst 1, 1) := by decide +kernel
theorem dX4_addRule_85 : decode cX4_addRule 85 = .ok (.iadd, 1) := by decide +kernel
theorem dX4_addRule_86 : decode cX4_addRule 86 = .ok (.putfield 93, 3) := by decide +kernel
theorem dX4_addRule_89 : decode cX4_addRule 89 = .ok (.aload_n 0, 1) := by decide +kernel
theorem dX4_addRule_90 : decode cX4_addRule 90 = .ok (.getfield 12, 3) := by decide +kernel
theorem dX4_addRule_93 : decode cX4_addRule 93 = .ok (.iload 5, 2) := by decide +kernel
theorem dX4_addRule_95 : decode cX4_addRule 95 = .ok (.iload_n 1, 1) := by decide +kernel
theorem dX4_addRule_96 : decode cX4_addRule 96 = .ok (.iload_n 2, 1) := by decide +kernel
theorem dX4_addRule_97 : decode cX4_addRule 97 = .ok (.iload_n 3, 1) := by decide +kernel
theorem dX4_addRule_98 : decode cX4_addRule 98 = .ok (.iload 4, 2) := by decide +kernel
theorem dX4_addRule_100 : decode cX4_addRule 100 = .ok (.invokevirtual 98, 3) := by decide +kernel
theorem dX4_addRule_103 : decode cX4_addRule 103 = .ok (.iload 5, 2) := by decide +kernel
theorem dX4_addRule_105 : decode cX4_addRule 105 = .ok (.ireturn, 1) := by decide +kernel
theorem dX4_dropRule_0 : decode cX4_dropRule 0 = .ok (.aload_n 0, 1) := by decide +kernel
theorem dX4_dropRule_1 : decode cX4_dropRule 1 = .ok (.getfield 12, 3) := by decide +kernel
theorem dX4_dropRule_4 : decode cX4_dropRule 4 = .ok (.getfield 93, 3) := by decide +kernel
theorem dX4_dropRule_7 : decode cX4_dropRule 7 = .ok (.ifCond .ne 13, 3) := by decide +kernel
theorem dX4_dropRule_10 : decode cX4_dropRule 10 = .ok (.new 62, 3) := by decide +kernel
theorem dX4_dropRule_13 : decode cX4_dropRule 13 = .ok (.dup, 1) := by decide +kernel
theorem dX4_dropRule_14 : decode cX4_dropRule 14 = .ok (.ldc 102, 2) := by decide +kernel
theorem dX4_dropRule_16 : decode cX4_dropRule 16 = .ok (.invokespecial 66, 3) := by decide +kernel
theorem dX4_dropRule_19 : decode cX4_dropRule 19 = .ok (.athrow, 1) := by decide +kernel
theorem dX4_dropRule_20 : decode cX4_dropRule 20 = .ok (.aload_n 0, 1) := by decide +kernel
theorem dX4_dropRule_21 : decode cX4_dropRule 21 = .ok (.getfield 12, 3) := by decide +kernel
theorem dX4_dropRule_24 : decode cX4_dropRule 24 = .ok (.dup, 1) := by decide +kernel
theorem dX4_dropRule_25 : decode cX4_dropRule 25 = .ok (.getfield 93, 3) := by decide +kernel
theorem dX4_dropRule_28 : decode cX4_dropRule 28 = .ok (.iconst 1, 1) := by decide +kernel
theorem dX4_dropRule_29 : decode cX4_dropRule 29 = .ok (.isub, 1) := by decide +kernel
theorem dX4_dropRule_30 : decode cX4_dropRule 30 = .ok (.putfield 93, 3) := by decide +kernel
theorem dX4_dropRule_33 : decode cX4_dropRule 33 = .ok (.aload_n 0, 1) := by decide +kernel
theorem dX4_dropRule_34 : decode cX4_dropRule 34 = .ok (.getfield 12, 3) := by decide +kernel
theorem dX4_dropRule_37 : decode cX4_dropRule 37 = .ok (.getfield 93, 3) := by decide +kernel
theorem dX4_dropRule_40 : decode cX4_dropRule 40 = .ok (.ireturn, 1) := by decide +kernel
set_option maxRecDepth 20000 in
theorem ggX4_say_X4_isOutside : GoodIn wsX4_say wsX4_isOutside := goodIn_r _ [11] (by decide +kernel) (by decide +kernel)
set_option maxRecDepth 20000 in
theorem gX4_say_X4_isOutside : GoodIn wsX4_say (va_wsS RX4 75 yX4_isOutside wsX4_isOutside) := goodIn_app (goodIn_of _ (by decide +kernel)) ggX4_say_X4_isOutside
theorem dX4_say_0 : decode cX4_say 0 = .ok (.iload_n 1, 1) := by decide +kernel
theorem dX4_say_1 : decode cX4_say 1 = .ok (.aload_n 0, 1) := by decide +kernel
theorem dX4_say_2 : decode cX4_say 2 = .ok (.getfield 12, 3) := by decide +kernel
theorem dX4_say_5 : decode cX4_say 5 = .ok (.getfield 59, 3) := by decide +kernel
theorem dX4_say_8 : decode cX4_say 8 = .ok (.invokestatic 75, 3) := by decide +kernel
theorem dX4_say_11 : decode cX4_say 11 = .ok (.ifCond .eq 13, 3) := by decide +kernel
theorem dX4_say_14 : decode cX4_say 14 = .ok (.new 79, 3) := by decide +kernel
theorem dX4_say_17 : decode cX4_say 17 = .ok (.dup, 1) := by decide +kernel
theorem dX4_say_18 : decode cX4_say 18 = .ok (.ldc 81, 2) := by decide +kernel
theorem dX4_say_20 : decode cX4_say 20 = .ok (.invokespecial 83, 3) := by decide +kernel
theorem dX4_say_23 : decode cX4_say 23 = .ok (.athrow, 1) := by decide +kernel
theorem dX4_say_24 : decode cX4_say 24 = .ok (.aload_n 0, 1) := by decide +kernel
theorem dX4_say_25 : decode cX4_say 25 = .ok (.getfield 20, 3) := by decide +kernel
theorem dX4_say_28 : decode cX4_say 28 = .ok (.bipush 6, 2) := by decide +kernel
theorem dX4_say_30 : decode cX4_say 30 = .ok (.if_icmp .lt 13, 3) := by decide +kernel
theorem dX4_say_33 : decode cX4_say 33 = .ok (.new 62, 3) := by decide +kernel
theorem dX4_say_36 : decode cX4_say 36 = .ok (.dup, 1) := by decide +kernel
theorem dX4_say_37 : decode cX4_say 37 = .ok (.ldc 104, 2) := by decide +kernel
theorem dX4_say_39 : decode cX4_say 39 = .ok (.invokespecial 66, 3) := by decide +kernel
theorem dX4_say_42 : decode cX4_say 42 = .ok (.athrow, 1) := by decide +kernel
theorem dX4_say_43 : decode cX4_say 43 = .ok (.aload_n 0, 1) := by decide +kernel
theorem dX4_say_44 : decode cX4_say 44 = .ok (.getfield 16, 3) := by decide +kernel
theorem dX4_say_47 : decode cX4_say 47 = .ok (.aload_n 0, 1) := by decide +kernel
theorem dX4_say_48 : decode cX4_say 48 = .ok (.getfield 20, 3) := by decide +kernel
theorem dX4_say_51 : decode cX4_say 51 = .ok (.iload_n 1, 1) := by decide +kernel
theorem dX4_say_52 : decode cX4_say 52 = .ok (.iastore, 1) := by decide +kernel
theorem dX4_say_53 : decode cX4_say 53 = .ok (.aload_n 0, 1) := by decide +kernel
theorem dX4_say_54 : decode cX4_say 54 = .ok (.dup, 1) := by decide +kernel
theorem dX4_say_55 : decode cX4_say 55 = .ok (.getfield 20, 3) := by decide +kernel
theorem dX4_say_58 : decode cX4_say 58 = .ok (.iconst 1, 1) := by decide +kernel
theorem dX4_say_59 : decode cX4_say 59 = .ok (.iadd, 1) := by decide +kernel
theorem dX4_say_60 : decode cX4_say 60 = .ok (.putfield 20, 3) := by decide +kernel
theorem dX4_say_63 : decode cX4_say 63 = .ok (.aload_n 0, 1) := by decide +kernel
theorem dX4_say_64 : decode cX4_say 64 = .ok (.getfield 20, 3) := by decide +kernel
theorem dX4_say_67 : decode cX4_say 67 = .ok (.ireturn, 1) := by decide +kernel
set_option maxRecDepth 20000 in
theorem ggX4_change_X4_isOutside : GoodIn wsX4_change wsX4_isOutside := goodIn_r _ [9] (by decide +kernel) (by decide +kernel)
set_option maxRecDepth 20000 in
theorem gX4_change_X4_isOutside : GoodIn wsX4_change (va_wsS RX4 75 yX4_isOutside wsX4_isOutside) := goodIn_app (goodIn_of _ (by decide +kernel)) ggX4_change_X4_isOutside
theorem dX4_change_0 : decode cX4_change 0 = .ok (.iload_n 1, 1) := by decide +kernel
theorem dX4_change_1 : decode cX4_change 1 = .ok (.aload_n 0, 1) := by decide +kernel
theorem dX4_change_2 : decode cX4_change 2 = .ok (.getfield 20, 3) := by decide +kernel
theorem dX4_change_5 : decode cX4_change 5 = .ok (.invokestatic 75, 3) := by decide +kernel
theorem dX4_change_8 : decode cX4_change 8 = .ok (.ifCond .ne 17, 3) := by decide +kernel
theorem dX4_change_11 : decode cX4_change 11 = .ok (.iload_n 2, 1) := by decide +kernel
theorem dX4_change_12 : decode cX4_change 12 = .ok (.aload_n 0, 1) := by decide +kernel
theorem dX4_change_13 : decode cX4_change 13 = .ok (.getfield 12, 3) := by decide +kernel
theorem dX4_change_16 : decode cX4_change 16 = .ok (.getfield 59, 3) := by decide +kernel
theorem dX4_change_19 : decode cX4_change 19 = .ok (.invokestatic 75, 3) := by decide +kernel
theorem dX4_change_22 : decode cX4_change 22 = .ok (.ifCond .eq 13, 3) := by decide +kernel
theorem dX4_change_25 : decode cX4_change 25 = .ok (.new 79, 3) := by decide +kernel
theorem dX4_change_28 : decode cX4_change 28 = .ok (.dup, 1) := by decide +kernel
theorem dX4_change_29 : decode cX4_change 29 = .ok (.ldc 106, 2) := by decide +kernel
theorem dX4_change_31 : decode cX4_change 31 = .ok (.invokespecial 83, 3) := by decide +kernel
theorem dX4_change_34 : decode cX4_change 34 = .ok (.athrow, 1) := by decide +kernel
theorem dX4_change_35 : decode cX4_change 35 = .ok (.aload_n 0, 1) := by decide +kernel
theorem dX4_change_36 : decode cX4_change 36 = .ok (.getfield 16, 3) := by decide +kernel
theorem dX4_change_39 : decode cX4_change 39 = .ok (.iload_n 1, 1) := by decide +kernel
theorem dX4_change_40 : decode cX4_change 40 = .ok (.iaload, 1) := by decide +kernel
theorem dX4_change_41 : decode cX4_change 41 = .ok (.istore_n 3, 1) := by decide +kernel
theorem dX4_change_42 : decode cX4_change 42 = .ok (.aload_n 0, 1) := by decide +kernel
theorem dX4_change_43 : decode cX4_change 43 = .ok (.getfield 16, 3) := by decide +kernel
theorem dX4_change_46 : decode cX4_change 46 = .ok (.iload_n 1, 1) := by decide +kernel
theorem dX4_change_47 : decode cX4_change 47 = .ok (.iload_n 2, 1) := by decide +kernel
theorem dX4_change_48 : decode cX4_change 48 = .ok (.iastore, 1) := by decide +kernel
theorem dX4_change_49 : decode cX4_change 49 = .ok (.iload_n 3, 1) := by decide +kernel
theorem dX4_change_50 : decode cX4_change 50 = .ok (.ireturn, 1) := by decide +kernel
theorem dX4_hush_0 : decode cX4_hush 0 = .ok (.aload_n 0, 1) := by decide +kernel
theorem dX4_hush_1 : decode cX4_hush 1 = .ok (.getfield 20, 3) := by decide +kernel
theorem dX4_hush_4 : decode cX4_hush 4 = .ok (.istore_n 1, 1) := by decide +kernel
theorem dX4_hush_5 : decode cX4_hush 5 = .ok (.aload_n 0, 1) := by decide +kernel
theorem dX4_hush_6 : decode cX4_hush 6 = .ok (.iconst 0, 1) := by decide +kernel
theorem dX4_hush_7 : decode cX4_hush 7 = .ok (.putfield 20, 3) := by decide +kernel
theorem dX4_hush_10 : decode cX4_hush 10 = .ok (.iload_n 1, 1) := by decide +kernel
theorem dX4_hush_11 : decode cX4_hush 11 = .ok (.ireturn, 1) := by decide +kernel
theorem dX4_said_0 : decode cX4_said 0 = .ok (.aload_n 0, 1) := by decide +kernel
theorem dX4_said_1 : decode cX4_said 1 = .ok (.getfield 20, 3) := by decide +kernel
theorem dX4_said_4 : decode cX4_said 4 = .ok (.ireturn, 1) := by decide +kernel
set_option maxRecDepth 20000 in
theorem ggX4_wordAt_X4_isOutside : GoodIn wsX4_wordAt wsX4_isOutside := goodIn_r _ [8] (by decide +kernel) (by decide +kernel)
set_option maxRecDepth 20000 in
theorem gX4_wordAt_X4_isOutside : GoodIn wsX4_wordAt (va_wsS RX4 75 yX4_isOutside wsX4_isOutside) := goodIn_app (goodIn_of _ (by decide +kernel)) ggX4_wordAt_X4_isOutside
theorem dX4_wordAt_0 : decode cX4_wordAt 0 = .ok (.iload_n 1, 1) := by decide +kernel
theorem dX4_wordAt_1 : decode cX4_wordAt 1 = .ok (.aload_n 0, 1) := by decide +kernel
theorem dX4_wordAt_2 : decode cX4_wordAt 2 = .ok (.getfield 20, 3) := by decide +kernel
theorem dX4_wordAt_5 : decode cX4_wordAt 5 = .ok (.invokestatic 75, 3) := by decide +kernel
theorem dX4_wordAt_8 : decode cX4_wordAt 8 = .ok (.ifCond .eq 13, 3) := by decide +kernel
theorem dX4_wordAt_11 : decode cX4_wordAt 11 = .ok (.new 79, 3) := by decide +kernel
theorem dX4_wordAt_14 : decode cX4_wordAt 14 = .ok (.dup, 1) := by decide +kernel
theorem dX4_wordAt_15 : decode cX4_wordAt 15 = .ok (.ldc 108, 2) := by decide +kernel
theorem dX4_wordAt_17 : decode cX4_wordAt 17 = .ok (.invokespecial 83, 3) := by decide +kernel
theorem dX4_wordAt_20 : decode cX4_wordAt 20 = .ok (.athrow, 1) := by decide +kernel
theorem dX4_wordAt_21 : decode cX4_wordAt 21 = .ok (.aload_n 0, 1) := by decide +kernel
theorem dX4_wordAt_22 : decode cX4_wordAt 22 = .ok (.getfield 16, 3) := by decide +kernel
theorem dX4_wordAt_25 : decode cX4_wordAt 25 = .ok (.iload_n 1, 1) := by decide +kernel
theorem dX4_wordAt_26 : decode cX4_wordAt 26 = .ok (.iaload, 1) := by decide +kernel
theorem dX4_wordAt_27 : decode cX4_wordAt 27 = .ok (.ireturn, 1) := by decide +kernel
set_option maxRecDepth 20000 in
theorem ggX4_readings_X4_countReadings : GoodIn wsX4_readings wsX4_countReadings := goodIn_r _ [6, 7, 8, 9, 1, 10, 11, 12, 13, 14, 15, 16, 17, 18, 19, 5, 20, 21, 22, 23, 24, 25, 26, 27, 28, 29, 30, 31, 32, 33, 34, 35, 36, 37, 38, 39, 40, 41, 42, 43, 44, 45, 46, 47, 48, 49, 50, 51, 52, 53, 54, 55, 56, 57, 58, 59, 60, 61, 62, 63, 64, 65, 66, 67] (by decide +kernel) (by decide +kernel)
set_option maxRecDepth 20000 in
theorem gX4_readings_X4_countReadings : GoodIn wsX4_readings (wsV RX4 110 RX4 yX4_countReadings wsX4_countReadings) := goodIn_app (goodIn_of _ (by decide +kernel)) ggX4_readings_X4_countReadings
theorem dX4_readings_0 : decode cX4_readings 0 = .ok (.aload_n 0, 1) := by decide +kernel
theorem dX4_readings_1 : decode cX4_readings 1 = .ok (.getfield 20, 3) := by decide +kernel
theorem dX4_readings_4 : decode cX4_readings 4 = .ok (.ifCond .ne 7, 3) := by decide +kernel
theorem dX4_readings_7 : decode cX4_readings 7 = .ok (.iconst 0, 1) := by decide +kernel
theorem dX4_readings_8 : decode cX4_readings 8 = .ok (.goto 13, 3) := by decide +kernel
theorem dX4_readings_11 : decode cX4_readings 11 = .ok (.aload_n 0, 1) := by decide +kernel
theorem dX4_readings_12 : decode cX4_readings 12 = .ok (.iconst 0, 1) := by decide +kernel
theorem dX4_readings_13 : decode cX4_readings 13 = .ok (.aload_n 0, 1) := by decide +kernel
theorem dX4_readings_14 : decode cX4_readings 14 = .ok (.getfield 20, 3) := by decide +kernel
theorem dX4_readings_17 : decode cX4_readings 17 = .ok (.iconst 0, 1) := by decide +kernel
theorem dX4_readings_18 : decode cX4_readings 18 = .ok (.invokevirtual 110, 3) := by decide +kernel
theorem dX4_readings_21 : decode cX4_readings 21 = .ok (.ireturn, 1) := by decide +kernel
set_option maxRecDepth 20000 in
theorem ggX4_readingsPlainly_X3_countRow : GoodIn wsX4_readingsPlainly wsX3_countRow := goodIn_r _ [8, 9, 10, 11, 12, 6, 13, 14, 15, 16, 17, 18, 19, 20, 21, 22, 23, 24, 25, 26, 27, 28, 29, 30, 31, 32, 33, 34, 35, 36, 37, 38, 50, 51, 52, 53, 54, 55, 56, 57, 58] (by decide +kernel) (by decide +kernel)
set_option maxRecDepth 20000 in
theorem gX4_readingsPlainly_X3_countRow_n114 : GoodIn wsX4_readingsPlainly (wsX3_countRow) := ggX4_readingsPlainly_X3_countRow
set_option maxRecDepth 20000 in
theorem ggX4_readingsPlainly_X4_told : GoodIn wsX4_readingsPlainly wsX4_told := goodIn_r _ [41, 42] (by decide +kernel) (by decide +kernel)
set_option maxRecDepth 20000 in
theorem gX4_readingsPlainly_X4_told : GoodIn wsX4_readingsPlainly (va_wsS RX4 118 yX4_told wsX4_told) := goodIn_app (goodIn_of _ (by decide +kernel)) ggX4_readingsPlainly_X4_told
theorem dX4_readingsPlainly_0 : decode cX4_readingsPlainly 0 = .ok (.aload_n 0, 1) := by decide +kernel
theorem dX4_readingsPlainly_1 : decode cX4_readingsPlainly 1 = .ok (.getfield 20, 3) := by decide +kernel
theorem dX4_readingsPlainly_4 : decode cX4_readingsPlainly 4 = .ok (.ifCond .ne 7, 3) := by decide +kernel
theorem dX4_readingsPlainly_7 : decode cX4_readingsPlainly 7 = .ok (.iconst 0, 1) := by decide +kernel
theorem dX4_readingsPlainly_8 : decode cX4_readingsPlainly 8 = .ok (.goto 26, 3) := by decide +kernel
theorem dX4_readingsPlainly_11 : decode cX4_readingsPlainly 11 = .ok (.aload_n 0, 1) := by decide +kernel
theorem dX4_readingsPlainly_12 : decode cX4_readingsPlainly 12 = .ok (.getfield 44, 3) := by decide +kernel
theorem dX4_readingsPlainly_15 : decode cX4_readingsPlainly 15 = .ok (.aload_n 0, 1) := by decide +kernel
theorem dX4_readingsPlainly_16 : decode cX4_readingsPlainly 16 = .ok (.getfield 12, 3) := by decide +kernel
theorem dX4_readingsPlainly_19 : decode cX4_readingsPlainly 19 = .ok (.aload_n 0, 1) := by decide +kernel
theorem dX4_readingsPlainly_20 : decode cX4_readingsPlainly 20 = .ok (.getfield 16, 3) := by decide +kernel
theorem dX4_readingsPlainly_23 : decode cX4_readingsPlainly 23 = .ok (.aload_n 0, 1) := by decide +kernel
theorem dX4_readingsPlainly_24 : decode cX4_readingsPlainly 24 = .ok (.getfield 20, 3) := by decide +kernel
theorem dX4_readingsPlainly_27 : decode cX4_readingsPlainly 27 = .ok (.iconst 0, 1) := by decide +kernel
theorem dX4_readingsPlainly_28 : decode cX4_readingsPlainly 28 = .ok (.invokevirtual 114, 3) := by decide +kernel
theorem dX4_readingsPlainly_31 : decode cX4_readingsPlainly 31 = .ok (.invokestatic 118, 3) := by decide +kernel
theorem dX4_readingsPlainly_34 : decode cX4_readingsPlainly 34 = .ok (.ireturn, 1) := by decide +kernel
set_option maxRecDepth 20000 in
theorem ggX4_readingsOf_X4_isNoSpan : GoodIn wsX4_readingsOf wsX4_isNoSpan := goodIn_r _ [7, 8, 61, 62, 63, 64, 65, 66, 67] (by decide +kernel) (by decide +kernel)
set_option maxRecDepth 20000 in
theorem gX4_readingsOf_X4_isNoSpan : GoodIn wsX4_readingsOf (wsV RX4 122 RX4 yX4_isNoSpan wsX4_isNoSpan) := goodIn_app (goodIn_of _ (by decide +kernel)) ggX4_readingsOf_X4_isNoSpan
set_option maxRecDepth 20000 in
theorem ggX4_readingsOf_X4_isOutside : GoodIn wsX4_readingsOf wsX4_isOutside := goodIn_r _ [11] (by decide +kernel) (by decide +kernel)
set_option maxRecDepth 20000 in
theorem gX4_readingsOf_X4_isOutside : GoodIn wsX4_readingsOf (va_wsS RX4 75 yX4_isOutside wsX4_isOutside) := goodIn_app (goodIn_of _ (by decide +kernel)) ggX4_readingsOf_X4_isOutside
set_option maxRecDepth 20000 in
theorem ggX4_readingsOf_X4_countReadings : GoodIn wsX4_readingsOf wsX4_countReadings := goodIn_r _ [15, 16, 17, 18, 8, 19, 20, 21, 22, 23, 24, 25, 26, 27, 28, 6, 29, 30, 31, 32, 33, 34, 35, 36, 37, 38, 39, 40, 41, 42, 43, 44, 45, 46, 47, 48, 49, 50, 51, 52, 53, 54, 55, 56, 57, 58, 59, 60, 61, 62, 63, 64, 65, 66, 67, 68, 69, 70, 71, 72, 73, 74, 75, 76] (by decide +kernel) (by decide +kernel)
set_option maxRecDepth 20000 in
theorem gX4_readingsOf_X4_countReadings : GoodIn wsX4_readingsOf (wsV RX4 110 RX4 yX4_countReadings wsX4_countReadings) := goodIn_app (goodIn_of _ (by decide +kernel)) ggX4_readingsOf_X4_countReadings
theorem dX4_readingsOf_0 : decode cX4_readingsOf 0 = .ok (.aload_n 0, 1) := by decide +kernel
theorem dX4_readingsOf_1 : decode cX4_readingsOf 1 = .ok (.iload_n 1, 1) := by decide +kernel
theorem dX4_readingsOf_2 : decode cX4_readingsOf 2 = .ok (.iload_n 2, 1) := by decide +kernel
theorem dX4_readingsOf_3 : decode cX4_readingsOf 3 = .ok (.invokevirtual 122, 3) := by decide +kernel
theorem dX4_readingsOf_6 : decode cX4_readingsOf 6 = .ok (.ifCond .ne 12, 3) := by decide +kernel
theorem dX4_readingsOf_9 : decode cX4_readingsOf 9 = .ok (.iload_n 3, 1) := by decide +kernel
theorem dX4_readingsOf_10 : decode cX4_readingsOf 10 = .ok (.bipush 8, 2) := by decide +kernel
theorem dX4_readingsOf_12 : decode cX4_readingsOf 12 = .ok (.invokestatic 75, 3) := by decide +kernel
theorem dX4_readingsOf_15 : decode cX4_readingsOf 15 = .ok (.ifCond .eq 13, 3) := by decide +kernel
theorem dX4_readingsOf_18 : decode cX4_readingsOf 18 = .ok (.new 79, 3) := by decide +kernel
theorem dX4_readingsOf_21 : decode cX4_readingsOf 21 = .ok (.dup, 1) := by decide +kernel
theorem dX4_readingsOf_22 : decode cX4_readingsOf 22 = .ok (.ldc 125, 2) := by decide +kernel
theorem dX4_readingsOf_24 : decode cX4_readingsOf 24 = .ok (.invokespecial 83, 3) := by decide +kernel
theorem dX4_readingsOf_27 : decode cX4_readingsOf 27 = .ok (.athrow, 1) := by decide +kernel
theorem dX4_readingsOf_28 : decode cX4_readingsOf 28 = .ok (.aload_n 0, 1) := by decide +kernel
theorem dX4_readingsOf_29 : decode cX4_readingsOf 29 = .ok (.iload_n 1, 1) := by decide +kernel
theorem dX4_readingsOf_30 : decode cX4_readingsOf 30 = .ok (.iload_n 2, 1) := by decide +kernel
theorem dX4_readingsOf_31 : decode cX4_readingsOf 31 = .ok (.iload_n 3, 1) := by decide +kernel
theorem dX4_readingsOf_32 : decode cX4_readingsOf 32 = .ok (.invokevirtual 110, 3) := by decide +kernel
theorem dX4_readingsOf_35 : decode cX4_readingsOf 35 = .ok (.ireturn, 1) := by decide +kernel
set_option maxRecDepth 20000 in
theorem ggX4_has_X4_isNoSpan : GoodIn wsX4_has wsX4_isNoSpan := goodIn_r _ [13, 8, 61, 62, 63, 64, 65, 66, 67] (by decide +kernel) (by decide +kernel)
set_option maxRecDepth 20000 in
theorem gX4_has_X4_isNoSpan : GoodIn wsX4_has (wsV RX4 122 RX4 yX4_isNoSpan wsX4_isNoSpan) := goodIn_app (goodIn_of _ (by decide +kernel)) ggX4_has_X4_isNoSpan
set_option maxRecDepth 20000 in
theorem ggX4_has_X4_isOutside : GoodIn wsX4_has wsX4_isOutside := goodIn_r _ [16] (by decide +kernel) (by decide +kernel)
set_option maxRecDepth 20000 in
theorem gX4_has_X4_isOutside : GoodIn wsX4_has (va_wsS RX4 75 yX4_isOutside wsX4_isOutside) := goodIn_app (goodIn_of _ (by decide +kernel)) ggX4_has_X4_isOutside
set_option maxRecDepth 20000 in
theorem ggX4_has_X4_isNoDigitPair : GoodIn wsX4_has wsX4_isNoDigitPair := goodIn_r _ [19] (by decide +kernel) (by decide +kernel)
set_option maxRecDepth 20000 in
theorem gX4_has_X4_isNoDigitPair : GoodIn wsX4_has (va_wsS RX4 87 yX4_isNoDigitPair wsX4_isNoDigitPair) := goodIn_app (goodIn_of _ (by decide +kernel)) ggX4_has_X4_isNoDigitPair
set_option maxRecDepth 20000 in
theorem ggX4_has_X2_parse : GoodIn wsX4_has wsX2_parse := goodIn_r _ [23, 24, 25, 26, 21, 27, 28, 29, 30, 31, 32, 33, 12, 34, 35, 36, 37, 38, 39, 40, 41, 42, 43, 44, 45, 46, 47, 48, 49, 50, 51, 52, 53, 76, 68, 69, 70, 71, 72, 73, 74, 75] (by decide +kernel) (by decide +kernel)
set_option maxRecDepth 20000 in
theorem gX4_has_X2_parse_n129 : GoodIn wsX4_has (wsX2_parse) := ggX4_has_X2_parse
set_option maxRecDepth 20000 in
theorem ggX4_has_X2_pairsOf : GoodIn wsX4_has wsX2_pairsOf := goodIn_r _ [56, 32, 33, 12, 34, 76] (by decide +kernel) (by decide +kernel)
set_option maxRecDepth 20000 in
theorem gX4_has_X2_pairsOf_n133 : GoodIn wsX4_has (wsX2_pairsOf) := ggX4_has_X2_pairsOf
set_option maxRecDepth 20000 in
theorem ggX4_has_X4_pairOf : GoodIn wsX4_has wsX4_pairOf := goodIn_r _ [59] (by decide +kernel) (by decide +kernel)
set_option maxRecDepth 20000 in
theorem gX4_has_X4_pairOf : GoodIn wsX4_has (va_wsS RX4 67 yX4_pairOf wsX4_pairOf) := goodIn_app (goodIn_of _ (by decide +kernel)) ggX4_has_X4_pairOf
set_option maxRecDepth 20000 in
theorem ggX4_has_X4_hasPair : GoodIn wsX4_has wsX4_hasPair := goodIn_r _ [53] (by decide +kernel) (by decide +kernel)
set_option maxRecDepth 20000 in
theorem gX4_has_X4_hasPair : GoodIn wsX4_has (va_wsS RX4 136 yX4_hasPair wsX4_hasPair) := goodIn_app (goodIn_of _ (by decide +kernel)) ggX4_has_X4_hasPair
theorem dX4_has_0 : decode cX4_has 0 = .ok (.aload_n 0, 1) := by decide +kernel
theorem dX4_has_1 : decode cX4_has 1 = .ok (.iload_n 1, 1) := by decide +kernel
theorem dX4_has_2 : decode cX4_has 2 = .ok (.iload_n 2, 1) := by decide +kernel
theorem dX4_has_3 : decode cX4_has 3 = .ok (.invokevirtual 122, 3) := by decide +kernel
theorem dX4_has_6 : decode cX4_has 6 = .ok (.ifCond .ne 12, 3) := by decide +kernel
theorem dX4_has_9 : decode cX4_has 9 = .ok (.iload_n 3, 1) := by decide +kernel
theorem dX4_has_10 : decode cX4_has 10 = .ok (.bipush 8, 2) := by decide +kernel
theorem dX4_has_12 : decode cX4_has 12 = .ok (.invokestatic 75, 3) := by decide +kernel
theorem dX4_has_15 : decode cX4_has 15 = .ok (.ifCond .eq 13, 3) := by decide +kernel
theorem dX4_has_18 : decode cX4_has 18 = .ok (.new 79, 3) := by decide +kernel
theorem dX4_has_21 : decode cX4_has 21 = .ok (.dup, 1) := by decide +kernel
theorem dX4_has_22 : decode cX4_has 22 = .ok (.ldc 125, 2) := by decide +kernel
theorem dX4_has_24 : decode cX4_has 24 = .ok (.invokespecial 83, 3) := by decide +kernel
theorem dX4_has_27 : decode cX4_has 27 = .ok (.athrow, 1) := by decide +kernel
theorem dX4_has_28 : decode cX4_has 28 = .ok (.iload 4, 2) := by decide +kernel
theorem dX4_has_30 : decode cX4_has 30 = .ok (.invokestatic 87, 3) := by decide +kernel
theorem dX4_has_33 : decode cX4_has 33 = .ok (.ifCond .eq 13, 3) := by decide +kernel
theorem dX4_has_36 : decode cX4_has 36 = .ok (.new 52, 3) := by decide +kernel
theorem dX4_has_39 : decode cX4_has 39 = .ok (.dup, 1) := by decide +kernel
theorem dX4_has_40 : decode cX4_has 40 = .ok (.ldc 127, 2) := by decide +kernel
theorem dX4_has_42 : decode cX4_has 42 = .ok (.invokespecial 56, 3) := by decide +kernel
theorem dX4_has_45 : decode cX4_has 45 = .ok (.athrow, 1) := by decide +kernel
theorem dX4_has_46 : decode cX4_has 46 = .ok (.aload_n 0, 1) := by decide +kernel
theorem dX4_has_47 : decode cX4_has 47 = .ok (.getfield 30, 3) := by decide +kernel
theorem dX4_has_50 : decode cX4_has 50 = .ok (.aload_n 0, 1) := by decide +kernel
theorem dX4_has_51 : decode cX4_has 51 = .ok (.getfield 12, 3) := by decide +kernel
theorem dX4_has_54 : decode cX4_has 54 = .ok (.aload_n 0, 1) := by decide +kernel
theorem dX4_has_55 : decode cX4_has 55 = .ok (.getfield 16, 3) := by decide +kernel
theorem dX4_has_58 : decode cX4_has 58 = .ok (.aload_n 0, 1) := by decide +kernel
theorem dX4_has_59 : decode cX4_has 59 = .ok (.getfield 20, 3) := by decide +kernel
theorem dX4_has_62 : decode cX4_has 62 = .ok (.aload_n 0, 1) := by decide +kernel
theorem dX4_has_63 : decode cX4_has 63 = .ok (.getfield 12, 3) := by decide +kernel
theorem dX4_has_66 : decode cX4_has 66 = .ok (.getfield 93, 3) := by decide +kernel
theorem dX4_has_69 : decode cX4_has 69 = .ok (.invokevirtual 129, 3) := by decide +kernel
theorem dX4_has_72 : decode cX4_has 72 = .ok (.aload_n 0, 1) := by decide +kernel
theorem dX4_has_73 : decode cX4_has 73 = .ok (.getfield 30, 3) := by decide +kernel
theorem dX4_has_76 : decode cX4_has 76 = .ok (.iload_n 1, 1) := by decide +kernel
theorem dX4_has_77 : decode cX4_has 77 = .ok (.iload_n 2, 1) := by decide +kernel
theorem dX4_has_78 : decode cX4_has 78 = .ok (.iload_n 3, 1) := by decide +kernel
theorem dX4_has_79 : decode cX4_has 79 = .ok (.invokevirtual 133, 3) := by decide +kernel
theorem dX4_has_82 : decode cX4_has 82 = .ok (.istore 5, 2) := by decide +kernel
theorem dX4_has_84 : decode cX4_has 84 = .ok (.iload 5, 2) := by decide +kernel
theorem dX4_has_86 : decode cX4_has 86 = .ok (.iload 4, 2) := by decide +kernel
theorem dX4_has_88 : decode cX4_has 88 = .ok (.bipush 10, 2) := by decide +kernel
theorem dX4_has_90 : decode cX4_has 90 = .ok (.idiv, 1) := by decide +kernel
theorem dX4_has_91 : decode cX4_has 91 = .ok (.iload 4, 2) := by decide +kernel
theorem dX4_has_93 : decode cX4_has 93 = .ok (.bipush 10, 2) := by decide +kernel
theorem dX4_has_95 : decode cX4_has 95 = .ok (.irem, 1) := by decide +kernel
theorem dX4_has_96 : decode cX4_has 96 = .ok (.invokestatic 67, 3) := by decide +kernel
theorem dX4_has_99 : decode cX4_has 99 = .ok (.invokestatic 136, 3) := by decide +kernel
theorem dX4_has_102 : decode cX4_has 102 = .ok (.ireturn, 1) := by decide +kernel
set_option maxRecDepth 20000 in
theorem ggX4_level_X2_parse : GoodIn wsX4_level wsX2_parse := goodIn_r _ [8, 9, 10, 11, 6, 12, 13, 14, 15, 16, 17, 18, 19, 20, 21, 22, 23, 24, 25, 26, 27, 28, 29, 30, 31, 32, 33, 34, 35, 36, 37, 38, 39, 62, 54, 55, 56, 57, 58, 59, 60, 61] (by decide +kernel) (by decide +kernel)
set_option maxRecDepth 20000 in
theorem gX4_level_X2_parse_n129 : GoodIn wsX4_level (wsX2_parse) := ggX4_level_X2_parse
set_option maxRecDepth 20000 in
theorem ggX4_level_X2_holdsSentence : GoodIn wsX4_level wsX2_holdsSentence := goodIn_r _ [42, 43, 44, 45, 6, 46, 17, 18, 19, 20, 62] (by decide +kernel) (by decide +kernel)
set_option maxRecDepth 20000 in
theorem gX4_level_X2_holdsSentence_n139 : GoodIn wsX4_level (wsX2_holdsSentence) := ggX4_level_X2_holdsSentence
theorem dX4_level_0 : decode cX4_level 0 = .ok (.iconst 0, 1) := by decide +kernel
theorem dX4_level_1 : decode cX4_level 1 = .ok (.istore_n 1, 1) := by decide +kernel
theorem dX4_level_2 : decode cX4_level 2 = .ok (.iload_n 1, 1) := by decide +kernel
theorem dX4_level_3 : decode cX4_level 3 = .ok (.aload_n 0, 1) := by decide +kernel
theorem dX4_level_4 : decode cX4_level 4 = .ok (.getfield 12, 3) := by decide +kernel
theorem dX4_level_7 : decode cX4_level 7 = .ok (.getfield 93, 3) := by decide +kernel
theorem dX4_level_10 : decode cX4_level 10 = .ok (.if_icmp .gt 45, 3) := by decide +kernel
theorem dX4_level_13 : decode cX4_level 13 = .ok (.aload_n 0, 1) := by decide +kernel
theorem dX4_level_14 : decode cX4_level 14 = .ok (.getfield 30, 3) := by decide +kernel
theorem dX4_level_17 : decode cX4_level 17 = .ok (.aload_n 0, 1) := by decide +kernel
theorem dX4_level_18 : decode cX4_level 18 = .ok (.getfield 12, 3) := by decide +kernel
theorem dX4_level_21 : decode cX4_level 21 = .ok (.aload_n 0, 1) := by decide +kernel
theorem dX4_level_22 : decode cX4_level 22 = .ok (.getfield 16, 3) := by decide +kernel
theorem dX4_level_25 : decode cX4_level 25 = .ok (.aload_n 0, 1) := by decide +kernel
theorem dX4_level_26 : decode cX4_level 26 = .ok (.getfield 20, 3) := by decide +kernel
theorem dX4_level_29 : decode cX4_level 29 = .ok (.iload_n 1, 1) := by decide +kernel
theorem dX4_level_30 : decode cX4_level 30 = .ok (.invokevirtual 129, 3) := by decide +kernel
theorem dX4_level_33 : decode cX4_level 33 = .ok (.aload_n 0, 1) := by decide +kernel
theorem dX4_level_34 : decode cX4_level 34 = .ok (.getfield 30, 3) := by decide +kernel
theorem dX4_level_37 : decode cX4_level 37 = .ok (.aload_n 0, 1) := by decide +kernel
theorem dX4_level_38 : decode cX4_level 38 = .ok (.getfield 20, 3) := by decide +kernel
theorem dX4_level_41 : decode cX4_level 41 = .ok (.invokevirtual 139, 3) := by decide +kernel
theorem dX4_level_44 : decode cX4_level 44 = .ok (.ifCond .eq 5, 3) := by decide +kernel
theorem dX4_level_47 : decode cX4_level 47 = .ok (.iload_n 1, 1) := by decide +kernel
theorem dX4_level_48 : decode cX4_level 48 = .ok (.ireturn, 1) := by decide +kernel
theorem dX4_level_49 : decode cX4_level 49 = .ok (.iinc 1 1, 3) := by decide +kernel
theorem dX4_level_52 : decode cX4_level 52 = .ok (.goto (-50), 3) := by decide +kernel
theorem dX4_level_55 : decode cX4_level 55 = .ok (.iconst (-1), 1) := by decide +kernel
theorem dX4_level_56 : decode cX4_level 56 = .ok (.ireturn, 1) := by decide +kernel
set_option maxRecDepth 20000 in
theorem ggX4_sentences_X4_isNoLength : GoodIn wsX4_sentences wsX4_isNoLength := goodIn_r _ [6] (by decide +kernel) (by decide +kernel)
set_option maxRecDepth 20000 in
theorem gX4_sentences_X4_isNoLength : GoodIn wsX4_sentences (va_wsS RX4 142 yX4_isNoLength wsX4_isNoLength) := goodIn_app (goodIn_of _ (by decide +kernel)) ggX4_sentences_X4_isNoLength
set_option maxRecDepth 20000 in
theorem ggX4_sentences_X4_rowsOfLength : GoodIn wsX4_sentences wsX4_rowsOfLength := goodIn_r _ [10, 11, 62, 63, 64, 65, 66, 67, 68, 69, 70, 71, 72, 73, 74, 75, 76] (by decide +kernel) (by decide +kernel)
set_option maxRecDepth 20000 in
theorem gX4_sentences_X4_rowsOfLength : GoodIn wsX4_sentences (wsV RX4 147 RX4 yX4_rowsOfLength wsX4_rowsOfLength) := goodIn_app (goodIn_of _ (by decide +kernel)) ggX4_sentences_X4_rowsOfLength
set_option maxRecDepth 20000 in
theorem ggX4_sentences_X4_makeSentences : GoodIn wsX4_sentences wsX4_makeSentences := goodIn_r _ [15, 16, 11, 17, 7, 8, 9, 5, 10, 18, 19, 20, 21, 22, 23, 24, 25, 26, 27, 28, 29, 30, 31, 32, 33, 34, 35, 36, 37, 38, 39, 40, 41, 42, 43, 44, 45, 46, 47, 48, 49, 50, 51, 52, 53, 54, 55, 56, 57, 58, 59, 60, 61, 62, 63, 64, 65, 66, 67, 68, 69, 70, 71, 72, 73, 74, 75, 76, 77] (by decide +kernel) (by decide +kernel)
set_option maxRecDepth 20000 in
theorem gX4_sentences_X4_makeSentences : GoodIn wsX4_sentences (wsV RX4 150 RX4 yX4_makeSentences wsX4_makeSentences) := goodIn_app (goodIn_of _ (by decide +kernel)) ggX4_sentences_X4_makeSentences
theorem dX4_sentences_0 : decode cX4_sentences 0 = .ok (.iload_n 1, 1) := by decide +kernel
theorem dX4_sentences_1 : decode cX4_sentences 1 = .ok (.invokestatic 142, 3) := by decide +kernel
theorem dX4_sentences_4 : decode cX4_sentences 4 = .ok (.ifCond .eq 13, 3) := by decide +kernel
theorem dX4_sentences_7 : decode cX4_sentences 7 = .ok (.new 52, 3) := by decide +kernel
theorem dX4_sentences_10 : decode cX4_sentences 10 = .ok (.dup, 1) := by decide +kernel
theorem dX4_sentences_11 : decode cX4_sentences 11 = .ok (.ldc 145, 2) := by decide +kernel
theorem dX4_sentences_13 : decode cX4_sentences 13 = .ok (.invokespecial 56, 3) := by decide +kernel
theorem dX4_sentences_16 : decode cX4_sentences 16 = .ok (.athrow, 1) := by decide +kernel
theorem dX4_sentences_17 : decode cX4_sentences 17 = .ok (.aload_n 0, 1) := by decide +kernel
theorem dX4_sentences_18 : decode cX4_sentences 18 = .ok (.iload_n 1, 1) := by decide +kernel
theorem dX4_sentences_19 : decode cX4_sentences 19 = .ok (.aload_n 0, 1) := by decide +kernel
theorem dX4_sentences_20 : decode cX4_sentences 20 = .ok (.iload_n 1, 1) := by decide +kernel
theorem dX4_sentences_21 : decode cX4_sentences 21 = .ok (.invokevirtual 147, 3) := by decide +kernel
theorem dX4_sentences_24 : decode cX4_sentences 24 = .ok (.invokevirtual 150, 3) := by decide +kernel
theorem dX4_sentences_27 : decode cX4_sentences 27 = .ok (.ireturn, 1) := by decide +kernel
set_option maxRecDepth 20000 in
theorem ggX4_sentence_X4_isNoLength : GoodIn wsX4_sentence wsX4_isNoLength := goodIn_r _ [6] (by decide +kernel) (by decide +kernel)
set_option maxRecDepth 20000 in
theorem gX4_sentence_X4_isNoLength : GoodIn wsX4_sentence (va_wsS RX4 142 yX4_isNoLength wsX4_isNoLength) := goodIn_app (goodIn_of _ (by decide +kernel)) ggX4_sentence_X4_isNoLength
set_option maxRecDepth 20000 in
theorem ggX4_sentence_X4_makeSentences : GoodIn wsX4_sentence wsX4_makeSentences := goodIn_r _ [10, 11, 12, 13, 14, 15, 16, 5, 17, 18, 19, 20, 21, 22, 23, 24, 25, 26, 27, 28, 29, 30, 31, 32, 33, 34, 35, 36, 37, 38, 39, 40, 41, 42, 43, 44, 45, 46, 47, 48, 49, 50, 51, 52, 53, 54, 55, 56, 57, 58, 59, 60, 61, 66, 67, 68, 69, 70, 71, 72, 73, 74, 75, 76, 77, 78, 79, 80, 81] (by decide +kernel) (by decide +kernel)
set_option maxRecDepth 20000 in
theorem gX4_sentence_X4_makeSentences : GoodIn wsX4_sentence (wsV RX4 150 RX4 yX4_makeSentences wsX4_makeSentences) := goodIn_app (goodIn_of _ (by decide +kernel)) ggX4_sentence_X4_makeSentences
set_option maxRecDepth 20000 in
theorem ggX4_sentence_X4_trialAsDigits : GoodIn wsX4_sentence wsX4_trialAsDigits := goodIn_r _ [65, 13, 66, 67, 68, 69, 70, 71, 72] (by decide +kernel) (by decide +kernel)
set_option maxRecDepth 20000 in
theorem gX4_sentence_X4_trialAsDigits : GoodIn wsX4_sentence (wsV RX4 155 RX4 yX4_trialAsDigits wsX4_trialAsDigits) := goodIn_app (goodIn_of _ (by decide +kernel)) ggX4_sentence_X4_trialAsDigits
theorem dX4_sentence_0 : decode cX4_sentence 0 = .ok (.iload_n 1, 1) := by decide +kernel
theorem dX4_sentence_1 : decode cX4_sentence 1 = .ok (.invokestatic 142, 3) := by decide +kernel
theorem dX4_sentence_4 : decode cX4_sentence 4 = .ok (.ifCond .ne 7, 3) := by decide +kernel
theorem dX4_sentence_7 : decode cX4_sentence 7 = .ok (.iload_n 2, 1) := by decide +kernel
theorem dX4_sentence_8 : decode cX4_sentence 8 = .ok (.ifCond .ge 13, 3) := by decide +kernel
theorem dX4_sentence_11 : decode cX4_sentence 11 = .ok (.new 52, 3) := by decide +kernel
theorem dX4_sentence_14 : decode cX4_sentence 14 = .ok (.dup, 1) := by decide +kernel
theorem dX4_sentence_15 : decode cX4_sentence 15 = .ok (.ldc 153, 2) := by decide +kernel
theorem dX4_sentence_17 : decode cX4_sentence 17 = .ok (.invokespecial 56, 3) := by decide +kernel
theorem dX4_sentence_20 : decode cX4_sentence 20 = .ok (.athrow, 1) := by decide +kernel
theorem dX4_sentence_21 : decode cX4_sentence 21 = .ok (.aload_n 0, 1) := by decide +kernel
theorem dX4_sentence_22 : decode cX4_sentence 22 = .ok (.iload_n 1, 1) := by decide +kernel
theorem dX4_sentence_23 : decode cX4_sentence 23 = .ok (.iload_n 2, 1) := by decide +kernel
theorem dX4_sentence_24 : decode cX4_sentence 24 = .ok (.invokevirtual 150, 3) := by decide +kernel
theorem dX4_sentence_27 : decode cX4_sentence 27 = .ok (.iload_n 2, 1) := by decide +kernel
theorem dX4_sentence_28 : decode cX4_sentence 28 = .ok (.if_icmp .le 11, 3) := by decide +kernel
theorem dX4_sentence_31 : decode cX4_sentence 31 = .ok (.aload_n 0, 1) := by decide +kernel
theorem dX4_sentence_32 : decode cX4_sentence 32 = .ok (.iload_n 1, 1) := by decide +kernel
theorem dX4_sentence_33 : decode cX4_sentence 33 = .ok (.invokevirtual 155, 3) := by decide +kernel
theorem dX4_sentence_36 : decode cX4_sentence 36 = .ok (.goto 4, 3) := by decide +kernel
theorem dX4_sentence_39 : decode cX4_sentence 39 = .ok (.iconst (-1), 1) := by decide +kernel
theorem dX4_sentence_40 : decode cX4_sentence 40 = .ok (.ireturn, 1) := by decide +kernel
set_option maxRecDepth 20000 in
theorem ggX4_share_X4_isNoLength : GoodIn wsX4_share wsX4_isNoLength := goodIn_r _ [6] (by decide +kernel) (by decide +kernel)
set_option maxRecDepth 20000 in
theorem gX4_share_X4_isNoLength : GoodIn wsX4_share (va_wsS RX4 142 yX4_isNoLength wsX4_isNoLength) := goodIn_app (goodIn_of _ (by decide +kernel)) ggX4_share_X4_isNoLength
set_option maxRecDepth 20000 in
theorem ggX4_share_X4_rowsOfLength : GoodIn wsX4_share wsX4_rowsOfLength := goodIn_r _ [10, 11, 62, 63, 64, 65, 66, 67, 68, 69, 70, 71, 72, 73, 74, 75, 76] (by decide +kernel) (by decide +kernel)
set_option maxRecDepth 20000 in
theorem gX4_share_X4_rowsOfLength : GoodIn wsX4_share (wsV RX4 147 RX4 yX4_rowsOfLength wsX4_rowsOfLength) := goodIn_app (goodIn_of _ (by decide +kernel)) ggX4_share_X4_rowsOfLength
set_option maxRecDepth 20000 in
theorem ggX4_share_X4_makeSentences : GoodIn wsX4_share wsX4_makeSentences := goodIn_r _ [15, 16, 11, 17, 7, 8, 9, 5, 10, 18, 19, 20, 21, 22, 23, 24, 25, 26, 27, 28, 29, 30, 31, 32, 33, 34, 35, 36, 37, 38, 39, 40, 41, 42, 43, 44, 45, 46, 47, 48, 49, 50, 51, 52, 53, 54, 55, 56, 57, 58, 59, 60, 61, 62, 63, 64, 65, 66, 67, 68, 69, 70, 71, 72, 73, 74, 75, 76, 77] (by decide +kernel) (by decide +kernel)
set_option maxRecDepth 20000 in
theorem gX4_share_X4_makeSentences : GoodIn wsX4_share (wsV RX4 150 RX4 yX4_makeSentences wsX4_makeSentences) := goodIn_app (goodIn_of _ (by decide +kernel)) ggX4_share_X4_makeSentences
theorem dX4_share_0 : decode cX4_share 0 = .ok (.iload_n 1, 1) := by decide +kernel
theorem dX4_share_1 : decode cX4_share 1 = .ok (.invokestatic 142, 3) := by decide +kernel
theorem dX4_share_4 : decode cX4_share 4 = .ok (.ifCond .eq 13, 3) := by decide +kernel
theorem dX4_share_7 : decode cX4_share 7 = .ok (.new 52, 3) := by decide +kernel
theorem dX4_share_10 : decode cX4_share 10 = .ok (.dup, 1) := by decide +kernel
theorem dX4_share_11 : decode cX4_share 11 = .ok (.ldc 145, 2) := by decide +kernel
theorem dX4_share_13 : decode cX4_share 13 = .ok (.invokespecial 56, 3) := by decide +kernel
theorem dX4_share_16 : decode cX4_share 16 = .ok (.athrow, 1) := by decide +kernel
theorem dX4_share_17 : decode cX4_share 17 = .ok (.aload_n 0, 1) := by decide +kernel
theorem dX4_share_18 : decode cX4_share 18 = .ok (.iload_n 1, 1) := by decide +kernel
theorem dX4_share_19 : decode cX4_share 19 = .ok (.invokevirtual 147, 3) := by decide +kernel
theorem dX4_share_22 : decode cX4_share 22 = .ok (.istore_n 2, 1) := by decide +kernel
theorem dX4_share_23 : decode cX4_share 23 = .ok (.iload_n 2, 1) := by decide +kernel
theorem dX4_share_24 : decode cX4_share 24 = .ok (.ifCond .ne 5, 3) := by decide +kernel
theorem dX4_share_27 : decode cX4_share 27 = .ok (.fconst 0, 1) := by decide +kernel
theorem dX4_share_28 : decode cX4_share 28 = .ok (.freturn, 1) := by decide +kernel
theorem dX4_share_29 : decode cX4_share 29 = .ok (.aload_n 0, 1) := by decide +kernel
theorem dX4_share_30 : decode cX4_share 30 = .ok (.iload_n 1, 1) := by decide +kernel
theorem dX4_share_31 : decode cX4_share 31 = .ok (.iload_n 2, 1) := by decide +kernel
theorem dX4_share_32 : decode cX4_share 32 = .ok (.invokevirtual 150, 3) := by decide +kernel
theorem dX4_share_35 : decode cX4_share 35 = .ok (.i2f, 1) := by decide +kernel
theorem dX4_share_36 : decode cX4_share 36 = .ok (.iload_n 2, 1) := by decide +kernel
theorem dX4_share_37 : decode cX4_share 37 = .ok (.i2f, 1) := by decide +kernel
theorem dX4_share_38 : decode cX4_share 38 = .ok (.fdiv, 1) := by decide +kernel
theorem dX4_share_39 : decode cX4_share 39 = .ok (.freturn, 1) := by decide +kernel
set_option maxRecDepth 20000 in
theorem ggX4_spoil_X4_isOutside : GoodIn wsX4_spoil wsX4_isOutside := goodIn_r _ [9] (by decide +kernel) (by decide +kernel)
set_option maxRecDepth 20000 in
theorem gX4_spoil_X4_isOutside : GoodIn wsX4_spoil (va_wsS RX4 75 yX4_isOutside wsX4_isOutside) := goodIn_app (goodIn_of _ (by decide +kernel)) ggX4_spoil_X4_isOutside
set_option maxRecDepth 20000 in
theorem ggX4_spoil_X4_isSentenceFreeAt : GoodIn wsX4_spoil wsX4_isSentenceFreeAt := goodIn_r _ [13, 3, 14, 4, 5, 15, 16, 17, 18, 19, 20, 21, 22, 23, 24, 8, 25, 26, 27, 28, 29, 30, 31, 32, 33, 34, 35, 36, 37, 38, 39, 40, 41, 42, 43, 44, 45, 46, 47, 48, 49, 50, 51, 52, 53, 68, 69, 70, 71, 72, 73, 74, 75, 76, 77, 78, 79, 80, 81, 82, 83] (by decide +kernel) (by decide +kernel)
set_option maxRecDepth 20000 in
theorem gX4_spoil_X4_isSentenceFreeAt : GoodIn wsX4_spoil (wsV RX4 158 RX4 yX4_isSentenceFreeAt wsX4_isSentenceFreeAt) := goodIn_app (goodIn_of _ (by decide +kernel)) ggX4_spoil_X4_isSentenceFreeAt
set_option maxRecDepth 20000 in
theorem ggX4_spoil_X4_isSentenceWith : GoodIn wsX4_spoil wsX4_isSentenceWith := goodIn_r _ [57, 5, 58, 3, 59, 60, 61, 62, 14, 4, 63, 16, 64, 65, 66, 30, 31, 32, 19, 20, 21, 22, 23, 24, 8, 25, 26, 27, 28, 29, 67, 33, 34, 35, 36, 37, 38, 39, 40, 41, 42, 43, 44, 45, 46, 47, 48, 49, 50, 51, 52, 53, 68, 69, 70, 71, 72, 73, 74, 75, 76, 77, 78, 79, 80, 81, 82, 83] (by decide +kernel) (by decide +kernel)
set_option maxRecDepth 20000 in
theorem gX4_spoil_X4_isSentenceWith : GoodIn wsX4_spoil (wsV RX4 161 RX4 yX4_isSentenceWith wsX4_isSentenceWith) := goodIn_app (goodIn_of _ (by decide +kernel)) ggX4_spoil_X4_isSentenceWith
theorem dX4_spoil_0 : decode cX4_spoil 0 = .ok (.iload_n 1, 1) := by decide +kernel
theorem dX4_spoil_1 : decode cX4_spoil 1 = .ok (.aload_n 0, 1) := by decide +kernel
theorem dX4_spoil_2 : decode cX4_spoil 2 = .ok (.getfield 20, 3) := by decide +kernel
theorem dX4_spoil_5 : decode cX4_spoil 5 = .ok (.invokestatic 75, 3) := by decide +kernel
theorem dX4_spoil_8 : decode cX4_spoil 8 = .ok (.ifCond .eq 13, 3) := by decide +kernel
theorem dX4_spoil_11 : decode cX4_spoil 11 = .ok (.new 79, 3) := by decide +kernel
theorem dX4_spoil_14 : decode cX4_spoil 14 = .ok (.dup, 1) := by decide +kernel
theorem dX4_spoil_15 : decode cX4_spoil 15 = .ok (.ldc 108, 2) := by decide +kernel
theorem dX4_spoil_17 : decode cX4_spoil 17 = .ok (.invokespecial 83, 3) := by decide +kernel
theorem dX4_spoil_20 : decode cX4_spoil 20 = .ok (.athrow, 1) := by decide +kernel
theorem dX4_spoil_21 : decode cX4_spoil 21 = .ok (.aload_n 0, 1) := by decide +kernel
theorem dX4_spoil_22 : decode cX4_spoil 22 = .ok (.iconst (-1), 1) := by decide +kernel
theorem dX4_spoil_23 : decode cX4_spoil 23 = .ok (.iconst (-1), 1) := by decide +kernel
theorem dX4_spoil_24 : decode cX4_spoil 24 = .ok (.invokevirtual 158, 3) := by decide +kernel
theorem dX4_spoil_27 : decode cX4_spoil 27 = .ok (.ifCond .ne 5, 3) := by decide +kernel
theorem dX4_spoil_30 : decode cX4_spoil 30 = .ok (.iconst (-1), 1) := by decide +kernel
theorem dX4_spoil_31 : decode cX4_spoil 31 = .ok (.ireturn, 1) := by decide +kernel
theorem dX4_spoil_32 : decode cX4_spoil 32 = .ok (.aload_n 0, 1) := by decide +kernel
theorem dX4_spoil_33 : decode cX4_spoil 33 = .ok (.getfield 12, 3) := by decide +kernel
theorem dX4_spoil_36 : decode cX4_spoil 36 = .ok (.getfield 84, 3) := by decide +kernel
theorem dX4_spoil_39 : decode cX4_spoil 39 = .ok (.aload_n 0, 1) := by decide +kernel
theorem dX4_spoil_40 : decode cX4_spoil 40 = .ok (.getfield 16, 3) := by decide +kernel
theorem dX4_spoil_43 : decode cX4_spoil 43 = .ok (.iload_n 1, 1) := by decide +kernel
theorem dX4_spoil_44 : decode cX4_spoil 44 = .ok (.iaload, 1) := by decide +kernel
theorem dX4_spoil_45 : decode cX4_spoil 45 = .ok (.iaload, 1) := by decide +kernel
theorem dX4_spoil_46 : decode cX4_spoil 46 = .ok (.istore_n 2, 1) := by decide +kernel
theorem dX4_spoil_47 : decode cX4_spoil 47 = .ok (.iconst 0, 1) := by decide +kernel
theorem dX4_spoil_48 : decode cX4_spoil 48 = .ok (.istore_n 3, 1) := by decide +kernel
theorem dX4_spoil_49 : decode cX4_spoil 49 = .ok (.iload_n 3, 1) := by decide +kernel
theorem dX4_spoil_50 : decode cX4_spoil 50 = .ok (.aload_n 0, 1) := by decide +kernel
theorem dX4_spoil_51 : decode cX4_spoil 51 = .ok (.getfield 12, 3) := by decide +kernel
theorem dX4_spoil_54 : decode cX4_spoil 54 = .ok (.getfield 59, 3) := by decide +kernel
theorem dX4_spoil_57 : decode cX4_spoil 57 = .ok (.if_icmp .ge 33, 3) := by decide +kernel
theorem dX4_spoil_60 : decode cX4_spoil 60 = .ok (.aload_n 0, 1) := by decide +kernel
theorem dX4_spoil_61 : decode cX4_spoil 61 = .ok (.getfield 12, 3) := by decide +kernel
theorem dX4_spoil_64 : decode cX4_spoil 64 = .ok (.getfield 84, 3) := by decide +kernel
theorem dX4_spoil_67 : decode cX4_spoil 67 = .ok (.iload_n 3, 1) := by decide +kernel
theorem dX4_spoil_68 : decode cX4_spoil 68 = .ok (.iaload, 1) := by decide +kernel
theorem dX4_spoil_69 : decode cX4_spoil 69 = .ok (.iload_n 2, 1) := by decide +kernel
theorem dX4_spoil_70 : decode cX4_spoil 70 = .ok (.if_icmp .ne 14, 3) := by decide +kernel
theorem dX4_spoil_73 : decode cX4_spoil 73 = .ok (.aload_n 0, 1) := by decide +kernel
theorem dX4_spoil_74 : decode cX4_spoil 74 = .ok (.iload_n 1, 1) := by decide +kernel
theorem dX4_spoil_75 : decode cX4_spoil 75 = .ok (.iload_n 3, 1) := by decide +kernel
theorem dX4_spoil_76 : decode cX4_spoil 76 = .ok (.invokevirtual 161, 3) := by decide +kernel
theorem dX4_spoil_79 : decode cX4_spoil 79 = .ok (.ifCond .ne 5, 3) := by decide +kernel
theorem dX4_spoil_82 : decode cX4_spoil 82 = .ok (.iload_n 3, 1) := by decide +kernel
theorem dX4_spoil_83 : decode cX4_spoil 83 = .ok (.ireturn, 1) := by decide +kernel
theorem dX4_spoil_84 : decode cX4_spoil 84 = .ok (.iinc 3 1, 3) := by decide +kernel
theorem dX4_spoil_87 : decode cX4_spoil 87 = .ok (.goto (-38), 3) := by decide +kernel
theorem dX4_spoil_90 : decode cX4_spoil 90 = .ok (.iconst (-1), 1) := by decide +kernel
theorem dX4_spoil_91 : decode cX4_spoil 91 = .ok (.ireturn, 1) := by decide +kernel
set_option maxRecDepth 20000 in
theorem ggX4_changes_X4_isSentenceFreeAt : GoodIn wsX4_changes wsX4_isSentenceFreeAt := goodIn_r _ [6, 1, 7, 8, 9, 10, 11, 12, 13, 14, 15, 16, 17, 18, 19, 5, 20, 21, 22, 23, 24, 25, 26, 27, 28, 29, 30, 31, 32, 33, 34, 35, 36, 37, 38, 39, 40, 41, 42, 43, 44, 45, 46, 47, 48, 49, 50, 51, 52, 53, 54, 55, 56, 57, 58, 59, 60, 61, 62, 63, 64] (by decide +kernel) (by decide +kernel)
set_option maxRecDepth 20000 in
theorem gX4_changes_X4_isSentenceFreeAt : GoodIn wsX4_changes (wsV RX4 158 RX4 yX4_isSentenceFreeAt wsX4_isSentenceFreeAt) := goodIn_app (goodIn_of _ (by decide +kernel)) ggX4_changes_X4_isSentenceFreeAt
theorem dX4_changes_0 : decode cX4_changes 0 = .ok (.aload_n 0, 1) := by decide +kernel
theorem dX4_changes_1 : decode cX4_changes 1 = .ok (.iconst (-1), 1) := by decide +kernel
theorem dX4_changes_2 : decode cX4_changes 2 = .ok (.iconst (-1), 1) := by decide +kernel
theorem dX4_changes_3 : decode cX4_changes 3 = .ok (.invokevirtual 158, 3) := by decide +kernel
theorem dX4_changes_6 : decode cX4_changes 6 = .ok (.ifCond .eq 5, 3) := by decide +kernel
theorem dX4_changes_9 : decode cX4_changes 9 = .ok (.iconst 0, 1) := by decide +kernel
theorem dX4_changes_10 : decode cX4_changes 10 = .ok (.ireturn, 1) := by decide +kernel
theorem dX4_changes_11 : decode cX4_changes 11 = .ok (.iconst 0, 1) := by decide +kernel
theorem dX4_changes_12 : decode cX4_changes 12 = .ok (.istore_n 1, 1) := by decide +kernel
theorem dX4_changes_13 : decode cX4_changes 13 = .ok (.iload_n 1, 1) := by decide +kernel
theorem dX4_changes_14 : decode cX4_changes 14 = .ok (.aload_n 0, 1) := by decide +kernel
theorem dX4_changes_15 : decode cX4_changes 15 = .ok (.getfield 20, 3) := by decide +kernel
theorem dX4_changes_18 : decode cX4_changes 18 = .ok (.if_icmp .ge 20, 3) := by decide +kernel
theorem dX4_changes_21 : decode cX4_changes 21 = .ok (.aload_n 0, 1) := by decide +kernel
theorem dX4_changes_22 : decode cX4_changes 22 = .ok (.iload_n 1, 1) := by decide +kernel
theorem dX4_changes_23 : decode cX4_changes 23 = .ok (.iconst (-1), 1) := by decide +kernel
theorem dX4_changes_24 : decode cX4_changes 24 = .ok (.invokevirtual 158, 3) := by decide +kernel
theorem dX4_changes_27 : decode cX4_changes 27 = .ok (.ifCond .eq 5, 3) := by decide +kernel
theorem dX4_changes_30 : decode cX4_changes 30 = .ok (.iconst 1, 1) := by decide +kernel
theorem dX4_changes_31 : decode cX4_changes 31 = .ok (.ireturn, 1) := by decide +kernel
theorem dX4_changes_32 : decode cX4_changes 32 = .ok (.iinc 1 1, 3) := by decide +kernel
theorem dX4_changes_35 : decode cX4_changes 35 = .ok (.goto (-22), 3) := by decide +kernel
theorem dX4_changes_38 : decode cX4_changes 38 = .ok (.iconst 0, 1) := by decide +kernel
theorem dX4_changes_39 : decode cX4_changes 39 = .ok (.istore_n 1, 1) := by decide +kernel
theorem dX4_changes_40 : decode cX4_changes 40 = .ok (.iload_n 1, 1) := by decide +kernel
theorem dX4_changes_41 : decode cX4_changes 41 = .ok (.aload_n 0, 1) := by decide +kernel
theorem dX4_changes_42 : decode cX4_changes 42 = .ok (.getfield 20, 3) := by decide +kernel
theorem dX4_changes_45 : decode cX4_changes 45 = .ok (.if_icmp .ge 38, 3) := by decide +kernel
theorem dX4_changes_48 : decode cX4_changes 48 = .ok (.iload_n 1, 1) := by decide +kernel
theorem dX4_changes_49 : decode cX4_changes 49 = .ok (.iconst 1, 1) := by decide +kernel
theorem dX4_changes_50 : decode cX4_changes 50 = .ok (.iadd, 1) := by decide +kernel
theorem dX4_changes_51 : decode cX4_changes 51 = .ok (.istore_n 2, 1) := by decide +kernel
theorem dX4_changes_52 : decode cX4_changes 52 = .ok (.iload_n 2, 1) := by decide +kernel
theorem dX4_changes_53 : decode cX4_changes 53 = .ok (.aload_n 0, 1) := by decide +kernel
theorem dX4_changes_54 : decode cX4_changes 54 = .ok (.getfield 20, 3) := by decide +kernel
theorem dX4_changes_57 : decode cX4_changes 57 = .ok (.if_icmp .ge 20, 3) := by decide +kernel
theorem dX4_changes_60 : decode cX4_changes 60 = .ok (.aload_n 0, 1) := by decide +kernel
theorem dX4_changes_61 : decode cX4_changes 61 = .ok (.iload_n 1, 1) := by decide +kernel
theorem dX4_changes_62 : decode cX4_changes 62 = .ok (.iload_n 2, 1) := by decide +kernel
theorem dX4_changes_63 : decode cX4_changes 63 = .ok (.invokevirtual 158, 3) := by decide +kernel
theorem dX4_changes_66 : decode cX4_changes 66 = .ok (.ifCond .eq 5, 3) := by decide +kernel
theorem dX4_changes_69 : decode cX4_changes 69 = .ok (.iconst 2, 1) := by decide +kernel
theorem dX4_changes_70 : decode cX4_changes 70 = .ok (.ireturn, 1) := by decide +kernel
theorem dX4_changes_71 : decode cX4_changes 71 = .ok (.iinc 2 1, 3) := by decide +kernel
theorem dX4_changes_74 : decode cX4_changes 74 = .ok (.goto (-22), 3) := by decide +kernel
theorem dX4_changes_77 : decode cX4_changes 77 = .ok (.iinc 1 1, 3) := by decide +kernel
theorem dX4_changes_80 : decode cX4_changes 80 = .ok (.goto (-40), 3) := by decide +kernel
theorem dX4_changes_83 : decode cX4_changes 83 = .ok (.iconst (-1), 1) := by decide +kernel
theorem dX4_changes_84 : decode cX4_changes 84 = .ok (.ireturn, 1) := by decide +kernel
set_option maxRecDepth 20000 in
theorem ggX4_correction_X4_isSentenceWith : GoodIn wsX4_correction wsX4_isSentenceWith := goodIn_r _ [10, 5, 11, 3, 12, 13, 14, 15, 16, 4, 17, 18, 19, 20, 21, 22, 23, 24, 25, 26, 27, 28, 29, 30, 9, 31, 32, 33, 34, 35, 36, 37, 38, 39, 40, 41, 42, 43, 44, 45, 46, 47, 48, 49, 50, 51, 52, 53, 54, 55, 56, 57, 58, 59, 60, 61, 62, 63, 64, 65, 66, 67, 68, 69, 70, 71, 72, 73] (by decide +kernel) (by decide +kernel)
set_option maxRecDepth 20000 in
theorem gX4_correction_X4_isSentenceWith : GoodIn wsX4_correction (wsV RX4 161 RX4 yX4_isSentenceWith wsX4_isSentenceWith) := goodIn_app (goodIn_of _ (by decide +kernel)) ggX4_correction_X4_isSentenceWith
theorem dX4_correction_0 : decode cX4_correction 0 = .ok (.iload_n 1, 1) := by decide +kernel
theorem dX4_correction_1 : decode cX4_correction 1 = .ok (.ifCond .ge 13, 3) := by decide +kernel
theorem dX4_correction_4 : decode cX4_correction 4 = .ok (.new 79, 3) := by decide +kernel
theorem dX4_correction_7 : decode cX4_correction 7 = .ok (.dup, 1) := by decide +kernel
theorem dX4_correction_8 : decode cX4_correction 8 = .ok (.ldc 164, 2) := by decide +kernel
theorem dX4_correction_10 : decode cX4_correction 10 = .ok (.invokespecial 83, 3) := by decide +kernel
theorem dX4_correction_13 : decode cX4_correction 13 = .ok (.athrow, 1) := by decide +kernel
theorem dX4_correction_14 : decode cX4_correction 14 = .ok (.iload_n 1, 1) := by decide +kernel
theorem dX4_correction_15 : decode cX4_correction 15 = .ok (.istore_n 2, 1) := by decide +kernel
theorem dX4_correction_16 : decode cX4_correction 16 = .ok (.iconst 0, 1) := by decide +kernel
theorem dX4_correction_17 : decode cX4_correction 17 = .ok (.istore_n 3, 1) := by decide +kernel
theorem dX4_correction_18 : decode cX4_correction 18 = .ok (.iload_n 3, 1) := by decide +kernel
theorem dX4_correction_19 : decode cX4_correction 19 = .ok (.aload_n 0, 1) := by decide +kernel
theorem dX4_correction_20 : decode cX4_correction 20 = .ok (.getfield 20, 3) := by decide +kernel
theorem dX4_correction_23 : decode cX4_correction 23 = .ok (.if_icmp .ge 66, 3) := by decide +kernel
theorem dX4_correction_26 : decode cX4_correction 26 = .ok (.iconst 0, 1) := by decide +kernel
theorem dX4_correction_27 : decode cX4_correction 27 = .ok (.istore 4, 2) := by decide +kernel
theorem dX4_correction_29 : decode cX4_correction 29 = .ok (.iload 4, 2) := by decide +kernel
theorem dX4_correction_31 : decode cX4_correction 31 = .ok (.aload_n 0, 1) := by decide +kernel
theorem dX4_correction_32 : decode cX4_correction 32 = .ok (.getfield 12, 3) := by decide +kernel
theorem dX4_correction_35 : decode cX4_correction 35 = .ok (.getfield 59, 3) := by decide +kernel
theorem dX4_correction_38 : decode cX4_correction 38 = .ok (.if_icmp .ge 45, 3) := by decide +kernel
theorem dX4_correction_41 : decode cX4_correction 41 = .ok (.iload 4, 2) := by decide +kernel
theorem dX4_correction_43 : decode cX4_correction 43 = .ok (.aload_n 0, 1) := by decide +kernel
theorem dX4_correction_44 : decode cX4_correction 44 = .ok (.getfield 16, 3) := by decide +kernel
theorem dX4_correction_47 : decode cX4_correction 47 = .ok (.iload_n 3, 1) := by decide +kernel
theorem dX4_correction_48 : decode cX4_correction 48 = .ok (.iaload, 1) := by decide +kernel
theorem dX4_correction_49 : decode cX4_correction 49 = .ok (.if_icmp .eq 28, 3) := by decide +kernel
theorem dX4_correction_52 : decode cX4_correction 52 = .ok (.aload_n 0, 1) := by decide +kernel
theorem dX4_correction_53 : decode cX4_correction 53 = .ok (.iload_n 3, 1) := by decide +kernel
theorem dX4_correction_54 : decode cX4_correction 54 = .ok (.iload 4, 2) := by decide +kernel
theorem dX4_correction_56 : decode cX4_correction 56 = .ok (.invokevirtual 161, 3) := by decide +kernel
theorem dX4_correction_59 : decode cX4_correction 59 = .ok (.ifCond .eq 18, 3) := by decide +kernel
theorem dX4_correction_62 : decode cX4_correction 62 = .ok (.iload_n 2, 1) := by decide +kernel
theorem dX4_correction_63 : decode cX4_correction 63 = .ok (.ifCond .ne 11, 3) := by decide +kernel
theorem dX4_correction_66 : decode cX4_correction 66 = .ok (.bipush 10, 2) := by decide +kernel
theorem dX4_correction_68 : decode cX4_correction 68 = .ok (.iload_n 3, 1) := by decide +kernel
theorem dX4_correction_69 : decode cX4_correction 69 = .ok (.imul, 1) := by decide +kernel
theorem dX4_correction_70 : decode cX4_correction 70 = .ok (.iload 4, 2) := by decide +kernel
theorem dX4_correction_72 : decode cX4_correction 72 = .ok (.iadd, 1) := by decide +kernel
theorem dX4_correction_73 : decode cX4_correction 73 = .ok (.ireturn, 1) := by decide +kernel
theorem dX4_correction_74 : decode cX4_correction 74 = .ok (.iinc 2 (-1), 3) := by decide +kernel
theorem dX4_correction_77 : decode cX4_correction 77 = .ok (.iinc 4 1, 3) := by decide +kernel
theorem dX4_correction_80 : decode cX4_correction 80 = .ok (.goto (-51), 3) := by decide +kernel
theorem dX4_correction_83 : decode cX4_correction 83 = .ok (.iinc 3 1, 3) := by decide +kernel
theorem dX4_correction_86 : decode cX4_correction 86 = .ok (.goto (-68), 3) := by decide +kernel
theorem dX4_correction_89 : decode cX4_correction 89 = .ok (.iconst (-1), 1) := by decide +kernel
theorem dX4_correction_90 : decode cX4_correction 90 = .ok (.ireturn, 1) := by decide +kernel
theorem dX4_isOutside_0 : decode cX4_isOutside 0 = .ok (.iload_n 0, 1) := by decide +kernel
theorem dX4_isOutside_1 : decode cX4_isOutside 1 = .ok (.ifCond .lt 8, 3) := by decide +kernel
theorem dX4_isOutside_4 : decode cX4_isOutside 4 = .ok (.iload_n 0, 1) := by decide +kernel
theorem dX4_isOutside_5 : decode cX4_isOutside 5 = .ok (.iload_n 1, 1) := by decide +kernel
theorem dX4_isOutside_6 : decode cX4_isOutside 6 = .ok (.if_icmp .lt 7, 3) := by decide +kernel
theorem dX4_isOutside_9 : decode cX4_isOutside 9 = .ok (.iconst 1, 1) := by decide +kernel
theorem dX4_isOutside_10 : decode cX4_isOutside 10 = .ok (.goto 4, 3) := by decide +kernel
theorem dX4_isOutside_13 : decode cX4_isOutside 13 = .ok (.iconst 0, 1) := by decide +kernel
theorem dX4_isOutside_14 : decode cX4_isOutside 14 = .ok (.ireturn, 1) := by decide +kernel
set_option maxRecDepth 20000 in
theorem ggX4_isNoKind_X4_isOutside : GoodIn wsX4_isNoKind wsX4_isOutside := goodIn_r _ [4] (by decide +kernel) (by decide +kernel)
set_option maxRecDepth 20000 in
theorem gX4_isNoKind_X4_isOutside : GoodIn wsX4_isNoKind (va_wsS RX4 75 yX4_isOutside wsX4_isOutside) := goodIn_app (goodIn_of _ (by decide +kernel)) ggX4_isNoKind_X4_isOutside
theorem dX4_isNoKind_0 : decode cX4_isNoKind 0 = .ok (.iload_n 0, 1) := by decide +kernel
theorem dX4_isNoKind_1 : decode cX4_isNoKind 1 = .ok (.bipush 8, 2) := by decide +kernel
theorem dX4_isNoKind_3 : decode cX4_isNoKind 3 = .ok (.invokestatic 75, 3) := by decide +kernel
theorem dX4_isNoKind_6 : decode cX4_isNoKind 6 = .ok (.ifCond .ne 19, 3) := by decide +kernel
theorem dX4_isNoKind_9 : decode cX4_isNoKind 9 = .ok (.iload_n 1, 1) := by decide +kernel
theorem dX4_isNoKind_10 : decode cX4_isNoKind 10 = .ok (.iconst 4, 1) := by decide +kernel
theorem dX4_isNoKind_11 : decode cX4_isNoKind 11 = .ok (.invokestatic 75, 3) := by decide +kernel
theorem dX4_isNoKind_14 : decode cX4_isNoKind 14 = .ok (.ifCond .ne 11, 3) := by decide +kernel
theorem dX4_isNoKind_17 : decode cX4_isNoKind 17 = .ok (.iload_n 2, 1) := by decide +kernel
theorem dX4_isNoKind_18 : decode cX4_isNoKind 18 = .ok (.iconst 4, 1) := by decide +kernel
theorem dX4_isNoKind_19 : decode cX4_isNoKind 19 = .ok (.invokestatic 75, 3) := by decide +kernel
theorem dX4_isNoKind_22 : decode cX4_isNoKind 22 = .ok (.ifCond .eq 7, 3) := by decide +kernel
theorem dX4_isNoKind_25 : decode cX4_isNoKind 25 = .ok (.iconst 1, 1) := by decide +kernel
theorem dX4_isNoKind_26 : decode cX4_isNoKind 26 = .ok (.goto 4, 3) := by decide +kernel
theorem dX4_isNoKind_29 : decode cX4_isNoKind 29 = .ok (.iconst 0, 1) := by decide +kernel
theorem dX4_isNoKind_30 : decode cX4_isNoKind 30 = .ok (.ireturn, 1) := by decide +kernel
theorem dX4_isNoDigitPair_0 : decode cX4_isNoDigitPair 0 = .ok (.iload_n 0, 1) := by decide +kernel
theorem dX4_isNoDigitPair_1 : decode cX4_isNoDigitPair 1 = .ok (.ifCond .lt 19, 3) := by decide +kernel
theorem dX4_isNoDigitPair_4 : decode cX4_isNoDigitPair 4 = .ok (.iload_n 0, 1) := by decide +kernel
theorem dX4_isNoDigitPair_5 : decode cX4_isNoDigitPair 5 = .ok (.bipush 10, 2) := by decide +kernel
theorem dX4_isNoDigitPair_7 : decode cX4_isNoDigitPair 7 = .ok (.idiv, 1) := by decide +kernel
theorem dX4_isNoDigitPair_8 : decode cX4_isNoDigitPair 8 = .ok (.iconst 4, 1) := by decide +kernel
theorem dX4_isNoDigitPair_9 : decode cX4_isNoDigitPair 9 = .ok (.if_icmp .ge 11, 3) := by decide +kernel
theorem dX4_isNoDigitPair_12 : decode cX4_isNoDigitPair 12 = .ok (.iload_n 0, 1) := by decide +kernel
theorem dX4_isNoDigitPair_13 : decode cX4_isNoDigitPair 13 = .ok (.bipush 10, 2) := by decide +kernel
theorem dX4_isNoDigitPair_15 : decode cX4_isNoDigitPair 15 = .ok (.irem, 1) := by decide +kernel
theorem dX4_isNoDigitPair_16 : decode cX4_isNoDigitPair 16 = .ok (.iconst 4, 1) := by decide +kernel
theorem dX4_isNoDigitPair_17 : decode cX4_isNoDigitPair 17 = .ok (.if_icmp .lt 7, 3) := by decide +kernel
theorem dX4_isNoDigitPair_20 : decode cX4_isNoDigitPair 20 = .ok (.iconst 1, 1) := by decide +kernel
theorem dX4_isNoDigitPair_21 : decode cX4_isNoDigitPair 21 = .ok (.goto 4, 3) := by decide +kernel
theorem dX4_isNoDigitPair_24 : decode cX4_isNoDigitPair 24 = .ok (.iconst 0, 1) := by decide +kernel
theorem dX4_isNoDigitPair_25 : decode cX4_isNoDigitPair 25 = .ok (.ireturn, 1) := by decide +kernel
theorem dX4_isNoLength_0 : decode cX4_isNoLength 0 = .ok (.iload_n 0, 1) := by decide +kernel
theorem dX4_isNoLength_1 : decode cX4_isNoLength 1 = .ok (.iconst 1, 1) := by decide +kernel
theorem dX4_isNoLength_2 : decode cX4_isNoLength 2 = .ok (.if_icmp .lt 8, 3) := by decide +kernel
theorem dX4_isNoLength_5 : decode cX4_isNoLength 5 = .ok (.iload_n 0, 1) := by decide +kernel
theorem dX4_isNoLength_6 : decode cX4_isNoLength 6 = .ok (.iconst 4, 1) := by decide +kernel
theorem dX4_isNoLength_7 : decode cX4_isNoLength 7 = .ok (.if_icmp .le 7, 3) := by decide +kernel
theorem dX4_isNoLength_10 : decode cX4_isNoLength 10 = .ok (.iconst 1, 1) := by decide +kernel
theorem dX4_isNoLength_11 : decode cX4_isNoLength 11 = .ok (.goto 4, 3) := by decide +kernel
theorem dX4_isNoLength_14 : decode cX4_isNoLength 14 = .ok (.iconst 0, 1) := by decide +kernel
theorem dX4_isNoLength_15 : decode cX4_isNoLength 15 = .ok (.ireturn, 1) := by decide +kernel
theorem dX4_isNoSpan_0 : decode cX4_isNoSpan 0 = .ok (.iload_n 1, 1) := by decide +kernel
theorem dX4_isNoSpan_1 : decode cX4_isNoSpan 1 = .ok (.ifCond .lt 16, 3) := by decide +kernel
theorem dX4_isNoSpan_4 : decode cX4_isNoSpan 4 = .ok (.iload_n 2, 1) := by decide +kernel
theorem dX4_isNoSpan_5 : decode cX4_isNoSpan 5 = .ok (.iload_n 1, 1) := by decide +kernel
theorem dX4_isNoSpan_6 : decode cX4_isNoSpan 6 = .ok (.if_icmp .le 11, 3) := by decide +kernel
theorem dX4_isNoSpan_9 : decode cX4_isNoSpan 9 = .ok (.iload_n 2, 1) := by decide +kernel
theorem dX4_isNoSpan_10 : decode cX4_isNoSpan 10 = .ok (.aload_n 0, 1) := by decide +kernel
theorem dX4_isNoSpan_11 : decode cX4_isNoSpan 11 = .ok (.getfield 20, 3) := by decide +kernel
theorem dX4_isNoSpan_14 : decode cX4_isNoSpan 14 = .ok (.if_icmp .le 7, 3) := by decide +kernel
theorem dX4_isNoSpan_17 : decode cX4_isNoSpan 17 = .ok (.iconst 1, 1) := by decide +kernel
theorem dX4_isNoSpan_18 : decode cX4_isNoSpan 18 = .ok (.goto 4, 3) := by decide +kernel
theorem dX4_isNoSpan_21 : decode cX4_isNoSpan 21 = .ok (.iconst 0, 1) := by decide +kernel
theorem dX4_isNoSpan_22 : decode cX4_isNoSpan 22 = .ok (.ireturn, 1) := by decide +kernel
theorem dX4_pairOf_0 : decode cX4_pairOf 0 = .ok (.iload_n 0, 1) := by decide +kernel
theorem dX4_pairOf_1 : decode cX4_pairOf 1 = .ok (.iconst 4, 1) := by decide +kernel
theorem dX4_pairOf_2 : decode cX4_pairOf 2 = .ok (.imul, 1) := by decide +kernel
theorem dX4_pairOf_3 : decode cX4_pairOf 3 = .ok (.iload_n 1, 1) := by decide +kernel
theorem dX4_pairOf_4 : decode cX4_pairOf 4 = .ok (.iadd, 1) := by decide +kernel
theorem dX4_pairOf_5 : decode cX4_pairOf 5 = .ok (.ireturn, 1) := by decide +kernel
theorem dX4_hasPair_0 : decode cX4_hasPair 0 = .ok (.iload_n 0, 1) := by decide +kernel
theorem dX4_hasPair_1 : decode cX4_hasPair 1 = .ok (.iload_n 1, 1) := by decide +kernel
theorem dX4_hasPair_2 : decode cX4_hasPair 2 = .ok (.ishr, 1) := by decide +kernel
theorem dX4_hasPair_3 : decode cX4_hasPair 3 = .ok (.iconst 1, 1) := by decide +kernel
theorem dX4_hasPair_4 : decode cX4_hasPair 4 = .ok (.iand, 1) := by decide +kernel
theorem dX4_hasPair_5 : decode cX4_hasPair 5 = .ok (.ifCond .eq 7, 3) := by decide +kernel
theorem dX4_hasPair_8 : decode cX4_hasPair 8 = .ok (.iconst 1, 1) := by decide +kernel
theorem dX4_hasPair_9 : decode cX4_hasPair 9 = .ok (.goto 4, 3) := by decide +kernel
theorem dX4_hasPair_12 : decode cX4_hasPair 12 = .ok (.iconst 0, 1) := by decide +kernel
theorem dX4_hasPair_13 : decode cX4_hasPair 13 = .ok (.ireturn, 1) := by decide +kernel
theorem dX4_spanOf_0 : decode cX4_spanOf 0 = .ok (.iload_n 1, 1) := by decide +kernel
theorem dX4_spanOf_1 : decode cX4_spanOf 1 = .ok (.iload_n 1, 1) := by decide +kernel
theorem dX4_spanOf_2 : decode cX4_spanOf 2 = .ok (.iconst 1, 1) := by decide +kernel
theorem dX4_spanOf_3 : decode cX4_spanOf 3 = .ok (.isub, 1) := by decide +kernel
theorem dX4_spanOf_4 : decode cX4_spanOf 4 = .ok (.imul, 1) := by decide +kernel
theorem dX4_spanOf_5 : decode cX4_spanOf 5 = .ok (.iconst 2, 1) := by decide +kernel
theorem dX4_spanOf_6 : decode cX4_spanOf 6 = .ok (.idiv, 1) := by decide +kernel
theorem dX4_spanOf_7 : decode cX4_spanOf 7 = .ok (.iload_n 0, 1) := by decide +kernel
theorem dX4_spanOf_8 : decode cX4_spanOf 8 = .ok (.iadd, 1) := by decide +kernel
theorem dX4_spanOf_9 : decode cX4_spanOf 9 = .ok (.ireturn, 1) := by decide +kernel
theorem dX4_told_0 : decode cX4_told 0 = .ok (.iload_n 0, 1) := by decide +kernel
theorem dX4_told_1 : decode cX4_told 1 = .ok (.ldc 166, 2) := by decide +kernel
theorem dX4_told_3 : decode cX4_told 3 = .ok (.if_icmp .le 8, 3) := by decide +kernel
theorem dX4_told_6 : decode cX4_told 6 = .ok (.ldc 166, 2) := by decide +kernel
theorem dX4_told_8 : decode cX4_told 8 = .ok (.goto 4, 3) := by decide +kernel
theorem dX4_told_11 : decode cX4_told 11 = .ok (.iload_n 0, 1) := by decide +kernel
theorem dX4_told_12 : decode cX4_told 12 = .ok (.ireturn, 1) := by decide +kernel
theorem dX4_countOf_0 : decode cX4_countOf 0 = .ok (.iconst 0, 1) := by decide +kernel
theorem dX4_countOf_1 : decode cX4_countOf 1 = .ok (.istore_n 2, 1) := by decide +kernel
theorem dX4_countOf_2 : decode cX4_countOf 2 = .ok (.iconst 0, 1) := by decide +kernel
theorem dX4_countOf_3 : decode cX4_countOf 3 = .ok (.istore_n 3, 1) := by decide +kernel
theorem dX4_countOf_4 : decode cX4_countOf 4 = .ok (.iload_n 3, 1) := by decide +kernel
theorem dX4_countOf_5 : decode cX4_countOf 5 = .ok (.bipush 16, 2) := by decide +kernel
theorem dX4_countOf_7 : decode cX4_countOf 7 = .ok (.if_icmp .ge 20, 3) := by decide +kernel
theorem dX4_countOf_10 : decode cX4_countOf 10 = .ok (.iload_n 2, 1) := by decide +kernel
theorem dX4_countOf_11 : decode cX4_countOf 11 = .ok (.aload_n 0, 1) := by decide +kernel
theorem dX4_countOf_12 : decode cX4_countOf 12 = .ok (.iload_n 1, 1) := by decide +kernel
theorem dX4_countOf_13 : decode cX4_countOf 13 = .ok (.bipush 16, 2) := by decide +kernel
theorem dX4_countOf_15 : decode cX4_countOf 15 = .ok (.imul, 1) := by decide +kernel
theorem dX4_countOf_16 : decode cX4_countOf 16 = .ok (.iload_n 3, 1) := by decide +kernel
theorem dX4_countOf_17 : decode cX4_countOf 17 = .ok (.iadd, 1) := by decide +kernel
theorem dX4_countOf_18 : decode cX4_countOf 18 = .ok (.iaload, 1) := by decide +kernel
theorem dX4_countOf_19 : decode cX4_countOf 19 = .ok (.iadd, 1) := by decide +kernel
theorem dX4_countOf_20 : decode cX4_countOf 20 = .ok (.istore_n 2, 1) := by decide +kernel
theorem dX4_countOf_21 : decode cX4_countOf 21 = .ok (.iinc 3 1, 3) := by decide +kernel
theorem dX4_countOf_24 : decode cX4_countOf 24 = .ok (.goto (-20), 3) := by decide +kernel
theorem dX4_countOf_27 : decode cX4_countOf 27 = .ok (.iload_n 2, 1) := by decide +kernel
theorem dX4_countOf_28 : decode cX4_countOf 28 = .ok (.ireturn, 1) := by decide +kernel
set_option maxRecDepth 20000 in
theorem ggX4_countReadings_X0_fill : GoodIn wsX4_countReadings wsX0_fill := goodIn_r _ [8, 9, 10, 11, 6, 12, 13, 14, 15, 16, 17, 18, 19, 20, 21, 22, 23, 24, 25, 26, 27, 28, 29, 30, 31, 32, 33, 34, 35, 36, 37, 38, 55, 56, 57, 58, 59, 60, 61, 62, 63] (by decide +kernel) (by decide +kernel)
set_option maxRecDepth 20000 in
theorem gX4_countReadings_X0_fill_n167 : GoodIn wsX4_countReadings (wsX0_fill) := ggX4_countReadings_X0_fill
set_option maxRecDepth 20000 in
theorem ggX4_countReadings_X0_countSpan : GoodIn wsX4_countReadings wsX0_countSpan := goodIn_r _ [41, 13, 14, 15, 16, 42, 43, 55] (by decide +kernel) (by decide +kernel)
set_option maxRecDepth 20000 in
theorem gX4_countReadings_X0_countSpan_n171 : GoodIn wsX4_countReadings (wsX0_countSpan) := ggX4_countReadings_X0_countSpan
set_option maxRecDepth 20000 in
theorem ggX4_countReadings_X4_told : GoodIn wsX4_countReadings wsX4_told := goodIn_r _ [46, 47] (by decide +kernel) (by decide +kernel)
set_option maxRecDepth 20000 in
theorem gX4_countReadings_X4_told : GoodIn wsX4_countReadings (va_wsS RX4 118 yX4_told wsX4_told) := goodIn_app (goodIn_of _ (by decide +kernel)) ggX4_countReadings_X4_told
theorem dX4_countReadings_0 : decode cX4_countReadings 0 = .ok (.aload_n 0, 1) := by decide +kernel
theorem dX4_countReadings_1 : decode cX4_countReadings 1 = .ok (.getfield 37, 3) := by decide +kernel
theorem dX4_countReadings_4 : decode cX4_countReadings 4 = .ok (.aload_n 0, 1) := by decide +kernel
theorem dX4_countReadings_5 : decode cX4_countReadings 5 = .ok (.getfield 12, 3) := by decide +kernel
theorem dX4_countReadings_8 : decode cX4_countReadings 8 = .ok (.aload_n 0, 1) := by decide +kernel
theorem dX4_countReadings_9 : decode cX4_countReadings 9 = .ok (.getfield 16, 3) := by decide +kernel
theorem dX4_countReadings_12 : decode cX4_countReadings 12 = .ok (.aload_n 0, 1) := by decide +kernel
theorem dX4_countReadings_13 : decode cX4_countReadings 13 = .ok (.getfield 20, 3) := by decide +kernel
theorem dX4_countReadings_16 : decode cX4_countReadings 16 = .ok (.invokevirtual 167, 3) := by decide +kernel
theorem dX4_countReadings_19 : decode cX4_countReadings 19 = .ok (.aload_n 0, 1) := by decide +kernel
theorem dX4_countReadings_20 : decode cX4_countReadings 20 = .ok (.getfield 37, 3) := by decide +kernel
theorem dX4_countReadings_23 : decode cX4_countReadings 23 = .ok (.iload_n 1, 1) := by decide +kernel
theorem dX4_countReadings_24 : decode cX4_countReadings 24 = .ok (.iload_n 2, 1) := by decide +kernel
theorem dX4_countReadings_25 : decode cX4_countReadings 25 = .ok (.iload_n 3, 1) := by decide +kernel
theorem dX4_countReadings_26 : decode cX4_countReadings 26 = .ok (.invokevirtual 171, 3) := by decide +kernel
theorem dX4_countReadings_29 : decode cX4_countReadings 29 = .ok (.invokestatic 118, 3) := by decide +kernel
theorem dX4_countReadings_32 : decode cX4_countReadings 32 = .ok (.ireturn, 1) := by decide +kernel
set_option maxRecDepth 20000 in
theorem ggX4_isSentenceWith_X2_parse : GoodIn wsX4_isSentenceWith wsX2_parse := goodIn_r _ [13, 14, 15, 16, 11, 17, 18, 19, 20, 21, 22, 23, 24, 25, 26, 27, 28, 29, 30, 31, 32, 33, 34, 35, 36, 37, 38, 39, 40, 41, 42, 43, 44, 67, 59, 60, 61, 62, 63, 64, 65, 66] (by decide +kernel) (by decide +kernel)
set_option maxRecDepth 20000 in
theorem gX4_isSentenceWith_X2_parse_n129 : GoodIn wsX4_isSentenceWith (wsX2_parse) := ggX4_isSentenceWith_X2_parse
set_option maxRecDepth 20000 in
theorem ggX4_isSentenceWith_X2_holdsSentence : GoodIn wsX4_isSentenceWith wsX2_holdsSentence := goodIn_r _ [47, 48, 49, 50, 11, 51, 22, 23, 24, 25, 67] (by decide +kernel) (by decide +kernel)
set_option maxRecDepth 20000 in
theorem gX4_isSentenceWith_X2_holdsSentence_n139 : GoodIn wsX4_isSentenceWith (wsX2_holdsSentence) := ggX4_isSentenceWith_X2_holdsSentence
theorem dX4_isSentenceWith_0 : decode cX4_isSentenceWith 0 = .ok (.aload_n 0, 1) := by decide +kernel
theorem dX4_isSentenceWith_1 : decode cX4_isSentenceWith 1 = .ok (.getfield 16, 3) := by decide +kernel
theorem dX4_isSentenceWith_4 : decode cX4_isSentenceWith 4 = .ok (.iconst 0, 1) := by decide +kernel
theorem dX4_isSentenceWith_5 : decode cX4_isSentenceWith 5 = .ok (.aload_n 0, 1) := by decide +kernel
theorem dX4_isSentenceWith_6 : decode cX4_isSentenceWith 6 = .ok (.getfield 24, 3) := by decide +kernel
theorem dX4_isSentenceWith_9 : decode cX4_isSentenceWith 9 = .ok (.iconst 0, 1) := by decide +kernel
theorem dX4_isSentenceWith_10 : decode cX4_isSentenceWith 10 = .ok (.aload_n 0, 1) := by decide +kernel
theorem dX4_isSentenceWith_11 : decode cX4_isSentenceWith 11 = .ok (.getfield 20, 3) := by decide +kernel
theorem dX4_isSentenceWith_14 : decode cX4_isSentenceWith 14 = .ok (.invokestatic 174, 3) := by decide +kernel
theorem dX4_isSentenceWith_17 : decode cX4_isSentenceWith 17 = .ok (.aload_n 0, 1) := by decide +kernel
theorem dX4_isSentenceWith_18 : decode cX4_isSentenceWith 18 = .ok (.getfield 24, 3) := by decide +kernel
theorem dX4_isSentenceWith_21 : decode cX4_isSentenceWith 21 = .ok (.iload_n 1, 1) := by decide +kernel
theorem dX4_isSentenceWith_22 : decode cX4_isSentenceWith 22 = .ok (.iload_n 2, 1) := by decide +kernel
theorem dX4_isSentenceWith_23 : decode cX4_isSentenceWith 23 = .ok (.iastore, 1) := by decide +kernel
theorem dX4_isSentenceWith_24 : decode cX4_isSentenceWith 24 = .ok (.aload_n 0, 1) := by decide +kernel
theorem dX4_isSentenceWith_25 : decode cX4_isSentenceWith 25 = .ok (.getfield 30, 3) := by decide +kernel
theorem dX4_isSentenceWith_28 : decode cX4_isSentenceWith 28 = .ok (.aload_n 0, 1) := by decide +kernel
theorem dX4_isSentenceWith_29 : decode cX4_isSentenceWith 29 = .ok (.getfield 12, 3) := by decide +kernel
theorem dX4_isSentenceWith_32 : decode cX4_isSentenceWith 32 = .ok (.aload_n 0, 1) := by decide +kernel
theorem dX4_isSentenceWith_33 : decode cX4_isSentenceWith 33 = .ok (.getfield 24, 3) := by decide +kernel
theorem dX4_isSentenceWith_36 : decode cX4_isSentenceWith 36 = .ok (.aload_n 0, 1) := by decide +kernel
theorem dX4_isSentenceWith_37 : decode cX4_isSentenceWith 37 = .ok (.getfield 20, 3) := by decide +kernel
theorem dX4_isSentenceWith_40 : decode cX4_isSentenceWith 40 = .ok (.aload_n 0, 1) := by decide +kernel
theorem dX4_isSentenceWith_41 : decode cX4_isSentenceWith 41 = .ok (.getfield 12, 3) := by decide +kernel
theorem dX4_isSentenceWith_44 : decode cX4_isSentenceWith 44 = .ok (.getfield 93, 3) := by decide +kernel
theorem dX4_isSentenceWith_47 : decode cX4_isSentenceWith 47 = .ok (.invokevirtual 129, 3) := by decide +kernel
theorem dX4_isSentenceWith_50 : decode cX4_isSentenceWith 50 = .ok (.aload_n 0, 1) := by decide +kernel
theorem dX4_isSentenceWith_51 : decode cX4_isSentenceWith 51 = .ok (.getfield 30, 3) := by decide +kernel
theorem dX4_isSentenceWith_54 : decode cX4_isSentenceWith 54 = .ok (.aload_n 0, 1) := by decide +kernel
theorem dX4_isSentenceWith_55 : decode cX4_isSentenceWith 55 = .ok (.getfield 20, 3) := by decide +kernel
theorem dX4_isSentenceWith_58 : decode cX4_isSentenceWith 58 = .ok (.invokevirtual 139, 3) := by decide +kernel
theorem dX4_isSentenceWith_61 : decode cX4_isSentenceWith 61 = .ok (.ireturn, 1) := by decide +kernel
set_option maxRecDepth 20000 in
theorem ggX4_isSentenceFreeAt_X2_putAnyWord : GoodIn wsX4_isSentenceFreeAt wsX2_putAnyWord := goodIn_r _ [8, 9, 10, 11, 6, 12, 13, 14, 15, 16, 17, 18, 19, 20, 52, 53, 54, 55, 56, 57, 58, 59, 60] (by decide +kernel) (by decide +kernel)
set_option maxRecDepth 20000 in
theorem gX4_isSentenceFreeAt_X2_putAnyWord_n180 : GoodIn wsX4_isSentenceFreeAt (wsX2_putAnyWord) := ggX4_isSentenceFreeAt_X2_putAnyWord
set_option maxRecDepth 20000 in
theorem ggX4_isSentenceFreeAt_X2_putWord : GoodIn wsX4_isSentenceFreeAt wsX2_putWord := goodIn_r _ [23, 9, 10, 11, 6, 12, 13, 14, 15, 16, 17, 18, 19, 20, 60, 52, 53, 54, 55, 56, 57, 58, 59] (by decide +kernel) (by decide +kernel)
set_option maxRecDepth 20000 in
theorem gX4_isSentenceFreeAt_X2_putWord_n184 : GoodIn wsX4_isSentenceFreeAt (wsX2_putWord) := ggX4_isSentenceFreeAt_X2_putWord
set_option maxRecDepth 20000 in
theorem ggX4_isSentenceFreeAt_X2_joinUpTo : GoodIn wsX4_isSentenceFreeAt wsX2_joinUpTo := goodIn_r _ [26, 9, 10, 11, 6, 12, 13, 14, 15, 16, 27, 28, 29, 30, 31, 32, 33, 34, 35, 36, 37, 60, 52, 53, 54, 55, 56, 57, 58, 59] (by decide +kernel) (by decide +kernel)
set_option maxRecDepth 20000 in
theorem gX4_isSentenceFreeAt_X2_joinUpTo_n188 : GoodIn wsX4_isSentenceFreeAt (wsX2_joinUpTo) := ggX4_isSentenceFreeAt_X2_joinUpTo
set_option maxRecDepth 20000 in
theorem ggX4_isSentenceFreeAt_X2_holdsSentence : GoodIn wsX4_isSentenceFreeAt wsX2_holdsSentence := goodIn_r _ [40, 41, 42, 43, 6, 44, 13, 14, 15, 16, 60] (by decide +kernel) (by decide +kernel)
set_option maxRecDepth 20000 in
theorem gX4_isSentenceFreeAt_X2_holdsSentence_n139 : GoodIn wsX4_isSentenceFreeAt (wsX2_holdsSentence) := ggX4_isSentenceFreeAt_X2_holdsSentence
theorem dX4_isSentenceFreeAt_0 : decode cX4_isSentenceFreeAt 0 = .ok (.iconst 0, 1) := by decide +kernel
theorem dX4_isSentenceFreeAt_1 : decode cX4_isSentenceFreeAt 1 = .ok (.istore_n 3, 1) := by decide +kernel
theorem dX4_isSentenceFreeAt_2 : decode cX4_isSentenceFreeAt 2 = .ok (.iload_n 3, 1) := by decide +kernel
theorem dX4_isSentenceFreeAt_3 : decode cX4_isSentenceFreeAt 3 = .ok (.aload_n 0, 1) := by decide +kernel
theorem dX4_isSentenceFreeAt_4 : decode cX4_isSentenceFreeAt 4 = .ok (.getfield 20, 3) := by decide +kernel
theorem dX4_isSentenceFreeAt_7 : decode cX4_isSentenceFreeAt 7 = .ok (.if_icmp .ge 73, 3) := by decide +kernel
theorem dX4_isSentenceFreeAt_10 : decode cX4_isSentenceFreeAt 10 = .ok (.iload_n 3, 1) := by decide +kernel
theorem dX4_isSentenceFreeAt_11 : decode cX4_isSentenceFreeAt 11 = .ok (.iload_n 1, 1) := by decide +kernel
theorem dX4_isSentenceFreeAt_12 : decode cX4_isSentenceFreeAt 12 = .ok (.if_icmp .eq 8, 3) := by decide +kernel
theorem dX4_isSentenceFreeAt_15 : decode cX4_isSentenceFreeAt 15 = .ok (.iload_n 3, 1) := by decide +kernel
theorem dX4_isSentenceFreeAt_16 : decode cX4_isSentenceFreeAt 16 = .ok (.iload_n 2, 1) := by decide +kernel
theorem dX4_isSentenceFreeAt_17 : decode cX4_isSentenceFreeAt 17 = .ok (.if_icmp .ne 18, 3) := by decide +kernel
theorem dX4_isSentenceFreeAt_20 : decode cX4_isSentenceFreeAt 20 = .ok (.aload_n 0, 1) := by decide +kernel
theorem dX4_isSentenceFreeAt_21 : decode cX4_isSentenceFreeAt 21 = .ok (.getfield 30, 3) := by decide +kernel
theorem dX4_isSentenceFreeAt_24 : decode cX4_isSentenceFreeAt 24 = .ok (.aload_n 0, 1) := by decide +kernel
theorem dX4_isSentenceFreeAt_25 : decode cX4_isSentenceFreeAt 25 = .ok (.getfield 12, 3) := by decide +kernel
theorem dX4_isSentenceFreeAt_28 : decode cX4_isSentenceFreeAt 28 = .ok (.iload_n 3, 1) := by decide +kernel
theorem dX4_isSentenceFreeAt_29 : decode cX4_isSentenceFreeAt 29 = .ok (.invokevirtual 180, 3) := by decide +kernel
theorem dX4_isSentenceFreeAt_32 : decode cX4_isSentenceFreeAt 32 = .ok (.goto 21, 3) := by decide +kernel
theorem dX4_isSentenceFreeAt_35 : decode cX4_isSentenceFreeAt 35 = .ok (.aload_n 0, 1) := by decide +kernel
theorem dX4_isSentenceFreeAt_36 : decode cX4_isSentenceFreeAt 36 = .ok (.getfield 30, 3) := by decide +kernel
theorem dX4_isSentenceFreeAt_39 : decode cX4_isSentenceFreeAt 39 = .ok (.aload_n 0, 1) := by decide +kernel
theorem dX4_isSentenceFreeAt_40 : decode cX4_isSentenceFreeAt 40 = .ok (.getfield 12, 3) := by decide +kernel
theorem dX4_isSentenceFreeAt_43 : decode cX4_isSentenceFreeAt 43 = .ok (.iload_n 3, 1) := by decide +kernel
theorem dX4_isSentenceFreeAt_44 : decode cX4_isSentenceFreeAt 44 = .ok (.aload_n 0, 1) := by decide +kernel
theorem dX4_isSentenceFreeAt_45 : decode cX4_isSentenceFreeAt 45 = .ok (.getfield 16, 3) := by decide +kernel
theorem dX4_isSentenceFreeAt_48 : decode cX4_isSentenceFreeAt 48 = .ok (.iload_n 3, 1) := by decide +kernel
theorem dX4_isSentenceFreeAt_49 : decode cX4_isSentenceFreeAt 49 = .ok (.iaload, 1) := by decide +kernel
theorem dX4_isSentenceFreeAt_50 : decode cX4_isSentenceFreeAt 50 = .ok (.invokevirtual 184, 3) := by decide +kernel
theorem dX4_isSentenceFreeAt_53 : decode cX4_isSentenceFreeAt 53 = .ok (.aload_n 0, 1) := by decide +kernel
theorem dX4_isSentenceFreeAt_54 : decode cX4_isSentenceFreeAt 54 = .ok (.getfield 30, 3) := by decide +kernel
theorem dX4_isSentenceFreeAt_57 : decode cX4_isSentenceFreeAt 57 = .ok (.aload_n 0, 1) := by decide +kernel
theorem dX4_isSentenceFreeAt_58 : decode cX4_isSentenceFreeAt 58 = .ok (.getfield 12, 3) := by decide +kernel
theorem dX4_isSentenceFreeAt_61 : decode cX4_isSentenceFreeAt 61 = .ok (.iload_n 3, 1) := by decide +kernel
theorem dX4_isSentenceFreeAt_62 : decode cX4_isSentenceFreeAt 62 = .ok (.iconst 1, 1) := by decide +kernel
theorem dX4_isSentenceFreeAt_63 : decode cX4_isSentenceFreeAt 63 = .ok (.iadd, 1) := by decide +kernel
theorem dX4_isSentenceFreeAt_64 : decode cX4_isSentenceFreeAt 64 = .ok (.aload_n 0, 1) := by decide +kernel
theorem dX4_isSentenceFreeAt_65 : decode cX4_isSentenceFreeAt 65 = .ok (.getfield 12, 3) := by decide +kernel
theorem dX4_isSentenceFreeAt_68 : decode cX4_isSentenceFreeAt 68 = .ok (.getfield 93, 3) := by decide +kernel
theorem dX4_isSentenceFreeAt_71 : decode cX4_isSentenceFreeAt 71 = .ok (.invokevirtual 188, 3) := by decide +kernel
theorem dX4_isSentenceFreeAt_74 : decode cX4_isSentenceFreeAt 74 = .ok (.iinc 3 1, 3) := by decide +kernel
theorem dX4_isSentenceFreeAt_77 : decode cX4_isSentenceFreeAt 77 = .ok (.goto (-75), 3) := by decide +kernel
theorem dX4_isSentenceFreeAt_80 : decode cX4_isSentenceFreeAt 80 = .ok (.aload_n 0, 1) := by decide +kernel
theorem dX4_isSentenceFreeAt_81 : decode cX4_isSentenceFreeAt 81 = .ok (.getfield 30, 3) := by decide +kernel
theorem dX4_isSentenceFreeAt_84 : decode cX4_isSentenceFreeAt 84 = .ok (.aload_n 0, 1) := by decide +kernel
theorem dX4_isSentenceFreeAt_85 : decode cX4_isSentenceFreeAt 85 = .ok (.getfield 20, 3) := by decide +kernel
theorem dX4_isSentenceFreeAt_88 : decode cX4_isSentenceFreeAt 88 = .ok (.invokevirtual 139, 3) := by decide +kernel
theorem dX4_isSentenceFreeAt_91 : decode cX4_isSentenceFreeAt 91 = .ok (.ireturn, 1) := by decide +kernel
theorem dX4_rowsOfLength_0 : decode cX4_rowsOfLength 0 = .ok (.iconst 1, 1) := by decide +kernel
theorem dX4_rowsOfLength_1 : decode cX4_rowsOfLength 1 = .ok (.istore_n 2, 1) := by decide +kernel
theorem dX4_rowsOfLength_2 : decode cX4_rowsOfLength 2 = .ok (.iconst 0, 1) := by decide +kernel
theorem dX4_rowsOfLength_3 : decode cX4_rowsOfLength 3 = .ok (.istore_n 3, 1) := by decide +kernel
theorem dX4_rowsOfLength_4 : decode cX4_rowsOfLength 4 = .ok (.iload_n 3, 1) := by decide +kernel
theorem dX4_rowsOfLength_5 : decode cX4_rowsOfLength 5 = .ok (.iload_n 1, 1) := by decide +kernel
theorem dX4_rowsOfLength_6 : decode cX4_rowsOfLength 6 = .ok (.if_icmp .ge 19, 3) := by decide +kernel
theorem dX4_rowsOfLength_9 : decode cX4_rowsOfLength 9 = .ok (.iload_n 2, 1) := by decide +kernel
theorem dX4_rowsOfLength_10 : decode cX4_rowsOfLength 10 = .ok (.aload_n 0, 1) := by decide +kernel
theorem dX4_rowsOfLength_11 : decode cX4_rowsOfLength 11 = .ok (.getfield 12, 3) := by decide +kernel
theorem dX4_rowsOfLength_14 : decode cX4_rowsOfLength 14 = .ok (.getfield 59, 3) := by decide +kernel
theorem dX4_rowsOfLength_17 : decode cX4_rowsOfLength 17 = .ok (.imul, 1) := by decide +kernel
theorem dX4_rowsOfLength_18 : decode cX4_rowsOfLength 18 = .ok (.istore_n 2, 1) := by decide +kernel
theorem dX4_rowsOfLength_19 : decode cX4_rowsOfLength 19 = .ok (.iinc 3 1, 3) := by decide +kernel
theorem dX4_rowsOfLength_22 : decode cX4_rowsOfLength 22 = .ok (.goto (-18), 3) := by decide +kernel
theorem dX4_rowsOfLength_25 : decode cX4_rowsOfLength 25 = .ok (.iload_n 2, 1) := by decide +kernel
theorem dX4_rowsOfLength_26 : decode cX4_rowsOfLength 26 = .ok (.ireturn, 1) := by decide +kernel
set_option maxRecDepth 20000 in
theorem ggX4_makeSentences_X4_rowsOfLength : GoodIn wsX4_makeSentences wsX4_rowsOfLength := goodIn_r _ [8, 2, 53, 54, 55, 56, 57, 58, 59, 60, 61, 62, 63, 64, 65, 66, 67] (by decide +kernel) (by decide +kernel)
set_option maxRecDepth 20000 in
theorem gX4_makeSentences_X4_rowsOfLength : GoodIn wsX4_makeSentences (wsV RX4 147 RX4 yX4_rowsOfLength wsX4_rowsOfLength) := goodIn_app (goodIn_of _ (by decide +kernel)) ggX4_makeSentences_X4_rowsOfLength
set_option maxRecDepth 20000 in
theorem ggX4_makeSentences_X4_clearTrial : GoodIn wsX4_makeSentences wsX4_clearTrial := goodIn_r _ [12, 3, 53, 54, 55, 56, 57, 58, 59] (by decide +kernel) (by decide +kernel)
set_option maxRecDepth 20000 in
theorem gX4_makeSentences_X4_clearTrial : GoodIn wsX4_makeSentences (wsV RX4 191 RX4 yX4_clearTrial wsX4_clearTrial) := goodIn_app (goodIn_of _ (by decide +kernel)) ggX4_makeSentences_X4_clearTrial
set_option maxRecDepth 20000 in
theorem ggX4_makeSentences_X2_putWord : GoodIn wsX4_makeSentences wsX2_putWord := goodIn_r _ [16, 17, 18, 19, 14, 20, 21, 22, 7, 23, 24, 25, 26, 27, 68, 60, 61, 62, 63, 64, 65, 66, 67] (by decide +kernel) (by decide +kernel)
set_option maxRecDepth 20000 in
theorem gX4_makeSentences_X2_putWord_n184 : GoodIn wsX4_makeSentences (wsX2_putWord) := ggX4_makeSentences_X2_putWord
set_option maxRecDepth 20000 in
theorem ggX4_makeSentences_X2_joinUpTo : GoodIn wsX4_makeSentences wsX2_joinUpTo := goodIn_r _ [30, 17, 18, 19, 14, 20, 21, 22, 7, 23, 31, 32, 33, 34, 35, 36, 37, 38, 39, 40, 41, 68, 60, 61, 62, 63, 64, 65, 66, 67] (by decide +kernel) (by decide +kernel)
set_option maxRecDepth 20000 in
theorem gX4_makeSentences_X2_joinUpTo_n188 : GoodIn wsX4_makeSentences (wsX2_joinUpTo) := ggX4_makeSentences_X2_joinUpTo
set_option maxRecDepth 20000 in
theorem ggX4_makeSentences_X2_holdsSentence : GoodIn wsX4_makeSentences wsX2_holdsSentence := goodIn_r _ [44, 45, 46, 47, 14, 48, 21, 22, 7, 23, 68] (by decide +kernel) (by decide +kernel)
set_option maxRecDepth 20000 in
theorem gX4_makeSentences_X2_holdsSentence_n139 : GoodIn wsX4_makeSentences (wsX2_holdsSentence) := ggX4_makeSentences_X2_holdsSentence
set_option maxRecDepth 20000 in
theorem ggX4_makeSentences_X4_nextTrial : GoodIn wsX4_makeSentences wsX4_nextTrial := goodIn_r _ [52, 3, 2, 53, 54, 55, 56, 57, 58, 59, 60, 61, 62, 63, 64, 65, 66, 67] (by decide +kernel) (by decide +kernel)
set_option maxRecDepth 20000 in
theorem gX4_makeSentences_X4_nextTrial : GoodIn wsX4_makeSentences (wsV RX4 194 RX4 yX4_nextTrial wsX4_nextTrial) := goodIn_app (goodIn_of _ (by decide +kernel)) ggX4_makeSentences_X4_nextTrial
theorem dX4_makeSentences_0 : decode cX4_makeSentences 0 = .ok (.iconst 0, 1) := by decide +kernel
theorem dX4_makeSentences_1 : decode cX4_makeSentences 1 = .ok (.istore_n 3, 1) := by decide +kernel
theorem dX4_makeSentences_2 : decode cX4_makeSentences 2 = .ok (.aload_n 0, 1) := by decide +kernel
theorem dX4_makeSentences_3 : decode cX4_makeSentences 3 = .ok (.iload_n 1, 1) := by decide +kernel
theorem dX4_makeSentences_4 : decode cX4_makeSentences 4 = .ok (.invokevirtual 147, 3) := by decide +kernel
theorem dX4_makeSentences_7 : decode cX4_makeSentences 7 = .ok (.istore 4, 2) := by decide +kernel
theorem dX4_makeSentences_9 : decode cX4_makeSentences 9 = .ok (.iconst 0, 1) := by decide +kernel
theorem dX4_makeSentences_10 : decode cX4_makeSentences 10 = .ok (.istore 5, 2) := by decide +kernel
theorem dX4_makeSentences_12 : decode cX4_makeSentences 12 = .ok (.aload_n 0, 1) := by decide +kernel
theorem dX4_makeSentences_13 : decode cX4_makeSentences 13 = .ok (.invokevirtual 191, 3) := by decide +kernel
theorem dX4_makeSentences_16 : decode cX4_makeSentences 16 = .ok (.iconst 0, 1) := by decide +kernel
theorem dX4_makeSentences_17 : decode cX4_makeSentences 17 = .ok (.istore 6, 2) := by decide +kernel
theorem dX4_makeSentences_19 : decode cX4_makeSentences 19 = .ok (.iload 6, 2) := by decide +kernel
theorem dX4_makeSentences_21 : decode cX4_makeSentences 21 = .ok (.iload 4, 2) := by decide +kernel
theorem dX4_makeSentences_23 : decode cX4_makeSentences 23 = .ok (.if_icmp .ge 95, 3) := by decide +kernel
theorem dX4_makeSentences_26 : decode cX4_makeSentences 26 = .ok (.iload 5, 2) := by decide +kernel
theorem dX4_makeSentences_28 : decode cX4_makeSentences 28 = .ok (.istore 7, 2) := by decide +kernel
theorem dX4_makeSentences_30 : decode cX4_makeSentences 30 = .ok (.iload 7, 2) := by decide +kernel
theorem dX4_makeSentences_32 : decode cX4_makeSentences 32 = .ok (.iload_n 1, 1) := by decide +kernel
theorem dX4_makeSentences_33 : decode cX4_makeSentences 33 = .ok (.if_icmp .ge 51, 3) := by decide +kernel
theorem dX4_makeSentences_36 : decode cX4_makeSentences 36 = .ok (.aload_n 0, 1) := by decide +kernel
theorem dX4_makeSentences_37 : decode cX4_makeSentences 37 = .ok (.getfield 30, 3) := by decide +kernel
theorem dX4_makeSentences_40 : decode cX4_makeSentences 40 = .ok (.aload_n 0, 1) := by decide +kernel
theorem dX4_makeSentences_41 : decode cX4_makeSentences 41 = .ok (.getfield 12, 3) := by decide +kernel
theorem dX4_makeSentences_44 : decode cX4_makeSentences 44 = .ok (.iload 7, 2) := by decide +kernel
theorem dX4_makeSentences_46 : decode cX4_makeSentences 46 = .ok (.aload_n 0, 1) := by decide +kernel
theorem dX4_makeSentences_47 : decode cX4_makeSentences 47 = .ok (.getfield 24, 3) := by decide +kernel
theorem dX4_makeSentences_50 : decode cX4_makeSentences 50 = .ok (.iload 7, 2) := by decide +kernel
theorem dX4_makeSentences_52 : decode cX4_makeSentences 52 = .ok (.iaload, 1) := by decide +kernel
theorem dX4_makeSentences_53 : decode cX4_makeSentences 53 = .ok (.invokevirtual 184, 3) := by decide +kernel
theorem dX4_makeSentences_56 : decode cX4_makeSentences 56 = .ok (.aload_n 0, 1) := by decide +kernel
theorem dX4_makeSentences_57 : decode cX4_makeSentences 57 = .ok (.getfield 30, 3) := by decide +kernel
theorem dX4_makeSentences_60 : decode cX4_makeSentences 60 = .ok (.aload_n 0, 1) := by decide +kernel
theorem dX4_makeSentences_61 : decode cX4_makeSentences 61 = .ok (.getfield 12, 3) := by decide +kernel
theorem dX4_makeSentences_64 : decode cX4_makeSentences 64 = .ok (.iload 7, 2) := by decide +kernel
theorem dX4_makeSentences_66 : decode cX4_makeSentences 66 = .ok (.iconst 1, 1) := by decide +kernel
theorem dX4_makeSentences_67 : decode cX4_makeSentences 67 = .ok (.iadd, 1) := by decide +kernel
theorem dX4_makeSentences_68 : decode cX4_makeSentences 68 = .ok (.aload_n 0, 1) := by decide +kernel
theorem dX4_makeSentences_69 : decode cX4_makeSentences 69 = .ok (.getfield 12, 3) := by decide +kernel
theorem dX4_makeSentences_72 : decode cX4_makeSentences 72 = .ok (.getfield 93, 3) := by decide +kernel
theorem dX4_makeSentences_75 : decode cX4_makeSentences 75 = .ok (.invokevirtual 188, 3) := by decide +kernel
theorem dX4_makeSentences_78 : decode cX4_makeSentences 78 = .ok (.iinc 7 1, 3) := by decide +kernel
theorem dX4_makeSentences_81 : decode cX4_makeSentences 81 = .ok (.goto (-51), 3) := by decide +kernel
theorem dX4_makeSentences_84 : decode cX4_makeSentences 84 = .ok (.aload_n 0, 1) := by decide +kernel
theorem dX4_makeSentences_85 : decode cX4_makeSentences 85 = .ok (.getfield 30, 3) := by decide +kernel
theorem dX4_makeSentences_88 : decode cX4_makeSentences 88 = .ok (.iload_n 1, 1) := by decide +kernel
theorem dX4_makeSentences_89 : decode cX4_makeSentences 89 = .ok (.invokevirtual 139, 3) := by decide +kernel
theorem dX4_makeSentences_92 : decode cX4_makeSentences 92 = .ok (.ifCond .eq 13, 3) := by decide +kernel
theorem dX4_makeSentences_95 : decode cX4_makeSentences 95 = .ok (.iinc 3 1, 3) := by decide +kernel
theorem dX4_makeSentences_98 : decode cX4_makeSentences 98 = .ok (.iload_n 3, 1) := by decide +kernel
theorem dX4_makeSentences_99 : decode cX4_makeSentences 99 = .ok (.iload_n 2, 1) := by decide +kernel
theorem dX4_makeSentences_100 : decode cX4_makeSentences 100 = .ok (.if_icmp .le 5, 3) := by decide +kernel
theorem dX4_makeSentences_103 : decode cX4_makeSentences 103 = .ok (.iload_n 3, 1) := by decide +kernel
theorem dX4_makeSentences_104 : decode cX4_makeSentences 104 = .ok (.ireturn, 1) := by decide +kernel
theorem dX4_makeSentences_105 : decode cX4_makeSentences 105 = .ok (.aload_n 0, 1) := by decide +kernel
theorem dX4_makeSentences_106 : decode cX4_makeSentences 106 = .ok (.iload_n 1, 1) := by decide +kernel
theorem dX4_makeSentences_107 : decode cX4_makeSentences 107 = .ok (.invokevirtual 194, 3) := by decide +kernel
theorem dX4_makeSentences_110 : decode cX4_makeSentences 110 = .ok (.istore 5, 2) := by decide +kernel
theorem dX4_makeSentences_112 : decode cX4_makeSentences 112 = .ok (.iinc 6 1, 3) := by decide +kernel
theorem dX4_makeSentences_115 : decode cX4_makeSentences 115 = .ok (.goto (-96), 3) := by decide +kernel
theorem dX4_makeSentences_118 : decode cX4_makeSentences 118 = .ok (.iload_n 3, 1) := by decide +kernel
theorem dX4_makeSentences_119 : decode cX4_makeSentences 119 = .ok (.ireturn, 1) := by decide +kernel
theorem dX4_clearTrial_0 : decode cX4_clearTrial 0 = .ok (.iconst 0, 1) := by decide +kernel
theorem dX4_clearTrial_1 : decode cX4_clearTrial 1 = .ok (.istore_n 1, 1) := by decide +kernel
theorem dX4_clearTrial_2 : decode cX4_clearTrial 2 = .ok (.iload_n 1, 1) := by decide +kernel
theorem dX4_clearTrial_3 : decode cX4_clearTrial 3 = .ok (.bipush 6, 2) := by decide +kernel
theorem dX4_clearTrial_5 : decode cX4_clearTrial 5 = .ok (.if_icmp .ge 16, 3) := by decide +kernel
theorem dX4_clearTrial_8 : decode cX4_clearTrial 8 = .ok (.aload_n 0, 1) := by decide +kernel
theorem dX4_clearTrial_9 : decode cX4_clearTrial 9 = .ok (.getfield 24, 3) := by decide +kernel
theorem dX4_clearTrial_12 : decode cX4_clearTrial 12 = .ok (.iload_n 1, 1) := by decide +kernel
theorem dX4_clearTrial_13 : decode cX4_clearTrial 13 = .ok (.iconst 0, 1) := by decide +kernel
theorem dX4_clearTrial_14 : decode cX4_clearTrial 14 = .ok (.iastore, 1) := by decide +kernel
theorem dX4_clearTrial_15 : decode cX4_clearTrial 15 = .ok (.iinc 1 1, 3) := by decide +kernel
theorem dX4_clearTrial_18 : decode cX4_clearTrial 18 = .ok (.goto (-16), 3) := by decide +kernel
theorem dX4_clearTrial_21 : decode cX4_clearTrial 21 = .ok (.return_, 1) := by decide +kernel
theorem dX4_nextTrial_0 : decode cX4_nextTrial 0 = .ok (.iload_n 1, 1) := by decide +kernel
theorem dX4_nextTrial_1 : decode cX4_nextTrial 1 = .ok (.iconst 1, 1) := by decide +kernel
theorem dX4_nextTrial_2 : decode cX4_nextTrial 2 = .ok (.isub, 1) := by decide +kernel
theorem dX4_nextTrial_3 : decode cX4_nextTrial 3 = .ok (.istore_n 2, 1) := by decide +kernel
theorem dX4_nextTrial_4 : decode cX4_nextTrial 4 = .ok (.iload_n 2, 1) := by decide +kernel
theorem dX4_nextTrial_5 : decode cX4_nextTrial 5 = .ok (.ifCond .lt 44, 3) := by decide +kernel
theorem dX4_nextTrial_8 : decode cX4_nextTrial 8 = .ok (.aload_n 0, 1) := by decide +kernel
theorem dX4_nextTrial_9 : decode cX4_nextTrial 9 = .ok (.getfield 24, 3) := by decide +kernel
theorem dX4_nextTrial_12 : decode cX4_nextTrial 12 = .ok (.iload_n 2, 1) := by decide +kernel
theorem dX4_nextTrial_13 : decode cX4_nextTrial 13 = .ok (.dup2, 1) := by decide +kernel
theorem dX4_nextTrial_14 : decode cX4_nextTrial 14 = .ok (.iaload, 1) := by decide +kernel
theorem dX4_nextTrial_15 : decode cX4_nextTrial 15 = .ok (.iconst 1, 1) := by decide +kernel
theorem dX4_nextTrial_16 : decode cX4_nextTrial 16 = .ok (.iadd, 1) := by decide +kernel
theorem dX4_nextTrial_17 : decode cX4_nextTrial 17 = .ok (.iastore, 1) := by decide +kernel
theorem dX4_nextTrial_18 : decode cX4_nextTrial 18 = .ok (.aload_n 0, 1) := by decide +kernel
theorem dX4_nextTrial_19 : decode cX4_nextTrial 19 = .ok (.getfield 24, 3) := by decide +kernel
theorem dX4_nextTrial_22 : decode cX4_nextTrial 22 = .ok (.iload_n 2, 1) := by decide +kernel
theorem dX4_nextTrial_23 : decode cX4_nextTrial 23 = .ok (.iaload, 1) := by decide +kernel
theorem dX4_nextTrial_24 : decode cX4_nextTrial 24 = .ok (.aload_n 0, 1) := by decide +kernel
theorem dX4_nextTrial_25 : decode cX4_nextTrial 25 = .ok (.getfield 12, 3) := by decide +kernel
theorem dX4_nextTrial_28 : decode cX4_nextTrial 28 = .ok (.getfield 59, 3) := by decide +kernel
theorem dX4_nextTrial_31 : decode cX4_nextTrial 31 = .ok (.if_icmp .ge 5, 3) := by decide +kernel
theorem dX4_nextTrial_34 : decode cX4_nextTrial 34 = .ok (.iload_n 2, 1) := by decide +kernel
theorem dX4_nextTrial_35 : decode cX4_nextTrial 35 = .ok (.ireturn, 1) := by decide +kernel
theorem dX4_nextTrial_36 : decode cX4_nextTrial 36 = .ok (.aload_n 0, 1) := by decide +kernel
theorem dX4_nextTrial_37 : decode cX4_nextTrial 37 = .ok (.getfield 24, 3) := by decide +kernel
theorem dX4_nextTrial_40 : decode cX4_nextTrial 40 = .ok (.iload_n 2, 1) := by decide +kernel
theorem dX4_nextTrial_41 : decode cX4_nextTrial 41 = .ok (.iconst 0, 1) := by decide +kernel
theorem dX4_nextTrial_42 : decode cX4_nextTrial 42 = .ok (.iastore, 1) := by decide +kernel
theorem dX4_nextTrial_43 : decode cX4_nextTrial 43 = .ok (.iinc 2 (-1), 3) := by decide +kernel
theorem dX4_nextTrial_46 : decode cX4_nextTrial 46 = .ok (.goto (-42), 3) := by decide +kernel
theorem dX4_nextTrial_49 : decode cX4_nextTrial 49 = .ok (.iconst 0, 1) := by decide +kernel
theorem dX4_nextTrial_50 : decode cX4_nextTrial 50 = .ok (.ireturn, 1) := by decide +kernel
theorem dX4_trialAsDigits_0 : decode cX4_trialAsDigits 0 = .ok (.bipush 9, 2) := by decide +kernel
theorem dX4_trialAsDigits_2 : decode cX4_trialAsDigits 2 = .ok (.istore_n 2, 1) := by decide +kernel
theorem dX4_trialAsDigits_3 : decode cX4_trialAsDigits 3 = .ok (.iconst 0, 1) := by decide +kernel
theorem dX4_trialAsDigits_4 : decode cX4_trialAsDigits 4 = .ok (.istore_n 3, 1) := by decide +kernel
theorem dX4_trialAsDigits_5 : decode cX4_trialAsDigits 5 = .ok (.iload_n 3, 1) := by decide +kernel
theorem dX4_trialAsDigits_6 : decode cX4_trialAsDigits 6 = .ok (.iload_n 1, 1) := by decide +kernel
theorem dX4_trialAsDigits_7 : decode cX4_trialAsDigits 7 = .ok (.if_icmp .ge 21, 3) := by decide +kernel
theorem dX4_trialAsDigits_10 : decode cX4_trialAsDigits 10 = .ok (.bipush 10, 2) := by decide +kernel
theorem dX4_trialAsDigits_12 : decode cX4_trialAsDigits 12 = .ok (.iload_n 2, 1) := by decide +kernel
theorem dX4_trialAsDigits_13 : decode cX4_trialAsDigits 13 = .ok (.imul, 1) := by decide +kernel
theorem dX4_trialAsDigits_14 : decode cX4_trialAsDigits 14 = .ok (.aload_n 0, 1) := by decide +kernel
theorem dX4_trialAsDigits_15 : decode cX4_trialAsDigits 15 = .ok (.getfield 24, 3) := by decide +kernel
theorem dX4_trialAsDigits_18 : decode cX4_trialAsDigits 18 = .ok (.iload_n 3, 1) := by decide +kernel
theorem dX4_trialAsDigits_19 : decode cX4_trialAsDigits 19 = .ok (.iaload, 1) := by decide +kernel
theorem dX4_trialAsDigits_20 : decode cX4_trialAsDigits 20 = .ok (.iadd, 1) := by decide +kernel
theorem dX4_trialAsDigits_21 : decode cX4_trialAsDigits 21 = .ok (.istore_n 2, 1) := by decide +kernel
theorem dX4_trialAsDigits_22 : decode cX4_trialAsDigits 22 = .ok (.iinc 3 1, 3) := by decide +kernel
theorem dX4_trialAsDigits_25 : decode cX4_trialAsDigits 25 = .ok (.goto (-20), 3) := by decide +kernel
theorem dX4_trialAsDigits_28 : decode cX4_trialAsDigits 28 = .ok (.iload_n 2, 1) := by decide +kernel
theorem dX4_trialAsDigits_29 : decode cX4_trialAsDigits 29 = .ok (.ireturn, 1) := by decide +kernel
end
section
theorem dX5_init_0 : decode cX5_init 0 = .ok (.aload_n 0, 1) := by decide +kernel
theorem dX5_init_1 : decode cX5_init 1 = .ok (.invokespecial 1, 3) := by decide +kernel
theorem dX5_init_4 : decode cX5_init 4 = .ok (.aload_n 0, 1) := by decide +kernel
theorem dX5_init_5 : decode cX5_init 5 = .ok (.bipush 9, 2) := by decide +kernel
theorem dX5_init_7 : decode cX5_init 7 = .ok (.newarray .int, 2) := by decide +kernel
theorem dX5_init_9 : decode cX5_init 9 = .ok (.putfield 7, 3) := by decide +kernel
theorem dX5_init_12 : decode cX5_init 12 = .ok (.aload_n 0, 1) := by decide +kernel
theorem dX5_init_13 : decode cX5_init 13 = .ok (.bipush 9, 2) := by decide +kernel
theorem dX5_init_15 : decode cX5_init 15 = .ok (.newarray .int, 2) := by decide +kernel
theorem dX5_init_17 : decode cX5_init 17 = .ok (.putfield 13, 3) := by decide +kernel
theorem dX5_init_20 : decode cX5_init 20 = .ok (.aload_n 0, 1) := by decide +kernel
theorem dX5_init_21 : decode cX5_init 21 = .ok (.bipush 8, 2) := by decide +kernel
theorem dX5_init_23 : decode cX5_init 23 = .ok (.newarray .int, 2) := by decide +kernel
theorem dX5_init_25 : decode cX5_init 25 = .ok (.putfield 16, 3) := by decide +kernel
theorem dX5_init_28 : decode cX5_init 28 = .ok (.aload_n 0, 1) := by decide +kernel
theorem dX5_init_29 : decode cX5_init 29 = .ok (.bipush 8, 2) := by decide +kernel
theorem dX5_init_31 : decode cX5_init 31 = .ok (.newarray .int, 2) := by decide +kernel
theorem dX5_init_33 : decode cX5_init 33 = .ok (.putfield 19, 3) := by decide +kernel
theorem dX5_init_36 : decode cX5_init 36 = .ok (.aload_n 0, 1) := by decide +kernel
theorem dX5_init_37 : decode cX5_init 37 = .ok (.bipush 8, 2) := by decide +kernel
theorem dX5_init_39 : decode cX5_init 39 = .ok (.newarray .int, 2) := by decide +kernel
theorem dX5_init_41 : decode cX5_init 41 = .ok (.putfield 22, 3) := by decide +kernel
theorem dX5_init_44 : decode cX5_init 44 = .ok (.aload_n 0, 1) := by decide +kernel
theorem dX5_init_45 : decode cX5_init 45 = .ok (.bipush 8, 2) := by decide +kernel
theorem dX5_init_47 : decode cX5_init 47 = .ok (.newarray .int, 2) := by decide +kernel
theorem dX5_init_49 : decode cX5_init 49 = .ok (.putfield 25, 3) := by decide +kernel
theorem dX5_init_52 : decode cX5_init 52 = .ok (.aload_n 0, 1) := by decide +kernel
theorem dX5_init_53 : decode cX5_init 53 = .ok (.bipush 6, 2) := by decide +kernel
theorem dX5_init_55 : decode cX5_init 55 = .ok (.newarray .int, 2) := by decide +kernel
theorem dX5_init_57 : decode cX5_init 57 = .ok (.putfield 28, 3) := by decide +kernel
theorem dX5_init_60 : decode cX5_init 60 = .ok (.aload_n 0, 1) := by decide +kernel
theorem dX5_init_61 : decode cX5_init 61 = .ok (.bipush 6, 2) := by decide +kernel
theorem dX5_init_63 : decode cX5_init 63 = .ok (.newarray .int, 2) := by decide +kernel
theorem dX5_init_65 : decode cX5_init 65 = .ok (.putfield 31, 3) := by decide +kernel
theorem dX5_init_68 : decode cX5_init 68 = .ok (.aload_n 0, 1) := by decide +kernel
theorem dX5_init_69 : decode cX5_init 69 = .ok (.sipush 336, 3) := by decide +kernel
theorem dX5_init_72 : decode cX5_init 72 = .ok (.newarray .int, 2) := by decide +kernel
theorem dX5_init_74 : decode cX5_init 74 = .ok (.putfield 34, 3) := by decide +kernel
theorem dX5_init_77 : decode cX5_init 77 = .ok (.aload_n 0, 1) := by decide +kernel
theorem dX5_init_78 : decode cX5_init 78 = .ok (.sipush 5376, 3) := by decide +kernel
theorem dX5_init_81 : decode cX5_init 81 = .ok (.newarray .long, 2) := by decide +kernel
theorem dX5_init_83 : decode cX5_init 83 = .ok (.putfield 37, 3) := by decide +kernel
theorem dX5_init_86 : decode cX5_init 86 = .ok (.return_, 1) := by decide +kernel
theorem dX5_thrown_0 : decode cX5_thrown 0 = .ok (.aload_n 0, 1) := by decide +kernel
theorem dX5_thrown_1 : decode cX5_thrown 1 = .ok (.getfield 41, 3) := by decide +kernel
theorem dX5_thrown_4 : decode cX5_thrown 4 = .ok (.ireturn, 1) := by decide +kernel
theorem dX5_goes_0 : decode cX5_goes 0 = .ok (.aload_n 0, 1) := by decide +kernel
theorem dX5_goes_1 : decode cX5_goes 1 = .ok (.iload_n 1, 1) := by decide +kernel
theorem dX5_goes_2 : decode cX5_goes 2 = .ok (.ifCond .ne 7, 3) := by decide +kernel
theorem dX5_goes_5 : decode cX5_goes 5 = .ok (.iconst 1, 1) := by decide +kernel
theorem dX5_goes_6 : decode cX5_goes 6 = .ok (.goto 12, 3) := by decide +kernel
theorem dX5_goes_9 : decode cX5_goes 9 = .ok (.iload_n 2, 1) := by decide +kernel
theorem dX5_goes_10 : decode cX5_goes 10 = .ok (.ifCond .ne 7, 3) := by decide +kernel
theorem dX5_goes_13 : decode cX5_goes 13 = .ok (.iconst 2, 1) := by decide +kernel
theorem dX5_goes_14 : decode cX5_goes 14 = .ok (.goto 4, 3) := by decide +kernel
theorem dX5_goes_17 : decode cX5_goes 17 = .ok (.iconst 0, 1) := by decide +kernel
theorem dX5_goes_18 : decode cX5_goes 18 = .ok (.putfield 41, 3) := by decide +kernel
theorem dX5_goes_21 : decode cX5_goes 21 = .ok (.aload_n 0, 1) := by decide +kernel
theorem dX5_goes_22 : decode cX5_goes 22 = .ok (.getfield 41, 3) := by decide +kernel
theorem dX5_goes_25 : decode cX5_goes 25 = .ok (.ifCond .ne 7, 3) := by decide +kernel
theorem dX5_goes_28 : decode cX5_goes 28 = .ok (.iconst 1, 1) := by decide +kernel
theorem dX5_goes_29 : decode cX5_goes 29 = .ok (.goto 4, 3) := by decide +kernel
theorem dX5_goes_32 : decode cX5_goes 32 = .ok (.iconst 0, 1) := by decide +kernel
theorem dX5_goes_33 : decode cX5_goes 33 = .ok (.ireturn, 1) := by decide +kernel
theorem dX5_isWithin_0 : decode cX5_isWithin 0 = .ok (.iload_n 0, 1) := by decide +kernel
theorem dX5_isWithin_1 : decode cX5_isWithin 1 = .ok (.iload_n 1, 1) := by decide +kernel
theorem dX5_isWithin_2 : decode cX5_isWithin 2 = .ok (.if_icmp .lt 12, 3) := by decide +kernel
theorem dX5_isWithin_5 : decode cX5_isWithin 5 = .ok (.iload_n 0, 1) := by decide +kernel
theorem dX5_isWithin_6 : decode cX5_isWithin 6 = .ok (.iload_n 2, 1) := by decide +kernel
theorem dX5_isWithin_7 : decode cX5_isWithin 7 = .ok (.if_icmp .gt 7, 3) := by decide +kernel
theorem dX5_isWithin_10 : decode cX5_isWithin 10 = .ok (.iconst 1, 1) := by decide +kernel
theorem dX5_isWithin_11 : decode cX5_isWithin 11 = .ok (.goto 4, 3) := by decide +kernel
theorem dX5_isWithin_14 : decode cX5_isWithin 14 = .ok (.iconst 0, 1) := by decide +kernel
theorem dX5_isWithin_15 : decode cX5_isWithin 15 = .ok (.ireturn, 1) := by decide +kernel
theorem dX5_isWord_0 : decode cX5_isWord 0 = .ok (.iload_n 1, 1) := by decide +kernel
theorem dX5_isWord_1 : decode cX5_isWord 1 = .ok (.ifCond .lt 15, 3) := by decide +kernel
theorem dX5_isWord_4 : decode cX5_isWord 4 = .ok (.iload_n 1, 1) := by decide +kernel
theorem dX5_isWord_5 : decode cX5_isWord 5 = .ok (.aload_n 0, 1) := by decide +kernel
theorem dX5_isWord_6 : decode cX5_isWord 6 = .ok (.getfield 45, 3) := by decide +kernel
theorem dX5_isWord_9 : decode cX5_isWord 9 = .ok (.if_icmp .ge 7, 3) := by decide +kernel
theorem dX5_isWord_12 : decode cX5_isWord 12 = .ok (.iconst 1, 1) := by decide +kernel
theorem dX5_isWord_13 : decode cX5_isWord 13 = .ok (.goto 4, 3) := by decide +kernel
theorem dX5_isWord_16 : decode cX5_isWord 16 = .ok (.iconst 0, 1) := by decide +kernel
theorem dX5_isWord_17 : decode cX5_isWord 17 = .ok (.ireturn, 1) := by decide +kernel
theorem dX5_isPair_0 : decode cX5_isPair 0 = .ok (.iload_n 0, 1) := by decide +kernel
theorem dX5_isPair_1 : decode cX5_isPair 1 = .ok (.ifCond .lt 23, 3) := by decide +kernel
theorem dX5_isPair_4 : decode cX5_isPair 4 = .ok (.iload_n 0, 1) := by decide +kernel
theorem dX5_isPair_5 : decode cX5_isPair 5 = .ok (.bipush 10, 2) := by decide +kernel
theorem dX5_isPair_7 : decode cX5_isPair 7 = .ok (.idiv, 1) := by decide +kernel
theorem dX5_isPair_8 : decode cX5_isPair 8 = .ok (.iconst 3, 1) := by decide +kernel
theorem dX5_isPair_9 : decode cX5_isPair 9 = .ok (.if_icmp .gt 15, 3) := by decide +kernel
theorem dX5_isPair_12 : decode cX5_isPair 12 = .ok (.iload_n 0, 1) := by decide +kernel
theorem dX5_isPair_13 : decode cX5_isPair 13 = .ok (.bipush 10, 2) := by decide +kernel
theorem dX5_isPair_15 : decode cX5_isPair 15 = .ok (.irem, 1) := by decide +kernel
theorem dX5_isPair_16 : decode cX5_isPair 16 = .ok (.iconst 3, 1) := by decide +kernel
theorem dX5_isPair_17 : decode cX5_isPair 17 = .ok (.if_icmp .gt 7, 3) := by decide +kernel
theorem dX5_isPair_20 : decode cX5_isPair 20 = .ok (.iconst 1, 1) := by decide +kernel
theorem dX5_isPair_21 : decode cX5_isPair 21 = .ok (.goto 4, 3) := by decide +kernel
theorem dX5_isPair_24 : decode cX5_isPair 24 = .ok (.iconst 0, 1) := by decide +kernel
theorem dX5_isPair_25 : decode cX5_isPair 25 = .ok (.ireturn, 1) := by decide +kernel
set_option maxRecDepth 20000 in
theorem ggX5_areValues_X5_isWithin : GoodIn wsX5_areValues wsX5_isWithin := goodIn_r _ [4] (by decide +kernel) (by decide +kernel)
set_option maxRecDepth 20000 in
theorem gX5_areValues_X5_isWithin : GoodIn wsX5_areValues (va_wsS RX5 48 yX5_isWithin wsX5_isWithin) := goodIn_app (goodIn_of _ (by decide +kernel)) ggX5_areValues_X5_isWithin
theorem dX5_areValues_0 : decode cX5_areValues 0 = .ok (.iload_n 0, 1) := by decide +kernel
theorem dX5_areValues_1 : decode cX5_areValues 1 = .ok (.iconst 0, 1) := by decide +kernel
theorem dX5_areValues_2 : decode cX5_areValues 2 = .ok (.bipush 7, 2) := by decide +kernel
theorem dX5_areValues_4 : decode cX5_areValues 4 = .ok (.invokestatic 48, 3) := by decide +kernel
theorem dX5_areValues_7 : decode cX5_areValues 7 = .ok (.ifCond .eq 25, 3) := by decide +kernel
theorem dX5_areValues_10 : decode cX5_areValues 10 = .ok (.iload_n 1, 1) := by decide +kernel
theorem dX5_areValues_11 : decode cX5_areValues 11 = .ok (.iconst 0, 1) := by decide +kernel
theorem dX5_areValues_12 : decode cX5_areValues 12 = .ok (.iconst 3, 1) := by decide +kernel
theorem dX5_areValues_13 : decode cX5_areValues 13 = .ok (.invokestatic 48, 3) := by decide +kernel
theorem dX5_areValues_16 : decode cX5_areValues 16 = .ok (.ifCond .eq 16, 3) := by decide +kernel
theorem dX5_areValues_19 : decode cX5_areValues 19 = .ok (.iload_n 2, 1) := by decide +kernel
theorem dX5_areValues_20 : decode cX5_areValues 20 = .ok (.iconst 0, 1) := by decide +kernel
theorem dX5_areValues_21 : decode cX5_areValues 21 = .ok (.iconst 3, 1) := by decide +kernel
theorem dX5_areValues_22 : decode cX5_areValues 22 = .ok (.invokestatic 48, 3) := by decide +kernel
theorem dX5_areValues_25 : decode cX5_areValues 25 = .ok (.ifCond .eq 7, 3) := by decide +kernel
theorem dX5_areValues_28 : decode cX5_areValues 28 = .ok (.iconst 1, 1) := by decide +kernel
theorem dX5_areValues_29 : decode cX5_areValues 29 = .ok (.goto 4, 3) := by decide +kernel
theorem dX5_areValues_32 : decode cX5_areValues 32 = .ok (.iconst 0, 1) := by decide +kernel
theorem dX5_areValues_33 : decode cX5_areValues 33 = .ok (.ireturn, 1) := by decide +kernel
set_option maxRecDepth 20000 in
theorem ggX5_addWord_X5_areValues : GoodIn wsX5_addWord wsX5_areValues := goodIn_r _ [7, 8, 9, 6, 10] (by decide +kernel) (by decide +kernel)
set_option maxRecDepth 20000 in
theorem gX5_addWord_X5_areValues : GoodIn wsX5_addWord (va_wsS RX5 52 yX5_areValues wsX5_areValues) := goodIn_app (goodIn_of _ (by decide +kernel)) ggX5_addWord_X5_areValues
set_option maxRecDepth 20000 in
theorem ggX5_addWord_X5_goes : GoodIn wsX5_addWord wsX5_goes := goodIn_r _ [14, 15, 16, 17, 18, 19, 20, 21, 22, 23, 24, 25, 26, 27, 28, 29, 30] (by decide +kernel) (by decide +kernel)
set_option maxRecDepth 20000 in
theorem gX5_addWord_X5_goes : GoodIn wsX5_addWord (wsV RX5 55 RX5 yX5_goes wsX5_goes) := goodIn_app (goodIn_of _ (by decide +kernel)) ggX5_addWord_X5_goes
theorem dX5_addWord_0 : decode cX5_addWord 0 = .ok (.aload_n 0, 1) := by decide +kernel
theorem dX5_addWord_1 : decode cX5_addWord 1 = .ok (.iload_n 1, 1) := by decide +kernel
theorem dX5_addWord_2 : decode cX5_addWord 2 = .ok (.iload_n 2, 1) := by decide +kernel
theorem dX5_addWord_3 : decode cX5_addWord 3 = .ok (.iload_n 3, 1) := by decide +kernel
theorem dX5_addWord_4 : decode cX5_addWord 4 = .ok (.invokestatic 52, 3) := by decide +kernel
theorem dX5_addWord_7 : decode cX5_addWord 7 = .ok (.aload_n 0, 1) := by decide +kernel
theorem dX5_addWord_8 : decode cX5_addWord 8 = .ok (.getfield 45, 3) := by decide +kernel
theorem dX5_addWord_11 : decode cX5_addWord 11 = .ok (.bipush 9, 2) := by decide +kernel
theorem dX5_addWord_13 : decode cX5_addWord 13 = .ok (.if_icmp .ge 7, 3) := by decide +kernel
theorem dX5_addWord_16 : decode cX5_addWord 16 = .ok (.iconst 1, 1) := by decide +kernel
theorem dX5_addWord_17 : decode cX5_addWord 17 = .ok (.goto 4, 3) := by decide +kernel
theorem dX5_addWord_20 : decode cX5_addWord 20 = .ok (.iconst 0, 1) := by decide +kernel
theorem dX5_addWord_21 : decode cX5_addWord 21 = .ok (.invokevirtual 55, 3) := by decide +kernel
theorem dX5_addWord_24 : decode cX5_addWord 24 = .ok (.ifCond .ne 5, 3) := by decide +kernel
theorem dX5_addWord_27 : decode cX5_addWord 27 = .ok (.iconst 0, 1) := by decide +kernel
theorem dX5_addWord_28 : decode cX5_addWord 28 = .ok (.ireturn, 1) := by decide +kernel
theorem dX5_addWord_29 : decode cX5_addWord 29 = .ok (.aload_n 0, 1) := by decide +kernel
theorem dX5_addWord_30 : decode cX5_addWord 30 = .ok (.getfield 7, 3) := by decide +kernel
theorem dX5_addWord_33 : decode cX5_addWord 33 = .ok (.aload_n 0, 1) := by decide +kernel
theorem dX5_addWord_34 : decode cX5_addWord 34 = .ok (.getfield 45, 3) := by decide +kernel
theorem dX5_addWord_37 : decode cX5_addWord 37 = .ok (.iload_n 1, 1) := by decide +kernel
theorem dX5_addWord_38 : decode cX5_addWord 38 = .ok (.iastore, 1) := by decide +kernel
theorem dX5_addWord_39 : decode cX5_addWord 39 = .ok (.aload_n 0, 1) := by decide +kernel
theorem dX5_addWord_40 : decode cX5_addWord 40 = .ok (.getfield 13, 3) := by decide +kernel
theorem dX5_addWord_43 : decode cX5_addWord 43 = .ok (.aload_n 0, 1) := by decide +kernel
theorem dX5_addWord_44 : decode cX5_addWord 44 = .ok (.getfield 45, 3) := by decide +kernel
theorem dX5_addWord_47 : decode cX5_addWord 47 = .ok (.iconst 4, 1) := by decide +kernel
theorem dX5_addWord_48 : decode cX5_addWord 48 = .ok (.iload_n 2, 1) := by decide +kernel
theorem dX5_addWord_49 : decode cX5_addWord 49 = .ok (.imul, 1) := by decide +kernel
theorem dX5_addWord_50 : decode cX5_addWord 50 = .ok (.iload_n 3, 1) := by decide +kernel
theorem dX5_addWord_51 : decode cX5_addWord 51 = .ok (.iadd, 1) := by decide +kernel
theorem dX5_addWord_52 : decode cX5_addWord 52 = .ok (.iastore, 1) := by decide +kernel
theorem dX5_addWord_53 : decode cX5_addWord 53 = .ok (.aload_n 0, 1) := by decide +kernel
theorem dX5_addWord_54 : decode cX5_addWord 54 = .ok (.dup, 1) := by decide +kernel
theorem dX5_addWord_55 : decode cX5_addWord 55 = .ok (.getfield 45, 3) := by decide +kernel
theorem dX5_addWord_58 : decode cX5_addWord 58 = .ok (.iconst 1, 1) := by decide +kernel
theorem dX5_addWord_59 : decode cX5_addWord 59 = .ok (.iadd, 1) := by decide +kernel
theorem dX5_addWord_60 : decode cX5_addWord 60 = .ok (.putfield 45, 3) := by decide +kernel
theorem dX5_addWord_63 : decode cX5_addWord 63 = .ok (.aload_n 0, 1) := by decide +kernel
theorem dX5_addWord_64 : decode cX5_addWord 64 = .ok (.getfield 45, 3) := by decide +kernel
theorem dX5_addWord_67 : decode cX5_addWord 67 = .ok (.iconst 1, 1) := by decide +kernel
theorem dX5_addWord_68 : decode cX5_addWord 68 = .ok (.isub, 1) := by decide +kernel
theorem dX5_addWord_69 : decode cX5_addWord 69 = .ok (.ireturn, 1) := by decide +kernel
set_option maxRecDepth 20000 in
theorem ggX5_setWord_X5_isWord : GoodIn wsX5_setWord wsX5_isWord := goodIn_r _ [7, 8, 20, 21, 22, 23, 24, 25, 26, 27, 28, 29, 30, 31, 32, 33, 34] (by decide +kernel) (by decide +kernel)
set_option maxRecDepth 20000 in
theorem gX5_setWord_X5_isWord : GoodIn wsX5_setWord (wsV RX5 59 RX5 yX5_isWord wsX5_isWord) := goodIn_app (goodIn_of _ (by decide +kernel)) ggX5_setWord_X5_isWord
set_option maxRecDepth 20000 in
theorem ggX5_setWord_X5_areValues : GoodIn wsX5_setWord wsX5_areValues := goodIn_r _ [11, 12, 13, 6, 14] (by decide +kernel) (by decide +kernel)
set_option maxRecDepth 20000 in
theorem gX5_setWord_X5_areValues : GoodIn wsX5_setWord (va_wsS RX5 52 yX5_areValues wsX5_areValues) := goodIn_app (goodIn_of _ (by decide +kernel)) ggX5_setWord_X5_areValues
set_option maxRecDepth 20000 in
theorem ggX5_setWord_X5_goes : GoodIn wsX5_setWord wsX5_goes := goodIn_r _ [18, 19, 20, 21, 22, 23, 24, 25, 26, 27, 28, 29, 30, 31, 32, 33, 34] (by decide +kernel) (by decide +kernel)
set_option maxRecDepth 20000 in
theorem gX5_setWord_X5_goes : GoodIn wsX5_setWord (wsV RX5 55 RX5 yX5_goes wsX5_goes) := goodIn_app (goodIn_of _ (by decide +kernel)) ggX5_setWord_X5_goes
theorem dX5_setWord_0 : decode cX5_setWord 0 = .ok (.aload_n 0, 1) := by decide +kernel
theorem dX5_setWord_1 : decode cX5_setWord 1 = .ok (.aload_n 0, 1) := by decide +kernel
theorem dX5_setWord_2 : decode cX5_setWord 2 = .ok (.iload_n 1, 1) := by decide +kernel
theorem dX5_setWord_3 : decode cX5_setWord 3 = .ok (.invokevirtual 59, 3) := by decide +kernel
theorem dX5_setWord_6 : decode cX5_setWord 6 = .ok (.iload_n 2, 1) := by decide +kernel
theorem dX5_setWord_7 : decode cX5_setWord 7 = .ok (.iload_n 3, 1) := by decide +kernel
theorem dX5_setWord_8 : decode cX5_setWord 8 = .ok (.iload 4, 2) := by decide +kernel
theorem dX5_setWord_10 : decode cX5_setWord 10 = .ok (.invokestatic 52, 3) := by decide +kernel
theorem dX5_setWord_13 : decode cX5_setWord 13 = .ok (.invokevirtual 55, 3) := by decide +kernel
theorem dX5_setWord_16 : decode cX5_setWord 16 = .ok (.ifCond .ne 5, 3) := by decide +kernel
theorem dX5_setWord_19 : decode cX5_setWord 19 = .ok (.iconst 0, 1) := by decide +kernel
theorem dX5_setWord_20 : decode cX5_setWord 20 = .ok (.ireturn, 1) := by decide +kernel
theorem dX5_setWord_21 : decode cX5_setWord 21 = .ok (.aload_n 0, 1) := by decide +kernel
theorem dX5_setWord_22 : decode cX5_setWord 22 = .ok (.getfield 7, 3) := by decide +kernel
theorem dX5_setWord_25 : decode cX5_setWord 25 = .ok (.iload_n 1, 1) := by decide +kernel
theorem dX5_setWord_26 : decode cX5_setWord 26 = .ok (.iaload, 1) := by decide +kernel
theorem dX5_setWord_27 : decode cX5_setWord 27 = .ok (.istore 5, 2) := by decide +kernel
theorem dX5_setWord_29 : decode cX5_setWord 29 = .ok (.aload_n 0, 1) := by decide +kernel
theorem dX5_setWord_30 : decode cX5_setWord 30 = .ok (.getfield 7, 3) := by decide +kernel
theorem dX5_setWord_33 : decode cX5_setWord 33 = .ok (.iload_n 1, 1) := by decide +kernel
theorem dX5_setWord_34 : decode cX5_setWord 34 = .ok (.iload_n 2, 1) := by decide +kernel
theorem dX5_setWord_35 : decode cX5_setWord 35 = .ok (.iastore, 1) := by decide +kernel
theorem dX5_setWord_36 : decode cX5_setWord 36 = .ok (.aload_n 0, 1) := by decide +kernel
theorem dX5_setWord_37 : decode cX5_setWord 37 = .ok (.getfield 13, 3) := by decide +kernel
theorem dX5_setWord_40 : decode cX5_setWord 40 = .ok (.iload_n 1, 1) := by decide +kernel
theorem dX5_setWord_41 : decode cX5_setWord 41 = .ok (.iconst 4, 1) := by decide +kernel
theorem dX5_setWord_42 : decode cX5_setWord 42 = .ok (.iload_n 3, 1) := by decide +kernel
theorem dX5_setWord_43 : decode cX5_setWord 43 = .ok (.imul, 1) := by decide +kernel
theorem dX5_setWord_44 : decode cX5_setWord 44 = .ok (.iload 4, 2) := by decide +kernel
theorem dX5_setWord_46 : decode cX5_setWord 46 = .ok (.iadd, 1) := by decide +kernel
theorem dX5_setWord_47 : decode cX5_setWord 47 = .ok (.iastore, 1) := by decide +kernel
theorem dX5_setWord_48 : decode cX5_setWord 48 = .ok (.iload 5, 2) := by decide +kernel
theorem dX5_setWord_50 : decode cX5_setWord 50 = .ok (.ireturn, 1) := by decide +kernel
set_option maxRecDepth 20000 in
theorem ggX5_addRule_X5_isWithin : GoodIn wsX5_addRule wsX5_isWithin := goodIn_r _ [9] (by decide +kernel) (by decide +kernel)
set_option maxRecDepth 20000 in
theorem gX5_addRule_X5_isWithin : GoodIn wsX5_addRule (va_wsS RX5 48 yX5_isWithin wsX5_isWithin) := goodIn_app (goodIn_of _ (by decide +kernel)) ggX5_addRule_X5_isWithin
set_option maxRecDepth 20000 in
theorem ggX5_addRule_X5_isPair : GoodIn wsX5_addRule wsX5_isPair := goodIn_r _ [12] (by decide +kernel) (by decide +kernel)
set_option maxRecDepth 20000 in
theorem gX5_addRule_X5_isPair : GoodIn wsX5_addRule (va_wsS RX5 63 yX5_isPair wsX5_isPair) := goodIn_app (goodIn_of _ (by decide +kernel)) ggX5_addRule_X5_isPair
set_option maxRecDepth 20000 in
theorem ggX5_addRule_X5_goes : GoodIn wsX5_addRule wsX5_goes := goodIn_r _ [16, 17, 18, 19, 20, 21, 22, 23, 24, 25, 26, 27, 28, 29, 30, 31, 32] (by decide +kernel) (by decide +kernel)
set_option maxRecDepth 20000 in
theorem gX5_addRule_X5_goes : GoodIn wsX5_addRule (wsV RX5 55 RX5 yX5_goes wsX5_goes) := goodIn_app (goodIn_of _ (by decide +kernel)) ggX5_addRule_X5_goes
theorem dX5_addRule_0 : decode cX5_addRule 0 = .ok (.iload_n 1, 1) := by decide +kernel
theorem dX5_addRule_1 : decode cX5_addRule 1 = .ok (.iconst 0, 1) := by decide +kernel
theorem dX5_addRule_2 : decode cX5_addRule 2 = .ok (.bipush 7, 2) := by decide +kernel
theorem dX5_addRule_4 : decode cX5_addRule 4 = .ok (.invokestatic 48, 3) := by decide +kernel
theorem dX5_addRule_7 : decode cX5_addRule 7 = .ok (.ifCond .eq 35, 3) := by decide +kernel
theorem dX5_addRule_10 : decode cX5_addRule 10 = .ok (.iload_n 2, 1) := by decide +kernel
theorem dX5_addRule_11 : decode cX5_addRule 11 = .ok (.iconst 0, 1) := by decide +kernel
theorem dX5_addRule_12 : decode cX5_addRule 12 = .ok (.bipush 7, 2) := by decide +kernel
theorem dX5_addRule_14 : decode cX5_addRule 14 = .ok (.invokestatic 48, 3) := by decide +kernel
theorem dX5_addRule_17 : decode cX5_addRule 17 = .ok (.ifCond .eq 25, 3) := by decide +kernel
theorem dX5_addRule_20 : decode cX5_addRule 20 = .ok (.iload_n 3, 1) := by decide +kernel
theorem dX5_addRule_21 : decode cX5_addRule 21 = .ok (.iconst 0, 1) := by decide +kernel
theorem dX5_addRule_22 : decode cX5_addRule 22 = .ok (.bipush 7, 2) := by decide +kernel
theorem dX5_addRule_24 : decode cX5_addRule 24 = .ok (.invokestatic 48, 3) := by decide +kernel
theorem dX5_addRule_27 : decode cX5_addRule 27 = .ok (.ifCond .eq 15, 3) := by decide +kernel
theorem dX5_addRule_30 : decode cX5_addRule 30 = .ok (.iload 4, 2) := by decide +kernel
theorem dX5_addRule_32 : decode cX5_addRule 32 = .ok (.invokestatic 63, 3) := by decide +kernel
theorem dX5_addRule_35 : decode cX5_addRule 35 = .ok (.ifCond .eq 7, 3) := by decide +kernel
theorem dX5_addRule_38 : decode cX5_addRule 38 = .ok (.iconst 1, 1) := by decide +kernel
theorem dX5_addRule_39 : decode cX5_addRule 39 = .ok (.goto 4, 3) := by decide +kernel
theorem dX5_addRule_42 : decode cX5_addRule 42 = .ok (.iconst 0, 1) := by decide +kernel
theorem dX5_addRule_43 : decode cX5_addRule 43 = .ok (.istore 5, 2) := by decide +kernel
theorem dX5_addRule_45 : decode cX5_addRule 45 = .ok (.aload_n 0, 1) := by decide +kernel
theorem dX5_addRule_46 : decode cX5_addRule 46 = .ok (.iload 5, 2) := by decide +kernel
theorem dX5_addRule_48 : decode cX5_addRule 48 = .ok (.aload_n 0, 1) := by decide +kernel
theorem dX5_addRule_49 : decode cX5_addRule 49 = .ok (.getfield 66, 3) := by decide +kernel
theorem dX5_addRule_52 : decode cX5_addRule 52 = .ok (.bipush 8, 2) := by decide +kernel
theorem dX5_addRule_54 : decode cX5_addRule 54 = .ok (.if_icmp .ge 7, 3) := by decide +kernel
theorem dX5_addRule_57 : decode cX5_addRule 57 = .ok (.iconst 1, 1) := by decide +kernel
theorem dX5_addRule_58 : decode cX5_addRule 58 = .ok (.goto 4, 3) := by decide +kernel
theorem dX5_addRule_61 : decode cX5_addRule 61 = .ok (.iconst 0, 1) := by decide +kernel
theorem dX5_addRule_62 : decode cX5_addRule 62 = .ok (.invokevirtual 55, 3) := by decide +kernel
theorem dX5_addRule_65 : decode cX5_addRule 65 = .ok (.ifCond .ne 5, 3) := by decide +kernel
theorem dX5_addRule_68 : decode cX5_addRule 68 = .ok (.iconst 0, 1) := by decide +kernel
theorem dX5_addRule_69 : decode cX5_addRule 69 = .ok (.ireturn, 1) := by decide +kernel
theorem dX5_addRule_70 : decode cX5_addRule 70 = .ok (.aload_n 0, 1) := by decide +kernel
theorem dX5_addRule_71 : decode cX5_addRule 71 = .ok (.getfield 16, 3) := by decide +kernel
theorem dX5_addRule_74 : decode cX5_addRule 74 = .ok (.aload_n 0, 1) := by decide +kernel
theorem dX5_addRule_75 : decode cX5_addRule 75 = .ok (.getfield 66, 3) := by decide +kernel
theorem dX5_addRule_78 : decode cX5_addRule 78 = .ok (.iload_n 1, 1) := by decide +kernel
theorem dX5_addRule_79 : decode cX5_addRule 79 = .ok (.iastore, 1) := by decide +kernel
theorem dX5_addRule_80 : decode cX5_addRule 80 = .ok (.aload_n 0, 1) := by decide +kernel
theorem dX5_addRule_81 : decode cX5_addRule 81 = .ok (.getfield 19, 3) := by decide +kernel
theorem dX5_addRule_84 : decode cX5_addRule 84 = .ok (.aload_n 0, 1) := by decide +kernel
theorem dX5_addRule_85 : decode cX5_addRule 85 = .ok (.getfield 66, 3) := by decide +kernel
theorem dX5_addRule_88 : decode cX5_addRule 88 = .ok (.iload_n 2, 1) := by decide +kernel
theorem dX5_addRule_89 : decode cX5_addRule 89 = .ok (.iastore, 1) := by decide +kernel
theorem dX5_addRule_90 : decode cX5_addRule 90 = .ok (.aload_n 0, 1) := by decide +kernel
theorem dX5_addRule_91 : decode cX5_addRule 91 = .ok (.getfield 22, 3) := by decide +kernel
theorem dX5_addRule_94 : decode cX5_addRule 94 = .ok (.aload_n 0, 1) := by decide +kernel
theorem dX5_addRule_95 : decode cX5_addRule 95 = .ok (.getfield 66, 3) := by decide +kernel
theorem dX5_addRule_98 : decode cX5_addRule 98 = .ok (.iload_n 3, 1) := by decide +kernel
theorem dX5_addRule_99 : decode cX5_addRule 99 = .ok (.iastore, 1) := by decide +kernel
theorem dX5_addRule_100 : decode cX5_addRule 100 = .ok (.aload_n 0, 1) := by decide +kernel
theorem dX5_addRule_101 : decode cX5_addRule 101 = .ok (.getfield 25, 3) := by decide +kernel
theorem dX5_addRule_104 : decode cX5_addRule 104 = .ok (.aload_n 0, 1) := by decide +kernel
theorem dX5_addRule_105 : decode cX5_addRule 105 = .ok (.getfield 66, 3) := by decide +kernel
theorem dX5_addRule_108 : decode cX5_addRule 108 = .ok (.iload 4, 2) := by decide +kernel
theorem dX5_addRule_110 : decode cX5_addRule 110 = .ok (.iastore, 1) := by decide +kernel
theorem dX5_addRule_111 : decode cX5_addRule 111 = .ok (.aload_n 0, 1) := by decide +kernel
theorem dX5_addRule_112 : decode cX5_addRule 112 = .ok (.dup, 1) := by decide +kernel
theorem dX5_addRule_113 : decode cX5_addRule 113 = .ok (.getfield 66, 3) := by decide +kernel
theorem dX5_addRule_116 : decode cX5_addRule 116 = .ok (.iconst 1, 1) := by decide +kernel
theorem dX5_addRule_117 : decode cX5_addRule 117 = .ok (.iadd, 1) := by decide +kernel
theorem dX5_addRule_118 : decode cX5_addRule 118 = .ok (.putfield 66, 3) := by decide +kernel
theorem dX5_addRule_121 : decode cX5_addRule 121 = .ok (.aload_n 0, 1) := by decide +kernel
theorem dX5_addRule_122 : decode cX5_addRule 122 = .ok (.getfield 66, 3) := by decide +kernel
theorem dX5_addRule_125 : decode cX5_addRule 125 = .ok (.iconst 1, 1) := by decide +kernel
theorem dX5_addRule_126 : decode cX5_addRule 126 = .ok (.isub, 1) := by decide +kernel
theorem dX5_addRule_127 : decode cX5_addRule 127 = .ok (.ireturn, 1) := by decide +kernel
set_option maxRecDepth 20000 in
theorem ggX5_dropRule_X5_goes : GoodIn wsX5_dropRule wsX5_goes := goodIn_r _ [6, 7, 8, 9, 10, 11, 12, 13, 14, 15, 16, 17, 18, 19, 20, 21, 22] (by decide +kernel) (by decide +kernel)
set_option maxRecDepth 20000 in
theorem gX5_dropRule_X5_goes : GoodIn wsX5_dropRule (wsV RX5 55 RX5 yX5_goes wsX5_goes) := goodIn_app (goodIn_of _ (by decide +kernel)) ggX5_dropRule_X5_goes
theorem dX5_dropRule_0 : decode cX5_dropRule 0 = .ok (.aload_n 0, 1) := by decide +kernel
theorem dX5_dropRule_1 : decode cX5_dropRule 1 = .ok (.aload_n 0, 1) := by decide +kernel
theorem dX5_dropRule_2 : decode cX5_dropRule 2 = .ok (.getfield 66, 3) := by decide +kernel
theorem dX5_dropRule_5 : decode cX5_dropRule 5 = .ok (.ifCond .le 7, 3) := by decide +kernel
theorem dX5_dropRule_8 : decode cX5_dropRule 8 = .ok (.iconst 1, 1) := by decide +kernel
theorem dX5_dropRule_9 : decode cX5_dropRule 9 = .ok (.goto 4, 3) := by decide +kernel
theorem dX5_dropRule_12 : decode cX5_dropRule 12 = .ok (.iconst 0, 1) := by decide +kernel
theorem dX5_dropRule_13 : decode cX5_dropRule 13 = .ok (.iconst 1, 1) := by decide +kernel
theorem dX5_dropRule_14 : decode cX5_dropRule 14 = .ok (.invokevirtual 55, 3) := by decide +kernel
theorem dX5_dropRule_17 : decode cX5_dropRule 17 = .ok (.ifCond .ne 5, 3) := by decide +kernel
theorem dX5_dropRule_20 : decode cX5_dropRule 20 = .ok (.iconst 0, 1) := by decide +kernel
theorem dX5_dropRule_21 : decode cX5_dropRule 21 = .ok (.ireturn, 1) := by decide +kernel
theorem dX5_dropRule_22 : decode cX5_dropRule 22 = .ok (.aload_n 0, 1) := by decide +kernel
theorem dX5_dropRule_23 : decode cX5_dropRule 23 = .ok (.dup, 1) := by decide +kernel
theorem dX5_dropRule_24 : decode cX5_dropRule 24 = .ok (.getfield 66, 3) := by decide +kernel
theorem dX5_dropRule_27 : decode cX5_dropRule 27 = .ok (.iconst 1, 1) := by decide +kernel
theorem dX5_dropRule_28 : decode cX5_dropRule 28 = .ok (.isub, 1) := by decide +kernel
theorem dX5_dropRule_29 : decode cX5_dropRule 29 = .ok (.putfield 66, 3) := by decide +kernel
theorem dX5_dropRule_32 : decode cX5_dropRule 32 = .ok (.aload_n 0, 1) := by decide +kernel
theorem dX5_dropRule_33 : decode cX5_dropRule 33 = .ok (.getfield 66, 3) := by decide +kernel
theorem dX5_dropRule_36 : decode cX5_dropRule 36 = .ok (.ireturn, 1) := by decide +kernel
set_option maxRecDepth 20000 in
theorem ggX5_say_X5_isWord : GoodIn wsX5_say wsX5_isWord := goodIn_r _ [7, 8, 14, 15, 16, 17, 18, 19, 20, 21, 22, 23, 24, 25, 26, 27, 28] (by decide +kernel) (by decide +kernel)
set_option maxRecDepth 20000 in
theorem gX5_say_X5_isWord : GoodIn wsX5_say (wsV RX5 59 RX5 yX5_isWord wsX5_isWord) := goodIn_app (goodIn_of _ (by decide +kernel)) ggX5_say_X5_isWord
set_option maxRecDepth 20000 in
theorem ggX5_say_X5_goes : GoodIn wsX5_say wsX5_goes := goodIn_r _ [12, 13, 14, 15, 16, 17, 18, 19, 20, 21, 22, 23, 24, 25, 26, 27, 28] (by decide +kernel) (by decide +kernel)
set_option maxRecDepth 20000 in
theorem gX5_say_X5_goes : GoodIn wsX5_say (wsV RX5 55 RX5 yX5_goes wsX5_goes) := goodIn_app (goodIn_of _ (by decide +kernel)) ggX5_say_X5_goes
theorem dX5_say_0 : decode cX5_say 0 = .ok (.aload_n 0, 1) := by decide +kernel
theorem dX5_say_1 : decode cX5_say 1 = .ok (.aload_n 0, 1) := by decide +kernel
theorem dX5_say_2 : decode cX5_say 2 = .ok (.iload_n 1, 1) := by decide +kernel
theorem dX5_say_3 : decode cX5_say 3 = .ok (.invokevirtual 59, 3) := by decide +kernel
theorem dX5_say_6 : decode cX5_say 6 = .ok (.aload_n 0, 1) := by decide +kernel
theorem dX5_say_7 : decode cX5_say 7 = .ok (.getfield 69, 3) := by decide +kernel
theorem dX5_say_10 : decode cX5_say 10 = .ok (.bipush 6, 2) := by decide +kernel
theorem dX5_say_12 : decode cX5_say 12 = .ok (.if_icmp .ge 7, 3) := by decide +kernel
theorem dX5_say_15 : decode cX5_say 15 = .ok (.iconst 1, 1) := by decide +kernel
theorem dX5_say_16 : decode cX5_say 16 = .ok (.goto 4, 3) := by decide +kernel
theorem dX5_say_19 : decode cX5_say 19 = .ok (.iconst 0, 1) := by decide +kernel
theorem dX5_say_20 : decode cX5_say 20 = .ok (.invokevirtual 55, 3) := by decide +kernel
theorem dX5_say_23 : decode cX5_say 23 = .ok (.ifCond .ne 5, 3) := by decide +kernel
theorem dX5_say_26 : decode cX5_say 26 = .ok (.iconst 0, 1) := by decide +kernel
theorem dX5_say_27 : decode cX5_say 27 = .ok (.ireturn, 1) := by decide +kernel
theorem dX5_say_28 : decode cX5_say 28 = .ok (.aload_n 0, 1) := by decide +kernel
theorem dX5_say_29 : decode cX5_say 29 = .ok (.getfield 28, 3) := by decide +kernel
theorem dX5_say_32 : decode cX5_say 32 = .ok (.aload_n 0, 1) := by decide +kernel
theorem dX5_say_33 : decode cX5_say 33 = .ok (.getfield 69, 3) := by decide +kernel
theorem dX5_say_36 : decode cX5_say 36 = .ok (.iload_n 1, 1) := by decide +kernel
theorem dX5_say_37 : decode cX5_say 37 = .ok (.iastore, 1) := by decide +kernel
theorem dX5_say_38 : decode cX5_say 38 = .ok (.aload_n 0, 1) := by decide +kernel
theorem dX5_say_39 : decode cX5_say 39 = .ok (.dup, 1) := by decide +kernel
theorem dX5_say_40 : decode cX5_say 40 = .ok (.getfield 69, 3) := by decide +kernel
theorem dX5_say_43 : decode cX5_say 43 = .ok (.iconst 1, 1) := by decide +kernel
theorem dX5_say_44 : decode cX5_say 44 = .ok (.iadd, 1) := by decide +kernel
theorem dX5_say_45 : decode cX5_say 45 = .ok (.putfield 69, 3) := by decide +kernel
theorem dX5_say_48 : decode cX5_say 48 = .ok (.aload_n 0, 1) := by decide +kernel
theorem dX5_say_49 : decode cX5_say 49 = .ok (.getfield 69, 3) := by decide +kernel
theorem dX5_say_52 : decode cX5_say 52 = .ok (.ireturn, 1) := by decide +kernel
theorem dX5_isPlace_0 : decode cX5_isPlace 0 = .ok (.iload_n 1, 1) := by decide +kernel
theorem dX5_isPlace_1 : decode cX5_isPlace 1 = .ok (.ifCond .lt 15, 3) := by decide +kernel
theorem dX5_isPlace_4 : decode cX5_isPlace 4 = .ok (.iload_n 1, 1) := by decide +kernel
theorem dX5_isPlace_5 : decode cX5_isPlace 5 = .ok (.aload_n 0, 1) := by decide +kernel
theorem dX5_isPlace_6 : decode cX5_isPlace 6 = .ok (.getfield 69, 3) := by decide +kernel
theorem dX5_isPlace_9 : decode cX5_isPlace 9 = .ok (.if_icmp .ge 7, 3) := by decide +kernel
theorem dX5_isPlace_12 : decode cX5_isPlace 12 = .ok (.iconst 1, 1) := by decide +kernel
theorem dX5_isPlace_13 : decode cX5_isPlace 13 = .ok (.goto 4, 3) := by decide +kernel
theorem dX5_isPlace_16 : decode cX5_isPlace 16 = .ok (.iconst 0, 1) := by decide +kernel
theorem dX5_isPlace_17 : decode cX5_isPlace 17 = .ok (.ireturn, 1) := by decide +kernel
set_option maxRecDepth 20000 in
theorem ggX5_change_X5_isPlace : GoodIn wsX5_change wsX5_isPlace := goodIn_r _ [6, 7, 18, 19, 20, 21, 22, 23, 24, 25, 26, 27, 28, 29, 30, 31, 32] (by decide +kernel) (by decide +kernel)
set_option maxRecDepth 20000 in
theorem gX5_change_X5_isPlace : GoodIn wsX5_change (wsV RX5 72 RX5 yX5_isPlace wsX5_isPlace) := goodIn_app (goodIn_of _ (by decide +kernel)) ggX5_change_X5_isPlace
set_option maxRecDepth 20000 in
theorem ggX5_change_X5_isWord : GoodIn wsX5_change wsX5_isWord := goodIn_r _ [11, 12, 18, 19, 20, 21, 22, 23, 24, 25, 26, 27, 28, 29, 30, 31, 32] (by decide +kernel) (by decide +kernel)
set_option maxRecDepth 20000 in
theorem gX5_change_X5_isWord : GoodIn wsX5_change (wsV RX5 59 RX5 yX5_isWord wsX5_isWord) := goodIn_app (goodIn_of _ (by decide +kernel)) ggX5_change_X5_isWord
set_option maxRecDepth 20000 in
theorem ggX5_change_X5_goes : GoodIn wsX5_change wsX5_goes := goodIn_r _ [16, 17, 18, 19, 20, 21, 22, 23, 24, 25, 26, 27, 28, 29, 30, 31, 32] (by decide +kernel) (by decide +kernel)
set_option maxRecDepth 20000 in
theorem gX5_change_X5_goes : GoodIn wsX5_change (wsV RX5 55 RX5 yX5_goes wsX5_goes) := goodIn_app (goodIn_of _ (by decide +kernel)) ggX5_change_X5_goes
theorem dX5_change_0 : decode cX5_change 0 = .ok (.aload_n 0, 1) := by decide +kernel
theorem dX5_change_1 : decode cX5_change 1 = .ok (.aload_n 0, 1) := by decide +kernel
theorem dX5_change_2 : decode cX5_change 2 = .ok (.iload_n 1, 1) := by decide +kernel
theorem dX5_change_3 : decode cX5_change 3 = .ok (.invokevirtual 72, 3) := by decide +kernel
theorem dX5_change_6 : decode cX5_change 6 = .ok (.ifCond .eq 15, 3) := by decide +kernel
theorem dX5_change_9 : decode cX5_change 9 = .ok (.aload_n 0, 1) := by decide +kernel
theorem dX5_change_10 : decode cX5_change 10 = .ok (.iload_n 2, 1) := by decide +kernel
theorem dX5_change_11 : decode cX5_change 11 = .ok (.invokevirtual 59, 3) := by decide +kernel
theorem dX5_change_14 : decode cX5_change 14 = .ok (.ifCond .eq 7, 3) := by decide +kernel
theorem dX5_change_17 : decode cX5_change 17 = .ok (.iconst 1, 1) := by decide +kernel
theorem dX5_change_18 : decode cX5_change 18 = .ok (.goto 4, 3) := by decide +kernel
theorem dX5_change_21 : decode cX5_change 21 = .ok (.iconst 0, 1) := by decide +kernel
theorem dX5_change_22 : decode cX5_change 22 = .ok (.iconst 1, 1) := by decide +kernel
theorem dX5_change_23 : decode cX5_change 23 = .ok (.invokevirtual 55, 3) := by decide +kernel
theorem dX5_change_26 : decode cX5_change 26 = .ok (.ifCond .ne 5, 3) := by decide +kernel
theorem dX5_change_29 : decode cX5_change 29 = .ok (.iconst 0, 1) := by decide +kernel
theorem dX5_change_30 : decode cX5_change 30 = .ok (.ireturn, 1) := by decide +kernel
theorem dX5_change_31 : decode cX5_change 31 = .ok (.aload_n 0, 1) := by decide +kernel
theorem dX5_change_32 : decode cX5_change 32 = .ok (.getfield 28, 3) := by decide +kernel
theorem dX5_change_35 : decode cX5_change 35 = .ok (.iload_n 1, 1) := by decide +kernel
theorem dX5_change_36 : decode cX5_change 36 = .ok (.iaload, 1) := by decide +kernel
theorem dX5_change_37 : decode cX5_change 37 = .ok (.istore_n 3, 1) := by decide +kernel
theorem dX5_change_38 : decode cX5_change 38 = .ok (.aload_n 0, 1) := by decide +kernel
theorem dX5_change_39 : decode cX5_change 39 = .ok (.getfield 28, 3) := by decide +kernel
theorem dX5_change_42 : decode cX5_change 42 = .ok (.iload_n 1, 1) := by decide +kernel
theorem dX5_change_43 : decode cX5_change 43 = .ok (.iload_n 2, 1) := by decide +kernel
theorem dX5_change_44 : decode cX5_change 44 = .ok (.iastore, 1) := by decide +kernel
theorem dX5_change_45 : decode cX5_change 45 = .ok (.iload_n 3, 1) := by decide +kernel
theorem dX5_change_46 : decode cX5_change 46 = .ok (.ireturn, 1) := by decide +kernel
theorem dX5_hush_0 : decode cX5_hush 0 = .ok (.aload_n 0, 1) := by decide +kernel
theorem dX5_hush_1 : decode cX5_hush 1 = .ok (.iconst 0, 1) := by decide +kernel
theorem dX5_hush_2 : decode cX5_hush 2 = .ok (.putfield 41, 3) := by decide +kernel
theorem dX5_hush_5 : decode cX5_hush 5 = .ok (.aload_n 0, 1) := by decide +kernel
theorem dX5_hush_6 : decode cX5_hush 6 = .ok (.getfield 69, 3) := by decide +kernel
theorem dX5_hush_9 : decode cX5_hush 9 = .ok (.istore_n 1, 1) := by decide +kernel
theorem dX5_hush_10 : decode cX5_hush 10 = .ok (.aload_n 0, 1) := by decide +kernel
theorem dX5_hush_11 : decode cX5_hush 11 = .ok (.iconst 0, 1) := by decide +kernel
theorem dX5_hush_12 : decode cX5_hush 12 = .ok (.putfield 69, 3) := by decide +kernel
theorem dX5_hush_15 : decode cX5_hush 15 = .ok (.iload_n 1, 1) := by decide +kernel
theorem dX5_hush_16 : decode cX5_hush 16 = .ok (.ireturn, 1) := by decide +kernel
theorem dX5_said_0 : decode cX5_said 0 = .ok (.aload_n 0, 1) := by decide +kernel
theorem dX5_said_1 : decode cX5_said 1 = .ok (.iconst 0, 1) := by decide +kernel
theorem dX5_said_2 : decode cX5_said 2 = .ok (.putfield 41, 3) := by decide +kernel
theorem dX5_said_5 : decode cX5_said 5 = .ok (.aload_n 0, 1) := by decide +kernel
theorem dX5_said_6 : decode cX5_said 6 = .ok (.getfield 69, 3) := by decide +kernel
theorem dX5_said_9 : decode cX5_said 9 = .ok (.ireturn, 1) := by decide +kernel
set_option maxRecDepth 20000 in
theorem ggX5_wordAt_X5_isPlace : GoodIn wsX5_wordAt wsX5_isPlace := goodIn_r _ [6, 7, 13, 14, 15, 16, 17, 18, 19, 20, 21, 22, 23, 24, 25, 26, 27] (by decide +kernel) (by decide +kernel)
set_option maxRecDepth 20000 in
theorem gX5_wordAt_X5_isPlace : GoodIn wsX5_wordAt (wsV RX5 72 RX5 yX5_isPlace wsX5_isPlace) := goodIn_app (goodIn_of _ (by decide +kernel)) ggX5_wordAt_X5_isPlace
set_option maxRecDepth 20000 in
theorem ggX5_wordAt_X5_goes : GoodIn wsX5_wordAt wsX5_goes := goodIn_r _ [11, 12, 13, 14, 15, 16, 17, 18, 19, 20, 21, 22, 23, 24, 25, 26, 27] (by decide +kernel) (by decide +kernel)
set_option maxRecDepth 20000 in
theorem gX5_wordAt_X5_goes : GoodIn wsX5_wordAt (wsV RX5 55 RX5 yX5_goes wsX5_goes) := goodIn_app (goodIn_of _ (by decide +kernel)) ggX5_wordAt_X5_goes
theorem dX5_wordAt_0 : decode cX5_wordAt 0 = .ok (.aload_n 0, 1) := by decide +kernel
theorem dX5_wordAt_1 : decode cX5_wordAt 1 = .ok (.aload_n 0, 1) := by decide +kernel
theorem dX5_wordAt_2 : decode cX5_wordAt 2 = .ok (.iload_n 1, 1) := by decide +kernel
theorem dX5_wordAt_3 : decode cX5_wordAt 3 = .ok (.invokevirtual 72, 3) := by decide +kernel
theorem dX5_wordAt_6 : decode cX5_wordAt 6 = .ok (.iconst 1, 1) := by decide +kernel
theorem dX5_wordAt_7 : decode cX5_wordAt 7 = .ok (.invokevirtual 55, 3) := by decide +kernel
theorem dX5_wordAt_10 : decode cX5_wordAt 10 = .ok (.ifCond .eq 12, 3) := by decide +kernel
theorem dX5_wordAt_13 : decode cX5_wordAt 13 = .ok (.aload_n 0, 1) := by decide +kernel
theorem dX5_wordAt_14 : decode cX5_wordAt 14 = .ok (.getfield 28, 3) := by decide +kernel
theorem dX5_wordAt_17 : decode cX5_wordAt 17 = .ok (.iload_n 1, 1) := by decide +kernel
theorem dX5_wordAt_18 : decode cX5_wordAt 18 = .ok (.iaload, 1) := by decide +kernel
theorem dX5_wordAt_19 : decode cX5_wordAt 19 = .ok (.goto 4, 3) := by decide +kernel
theorem dX5_wordAt_22 : decode cX5_wordAt 22 = .ok (.iconst 0, 1) := by decide +kernel
theorem dX5_wordAt_23 : decode cX5_wordAt 23 = .ok (.ireturn, 1) := by decide +kernel
theorem dX5_takes_0 : decode cX5_takes 0 = .ok (.aload_n 0, 1) := by decide +kernel
theorem dX5_takes_1 : decode cX5_takes 1 = .ok (.aload_n 0, 1) := by decide +kernel
theorem dX5_takes_2 : decode cX5_takes 2 = .ok (.getfield 69, 3) := by decide +kernel
theorem dX5_takes_5 : decode cX5_takes 5 = .ok (.putfield 75, 3) := by decide +kernel
theorem dX5_takes_8 : decode cX5_takes 8 = .ok (.iconst 0, 1) := by decide +kernel
theorem dX5_takes_9 : decode cX5_takes 9 = .ok (.istore_n 1, 1) := by decide +kernel
theorem dX5_takes_10 : decode cX5_takes 10 = .ok (.iload_n 1, 1) := by decide +kernel
theorem dX5_takes_11 : decode cX5_takes 11 = .ok (.aload_n 0, 1) := by decide +kernel
theorem dX5_takes_12 : decode cX5_takes 12 = .ok (.getfield 69, 3) := by decide +kernel
theorem dX5_takes_15 : decode cX5_takes 15 = .ok (.if_icmp .ge 21, 3) := by decide +kernel
theorem dX5_takes_18 : decode cX5_takes 18 = .ok (.aload_n 0, 1) := by decide +kernel
theorem dX5_takes_19 : decode cX5_takes 19 = .ok (.getfield 31, 3) := by decide +kernel
theorem dX5_takes_22 : decode cX5_takes 22 = .ok (.iload_n 1, 1) := by decide +kernel
theorem dX5_takes_23 : decode cX5_takes 23 = .ok (.aload_n 0, 1) := by decide +kernel
theorem dX5_takes_24 : decode cX5_takes 24 = .ok (.getfield 28, 3) := by decide +kernel
theorem dX5_takes_27 : decode cX5_takes 27 = .ok (.iload_n 1, 1) := by decide +kernel
theorem dX5_takes_28 : decode cX5_takes 28 = .ok (.iaload, 1) := by decide +kernel
theorem dX5_takes_29 : decode cX5_takes 29 = .ok (.iastore, 1) := by decide +kernel
theorem dX5_takes_30 : decode cX5_takes 30 = .ok (.iinc 1 1, 3) := by decide +kernel
theorem dX5_takes_33 : decode cX5_takes 33 = .ok (.goto (-23), 3) := by decide +kernel
theorem dX5_takes_36 : decode cX5_takes 36 = .ok (.return_, 1) := by decide +kernel
theorem dX5_makes_0 : decode cX5_makes 0 = .ok (.iload_n 0, 1) := by decide +kernel
theorem dX5_makes_1 : decode cX5_makes 1 = .ok (.ifCond .ne 5, 3) := by decide +kernel
theorem dX5_makes_4 : decode cX5_makes 4 = .ok (.iload_n 1, 1) := by decide +kernel
theorem dX5_makes_5 : decode cX5_makes 5 = .ok (.ireturn, 1) := by decide +kernel
theorem dX5_makes_6 : decode cX5_makes 6 = .ok (.iload_n 0, 1) := by decide +kernel
theorem dX5_makes_7 : decode cX5_makes 7 = .ok (.iconst 1, 1) := by decide +kernel
theorem dX5_makes_8 : decode cX5_makes 8 = .ok (.if_icmp .ne 5, 3) := by decide +kernel
theorem dX5_makes_11 : decode cX5_makes 11 = .ok (.iload_n 2, 1) := by decide +kernel
theorem dX5_makes_12 : decode cX5_makes 12 = .ok (.ireturn, 1) := by decide +kernel
theorem dX5_makes_13 : decode cX5_makes 13 = .ok (.iload_n 0, 1) := by decide +kernel
theorem dX5_makes_14 : decode cX5_makes 14 = .ok (.iconst 3, 1) := by decide +kernel
theorem dX5_makes_15 : decode cX5_makes 15 = .ok (.if_icmp .ne 5, 3) := by decide +kernel
theorem dX5_makes_18 : decode cX5_makes 18 = .ok (.iconst 0, 1) := by decide +kernel
theorem dX5_makes_19 : decode cX5_makes 19 = .ok (.ireturn, 1) := by decide +kernel
theorem dX5_makes_20 : decode cX5_makes 20 = .ok (.iload_n 1, 1) := by decide +kernel
theorem dX5_makes_21 : decode cX5_makes 21 = .ok (.iload_n 2, 1) := by decide +kernel
theorem dX5_makes_22 : decode cX5_makes 22 = .ok (.if_icmp .eq 7, 3) := by decide +kernel
theorem dX5_makes_25 : decode cX5_makes 25 = .ok (.iload_n 2, 1) := by decide +kernel
theorem dX5_makes_26 : decode cX5_makes 26 = .ok (.ifCond .ne 7, 3) := by decide +kernel
theorem dX5_makes_29 : decode cX5_makes 29 = .ok (.iload_n 1, 1) := by decide +kernel
theorem dX5_makes_30 : decode cX5_makes 30 = .ok (.goto 12, 3) := by decide +kernel
theorem dX5_makes_33 : decode cX5_makes 33 = .ok (.iload_n 1, 1) := by decide +kernel
theorem dX5_makes_34 : decode cX5_makes 34 = .ok (.ifCond .ne 7, 3) := by decide +kernel
theorem dX5_makes_37 : decode cX5_makes 37 = .ok (.iload_n 2, 1) := by decide +kernel
theorem dX5_makes_38 : decode cX5_makes 38 = .ok (.goto 4, 3) := by decide +kernel
theorem dX5_makes_41 : decode cX5_makes 41 = .ok (.iconst (-1), 1) := by decide +kernel
theorem dX5_makes_42 : decode cX5_makes 42 = .ok (.ireturn, 1) := by decide +kernel
set_option maxRecDepth 20000 in
theorem ggX5_makesBoth_X5_makes : GoodIn wsX5_makesBoth wsX5_makes := goodIn_r _ [5] (by decide +kernel) (by decide +kernel)
set_option maxRecDepth 20000 in
theorem gX5_makesBoth_X5_makes : GoodIn wsX5_makesBoth (va_wsS RX5 78 yX5_makes wsX5_makes) := goodIn_app (goodIn_of _ (by decide +kernel)) ggX5_makesBoth_X5_makes
theorem dX5_makesBoth_0 : decode cX5_makesBoth 0 = .ok (.aload_n 0, 1) := by decide +kernel
theorem dX5_makesBoth_1 : decode cX5_makesBoth 1 = .ok (.getfield 25, 3) := by decide +kernel
theorem dX5_makesBoth_4 : decode cX5_makesBoth 4 = .ok (.iload_n 1, 1) := by decide +kernel
theorem dX5_makesBoth_5 : decode cX5_makesBoth 5 = .ok (.iaload, 1) := by decide +kernel
theorem dX5_makesBoth_6 : decode cX5_makesBoth 6 = .ok (.bipush 10, 2) := by decide +kernel
theorem dX5_makesBoth_8 : decode cX5_makesBoth 8 = .ok (.idiv, 1) := by decide +kernel
theorem dX5_makesBoth_9 : decode cX5_makesBoth 9 = .ok (.iload_n 2, 1) := by decide +kernel
theorem dX5_makesBoth_10 : decode cX5_makesBoth 10 = .ok (.iconst 4, 1) := by decide +kernel
theorem dX5_makesBoth_11 : decode cX5_makesBoth 11 = .ok (.idiv, 1) := by decide +kernel
theorem dX5_makesBoth_12 : decode cX5_makesBoth 12 = .ok (.iload_n 3, 1) := by decide +kernel
theorem dX5_makesBoth_13 : decode cX5_makesBoth 13 = .ok (.iconst 4, 1) := by decide +kernel
theorem dX5_makesBoth_14 : decode cX5_makesBoth 14 = .ok (.idiv, 1) := by decide +kernel
theorem dX5_makesBoth_15 : decode cX5_makesBoth 15 = .ok (.invokestatic 78, 3) := by decide +kernel
theorem dX5_makesBoth_18 : decode cX5_makesBoth 18 = .ok (.istore 4, 2) := by decide +kernel
theorem dX5_makesBoth_20 : decode cX5_makesBoth 20 = .ok (.aload_n 0, 1) := by decide +kernel
theorem dX5_makesBoth_21 : decode cX5_makesBoth 21 = .ok (.getfield 25, 3) := by decide +kernel
theorem dX5_makesBoth_24 : decode cX5_makesBoth 24 = .ok (.iload_n 1, 1) := by decide +kernel
theorem dX5_makesBoth_25 : decode cX5_makesBoth 25 = .ok (.iaload, 1) := by decide +kernel
theorem dX5_makesBoth_26 : decode cX5_makesBoth 26 = .ok (.bipush 10, 2) := by decide +kernel
theorem dX5_makesBoth_28 : decode cX5_makesBoth 28 = .ok (.irem, 1) := by decide +kernel
theorem dX5_makesBoth_29 : decode cX5_makesBoth 29 = .ok (.iload_n 2, 1) := by decide +kernel
theorem dX5_makesBoth_30 : decode cX5_makesBoth 30 = .ok (.iconst 4, 1) := by decide +kernel
theorem dX5_makesBoth_31 : decode cX5_makesBoth 31 = .ok (.irem, 1) := by decide +kernel
theorem dX5_makesBoth_32 : decode cX5_makesBoth 32 = .ok (.iload_n 3, 1) := by decide +kernel
theorem dX5_makesBoth_33 : decode cX5_makesBoth 33 = .ok (.iconst 4, 1) := by decide +kernel
theorem dX5_makesBoth_34 : decode cX5_makesBoth 34 = .ok (.irem, 1) := by decide +kernel
theorem dX5_makesBoth_35 : decode cX5_makesBoth 35 = .ok (.invokestatic 78, 3) := by decide +kernel
theorem dX5_makesBoth_38 : decode cX5_makesBoth 38 = .ok (.istore 5, 2) := by decide +kernel
theorem dX5_makesBoth_40 : decode cX5_makesBoth 40 = .ok (.iload 4, 2) := by decide +kernel
theorem dX5_makesBoth_42 : decode cX5_makesBoth 42 = .ok (.ifCond .lt 8, 3) := by decide +kernel
theorem dX5_makesBoth_45 : decode cX5_makesBoth 45 = .ok (.iload 5, 2) := by decide +kernel
theorem dX5_makesBoth_47 : decode cX5_makesBoth 47 = .ok (.ifCond .ge 7, 3) := by decide +kernel
theorem dX5_makesBoth_50 : decode cX5_makesBoth 50 = .ok (.iconst (-1), 1) := by decide +kernel
theorem dX5_makesBoth_51 : decode cX5_makesBoth 51 = .ok (.goto 10, 3) := by decide +kernel
theorem dX5_makesBoth_54 : decode cX5_makesBoth 54 = .ok (.iconst 4, 1) := by decide +kernel
theorem dX5_makesBoth_55 : decode cX5_makesBoth 55 = .ok (.iload 4, 2) := by decide +kernel
theorem dX5_makesBoth_57 : decode cX5_makesBoth 57 = .ok (.imul, 1) := by decide +kernel
theorem dX5_makesBoth_58 : decode cX5_makesBoth 58 = .ok (.iload 5, 2) := by decide +kernel
theorem dX5_makesBoth_60 : decode cX5_makesBoth 60 = .ok (.iadd, 1) := by decide +kernel
theorem dX5_makesBoth_61 : decode cX5_makesBoth 61 = .ok (.ireturn, 1) := by decide +kernel
theorem dX5_span_0 : decode cX5_span 0 = .ok (.iload_n 0, 1) := by decide +kernel
theorem dX5_span_1 : decode cX5_span 1 = .ok (.bipush 7, 2) := by decide +kernel
theorem dX5_span_3 : decode cX5_span 3 = .ok (.imul, 1) := by decide +kernel
theorem dX5_span_4 : decode cX5_span 4 = .ok (.iload_n 1, 1) := by decide +kernel
theorem dX5_span_5 : decode cX5_span 5 = .ok (.iadd, 1) := by decide +kernel
theorem dX5_span_6 : decode cX5_span 6 = .ok (.bipush 8, 2) := by decide +kernel
theorem dX5_span_8 : decode cX5_span 8 = .ok (.imul, 1) := by decide +kernel
theorem dX5_span_9 : decode cX5_span 9 = .ok (.ireturn, 1) := by decide +kernel
set_option maxRecDepth 20000 in
theorem ggX5_parses_X5_span : GoodIn wsX5_parses wsX5_span := goodIn_r _ [12] (by decide +kernel) (by decide +kernel)
set_option maxRecDepth 20000 in
theorem gX5_parses_X5_span : GoodIn wsX5_parses (va_wsS RX5 82 yX5_span wsX5_span) := goodIn_app (goodIn_of _ (by decide +kernel)) ggX5_parses_X5_span
set_option maxRecDepth 20000 in
theorem ggX5_parses_X5_together : GoodIn wsX5_parses wsX5_together := goodIn_r _ [16, 17, 18, 19, 11, 20, 21, 22, 23, 24, 25, 26, 27, 28, 29, 30, 31, 32, 33, 34, 35, 36, 37, 38, 39] (by decide +kernel) (by decide +kernel)
set_option maxRecDepth 20000 in
theorem gX5_parses_X5_together : GoodIn wsX5_parses (wsV RX5 86 RX5 yX5_together wsX5_together) := goodIn_app (goodIn_of _ (by decide +kernel)) ggX5_parses_X5_together
theorem dX5_parses_0 : decode cX5_parses 0 = .ok (.aload_n 0, 1) := by decide +kernel
theorem dX5_parses_1 : decode cX5_parses 1 = .ok (.getfield 75, 3) := by decide +kernel
theorem dX5_parses_4 : decode cX5_parses 4 = .ok (.iconst 1, 1) := by decide +kernel
theorem dX5_parses_5 : decode cX5_parses 5 = .ok (.isub, 1) := by decide +kernel
theorem dX5_parses_6 : decode cX5_parses 6 = .ok (.istore_n 2, 1) := by decide +kernel
theorem dX5_parses_7 : decode cX5_parses 7 = .ok (.iload_n 2, 1) := by decide +kernel
theorem dX5_parses_8 : decode cX5_parses 8 = .ok (.ifCond .lt 216, 3) := by decide +kernel
theorem dX5_parses_11 : decode cX5_parses 11 = .ok (.iload_n 2, 1) := by decide +kernel
theorem dX5_parses_12 : decode cX5_parses 12 = .ok (.iconst 1, 1) := by decide +kernel
theorem dX5_parses_13 : decode cX5_parses 13 = .ok (.iadd, 1) := by decide +kernel
theorem dX5_parses_14 : decode cX5_parses 14 = .ok (.istore_n 3, 1) := by decide +kernel
theorem dX5_parses_15 : decode cX5_parses 15 = .ok (.iload_n 3, 1) := by decide +kernel
theorem dX5_parses_16 : decode cX5_parses 16 = .ok (.aload_n 0, 1) := by decide +kernel
theorem dX5_parses_17 : decode cX5_parses 17 = .ok (.getfield 75, 3) := by decide +kernel
theorem dX5_parses_20 : decode cX5_parses 20 = .ok (.if_icmp .gt 198, 3) := by decide +kernel
theorem dX5_parses_23 : decode cX5_parses 23 = .ok (.iload_n 2, 1) := by decide +kernel
theorem dX5_parses_24 : decode cX5_parses 24 = .ok (.iload_n 3, 1) := by decide +kernel
theorem dX5_parses_25 : decode cX5_parses 25 = .ok (.invokestatic 82, 3) := by decide +kernel
theorem dX5_parses_28 : decode cX5_parses 28 = .ok (.istore 4, 2) := by decide +kernel
theorem dX5_parses_30 : decode cX5_parses 30 = .ok (.iconst 0, 1) := by decide +kernel
theorem dX5_parses_31 : decode cX5_parses 31 = .ok (.istore 5, 2) := by decide +kernel
theorem dX5_parses_33 : decode cX5_parses 33 = .ok (.iload 5, 2) := by decide +kernel
theorem dX5_parses_35 : decode cX5_parses 35 = .ok (.bipush 8, 2) := by decide +kernel
theorem dX5_parses_37 : decode cX5_parses 37 = .ok (.if_icmp .ge 20, 3) := by decide +kernel
theorem dX5_parses_40 : decode cX5_parses 40 = .ok (.aload_n 0, 1) := by decide +kernel
theorem dX5_parses_41 : decode cX5_parses 41 = .ok (.getfield 34, 3) := by decide +kernel
theorem dX5_parses_44 : decode cX5_parses 44 = .ok (.iload 4, 2) := by decide +kernel
theorem dX5_parses_46 : decode cX5_parses 46 = .ok (.iload 5, 2) := by decide +kernel
theorem dX5_parses_48 : decode cX5_parses 48 = .ok (.iadd, 1) := by decide +kernel
theorem dX5_parses_49 : decode cX5_parses 49 = .ok (.iconst 0, 1) := by decide +kernel
theorem dX5_parses_50 : decode cX5_parses 50 = .ok (.iastore, 1) := by decide +kernel
theorem dX5_parses_51 : decode cX5_parses 51 = .ok (.iinc 5 1, 3) := by decide +kernel
theorem dX5_parses_54 : decode cX5_parses 54 = .ok (.goto (-21), 3) := by decide +kernel
theorem dX5_parses_57 : decode cX5_parses 57 = .ok (.iload_n 3, 1) := by decide +kernel
theorem dX5_parses_58 : decode cX5_parses 58 = .ok (.iload_n 2, 1) := by decide +kernel
theorem dX5_parses_59 : decode cX5_parses 59 = .ok (.iconst 1, 1) := by decide +kernel
theorem dX5_parses_60 : decode cX5_parses 60 = .ok (.iadd, 1) := by decide +kernel
theorem dX5_parses_61 : decode cX5_parses 61 = .ok (.if_icmp .ne 35, 3) := by decide +kernel
theorem dX5_parses_64 : decode cX5_parses 64 = .ok (.aload_n 0, 1) := by decide +kernel
theorem dX5_parses_65 : decode cX5_parses 65 = .ok (.getfield 34, 3) := by decide +kernel
theorem dX5_parses_68 : decode cX5_parses 68 = .ok (.iload 4, 2) := by decide +kernel
theorem dX5_parses_70 : decode cX5_parses 70 = .ok (.aload_n 0, 1) := by decide +kernel
theorem dX5_parses_71 : decode cX5_parses 71 = .ok (.getfield 7, 3) := by decide +kernel
theorem dX5_parses_74 : decode cX5_parses 74 = .ok (.aload_n 0, 1) := by decide +kernel
theorem dX5_parses_75 : decode cX5_parses 75 = .ok (.getfield 31, 3) := by decide +kernel
theorem dX5_parses_78 : decode cX5_parses 78 = .ok (.iload_n 2, 1) := by decide +kernel
theorem dX5_parses_79 : decode cX5_parses 79 = .ok (.iaload, 1) := by decide +kernel
theorem dX5_parses_80 : decode cX5_parses 80 = .ok (.iaload, 1) := by decide +kernel
theorem dX5_parses_81 : decode cX5_parses 81 = .ok (.iadd, 1) := by decide +kernel
theorem dX5_parses_82 : decode cX5_parses 82 = .ok (.iconst 1, 1) := by decide +kernel
theorem dX5_parses_83 : decode cX5_parses 83 = .ok (.aload_n 0, 1) := by decide +kernel
theorem dX5_parses_84 : decode cX5_parses 84 = .ok (.getfield 13, 3) := by decide +kernel
theorem dX5_parses_87 : decode cX5_parses 87 = .ok (.aload_n 0, 1) := by decide +kernel
theorem dX5_parses_88 : decode cX5_parses 88 = .ok (.getfield 31, 3) := by decide +kernel
theorem dX5_parses_91 : decode cX5_parses 91 = .ok (.iload_n 2, 1) := by decide +kernel
theorem dX5_parses_92 : decode cX5_parses 92 = .ok (.iaload, 1) := by decide +kernel
theorem dX5_parses_93 : decode cX5_parses 93 = .ok (.iaload, 1) := by decide +kernel
theorem dX5_parses_94 : decode cX5_parses 94 = .ok (.ishl, 1) := by decide +kernel
theorem dX5_parses_95 : decode cX5_parses 95 = .ok (.iastore, 1) := by decide +kernel
theorem dX5_parses_96 : decode cX5_parses 96 = .ok (.iconst 0, 1) := by decide +kernel
theorem dX5_parses_97 : decode cX5_parses 97 = .ok (.istore 5, 2) := by decide +kernel
theorem dX5_parses_99 : decode cX5_parses 99 = .ok (.iload 5, 2) := by decide +kernel
theorem dX5_parses_101 : decode cX5_parses 101 = .ok (.iload_n 1, 1) := by decide +kernel
theorem dX5_parses_102 : decode cX5_parses 102 = .ok (.if_icmp .ge 110, 3) := by decide +kernel
theorem dX5_parses_105 : decode cX5_parses 105 = .ok (.iload_n 2, 1) := by decide +kernel
theorem dX5_parses_106 : decode cX5_parses 106 = .ok (.iconst 1, 1) := by decide +kernel
theorem dX5_parses_107 : decode cX5_parses 107 = .ok (.iadd, 1) := by decide +kernel
theorem dX5_parses_108 : decode cX5_parses 108 = .ok (.istore 6, 2) := by decide +kernel
theorem dX5_parses_110 : decode cX5_parses 110 = .ok (.iload 6, 2) := by decide +kernel
theorem dX5_parses_112 : decode cX5_parses 112 = .ok (.iload_n 3, 1) := by decide +kernel
theorem dX5_parses_113 : decode cX5_parses 113 = .ok (.if_icmp .ge 93, 3) := by decide +kernel
theorem dX5_parses_116 : decode cX5_parses 116 = .ok (.aload_n 0, 1) := by decide +kernel
theorem dX5_parses_117 : decode cX5_parses 117 = .ok (.getfield 34, 3) := by decide +kernel
theorem dX5_parses_120 : decode cX5_parses 120 = .ok (.iload_n 2, 1) := by decide +kernel
theorem dX5_parses_121 : decode cX5_parses 121 = .ok (.iload 6, 2) := by decide +kernel
theorem dX5_parses_123 : decode cX5_parses 123 = .ok (.invokestatic 82, 3) := by decide +kernel
theorem dX5_parses_126 : decode cX5_parses 126 = .ok (.aload_n 0, 1) := by decide +kernel
theorem dX5_parses_127 : decode cX5_parses 127 = .ok (.getfield 19, 3) := by decide +kernel
theorem dX5_parses_130 : decode cX5_parses 130 = .ok (.iload 5, 2) := by decide +kernel
theorem dX5_parses_132 : decode cX5_parses 132 = .ok (.iaload, 1) := by decide +kernel
theorem dX5_parses_133 : decode cX5_parses 133 = .ok (.iadd, 1) := by decide +kernel
theorem dX5_parses_134 : decode cX5_parses 134 = .ok (.iaload, 1) := by decide +kernel
theorem dX5_parses_135 : decode cX5_parses 135 = .ok (.istore 7, 2) := by decide +kernel
theorem dX5_parses_137 : decode cX5_parses 137 = .ok (.aload_n 0, 1) := by decide +kernel
theorem dX5_parses_138 : decode cX5_parses 138 = .ok (.getfield 34, 3) := by decide +kernel
theorem dX5_parses_141 : decode cX5_parses 141 = .ok (.iload 6, 2) := by decide +kernel
theorem dX5_parses_143 : decode cX5_parses 143 = .ok (.iload_n 3, 1) := by decide +kernel
theorem dX5_parses_144 : decode cX5_parses 144 = .ok (.invokestatic 82, 3) := by decide +kernel
theorem dX5_parses_147 : decode cX5_parses 147 = .ok (.aload_n 0, 1) := by decide +kernel
theorem dX5_parses_148 : decode cX5_parses 148 = .ok (.getfield 22, 3) := by decide +kernel
theorem dX5_parses_151 : decode cX5_parses 151 = .ok (.iload 5, 2) := by decide +kernel
theorem dX5_parses_153 : decode cX5_parses 153 = .ok (.iaload, 1) := by decide +kernel
theorem dX5_parses_154 : decode cX5_parses 154 = .ok (.iadd, 1) := by decide +kernel
theorem dX5_parses_155 : decode cX5_parses 155 = .ok (.iaload, 1) := by decide +kernel
theorem dX5_parses_156 : decode cX5_parses 156 = .ok (.istore 8, 2) := by decide +kernel
theorem dX5_parses_158 : decode cX5_parses 158 = .ok (.aload_n 0, 1) := by decide +kernel
theorem dX5_parses_159 : decode cX5_parses 159 = .ok (.getfield 34, 3) := by decide +kernel
theorem dX5_parses_162 : decode cX5_parses 162 = .ok (.iload 4, 2) := by decide +kernel
theorem dX5_parses_164 : decode cX5_parses 164 = .ok (.aload_n 0, 1) := by decide +kernel
theorem dX5_parses_165 : decode cX5_parses 165 = .ok (.getfield 16, 3) := by decide +kernel
theorem dX5_parses_168 : decode cX5_parses 168 = .ok (.iload 5, 2) := by decide +kernel
theorem dX5_parses_170 : decode cX5_parses 170 = .ok (.iaload, 1) := by decide +kernel
theorem dX5_parses_171 : decode cX5_parses 171 = .ok (.iadd, 1) := by decide +kernel
theorem dX5_parses_172 : decode cX5_parses 172 = .ok (.dup2, 1) := by decide +kernel
theorem dX5_parses_173 : decode cX5_parses 173 = .ok (.iaload, 1) := by decide +kernel
theorem dX5_parses_174 : decode cX5_parses 174 = .ok (.iload 7, 2) := by decide +kernel
theorem dX5_parses_176 : decode cX5_parses 176 = .ok (.ifCond .eq 8, 3) := by decide +kernel
theorem dX5_parses_179 : decode cX5_parses 179 = .ok (.iload 8, 2) := by decide +kernel
theorem dX5_parses_181 : decode cX5_parses 181 = .ok (.ifCond .ne 7, 3) := by decide +kernel
theorem dX5_parses_184 : decode cX5_parses 184 = .ok (.iconst 0, 1) := by decide +kernel
theorem dX5_parses_185 : decode cX5_parses 185 = .ok (.goto 13, 3) := by decide +kernel
theorem dX5_parses_188 : decode cX5_parses 188 = .ok (.aload_n 0, 1) := by decide +kernel
theorem dX5_parses_189 : decode cX5_parses 189 = .ok (.iload 5, 2) := by decide +kernel
theorem dX5_parses_191 : decode cX5_parses 191 = .ok (.iload 7, 2) := by decide +kernel
theorem dX5_parses_193 : decode cX5_parses 193 = .ok (.iload 8, 2) := by decide +kernel
theorem dX5_parses_195 : decode cX5_parses 195 = .ok (.invokevirtual 86, 3) := by decide +kernel
theorem dX5_parses_198 : decode cX5_parses 198 = .ok (.ior, 1) := by decide +kernel
theorem dX5_parses_199 : decode cX5_parses 199 = .ok (.iastore, 1) := by decide +kernel
theorem dX5_parses_200 : decode cX5_parses 200 = .ok (.iinc 6 1, 3) := by decide +kernel
theorem dX5_parses_203 : decode cX5_parses 203 = .ok (.goto (-93), 3) := by decide +kernel
theorem dX5_parses_206 : decode cX5_parses 206 = .ok (.iinc 5 1, 3) := by decide +kernel
theorem dX5_parses_209 : decode cX5_parses 209 = .ok (.goto (-110), 3) := by decide +kernel
theorem dX5_parses_212 : decode cX5_parses 212 = .ok (.iinc 3 1, 3) := by decide +kernel
theorem dX5_parses_215 : decode cX5_parses 215 = .ok (.goto (-200), 3) := by decide +kernel
theorem dX5_parses_218 : decode cX5_parses 218 = .ok (.iinc 2 (-1), 3) := by decide +kernel
theorem dX5_parses_221 : decode cX5_parses 221 = .ok (.goto (-214), 3) := by decide +kernel
theorem dX5_parses_224 : decode cX5_parses 224 = .ok (.return_, 1) := by decide +kernel
set_option maxRecDepth 20000 in
theorem ggX5_together_X5_makesBoth : GoodIn wsX5_together wsX5_makesBoth := goodIn_r _ [5, 6, 7, 8, 4, 9, 10, 11, 12, 13, 14, 15, 16, 17, 18, 19, 20, 21, 22, 23, 24] (by decide +kernel) (by decide +kernel)
set_option maxRecDepth 20000 in
theorem gX5_together_X5_makesBoth : GoodIn wsX5_together (wsV RX5 89 RX5 yX5_makesBoth wsX5_makesBoth) := goodIn_app (goodIn_of _ (by decide +kernel)) ggX5_together_X5_makesBoth
theorem dX5_together_0 : decode cX5_together 0 = .ok (.iconst 0, 1) := by decide +kernel
theorem dX5_together_1 : decode cX5_together 1 = .ok (.istore 4, 2) := by decide +kernel
theorem dX5_together_3 : decode cX5_together 3 = .ok (.iconst 0, 1) := by decide +kernel
theorem dX5_together_4 : decode cX5_together 4 = .ok (.istore 5, 2) := by decide +kernel
theorem dX5_together_6 : decode cX5_together 6 = .ok (.iload 5, 2) := by decide +kernel
theorem dX5_together_8 : decode cX5_together 8 = .ok (.bipush 16, 2) := by decide +kernel
theorem dX5_together_10 : decode cX5_together 10 = .ok (.if_icmp .ge 78, 3) := by decide +kernel
theorem dX5_together_13 : decode cX5_together 13 = .ok (.iconst 0, 1) := by decide +kernel
theorem dX5_together_14 : decode cX5_together 14 = .ok (.istore 6, 2) := by decide +kernel
theorem dX5_together_16 : decode cX5_together 16 = .ok (.iload 6, 2) := by decide +kernel
theorem dX5_together_18 : decode cX5_together 18 = .ok (.bipush 16, 2) := by decide +kernel
theorem dX5_together_20 : decode cX5_together 20 = .ok (.if_icmp .ge 62, 3) := by decide +kernel
theorem dX5_together_23 : decode cX5_together 23 = .ok (.iload_n 2, 1) := by decide +kernel
theorem dX5_together_24 : decode cX5_together 24 = .ok (.iload 5, 2) := by decide +kernel
theorem dX5_together_26 : decode cX5_together 26 = .ok (.ishr, 1) := by decide +kernel
theorem dX5_together_27 : decode cX5_together 27 = .ok (.iconst 1, 1) := by decide +kernel
theorem dX5_together_28 : decode cX5_together 28 = .ok (.iand, 1) := by decide +kernel
theorem dX5_together_29 : decode cX5_together 29 = .ok (.iconst 1, 1) := by decide +kernel
theorem dX5_together_30 : decode cX5_together 30 = .ok (.if_icmp .ne 52, 3) := by decide +kernel
theorem dX5_together_33 : decode cX5_together 33 = .ok (.iload_n 3, 1) := by decide +kernel
theorem dX5_together_34 : decode cX5_together 34 = .ok (.iload 6, 2) := by decide +kernel
theorem dX5_together_36 : decode cX5_together 36 = .ok (.ishr, 1) := by decide +kernel
theorem dX5_together_37 : decode cX5_together 37 = .ok (.iconst 1, 1) := by decide +kernel
theorem dX5_together_38 : decode cX5_together 38 = .ok (.iand, 1) := by decide +kernel
theorem dX5_together_39 : decode cX5_together 39 = .ok (.iconst 1, 1) := by decide +kernel
theorem dX5_together_40 : decode cX5_together 40 = .ok (.if_icmp .ne 15, 3) := by decide +kernel
theorem dX5_together_43 : decode cX5_together 43 = .ok (.aload_n 0, 1) := by decide +kernel
theorem dX5_together_44 : decode cX5_together 44 = .ok (.iload_n 1, 1) := by decide +kernel
theorem dX5_together_45 : decode cX5_together 45 = .ok (.iload 5, 2) := by decide +kernel
theorem dX5_together_47 : decode cX5_together 47 = .ok (.iload 6, 2) := by decide +kernel
theorem dX5_together_49 : decode cX5_together 49 = .ok (.invokevirtual 89, 3) := by decide +kernel
theorem dX5_together_52 : decode cX5_together 52 = .ok (.goto 4, 3) := by decide +kernel
theorem dX5_together_55 : decode cX5_together 55 = .ok (.iconst (-1), 1) := by decide +kernel
theorem dX5_together_56 : decode cX5_together 56 = .ok (.istore 7, 2) := by decide +kernel
theorem dX5_together_58 : decode cX5_together 58 = .ok (.iload 4, 2) := by decide +kernel
theorem dX5_together_60 : decode cX5_together 60 = .ok (.iload 7, 2) := by decide +kernel
theorem dX5_together_62 : decode cX5_together 62 = .ok (.ifCond .ge 7, 3) := by decide +kernel
theorem dX5_together_65 : decode cX5_together 65 = .ok (.iconst 0, 1) := by decide +kernel
theorem dX5_together_66 : decode cX5_together 66 = .ok (.goto 7, 3) := by decide +kernel
theorem dX5_together_69 : decode cX5_together 69 = .ok (.iconst 1, 1) := by decide +kernel
theorem dX5_together_70 : decode cX5_together 70 = .ok (.iload 7, 2) := by decide +kernel
theorem dX5_together_72 : decode cX5_together 72 = .ok (.ishl, 1) := by decide +kernel
theorem dX5_together_73 : decode cX5_together 73 = .ok (.ior, 1) := by decide +kernel
theorem dX5_together_74 : decode cX5_together 74 = .ok (.istore 4, 2) := by decide +kernel
theorem dX5_together_76 : decode cX5_together 76 = .ok (.iinc 6 1, 3) := by decide +kernel
theorem dX5_together_79 : decode cX5_together 79 = .ok (.goto (-63), 3) := by decide +kernel
theorem dX5_together_82 : decode cX5_together 82 = .ok (.iinc 5 1, 3) := by decide +kernel
theorem dX5_together_85 : decode cX5_together 85 = .ok (.goto (-79), 3) := by decide +kernel
theorem dX5_together_88 : decode cX5_together 88 = .ok (.iload 4, 2) := by decide +kernel
theorem dX5_together_90 : decode cX5_together 90 = .ok (.ireturn, 1) := by decide +kernel
set_option maxRecDepth 20000 in
theorem ggX5_isSentence_X5_parses : GoodIn wsX5_isSentence wsX5_parses := goodIn_r _ [8, 2, 3, 9, 10, 11, 12, 13, 14, 15, 16, 7, 17, 18, 19, 20, 21, 22, 23, 24, 25, 26, 27, 28, 29, 30, 31, 32, 33, 34, 35, 36, 37, 38, 39, 40, 41, 42, 43, 44] (by decide +kernel) (by decide +kernel)
set_option maxRecDepth 20000 in
theorem gX5_isSentence_X5_parses : GoodIn wsX5_isSentence (wsV RX5 92 RX5 yX5_parses wsX5_parses) := goodIn_app (goodIn_of _ (by decide +kernel)) ggX5_isSentence_X5_parses
set_option maxRecDepth 20000 in
theorem ggX5_isSentence_X5_span : GoodIn wsX5_isSentence wsX5_span := goodIn_r _ [17] (by decide +kernel) (by decide +kernel)
set_option maxRecDepth 20000 in
theorem gX5_isSentence_X5_span : GoodIn wsX5_isSentence (va_wsS RX5 82 yX5_span wsX5_span) := goodIn_app (goodIn_of _ (by decide +kernel)) ggX5_isSentence_X5_span
theorem dX5_isSentence_0 : decode cX5_isSentence 0 = .ok (.aload_n 0, 1) := by decide +kernel
theorem dX5_isSentence_1 : decode cX5_isSentence 1 = .ok (.aload_n 0, 1) := by decide +kernel
theorem dX5_isSentence_2 : decode cX5_isSentence 2 = .ok (.getfield 66, 3) := by decide +kernel
theorem dX5_isSentence_5 : decode cX5_isSentence 5 = .ok (.invokevirtual 92, 3) := by decide +kernel
theorem dX5_isSentence_8 : decode cX5_isSentence 8 = .ok (.aload_n 0, 1) := by decide +kernel
theorem dX5_isSentence_9 : decode cX5_isSentence 9 = .ok (.getfield 75, 3) := by decide +kernel
theorem dX5_isSentence_12 : decode cX5_isSentence 12 = .ok (.ifCond .le 23, 3) := by decide +kernel
theorem dX5_isSentence_15 : decode cX5_isSentence 15 = .ok (.aload_n 0, 1) := by decide +kernel
theorem dX5_isSentence_16 : decode cX5_isSentence 16 = .ok (.getfield 34, 3) := by decide +kernel
theorem dX5_isSentence_19 : decode cX5_isSentence 19 = .ok (.iconst 0, 1) := by decide +kernel
theorem dX5_isSentence_20 : decode cX5_isSentence 20 = .ok (.aload_n 0, 1) := by decide +kernel
theorem dX5_isSentence_21 : decode cX5_isSentence 21 = .ok (.getfield 75, 3) := by decide +kernel
theorem dX5_isSentence_24 : decode cX5_isSentence 24 = .ok (.invokestatic 82, 3) := by decide +kernel
theorem dX5_isSentence_27 : decode cX5_isSentence 27 = .ok (.iaload, 1) := by decide +kernel
theorem dX5_isSentence_28 : decode cX5_isSentence 28 = .ok (.ifCond .eq 7, 3) := by decide +kernel
theorem dX5_isSentence_31 : decode cX5_isSentence 31 = .ok (.iconst 1, 1) := by decide +kernel
theorem dX5_isSentence_32 : decode cX5_isSentence 32 = .ok (.goto 4, 3) := by decide +kernel
theorem dX5_isSentence_35 : decode cX5_isSentence 35 = .ok (.iconst 0, 1) := by decide +kernel
theorem dX5_isSentence_36 : decode cX5_isSentence 36 = .ok (.ireturn, 1) := by decide +kernel
set_option maxRecDepth 20000 in
theorem ggX5_counts_X5_span : GoodIn wsX5_counts wsX5_span := goodIn_r _ [13] (by decide +kernel) (by decide +kernel)
set_option maxRecDepth 20000 in
theorem gX5_counts_X5_span : GoodIn wsX5_counts (va_wsS RX5 82 yX5_span wsX5_span) := goodIn_app (goodIn_of _ (by decide +kernel)) ggX5_counts_X5_span
set_option maxRecDepth 20000 in
theorem ggX5_counts_X5_adds : GoodIn wsX5_counts wsX5_adds := goodIn_r _ [17, 2, 18, 19, 20, 12, 21, 22, 23, 24, 25, 26, 27, 28, 29, 30, 31, 32, 33, 34, 35, 36, 37, 38, 39, 40] (by decide +kernel) (by decide +kernel)
set_option maxRecDepth 20000 in
theorem gX5_counts_X5_adds : GoodIn wsX5_counts (wsV RX5 96 RX5 yX5_adds wsX5_adds) := goodIn_app (goodIn_of _ (by decide +kernel)) ggX5_counts_X5_adds
theorem dX5_counts_0 : decode cX5_counts 0 = .ok (.aload_n 0, 1) := by decide +kernel
theorem dX5_counts_1 : decode cX5_counts 1 = .ok (.getfield 75, 3) := by decide +kernel
theorem dX5_counts_4 : decode cX5_counts 4 = .ok (.iconst 1, 1) := by decide +kernel
theorem dX5_counts_5 : decode cX5_counts 5 = .ok (.isub, 1) := by decide +kernel
theorem dX5_counts_6 : decode cX5_counts 6 = .ok (.istore_n 1, 1) := by decide +kernel
theorem dX5_counts_7 : decode cX5_counts 7 = .ok (.iload_n 1, 1) := by decide +kernel
theorem dX5_counts_8 : decode cX5_counts 8 = .ok (.ifCond .lt 191, 3) := by decide +kernel
theorem dX5_counts_11 : decode cX5_counts 11 = .ok (.iload_n 1, 1) := by decide +kernel
theorem dX5_counts_12 : decode cX5_counts 12 = .ok (.iconst 1, 1) := by decide +kernel
theorem dX5_counts_13 : decode cX5_counts 13 = .ok (.iadd, 1) := by decide +kernel
theorem dX5_counts_14 : decode cX5_counts 14 = .ok (.istore_n 2, 1) := by decide +kernel
theorem dX5_counts_15 : decode cX5_counts 15 = .ok (.iload_n 2, 1) := by decide +kernel
theorem dX5_counts_16 : decode cX5_counts 16 = .ok (.aload_n 0, 1) := by decide +kernel
theorem dX5_counts_17 : decode cX5_counts 17 = .ok (.getfield 75, 3) := by decide +kernel
theorem dX5_counts_20 : decode cX5_counts 20 = .ok (.if_icmp .gt 173, 3) := by decide +kernel
theorem dX5_counts_23 : decode cX5_counts 23 = .ok (.bipush 16, 2) := by decide +kernel
theorem dX5_counts_25 : decode cX5_counts 25 = .ok (.iload_n 1, 1) := by decide +kernel
theorem dX5_counts_26 : decode cX5_counts 26 = .ok (.iload_n 2, 1) := by decide +kernel
theorem dX5_counts_27 : decode cX5_counts 27 = .ok (.invokestatic 82, 3) := by decide +kernel
theorem dX5_counts_30 : decode cX5_counts 30 = .ok (.imul, 1) := by decide +kernel
theorem dX5_counts_31 : decode cX5_counts 31 = .ok (.istore_n 3, 1) := by decide +kernel
theorem dX5_counts_32 : decode cX5_counts 32 = .ok (.iconst 0, 1) := by decide +kernel
theorem dX5_counts_33 : decode cX5_counts 33 = .ok (.istore 4, 2) := by decide +kernel
theorem dX5_counts_35 : decode cX5_counts 35 = .ok (.iload 4, 2) := by decide +kernel
theorem dX5_counts_37 : decode cX5_counts 37 = .ok (.sipush 128, 3) := by decide +kernel
theorem dX5_counts_40 : decode cX5_counts 40 = .ok (.if_icmp .ge 19, 3) := by decide +kernel
theorem dX5_counts_43 : decode cX5_counts 43 = .ok (.aload_n 0, 1) := by decide +kernel
theorem dX5_counts_44 : decode cX5_counts 44 = .ok (.getfield 37, 3) := by decide +kernel
theorem dX5_counts_47 : decode cX5_counts 47 = .ok (.iload_n 3, 1) := by decide +kernel
theorem dX5_counts_48 : decode cX5_counts 48 = .ok (.iload 4, 2) := by decide +kernel
theorem dX5_counts_50 : decode cX5_counts 50 = .ok (.iadd, 1) := by decide +kernel
theorem dX5_counts_51 : decode cX5_counts 51 = .ok (.lconst 0, 1) := by decide +kernel
theorem dX5_counts_52 : decode cX5_counts 52 = .ok (.lastore, 1) := by decide +kernel
theorem dX5_counts_53 : decode cX5_counts 53 = .ok (.iinc 4 1, 3) := by decide +kernel
theorem dX5_counts_56 : decode cX5_counts 56 = .ok (.goto (-21), 3) := by decide +kernel
theorem dX5_counts_59 : decode cX5_counts 59 = .ok (.iload_n 2, 1) := by decide +kernel
theorem dX5_counts_60 : decode cX5_counts 60 = .ok (.iload_n 1, 1) := by decide +kernel
theorem dX5_counts_61 : decode cX5_counts 61 = .ok (.iconst 1, 1) := by decide +kernel
theorem dX5_counts_62 : decode cX5_counts 62 = .ok (.iadd, 1) := by decide +kernel
theorem dX5_counts_63 : decode cX5_counts 63 = .ok (.if_icmp .ne 37, 3) := by decide +kernel
theorem dX5_counts_66 : decode cX5_counts 66 = .ok (.aload_n 0, 1) := by decide +kernel
theorem dX5_counts_67 : decode cX5_counts 67 = .ok (.getfield 37, 3) := by decide +kernel
theorem dX5_counts_70 : decode cX5_counts 70 = .ok (.iload_n 3, 1) := by decide +kernel
theorem dX5_counts_71 : decode cX5_counts 71 = .ok (.bipush 16, 2) := by decide +kernel
theorem dX5_counts_73 : decode cX5_counts 73 = .ok (.aload_n 0, 1) := by decide +kernel
theorem dX5_counts_74 : decode cX5_counts 74 = .ok (.getfield 7, 3) := by decide +kernel
theorem dX5_counts_77 : decode cX5_counts 77 = .ok (.aload_n 0, 1) := by decide +kernel
theorem dX5_counts_78 : decode cX5_counts 78 = .ok (.getfield 31, 3) := by decide +kernel
theorem dX5_counts_81 : decode cX5_counts 81 = .ok (.iload_n 1, 1) := by decide +kernel
theorem dX5_counts_82 : decode cX5_counts 82 = .ok (.iaload, 1) := by decide +kernel
theorem dX5_counts_83 : decode cX5_counts 83 = .ok (.iaload, 1) := by decide +kernel
theorem dX5_counts_84 : decode cX5_counts 84 = .ok (.imul, 1) := by decide +kernel
theorem dX5_counts_85 : decode cX5_counts 85 = .ok (.iadd, 1) := by decide +kernel
theorem dX5_counts_86 : decode cX5_counts 86 = .ok (.aload_n 0, 1) := by decide +kernel
theorem dX5_counts_87 : decode cX5_counts 87 = .ok (.getfield 13, 3) := by decide +kernel
theorem dX5_counts_90 : decode cX5_counts 90 = .ok (.aload_n 0, 1) := by decide +kernel
theorem dX5_counts_91 : decode cX5_counts 91 = .ok (.getfield 31, 3) := by decide +kernel
theorem dX5_counts_94 : decode cX5_counts 94 = .ok (.iload_n 1, 1) := by decide +kernel
theorem dX5_counts_95 : decode cX5_counts 95 = .ok (.iaload, 1) := by decide +kernel
theorem dX5_counts_96 : decode cX5_counts 96 = .ok (.iaload, 1) := by decide +kernel
theorem dX5_counts_97 : decode cX5_counts 97 = .ok (.iadd, 1) := by decide +kernel
theorem dX5_counts_98 : decode cX5_counts 98 = .ok (.lconst 1, 1) := by decide +kernel
theorem dX5_counts_99 : decode cX5_counts 99 = .ok (.lastore, 1) := by decide +kernel
theorem dX5_counts_100 : decode cX5_counts 100 = .ok (.iconst 0, 1) := by decide +kernel
theorem dX5_counts_101 : decode cX5_counts 101 = .ok (.istore 4, 2) := by decide +kernel
theorem dX5_counts_103 : decode cX5_counts 103 = .ok (.iload 4, 2) := by decide +kernel
theorem dX5_counts_105 : decode cX5_counts 105 = .ok (.aload_n 0, 1) := by decide +kernel
theorem dX5_counts_106 : decode cX5_counts 106 = .ok (.getfield 66, 3) := by decide +kernel
theorem dX5_counts_109 : decode cX5_counts 109 = .ok (.if_icmp .ge 78, 3) := by decide +kernel
theorem dX5_counts_112 : decode cX5_counts 112 = .ok (.iload_n 1, 1) := by decide +kernel
theorem dX5_counts_113 : decode cX5_counts 113 = .ok (.iconst 1, 1) := by decide +kernel
theorem dX5_counts_114 : decode cX5_counts 114 = .ok (.iadd, 1) := by decide +kernel
theorem dX5_counts_115 : decode cX5_counts 115 = .ok (.istore 5, 2) := by decide +kernel
theorem dX5_counts_117 : decode cX5_counts 117 = .ok (.iload 5, 2) := by decide +kernel
theorem dX5_counts_119 : decode cX5_counts 119 = .ok (.iload_n 2, 1) := by decide +kernel
theorem dX5_counts_120 : decode cX5_counts 120 = .ok (.if_icmp .ge 61, 3) := by decide +kernel
theorem dX5_counts_123 : decode cX5_counts 123 = .ok (.aload_n 0, 1) := by decide +kernel
theorem dX5_counts_124 : decode cX5_counts 124 = .ok (.iload 4, 2) := by decide +kernel
theorem dX5_counts_126 : decode cX5_counts 126 = .ok (.iload_n 3, 1) := by decide +kernel
theorem dX5_counts_127 : decode cX5_counts 127 = .ok (.bipush 16, 2) := by decide +kernel
theorem dX5_counts_129 : decode cX5_counts 129 = .ok (.aload_n 0, 1) := by decide +kernel
theorem dX5_counts_130 : decode cX5_counts 130 = .ok (.getfield 16, 3) := by decide +kernel
theorem dX5_counts_133 : decode cX5_counts 133 = .ok (.iload 4, 2) := by decide +kernel
theorem dX5_counts_135 : decode cX5_counts 135 = .ok (.iaload, 1) := by decide +kernel
theorem dX5_counts_136 : decode cX5_counts 136 = .ok (.imul, 1) := by decide +kernel
theorem dX5_counts_137 : decode cX5_counts 137 = .ok (.iadd, 1) := by decide +kernel
theorem dX5_counts_138 : decode cX5_counts 138 = .ok (.bipush 16, 2) := by decide +kernel
theorem dX5_counts_140 : decode cX5_counts 140 = .ok (.iload_n 1, 1) := by decide +kernel
theorem dX5_counts_141 : decode cX5_counts 141 = .ok (.iload 5, 2) := by decide +kernel
theorem dX5_counts_143 : decode cX5_counts 143 = .ok (.invokestatic 82, 3) := by decide +kernel
theorem dX5_counts_146 : decode cX5_counts 146 = .ok (.aload_n 0, 1) := by decide +kernel
theorem dX5_counts_147 : decode cX5_counts 147 = .ok (.getfield 19, 3) := by decide +kernel
theorem dX5_counts_150 : decode cX5_counts 150 = .ok (.iload 4, 2) := by decide +kernel
theorem dX5_counts_152 : decode cX5_counts 152 = .ok (.iaload, 1) := by decide +kernel
theorem dX5_counts_153 : decode cX5_counts 153 = .ok (.iadd, 1) := by decide +kernel
theorem dX5_counts_154 : decode cX5_counts 154 = .ok (.imul, 1) := by decide +kernel
theorem dX5_counts_155 : decode cX5_counts 155 = .ok (.bipush 16, 2) := by decide +kernel
theorem dX5_counts_157 : decode cX5_counts 157 = .ok (.iload 5, 2) := by decide +kernel
theorem dX5_counts_159 : decode cX5_counts 159 = .ok (.iload_n 2, 1) := by decide +kernel
theorem dX5_counts_160 : decode cX5_counts 160 = .ok (.invokestatic 82, 3) := by decide +kernel
theorem dX5_counts_163 : decode cX5_counts 163 = .ok (.aload_n 0, 1) := by decide +kernel
theorem dX5_counts_164 : decode cX5_counts 164 = .ok (.getfield 22, 3) := by decide +kernel
theorem dX5_counts_167 : decode cX5_counts 167 = .ok (.iload 4, 2) := by decide +kernel
theorem dX5_counts_169 : decode cX5_counts 169 = .ok (.iaload, 1) := by decide +kernel
theorem dX5_counts_170 : decode cX5_counts 170 = .ok (.iadd, 1) := by decide +kernel
theorem dX5_counts_171 : decode cX5_counts 171 = .ok (.imul, 1) := by decide +kernel
theorem dX5_counts_172 : decode cX5_counts 172 = .ok (.invokevirtual 96, 3) := by decide +kernel
theorem dX5_counts_175 : decode cX5_counts 175 = .ok (.iinc 5 1, 3) := by decide +kernel
theorem dX5_counts_178 : decode cX5_counts 178 = .ok (.goto (-61), 3) := by decide +kernel
theorem dX5_counts_181 : decode cX5_counts 181 = .ok (.iinc 4 1, 3) := by decide +kernel
theorem dX5_counts_184 : decode cX5_counts 184 = .ok (.goto (-81), 3) := by decide +kernel
theorem dX5_counts_187 : decode cX5_counts 187 = .ok (.iinc 2 1, 3) := by decide +kernel
theorem dX5_counts_190 : decode cX5_counts 190 = .ok (.goto (-175), 3) := by decide +kernel
theorem dX5_counts_193 : decode cX5_counts 193 = .ok (.iinc 1 (-1), 3) := by decide +kernel
theorem dX5_counts_196 : decode cX5_counts 196 = .ok (.goto (-189), 3) := by decide +kernel
theorem dX5_counts_199 : decode cX5_counts 199 = .ok (.return_, 1) := by decide +kernel
set_option maxRecDepth 20000 in
theorem ggX5_adds_X5_makesBoth : GoodIn wsX5_adds wsX5_makesBoth := goodIn_r _ [6, 7, 8, 9, 5, 10, 11, 12, 13, 14, 15, 16, 17, 18, 19, 20, 21, 22, 23, 24, 25] (by decide +kernel) (by decide +kernel)
set_option maxRecDepth 20000 in
theorem gX5_adds_X5_makesBoth : GoodIn wsX5_adds (wsV RX5 89 RX5 yX5_makesBoth wsX5_makesBoth) := goodIn_app (goodIn_of _ (by decide +kernel)) ggX5_adds_X5_makesBoth
theorem dX5_adds_0 : decode cX5_adds 0 = .ok (.iconst 0, 1) := by decide +kernel
theorem dX5_adds_1 : decode cX5_adds 1 = .ok (.istore 5, 2) := by decide +kernel
theorem dX5_adds_3 : decode cX5_adds 3 = .ok (.iload 5, 2) := by decide +kernel
theorem dX5_adds_5 : decode cX5_adds 5 = .ok (.bipush 16, 2) := by decide +kernel
theorem dX5_adds_7 : decode cX5_adds 7 = .ok (.if_icmp .ge 106, 3) := by decide +kernel
theorem dX5_adds_10 : decode cX5_adds 10 = .ok (.iconst 0, 1) := by decide +kernel
theorem dX5_adds_11 : decode cX5_adds 11 = .ok (.istore 6, 2) := by decide +kernel
theorem dX5_adds_13 : decode cX5_adds 13 = .ok (.iload 6, 2) := by decide +kernel
theorem dX5_adds_15 : decode cX5_adds 15 = .ok (.bipush 16, 2) := by decide +kernel
theorem dX5_adds_17 : decode cX5_adds 17 = .ok (.if_icmp .ge 90, 3) := by decide +kernel
theorem dX5_adds_20 : decode cX5_adds 20 = .ok (.aload_n 0, 1) := by decide +kernel
theorem dX5_adds_21 : decode cX5_adds 21 = .ok (.getfield 37, 3) := by decide +kernel
theorem dX5_adds_24 : decode cX5_adds 24 = .ok (.iload_n 3, 1) := by decide +kernel
theorem dX5_adds_25 : decode cX5_adds 25 = .ok (.iload 5, 2) := by decide +kernel
theorem dX5_adds_27 : decode cX5_adds 27 = .ok (.iadd, 1) := by decide +kernel
theorem dX5_adds_28 : decode cX5_adds 28 = .ok (.laload, 1) := by decide +kernel
theorem dX5_adds_29 : decode cX5_adds 29 = .ok (.lconst 0, 1) := by decide +kernel
theorem dX5_adds_30 : decode cX5_adds 30 = .ok (.lcmp, 1) := by decide +kernel
theorem dX5_adds_31 : decode cX5_adds 31 = .ok (.ifCond .le 76, 3) := by decide +kernel
theorem dX5_adds_34 : decode cX5_adds 34 = .ok (.aload_n 0, 1) := by decide +kernel
theorem dX5_adds_35 : decode cX5_adds 35 = .ok (.getfield 37, 3) := by decide +kernel
theorem dX5_adds_38 : decode cX5_adds 38 = .ok (.iload 4, 2) := by decide +kernel
theorem dX5_adds_40 : decode cX5_adds 40 = .ok (.iload 6, 2) := by decide +kernel
theorem dX5_adds_42 : decode cX5_adds 42 = .ok (.iadd, 1) := by decide +kernel
theorem dX5_adds_43 : decode cX5_adds 43 = .ok (.laload, 1) := by decide +kernel
theorem dX5_adds_44 : decode cX5_adds 44 = .ok (.lconst 0, 1) := by decide +kernel
theorem dX5_adds_45 : decode cX5_adds 45 = .ok (.lcmp, 1) := by decide +kernel
theorem dX5_adds_46 : decode cX5_adds 46 = .ok (.ifCond .le 15, 3) := by decide +kernel
theorem dX5_adds_49 : decode cX5_adds 49 = .ok (.aload_n 0, 1) := by decide +kernel
theorem dX5_adds_50 : decode cX5_adds 50 = .ok (.iload_n 1, 1) := by decide +kernel
theorem dX5_adds_51 : decode cX5_adds 51 = .ok (.iload 5, 2) := by decide +kernel
theorem dX5_adds_53 : decode cX5_adds 53 = .ok (.iload 6, 2) := by decide +kernel
theorem dX5_adds_55 : decode cX5_adds 55 = .ok (.invokevirtual 89, 3) := by decide +kernel
theorem dX5_adds_58 : decode cX5_adds 58 = .ok (.goto 4, 3) := by decide +kernel
theorem dX5_adds_61 : decode cX5_adds 61 = .ok (.iconst (-1), 1) := by decide +kernel
theorem dX5_adds_62 : decode cX5_adds 62 = .ok (.istore 7, 2) := by decide +kernel
theorem dX5_adds_64 : decode cX5_adds 64 = .ok (.iload 7, 2) := by decide +kernel
theorem dX5_adds_66 : decode cX5_adds 66 = .ok (.ifCond .lt 35, 3) := by decide +kernel
theorem dX5_adds_69 : decode cX5_adds 69 = .ok (.aload_n 0, 1) := by decide +kernel
theorem dX5_adds_70 : decode cX5_adds 70 = .ok (.getfield 37, 3) := by decide +kernel
theorem dX5_adds_73 : decode cX5_adds 73 = .ok (.iload_n 2, 1) := by decide +kernel
theorem dX5_adds_74 : decode cX5_adds 74 = .ok (.iload 7, 2) := by decide +kernel
theorem dX5_adds_76 : decode cX5_adds 76 = .ok (.iadd, 1) := by decide +kernel
theorem dX5_adds_77 : decode cX5_adds 77 = .ok (.dup2, 1) := by decide +kernel
theorem dX5_adds_78 : decode cX5_adds 78 = .ok (.laload, 1) := by decide +kernel
theorem dX5_adds_79 : decode cX5_adds 79 = .ok (.aload_n 0, 1) := by decide +kernel
theorem dX5_adds_80 : decode cX5_adds 80 = .ok (.getfield 37, 3) := by decide +kernel
theorem dX5_adds_83 : decode cX5_adds 83 = .ok (.iload_n 3, 1) := by decide +kernel
theorem dX5_adds_84 : decode cX5_adds 84 = .ok (.iload 5, 2) := by decide +kernel
theorem dX5_adds_86 : decode cX5_adds 86 = .ok (.iadd, 1) := by decide +kernel
theorem dX5_adds_87 : decode cX5_adds 87 = .ok (.laload, 1) := by decide +kernel
theorem dX5_adds_88 : decode cX5_adds 88 = .ok (.aload_n 0, 1) := by decide +kernel
theorem dX5_adds_89 : decode cX5_adds 89 = .ok (.getfield 37, 3) := by decide +kernel
theorem dX5_adds_92 : decode cX5_adds 92 = .ok (.iload 4, 2) := by decide +kernel
theorem dX5_adds_94 : decode cX5_adds 94 = .ok (.iload 6, 2) := by decide +kernel
theorem dX5_adds_96 : decode cX5_adds 96 = .ok (.iadd, 1) := by decide +kernel
theorem dX5_adds_97 : decode cX5_adds 97 = .ok (.laload, 1) := by decide +kernel
theorem dX5_adds_98 : decode cX5_adds 98 = .ok (.lmul, 1) := by decide +kernel
theorem dX5_adds_99 : decode cX5_adds 99 = .ok (.ladd, 1) := by decide +kernel
theorem dX5_adds_100 : decode cX5_adds 100 = .ok (.lastore, 1) := by decide +kernel
theorem dX5_adds_101 : decode cX5_adds 101 = .ok (.iinc 6 1, 3) := by decide +kernel
theorem dX5_adds_104 : decode cX5_adds 104 = .ok (.goto (-91), 3) := by decide +kernel
theorem dX5_adds_107 : decode cX5_adds 107 = .ok (.iinc 5 1, 3) := by decide +kernel
theorem dX5_adds_110 : decode cX5_adds 110 = .ok (.goto (-107), 3) := by decide +kernel
theorem dX5_adds_113 : decode cX5_adds 113 = .ok (.return_, 1) := by decide +kernel
set_option maxRecDepth 20000 in
theorem ggX5_countOf_X5_takes : GoodIn wsX5_countOf wsX5_takes := goodIn_r _ [8, 9, 10, 11, 12, 38, 39, 40, 41, 42, 43, 44, 45, 46, 47, 48, 49, 50, 51, 52] (by decide +kernel) (by decide +kernel)
set_option maxRecDepth 20000 in
theorem gX5_countOf_X5_takes : GoodIn wsX5_countOf (wsV RX5 100 RX5 yX5_takes wsX5_takes) := goodIn_app (goodIn_of _ (by decide +kernel)) ggX5_countOf_X5_takes
set_option maxRecDepth 20000 in
theorem ggX5_countOf_X5_counts : GoodIn wsX5_countOf wsX5_counts := goodIn_r _ [16, 10, 1, 17, 11, 18, 19, 20, 21, 22, 23, 24, 7, 25, 26, 27, 28, 29, 30, 31, 32, 33, 34, 35, 36, 37, 38, 39, 40, 41, 42, 43, 44, 45, 46, 47, 48, 49, 50, 51, 52] (by decide +kernel) (by decide +kernel)
set_option maxRecDepth 20000 in
theorem gX5_countOf_X5_counts : GoodIn wsX5_countOf (wsV RX5 103 RX5 yX5_counts wsX5_counts) := goodIn_app (goodIn_of _ (by decide +kernel)) ggX5_countOf_X5_counts
set_option maxRecDepth 20000 in
theorem ggX5_countOf_X5_span : GoodIn wsX5_countOf wsX5_span := goodIn_r _ [25] (by decide +kernel) (by decide +kernel)
set_option maxRecDepth 20000 in
theorem gX5_countOf_X5_span : GoodIn wsX5_countOf (va_wsS RX5 82 yX5_span wsX5_span) := goodIn_app (goodIn_of _ (by decide +kernel)) ggX5_countOf_X5_span
theorem dX5_countOf_0 : decode cX5_countOf 0 = .ok (.aload_n 0, 1) := by decide +kernel
theorem dX5_countOf_1 : decode cX5_countOf 1 = .ok (.invokevirtual 100, 3) := by decide +kernel
theorem dX5_countOf_4 : decode cX5_countOf 4 = .ok (.aload_n 0, 1) := by decide +kernel
theorem dX5_countOf_5 : decode cX5_countOf 5 = .ok (.invokevirtual 103, 3) := by decide +kernel
theorem dX5_countOf_8 : decode cX5_countOf 8 = .ok (.lconst 0, 1) := by decide +kernel
theorem dX5_countOf_9 : decode cX5_countOf 9 = .ok (.lstore 4, 2) := by decide +kernel
theorem dX5_countOf_11 : decode cX5_countOf 11 = .ok (.iconst 0, 1) := by decide +kernel
theorem dX5_countOf_12 : decode cX5_countOf 12 = .ok (.istore 6, 2) := by decide +kernel
theorem dX5_countOf_14 : decode cX5_countOf 14 = .ok (.iload 6, 2) := by decide +kernel
theorem dX5_countOf_16 : decode cX5_countOf 16 = .ok (.bipush 16, 2) := by decide +kernel
theorem dX5_countOf_18 : decode cX5_countOf 18 = .ok (.if_icmp .ge 32, 3) := by decide +kernel
theorem dX5_countOf_21 : decode cX5_countOf 21 = .ok (.lload 4, 2) := by decide +kernel
theorem dX5_countOf_23 : decode cX5_countOf 23 = .ok (.aload_n 0, 1) := by decide +kernel
theorem dX5_countOf_24 : decode cX5_countOf 24 = .ok (.getfield 37, 3) := by decide +kernel
theorem dX5_countOf_27 : decode cX5_countOf 27 = .ok (.bipush 16, 2) := by decide +kernel
theorem dX5_countOf_29 : decode cX5_countOf 29 = .ok (.iload_n 1, 1) := by decide +kernel
theorem dX5_countOf_30 : decode cX5_countOf 30 = .ok (.iload_n 2, 1) := by decide +kernel
theorem dX5_countOf_31 : decode cX5_countOf 31 = .ok (.invokestatic 82, 3) := by decide +kernel
theorem dX5_countOf_34 : decode cX5_countOf 34 = .ok (.iload_n 3, 1) := by decide +kernel
theorem dX5_countOf_35 : decode cX5_countOf 35 = .ok (.iadd, 1) := by decide +kernel
theorem dX5_countOf_36 : decode cX5_countOf 36 = .ok (.imul, 1) := by decide +kernel
theorem dX5_countOf_37 : decode cX5_countOf 37 = .ok (.iload 6, 2) := by decide +kernel
theorem dX5_countOf_39 : decode cX5_countOf 39 = .ok (.iadd, 1) := by decide +kernel
theorem dX5_countOf_40 : decode cX5_countOf 40 = .ok (.laload, 1) := by decide +kernel
theorem dX5_countOf_41 : decode cX5_countOf 41 = .ok (.ladd, 1) := by decide +kernel
theorem dX5_countOf_42 : decode cX5_countOf 42 = .ok (.lstore 4, 2) := by decide +kernel
theorem dX5_countOf_44 : decode cX5_countOf 44 = .ok (.iinc 6 1, 3) := by decide +kernel
theorem dX5_countOf_47 : decode cX5_countOf 47 = .ok (.goto (-33), 3) := by decide +kernel
theorem dX5_countOf_50 : decode cX5_countOf 50 = .ok (.lload 4, 2) := by decide +kernel
theorem dX5_countOf_52 : decode cX5_countOf 52 = .ok (.ldc2_w 106, 3) := by decide +kernel
theorem dX5_countOf_55 : decode cX5_countOf 55 = .ok (.lcmp, 1) := by decide +kernel
theorem dX5_countOf_56 : decode cX5_countOf 56 = .ok (.ifCond .le 8, 3) := by decide +kernel
theorem dX5_countOf_59 : decode cX5_countOf 59 = .ok (.ldc 108, 2) := by decide +kernel
theorem dX5_countOf_61 : decode cX5_countOf 61 = .ok (.goto 6, 3) := by decide +kernel
theorem dX5_countOf_64 : decode cX5_countOf 64 = .ok (.lload 4, 2) := by decide +kernel
theorem dX5_countOf_66 : decode cX5_countOf 66 = .ok (.l2i, 1) := by decide +kernel
theorem dX5_countOf_67 : decode cX5_countOf 67 = .ok (.ireturn, 1) := by decide +kernel
set_option maxRecDepth 20000 in
theorem ggX5_readings_X5_countOf : GoodIn wsX5_readings wsX5_countOf := goodIn_r _ [7, 8, 9, 10, 11, 12, 13, 6, 14, 2, 15, 16, 17, 18, 19, 20, 21, 22, 23, 24, 25, 26, 27, 28, 29, 30, 31, 32, 33, 34, 35, 36, 37, 38, 39, 40, 41, 42, 43, 44, 45, 46, 47, 48, 49, 50, 51, 52, 53, 54, 55, 56, 57] (by decide +kernel) (by decide +kernel)
set_option maxRecDepth 20000 in
theorem gX5_readings_X5_countOf : GoodIn wsX5_readings (wsV RX5 109 RX5 yX5_countOf wsX5_countOf) := goodIn_app (goodIn_of _ (by decide +kernel)) ggX5_readings_X5_countOf
theorem dX5_readings_0 : decode cX5_readings 0 = .ok (.aload_n 0, 1) := by decide +kernel
theorem dX5_readings_1 : decode cX5_readings 1 = .ok (.iconst 0, 1) := by decide +kernel
theorem dX5_readings_2 : decode cX5_readings 2 = .ok (.putfield 41, 3) := by decide +kernel
theorem dX5_readings_5 : decode cX5_readings 5 = .ok (.aload_n 0, 1) := by decide +kernel
theorem dX5_readings_6 : decode cX5_readings 6 = .ok (.getfield 69, 3) := by decide +kernel
theorem dX5_readings_9 : decode cX5_readings 9 = .ok (.ifCond .ne 7, 3) := by decide +kernel
theorem dX5_readings_12 : decode cX5_readings 12 = .ok (.iconst 0, 1) := by decide +kernel
theorem dX5_readings_13 : decode cX5_readings 13 = .ok (.goto 13, 3) := by decide +kernel
theorem dX5_readings_16 : decode cX5_readings 16 = .ok (.aload_n 0, 1) := by decide +kernel
theorem dX5_readings_17 : decode cX5_readings 17 = .ok (.iconst 0, 1) := by decide +kernel
theorem dX5_readings_18 : decode cX5_readings 18 = .ok (.aload_n 0, 1) := by decide +kernel
theorem dX5_readings_19 : decode cX5_readings 19 = .ok (.getfield 69, 3) := by decide +kernel
theorem dX5_readings_22 : decode cX5_readings 22 = .ok (.iconst 0, 1) := by decide +kernel
theorem dX5_readings_23 : decode cX5_readings 23 = .ok (.invokevirtual 109, 3) := by decide +kernel
theorem dX5_readings_26 : decode cX5_readings 26 = .ok (.ireturn, 1) := by decide +kernel
set_option maxRecDepth 20000 in
theorem ggX5_readingsPlainly_X5_readings : GoodIn wsX5_readingsPlainly wsX5_readings := goodIn_r _ [5, 6, 7, 8, 9, 10, 4, 11, 12, 13, 14, 15, 16, 17, 18, 19, 20, 21, 22, 23, 24, 25, 26, 27, 28, 29, 30, 31, 32, 33, 34, 35, 36, 37, 38, 39, 40, 41, 42, 43, 44, 45, 46, 47, 48, 49, 50, 51, 52, 53, 54, 55, 56, 57, 58, 59, 60, 61] (by decide +kernel) (by decide +kernel)
set_option maxRecDepth 20000 in
theorem gX5_readingsPlainly_X5_readings : GoodIn wsX5_readingsPlainly (wsV RX5 112 RX5 yX5_readings wsX5_readings) := goodIn_app (goodIn_of _ (by decide +kernel)) ggX5_readingsPlainly_X5_readings
theorem dX5_readingsPlainly_0 : decode cX5_readingsPlainly 0 = .ok (.aload_n 0, 1) := by decide +kernel
theorem dX5_readingsPlainly_1 : decode cX5_readingsPlainly 1 = .ok (.invokevirtual 112, 3) := by decide +kernel
theorem dX5_readingsPlainly_4 : decode cX5_readingsPlainly 4 = .ok (.ireturn, 1) := by decide +kernel
set_option maxRecDepth 20000 in
theorem ggX5_isPart_X5_isWithin : GoodIn wsX5_isPart wsX5_isWithin := goodIn_r _ [5] (by decide +kernel) (by decide +kernel)
set_option maxRecDepth 20000 in
theorem gX5_isPart_X5_isWithin : GoodIn wsX5_isPart (va_wsS RX5 48 yX5_isWithin wsX5_isWithin) := goodIn_app (goodIn_of _ (by decide +kernel)) ggX5_isPart_X5_isWithin
theorem dX5_isPart_0 : decode cX5_isPart 0 = .ok (.iload_n 1, 1) := by decide +kernel
theorem dX5_isPart_1 : decode cX5_isPart 1 = .ok (.ifCond .lt 30, 3) := by decide +kernel
theorem dX5_isPart_4 : decode cX5_isPart 4 = .ok (.iload_n 2, 1) := by decide +kernel
theorem dX5_isPart_5 : decode cX5_isPart 5 = .ok (.iload_n 1, 1) := by decide +kernel
theorem dX5_isPart_6 : decode cX5_isPart 6 = .ok (.if_icmp .le 25, 3) := by decide +kernel
theorem dX5_isPart_9 : decode cX5_isPart 9 = .ok (.iload_n 2, 1) := by decide +kernel
theorem dX5_isPart_10 : decode cX5_isPart 10 = .ok (.aload_n 0, 1) := by decide +kernel
theorem dX5_isPart_11 : decode cX5_isPart 11 = .ok (.getfield 69, 3) := by decide +kernel
theorem dX5_isPart_14 : decode cX5_isPart 14 = .ok (.if_icmp .gt 17, 3) := by decide +kernel
theorem dX5_isPart_17 : decode cX5_isPart 17 = .ok (.iload_n 3, 1) := by decide +kernel
theorem dX5_isPart_18 : decode cX5_isPart 18 = .ok (.iconst 0, 1) := by decide +kernel
theorem dX5_isPart_19 : decode cX5_isPart 19 = .ok (.bipush 7, 2) := by decide +kernel
theorem dX5_isPart_21 : decode cX5_isPart 21 = .ok (.invokestatic 48, 3) := by decide +kernel
theorem dX5_isPart_24 : decode cX5_isPart 24 = .ok (.ifCond .eq 7, 3) := by decide +kernel
theorem dX5_isPart_27 : decode cX5_isPart 27 = .ok (.iconst 1, 1) := by decide +kernel
theorem dX5_isPart_28 : decode cX5_isPart 28 = .ok (.goto 4, 3) := by decide +kernel
theorem dX5_isPart_31 : decode cX5_isPart 31 = .ok (.iconst 0, 1) := by decide +kernel
theorem dX5_isPart_32 : decode cX5_isPart 32 = .ok (.ireturn, 1) := by decide +kernel
set_option maxRecDepth 20000 in
theorem ggX5_readingsOf_X5_isPart : GoodIn wsX5_readingsOf wsX5_isPart := goodIn_r _ [5, 6, 7, 8, 4, 9, 54, 55, 56, 57, 58, 59, 60, 61, 62, 63, 64, 65, 66, 67, 68] (by decide +kernel) (by decide +kernel)
set_option maxRecDepth 20000 in
theorem gX5_readingsOf_X5_isPart : GoodIn wsX5_readingsOf (wsV RX5 116 RX5 yX5_isPart wsX5_isPart) := goodIn_app (goodIn_of _ (by decide +kernel)) ggX5_readingsOf_X5_isPart
set_option maxRecDepth 20000 in
theorem ggX5_readingsOf_X5_goes : GoodIn wsX5_readingsOf wsX5_goes := goodIn_r _ [13, 14, 54, 55, 56, 57, 58, 59, 60, 61, 62, 63, 64, 65, 66, 67, 68] (by decide +kernel) (by decide +kernel)
set_option maxRecDepth 20000 in
theorem gX5_readingsOf_X5_goes : GoodIn wsX5_readingsOf (wsV RX5 55 RX5 yX5_goes wsX5_goes) := goodIn_app (goodIn_of _ (by decide +kernel)) ggX5_readingsOf_X5_goes
set_option maxRecDepth 20000 in
theorem ggX5_readingsOf_X5_countOf : GoodIn wsX5_readingsOf wsX5_countOf := goodIn_r _ [18, 19, 20, 21, 22, 23, 24, 4, 25, 6, 26, 27, 28, 29, 30, 31, 32, 33, 34, 35, 36, 37, 38, 39, 40, 41, 42, 43, 44, 45, 46, 47, 48, 49, 50, 51, 52, 53, 54, 55, 56, 57, 58, 59, 60, 61, 62, 63, 64, 65, 66, 67, 68] (by decide +kernel) (by decide +kernel)
set_option maxRecDepth 20000 in
theorem gX5_readingsOf_X5_countOf : GoodIn wsX5_readingsOf (wsV RX5 109 RX5 yX5_countOf wsX5_countOf) := goodIn_app (goodIn_of _ (by decide +kernel)) ggX5_readingsOf_X5_countOf
theorem dX5_readingsOf_0 : decode cX5_readingsOf 0 = .ok (.aload_n 0, 1) := by decide +kernel
theorem dX5_readingsOf_1 : decode cX5_readingsOf 1 = .ok (.aload_n 0, 1) := by decide +kernel
theorem dX5_readingsOf_2 : decode cX5_readingsOf 2 = .ok (.iload_n 1, 1) := by decide +kernel
theorem dX5_readingsOf_3 : decode cX5_readingsOf 3 = .ok (.iload_n 2, 1) := by decide +kernel
theorem dX5_readingsOf_4 : decode cX5_readingsOf 4 = .ok (.iload_n 3, 1) := by decide +kernel
theorem dX5_readingsOf_5 : decode cX5_readingsOf 5 = .ok (.invokevirtual 116, 3) := by decide +kernel
theorem dX5_readingsOf_8 : decode cX5_readingsOf 8 = .ok (.iconst 1, 1) := by decide +kernel
theorem dX5_readingsOf_9 : decode cX5_readingsOf 9 = .ok (.invokevirtual 55, 3) := by decide +kernel
theorem dX5_readingsOf_12 : decode cX5_readingsOf 12 = .ok (.ifCond .eq 13, 3) := by decide +kernel
theorem dX5_readingsOf_15 : decode cX5_readingsOf 15 = .ok (.aload_n 0, 1) := by decide +kernel
theorem dX5_readingsOf_16 : decode cX5_readingsOf 16 = .ok (.iload_n 1, 1) := by decide +kernel
theorem dX5_readingsOf_17 : decode cX5_readingsOf 17 = .ok (.iload_n 2, 1) := by decide +kernel
theorem dX5_readingsOf_18 : decode cX5_readingsOf 18 = .ok (.iload_n 3, 1) := by decide +kernel
theorem dX5_readingsOf_19 : decode cX5_readingsOf 19 = .ok (.invokevirtual 109, 3) := by decide +kernel
theorem dX5_readingsOf_22 : decode cX5_readingsOf 22 = .ok (.goto 4, 3) := by decide +kernel
theorem dX5_readingsOf_25 : decode cX5_readingsOf 25 = .ok (.iconst 0, 1) := by decide +kernel
theorem dX5_readingsOf_26 : decode cX5_readingsOf 26 = .ok (.ireturn, 1) := by decide +kernel
set_option maxRecDepth 20000 in
theorem ggX5_has_X5_isPart : GoodIn wsX5_has wsX5_isPart := goodIn_r _ [7, 8, 9, 10, 6, 11, 51, 52, 53, 54, 55, 56, 57, 58, 59, 60, 61, 62, 63, 64, 65] (by decide +kernel) (by decide +kernel)
set_option maxRecDepth 20000 in
theorem gX5_has_X5_isPart : GoodIn wsX5_has (wsV RX5 116 RX5 yX5_isPart wsX5_isPart) := goodIn_app (goodIn_of _ (by decide +kernel)) ggX5_has_X5_isPart
set_option maxRecDepth 20000 in
theorem ggX5_has_X5_isPair : GoodIn wsX5_has wsX5_isPair := goodIn_r _ [14] (by decide +kernel) (by decide +kernel)
set_option maxRecDepth 20000 in
theorem gX5_has_X5_isPair : GoodIn wsX5_has (va_wsS RX5 63 yX5_isPair wsX5_isPair) := goodIn_app (goodIn_of _ (by decide +kernel)) ggX5_has_X5_isPair
set_option maxRecDepth 20000 in
theorem ggX5_has_X5_goes : GoodIn wsX5_has wsX5_goes := goodIn_r _ [18, 19, 51, 52, 53, 54, 55, 56, 57, 58, 59, 60, 61, 62, 63, 64, 65] (by decide +kernel) (by decide +kernel)
set_option maxRecDepth 20000 in
theorem gX5_has_X5_goes : GoodIn wsX5_has (wsV RX5 55 RX5 yX5_goes wsX5_goes) := goodIn_app (goodIn_of _ (by decide +kernel)) ggX5_has_X5_goes
set_option maxRecDepth 20000 in
theorem ggX5_has_X5_takes : GoodIn wsX5_has wsX5_takes := goodIn_r _ [23, 8, 24, 25, 26, 51, 52, 53, 54, 55, 56, 57, 58, 59, 60, 61, 62, 63, 64, 65] (by decide +kernel) (by decide +kernel)
set_option maxRecDepth 20000 in
theorem gX5_has_X5_takes : GoodIn wsX5_has (wsV RX5 100 RX5 yX5_takes wsX5_takes) := goodIn_app (goodIn_of _ (by decide +kernel)) ggX5_has_X5_takes
set_option maxRecDepth 20000 in
theorem ggX5_has_X5_parses : GoodIn wsX5_has wsX5_parses := goodIn_r _ [30, 24, 2, 31, 25, 32, 33, 34, 35, 36, 37, 6, 38, 39, 40, 41, 42, 43, 44, 45, 46, 47, 48, 49, 50, 51, 52, 53, 54, 55, 56, 57, 58, 59, 60, 61, 62, 63, 64, 65] (by decide +kernel) (by decide +kernel)
set_option maxRecDepth 20000 in
theorem gX5_has_X5_parses : GoodIn wsX5_has (wsV RX5 92 RX5 yX5_parses wsX5_parses) := goodIn_app (goodIn_of _ (by decide +kernel)) ggX5_has_X5_parses
set_option maxRecDepth 20000 in
theorem ggX5_has_X5_span : GoodIn wsX5_has wsX5_span := goodIn_r _ [38] (by decide +kernel) (by decide +kernel)
set_option maxRecDepth 20000 in
theorem gX5_has_X5_span : GoodIn wsX5_has (va_wsS RX5 82 yX5_span wsX5_span) := goodIn_app (goodIn_of _ (by decide +kernel)) ggX5_has_X5_span
theorem dX5_has_0 : decode cX5_has 0 = .ok (.aload_n 0, 1) := by decide +kernel
theorem dX5_has_1 : decode cX5_has 1 = .ok (.aload_n 0, 1) := by decide +kernel
theorem dX5_has_2 : decode cX5_has 2 = .ok (.iload_n 1, 1) := by decide +kernel
theorem dX5_has_3 : decode cX5_has 3 = .ok (.iload_n 2, 1) := by decide +kernel
theorem dX5_has_4 : decode cX5_has 4 = .ok (.iload_n 3, 1) := by decide +kernel
theorem dX5_has_5 : decode cX5_has 5 = .ok (.invokevirtual 116, 3) := by decide +kernel
theorem dX5_has_8 : decode cX5_has 8 = .ok (.iload 4, 2) := by decide +kernel
theorem dX5_has_10 : decode cX5_has 10 = .ok (.invokestatic 63, 3) := by decide +kernel
theorem dX5_has_13 : decode cX5_has 13 = .ok (.invokevirtual 55, 3) := by decide +kernel
theorem dX5_has_16 : decode cX5_has 16 = .ok (.ifCond .ne 5, 3) := by decide +kernel
theorem dX5_has_19 : decode cX5_has 19 = .ok (.iconst 0, 1) := by decide +kernel
theorem dX5_has_20 : decode cX5_has 20 = .ok (.ireturn, 1) := by decide +kernel
theorem dX5_has_21 : decode cX5_has 21 = .ok (.aload_n 0, 1) := by decide +kernel
theorem dX5_has_22 : decode cX5_has 22 = .ok (.invokevirtual 100, 3) := by decide +kernel
theorem dX5_has_25 : decode cX5_has 25 = .ok (.aload_n 0, 1) := by decide +kernel
theorem dX5_has_26 : decode cX5_has 26 = .ok (.aload_n 0, 1) := by decide +kernel
theorem dX5_has_27 : decode cX5_has 27 = .ok (.getfield 66, 3) := by decide +kernel
theorem dX5_has_30 : decode cX5_has 30 = .ok (.invokevirtual 92, 3) := by decide +kernel
theorem dX5_has_33 : decode cX5_has 33 = .ok (.aload_n 0, 1) := by decide +kernel
theorem dX5_has_34 : decode cX5_has 34 = .ok (.getfield 34, 3) := by decide +kernel
theorem dX5_has_37 : decode cX5_has 37 = .ok (.iload_n 1, 1) := by decide +kernel
theorem dX5_has_38 : decode cX5_has 38 = .ok (.iload_n 2, 1) := by decide +kernel
theorem dX5_has_39 : decode cX5_has 39 = .ok (.invokestatic 82, 3) := by decide +kernel
theorem dX5_has_42 : decode cX5_has 42 = .ok (.iload_n 3, 1) := by decide +kernel
theorem dX5_has_43 : decode cX5_has 43 = .ok (.iadd, 1) := by decide +kernel
theorem dX5_has_44 : decode cX5_has 44 = .ok (.iaload, 1) := by decide +kernel
theorem dX5_has_45 : decode cX5_has 45 = .ok (.iconst 4, 1) := by decide +kernel
theorem dX5_has_46 : decode cX5_has 46 = .ok (.iload 4, 2) := by decide +kernel
theorem dX5_has_48 : decode cX5_has 48 = .ok (.bipush 10, 2) := by decide +kernel
theorem dX5_has_50 : decode cX5_has 50 = .ok (.idiv, 1) := by decide +kernel
theorem dX5_has_51 : decode cX5_has 51 = .ok (.imul, 1) := by decide +kernel
theorem dX5_has_52 : decode cX5_has 52 = .ok (.iload 4, 2) := by decide +kernel
theorem dX5_has_54 : decode cX5_has 54 = .ok (.bipush 10, 2) := by decide +kernel
theorem dX5_has_56 : decode cX5_has 56 = .ok (.irem, 1) := by decide +kernel
theorem dX5_has_57 : decode cX5_has 57 = .ok (.iadd, 1) := by decide +kernel
theorem dX5_has_58 : decode cX5_has 58 = .ok (.ishr, 1) := by decide +kernel
theorem dX5_has_59 : decode cX5_has 59 = .ok (.iconst 1, 1) := by decide +kernel
theorem dX5_has_60 : decode cX5_has 60 = .ok (.iand, 1) := by decide +kernel
theorem dX5_has_61 : decode cX5_has 61 = .ok (.iconst 1, 1) := by decide +kernel
theorem dX5_has_62 : decode cX5_has 62 = .ok (.if_icmp .ne 7, 3) := by decide +kernel
theorem dX5_has_65 : decode cX5_has 65 = .ok (.iconst 1, 1) := by decide +kernel
theorem dX5_has_66 : decode cX5_has 66 = .ok (.goto 4, 3) := by decide +kernel
theorem dX5_has_69 : decode cX5_has 69 = .ok (.iconst 0, 1) := by decide +kernel
theorem dX5_has_70 : decode cX5_has 70 = .ok (.ireturn, 1) := by decide +kernel
set_option maxRecDepth 20000 in
theorem ggX5_level_X5_takes : GoodIn wsX5_level wsX5_takes := goodIn_r _ [9, 10, 3, 11, 12, 37, 38, 39, 40, 41, 42, 43, 44, 45, 46, 47, 48, 49, 50, 51] (by decide +kernel) (by decide +kernel)
set_option maxRecDepth 20000 in
theorem gX5_level_X5_takes : GoodIn wsX5_level (wsV RX5 100 RX5 yX5_takes wsX5_takes) := goodIn_app (goodIn_of _ (by decide +kernel)) ggX5_level_X5_takes
set_option maxRecDepth 20000 in
theorem ggX5_level_X5_parses : GoodIn wsX5_level wsX5_parses := goodIn_r _ [16, 3, 4, 17, 11, 18, 19, 20, 21, 22, 23, 8, 24, 25, 26, 27, 28, 29, 30, 31, 32, 33, 34, 35, 36, 37, 38, 39, 40, 41, 42, 43, 44, 45, 46, 47, 48, 49, 50, 51] (by decide +kernel) (by decide +kernel)
set_option maxRecDepth 20000 in
theorem gX5_level_X5_parses : GoodIn wsX5_level (wsV RX5 92 RX5 yX5_parses wsX5_parses) := goodIn_app (goodIn_of _ (by decide +kernel)) ggX5_level_X5_parses
set_option maxRecDepth 20000 in
theorem ggX5_level_X5_span : GoodIn wsX5_level wsX5_span := goodIn_r _ [24] (by decide +kernel) (by decide +kernel)
set_option maxRecDepth 20000 in
theorem gX5_level_X5_span : GoodIn wsX5_level (va_wsS RX5 82 yX5_span wsX5_span) := goodIn_app (goodIn_of _ (by decide +kernel)) ggX5_level_X5_span
theorem dX5_level_0 : decode cX5_level 0 = .ok (.aload_n 0, 1) := by decide +kernel
theorem dX5_level_1 : decode cX5_level 1 = .ok (.iconst 0, 1) := by decide +kernel
theorem dX5_level_2 : decode cX5_level 2 = .ok (.putfield 41, 3) := by decide +kernel
theorem dX5_level_5 : decode cX5_level 5 = .ok (.aload_n 0, 1) := by decide +kernel
theorem dX5_level_6 : decode cX5_level 6 = .ok (.invokevirtual 100, 3) := by decide +kernel
theorem dX5_level_9 : decode cX5_level 9 = .ok (.iconst (-1), 1) := by decide +kernel
theorem dX5_level_10 : decode cX5_level 10 = .ok (.istore_n 1, 1) := by decide +kernel
theorem dX5_level_11 : decode cX5_level 11 = .ok (.aload_n 0, 1) := by decide +kernel
theorem dX5_level_12 : decode cX5_level 12 = .ok (.getfield 66, 3) := by decide +kernel
theorem dX5_level_15 : decode cX5_level 15 = .ok (.istore_n 2, 1) := by decide +kernel
theorem dX5_level_16 : decode cX5_level 16 = .ok (.iload_n 2, 1) := by decide +kernel
theorem dX5_level_17 : decode cX5_level 17 = .ok (.ifCond .lt 43, 3) := by decide +kernel
theorem dX5_level_20 : decode cX5_level 20 = .ok (.aload_n 0, 1) := by decide +kernel
theorem dX5_level_21 : decode cX5_level 21 = .ok (.iload_n 2, 1) := by decide +kernel
theorem dX5_level_22 : decode cX5_level 22 = .ok (.invokevirtual 92, 3) := by decide +kernel
theorem dX5_level_25 : decode cX5_level 25 = .ok (.aload_n 0, 1) := by decide +kernel
theorem dX5_level_26 : decode cX5_level 26 = .ok (.getfield 75, 3) := by decide +kernel
theorem dX5_level_29 : decode cX5_level 29 = .ok (.ifCond .le 23, 3) := by decide +kernel
theorem dX5_level_32 : decode cX5_level 32 = .ok (.aload_n 0, 1) := by decide +kernel
theorem dX5_level_33 : decode cX5_level 33 = .ok (.getfield 34, 3) := by decide +kernel
theorem dX5_level_36 : decode cX5_level 36 = .ok (.iconst 0, 1) := by decide +kernel
theorem dX5_level_37 : decode cX5_level 37 = .ok (.aload_n 0, 1) := by decide +kernel
theorem dX5_level_38 : decode cX5_level 38 = .ok (.getfield 75, 3) := by decide +kernel
theorem dX5_level_41 : decode cX5_level 41 = .ok (.invokestatic 82, 3) := by decide +kernel
theorem dX5_level_44 : decode cX5_level 44 = .ok (.iaload, 1) := by decide +kernel
theorem dX5_level_45 : decode cX5_level 45 = .ok (.ifCond .eq 7, 3) := by decide +kernel
theorem dX5_level_48 : decode cX5_level 48 = .ok (.iload_n 2, 1) := by decide +kernel
theorem dX5_level_49 : decode cX5_level 49 = .ok (.goto 4, 3) := by decide +kernel
theorem dX5_level_52 : decode cX5_level 52 = .ok (.iload_n 1, 1) := by decide +kernel
theorem dX5_level_53 : decode cX5_level 53 = .ok (.istore_n 1, 1) := by decide +kernel
theorem dX5_level_54 : decode cX5_level 54 = .ok (.iinc 2 (-1), 3) := by decide +kernel
theorem dX5_level_57 : decode cX5_level 57 = .ok (.goto (-41), 3) := by decide +kernel
theorem dX5_level_60 : decode cX5_level 60 = .ok (.iload_n 1, 1) := by decide +kernel
theorem dX5_level_61 : decode cX5_level 61 = .ok (.ireturn, 1) := by decide +kernel
theorem dX5_rows_0 : decode cX5_rows 0 = .ok (.iconst 1, 1) := by decide +kernel
theorem dX5_rows_1 : decode cX5_rows 1 = .ok (.istore_n 2, 1) := by decide +kernel
theorem dX5_rows_2 : decode cX5_rows 2 = .ok (.iconst 0, 1) := by decide +kernel
theorem dX5_rows_3 : decode cX5_rows 3 = .ok (.istore_n 3, 1) := by decide +kernel
theorem dX5_rows_4 : decode cX5_rows 4 = .ok (.iload_n 3, 1) := by decide +kernel
theorem dX5_rows_5 : decode cX5_rows 5 = .ok (.iload_n 1, 1) := by decide +kernel
theorem dX5_rows_6 : decode cX5_rows 6 = .ok (.if_icmp .ge 16, 3) := by decide +kernel
theorem dX5_rows_9 : decode cX5_rows 9 = .ok (.iload_n 2, 1) := by decide +kernel
theorem dX5_rows_10 : decode cX5_rows 10 = .ok (.aload_n 0, 1) := by decide +kernel
theorem dX5_rows_11 : decode cX5_rows 11 = .ok (.getfield 45, 3) := by decide +kernel
theorem dX5_rows_14 : decode cX5_rows 14 = .ok (.imul, 1) := by decide +kernel
theorem dX5_rows_15 : decode cX5_rows 15 = .ok (.istore_n 2, 1) := by decide +kernel
theorem dX5_rows_16 : decode cX5_rows 16 = .ok (.iinc 3 1, 3) := by decide +kernel
theorem dX5_rows_19 : decode cX5_rows 19 = .ok (.goto (-15), 3) := by decide +kernel
theorem dX5_rows_22 : decode cX5_rows 22 = .ok (.iload_n 2, 1) := by decide +kernel
theorem dX5_rows_23 : decode cX5_rows 23 = .ok (.ireturn, 1) := by decide +kernel
theorem dX5_lays_0 : decode cX5_lays 0 = .ok (.iload_n 1, 1) := by decide +kernel
theorem dX5_lays_1 : decode cX5_lays 1 = .ok (.istore_n 3, 1) := by decide +kernel
theorem dX5_lays_2 : decode cX5_lays 2 = .ok (.aload_n 0, 1) := by decide +kernel
theorem dX5_lays_3 : decode cX5_lays 3 = .ok (.iload_n 2, 1) := by decide +kernel
theorem dX5_lays_4 : decode cX5_lays 4 = .ok (.putfield 75, 3) := by decide +kernel
theorem dX5_lays_7 : decode cX5_lays 7 = .ok (.iload_n 2, 1) := by decide +kernel
theorem dX5_lays_8 : decode cX5_lays 8 = .ok (.iconst 1, 1) := by decide +kernel
theorem dX5_lays_9 : decode cX5_lays 9 = .ok (.isub, 1) := by decide +kernel
theorem dX5_lays_10 : decode cX5_lays 10 = .ok (.istore 4, 2) := by decide +kernel
theorem dX5_lays_12 : decode cX5_lays 12 = .ok (.iload 4, 2) := by decide +kernel
theorem dX5_lays_14 : decode cX5_lays 14 = .ok (.ifCond .lt 29, 3) := by decide +kernel
theorem dX5_lays_17 : decode cX5_lays 17 = .ok (.aload_n 0, 1) := by decide +kernel
theorem dX5_lays_18 : decode cX5_lays 18 = .ok (.getfield 31, 3) := by decide +kernel
theorem dX5_lays_21 : decode cX5_lays 21 = .ok (.iload 4, 2) := by decide +kernel
theorem dX5_lays_23 : decode cX5_lays 23 = .ok (.iload_n 3, 1) := by decide +kernel
theorem dX5_lays_24 : decode cX5_lays 24 = .ok (.aload_n 0, 1) := by decide +kernel
theorem dX5_lays_25 : decode cX5_lays 25 = .ok (.getfield 45, 3) := by decide +kernel
theorem dX5_lays_28 : decode cX5_lays 28 = .ok (.irem, 1) := by decide +kernel
theorem dX5_lays_29 : decode cX5_lays 29 = .ok (.iastore, 1) := by decide +kernel
theorem dX5_lays_30 : decode cX5_lays 30 = .ok (.iload_n 3, 1) := by decide +kernel
theorem dX5_lays_31 : decode cX5_lays 31 = .ok (.aload_n 0, 1) := by decide +kernel
theorem dX5_lays_32 : decode cX5_lays 32 = .ok (.getfield 45, 3) := by decide +kernel
theorem dX5_lays_35 : decode cX5_lays 35 = .ok (.idiv, 1) := by decide +kernel
theorem dX5_lays_36 : decode cX5_lays 36 = .ok (.istore_n 3, 1) := by decide +kernel
theorem dX5_lays_37 : decode cX5_lays 37 = .ok (.iinc 4 (-1), 3) := by decide +kernel
theorem dX5_lays_40 : decode cX5_lays 40 = .ok (.goto (-28), 3) := by decide +kernel
theorem dX5_lays_43 : decode cX5_lays 43 = .ok (.return_, 1) := by decide +kernel
set_option maxRecDepth 20000 in
theorem ggX5_sentencesOf_X5_rows : GoodIn wsX5_sentencesOf wsX5_rows := goodIn_r _ [5, 6, 43, 44, 45, 46, 47, 48, 49, 50, 51, 52, 53, 54, 55, 56, 57] (by decide +kernel) (by decide +kernel)
set_option maxRecDepth 20000 in
theorem gX5_sentencesOf_X5_rows : GoodIn wsX5_sentencesOf (wsV RX5 119 RX5 yX5_rows wsX5_rows) := goodIn_app (goodIn_of _ (by decide +kernel)) ggX5_sentencesOf_X5_rows
set_option maxRecDepth 20000 in
theorem ggX5_sentencesOf_X5_lays : GoodIn wsX5_sentencesOf wsX5_lays := goodIn_r _ [10, 11, 12, 6, 43, 44, 45, 46, 47, 48, 49, 50, 51, 52, 53, 54, 55, 56, 57] (by decide +kernel) (by decide +kernel)
set_option maxRecDepth 20000 in
theorem gX5_sentencesOf_X5_lays : GoodIn wsX5_sentencesOf (wsV RX5 123 RX5 yX5_lays wsX5_lays) := goodIn_app (goodIn_of _ (by decide +kernel)) ggX5_sentencesOf_X5_lays
set_option maxRecDepth 20000 in
theorem ggX5_sentencesOf_X5_isSentence : GoodIn wsX5_sentencesOf wsX5_isSentence := goodIn_r _ [16, 17, 11, 18, 19, 20, 21, 4, 22, 23, 12, 24, 25, 26, 27, 28, 29, 30, 31, 32, 33, 34, 35, 36, 37, 38, 39, 40, 41, 42, 43, 44, 45, 46, 47, 48, 49, 50, 51, 52, 53, 54, 55, 56, 57] (by decide +kernel) (by decide +kernel)
set_option maxRecDepth 20000 in
theorem gX5_sentencesOf_X5_isSentence : GoodIn wsX5_sentencesOf (wsV RX5 127 RX5 yX5_isSentence wsX5_isSentence) := goodIn_app (goodIn_of _ (by decide +kernel)) ggX5_sentencesOf_X5_isSentence
theorem dX5_sentencesOf_0 : decode cX5_sentencesOf 0 = .ok (.iconst 0, 1) := by decide +kernel
theorem dX5_sentencesOf_1 : decode cX5_sentencesOf 1 = .ok (.istore_n 2, 1) := by decide +kernel
theorem dX5_sentencesOf_2 : decode cX5_sentencesOf 2 = .ok (.iconst 0, 1) := by decide +kernel
theorem dX5_sentencesOf_3 : decode cX5_sentencesOf 3 = .ok (.istore_n 3, 1) := by decide +kernel
theorem dX5_sentencesOf_4 : decode cX5_sentencesOf 4 = .ok (.iload_n 3, 1) := by decide +kernel
theorem dX5_sentencesOf_5 : decode cX5_sentencesOf 5 = .ok (.aload_n 0, 1) := by decide +kernel
theorem dX5_sentencesOf_6 : decode cX5_sentencesOf 6 = .ok (.iload_n 1, 1) := by decide +kernel
theorem dX5_sentencesOf_7 : decode cX5_sentencesOf 7 = .ok (.invokevirtual 119, 3) := by decide +kernel
theorem dX5_sentencesOf_10 : decode cX5_sentencesOf 10 = .ok (.if_icmp .ge 30, 3) := by decide +kernel
theorem dX5_sentencesOf_13 : decode cX5_sentencesOf 13 = .ok (.aload_n 0, 1) := by decide +kernel
theorem dX5_sentencesOf_14 : decode cX5_sentencesOf 14 = .ok (.iload_n 3, 1) := by decide +kernel
theorem dX5_sentencesOf_15 : decode cX5_sentencesOf 15 = .ok (.iload_n 1, 1) := by decide +kernel
theorem dX5_sentencesOf_16 : decode cX5_sentencesOf 16 = .ok (.invokevirtual 123, 3) := by decide +kernel
theorem dX5_sentencesOf_19 : decode cX5_sentencesOf 19 = .ok (.iload_n 2, 1) := by decide +kernel
theorem dX5_sentencesOf_20 : decode cX5_sentencesOf 20 = .ok (.aload_n 0, 1) := by decide +kernel
theorem dX5_sentencesOf_21 : decode cX5_sentencesOf 21 = .ok (.invokevirtual 127, 3) := by decide +kernel
theorem dX5_sentencesOf_24 : decode cX5_sentencesOf 24 = .ok (.ifCond .eq 7, 3) := by decide +kernel
theorem dX5_sentencesOf_27 : decode cX5_sentencesOf 27 = .ok (.iconst 1, 1) := by decide +kernel
theorem dX5_sentencesOf_28 : decode cX5_sentencesOf 28 = .ok (.goto 4, 3) := by decide +kernel
theorem dX5_sentencesOf_31 : decode cX5_sentencesOf 31 = .ok (.iconst 0, 1) := by decide +kernel
theorem dX5_sentencesOf_32 : decode cX5_sentencesOf 32 = .ok (.iadd, 1) := by decide +kernel
theorem dX5_sentencesOf_33 : decode cX5_sentencesOf 33 = .ok (.istore_n 2, 1) := by decide +kernel
theorem dX5_sentencesOf_34 : decode cX5_sentencesOf 34 = .ok (.iinc 3 1, 3) := by decide +kernel
theorem dX5_sentencesOf_37 : decode cX5_sentencesOf 37 = .ok (.goto (-33), 3) := by decide +kernel
theorem dX5_sentencesOf_40 : decode cX5_sentencesOf 40 = .ok (.iload_n 2, 1) := by decide +kernel
theorem dX5_sentencesOf_41 : decode cX5_sentencesOf 41 = .ok (.ireturn, 1) := by decide +kernel
theorem dX5_isShort_0 : decode cX5_isShort 0 = .ok (.iload_n 0, 1) := by decide +kernel
theorem dX5_isShort_1 : decode cX5_isShort 1 = .ok (.iconst 1, 1) := by decide +kernel
theorem dX5_isShort_2 : decode cX5_isShort 2 = .ok (.if_icmp .lt 12, 3) := by decide +kernel
theorem dX5_isShort_5 : decode cX5_isShort 5 = .ok (.iload_n 0, 1) := by decide +kernel
theorem dX5_isShort_6 : decode cX5_isShort 6 = .ok (.iconst 4, 1) := by decide +kernel
theorem dX5_isShort_7 : decode cX5_isShort 7 = .ok (.if_icmp .gt 7, 3) := by decide +kernel
theorem dX5_isShort_10 : decode cX5_isShort 10 = .ok (.iconst 1, 1) := by decide +kernel
theorem dX5_isShort_11 : decode cX5_isShort 11 = .ok (.goto 4, 3) := by decide +kernel
theorem dX5_isShort_14 : decode cX5_isShort 14 = .ok (.iconst 0, 1) := by decide +kernel
theorem dX5_isShort_15 : decode cX5_isShort 15 = .ok (.ireturn, 1) := by decide +kernel
set_option maxRecDepth 20000 in
theorem ggX5_sentences_X5_isShort : GoodIn wsX5_sentences wsX5_isShort := goodIn_r _ [4] (by decide +kernel) (by decide +kernel)
set_option maxRecDepth 20000 in
theorem gX5_sentences_X5_isShort : GoodIn wsX5_sentences (va_wsS RX5 131 yX5_isShort wsX5_isShort) := goodIn_app (goodIn_of _ (by decide +kernel)) ggX5_sentences_X5_isShort
set_option maxRecDepth 20000 in
theorem ggX5_sentences_X5_goes : GoodIn wsX5_sentences wsX5_goes := goodIn_r _ [8, 9, 55, 56, 57, 58, 59, 60, 61, 62, 63, 64, 65, 66, 67, 68, 69] (by decide +kernel) (by decide +kernel)
set_option maxRecDepth 20000 in
theorem gX5_sentences_X5_goes : GoodIn wsX5_sentences (wsV RX5 55 RX5 yX5_goes wsX5_goes) := goodIn_app (goodIn_of _ (by decide +kernel)) ggX5_sentences_X5_goes
set_option maxRecDepth 20000 in
theorem ggX5_sentences_X5_sentencesOf : GoodIn wsX5_sentences wsX5_sentencesOf := goodIn_r _ [13, 14, 15, 16, 3, 17, 18, 19, 20, 21, 22, 23, 24, 25, 26, 27, 28, 29, 30, 31, 32, 33, 34, 35, 36, 37, 38, 39, 40, 41, 42, 43, 44, 45, 46, 47, 48, 49, 50, 51, 52, 53, 54, 55, 56, 57, 58, 59, 60, 61, 62, 63, 64, 65, 66, 67, 68, 69] (by decide +kernel) (by decide +kernel)
set_option maxRecDepth 20000 in
theorem gX5_sentences_X5_sentencesOf : GoodIn wsX5_sentences (wsV RX5 134 RX5 yX5_sentencesOf wsX5_sentencesOf) := goodIn_app (goodIn_of _ (by decide +kernel)) ggX5_sentences_X5_sentencesOf
theorem dX5_sentences_0 : decode cX5_sentences 0 = .ok (.aload_n 0, 1) := by decide +kernel
theorem dX5_sentences_1 : decode cX5_sentences 1 = .ok (.iload_n 1, 1) := by decide +kernel
theorem dX5_sentences_2 : decode cX5_sentences 2 = .ok (.invokestatic 131, 3) := by decide +kernel
theorem dX5_sentences_5 : decode cX5_sentences 5 = .ok (.iconst 1, 1) := by decide +kernel
theorem dX5_sentences_6 : decode cX5_sentences 6 = .ok (.invokevirtual 55, 3) := by decide +kernel
theorem dX5_sentences_9 : decode cX5_sentences 9 = .ok (.ifCond .eq 11, 3) := by decide +kernel
theorem dX5_sentences_12 : decode cX5_sentences 12 = .ok (.aload_n 0, 1) := by decide +kernel
theorem dX5_sentences_13 : decode cX5_sentences 13 = .ok (.iload_n 1, 1) := by decide +kernel
theorem dX5_sentences_14 : decode cX5_sentences 14 = .ok (.invokevirtual 134, 3) := by decide +kernel
theorem dX5_sentences_17 : decode cX5_sentences 17 = .ok (.goto 4, 3) := by decide +kernel
theorem dX5_sentences_20 : decode cX5_sentences 20 = .ok (.iconst 0, 1) := by decide +kernel
theorem dX5_sentences_21 : decode cX5_sentences 21 = .ok (.ireturn, 1) := by decide +kernel
set_option maxRecDepth 20000 in
theorem ggX5_sentence_X5_isShort : GoodIn wsX5_sentence wsX5_isShort := goodIn_r _ [5] (by decide +kernel) (by decide +kernel)
set_option maxRecDepth 20000 in
theorem gX5_sentence_X5_isShort : GoodIn wsX5_sentence (va_wsS RX5 131 yX5_isShort wsX5_isShort) := goodIn_app (goodIn_of _ (by decide +kernel)) ggX5_sentence_X5_isShort
set_option maxRecDepth 20000 in
theorem ggX5_sentence_X5_goes : GoodIn wsX5_sentence wsX5_goes := goodIn_r _ [9, 10, 51, 52, 53, 54, 55, 56, 57, 58, 59, 60, 61, 62, 63, 64, 65] (by decide +kernel) (by decide +kernel)
set_option maxRecDepth 20000 in
theorem gX5_sentence_X5_goes : GoodIn wsX5_sentence (wsV RX5 55 RX5 yX5_goes wsX5_goes) := goodIn_app (goodIn_of _ (by decide +kernel)) ggX5_sentence_X5_goes
set_option maxRecDepth 20000 in
theorem ggX5_sentence_X5_rows : GoodIn wsX5_sentence wsX5_rows := goodIn_r _ [14, 15, 51, 52, 53, 54, 55, 56, 57, 58, 59, 60, 61, 62, 63, 64, 65] (by decide +kernel) (by decide +kernel)
set_option maxRecDepth 20000 in
theorem gX5_sentence_X5_rows : GoodIn wsX5_sentence (wsV RX5 119 RX5 yX5_rows wsX5_rows) := goodIn_app (goodIn_of _ (by decide +kernel)) ggX5_sentence_X5_rows
set_option maxRecDepth 20000 in
theorem ggX5_sentence_X5_lays : GoodIn wsX5_sentence wsX5_lays := goodIn_r _ [19, 20, 1, 15, 51, 52, 53, 54, 55, 56, 57, 58, 59, 60, 61, 62, 63, 64, 65] (by decide +kernel) (by decide +kernel)
set_option maxRecDepth 20000 in
theorem gX5_sentence_X5_lays : GoodIn wsX5_sentence (wsV RX5 123 RX5 yX5_lays wsX5_lays) := goodIn_app (goodIn_of _ (by decide +kernel)) ggX5_sentence_X5_lays
set_option maxRecDepth 20000 in
theorem ggX5_sentence_X5_isSentence : GoodIn wsX5_sentence wsX5_isSentence := goodIn_r _ [24, 25, 20, 26, 27, 28, 29, 4, 30, 31, 1, 32, 33, 34, 35, 36, 37, 38, 39, 40, 41, 42, 43, 44, 45, 46, 47, 48, 49, 50, 51, 52, 53, 54, 55, 56, 57, 58, 59, 60, 61, 62, 63, 64, 65] (by decide +kernel) (by decide +kernel)
set_option maxRecDepth 20000 in
theorem gX5_sentence_X5_isSentence : GoodIn wsX5_sentence (wsV RX5 127 RX5 yX5_isSentence wsX5_isSentence) := goodIn_app (goodIn_of _ (by decide +kernel)) ggX5_sentence_X5_isSentence
theorem dX5_sentence_0 : decode cX5_sentence 0 = .ok (.aload_n 0, 1) := by decide +kernel
theorem dX5_sentence_1 : decode cX5_sentence 1 = .ok (.iload_n 1, 1) := by decide +kernel
theorem dX5_sentence_2 : decode cX5_sentence 2 = .ok (.invokestatic 131, 3) := by decide +kernel
theorem dX5_sentence_5 : decode cX5_sentence 5 = .ok (.ifCond .eq 11, 3) := by decide +kernel
theorem dX5_sentence_8 : decode cX5_sentence 8 = .ok (.iload_n 2, 1) := by decide +kernel
theorem dX5_sentence_9 : decode cX5_sentence 9 = .ok (.ifCond .lt 7, 3) := by decide +kernel
theorem dX5_sentence_12 : decode cX5_sentence 12 = .ok (.iconst 1, 1) := by decide +kernel
theorem dX5_sentence_13 : decode cX5_sentence 13 = .ok (.goto 4, 3) := by decide +kernel
theorem dX5_sentence_16 : decode cX5_sentence 16 = .ok (.iconst 0, 1) := by decide +kernel
theorem dX5_sentence_17 : decode cX5_sentence 17 = .ok (.iconst 1, 1) := by decide +kernel
theorem dX5_sentence_18 : decode cX5_sentence 18 = .ok (.invokevirtual 55, 3) := by decide +kernel
theorem dX5_sentence_21 : decode cX5_sentence 21 = .ok (.ifCond .ne 5, 3) := by decide +kernel
theorem dX5_sentence_24 : decode cX5_sentence 24 = .ok (.iconst 0, 1) := by decide +kernel
theorem dX5_sentence_25 : decode cX5_sentence 25 = .ok (.ireturn, 1) := by decide +kernel
theorem dX5_sentence_26 : decode cX5_sentence 26 = .ok (.iload_n 2, 1) := by decide +kernel
theorem dX5_sentence_27 : decode cX5_sentence 27 = .ok (.istore_n 3, 1) := by decide +kernel
theorem dX5_sentence_28 : decode cX5_sentence 28 = .ok (.iconst (-1), 1) := by decide +kernel
theorem dX5_sentence_29 : decode cX5_sentence 29 = .ok (.istore 4, 2) := by decide +kernel
theorem dX5_sentence_31 : decode cX5_sentence 31 = .ok (.iconst 0, 1) := by decide +kernel
theorem dX5_sentence_32 : decode cX5_sentence 32 = .ok (.istore 5, 2) := by decide +kernel
theorem dX5_sentence_34 : decode cX5_sentence 34 = .ok (.iload 5, 2) := by decide +kernel
theorem dX5_sentence_36 : decode cX5_sentence 36 = .ok (.aload_n 0, 1) := by decide +kernel
theorem dX5_sentence_37 : decode cX5_sentence 37 = .ok (.iload_n 1, 1) := by decide +kernel
theorem dX5_sentence_38 : decode cX5_sentence 38 = .ok (.invokevirtual 119, 3) := by decide +kernel
theorem dX5_sentence_41 : decode cX5_sentence 41 = .ok (.if_icmp .ge 57, 3) := by decide +kernel
theorem dX5_sentence_44 : decode cX5_sentence 44 = .ok (.iload 4, 2) := by decide +kernel
theorem dX5_sentence_46 : decode cX5_sentence 46 = .ok (.ifCond .ge 52, 3) := by decide +kernel
theorem dX5_sentence_49 : decode cX5_sentence 49 = .ok (.aload_n 0, 1) := by decide +kernel
theorem dX5_sentence_50 : decode cX5_sentence 50 = .ok (.iload 5, 2) := by decide +kernel
theorem dX5_sentence_52 : decode cX5_sentence 52 = .ok (.iload_n 1, 1) := by decide +kernel
theorem dX5_sentence_53 : decode cX5_sentence 53 = .ok (.invokevirtual 123, 3) := by decide +kernel
theorem dX5_sentence_56 : decode cX5_sentence 56 = .ok (.aload_n 0, 1) := by decide +kernel
theorem dX5_sentence_57 : decode cX5_sentence 57 = .ok (.invokevirtual 127, 3) := by decide +kernel
theorem dX5_sentence_60 : decode cX5_sentence 60 = .ok (.istore 6, 2) := by decide +kernel
theorem dX5_sentence_62 : decode cX5_sentence 62 = .ok (.iload 6, 2) := by decide +kernel
theorem dX5_sentence_64 : decode cX5_sentence 64 = .ok (.ifCond .eq 12, 3) := by decide +kernel
theorem dX5_sentence_67 : decode cX5_sentence 67 = .ok (.iload_n 3, 1) := by decide +kernel
theorem dX5_sentence_68 : decode cX5_sentence 68 = .ok (.ifCond .ne 8, 3) := by decide +kernel
theorem dX5_sentence_71 : decode cX5_sentence 71 = .ok (.iload 5, 2) := by decide +kernel
theorem dX5_sentence_73 : decode cX5_sentence 73 = .ok (.goto 4, 3) := by decide +kernel
theorem dX5_sentence_76 : decode cX5_sentence 76 = .ok (.iconst (-1), 1) := by decide +kernel
theorem dX5_sentence_77 : decode cX5_sentence 77 = .ok (.istore 4, 2) := by decide +kernel
theorem dX5_sentence_79 : decode cX5_sentence 79 = .ok (.iload_n 3, 1) := by decide +kernel
theorem dX5_sentence_80 : decode cX5_sentence 80 = .ok (.iload 6, 2) := by decide +kernel
theorem dX5_sentence_82 : decode cX5_sentence 82 = .ok (.ifCond .eq 7, 3) := by decide +kernel
theorem dX5_sentence_85 : decode cX5_sentence 85 = .ok (.iconst 1, 1) := by decide +kernel
theorem dX5_sentence_86 : decode cX5_sentence 86 = .ok (.goto 4, 3) := by decide +kernel
theorem dX5_sentence_89 : decode cX5_sentence 89 = .ok (.iconst 0, 1) := by decide +kernel
theorem dX5_sentence_90 : decode cX5_sentence 90 = .ok (.isub, 1) := by decide +kernel
theorem dX5_sentence_91 : decode cX5_sentence 91 = .ok (.istore_n 3, 1) := by decide +kernel
theorem dX5_sentence_92 : decode cX5_sentence 92 = .ok (.iinc 5 1, 3) := by decide +kernel
theorem dX5_sentence_95 : decode cX5_sentence 95 = .ok (.goto (-61), 3) := by decide +kernel
theorem dX5_sentence_98 : decode cX5_sentence 98 = .ok (.iload 4, 2) := by decide +kernel
theorem dX5_sentence_100 : decode cX5_sentence 100 = .ok (.ifCond .ge 5, 3) := by decide +kernel
theorem dX5_sentence_103 : decode cX5_sentence 103 = .ok (.iconst (-1), 1) := by decide +kernel
theorem dX5_sentence_104 : decode cX5_sentence 104 = .ok (.ireturn, 1) := by decide +kernel
theorem dX5_sentence_105 : decode cX5_sentence 105 = .ok (.bipush 9, 2) := by decide +kernel
theorem dX5_sentence_107 : decode cX5_sentence 107 = .ok (.istore 5, 2) := by decide +kernel
theorem dX5_sentence_109 : decode cX5_sentence 109 = .ok (.iconst 0, 1) := by decide +kernel
theorem dX5_sentence_110 : decode cX5_sentence 110 = .ok (.istore 6, 2) := by decide +kernel
theorem dX5_sentence_112 : decode cX5_sentence 112 = .ok (.iload 6, 2) := by decide +kernel
theorem dX5_sentence_114 : decode cX5_sentence 114 = .ok (.iload_n 1, 1) := by decide +kernel
theorem dX5_sentence_115 : decode cX5_sentence 115 = .ok (.if_icmp .ge 24, 3) := by decide +kernel
theorem dX5_sentence_118 : decode cX5_sentence 118 = .ok (.bipush 10, 2) := by decide +kernel
theorem dX5_sentence_120 : decode cX5_sentence 120 = .ok (.iload 5, 2) := by decide +kernel
theorem dX5_sentence_122 : decode cX5_sentence 122 = .ok (.imul, 1) := by decide +kernel
theorem dX5_sentence_123 : decode cX5_sentence 123 = .ok (.aload_n 0, 1) := by decide +kernel
theorem dX5_sentence_124 : decode cX5_sentence 124 = .ok (.getfield 31, 3) := by decide +kernel
theorem dX5_sentence_127 : decode cX5_sentence 127 = .ok (.iload 6, 2) := by decide +kernel
theorem dX5_sentence_129 : decode cX5_sentence 129 = .ok (.iaload, 1) := by decide +kernel
theorem dX5_sentence_130 : decode cX5_sentence 130 = .ok (.iadd, 1) := by decide +kernel
theorem dX5_sentence_131 : decode cX5_sentence 131 = .ok (.istore 5, 2) := by decide +kernel
theorem dX5_sentence_133 : decode cX5_sentence 133 = .ok (.iinc 6 1, 3) := by decide +kernel
theorem dX5_sentence_136 : decode cX5_sentence 136 = .ok (.goto (-24), 3) := by decide +kernel
theorem dX5_sentence_139 : decode cX5_sentence 139 = .ok (.iload 5, 2) := by decide +kernel
theorem dX5_sentence_141 : decode cX5_sentence 141 = .ok (.ireturn, 1) := by decide +kernel
set_option maxRecDepth 20000 in
theorem ggX5_share_X5_isShort : GoodIn wsX5_share wsX5_isShort := goodIn_r _ [5] (by decide +kernel) (by decide +kernel)
set_option maxRecDepth 20000 in
theorem gX5_share_X5_isShort : GoodIn wsX5_share (va_wsS RX5 131 yX5_isShort wsX5_isShort) := goodIn_app (goodIn_of _ (by decide +kernel)) ggX5_share_X5_isShort
set_option maxRecDepth 20000 in
theorem ggX5_share_X5_goes : GoodIn wsX5_share wsX5_goes := goodIn_r _ [9, 10, 55, 56, 57, 58, 59, 60, 61, 62, 63, 64, 65, 66, 67, 68, 69] (by decide +kernel) (by decide +kernel)
set_option maxRecDepth 20000 in
theorem gX5_share_X5_goes : GoodIn wsX5_share (wsV RX5 55 RX5 yX5_goes wsX5_goes) := goodIn_app (goodIn_of _ (by decide +kernel)) ggX5_share_X5_goes
set_option maxRecDepth 20000 in
theorem ggX5_share_X5_sentencesOf : GoodIn wsX5_share wsX5_sentencesOf := goodIn_r _ [14, 15, 16, 17, 4, 18, 1, 19, 20, 21, 22, 23, 24, 25, 26, 27, 28, 29, 30, 31, 32, 33, 34, 35, 36, 37, 38, 39, 40, 41, 42, 43, 44, 45, 46, 47, 48, 49, 50, 51, 52, 53, 54, 55, 56, 57, 58, 59, 60, 61, 62, 63, 64, 65, 66, 67, 68, 69] (by decide +kernel) (by decide +kernel)
set_option maxRecDepth 20000 in
theorem gX5_share_X5_sentencesOf : GoodIn wsX5_share (wsV RX5 134 RX5 yX5_sentencesOf wsX5_sentencesOf) := goodIn_app (goodIn_of _ (by decide +kernel)) ggX5_share_X5_sentencesOf
set_option maxRecDepth 20000 in
theorem ggX5_share_X5_rows : GoodIn wsX5_share wsX5_rows := goodIn_r _ [18, 1, 55, 56, 57, 58, 59, 60, 61, 62, 63, 64, 65, 66, 67, 68, 69] (by decide +kernel) (by decide +kernel)
set_option maxRecDepth 20000 in
theorem gX5_share_X5_rows : GoodIn wsX5_share (wsV RX5 119 RX5 yX5_rows wsX5_rows) := goodIn_app (goodIn_of _ (by decide +kernel)) ggX5_share_X5_rows
theorem dX5_share_0 : decode cX5_share 0 = .ok (.aload_n 0, 1) := by decide +kernel
theorem dX5_share_1 : decode cX5_share 1 = .ok (.iload_n 1, 1) := by decide +kernel
theorem dX5_share_2 : decode cX5_share 2 = .ok (.invokestatic 131, 3) := by decide +kernel
theorem dX5_share_5 : decode cX5_share 5 = .ok (.iconst 1, 1) := by decide +kernel
theorem dX5_share_6 : decode cX5_share 6 = .ok (.invokevirtual 55, 3) := by decide +kernel
theorem dX5_share_9 : decode cX5_share 9 = .ok (.ifCond .ne 5, 3) := by decide +kernel
theorem dX5_share_12 : decode cX5_share 12 = .ok (.fconst 0, 1) := by decide +kernel
theorem dX5_share_13 : decode cX5_share 13 = .ok (.freturn, 1) := by decide +kernel
theorem dX5_share_14 : decode cX5_share 14 = .ok (.aload_n 0, 1) := by decide +kernel
theorem dX5_share_15 : decode cX5_share 15 = .ok (.getfield 45, 3) := by decide +kernel
theorem dX5_share_18 : decode cX5_share 18 = .ok (.ifCond .ne 7, 3) := by decide +kernel
theorem dX5_share_21 : decode cX5_share 21 = .ok (.fconst 0, 1) := by decide +kernel
theorem dX5_share_22 : decode cX5_share 22 = .ok (.goto 16, 3) := by decide +kernel
theorem dX5_share_25 : decode cX5_share 25 = .ok (.aload_n 0, 1) := by decide +kernel
theorem dX5_share_26 : decode cX5_share 26 = .ok (.iload_n 1, 1) := by decide +kernel
theorem dX5_share_27 : decode cX5_share 27 = .ok (.invokevirtual 134, 3) := by decide +kernel
theorem dX5_share_30 : decode cX5_share 30 = .ok (.i2f, 1) := by decide +kernel
theorem dX5_share_31 : decode cX5_share 31 = .ok (.aload_n 0, 1) := by decide +kernel
theorem dX5_share_32 : decode cX5_share 32 = .ok (.iload_n 1, 1) := by decide +kernel
theorem dX5_share_33 : decode cX5_share 33 = .ok (.invokevirtual 119, 3) := by decide +kernel
theorem dX5_share_36 : decode cX5_share 36 = .ok (.i2f, 1) := by decide +kernel
theorem dX5_share_37 : decode cX5_share 37 = .ok (.fdiv, 1) := by decide +kernel
theorem dX5_share_38 : decode cX5_share 38 = .ok (.freturn, 1) := by decide +kernel
set_option maxRecDepth 20000 in
theorem ggX5_spoil_X5_isPlace : GoodIn wsX5_spoil wsX5_isPlace := goodIn_r _ [9, 10, 50, 51, 52, 53, 54, 55, 56, 57, 58, 59, 60, 61, 62, 63, 64] (by decide +kernel) (by decide +kernel)
set_option maxRecDepth 20000 in
theorem gX5_spoil_X5_isPlace : GoodIn wsX5_spoil (wsV RX5 72 RX5 yX5_isPlace wsX5_isPlace) := goodIn_app (goodIn_of _ (by decide +kernel)) ggX5_spoil_X5_isPlace
set_option maxRecDepth 20000 in
theorem ggX5_spoil_X5_goes : GoodIn wsX5_spoil wsX5_goes := goodIn_r _ [14, 15, 50, 51, 52, 53, 54, 55, 56, 57, 58, 59, 60, 61, 62, 63, 64] (by decide +kernel) (by decide +kernel)
set_option maxRecDepth 20000 in
theorem gX5_spoil_X5_goes : GoodIn wsX5_spoil (wsV RX5 55 RX5 yX5_goes wsX5_goes) := goodIn_app (goodIn_of _ (by decide +kernel)) ggX5_spoil_X5_goes
set_option maxRecDepth 20000 in
theorem ggX5_spoil_X5_takes : GoodIn wsX5_spoil wsX5_takes := goodIn_r _ [19, 10, 20, 4, 2, 50, 51, 52, 53, 54, 55, 56, 57, 58, 59, 60, 61, 62, 63, 64] (by decide +kernel) (by decide +kernel)
set_option maxRecDepth 20000 in
theorem gX5_spoil_X5_takes : GoodIn wsX5_spoil (wsV RX5 100 RX5 yX5_takes wsX5_takes) := goodIn_app (goodIn_of _ (by decide +kernel)) ggX5_spoil_X5_takes
set_option maxRecDepth 20000 in
theorem ggX5_spoil_X5_isSentence : GoodIn wsX5_spoil wsX5_isSentence := goodIn_r _ [24, 25, 20, 26, 27, 28, 29, 8, 30, 3, 4, 31, 32, 33, 34, 35, 36, 37, 38, 39, 40, 41, 42, 43, 44, 45, 46, 47, 48, 49, 50, 51, 52, 53, 54, 55, 56, 57, 58, 59, 60, 61, 62, 63, 64] (by decide +kernel) (by decide +kernel)
set_option maxRecDepth 20000 in
theorem gX5_spoil_X5_isSentence : GoodIn wsX5_spoil (wsV RX5 127 RX5 yX5_isSentence wsX5_isSentence) := goodIn_app (goodIn_of _ (by decide +kernel)) ggX5_spoil_X5_isSentence
theorem dX5_spoil_0 : decode cX5_spoil 0 = .ok (.aload_n 0, 1) := by decide +kernel
theorem dX5_spoil_1 : decode cX5_spoil 1 = .ok (.aload_n 0, 1) := by decide +kernel
theorem dX5_spoil_2 : decode cX5_spoil 2 = .ok (.iload_n 1, 1) := by decide +kernel
theorem dX5_spoil_3 : decode cX5_spoil 3 = .ok (.invokevirtual 72, 3) := by decide +kernel
theorem dX5_spoil_6 : decode cX5_spoil 6 = .ok (.iconst 1, 1) := by decide +kernel
theorem dX5_spoil_7 : decode cX5_spoil 7 = .ok (.invokevirtual 55, 3) := by decide +kernel
theorem dX5_spoil_10 : decode cX5_spoil 10 = .ok (.ifCond .ne 5, 3) := by decide +kernel
theorem dX5_spoil_13 : decode cX5_spoil 13 = .ok (.iconst 0, 1) := by decide +kernel
theorem dX5_spoil_14 : decode cX5_spoil 14 = .ok (.ireturn, 1) := by decide +kernel
theorem dX5_spoil_15 : decode cX5_spoil 15 = .ok (.aload_n 0, 1) := by decide +kernel
theorem dX5_spoil_16 : decode cX5_spoil 16 = .ok (.invokevirtual 100, 3) := by decide +kernel
theorem dX5_spoil_19 : decode cX5_spoil 19 = .ok (.aload_n 0, 1) := by decide +kernel
theorem dX5_spoil_20 : decode cX5_spoil 20 = .ok (.invokevirtual 127, 3) := by decide +kernel
theorem dX5_spoil_23 : decode cX5_spoil 23 = .ok (.ifCond .ne 5, 3) := by decide +kernel
theorem dX5_spoil_26 : decode cX5_spoil 26 = .ok (.iconst (-1), 1) := by decide +kernel
theorem dX5_spoil_27 : decode cX5_spoil 27 = .ok (.ireturn, 1) := by decide +kernel
theorem dX5_spoil_28 : decode cX5_spoil 28 = .ok (.iconst (-1), 1) := by decide +kernel
theorem dX5_spoil_29 : decode cX5_spoil 29 = .ok (.istore_n 2, 1) := by decide +kernel
theorem dX5_spoil_30 : decode cX5_spoil 30 = .ok (.aload_n 0, 1) := by decide +kernel
theorem dX5_spoil_31 : decode cX5_spoil 31 = .ok (.getfield 45, 3) := by decide +kernel
theorem dX5_spoil_34 : decode cX5_spoil 34 = .ok (.iconst 1, 1) := by decide +kernel
theorem dX5_spoil_35 : decode cX5_spoil 35 = .ok (.isub, 1) := by decide +kernel
theorem dX5_spoil_36 : decode cX5_spoil 36 = .ok (.istore_n 3, 1) := by decide +kernel
theorem dX5_spoil_37 : decode cX5_spoil 37 = .ok (.iload_n 3, 1) := by decide +kernel
theorem dX5_spoil_38 : decode cX5_spoil 38 = .ok (.ifCond .lt 59, 3) := by decide +kernel
theorem dX5_spoil_41 : decode cX5_spoil 41 = .ok (.iload_n 3, 1) := by decide +kernel
theorem dX5_spoil_42 : decode cX5_spoil 42 = .ok (.aload_n 0, 1) := by decide +kernel
theorem dX5_spoil_43 : decode cX5_spoil 43 = .ok (.getfield 28, 3) := by decide +kernel
theorem dX5_spoil_46 : decode cX5_spoil 46 = .ok (.iload_n 1, 1) := by decide +kernel
theorem dX5_spoil_47 : decode cX5_spoil 47 = .ok (.iaload, 1) := by decide +kernel
theorem dX5_spoil_48 : decode cX5_spoil 48 = .ok (.if_icmp .eq 43, 3) := by decide +kernel
theorem dX5_spoil_51 : decode cX5_spoil 51 = .ok (.aload_n 0, 1) := by decide +kernel
theorem dX5_spoil_52 : decode cX5_spoil 52 = .ok (.getfield 7, 3) := by decide +kernel
theorem dX5_spoil_55 : decode cX5_spoil 55 = .ok (.iload_n 3, 1) := by decide +kernel
theorem dX5_spoil_56 : decode cX5_spoil 56 = .ok (.iaload, 1) := by decide +kernel
theorem dX5_spoil_57 : decode cX5_spoil 57 = .ok (.aload_n 0, 1) := by decide +kernel
theorem dX5_spoil_58 : decode cX5_spoil 58 = .ok (.getfield 7, 3) := by decide +kernel
theorem dX5_spoil_61 : decode cX5_spoil 61 = .ok (.aload_n 0, 1) := by decide +kernel
theorem dX5_spoil_62 : decode cX5_spoil 62 = .ok (.getfield 28, 3) := by decide +kernel
theorem dX5_spoil_65 : decode cX5_spoil 65 = .ok (.iload_n 1, 1) := by decide +kernel
theorem dX5_spoil_66 : decode cX5_spoil 66 = .ok (.iaload, 1) := by decide +kernel
theorem dX5_spoil_67 : decode cX5_spoil 67 = .ok (.iaload, 1) := by decide +kernel
theorem dX5_spoil_68 : decode cX5_spoil 68 = .ok (.if_icmp .ne 23, 3) := by decide +kernel
theorem dX5_spoil_71 : decode cX5_spoil 71 = .ok (.aload_n 0, 1) := by decide +kernel
theorem dX5_spoil_72 : decode cX5_spoil 72 = .ok (.getfield 31, 3) := by decide +kernel
theorem dX5_spoil_75 : decode cX5_spoil 75 = .ok (.iload_n 1, 1) := by decide +kernel
theorem dX5_spoil_76 : decode cX5_spoil 76 = .ok (.iload_n 3, 1) := by decide +kernel
theorem dX5_spoil_77 : decode cX5_spoil 77 = .ok (.iastore, 1) := by decide +kernel
theorem dX5_spoil_78 : decode cX5_spoil 78 = .ok (.aload_n 0, 1) := by decide +kernel
theorem dX5_spoil_79 : decode cX5_spoil 79 = .ok (.invokevirtual 127, 3) := by decide +kernel
theorem dX5_spoil_82 : decode cX5_spoil 82 = .ok (.ifCond .eq 7, 3) := by decide +kernel
theorem dX5_spoil_85 : decode cX5_spoil 85 = .ok (.iload_n 2, 1) := by decide +kernel
theorem dX5_spoil_86 : decode cX5_spoil 86 = .ok (.goto 4, 3) := by decide +kernel
theorem dX5_spoil_89 : decode cX5_spoil 89 = .ok (.iload_n 3, 1) := by decide +kernel
theorem dX5_spoil_90 : decode cX5_spoil 90 = .ok (.istore_n 2, 1) := by decide +kernel
theorem dX5_spoil_91 : decode cX5_spoil 91 = .ok (.iinc 3 (-1), 3) := by decide +kernel
theorem dX5_spoil_94 : decode cX5_spoil 94 = .ok (.goto (-57), 3) := by decide +kernel
theorem dX5_spoil_97 : decode cX5_spoil 97 = .ok (.iload_n 2, 1) := by decide +kernel
theorem dX5_spoil_98 : decode cX5_spoil 98 = .ok (.ireturn, 1) := by decide +kernel
set_option maxRecDepth 20000 in
theorem ggX5_changes_X5_takes : GoodIn wsX5_changes wsX5_takes := goodIn_r _ [9, 2, 10, 4, 11, 42, 43, 44, 45, 46, 47, 48, 49, 50, 51, 52, 53, 54, 55, 56] (by decide +kernel) (by decide +kernel)
set_option maxRecDepth 20000 in
theorem gX5_changes_X5_takes : GoodIn wsX5_changes (wsV RX5 100 RX5 yX5_takes wsX5_takes) := goodIn_app (goodIn_of _ (by decide +kernel)) ggX5_changes_X5_takes
set_option maxRecDepth 20000 in
theorem ggX5_changes_X5_isSentence : GoodIn wsX5_changes wsX5_isSentence := goodIn_r _ [15, 16, 10, 17, 18, 19, 20, 8, 21, 22, 4, 23, 24, 25, 26, 27, 28, 29, 30, 31, 32, 33, 34, 35, 36, 37, 38, 39, 40, 41, 42, 43, 44, 45, 46, 47, 48, 49, 50, 51, 52, 53, 54, 55, 56] (by decide +kernel) (by decide +kernel)
set_option maxRecDepth 20000 in
theorem gX5_changes_X5_isSentence : GoodIn wsX5_changes (wsV RX5 127 RX5 yX5_isSentence wsX5_isSentence) := goodIn_app (goodIn_of _ (by decide +kernel)) ggX5_changes_X5_isSentence
theorem dX5_changes_0 : decode cX5_changes 0 = .ok (.aload_n 0, 1) := by decide +kernel
theorem dX5_changes_1 : decode cX5_changes 1 = .ok (.iconst 0, 1) := by decide +kernel
theorem dX5_changes_2 : decode cX5_changes 2 = .ok (.putfield 41, 3) := by decide +kernel
theorem dX5_changes_5 : decode cX5_changes 5 = .ok (.aload_n 0, 1) := by decide +kernel
theorem dX5_changes_6 : decode cX5_changes 6 = .ok (.invokevirtual 100, 3) := by decide +kernel
theorem dX5_changes_9 : decode cX5_changes 9 = .ok (.aload_n 0, 1) := by decide +kernel
theorem dX5_changes_10 : decode cX5_changes 10 = .ok (.invokevirtual 127, 3) := by decide +kernel
theorem dX5_changes_13 : decode cX5_changes 13 = .ok (.ifCond .eq 5, 3) := by decide +kernel
theorem dX5_changes_16 : decode cX5_changes 16 = .ok (.iconst 0, 1) := by decide +kernel
theorem dX5_changes_17 : decode cX5_changes 17 = .ok (.ireturn, 1) := by decide +kernel
theorem dX5_changes_18 : decode cX5_changes 18 = .ok (.iconst (-1), 1) := by decide +kernel
theorem dX5_changes_19 : decode cX5_changes 19 = .ok (.istore_n 1, 1) := by decide +kernel
theorem dX5_changes_20 : decode cX5_changes 20 = .ok (.iconst 0, 1) := by decide +kernel
theorem dX5_changes_21 : decode cX5_changes 21 = .ok (.istore_n 2, 1) := by decide +kernel
theorem dX5_changes_22 : decode cX5_changes 22 = .ok (.iload_n 2, 1) := by decide +kernel
theorem dX5_changes_23 : decode cX5_changes 23 = .ok (.aload_n 0, 1) := by decide +kernel
theorem dX5_changes_24 : decode cX5_changes 24 = .ok (.getfield 69, 3) := by decide +kernel
theorem dX5_changes_27 : decode cX5_changes 27 = .ok (.if_icmp .ge 49, 3) := by decide +kernel
theorem dX5_changes_30 : decode cX5_changes 30 = .ok (.iconst 0, 1) := by decide +kernel
theorem dX5_changes_31 : decode cX5_changes 31 = .ok (.istore_n 3, 1) := by decide +kernel
theorem dX5_changes_32 : decode cX5_changes 32 = .ok (.iload_n 3, 1) := by decide +kernel
theorem dX5_changes_33 : decode cX5_changes 33 = .ok (.aload_n 0, 1) := by decide +kernel
theorem dX5_changes_34 : decode cX5_changes 34 = .ok (.getfield 45, 3) := by decide +kernel
theorem dX5_changes_37 : decode cX5_changes 37 = .ok (.if_icmp .ge 33, 3) := by decide +kernel
theorem dX5_changes_40 : decode cX5_changes 40 = .ok (.aload_n 0, 1) := by decide +kernel
theorem dX5_changes_41 : decode cX5_changes 41 = .ok (.invokevirtual 100, 3) := by decide +kernel
theorem dX5_changes_44 : decode cX5_changes 44 = .ok (.aload_n 0, 1) := by decide +kernel
theorem dX5_changes_45 : decode cX5_changes 45 = .ok (.getfield 31, 3) := by decide +kernel
theorem dX5_changes_48 : decode cX5_changes 48 = .ok (.iload_n 2, 1) := by decide +kernel
theorem dX5_changes_49 : decode cX5_changes 49 = .ok (.iload_n 3, 1) := by decide +kernel
theorem dX5_changes_50 : decode cX5_changes 50 = .ok (.iastore, 1) := by decide +kernel
theorem dX5_changes_51 : decode cX5_changes 51 = .ok (.aload_n 0, 1) := by decide +kernel
theorem dX5_changes_52 : decode cX5_changes 52 = .ok (.invokevirtual 127, 3) := by decide +kernel
theorem dX5_changes_55 : decode cX5_changes 55 = .ok (.ifCond .eq 7, 3) := by decide +kernel
theorem dX5_changes_58 : decode cX5_changes 58 = .ok (.iconst 1, 1) := by decide +kernel
theorem dX5_changes_59 : decode cX5_changes 59 = .ok (.goto 4, 3) := by decide +kernel
theorem dX5_changes_62 : decode cX5_changes 62 = .ok (.iload_n 1, 1) := by decide +kernel
theorem dX5_changes_63 : decode cX5_changes 63 = .ok (.istore_n 1, 1) := by decide +kernel
theorem dX5_changes_64 : decode cX5_changes 64 = .ok (.iinc 3 1, 3) := by decide +kernel
theorem dX5_changes_67 : decode cX5_changes 67 = .ok (.goto (-35), 3) := by decide +kernel
theorem dX5_changes_70 : decode cX5_changes 70 = .ok (.iinc 2 1, 3) := by decide +kernel
theorem dX5_changes_73 : decode cX5_changes 73 = .ok (.goto (-51), 3) := by decide +kernel
theorem dX5_changes_76 : decode cX5_changes 76 = .ok (.iconst 0, 1) := by decide +kernel
theorem dX5_changes_77 : decode cX5_changes 77 = .ok (.istore_n 2, 1) := by decide +kernel
theorem dX5_changes_78 : decode cX5_changes 78 = .ok (.iload_n 2, 1) := by decide +kernel
theorem dX5_changes_79 : decode cX5_changes 79 = .ok (.aload_n 0, 1) := by decide +kernel
theorem dX5_changes_80 : decode cX5_changes 80 = .ok (.getfield 69, 3) := by decide +kernel
theorem dX5_changes_83 : decode cX5_changes 83 = .ok (.if_icmp .ge 105, 3) := by decide +kernel
theorem dX5_changes_86 : decode cX5_changes 86 = .ok (.iload_n 1, 1) := by decide +kernel
theorem dX5_changes_87 : decode cX5_changes 87 = .ok (.ifCond .ge 101, 3) := by decide +kernel
theorem dX5_changes_90 : decode cX5_changes 90 = .ok (.iload_n 2, 1) := by decide +kernel
theorem dX5_changes_91 : decode cX5_changes 91 = .ok (.iconst 1, 1) := by decide +kernel
theorem dX5_changes_92 : decode cX5_changes 92 = .ok (.iadd, 1) := by decide +kernel
theorem dX5_changes_93 : decode cX5_changes 93 = .ok (.istore_n 3, 1) := by decide +kernel
theorem dX5_changes_94 : decode cX5_changes 94 = .ok (.iload_n 3, 1) := by decide +kernel
theorem dX5_changes_95 : decode cX5_changes 95 = .ok (.aload_n 0, 1) := by decide +kernel
theorem dX5_changes_96 : decode cX5_changes 96 = .ok (.getfield 69, 3) := by decide +kernel
theorem dX5_changes_99 : decode cX5_changes 99 = .ok (.if_icmp .ge 83, 3) := by decide +kernel
theorem dX5_changes_102 : decode cX5_changes 102 = .ok (.iload_n 1, 1) := by decide +kernel
theorem dX5_changes_103 : decode cX5_changes 103 = .ok (.ifCond .ge 79, 3) := by decide +kernel
theorem dX5_changes_106 : decode cX5_changes 106 = .ok (.aload_n 0, 1) := by decide +kernel
theorem dX5_changes_107 : decode cX5_changes 107 = .ok (.invokevirtual 100, 3) := by decide +kernel
theorem dX5_changes_110 : decode cX5_changes 110 = .ok (.iconst 0, 1) := by decide +kernel
theorem dX5_changes_111 : decode cX5_changes 111 = .ok (.istore 4, 2) := by decide +kernel
theorem dX5_changes_113 : decode cX5_changes 113 = .ok (.iload 4, 2) := by decide +kernel
theorem dX5_changes_115 : decode cX5_changes 115 = .ok (.aload_n 0, 1) := by decide +kernel
theorem dX5_changes_116 : decode cX5_changes 116 = .ok (.getfield 45, 3) := by decide +kernel
theorem dX5_changes_119 : decode cX5_changes 119 = .ok (.aload_n 0, 1) := by decide +kernel
theorem dX5_changes_120 : decode cX5_changes 120 = .ok (.getfield 45, 3) := by decide +kernel
theorem dX5_changes_123 : decode cX5_changes 123 = .ok (.imul, 1) := by decide +kernel
theorem dX5_changes_124 : decode cX5_changes 124 = .ok (.if_icmp .ge 52, 3) := by decide +kernel
theorem dX5_changes_127 : decode cX5_changes 127 = .ok (.iload_n 1, 1) := by decide +kernel
theorem dX5_changes_128 : decode cX5_changes 128 = .ok (.ifCond .ge 48, 3) := by decide +kernel
theorem dX5_changes_131 : decode cX5_changes 131 = .ok (.aload_n 0, 1) := by decide +kernel
theorem dX5_changes_132 : decode cX5_changes 132 = .ok (.getfield 31, 3) := by decide +kernel
theorem dX5_changes_135 : decode cX5_changes 135 = .ok (.iload_n 2, 1) := by decide +kernel
theorem dX5_changes_136 : decode cX5_changes 136 = .ok (.iload 4, 2) := by decide +kernel
theorem dX5_changes_138 : decode cX5_changes 138 = .ok (.aload_n 0, 1) := by decide +kernel
theorem dX5_changes_139 : decode cX5_changes 139 = .ok (.getfield 45, 3) := by decide +kernel
theorem dX5_changes_142 : decode cX5_changes 142 = .ok (.idiv, 1) := by decide +kernel
theorem dX5_changes_143 : decode cX5_changes 143 = .ok (.iastore, 1) := by decide +kernel
theorem dX5_changes_144 : decode cX5_changes 144 = .ok (.aload_n 0, 1) := by decide +kernel
theorem dX5_changes_145 : decode cX5_changes 145 = .ok (.getfield 31, 3) := by decide +kernel
theorem dX5_changes_148 : decode cX5_changes 148 = .ok (.iload_n 3, 1) := by decide +kernel
theorem dX5_changes_149 : decode cX5_changes 149 = .ok (.iload 4, 2) := by decide +kernel
theorem dX5_changes_151 : decode cX5_changes 151 = .ok (.aload_n 0, 1) := by decide +kernel
theorem dX5_changes_152 : decode cX5_changes 152 = .ok (.getfield 45, 3) := by decide +kernel
theorem dX5_changes_155 : decode cX5_changes 155 = .ok (.irem, 1) := by decide +kernel
theorem dX5_changes_156 : decode cX5_changes 156 = .ok (.iastore, 1) := by decide +kernel
theorem dX5_changes_157 : decode cX5_changes 157 = .ok (.aload_n 0, 1) := by decide +kernel
theorem dX5_changes_158 : decode cX5_changes 158 = .ok (.invokevirtual 127, 3) := by decide +kernel
theorem dX5_changes_161 : decode cX5_changes 161 = .ok (.ifCond .eq 7, 3) := by decide +kernel
theorem dX5_changes_164 : decode cX5_changes 164 = .ok (.iconst 2, 1) := by decide +kernel
theorem dX5_changes_165 : decode cX5_changes 165 = .ok (.goto 4, 3) := by decide +kernel
theorem dX5_changes_168 : decode cX5_changes 168 = .ok (.iconst (-1), 1) := by decide +kernel
theorem dX5_changes_169 : decode cX5_changes 169 = .ok (.istore_n 1, 1) := by decide +kernel
theorem dX5_changes_170 : decode cX5_changes 170 = .ok (.iinc 4 1, 3) := by decide +kernel
theorem dX5_changes_173 : decode cX5_changes 173 = .ok (.goto (-60), 3) := by decide +kernel
theorem dX5_changes_176 : decode cX5_changes 176 = .ok (.iinc 3 1, 3) := by decide +kernel
theorem dX5_changes_179 : decode cX5_changes 179 = .ok (.goto (-85), 3) := by decide +kernel
theorem dX5_changes_182 : decode cX5_changes 182 = .ok (.iinc 2 1, 3) := by decide +kernel
theorem dX5_changes_185 : decode cX5_changes 185 = .ok (.goto (-107), 3) := by decide +kernel
theorem dX5_changes_188 : decode cX5_changes 188 = .ok (.iload_n 1, 1) := by decide +kernel
theorem dX5_changes_189 : decode cX5_changes 189 = .ok (.ireturn, 1) := by decide +kernel
set_option maxRecDepth 20000 in
theorem ggX5_correction_X5_goes : GoodIn wsX5_correction wsX5_goes := goodIn_r _ [9, 10, 46, 47, 48, 49, 50, 51, 52, 53, 54, 55, 56, 57, 58, 59, 60] (by decide +kernel) (by decide +kernel)
set_option maxRecDepth 20000 in
theorem gX5_correction_X5_goes : GoodIn wsX5_correction (wsV RX5 55 RX5 yX5_goes wsX5_goes) := goodIn_app (goodIn_of _ (by decide +kernel)) ggX5_correction_X5_goes
set_option maxRecDepth 20000 in
theorem ggX5_correction_X5_takes : GoodIn wsX5_correction wsX5_takes := goodIn_r _ [14, 1, 15, 3, 4, 46, 47, 48, 49, 50, 51, 52, 53, 54, 55, 56, 57, 58, 59, 60] (by decide +kernel) (by decide +kernel)
set_option maxRecDepth 20000 in
theorem gX5_correction_X5_takes : GoodIn wsX5_correction (wsV RX5 100 RX5 yX5_takes wsX5_takes) := goodIn_app (goodIn_of _ (by decide +kernel)) ggX5_correction_X5_takes
set_option maxRecDepth 20000 in
theorem ggX5_correction_X5_isSentence : GoodIn wsX5_correction wsX5_isSentence := goodIn_r _ [19, 20, 15, 21, 22, 23, 24, 8, 25, 26, 3, 27, 28, 29, 30, 31, 32, 33, 34, 35, 36, 37, 38, 39, 40, 41, 42, 43, 44, 45, 46, 47, 48, 49, 50, 51, 52, 53, 54, 55, 56, 57, 58, 59, 60] (by decide +kernel) (by decide +kernel)
set_option maxRecDepth 20000 in
theorem gX5_correction_X5_isSentence : GoodIn wsX5_correction (wsV RX5 127 RX5 yX5_isSentence wsX5_isSentence) := goodIn_app (goodIn_of _ (by decide +kernel)) ggX5_correction_X5_isSentence
theorem dX5_correction_0 : decode cX5_correction 0 = .ok (.aload_n 0, 1) := by decide +kernel
theorem dX5_correction_1 : decode cX5_correction 1 = .ok (.iload_n 1, 1) := by decide +kernel
theorem dX5_correction_2 : decode cX5_correction 2 = .ok (.ifCond .lt 7, 3) := by decide +kernel
theorem dX5_correction_5 : decode cX5_correction 5 = .ok (.iconst 1, 1) := by decide +kernel
theorem dX5_correction_6 : decode cX5_correction 6 = .ok (.goto 4, 3) := by decide +kernel
theorem dX5_correction_9 : decode cX5_correction 9 = .ok (.iconst 0, 1) := by decide +kernel
theorem dX5_correction_10 : decode cX5_correction 10 = .ok (.iconst 1, 1) := by decide +kernel
theorem dX5_correction_11 : decode cX5_correction 11 = .ok (.invokevirtual 55, 3) := by decide +kernel
theorem dX5_correction_14 : decode cX5_correction 14 = .ok (.ifCond .ne 5, 3) := by decide +kernel
theorem dX5_correction_17 : decode cX5_correction 17 = .ok (.iconst 0, 1) := by decide +kernel
theorem dX5_correction_18 : decode cX5_correction 18 = .ok (.ireturn, 1) := by decide +kernel
theorem dX5_correction_19 : decode cX5_correction 19 = .ok (.iload_n 1, 1) := by decide +kernel
theorem dX5_correction_20 : decode cX5_correction 20 = .ok (.istore_n 2, 1) := by decide +kernel
theorem dX5_correction_21 : decode cX5_correction 21 = .ok (.iconst (-1), 1) := by decide +kernel
theorem dX5_correction_22 : decode cX5_correction 22 = .ok (.istore_n 3, 1) := by decide +kernel
theorem dX5_correction_23 : decode cX5_correction 23 = .ok (.iconst 0, 1) := by decide +kernel
theorem dX5_correction_24 : decode cX5_correction 24 = .ok (.istore 4, 2) := by decide +kernel
theorem dX5_correction_26 : decode cX5_correction 26 = .ok (.iload 4, 2) := by decide +kernel
theorem dX5_correction_28 : decode cX5_correction 28 = .ok (.aload_n 0, 1) := by decide +kernel
theorem dX5_correction_29 : decode cX5_correction 29 = .ok (.getfield 69, 3) := by decide +kernel
theorem dX5_correction_32 : decode cX5_correction 32 = .ok (.if_icmp .ge 105, 3) := by decide +kernel
theorem dX5_correction_35 : decode cX5_correction 35 = .ok (.aload_n 0, 1) := by decide +kernel
theorem dX5_correction_36 : decode cX5_correction 36 = .ok (.invokevirtual 100, 3) := by decide +kernel
theorem dX5_correction_39 : decode cX5_correction 39 = .ok (.iconst 0, 1) := by decide +kernel
theorem dX5_correction_40 : decode cX5_correction 40 = .ok (.istore 5, 2) := by decide +kernel
theorem dX5_correction_42 : decode cX5_correction 42 = .ok (.iload 5, 2) := by decide +kernel
theorem dX5_correction_44 : decode cX5_correction 44 = .ok (.aload_n 0, 1) := by decide +kernel
theorem dX5_correction_45 : decode cX5_correction 45 = .ok (.getfield 45, 3) := by decide +kernel
theorem dX5_correction_48 : decode cX5_correction 48 = .ok (.if_icmp .ge 83, 3) := by decide +kernel
theorem dX5_correction_51 : decode cX5_correction 51 = .ok (.iload_n 3, 1) := by decide +kernel
theorem dX5_correction_52 : decode cX5_correction 52 = .ok (.ifCond .ge 79, 3) := by decide +kernel
theorem dX5_correction_55 : decode cX5_correction 55 = .ok (.aload_n 0, 1) := by decide +kernel
theorem dX5_correction_56 : decode cX5_correction 56 = .ok (.getfield 31, 3) := by decide +kernel
theorem dX5_correction_59 : decode cX5_correction 59 = .ok (.iload 4, 2) := by decide +kernel
theorem dX5_correction_61 : decode cX5_correction 61 = .ok (.iload 5, 2) := by decide +kernel
theorem dX5_correction_63 : decode cX5_correction 63 = .ok (.iastore, 1) := by decide +kernel
theorem dX5_correction_64 : decode cX5_correction 64 = .ok (.iload 5, 2) := by decide +kernel
theorem dX5_correction_66 : decode cX5_correction 66 = .ok (.aload_n 0, 1) := by decide +kernel
theorem dX5_correction_67 : decode cX5_correction 67 = .ok (.getfield 28, 3) := by decide +kernel
theorem dX5_correction_70 : decode cX5_correction 70 = .ok (.iload 4, 2) := by decide +kernel
theorem dX5_correction_72 : decode cX5_correction 72 = .ok (.iaload, 1) := by decide +kernel
theorem dX5_correction_73 : decode cX5_correction 73 = .ok (.if_icmp .eq 14, 3) := by decide +kernel
theorem dX5_correction_76 : decode cX5_correction 76 = .ok (.aload_n 0, 1) := by decide +kernel
theorem dX5_correction_77 : decode cX5_correction 77 = .ok (.invokevirtual 127, 3) := by decide +kernel
theorem dX5_correction_80 : decode cX5_correction 80 = .ok (.ifCond .eq 7, 3) := by decide +kernel
theorem dX5_correction_83 : decode cX5_correction 83 = .ok (.iconst 1, 1) := by decide +kernel
theorem dX5_correction_84 : decode cX5_correction 84 = .ok (.goto 4, 3) := by decide +kernel
theorem dX5_correction_87 : decode cX5_correction 87 = .ok (.iconst 0, 1) := by decide +kernel
theorem dX5_correction_88 : decode cX5_correction 88 = .ok (.istore 6, 2) := by decide +kernel
theorem dX5_correction_90 : decode cX5_correction 90 = .ok (.iload 6, 2) := by decide +kernel
theorem dX5_correction_92 : decode cX5_correction 92 = .ok (.ifCond .eq 18, 3) := by decide +kernel
theorem dX5_correction_95 : decode cX5_correction 95 = .ok (.iload_n 2, 1) := by decide +kernel
theorem dX5_correction_96 : decode cX5_correction 96 = .ok (.ifCond .ne 14, 3) := by decide +kernel
theorem dX5_correction_99 : decode cX5_correction 99 = .ok (.bipush 10, 2) := by decide +kernel
theorem dX5_correction_101 : decode cX5_correction 101 = .ok (.iload 4, 2) := by decide +kernel
theorem dX5_correction_103 : decode cX5_correction 103 = .ok (.imul, 1) := by decide +kernel
theorem dX5_correction_104 : decode cX5_correction 104 = .ok (.iload 5, 2) := by decide +kernel
theorem dX5_correction_106 : decode cX5_correction 106 = .ok (.iadd, 1) := by decide +kernel
theorem dX5_correction_107 : decode cX5_correction 107 = .ok (.goto 4, 3) := by decide +kernel
theorem dX5_correction_110 : decode cX5_correction 110 = .ok (.iconst (-1), 1) := by decide +kernel
theorem dX5_correction_111 : decode cX5_correction 111 = .ok (.istore_n 3, 1) := by decide +kernel
theorem dX5_correction_112 : decode cX5_correction 112 = .ok (.iload_n 2, 1) := by decide +kernel
theorem dX5_correction_113 : decode cX5_correction 113 = .ok (.iload 6, 2) := by decide +kernel
theorem dX5_correction_115 : decode cX5_correction 115 = .ok (.ifCond .eq 7, 3) := by decide +kernel
theorem dX5_correction_118 : decode cX5_correction 118 = .ok (.iconst 1, 1) := by decide +kernel
theorem dX5_correction_119 : decode cX5_correction 119 = .ok (.goto 4, 3) := by decide +kernel
theorem dX5_correction_122 : decode cX5_correction 122 = .ok (.iconst 0, 1) := by decide +kernel
theorem dX5_correction_123 : decode cX5_correction 123 = .ok (.isub, 1) := by decide +kernel
theorem dX5_correction_124 : decode cX5_correction 124 = .ok (.istore_n 2, 1) := by decide +kernel
theorem dX5_correction_125 : decode cX5_correction 125 = .ok (.iinc 5 1, 3) := by decide +kernel
theorem dX5_correction_128 : decode cX5_correction 128 = .ok (.goto (-86), 3) := by decide +kernel
theorem dX5_correction_131 : decode cX5_correction 131 = .ok (.iinc 4 1, 3) := by decide +kernel
theorem dX5_correction_134 : decode cX5_correction 134 = .ok (.goto (-108), 3) := by decide +kernel
theorem dX5_correction_137 : decode cX5_correction 137 = .ok (.iload_n 3, 1) := by decide +kernel
theorem dX5_correction_138 : decode cX5_correction 138 = .ok (.ireturn, 1) := by decide +kernel
theorem dJ7_fill_53178_0 : decode cJ7_fill_53178 0 = .ok (.iconst 0, 1) := by decide +kernel
theorem dJ7_fill_53178_1 : decode cJ7_fill_53178 1 = .ok (.istore_n 2, 1) := by decide +kernel
theorem dJ7_fill_53178_2 : decode cJ7_fill_53178 2 = .ok (.aload_n 0, 1) := by decide +kernel
theorem dJ7_fill_53178_3 : decode cJ7_fill_53178 3 = .ok (.arraylength, 1) := by decide +kernel
theorem dJ7_fill_53178_4 : decode cJ7_fill_53178 4 = .ok (.istore_n 3, 1) := by decide +kernel
theorem dJ7_fill_53178_5 : decode cJ7_fill_53178 5 = .ok (.iload_n 2, 1) := by decide +kernel
theorem dJ7_fill_53178_6 : decode cJ7_fill_53178 6 = .ok (.iload_n 3, 1) := by decide +kernel
theorem dJ7_fill_53178_7 : decode cJ7_fill_53178 7 = .ok (.if_icmp .ge 13, 3) := by decide +kernel
theorem dJ7_fill_53178_10 : decode cJ7_fill_53178 10 = .ok (.aload_n 0, 1) := by decide +kernel
theorem dJ7_fill_53178_11 : decode cJ7_fill_53178 11 = .ok (.iload_n 2, 1) := by decide +kernel
theorem dJ7_fill_53178_12 : decode cJ7_fill_53178 12 = .ok (.iload_n 1, 1) := by decide +kernel
theorem dJ7_fill_53178_13 : decode cJ7_fill_53178 13 = .ok (.iastore, 1) := by decide +kernel
theorem dJ7_fill_53178_14 : decode cJ7_fill_53178 14 = .ok (.iinc 2 1, 3) := by decide +kernel
theorem dJ7_fill_53178_17 : decode cJ7_fill_53178 17 = .ok (.goto (-12), 3) := by decide +kernel
theorem dJ7_fill_53178_20 : decode cJ7_fill_53178 20 = .ok (.return_, 1) := by decide +kernel
end
section
set_option maxRecDepth 20000 in
theorem ggL_addWord_X4_addWord : GoodIn wsL_addWord wsX4_addWord := goodIn_ca (goodIn_ca (goodIn_r _ [7, 8, 9, 10, 11, 12, 13, 14, 6, 15, 16, 17, 18, 19, 20, 21, 22, 23, 24, 25, 26, 27, 28, 29, 30, 31, 32, 33, 34, 35, 36, 37, 38, 39, 40, 41, 42] (by decide +kernel) (by decide +kernel)) (goodIn_sub (fun _ h => List.mem_cons_of_mem _ (List.mem_append_left _ (List.mem_append_right _ h))) (by decide +kernel))) (goodIn_sub (fun _ h => List.mem_cons_of_mem _ (List.mem_append_right _ h)) (by decide +kernel))
set_option maxRecDepth 20000 in
theorem gL_addWord_X4_addWord : GoodIn wsL_addWord (wsV RL 7 RX4 yX4_addWord wsX4_addWord) := goodIn_app (goodIn_of _ (by decide +kernel)) ggL_addWord_X4_addWord
theorem dL_addWord_0 : decode cL_addWord 0 = .ok (.aload 4, 2) := by decide +kernel
theorem dL_addWord_2 : decode cL_addWord 2 = .ok (.iconst 0, 1) := by decide +kernel
theorem dL_addWord_3 : decode cL_addWord 3 = .ok (.aload_n 0, 1) := by decide +kernel
theorem dL_addWord_4 : decode cL_addWord 4 = .ok (.iload_n 1, 1) := by decide +kernel
theorem dL_addWord_5 : decode cL_addWord 5 = .ok (.iload_n 2, 1) := by decide +kernel
theorem dL_addWord_6 : decode cL_addWord 6 = .ok (.iload_n 3, 1) := by decide +kernel
theorem dL_addWord_7 : decode cL_addWord 7 = .ok (.invokevirtual 7, 3) := by decide +kernel
theorem dL_addWord_10 : decode cL_addWord 10 = .ok (.i2l, 1) := by decide +kernel
theorem dL_addWord_11 : decode cL_addWord 11 = .ok (.lastore, 1) := by decide +kernel
theorem dL_addWord_12 : decode cL_addWord 12 = .ok (.goto 11, 3) := by decide +kernel
theorem dL_addWord_15 : decode cL_addWord 15 = .ok (.astore 5, 2) := by decide +kernel
theorem dL_addWord_17 : decode cL_addWord 17 = .ok (.iconst 1, 1) := by decide +kernel
theorem dL_addWord_18 : decode cL_addWord 18 = .ok (.ireturn, 1) := by decide +kernel
theorem dL_addWord_19 : decode cL_addWord 19 = .ok (.astore 5, 2) := by decide +kernel
theorem dL_addWord_21 : decode cL_addWord 21 = .ok (.iconst 2, 1) := by decide +kernel
theorem dL_addWord_22 : decode cL_addWord 22 = .ok (.ireturn, 1) := by decide +kernel
theorem dL_addWord_23 : decode cL_addWord 23 = .ok (.iconst 0, 1) := by decide +kernel
theorem dL_addWord_24 : decode cL_addWord 24 = .ok (.ireturn, 1) := by decide +kernel
set_option maxRecDepth 20000 in
theorem ggL_setWord_X4_setWord : GoodIn wsL_setWord wsX4_setWord := goodIn_ca (goodIn_ca (goodIn_r _ [7, 8, 9, 10, 11, 12, 13, 14, 6, 15, 16, 17, 18, 19, 20, 21, 22, 23, 24, 25, 26, 27, 28, 29, 30, 31, 32, 33, 34, 35, 36, 37, 38, 39, 40, 41, 42] (by decide +kernel) (by decide +kernel)) (goodIn_sub (fun _ h => List.mem_cons_of_mem _ (List.mem_append_left _ (List.mem_append_right _ h))) (by decide +kernel))) (goodIn_sub (fun _ h => List.mem_cons_of_mem _ (List.mem_append_right _ h)) (by decide +kernel))
set_option maxRecDepth 20000 in
theorem gL_setWord_X4_setWord : GoodIn wsL_setWord (wsV RL 17 RX4 yX4_setWord wsX4_setWord) := goodIn_app (goodIn_of _ (by decide +kernel)) ggL_setWord_X4_setWord
theorem dL_setWord_0 : decode cL_setWord 0 = .ok (.aload 5, 2) := by decide +kernel
theorem dL_setWord_2 : decode cL_setWord 2 = .ok (.iconst 0, 1) := by decide +kernel
theorem dL_setWord_3 : decode cL_setWord 3 = .ok (.aload_n 0, 1) := by decide +kernel
theorem dL_setWord_4 : decode cL_setWord 4 = .ok (.iload_n 1, 1) := by decide +kernel
theorem dL_setWord_5 : decode cL_setWord 5 = .ok (.iload_n 2, 1) := by decide +kernel
theorem dL_setWord_6 : decode cL_setWord 6 = .ok (.iload_n 3, 1) := by decide +kernel
theorem dL_setWord_7 : decode cL_setWord 7 = .ok (.iload 4, 2) := by decide +kernel
theorem dL_setWord_9 : decode cL_setWord 9 = .ok (.invokevirtual 17, 3) := by decide +kernel
theorem dL_setWord_12 : decode cL_setWord 12 = .ok (.i2l, 1) := by decide +kernel
theorem dL_setWord_13 : decode cL_setWord 13 = .ok (.lastore, 1) := by decide +kernel
theorem dL_setWord_14 : decode cL_setWord 14 = .ok (.goto 11, 3) := by decide +kernel
theorem dL_setWord_17 : decode cL_setWord 17 = .ok (.astore 6, 2) := by decide +kernel
theorem dL_setWord_19 : decode cL_setWord 19 = .ok (.iconst 1, 1) := by decide +kernel
theorem dL_setWord_20 : decode cL_setWord 20 = .ok (.ireturn, 1) := by decide +kernel
theorem dL_setWord_21 : decode cL_setWord 21 = .ok (.astore 6, 2) := by decide +kernel
theorem dL_setWord_23 : decode cL_setWord 23 = .ok (.iconst 2, 1) := by decide +kernel
theorem dL_setWord_24 : decode cL_setWord 24 = .ok (.ireturn, 1) := by decide +kernel
theorem dL_setWord_25 : decode cL_setWord 25 = .ok (.iconst 0, 1) := by decide +kernel
theorem dL_setWord_26 : decode cL_setWord 26 = .ok (.ireturn, 1) := by decide +kernel
set_option maxRecDepth 20000 in
theorem ggL_addRule_X4_addRule : GoodIn wsL_addRule wsX4_addRule := goodIn_ca (goodIn_ca (goodIn_r _ [7, 8, 9, 10, 11, 12, 13, 14, 6, 15, 16, 17, 18, 19, 20, 21, 22, 23, 24, 25, 26, 27, 28, 29, 30, 31, 32, 33, 34, 35, 36, 37, 38, 39, 40, 41, 42, 43, 44, 45, 46, 47, 48, 49] (by decide +kernel) (by decide +kernel)) (goodIn_sub (fun _ h => List.mem_cons_of_mem _ (List.mem_append_left _ (List.mem_append_right _ h))) (by decide +kernel))) (goodIn_sub (fun _ h => List.mem_cons_of_mem _ (List.mem_append_right _ h)) (by decide +kernel))
set_option maxRecDepth 20000 in
theorem gL_addRule_X4_addRule : GoodIn wsL_addRule (wsV RL 23 RX4 yX4_addRule wsX4_addRule) := goodIn_app (goodIn_of _ (by decide +kernel)) ggL_addRule_X4_addRule
theorem dL_addRule_0 : decode cL_addRule 0 = .ok (.aload 5, 2) := by decide +kernel
theorem dL_addRule_2 : decode cL_addRule 2 = .ok (.iconst 0, 1) := by decide +kernel
theorem dL_addRule_3 : decode cL_addRule 3 = .ok (.aload_n 0, 1) := by decide +kernel
theorem dL_addRule_4 : decode cL_addRule 4 = .ok (.iload_n 1, 1) := by decide +kernel
theorem dL_addRule_5 : decode cL_addRule 5 = .ok (.iload_n 2, 1) := by decide +kernel
theorem dL_addRule_6 : decode cL_addRule 6 = .ok (.iload_n 3, 1) := by decide +kernel
theorem dL_addRule_7 : decode cL_addRule 7 = .ok (.iload 4, 2) := by decide +kernel
theorem dL_addRule_9 : decode cL_addRule 9 = .ok (.invokevirtual 23, 3) := by decide +kernel
theorem dL_addRule_12 : decode cL_addRule 12 = .ok (.i2l, 1) := by decide +kernel
theorem dL_addRule_13 : decode cL_addRule 13 = .ok (.lastore, 1) := by decide +kernel
theorem dL_addRule_14 : decode cL_addRule 14 = .ok (.goto 11, 3) := by decide +kernel
theorem dL_addRule_17 : decode cL_addRule 17 = .ok (.astore 6, 2) := by decide +kernel
theorem dL_addRule_19 : decode cL_addRule 19 = .ok (.iconst 1, 1) := by decide +kernel
theorem dL_addRule_20 : decode cL_addRule 20 = .ok (.ireturn, 1) := by decide +kernel
theorem dL_addRule_21 : decode cL_addRule 21 = .ok (.astore 6, 2) := by decide +kernel
theorem dL_addRule_23 : decode cL_addRule 23 = .ok (.iconst 2, 1) := by decide +kernel
theorem dL_addRule_24 : decode cL_addRule 24 = .ok (.ireturn, 1) := by decide +kernel
theorem dL_addRule_25 : decode cL_addRule 25 = .ok (.iconst 0, 1) := by decide +kernel
theorem dL_addRule_26 : decode cL_addRule 26 = .ok (.ireturn, 1) := by decide +kernel
set_option maxRecDepth 20000 in
theorem ggL_dropRule_X4_dropRule : GoodIn wsL_dropRule wsX4_dropRule := goodIn_ca (goodIn_r _ [6, 7, 8, 9, 10, 11, 12, 13, 14, 15, 16, 17, 18, 19, 20, 21, 22, 23, 24] (by decide +kernel) (by decide +kernel)) (goodIn_sub (fun _ h => List.mem_cons_of_mem _ (List.mem_append_right _ h)) (by decide +kernel))
set_option maxRecDepth 20000 in
theorem gL_dropRule_X4_dropRule : GoodIn wsL_dropRule (wsV RL 26 RX4 yX4_dropRule wsX4_dropRule) := goodIn_app (goodIn_of _ (by decide +kernel)) ggL_dropRule_X4_dropRule
theorem dL_dropRule_0 : decode cL_dropRule 0 = .ok (.aload_n 1, 1) := by decide +kernel
theorem dL_dropRule_1 : decode cL_dropRule 1 = .ok (.iconst 0, 1) := by decide +kernel
theorem dL_dropRule_2 : decode cL_dropRule 2 = .ok (.aload_n 0, 1) := by decide +kernel
theorem dL_dropRule_3 : decode cL_dropRule 3 = .ok (.invokevirtual 26, 3) := by decide +kernel
theorem dL_dropRule_6 : decode cL_dropRule 6 = .ok (.i2l, 1) := by decide +kernel
theorem dL_dropRule_7 : decode cL_dropRule 7 = .ok (.lastore, 1) := by decide +kernel
theorem dL_dropRule_8 : decode cL_dropRule 8 = .ok (.goto 6, 3) := by decide +kernel
theorem dL_dropRule_11 : decode cL_dropRule 11 = .ok (.astore_n 2, 1) := by decide +kernel
theorem dL_dropRule_12 : decode cL_dropRule 12 = .ok (.iconst 1, 1) := by decide +kernel
theorem dL_dropRule_13 : decode cL_dropRule 13 = .ok (.ireturn, 1) := by decide +kernel
theorem dL_dropRule_14 : decode cL_dropRule 14 = .ok (.iconst 0, 1) := by decide +kernel
theorem dL_dropRule_15 : decode cL_dropRule 15 = .ok (.ireturn, 1) := by decide +kernel
set_option maxRecDepth 20000 in
theorem ggL_say_X4_say : GoodIn wsL_say wsX4_say := goodIn_ca (goodIn_ca (goodIn_r _ [7, 8, 9, 10, 11, 12, 13, 14, 15, 16, 6, 17, 18, 19, 20, 21, 22, 23, 24, 25, 26, 27, 28, 29, 30, 31, 32] (by decide +kernel) (by decide +kernel)) (goodIn_sub (fun _ h => List.mem_cons_of_mem _ (List.mem_append_left _ (List.mem_append_right _ h))) (by decide +kernel))) (goodIn_sub (fun _ h => List.mem_cons_of_mem _ (List.mem_append_right _ h)) (by decide +kernel))
set_option maxRecDepth 20000 in
theorem gL_say_X4_say : GoodIn wsL_say (wsV RL 30 RX4 yX4_say wsX4_say) := goodIn_app (goodIn_of _ (by decide +kernel)) ggL_say_X4_say
theorem dL_say_0 : decode cL_say 0 = .ok (.aload_n 2, 1) := by decide +kernel
theorem dL_say_1 : decode cL_say 1 = .ok (.iconst 0, 1) := by decide +kernel
theorem dL_say_2 : decode cL_say 2 = .ok (.aload_n 0, 1) := by decide +kernel
theorem dL_say_3 : decode cL_say 3 = .ok (.iload_n 1, 1) := by decide +kernel
theorem dL_say_4 : decode cL_say 4 = .ok (.invokevirtual 30, 3) := by decide +kernel
theorem dL_say_7 : decode cL_say 7 = .ok (.i2l, 1) := by decide +kernel
theorem dL_say_8 : decode cL_say 8 = .ok (.lastore, 1) := by decide +kernel
theorem dL_say_9 : decode cL_say 9 = .ok (.goto 9, 3) := by decide +kernel
theorem dL_say_12 : decode cL_say 12 = .ok (.astore_n 3, 1) := by decide +kernel
theorem dL_say_13 : decode cL_say 13 = .ok (.iconst 1, 1) := by decide +kernel
theorem dL_say_14 : decode cL_say 14 = .ok (.ireturn, 1) := by decide +kernel
theorem dL_say_15 : decode cL_say 15 = .ok (.astore_n 3, 1) := by decide +kernel
theorem dL_say_16 : decode cL_say 16 = .ok (.iconst 2, 1) := by decide +kernel
theorem dL_say_17 : decode cL_say 17 = .ok (.ireturn, 1) := by decide +kernel
theorem dL_say_18 : decode cL_say 18 = .ok (.iconst 0, 1) := by decide +kernel
theorem dL_say_19 : decode cL_say 19 = .ok (.ireturn, 1) := by decide +kernel
set_option maxRecDepth 20000 in
theorem ggL_change_X4_change : GoodIn wsL_change wsX4_change := goodIn_ca (goodIn_r _ [6, 7, 8, 9, 10, 11, 12, 13, 5, 14, 15, 16, 17, 18, 19, 20, 21, 22, 23, 24, 25, 26, 27, 28, 29] (by decide +kernel) (by decide +kernel)) (goodIn_sub (fun _ h => List.mem_cons_of_mem _ (List.mem_append_right _ h)) (by decide +kernel))
set_option maxRecDepth 20000 in
theorem gL_change_X4_change : GoodIn wsL_change (wsV RL 34 RX4 yX4_change wsX4_change) := goodIn_app (goodIn_of _ (by decide +kernel)) ggL_change_X4_change
theorem dL_change_0 : decode cL_change 0 = .ok (.aload_n 3, 1) := by decide +kernel
theorem dL_change_1 : decode cL_change 1 = .ok (.iconst 0, 1) := by decide +kernel
theorem dL_change_2 : decode cL_change 2 = .ok (.aload_n 0, 1) := by decide +kernel
theorem dL_change_3 : decode cL_change 3 = .ok (.iload_n 1, 1) := by decide +kernel
theorem dL_change_4 : decode cL_change 4 = .ok (.iload_n 2, 1) := by decide +kernel
theorem dL_change_5 : decode cL_change 5 = .ok (.invokevirtual 34, 3) := by decide +kernel
theorem dL_change_8 : decode cL_change 8 = .ok (.i2l, 1) := by decide +kernel
theorem dL_change_9 : decode cL_change 9 = .ok (.lastore, 1) := by decide +kernel
theorem dL_change_10 : decode cL_change 10 = .ok (.goto 7, 3) := by decide +kernel
theorem dL_change_13 : decode cL_change 13 = .ok (.astore 4, 2) := by decide +kernel
theorem dL_change_15 : decode cL_change 15 = .ok (.iconst 1, 1) := by decide +kernel
theorem dL_change_16 : decode cL_change 16 = .ok (.ireturn, 1) := by decide +kernel
theorem dL_change_17 : decode cL_change 17 = .ok (.iconst 0, 1) := by decide +kernel
theorem dL_change_18 : decode cL_change 18 = .ok (.ireturn, 1) := by decide +kernel
set_option maxRecDepth 20000 in
theorem ggL_wordAt_X4_wordAt : GoodIn wsL_wordAt wsX4_wordAt := goodIn_ca (goodIn_r _ [6, 7, 8, 9, 10, 11, 12, 5, 13, 14, 15, 16, 17, 18, 19, 20] (by decide +kernel) (by decide +kernel)) (goodIn_sub (fun _ h => List.mem_cons_of_mem _ (List.mem_append_right _ h)) (by decide +kernel))
set_option maxRecDepth 20000 in
theorem gL_wordAt_X4_wordAt : GoodIn wsL_wordAt (wsV RL 38 RX4 yX4_wordAt wsX4_wordAt) := goodIn_app (goodIn_of _ (by decide +kernel)) ggL_wordAt_X4_wordAt
theorem dL_wordAt_0 : decode cL_wordAt 0 = .ok (.aload_n 2, 1) := by decide +kernel
theorem dL_wordAt_1 : decode cL_wordAt 1 = .ok (.iconst 0, 1) := by decide +kernel
theorem dL_wordAt_2 : decode cL_wordAt 2 = .ok (.aload_n 0, 1) := by decide +kernel
theorem dL_wordAt_3 : decode cL_wordAt 3 = .ok (.iload_n 1, 1) := by decide +kernel
theorem dL_wordAt_4 : decode cL_wordAt 4 = .ok (.invokevirtual 38, 3) := by decide +kernel
theorem dL_wordAt_7 : decode cL_wordAt 7 = .ok (.i2l, 1) := by decide +kernel
theorem dL_wordAt_8 : decode cL_wordAt 8 = .ok (.lastore, 1) := by decide +kernel
theorem dL_wordAt_9 : decode cL_wordAt 9 = .ok (.goto 6, 3) := by decide +kernel
theorem dL_wordAt_12 : decode cL_wordAt 12 = .ok (.astore_n 3, 1) := by decide +kernel
theorem dL_wordAt_13 : decode cL_wordAt 13 = .ok (.iconst 1, 1) := by decide +kernel
theorem dL_wordAt_14 : decode cL_wordAt 14 = .ok (.ireturn, 1) := by decide +kernel
theorem dL_wordAt_15 : decode cL_wordAt 15 = .ok (.iconst 0, 1) := by decide +kernel
theorem dL_wordAt_16 : decode cL_wordAt 16 = .ok (.ireturn, 1) := by decide +kernel
set_option maxRecDepth 20000 in
theorem ggL_readingsOf_X4_readingsOf : GoodIn wsL_readingsOf wsX4_readingsOf := goodIn_ca (goodIn_r _ [6, 7, 8, 9, 10, 11, 5, 12, 13, 14, 15, 16, 17, 18, 19, 20, 21, 22, 23, 24, 25, 26, 27, 28, 29, 30, 31, 32, 33, 34, 35, 36, 37, 38, 39, 40, 41, 42, 43, 44, 45, 46, 47, 48, 49, 50, 51, 52, 53, 54, 55, 56, 57, 58, 59, 60, 61, 62, 63, 64, 65, 66, 67, 68, 69, 70, 71, 72, 73, 74, 75, 76, 77, 78, 79, 80, 81] (by decide +kernel) (by decide +kernel)) (goodIn_sub (fun _ h => List.mem_cons_of_mem _ (List.mem_append_right _ h)) (by decide +kernel))
set_option maxRecDepth 20000 in
theorem gL_readingsOf_X4_readingsOf : GoodIn wsL_readingsOf (wsV RL 41 RX4 yX4_readingsOf wsX4_readingsOf) := goodIn_app (goodIn_of _ (by decide +kernel)) ggL_readingsOf_X4_readingsOf
theorem dL_readingsOf_0 : decode cL_readingsOf 0 = .ok (.aload 4, 2) := by decide +kernel
theorem dL_readingsOf_2 : decode cL_readingsOf 2 = .ok (.iconst 0, 1) := by decide +kernel
theorem dL_readingsOf_3 : decode cL_readingsOf 3 = .ok (.aload_n 0, 1) := by decide +kernel
theorem dL_readingsOf_4 : decode cL_readingsOf 4 = .ok (.iload_n 1, 1) := by decide +kernel
theorem dL_readingsOf_5 : decode cL_readingsOf 5 = .ok (.iload_n 2, 1) := by decide +kernel
theorem dL_readingsOf_6 : decode cL_readingsOf 6 = .ok (.iload_n 3, 1) := by decide +kernel
theorem dL_readingsOf_7 : decode cL_readingsOf 7 = .ok (.invokevirtual 41, 3) := by decide +kernel
theorem dL_readingsOf_10 : decode cL_readingsOf 10 = .ok (.i2l, 1) := by decide +kernel
theorem dL_readingsOf_11 : decode cL_readingsOf 11 = .ok (.lastore, 1) := by decide +kernel
theorem dL_readingsOf_12 : decode cL_readingsOf 12 = .ok (.goto 7, 3) := by decide +kernel
theorem dL_readingsOf_15 : decode cL_readingsOf 15 = .ok (.astore 5, 2) := by decide +kernel
theorem dL_readingsOf_17 : decode cL_readingsOf 17 = .ok (.iconst 1, 1) := by decide +kernel
theorem dL_readingsOf_18 : decode cL_readingsOf 18 = .ok (.ireturn, 1) := by decide +kernel
theorem dL_readingsOf_19 : decode cL_readingsOf 19 = .ok (.iconst 0, 1) := by decide +kernel
theorem dL_readingsOf_20 : decode cL_readingsOf 20 = .ok (.ireturn, 1) := by decide +kernel
set_option maxRecDepth 20000 in
theorem ggL_has_X4_has : GoodIn wsL_has wsX4_has := goodIn_ca (goodIn_ca (goodIn_r _ [7, 8, 9, 10, 11, 12, 13, 14, 15, 16, 17, 18, 6, 19, 20, 21, 22, 23, 24, 25, 26, 27, 28, 29, 30, 31, 32, 33, 34, 35, 36, 37, 38, 39, 40, 41, 42, 43, 44, 45, 46, 47, 48, 49, 50, 51, 52, 53, 54, 55, 56, 57, 58, 59, 60, 61, 62, 63, 64, 65, 66, 67, 68, 69, 70, 71, 72, 73, 74, 75, 76, 77, 78, 79, 80, 81, 82] (by decide +kernel) (by decide +kernel)) (goodIn_sub (fun _ h => List.mem_cons_of_mem _ (List.mem_append_left _ (List.mem_append_right _ h))) (by decide +kernel))) (goodIn_sub (fun _ h => List.mem_cons_of_mem _ (List.mem_append_right _ h)) (by decide +kernel))
set_option maxRecDepth 20000 in
theorem gL_has_X4_has : GoodIn wsL_has (wsV RL 44 RX4 yX4_has wsX4_has) := goodIn_app (goodIn_of _ (by decide +kernel)) ggL_has_X4_has
theorem dL_has_0 : decode cL_has 0 = .ok (.aload 5, 2) := by decide +kernel
theorem dL_has_2 : decode cL_has 2 = .ok (.iconst 0, 1) := by decide +kernel
theorem dL_has_3 : decode cL_has 3 = .ok (.aload_n 0, 1) := by decide +kernel
theorem dL_has_4 : decode cL_has 4 = .ok (.iload_n 1, 1) := by decide +kernel
theorem dL_has_5 : decode cL_has 5 = .ok (.iload_n 2, 1) := by decide +kernel
theorem dL_has_6 : decode cL_has 6 = .ok (.iload_n 3, 1) := by decide +kernel
theorem dL_has_7 : decode cL_has 7 = .ok (.iload 4, 2) := by decide +kernel
theorem dL_has_9 : decode cL_has 9 = .ok (.invokevirtual 44, 3) := by decide +kernel
theorem dL_has_12 : decode cL_has 12 = .ok (.ifCond .eq 7, 3) := by decide +kernel
theorem dL_has_15 : decode cL_has 15 = .ok (.lconst 1, 1) := by decide +kernel
theorem dL_has_16 : decode cL_has 16 = .ok (.goto 4, 3) := by decide +kernel
theorem dL_has_19 : decode cL_has 19 = .ok (.lconst 0, 1) := by decide +kernel
theorem dL_has_20 : decode cL_has 20 = .ok (.lastore, 1) := by decide +kernel
theorem dL_has_21 : decode cL_has 21 = .ok (.goto 11, 3) := by decide +kernel
theorem dL_has_24 : decode cL_has 24 = .ok (.astore 6, 2) := by decide +kernel
theorem dL_has_26 : decode cL_has 26 = .ok (.iconst 1, 1) := by decide +kernel
theorem dL_has_27 : decode cL_has 27 = .ok (.ireturn, 1) := by decide +kernel
theorem dL_has_28 : decode cL_has 28 = .ok (.astore 6, 2) := by decide +kernel
theorem dL_has_30 : decode cL_has 30 = .ok (.iconst 2, 1) := by decide +kernel
theorem dL_has_31 : decode cL_has 31 = .ok (.ireturn, 1) := by decide +kernel
theorem dL_has_32 : decode cL_has 32 = .ok (.iconst 0, 1) := by decide +kernel
theorem dL_has_33 : decode cL_has 33 = .ok (.ireturn, 1) := by decide +kernel
set_option maxRecDepth 20000 in
theorem ggL_sentences_X4_sentences : GoodIn wsL_sentences wsX4_sentences := goodIn_ca (goodIn_r _ [6, 7, 8, 9, 10, 5, 11, 12, 13, 14, 15, 16, 17, 18, 19, 20, 21, 22, 23, 24, 25, 26, 27, 28, 29, 30, 31, 32, 33, 34, 35, 36, 37, 38, 39, 40, 41, 42, 43, 44, 45, 46, 47, 48, 49, 50, 51, 52, 53, 54, 55, 56, 57, 58, 59, 60, 61, 62, 63, 64, 65, 66, 67, 68, 69, 70, 71, 72, 73, 74, 75, 76, 77, 78, 79, 80, 81, 82] (by decide +kernel) (by decide +kernel)) (goodIn_sub (fun _ h => List.mem_cons_of_mem _ (List.mem_append_right _ h)) (by decide +kernel))
set_option maxRecDepth 20000 in
theorem gL_sentences_X4_sentences : GoodIn wsL_sentences (wsV RL 48 RX4 yX4_sentences wsX4_sentences) := goodIn_app (goodIn_of _ (by decide +kernel)) ggL_sentences_X4_sentences
theorem dL_sentences_0 : decode cL_sentences 0 = .ok (.aload_n 2, 1) := by decide +kernel
theorem dL_sentences_1 : decode cL_sentences 1 = .ok (.iconst 0, 1) := by decide +kernel
theorem dL_sentences_2 : decode cL_sentences 2 = .ok (.aload_n 0, 1) := by decide +kernel
theorem dL_sentences_3 : decode cL_sentences 3 = .ok (.iload_n 1, 1) := by decide +kernel
theorem dL_sentences_4 : decode cL_sentences 4 = .ok (.invokevirtual 48, 3) := by decide +kernel
theorem dL_sentences_7 : decode cL_sentences 7 = .ok (.i2l, 1) := by decide +kernel
theorem dL_sentences_8 : decode cL_sentences 8 = .ok (.lastore, 1) := by decide +kernel
theorem dL_sentences_9 : decode cL_sentences 9 = .ok (.goto 6, 3) := by decide +kernel
theorem dL_sentences_12 : decode cL_sentences 12 = .ok (.astore_n 3, 1) := by decide +kernel
theorem dL_sentences_13 : decode cL_sentences 13 = .ok (.iconst 1, 1) := by decide +kernel
theorem dL_sentences_14 : decode cL_sentences 14 = .ok (.ireturn, 1) := by decide +kernel
theorem dL_sentences_15 : decode cL_sentences 15 = .ok (.iconst 0, 1) := by decide +kernel
theorem dL_sentences_16 : decode cL_sentences 16 = .ok (.ireturn, 1) := by decide +kernel
set_option maxRecDepth 20000 in
theorem ggL_sentence_X4_sentence : GoodIn wsL_sentence wsX4_sentence := goodIn_ca (goodIn_r _ [6, 7, 8, 9, 10, 5, 11, 12, 13, 14, 15, 16, 17, 18, 19, 20, 21, 22, 23, 24, 25, 26, 27, 28, 29, 30, 31, 32, 33, 34, 35, 36, 37, 38, 39, 40, 41, 42, 43, 44, 45, 46, 47, 48, 49, 50, 51, 52, 53, 54, 55, 56, 57, 58, 59, 60, 61, 62, 63, 64, 65, 66, 67, 68, 69, 70, 71, 72, 73, 74, 75, 76, 77, 78, 79, 80, 81, 82, 83, 84, 85, 86] (by decide +kernel) (by decide +kernel)) (goodIn_sub (fun _ h => List.mem_cons_of_mem _ (List.mem_append_right _ h)) (by decide +kernel))
set_option maxRecDepth 20000 in
theorem gL_sentence_X4_sentence : GoodIn wsL_sentence (wsV RL 51 RX4 yX4_sentence wsX4_sentence) := goodIn_app (goodIn_of _ (by decide +kernel)) ggL_sentence_X4_sentence
theorem dL_sentence_0 : decode cL_sentence 0 = .ok (.aload_n 3, 1) := by decide +kernel
theorem dL_sentence_1 : decode cL_sentence 1 = .ok (.iconst 0, 1) := by decide +kernel
theorem dL_sentence_2 : decode cL_sentence 2 = .ok (.aload_n 0, 1) := by decide +kernel
theorem dL_sentence_3 : decode cL_sentence 3 = .ok (.iload_n 1, 1) := by decide +kernel
theorem dL_sentence_4 : decode cL_sentence 4 = .ok (.iload_n 2, 1) := by decide +kernel
theorem dL_sentence_5 : decode cL_sentence 5 = .ok (.invokevirtual 51, 3) := by decide +kernel
theorem dL_sentence_8 : decode cL_sentence 8 = .ok (.i2l, 1) := by decide +kernel
theorem dL_sentence_9 : decode cL_sentence 9 = .ok (.lastore, 1) := by decide +kernel
theorem dL_sentence_10 : decode cL_sentence 10 = .ok (.goto 7, 3) := by decide +kernel
theorem dL_sentence_13 : decode cL_sentence 13 = .ok (.astore 4, 2) := by decide +kernel
theorem dL_sentence_15 : decode cL_sentence 15 = .ok (.iconst 1, 1) := by decide +kernel
theorem dL_sentence_16 : decode cL_sentence 16 = .ok (.ireturn, 1) := by decide +kernel
theorem dL_sentence_17 : decode cL_sentence 17 = .ok (.iconst 0, 1) := by decide +kernel
theorem dL_sentence_18 : decode cL_sentence 18 = .ok (.ireturn, 1) := by decide +kernel
set_option maxRecDepth 20000 in
theorem ggL_share_X4_share : GoodIn wsL_share wsX4_share := goodIn_ca (goodIn_r _ [6, 7, 8, 9, 10, 5, 11, 12, 13, 14, 15, 16, 17, 18, 19, 20, 21, 22, 23, 24, 25, 26, 27, 28, 29, 30, 31, 32, 33, 34, 35, 36, 37, 38, 39, 40, 41, 42, 43, 44, 45, 46, 47, 48, 49, 50, 51, 52, 53, 54, 55, 56, 57, 58, 59, 60, 61, 62, 63, 64, 65, 66, 67, 68, 69, 70, 71, 72, 73, 74, 75, 76, 77, 78, 79, 80, 81, 82] (by decide +kernel) (by decide +kernel)) (goodIn_sub (fun _ h => List.mem_cons_of_mem _ (List.mem_append_right _ h)) (by decide +kernel))
set_option maxRecDepth 20000 in
theorem gL_share_X4_share : GoodIn wsL_share (wsV RL 54 RX4 yX4_share wsX4_share) := goodIn_app (goodIn_of _ (by decide +kernel)) ggL_share_X4_share
theorem dL_share_0 : decode cL_share 0 = .ok (.aload_n 2, 1) := by decide +kernel
theorem dL_share_1 : decode cL_share 1 = .ok (.iconst 0, 1) := by decide +kernel
theorem dL_share_2 : decode cL_share 2 = .ok (.aload_n 0, 1) := by decide +kernel
theorem dL_share_3 : decode cL_share 3 = .ok (.iload_n 1, 1) := by decide +kernel
theorem dL_share_4 : decode cL_share 4 = .ok (.invokevirtual 54, 3) := by decide +kernel
theorem dL_share_7 : decode cL_share 7 = .ok (.f2d, 1) := by decide +kernel
theorem dL_share_8 : decode cL_share 8 = .ok (.dastore, 1) := by decide +kernel
theorem dL_share_9 : decode cL_share 9 = .ok (.goto 6, 3) := by decide +kernel
theorem dL_share_12 : decode cL_share 12 = .ok (.astore_n 3, 1) := by decide +kernel
theorem dL_share_13 : decode cL_share 13 = .ok (.iconst 1, 1) := by decide +kernel
theorem dL_share_14 : decode cL_share 14 = .ok (.ireturn, 1) := by decide +kernel
theorem dL_share_15 : decode cL_share 15 = .ok (.iconst 0, 1) := by decide +kernel
theorem dL_share_16 : decode cL_share 16 = .ok (.ireturn, 1) := by decide +kernel
set_option maxRecDepth 20000 in
theorem ggL_spoil_X4_spoil : GoodIn wsL_spoil wsX4_spoil := goodIn_ca (goodIn_r _ [6, 7, 8, 9, 10, 11, 12, 13, 5, 14, 15, 16, 17, 18, 19, 20, 21, 22, 23, 24, 25, 26, 27, 28, 29, 30, 31, 32, 33, 34, 35, 36, 37, 38, 39, 40, 41, 42, 43, 44, 45, 46, 47, 48, 49, 50, 51, 52, 53, 54, 55, 56, 57, 58, 59, 60, 61, 62, 63, 64, 65, 66, 67, 68, 69, 70, 71, 72, 73, 74, 75, 76, 77, 78, 79, 80, 81, 82, 83, 84, 85, 86, 87, 88] (by decide +kernel) (by decide +kernel)) (goodIn_sub (fun _ h => List.mem_cons_of_mem _ (List.mem_append_right _ h)) (by decide +kernel))
set_option maxRecDepth 20000 in
theorem gL_spoil_X4_spoil : GoodIn wsL_spoil (wsV RL 58 RX4 yX4_spoil wsX4_spoil) := goodIn_app (goodIn_of _ (by decide +kernel)) ggL_spoil_X4_spoil
theorem dL_spoil_0 : decode cL_spoil 0 = .ok (.aload_n 2, 1) := by decide +kernel
theorem dL_spoil_1 : decode cL_spoil 1 = .ok (.iconst 0, 1) := by decide +kernel
theorem dL_spoil_2 : decode cL_spoil 2 = .ok (.aload_n 0, 1) := by decide +kernel
theorem dL_spoil_3 : decode cL_spoil 3 = .ok (.iload_n 1, 1) := by decide +kernel
theorem dL_spoil_4 : decode cL_spoil 4 = .ok (.invokevirtual 58, 3) := by decide +kernel
theorem dL_spoil_7 : decode cL_spoil 7 = .ok (.i2l, 1) := by decide +kernel
theorem dL_spoil_8 : decode cL_spoil 8 = .ok (.lastore, 1) := by decide +kernel
theorem dL_spoil_9 : decode cL_spoil 9 = .ok (.goto 6, 3) := by decide +kernel
theorem dL_spoil_12 : decode cL_spoil 12 = .ok (.astore_n 3, 1) := by decide +kernel
theorem dL_spoil_13 : decode cL_spoil 13 = .ok (.iconst 1, 1) := by decide +kernel
theorem dL_spoil_14 : decode cL_spoil 14 = .ok (.ireturn, 1) := by decide +kernel
theorem dL_spoil_15 : decode cL_spoil 15 = .ok (.iconst 0, 1) := by decide +kernel
theorem dL_spoil_16 : decode cL_spoil 16 = .ok (.ireturn, 1) := by decide +kernel
set_option maxRecDepth 20000 in
theorem ggL_correction_X4_correction : GoodIn wsL_correction wsX4_correction := goodIn_ca (goodIn_r _ [6, 7, 8, 9, 10, 11, 12, 13, 14, 5, 15, 16, 17, 18, 19, 20, 21, 22, 23, 24, 25, 26, 27, 28, 29, 30, 31, 32, 33, 34, 35, 36, 37, 38, 39, 40, 41, 42, 43, 44, 45, 46, 47, 48, 49, 50, 51, 52, 53, 54, 55, 56, 57, 58, 59, 60, 61, 62, 63, 64, 65, 66, 67, 68, 69, 70, 71, 72, 73, 74, 75, 76, 77, 78] (by decide +kernel) (by decide +kernel)) (goodIn_sub (fun _ h => List.mem_cons_of_mem _ (List.mem_append_right _ h)) (by decide +kernel))
set_option maxRecDepth 20000 in
theorem gL_correction_X4_correction : GoodIn wsL_correction (wsV RL 61 RX4 yX4_correction wsX4_correction) := goodIn_app (goodIn_of _ (by decide +kernel)) ggL_correction_X4_correction
theorem dL_correction_0 : decode cL_correction 0 = .ok (.aload_n 2, 1) := by decide +kernel
theorem dL_correction_1 : decode cL_correction 1 = .ok (.iconst 0, 1) := by decide +kernel
theorem dL_correction_2 : decode cL_correction 2 = .ok (.aload_n 0, 1) := by decide +kernel
theorem dL_correction_3 : decode cL_correction 3 = .ok (.iload_n 1, 1) := by decide +kernel
theorem dL_correction_4 : decode cL_correction 4 = .ok (.invokevirtual 61, 3) := by decide +kernel
theorem dL_correction_7 : decode cL_correction 7 = .ok (.i2l, 1) := by decide +kernel
theorem dL_correction_8 : decode cL_correction 8 = .ok (.lastore, 1) := by decide +kernel
theorem dL_correction_9 : decode cL_correction 9 = .ok (.goto 6, 3) := by decide +kernel
theorem dL_correction_12 : decode cL_correction 12 = .ok (.astore_n 3, 1) := by decide +kernel
theorem dL_correction_13 : decode cL_correction 13 = .ok (.iconst 1, 1) := by decide +kernel
theorem dL_correction_14 : decode cL_correction 14 = .ok (.ireturn, 1) := by decide +kernel
theorem dL_correction_15 : decode cL_correction 15 = .ok (.iconst 0, 1) := by decide +kernel
theorem dL_correction_16 : decode cL_correction 16 = .ok (.ireturn, 1) := by decide +kernel
set_option maxRecDepth 20000 in
theorem ggL_law_X4_init : GoodIn wsL_law wsX4_init := goodIn_r _ [10, 11, 12, 13, 14, 15, 16, 17, 18, 19, 20, 21, 22, 23, 24, 25, 26, 27, 28, 29, 30, 31, 32, 33, 34, 35, 36, 37, 38, 39, 40, 41, 42, 43, 44, 45, 46, 47, 48, 49, 50, 51, 52, 53, 54, 55, 56, 57, 58, 59, 544, 545, 546, 547, 548, 549, 550, 551, 522, 523, 524, 525, 526, 527, 528, 552, 553, 554] (by decide +kernel) (by decide +kernel)
set_option maxRecDepth 20000 in
theorem gL_law_X4_init : GoodIn wsL_law (wsX4_init) := ggL_law_X4_init
set_option maxRecDepth 20000 in
theorem ggL_law_X5_init : GoodIn wsL_law wsX5_init := goodIn_r _ [62, 63, 12, 13, 18, 64, 65, 66, 67, 68, 69, 70, 71, 72, 6, 73, 529, 530, 531, 532, 533, 534, 535, 536, 537, 538, 539, 540, 541, 542, 543] (by decide +kernel) (by decide +kernel)
set_option maxRecDepth 20000 in
theorem gL_law_X5_init : GoodIn wsL_law (wsX5_init) := ggL_law_X5_init
set_option maxRecDepth 20000 in
theorem ggL_law_L_addWord : GoodIn wsL_law wsL_addWord := goodIn_ca (goodIn_ca (goodIn_r _ [77, 78, 79, 80, 81, 82, 2, 83, 84, 85, 86, 87, 17, 88, 89, 90, 91, 92, 93, 94, 95, 96, 97, 16, 98, 99, 38, 39, 522, 523, 524, 525, 526, 527, 528, 544, 545, 546, 547, 548, 549, 550, 551] (by decide +kernel) (by decide +kernel)) (goodIn_sub (fun _ h => List.mem_append_left _ (List.mem_append_left _ (List.mem_append_right _ h))) (by decide +kernel))) (goodIn_sub (fun _ h => List.mem_append_left _ (List.mem_append_right _ h)) (by decide +kernel))
set_option maxRecDepth 20000 in
theorem gL_law_L_addWord : GoodIn wsL_law (va_wsS RL 68 yL_addWord wsL_addWord) := goodIn_app (goodIn_of _ (by decide +kernel)) ggL_law_L_addWord
set_option maxRecDepth 20000 in
theorem ggL_law_X5_addWord : GoodIn wsL_law wsX5_addWord := goodIn_r _ [103, 104, 64, 65, 105, 106, 5, 107, 108, 109, 110, 111, 112, 113, 114, 115, 529, 530, 531, 532, 533, 534, 535, 536, 537, 538, 539, 540, 541, 542, 543] (by decide +kernel) (by decide +kernel)
set_option maxRecDepth 20000 in
theorem gL_law_X5_addWord : GoodIn wsL_law (wsV RL 73 RX5 yX5_addWord wsX5_addWord) := goodIn_app (goodIn_of _ (by decide +kernel)) ggL_law_X5_addWord
set_option maxRecDepth 20000 in
theorem ggL_law_X5_thrown : GoodIn wsL_law wsX5_thrown := goodIn_r _ [119, 115, 529, 530, 531, 532, 533, 534, 535, 536, 537, 538, 539, 540, 541, 542, 543] (by decide +kernel) (by decide +kernel)
set_option maxRecDepth 20000 in
theorem gL_law_X5_thrown : GoodIn wsL_law (wsV RL 74 RX5 yX5_thrown wsX5_thrown) := goodIn_app (goodIn_of _ (by decide +kernel)) ggL_law_X5_thrown
set_option maxRecDepth 20000 in
theorem ggL_law_L_setWord : GoodIn wsL_law wsL_setWord := goodIn_ca (goodIn_ca (goodIn_r _ [122, 123, 78, 124, 125, 126, 2, 127, 128, 129, 84, 85, 17, 91, 92, 93, 88, 89, 90, 94, 95, 96, 97, 16, 98, 99, 38, 39, 522, 523, 524, 525, 526, 527, 528, 544, 545, 546, 547, 548, 549, 550, 551] (by decide +kernel) (by decide +kernel)) (goodIn_sub (fun _ h => List.mem_append_right _ h) (by decide +kernel))) (goodIn_sub (fun _ h => List.mem_append_left _ (List.mem_append_left _ (List.mem_append_right _ h))) (by decide +kernel))
set_option maxRecDepth 20000 in
theorem gL_law_L_setWord : GoodIn wsL_law (va_wsS RL 77 yL_setWord wsL_setWord) := goodIn_app (goodIn_of _ (by decide +kernel)) ggL_law_L_setWord
set_option maxRecDepth 20000 in
theorem ggL_law_X5_setWord : GoodIn wsL_law wsX5_setWord := goodIn_r _ [133, 64, 65, 134, 135, 136, 5, 137, 104, 105, 106, 107, 108, 109, 110, 111, 112, 113, 114, 115, 529, 530, 531, 532, 533, 534, 535, 536, 537, 538, 539, 540, 541, 542, 543] (by decide +kernel) (by decide +kernel)
set_option maxRecDepth 20000 in
theorem gL_law_X5_setWord : GoodIn wsL_law (wsV RL 80 RX5 yX5_setWord wsX5_setWord) := goodIn_app (goodIn_of _ (by decide +kernel)) ggL_law_X5_setWord
set_option maxRecDepth 20000 in
theorem ggL_law_L_addRule : GoodIn wsL_law wsL_addRule := goodIn_ca (goodIn_ca (goodIn_r _ [140, 78, 79, 141, 142, 143, 2, 144, 84, 85, 86, 87, 17, 91, 92, 93, 145, 146, 147, 148, 16, 149, 150, 41, 42, 43, 45, 151, 152, 153, 154, 155, 156, 95, 96, 522, 523, 524, 525, 526, 527, 528, 544, 545, 546, 547, 548, 549, 550, 551] (by decide +kernel) (by decide +kernel)) (goodIn_sub (fun _ h => List.mem_append_left _ (List.mem_append_left _ (List.mem_append_right _ h))) (by decide +kernel))) (goodIn_sub (fun _ h => List.mem_append_left _ (List.mem_append_right _ h)) (by decide +kernel))
set_option maxRecDepth 20000 in
theorem gL_law_L_addRule : GoodIn wsL_law (va_wsS RL 81 yL_addRule wsL_addRule) := goodIn_app (goodIn_of _ (by decide +kernel)) ggL_law_L_addRule
set_option maxRecDepth 20000 in
theorem ggL_law_X5_addRule : GoodIn wsL_law wsX5_addRule := goodIn_r _ [160, 161, 66, 67, 68, 69, 108, 109, 5, 110, 162, 163, 164, 111, 112, 113, 114, 115, 529, 530, 531, 532, 533, 534, 535, 536, 537, 538, 539, 540, 541, 542, 543] (by decide +kernel) (by decide +kernel)
set_option maxRecDepth 20000 in
theorem gL_law_X5_addRule : GoodIn wsL_law (wsV RL 83 RX5 yX5_addRule wsX5_addRule) := goodIn_app (goodIn_of _ (by decide +kernel)) ggL_law_X5_addRule
set_option maxRecDepth 20000 in
theorem ggL_law_L_dropRule : GoodIn wsL_law wsL_dropRule := goodIn_ca (goodIn_r _ [167, 79, 168, 169, 170, 2, 171, 86, 87, 17, 522, 523, 524, 525, 526, 527, 528, 544, 545, 546, 547, 548, 549, 550, 551] (by decide +kernel) (by decide +kernel)) (goodIn_sub (fun _ h => List.mem_append_left _ (List.mem_append_right _ h)) (by decide +kernel))
set_option maxRecDepth 20000 in
theorem gL_law_L_dropRule : GoodIn wsL_law (va_wsS RL 84 yL_dropRule wsL_dropRule) := goodIn_app (goodIn_of _ (by decide +kernel)) ggL_law_L_dropRule
set_option maxRecDepth 20000 in
theorem ggL_law_X5_dropRule : GoodIn wsL_law wsX5_dropRule := goodIn_r _ [175, 161, 111, 112, 113, 5, 114, 115, 529, 530, 531, 532, 533, 534, 535, 536, 537, 538, 539, 540, 541, 542, 543] (by decide +kernel) (by decide +kernel)
set_option maxRecDepth 20000 in
theorem gL_law_X5_dropRule : GoodIn wsL_law (wsV RL 87 RX5 yX5_dropRule wsX5_dropRule) := goodIn_app (goodIn_of _ (by decide +kernel)) ggL_law_X5_dropRule
set_option maxRecDepth 20000 in
theorem ggL_law_L_say : GoodIn wsL_law wsL_say := goodIn_ca (goodIn_ca (goodIn_r _ [178, 123, 79, 179, 180, 181, 2, 182, 128, 129, 86, 87, 17, 20, 19, 91, 92, 93, 522, 523, 524, 525, 526, 527, 528, 544, 545, 546, 547, 548, 549, 550, 551] (by decide +kernel) (by decide +kernel)) (goodIn_sub (fun _ h => List.mem_append_right _ h) (by decide +kernel))) (goodIn_sub (fun _ h => List.mem_append_left _ (List.mem_append_right _ h)) (by decide +kernel))
set_option maxRecDepth 20000 in
theorem gL_law_L_say : GoodIn wsL_law (va_wsS RL 88 yL_say wsL_say) := goodIn_app (goodIn_of _ (by decide +kernel)) ggL_law_L_say
set_option maxRecDepth 20000 in
theorem ggL_law_X5_say : GoodIn wsL_law wsX5_say := goodIn_r _ [186, 187, 70, 134, 135, 136, 5, 137, 104, 111, 112, 113, 114, 115, 529, 530, 531, 532, 533, 534, 535, 536, 537, 538, 539, 540, 541, 542, 543] (by decide +kernel) (by decide +kernel)
set_option maxRecDepth 20000 in
theorem gL_law_X5_say : GoodIn wsL_law (wsV RL 91 RX5 yX5_say wsX5_say) := goodIn_app (goodIn_of _ (by decide +kernel)) ggL_law_X5_say
set_option maxRecDepth 20000 in
theorem ggL_law_L_change : GoodIn wsL_law wsL_change := goodIn_ca (goodIn_r _ [190, 123, 191, 192, 193, 2, 194, 128, 129, 20, 17, 19, 91, 92, 93, 522, 523, 524, 525, 526, 527, 528, 544, 545, 546, 547, 548, 549, 550, 551] (by decide +kernel) (by decide +kernel)) (goodIn_sub (fun _ h => List.mem_append_right _ h) (by decide +kernel))
set_option maxRecDepth 20000 in
theorem gL_law_L_change : GoodIn wsL_law (va_wsS RL 92 yL_change wsL_change) := goodIn_app (goodIn_of _ (by decide +kernel)) ggL_law_L_change
set_option maxRecDepth 20000 in
theorem ggL_law_X5_change : GoodIn wsL_law wsX5_change := goodIn_r _ [198, 70, 199, 200, 201, 5, 202, 187, 134, 135, 136, 137, 104, 111, 112, 113, 114, 115, 529, 530, 531, 532, 533, 534, 535, 536, 537, 538, 539, 540, 541, 542, 543] (by decide +kernel) (by decide +kernel)
set_option maxRecDepth 20000 in
theorem gL_law_X5_change : GoodIn wsL_law (wsV RL 95 RX5 yX5_change wsX5_change) := goodIn_app (goodIn_of _ (by decide +kernel)) ggL_law_X5_change
set_option maxRecDepth 20000 in
theorem ggL_law_X4_hush : GoodIn wsL_law wsX4_hush := goodIn_r _ [206, 20, 522, 523, 524, 525, 526, 527, 528] (by decide +kernel) (by decide +kernel)
set_option maxRecDepth 20000 in
theorem gL_law_X4_hush : GoodIn wsL_law (wsV RL 96 RX4 yX4_hush wsX4_hush) := goodIn_app (goodIn_of _ (by decide +kernel)) ggL_law_X4_hush
set_option maxRecDepth 20000 in
theorem ggL_law_X5_hush : GoodIn wsL_law wsX5_hush := goodIn_r _ [210, 115, 187, 529, 530, 531, 532, 533, 534, 535, 536, 537, 538, 539, 540, 541, 542, 543] (by decide +kernel) (by decide +kernel)
set_option maxRecDepth 20000 in
theorem gL_law_X5_hush : GoodIn wsL_law (wsV RL 99 RX5 yX5_hush wsX5_hush) := goodIn_app (goodIn_of _ (by decide +kernel)) ggL_law_X5_hush
set_option maxRecDepth 20000 in
theorem ggL_law_X4_said : GoodIn wsL_law wsX4_said := goodIn_r _ [214, 20, 522, 523, 524, 525, 526, 527, 528] (by decide +kernel) (by decide +kernel)
set_option maxRecDepth 20000 in
theorem gL_law_X4_said : GoodIn wsL_law (wsV RL 100 RX4 yX4_said wsX4_said) := goodIn_app (goodIn_of _ (by decide +kernel)) ggL_law_X4_said
set_option maxRecDepth 20000 in
theorem ggL_law_X5_said : GoodIn wsL_law wsX5_said := goodIn_r _ [218, 115, 187, 529, 530, 531, 532, 533, 534, 535, 536, 537, 538, 539, 540, 541, 542, 543] (by decide +kernel) (by decide +kernel)
set_option maxRecDepth 20000 in
theorem gL_law_X5_said : GoodIn wsL_law (wsV RL 103 RX5 yX5_said wsX5_said) := goodIn_app (goodIn_of _ (by decide +kernel)) ggL_law_X5_said
set_option maxRecDepth 20000 in
theorem ggL_law_L_wordAt : GoodIn wsL_law wsL_wordAt := goodIn_ca (goodIn_r _ [221, 123, 222, 223, 224, 2, 225, 128, 129, 20, 19, 91, 92, 93, 522, 523, 524, 525, 526, 527, 528] (by decide +kernel) (by decide +kernel)) (goodIn_sub (fun _ h => List.mem_append_right _ h) (by decide +kernel))
set_option maxRecDepth 20000 in
theorem gL_law_L_wordAt : GoodIn wsL_law (va_wsS RL 104 yL_wordAt wsL_wordAt) := goodIn_app (goodIn_of _ (by decide +kernel)) ggL_law_L_wordAt
set_option maxRecDepth 20000 in
theorem ggL_law_X5_wordAt : GoodIn wsL_law wsX5_wordAt := goodIn_r _ [229, 70, 199, 200, 201, 5, 202, 187, 111, 112, 113, 114, 115, 529, 530, 531, 532, 533, 534, 535, 536, 537, 538, 539, 540, 541, 542, 543] (by decide +kernel) (by decide +kernel)
set_option maxRecDepth 20000 in
theorem gL_law_X5_wordAt : GoodIn wsL_law (wsV RL 106 RX5 yX5_wordAt wsX5_wordAt) := goodIn_app (goodIn_of _ (by decide +kernel)) ggL_law_X5_wordAt
set_option maxRecDepth 20000 in
theorem ggL_law_X4_readings : GoodIn wsL_law wsX4_readings := goodIn_r _ [233, 20, 234, 235, 236, 2, 237, 29, 17, 19, 238, 28, 239, 240, 241, 242, 243, 244, 54, 245, 246, 247, 248, 249, 250, 251, 16, 252, 253, 38, 39, 254, 255, 256, 40, 42, 257, 258, 259, 260, 45, 43, 41, 261, 262, 263, 264, 265, 266, 267, 268, 269, 522, 523, 524, 525, 526, 527, 528, 553, 544, 545, 546, 547, 548, 549, 550, 551] (by decide +kernel) (by decide +kernel)
set_option maxRecDepth 20000 in
theorem gL_law_X4_readings : GoodIn wsL_law (wsV RL 107 RX4 yX4_readings wsX4_readings) := goodIn_app (goodIn_of _ (by decide +kernel)) ggL_law_X4_readings
set_option maxRecDepth 20000 in
theorem ggL_law_X5_readings : GoodIn wsL_law wsX5_readings := goodIn_r _ [273, 115, 187, 274, 275, 276, 5, 277, 73, 278, 279, 280, 281, 282, 283, 284, 71, 70, 285, 286, 287, 288, 64, 65, 161, 66, 67, 68, 289, 290, 291, 292, 293, 294, 295, 296, 297, 298, 299, 69, 300, 301, 302, 529, 530, 531, 532, 533, 534, 535, 536, 537, 538, 539, 540, 541, 542, 543] (by decide +kernel) (by decide +kernel)
set_option maxRecDepth 20000 in
theorem gL_law_X5_readings : GoodIn wsL_law (wsV RL 110 RX5 yX5_readings wsX5_readings) := goodIn_app (goodIn_of _ (by decide +kernel)) ggL_law_X5_readings
set_option maxRecDepth 20000 in
theorem ggL_law_X4_readingsPlainly : GoodIn wsL_law wsX4_readingsPlainly := goodIn_r _ [306, 20, 33, 17, 19, 307, 32, 308, 309, 59, 310, 311, 312, 313, 314, 248, 249, 250, 251, 16, 252, 253, 38, 39, 254, 255, 256, 40, 42, 257, 258, 259, 260, 45, 43, 41, 264, 2, 265, 266, 267, 268, 269, 522, 523, 524, 525, 526, 527, 528, 554, 544, 545, 546, 547, 548, 549, 550, 551] (by decide +kernel) (by decide +kernel)
set_option maxRecDepth 20000 in
theorem gL_law_X4_readingsPlainly : GoodIn wsL_law (wsV RL 111 RX4 yX4_readingsPlainly wsX4_readingsPlainly) := goodIn_app (goodIn_of _ (by decide +kernel)) ggL_law_X4_readingsPlainly
set_option maxRecDepth 20000 in
theorem ggL_law_X5_readingsPlainly : GoodIn wsL_law wsX5_readingsPlainly := goodIn_r _ [318, 319, 271, 272, 5, 273, 115, 187, 274, 275, 276, 277, 73, 278, 279, 280, 281, 282, 283, 284, 71, 70, 285, 286, 287, 288, 64, 65, 161, 66, 67, 68, 289, 290, 291, 292, 293, 294, 295, 296, 297, 298, 299, 69, 300, 301, 302, 529, 530, 531, 532, 533, 534, 535, 536, 537, 538, 539, 540, 541, 542, 543] (by decide +kernel) (by decide +kernel)
set_option maxRecDepth 20000 in
theorem gL_law_X5_readingsPlainly : GoodIn wsL_law (wsV RL 114 RX5 yX5_readingsPlainly wsX5_readingsPlainly) := goodIn_app (goodIn_of _ (by decide +kernel)) ggL_law_X5_readingsPlainly
set_option maxRecDepth 20000 in
theorem ggL_law_L_readingsOf : GoodIn wsL_law wsL_readingsOf := goodIn_ca (goodIn_r _ [322, 123, 323, 324, 325, 2, 326, 128, 129, 327, 328, 329, 330, 20, 91, 92, 93, 234, 235, 236, 237, 29, 17, 19, 238, 28, 239, 240, 241, 242, 243, 244, 54, 245, 246, 247, 248, 249, 250, 251, 16, 252, 253, 38, 39, 254, 255, 256, 40, 42, 257, 258, 259, 260, 45, 43, 41, 261, 262, 263, 264, 265, 266, 267, 268, 269, 522, 523, 524, 525, 526, 527, 528, 553, 544, 545, 546, 547, 548, 549, 550, 551] (by decide +kernel) (by decide +kernel)) (goodIn_sub (fun _ h => List.mem_append_right _ h) (by decide +kernel))
set_option maxRecDepth 20000 in
theorem gL_law_L_readingsOf : GoodIn wsL_law (va_wsS RL 115 yL_readingsOf wsL_readingsOf) := goodIn_app (goodIn_of _ (by decide +kernel)) ggL_law_L_readingsOf
set_option maxRecDepth 20000 in
theorem ggL_law_X5_readingsOf : GoodIn wsL_law wsX5_readingsOf := goodIn_r _ [334, 335, 336, 337, 5, 338, 187, 108, 109, 110, 111, 112, 113, 114, 115, 274, 275, 276, 277, 73, 278, 279, 280, 281, 282, 283, 284, 71, 70, 285, 286, 287, 288, 64, 65, 161, 66, 67, 68, 289, 290, 291, 292, 293, 294, 295, 296, 297, 298, 299, 69, 300, 301, 302, 529, 530, 531, 532, 533, 534, 535, 536, 537, 538, 539, 540, 541, 542, 543] (by decide +kernel) (by decide +kernel)
set_option maxRecDepth 20000 in
theorem gL_law_X5_readingsOf : GoodIn wsL_law (wsV RL 117 RX5 yX5_readingsOf wsX5_readingsOf) := goodIn_app (goodIn_of _ (by decide +kernel)) ggL_law_X5_readingsOf
set_option maxRecDepth 20000 in
theorem ggL_law_L_has : GoodIn wsL_law wsL_has := goodIn_ca (goodIn_ca (goodIn_r _ [341, 123, 78, 342, 343, 344, 2, 345, 128, 129, 84, 85, 25, 17, 19, 20, 327, 328, 329, 330, 91, 92, 93, 145, 146, 147, 346, 24, 347, 348, 349, 350, 351, 352, 353, 354, 355, 356, 49, 245, 246, 357, 358, 359, 360, 361, 362, 363, 364, 365, 366, 367, 368, 369, 16, 370, 371, 45, 372, 373, 374, 375, 376, 94, 95, 96, 377, 522, 523, 524, 525, 526, 527, 528, 544, 545, 546, 547, 548, 549, 550, 551, 552] (by decide +kernel) (by decide +kernel)) (goodIn_sub (fun _ h => List.mem_append_right _ h) (by decide +kernel))) (goodIn_sub (fun _ h => List.mem_append_left _ (List.mem_append_left _ (List.mem_append_right _ h))) (by decide +kernel))
set_option maxRecDepth 20000 in
theorem gL_law_L_has : GoodIn wsL_law (va_wsS RL 118 yL_has wsL_has) := goodIn_app (goodIn_of _ (by decide +kernel)) ggL_law_L_has
set_option maxRecDepth 20000 in
theorem ggL_law_X5_has : GoodIn wsL_law wsX5_has := goodIn_r _ [381, 161, 72, 335, 336, 337, 5, 338, 187, 108, 109, 110, 162, 163, 164, 111, 112, 113, 114, 115, 280, 281, 282, 283, 284, 71, 70, 382, 383, 384, 385, 64, 65, 67, 68, 66, 289, 290, 291, 386, 387, 388, 389, 296, 297, 298, 299, 69, 300, 301, 302, 529, 530, 531, 532, 533, 534, 535, 536, 537, 538, 539, 540, 541, 542, 543] (by decide +kernel) (by decide +kernel)
set_option maxRecDepth 20000 in
theorem gL_law_X5_has : GoodIn wsL_law (wsV RL 120 RX5 yX5_has wsX5_has) := goodIn_app (goodIn_of _ (by decide +kernel)) ggL_law_X5_has
set_option maxRecDepth 20000 in
theorem ggL_law_X4_level : GoodIn wsL_law wsX4_level := goodIn_r _ [393, 17, 25, 19, 20, 346, 24, 347, 348, 349, 350, 351, 352, 353, 354, 355, 356, 49, 245, 2, 246, 357, 358, 359, 360, 361, 362, 363, 364, 365, 366, 367, 368, 369, 16, 370, 371, 45, 372, 373, 394, 395, 396, 397, 374, 375, 376, 522, 523, 524, 525, 526, 527, 528, 544, 545, 546, 547, 548, 549, 550, 551, 552] (by decide +kernel) (by decide +kernel)
set_option maxRecDepth 20000 in
theorem gL_law_X4_level : GoodIn wsL_law (wsV RL 121 RX4 yX4_level wsX4_level) := goodIn_app (goodIn_of _ (by decide +kernel)) ggL_law_X4_level
set_option maxRecDepth 20000 in
theorem ggL_law_X5_level : GoodIn wsL_law wsX5_level := goodIn_r _ [401, 115, 161, 284, 72, 280, 281, 282, 5, 283, 187, 71, 70, 382, 383, 384, 385, 64, 65, 67, 68, 66, 289, 290, 291, 386, 387, 388, 389, 296, 297, 298, 299, 69, 300, 301, 302, 529, 530, 531, 532, 533, 534, 535, 536, 537, 538, 539, 540, 541, 542, 543] (by decide +kernel) (by decide +kernel)
set_option maxRecDepth 20000 in
theorem gL_law_X5_level : GoodIn wsL_law (wsV RL 124 RX5 yX5_level wsX5_level) := goodIn_app (goodIn_of _ (by decide +kernel)) ggL_law_X5_level
set_option maxRecDepth 20000 in
theorem ggL_law_L_sentences : GoodIn wsL_law wsL_sentences := goodIn_ca (goodIn_r _ [404, 78, 405, 406, 407, 2, 408, 84, 85, 409, 410, 411, 412, 413, 414, 415, 17, 416, 417, 418, 419, 25, 21, 420, 421, 422, 423, 350, 24, 351, 352, 353, 354, 355, 356, 49, 245, 246, 357, 358, 359, 360, 362, 363, 364, 365, 366, 367, 368, 369, 16, 370, 371, 45, 372, 373, 394, 395, 396, 397, 374, 375, 376, 424, 425, 426, 427, 522, 523, 524, 525, 526, 527, 528, 544, 545, 546, 547, 548, 549, 550, 551, 552] (by decide +kernel) (by decide +kernel)) (goodIn_sub (fun _ h => List.mem_append_left _ (List.mem_append_left _ (List.mem_append_right _ h))) (by decide +kernel))
set_option maxRecDepth 20000 in
theorem gL_law_L_sentences : GoodIn wsL_law (va_wsS RL 125 yL_sentences wsL_sentences) := goodIn_app (goodIn_of _ (by decide +kernel)) ggL_law_L_sentences
set_option maxRecDepth 20000 in
theorem ggL_law_X5_sentences : GoodIn wsL_law wsX5_sentences := goodIn_r _ [431, 432, 433, 5, 434, 111, 112, 113, 114, 115, 435, 436, 437, 438, 439, 440, 441, 442, 104, 443, 444, 445, 446, 284, 71, 447, 448, 449, 450, 161, 72, 382, 383, 384, 385, 64, 65, 67, 68, 66, 289, 290, 291, 386, 387, 388, 389, 296, 297, 298, 299, 69, 300, 301, 302, 529, 530, 531, 532, 533, 534, 535, 536, 537, 538, 539, 540, 541, 542, 543] (by decide +kernel) (by decide +kernel)
set_option maxRecDepth 20000 in
theorem gL_law_X5_sentences : GoodIn wsL_law (wsV RL 127 RX5 yX5_sentences wsX5_sentences) := goodIn_app (goodIn_of _ (by decide +kernel)) ggL_law_X5_sentences
set_option maxRecDepth 20000 in
theorem ggL_law_L_sentence : GoodIn wsL_law wsL_sentence := goodIn_ca (goodIn_r _ [453, 78, 454, 455, 456, 2, 457, 84, 85, 409, 410, 411, 416, 417, 418, 419, 25, 17, 21, 412, 413, 414, 415, 420, 421, 422, 423, 350, 24, 351, 352, 353, 354, 355, 356, 49, 245, 246, 357, 358, 359, 360, 362, 363, 364, 365, 366, 367, 368, 369, 16, 370, 371, 45, 372, 373, 394, 395, 396, 397, 374, 375, 376, 424, 425, 426, 427, 458, 459, 460, 461, 522, 523, 524, 525, 526, 527, 528, 544, 545, 546, 547, 548, 549, 550, 551, 552] (by decide +kernel) (by decide +kernel)) (goodIn_sub (fun _ h => List.mem_append_left _ (List.mem_append_left _ (List.mem_append_right _ h))) (by decide +kernel))
set_option maxRecDepth 20000 in
theorem gL_law_L_sentence : GoodIn wsL_law (va_wsS RL 128 yL_sentence wsL_sentence) := goodIn_app (goodIn_of _ (by decide +kernel)) ggL_law_L_sentence
set_option maxRecDepth 20000 in
theorem ggL_law_X5_sentence : GoodIn wsL_law wsX5_sentence := goodIn_r _ [465, 71, 432, 433, 5, 434, 111, 112, 113, 114, 115, 439, 440, 441, 442, 104, 443, 444, 445, 446, 284, 447, 448, 449, 450, 161, 72, 382, 383, 384, 385, 64, 65, 67, 68, 66, 289, 290, 291, 386, 387, 388, 389, 296, 297, 298, 299, 69, 300, 301, 302, 529, 530, 531, 532, 533, 534, 535, 536, 537, 538, 539, 540, 541, 542, 543] (by decide +kernel) (by decide +kernel)
set_option maxRecDepth 20000 in
theorem gL_law_X5_sentence : GoodIn wsL_law (wsV RL 130 RX5 yX5_sentence wsX5_sentence) := goodIn_app (goodIn_of _ (by decide +kernel)) ggL_law_X5_sentence
set_option maxRecDepth 20000 in
theorem ggL_law_L_share : GoodIn wsL_law wsL_share := goodIn_ca (goodIn_r _ [468, 78, 469, 470, 471, 2, 472, 84, 85, 409, 410, 411, 412, 413, 414, 415, 17, 416, 417, 418, 419, 25, 21, 420, 421, 422, 423, 350, 24, 351, 352, 353, 354, 355, 356, 49, 245, 246, 357, 358, 359, 360, 362, 363, 364, 365, 366, 367, 368, 369, 16, 370, 371, 45, 372, 373, 394, 395, 396, 397, 374, 375, 376, 424, 425, 426, 427, 522, 523, 524, 525, 526, 527, 528, 544, 545, 546, 547, 548, 549, 550, 551, 552] (by decide +kernel) (by decide +kernel)) (goodIn_sub (fun _ h => List.mem_append_left _ (List.mem_append_left _ (List.mem_append_right _ h))) (by decide +kernel))
set_option maxRecDepth 20000 in
theorem gL_law_L_share : GoodIn wsL_law (va_wsS RL 131 yL_share wsL_share) := goodIn_app (goodIn_of _ (by decide +kernel)) ggL_law_L_share
set_option maxRecDepth 20000 in
theorem ggL_law_X5_share : GoodIn wsL_law wsX5_share := goodIn_r _ [476, 104, 432, 433, 5, 434, 111, 112, 113, 114, 115, 435, 436, 437, 438, 439, 440, 441, 442, 443, 444, 445, 446, 284, 71, 447, 448, 449, 450, 161, 72, 382, 383, 384, 385, 64, 65, 67, 68, 66, 289, 290, 291, 386, 387, 388, 389, 296, 297, 298, 299, 69, 300, 301, 302, 529, 530, 531, 532, 533, 534, 535, 536, 537, 538, 539, 540, 541, 542, 543] (by decide +kernel) (by decide +kernel)
set_option maxRecDepth 20000 in
theorem gL_law_X5_share : GoodIn wsL_law (wsV RL 134 RX5 yX5_share wsX5_share) := goodIn_app (goodIn_of _ (by decide +kernel)) ggL_law_X5_share
set_option maxRecDepth 20000 in
theorem ggL_law_L_spoil : GoodIn wsL_law wsL_spoil := goodIn_ca (goodIn_r _ [479, 123, 480, 481, 482, 2, 483, 128, 129, 20, 17, 19, 91, 92, 93, 484, 485, 486, 487, 25, 488, 24, 489, 490, 353, 354, 355, 356, 49, 245, 246, 357, 358, 359, 360, 350, 351, 352, 362, 363, 364, 365, 366, 367, 368, 369, 16, 370, 371, 45, 372, 373, 394, 395, 396, 397, 374, 375, 376, 491, 492, 493, 494, 21, 495, 496, 497, 498, 346, 347, 348, 349, 361, 522, 523, 524, 525, 526, 527, 528, 544, 545, 546, 547, 548, 549, 550, 551, 552] (by decide +kernel) (by decide +kernel)) (goodIn_sub (fun _ h => List.mem_append_right _ h) (by decide +kernel))
set_option maxRecDepth 20000 in
theorem gL_law_L_spoil : GoodIn wsL_law (va_wsS RL 135 yL_spoil wsL_spoil) := goodIn_app (goodIn_of _ (by decide +kernel)) ggL_law_L_spoil
set_option maxRecDepth 20000 in
theorem ggL_law_X5_spoil : GoodIn wsL_law wsX5_spoil := goodIn_r _ [502, 104, 70, 64, 71, 199, 200, 201, 5, 202, 187, 111, 112, 113, 114, 115, 280, 281, 282, 283, 284, 447, 448, 449, 450, 161, 72, 382, 383, 384, 385, 65, 67, 68, 66, 289, 290, 291, 386, 387, 388, 389, 296, 297, 298, 299, 69, 300, 301, 302, 529, 530, 531, 532, 533, 534, 535, 536, 537, 538, 539, 540, 541, 542, 543] (by decide +kernel) (by decide +kernel)
set_option maxRecDepth 20000 in
theorem gL_law_X5_spoil : GoodIn wsL_law (wsV RL 137 RX5 yX5_spoil wsX5_spoil) := goodIn_app (goodIn_of _ (by decide +kernel)) ggL_law_X5_spoil
set_option maxRecDepth 20000 in
theorem ggL_law_X4_changes : GoodIn wsL_law wsX4_changes := goodIn_r _ [506, 20, 484, 485, 486, 2, 487, 25, 17, 19, 488, 24, 489, 490, 353, 354, 355, 356, 49, 245, 246, 357, 358, 359, 360, 350, 351, 352, 362, 363, 364, 365, 366, 367, 368, 369, 16, 370, 371, 45, 372, 373, 394, 395, 396, 397, 374, 375, 376, 522, 523, 524, 525, 526, 527, 528, 544, 545, 546, 547, 548, 549, 550, 551, 552] (by decide +kernel) (by decide +kernel)
set_option maxRecDepth 20000 in
theorem gL_law_X4_changes : GoodIn wsL_law (wsV RL 138 RX4 yX4_changes wsX4_changes) := goodIn_app (goodIn_of _ (by decide +kernel)) ggL_law_X4_changes
set_option maxRecDepth 20000 in
theorem ggL_law_X5_changes : GoodIn wsL_law wsX5_changes := goodIn_r _ [510, 115, 187, 104, 71, 280, 281, 282, 5, 283, 284, 70, 447, 448, 449, 450, 161, 72, 382, 383, 384, 385, 64, 65, 67, 68, 66, 289, 290, 291, 386, 387, 388, 389, 296, 297, 298, 299, 69, 300, 301, 302, 529, 530, 531, 532, 533, 534, 535, 536, 537, 538, 539, 540, 541, 542, 543] (by decide +kernel) (by decide +kernel)
set_option maxRecDepth 20000 in
theorem gL_law_X5_changes : GoodIn wsL_law (wsV RL 141 RX5 yX5_changes wsX5_changes) := goodIn_app (goodIn_of _ (by decide +kernel)) ggL_law_X5_changes
set_option maxRecDepth 20000 in
theorem ggL_law_L_correction : GoodIn wsL_law wsL_correction := goodIn_ca (goodIn_r _ [513, 123, 514, 515, 516, 2, 517, 128, 129, 20, 17, 19, 491, 492, 493, 494, 21, 495, 496, 497, 498, 25, 346, 24, 347, 348, 349, 350, 351, 352, 353, 354, 355, 356, 49, 245, 246, 357, 358, 359, 360, 361, 362, 363, 364, 365, 366, 367, 368, 369, 16, 370, 371, 45, 372, 373, 394, 395, 396, 397, 374, 375, 376, 522, 523, 524, 525, 526, 527, 528, 544, 545, 546, 547, 548, 549, 550, 551, 552] (by decide +kernel) (by decide +kernel)) (goodIn_sub (fun _ h => List.mem_append_right _ h) (by decide +kernel))
set_option maxRecDepth 20000 in
theorem gL_law_L_correction : GoodIn wsL_law (va_wsS RL 142 yL_correction wsL_correction) := goodIn_app (goodIn_of _ (by decide +kernel)) ggL_law_L_correction
set_option maxRecDepth 20000 in
theorem ggL_law_X5_correction : GoodIn wsL_law wsX5_correction := goodIn_r _ [521, 187, 104, 71, 70, 111, 112, 113, 5, 114, 115, 280, 281, 282, 283, 284, 447, 448, 449, 450, 161, 72, 382, 383, 384, 385, 64, 65, 67, 68, 66, 289, 290, 291, 386, 387, 388, 389, 296, 297, 298, 299, 69, 300, 301, 302, 529, 530, 531, 532, 533, 534, 535, 536, 537, 538, 539, 540, 541, 542, 543] (by decide +kernel) (by decide +kernel)
set_option maxRecDepth 20000 in
theorem gL_law_X5_correction : GoodIn wsL_law (wsV RL 144 RX5 yX5_correction wsX5_correction) := goodIn_app (goodIn_of _ (by decide +kernel)) ggL_law_X5_correction
theorem dL_law_0 : decode cL_law 0 = .ok (.new 8, 3) := by decide +kernel
theorem dL_law_3 : decode cL_law 3 = .ok (.dup, 1) := by decide +kernel
theorem dL_law_4 : decode cL_law 4 = .ok (.invokespecial 64, 3) := by decide +kernel
theorem dL_law_7 : decode cL_law 7 = .ok (.astore_n 1, 1) := by decide +kernel
theorem dL_law_8 : decode cL_law 8 = .ok (.new 65, 3) := by decide +kernel
theorem dL_law_11 : decode cL_law 11 = .ok (.dup, 1) := by decide +kernel
theorem dL_law_12 : decode cL_law 12 = .ok (.invokespecial 67, 3) := by decide +kernel
theorem dL_law_15 : decode cL_law 15 = .ok (.astore_n 2, 1) := by decide +kernel
theorem dL_law_16 : decode cL_law 16 = .ok (.iconst 1, 1) := by decide +kernel
theorem dL_law_17 : decode cL_law 17 = .ok (.newarray .long, 2) := by decide +kernel
theorem dL_law_19 : decode cL_law 19 = .ok (.astore_n 3, 1) := by decide +kernel
theorem dL_law_20 : decode cL_law 20 = .ok (.iconst 1, 1) := by decide +kernel
theorem dL_law_21 : decode cL_law 21 = .ok (.newarray .double, 2) := by decide +kernel
theorem dL_law_23 : decode cL_law 23 = .ok (.astore 4, 2) := by decide +kernel
theorem dL_law_25 : decode cL_law 25 = .ok (.iconst 0, 1) := by decide +kernel
theorem dL_law_26 : decode cL_law 26 = .ok (.istore 5, 2) := by decide +kernel
theorem dL_law_28 : decode cL_law 28 = .ok (.iload 5, 2) := by decide +kernel
theorem dL_law_30 : decode cL_law 30 = .ok (.aload_n 0, 1) := by decide +kernel
theorem dL_law_31 : decode cL_law 31 = .ok (.arraylength, 1) := by decide +kernel
theorem dL_law_32 : decode cL_law 32 = .ok (.iconst 5, 1) := by decide +kernel
theorem dL_law_33 : decode cL_law 33 = .ok (.isub, 1) := by decide +kernel
theorem dL_law_34 : decode cL_law 34 = .ok (.if_icmp .gt 1171, 3) := by decide +kernel
theorem dL_law_37 : decode cL_law 37 = .ok (.aload_n 0, 1) := by decide +kernel
theorem dL_law_38 : decode cL_law 38 = .ok (.iload 5, 2) := by decide +kernel
theorem dL_law_40 : decode cL_law 40 = .ok (.iaload, 1) := by decide +kernel
theorem dL_law_41 : decode cL_law 41 = .ok (.bipush 31, 2) := by decide +kernel
theorem dL_law_43 : decode cL_law 43 = .ok (.iand, 1) := by decide +kernel
theorem dL_law_44 : decode cL_law 44 = .ok (.tableswitch 1155 0 19 #[96, 176, 268, 360, 404, 460, 528, 541, 554, 610, 623, 636, 716, 815, 828, 884, 952, 1030, 1086, 1099], 96) := by decide +kernel
theorem dL_law_140 : decode cL_law 140 = .ok (.aload_n 1, 1) := by decide +kernel
theorem dL_law_141 : decode cL_law 141 = .ok (.aload_n 0, 1) := by decide +kernel
theorem dL_law_142 : decode cL_law 142 = .ok (.iload 5, 2) := by decide +kernel
theorem dL_law_144 : decode cL_law 144 = .ok (.iconst 1, 1) := by decide +kernel
theorem dL_law_145 : decode cL_law 145 = .ok (.iadd, 1) := by decide +kernel
theorem dL_law_146 : decode cL_law 146 = .ok (.iaload, 1) := by decide +kernel
theorem dL_law_147 : decode cL_law 147 = .ok (.aload_n 0, 1) := by decide +kernel
theorem dL_law_148 : decode cL_law 148 = .ok (.iload 5, 2) := by decide +kernel
theorem dL_law_150 : decode cL_law 150 = .ok (.iconst 2, 1) := by decide +kernel
theorem dL_law_151 : decode cL_law 151 = .ok (.iadd, 1) := by decide +kernel
theorem dL_law_152 : decode cL_law 152 = .ok (.iaload, 1) := by decide +kernel
theorem dL_law_153 : decode cL_law 153 = .ok (.aload_n 0, 1) := by decide +kernel
theorem dL_law_154 : decode cL_law 154 = .ok (.iload 5, 2) := by decide +kernel
theorem dL_law_156 : decode cL_law 156 = .ok (.iconst 3, 1) := by decide +kernel
theorem dL_law_157 : decode cL_law 157 = .ok (.iadd, 1) := by decide +kernel
theorem dL_law_158 : decode cL_law 158 = .ok (.iaload, 1) := by decide +kernel
theorem dL_law_159 : decode cL_law 159 = .ok (.aload_n 3, 1) := by decide +kernel
theorem dL_law_160 : decode cL_law 160 = .ok (.invokestatic 68, 3) := by decide +kernel
theorem dL_law_163 : decode cL_law 163 = .ok (.istore 6, 2) := by decide +kernel
theorem dL_law_165 : decode cL_law 165 = .ok (.aload_n 2, 1) := by decide +kernel
theorem dL_law_166 : decode cL_law 166 = .ok (.aload_n 0, 1) := by decide +kernel
theorem dL_law_167 : decode cL_law 167 = .ok (.iload 5, 2) := by decide +kernel
theorem dL_law_169 : decode cL_law 169 = .ok (.iconst 1, 1) := by decide +kernel
theorem dL_law_170 : decode cL_law 170 = .ok (.iadd, 1) := by decide +kernel
theorem dL_law_171 : decode cL_law 171 = .ok (.iaload, 1) := by decide +kernel
theorem dL_law_172 : decode cL_law 172 = .ok (.aload_n 0, 1) := by decide +kernel
theorem dL_law_173 : decode cL_law 173 = .ok (.iload 5, 2) := by decide +kernel
theorem dL_law_175 : decode cL_law 175 = .ok (.iconst 2, 1) := by decide +kernel
theorem dL_law_176 : decode cL_law 176 = .ok (.iadd, 1) := by decide +kernel
theorem dL_law_177 : decode cL_law 177 = .ok (.iaload, 1) := by decide +kernel
theorem dL_law_178 : decode cL_law 178 = .ok (.aload_n 0, 1) := by decide +kernel
theorem dL_law_179 : decode cL_law 179 = .ok (.iload 5, 2) := by decide +kernel
theorem dL_law_181 : decode cL_law 181 = .ok (.iconst 3, 1) := by decide +kernel
theorem dL_law_182 : decode cL_law 182 = .ok (.iadd, 1) := by decide +kernel
theorem dL_law_183 : decode cL_law 183 = .ok (.iaload, 1) := by decide +kernel
theorem dL_law_184 : decode cL_law 184 = .ok (.invokevirtual 73, 3) := by decide +kernel
theorem dL_law_187 : decode cL_law 187 = .ok (.istore 7, 2) := by decide +kernel
theorem dL_law_189 : decode cL_law 189 = .ok (.aload_n 2, 1) := by decide +kernel
theorem dL_law_190 : decode cL_law 190 = .ok (.invokevirtual 74, 3) := by decide +kernel
theorem dL_law_193 : decode cL_law 193 = .ok (.iload 6, 2) := by decide +kernel
theorem dL_law_195 : decode cL_law 195 = .ok (.if_icmp .eq 5, 3) := by decide +kernel
theorem dL_law_198 : decode cL_law 198 = .ok (.iconst 0, 1) := by decide +kernel
theorem dL_law_199 : decode cL_law 199 = .ok (.ireturn, 1) := by decide +kernel
theorem dL_law_200 : decode cL_law 200 = .ok (.iload 6, 2) := by decide +kernel
theorem dL_law_202 : decode cL_law 202 = .ok (.ifCond .ne 15, 3) := by decide +kernel
theorem dL_law_205 : decode cL_law 205 = .ok (.aload_n 3, 1) := by decide +kernel
theorem dL_law_206 : decode cL_law 206 = .ok (.iconst 0, 1) := by decide +kernel
theorem dL_law_207 : decode cL_law 207 = .ok (.laload, 1) := by decide +kernel
theorem dL_law_208 : decode cL_law 208 = .ok (.iload 7, 2) := by decide +kernel
theorem dL_law_210 : decode cL_law 210 = .ok (.i2l, 1) := by decide +kernel
theorem dL_law_211 : decode cL_law 211 = .ok (.lcmp, 1) := by decide +kernel
theorem dL_law_212 : decode cL_law 212 = .ok (.ifCond .eq 5, 3) := by decide +kernel
theorem dL_law_215 : decode cL_law 215 = .ok (.iconst 0, 1) := by decide +kernel
theorem dL_law_216 : decode cL_law 216 = .ok (.ireturn, 1) := by decide +kernel
theorem dL_law_217 : decode cL_law 217 = .ok (.goto 982, 3) := by decide +kernel
theorem dL_law_220 : decode cL_law 220 = .ok (.aload_n 1, 1) := by decide +kernel
theorem dL_law_221 : decode cL_law 221 = .ok (.aload_n 0, 1) := by decide +kernel
theorem dL_law_222 : decode cL_law 222 = .ok (.iload 5, 2) := by decide +kernel
theorem dL_law_224 : decode cL_law 224 = .ok (.iconst 1, 1) := by decide +kernel
theorem dL_law_225 : decode cL_law 225 = .ok (.iadd, 1) := by decide +kernel
theorem dL_law_226 : decode cL_law 226 = .ok (.iaload, 1) := by decide +kernel
theorem dL_law_227 : decode cL_law 227 = .ok (.aload_n 0, 1) := by decide +kernel
theorem dL_law_228 : decode cL_law 228 = .ok (.iload 5, 2) := by decide +kernel
theorem dL_law_230 : decode cL_law 230 = .ok (.iconst 2, 1) := by decide +kernel
theorem dL_law_231 : decode cL_law 231 = .ok (.iadd, 1) := by decide +kernel
theorem dL_law_232 : decode cL_law 232 = .ok (.iaload, 1) := by decide +kernel
theorem dL_law_233 : decode cL_law 233 = .ok (.aload_n 0, 1) := by decide +kernel
theorem dL_law_234 : decode cL_law 234 = .ok (.iload 5, 2) := by decide +kernel
theorem dL_law_236 : decode cL_law 236 = .ok (.iconst 3, 1) := by decide +kernel
theorem dL_law_237 : decode cL_law 237 = .ok (.iadd, 1) := by decide +kernel
theorem dL_law_238 : decode cL_law 238 = .ok (.iaload, 1) := by decide +kernel
theorem dL_law_239 : decode cL_law 239 = .ok (.aload_n 0, 1) := by decide +kernel
theorem dL_law_240 : decode cL_law 240 = .ok (.iload 5, 2) := by decide +kernel
theorem dL_law_242 : decode cL_law 242 = .ok (.iconst 4, 1) := by decide +kernel
theorem dL_law_243 : decode cL_law 243 = .ok (.iadd, 1) := by decide +kernel
theorem dL_law_244 : decode cL_law 244 = .ok (.iaload, 1) := by decide +kernel
theorem dL_law_245 : decode cL_law 245 = .ok (.aload_n 3, 1) := by decide +kernel
theorem dL_law_246 : decode cL_law 246 = .ok (.invokestatic 77, 3) := by decide +kernel
theorem dL_law_249 : decode cL_law 249 = .ok (.istore 6, 2) := by decide +kernel
theorem dL_law_251 : decode cL_law 251 = .ok (.aload_n 2, 1) := by decide +kernel
theorem dL_law_252 : decode cL_law 252 = .ok (.aload_n 0, 1) := by decide +kernel
theorem dL_law_253 : decode cL_law 253 = .ok (.iload 5, 2) := by decide +kernel
theorem dL_law_255 : decode cL_law 255 = .ok (.iconst 1, 1) := by decide +kernel
theorem dL_law_256 : decode cL_law 256 = .ok (.iadd, 1) := by decide +kernel
theorem dL_law_257 : decode cL_law 257 = .ok (.iaload, 1) := by decide +kernel
theorem dL_law_258 : decode cL_law 258 = .ok (.aload_n 0, 1) := by decide +kernel
theorem dL_law_259 : decode cL_law 259 = .ok (.iload 5, 2) := by decide +kernel
theorem dL_law_261 : decode cL_law 261 = .ok (.iconst 2, 1) := by decide +kernel
theorem dL_law_262 : decode cL_law 262 = .ok (.iadd, 1) := by decide +kernel
theorem dL_law_263 : decode cL_law 263 = .ok (.iaload, 1) := by decide +kernel
theorem dL_law_264 : decode cL_law 264 = .ok (.aload_n 0, 1) := by decide +kernel
theorem dL_law_265 : decode cL_law 265 = .ok (.iload 5, 2) := by decide +kernel
theorem dL_law_267 : decode cL_law 267 = .ok (.iconst 3, 1) := by decide +kernel
theorem dL_law_268 : decode cL_law 268 = .ok (.iadd, 1) := by decide +kernel
theorem dL_law_269 : decode cL_law 269 = .ok (.iaload, 1) := by decide +kernel
theorem dL_law_270 : decode cL_law 270 = .ok (.aload_n 0, 1) := by decide +kernel
theorem dL_law_271 : decode cL_law 271 = .ok (.iload 5, 2) := by decide +kernel
theorem dL_law_273 : decode cL_law 273 = .ok (.iconst 4, 1) := by decide +kernel
theorem dL_law_274 : decode cL_law 274 = .ok (.iadd, 1) := by decide +kernel
theorem dL_law_275 : decode cL_law 275 = .ok (.iaload, 1) := by decide +kernel
theorem dL_law_276 : decode cL_law 276 = .ok (.invokevirtual 80, 3) := by decide +kernel
theorem dL_law_279 : decode cL_law 279 = .ok (.istore 7, 2) := by decide +kernel
theorem dL_law_281 : decode cL_law 281 = .ok (.aload_n 2, 1) := by decide +kernel
theorem dL_law_282 : decode cL_law 282 = .ok (.invokevirtual 74, 3) := by decide +kernel
theorem dL_law_285 : decode cL_law 285 = .ok (.iload 6, 2) := by decide +kernel
theorem dL_law_287 : decode cL_law 287 = .ok (.if_icmp .eq 5, 3) := by decide +kernel
theorem dL_law_290 : decode cL_law 290 = .ok (.iconst 0, 1) := by decide +kernel
theorem dL_law_291 : decode cL_law 291 = .ok (.ireturn, 1) := by decide +kernel
theorem dL_law_292 : decode cL_law 292 = .ok (.iload 6, 2) := by decide +kernel
theorem dL_law_294 : decode cL_law 294 = .ok (.ifCond .ne 15, 3) := by decide +kernel
theorem dL_law_297 : decode cL_law 297 = .ok (.aload_n 3, 1) := by decide +kernel
theorem dL_law_298 : decode cL_law 298 = .ok (.iconst 0, 1) := by decide +kernel
theorem dL_law_299 : decode cL_law 299 = .ok (.laload, 1) := by decide +kernel
theorem dL_law_300 : decode cL_law 300 = .ok (.iload 7, 2) := by decide +kernel
theorem dL_law_302 : decode cL_law 302 = .ok (.i2l, 1) := by decide +kernel
theorem dL_law_303 : decode cL_law 303 = .ok (.lcmp, 1) := by decide +kernel
theorem dL_law_304 : decode cL_law 304 = .ok (.ifCond .eq 5, 3) := by decide +kernel
theorem dL_law_307 : decode cL_law 307 = .ok (.iconst 0, 1) := by decide +kernel
theorem dL_law_308 : decode cL_law 308 = .ok (.ireturn, 1) := by decide +kernel
theorem dL_law_309 : decode cL_law 309 = .ok (.goto 890, 3) := by decide +kernel
theorem dL_law_312 : decode cL_law 312 = .ok (.aload_n 1, 1) := by decide +kernel
theorem dL_law_313 : decode cL_law 313 = .ok (.aload_n 0, 1) := by decide +kernel
theorem dL_law_314 : decode cL_law 314 = .ok (.iload 5, 2) := by decide +kernel
theorem dL_law_316 : decode cL_law 316 = .ok (.iconst 1, 1) := by decide +kernel
theorem dL_law_317 : decode cL_law 317 = .ok (.iadd, 1) := by decide +kernel
theorem dL_law_318 : decode cL_law 318 = .ok (.iaload, 1) := by decide +kernel
theorem dL_law_319 : decode cL_law 319 = .ok (.aload_n 0, 1) := by decide +kernel
theorem dL_law_320 : decode cL_law 320 = .ok (.iload 5, 2) := by decide +kernel
theorem dL_law_322 : decode cL_law 322 = .ok (.iconst 2, 1) := by decide +kernel
theorem dL_law_323 : decode cL_law 323 = .ok (.iadd, 1) := by decide +kernel
theorem dL_law_324 : decode cL_law 324 = .ok (.iaload, 1) := by decide +kernel
theorem dL_law_325 : decode cL_law 325 = .ok (.aload_n 0, 1) := by decide +kernel
theorem dL_law_326 : decode cL_law 326 = .ok (.iload 5, 2) := by decide +kernel
theorem dL_law_328 : decode cL_law 328 = .ok (.iconst 3, 1) := by decide +kernel
theorem dL_law_329 : decode cL_law 329 = .ok (.iadd, 1) := by decide +kernel
theorem dL_law_330 : decode cL_law 330 = .ok (.iaload, 1) := by decide +kernel
theorem dL_law_331 : decode cL_law 331 = .ok (.aload_n 0, 1) := by decide +kernel
theorem dL_law_332 : decode cL_law 332 = .ok (.iload 5, 2) := by decide +kernel
theorem dL_law_334 : decode cL_law 334 = .ok (.iconst 4, 1) := by decide +kernel
theorem dL_law_335 : decode cL_law 335 = .ok (.iadd, 1) := by decide +kernel
theorem dL_law_336 : decode cL_law 336 = .ok (.iaload, 1) := by decide +kernel
theorem dL_law_337 : decode cL_law 337 = .ok (.aload_n 3, 1) := by decide +kernel
theorem dL_law_338 : decode cL_law 338 = .ok (.invokestatic 81, 3) := by decide +kernel
theorem dL_law_341 : decode cL_law 341 = .ok (.istore 6, 2) := by decide +kernel
theorem dL_law_343 : decode cL_law 343 = .ok (.aload_n 2, 1) := by decide +kernel
theorem dL_law_344 : decode cL_law 344 = .ok (.aload_n 0, 1) := by decide +kernel
theorem dL_law_345 : decode cL_law 345 = .ok (.iload 5, 2) := by decide +kernel
theorem dL_law_347 : decode cL_law 347 = .ok (.iconst 1, 1) := by decide +kernel
theorem dL_law_348 : decode cL_law 348 = .ok (.iadd, 1) := by decide +kernel
theorem dL_law_349 : decode cL_law 349 = .ok (.iaload, 1) := by decide +kernel
theorem dL_law_350 : decode cL_law 350 = .ok (.aload_n 0, 1) := by decide +kernel
theorem dL_law_351 : decode cL_law 351 = .ok (.iload 5, 2) := by decide +kernel
theorem dL_law_353 : decode cL_law 353 = .ok (.iconst 2, 1) := by decide +kernel
theorem dL_law_354 : decode cL_law 354 = .ok (.iadd, 1) := by decide +kernel
theorem dL_law_355 : decode cL_law 355 = .ok (.iaload, 1) := by decide +kernel
theorem dL_law_356 : decode cL_law 356 = .ok (.aload_n 0, 1) := by decide +kernel
theorem dL_law_357 : decode cL_law 357 = .ok (.iload 5, 2) := by decide +kernel
theorem dL_law_359 : decode cL_law 359 = .ok (.iconst 3, 1) := by decide +kernel
theorem dL_law_360 : decode cL_law 360 = .ok (.iadd, 1) := by decide +kernel
theorem dL_law_361 : decode cL_law 361 = .ok (.iaload, 1) := by decide +kernel
theorem dL_law_362 : decode cL_law 362 = .ok (.aload_n 0, 1) := by decide +kernel
theorem dL_law_363 : decode cL_law 363 = .ok (.iload 5, 2) := by decide +kernel
theorem dL_law_365 : decode cL_law 365 = .ok (.iconst 4, 1) := by decide +kernel
theorem dL_law_366 : decode cL_law 366 = .ok (.iadd, 1) := by decide +kernel
theorem dL_law_367 : decode cL_law 367 = .ok (.iaload, 1) := by decide +kernel
theorem dL_law_368 : decode cL_law 368 = .ok (.invokevirtual 83, 3) := by decide +kernel
theorem dL_law_371 : decode cL_law 371 = .ok (.istore 7, 2) := by decide +kernel
theorem dL_law_373 : decode cL_law 373 = .ok (.aload_n 2, 1) := by decide +kernel
theorem dL_law_374 : decode cL_law 374 = .ok (.invokevirtual 74, 3) := by decide +kernel
theorem dL_law_377 : decode cL_law 377 = .ok (.iload 6, 2) := by decide +kernel
theorem dL_law_379 : decode cL_law 379 = .ok (.if_icmp .eq 5, 3) := by decide +kernel
theorem dL_law_382 : decode cL_law 382 = .ok (.iconst 0, 1) := by decide +kernel
theorem dL_law_383 : decode cL_law 383 = .ok (.ireturn, 1) := by decide +kernel
theorem dL_law_384 : decode cL_law 384 = .ok (.iload 6, 2) := by decide +kernel
theorem dL_law_386 : decode cL_law 386 = .ok (.ifCond .ne 15, 3) := by decide +kernel
theorem dL_law_389 : decode cL_law 389 = .ok (.aload_n 3, 1) := by decide +kernel
theorem dL_law_390 : decode cL_law 390 = .ok (.iconst 0, 1) := by decide +kernel
theorem dL_law_391 : decode cL_law 391 = .ok (.laload, 1) := by decide +kernel
theorem dL_law_392 : decode cL_law 392 = .ok (.iload 7, 2) := by decide +kernel
theorem dL_law_394 : decode cL_law 394 = .ok (.i2l, 1) := by decide +kernel
theorem dL_law_395 : decode cL_law 395 = .ok (.lcmp, 1) := by decide +kernel
theorem dL_law_396 : decode cL_law 396 = .ok (.ifCond .eq 5, 3) := by decide +kernel
theorem dL_law_399 : decode cL_law 399 = .ok (.iconst 0, 1) := by decide +kernel
theorem dL_law_400 : decode cL_law 400 = .ok (.ireturn, 1) := by decide +kernel
theorem dL_law_401 : decode cL_law 401 = .ok (.goto 798, 3) := by decide +kernel
theorem dL_law_404 : decode cL_law 404 = .ok (.aload_n 1, 1) := by decide +kernel
theorem dL_law_405 : decode cL_law 405 = .ok (.aload_n 3, 1) := by decide +kernel
theorem dL_law_406 : decode cL_law 406 = .ok (.invokestatic 84, 3) := by decide +kernel
theorem dL_law_409 : decode cL_law 409 = .ok (.istore 6, 2) := by decide +kernel
theorem dL_law_411 : decode cL_law 411 = .ok (.aload_n 2, 1) := by decide +kernel
theorem dL_law_412 : decode cL_law 412 = .ok (.invokevirtual 87, 3) := by decide +kernel
theorem dL_law_415 : decode cL_law 415 = .ok (.istore 7, 2) := by decide +kernel
theorem dL_law_417 : decode cL_law 417 = .ok (.aload_n 2, 1) := by decide +kernel
theorem dL_law_418 : decode cL_law 418 = .ok (.invokevirtual 74, 3) := by decide +kernel
theorem dL_law_421 : decode cL_law 421 = .ok (.iload 6, 2) := by decide +kernel
theorem dL_law_423 : decode cL_law 423 = .ok (.if_icmp .eq 5, 3) := by decide +kernel
theorem dL_law_426 : decode cL_law 426 = .ok (.iconst 0, 1) := by decide +kernel
theorem dL_law_427 : decode cL_law 427 = .ok (.ireturn, 1) := by decide +kernel
theorem dL_law_428 : decode cL_law 428 = .ok (.iload 6, 2) := by decide +kernel
theorem dL_law_430 : decode cL_law 430 = .ok (.ifCond .ne 15, 3) := by decide +kernel
theorem dL_law_433 : decode cL_law 433 = .ok (.aload_n 3, 1) := by decide +kernel
theorem dL_law_434 : decode cL_law 434 = .ok (.iconst 0, 1) := by decide +kernel
theorem dL_law_435 : decode cL_law 435 = .ok (.laload, 1) := by decide +kernel
theorem dL_law_436 : decode cL_law 436 = .ok (.iload 7, 2) := by decide +kernel
theorem dL_law_438 : decode cL_law 438 = .ok (.i2l, 1) := by decide +kernel
theorem dL_law_439 : decode cL_law 439 = .ok (.lcmp, 1) := by decide +kernel
theorem dL_law_440 : decode cL_law 440 = .ok (.ifCond .eq 5, 3) := by decide +kernel
theorem dL_law_443 : decode cL_law 443 = .ok (.iconst 0, 1) := by decide +kernel
theorem dL_law_444 : decode cL_law 444 = .ok (.ireturn, 1) := by decide +kernel
theorem dL_law_445 : decode cL_law 445 = .ok (.goto 754, 3) := by decide +kernel
theorem dL_law_448 : decode cL_law 448 = .ok (.aload_n 1, 1) := by decide +kernel
theorem dL_law_449 : decode cL_law 449 = .ok (.aload_n 0, 1) := by decide +kernel
theorem dL_law_450 : decode cL_law 450 = .ok (.iload 5, 2) := by decide +kernel
theorem dL_law_452 : decode cL_law 452 = .ok (.iconst 1, 1) := by decide +kernel
theorem dL_law_453 : decode cL_law 453 = .ok (.iadd, 1) := by decide +kernel
theorem dL_law_454 : decode cL_law 454 = .ok (.iaload, 1) := by decide +kernel
theorem dL_law_455 : decode cL_law 455 = .ok (.aload_n 3, 1) := by decide +kernel
theorem dL_law_456 : decode cL_law 456 = .ok (.invokestatic 88, 3) := by decide +kernel
theorem dL_law_459 : decode cL_law 459 = .ok (.istore 6, 2) := by decide +kernel
theorem dL_law_461 : decode cL_law 461 = .ok (.aload_n 2, 1) := by decide +kernel
theorem dL_law_462 : decode cL_law 462 = .ok (.aload_n 0, 1) := by decide +kernel
theorem dL_law_463 : decode cL_law 463 = .ok (.iload 5, 2) := by decide +kernel
theorem dL_law_465 : decode cL_law 465 = .ok (.iconst 1, 1) := by decide +kernel
theorem dL_law_466 : decode cL_law 466 = .ok (.iadd, 1) := by decide +kernel
theorem dL_law_467 : decode cL_law 467 = .ok (.iaload, 1) := by decide +kernel
theorem dL_law_468 : decode cL_law 468 = .ok (.invokevirtual 91, 3) := by decide +kernel
theorem dL_law_471 : decode cL_law 471 = .ok (.istore 7, 2) := by decide +kernel
theorem dL_law_473 : decode cL_law 473 = .ok (.aload_n 2, 1) := by decide +kernel
theorem dL_law_474 : decode cL_law 474 = .ok (.invokevirtual 74, 3) := by decide +kernel
theorem dL_law_477 : decode cL_law 477 = .ok (.iload 6, 2) := by decide +kernel
theorem dL_law_479 : decode cL_law 479 = .ok (.if_icmp .eq 5, 3) := by decide +kernel
theorem dL_law_482 : decode cL_law 482 = .ok (.iconst 0, 1) := by decide +kernel
theorem dL_law_483 : decode cL_law 483 = .ok (.ireturn, 1) := by decide +kernel
theorem dL_law_484 : decode cL_law 484 = .ok (.iload 6, 2) := by decide +kernel
theorem dL_law_486 : decode cL_law 486 = .ok (.ifCond .ne 15, 3) := by decide +kernel
theorem dL_law_489 : decode cL_law 489 = .ok (.aload_n 3, 1) := by decide +kernel
theorem dL_law_490 : decode cL_law 490 = .ok (.iconst 0, 1) := by decide +kernel
theorem dL_law_491 : decode cL_law 491 = .ok (.laload, 1) := by decide +kernel
theorem dL_law_492 : decode cL_law 492 = .ok (.iload 7, 2) := by decide +kernel
theorem dL_law_494 : decode cL_law 494 = .ok (.i2l, 1) := by decide +kernel
theorem dL_law_495 : decode cL_law 495 = .ok (.lcmp, 1) := by decide +kernel
theorem dL_law_496 : decode cL_law 496 = .ok (.ifCond .eq 5, 3) := by decide +kernel
theorem dL_law_499 : decode cL_law 499 = .ok (.iconst 0, 1) := by decide +kernel
theorem dL_law_500 : decode cL_law 500 = .ok (.ireturn, 1) := by decide +kernel
theorem dL_law_501 : decode cL_law 501 = .ok (.goto 698, 3) := by decide +kernel
theorem dL_law_504 : decode cL_law 504 = .ok (.aload_n 1, 1) := by decide +kernel
theorem dL_law_505 : decode cL_law 505 = .ok (.aload_n 0, 1) := by decide +kernel
theorem dL_law_506 : decode cL_law 506 = .ok (.iload 5, 2) := by decide +kernel
theorem dL_law_508 : decode cL_law 508 = .ok (.iconst 1, 1) := by decide +kernel
theorem dL_law_509 : decode cL_law 509 = .ok (.iadd, 1) := by decide +kernel
theorem dL_law_510 : decode cL_law 510 = .ok (.iaload, 1) := by decide +kernel
theorem dL_law_511 : decode cL_law 511 = .ok (.aload_n 0, 1) := by decide +kernel
theorem dL_law_512 : decode cL_law 512 = .ok (.iload 5, 2) := by decide +kernel
theorem dL_law_514 : decode cL_law 514 = .ok (.iconst 2, 1) := by decide +kernel
theorem dL_law_515 : decode cL_law 515 = .ok (.iadd, 1) := by decide +kernel
theorem dL_law_516 : decode cL_law 516 = .ok (.iaload, 1) := by decide +kernel
theorem dL_law_517 : decode cL_law 517 = .ok (.aload_n 3, 1) := by decide +kernel
theorem dL_law_518 : decode cL_law 518 = .ok (.invokestatic 92, 3) := by decide +kernel
theorem dL_law_521 : decode cL_law 521 = .ok (.istore 6, 2) := by decide +kernel
theorem dL_law_523 : decode cL_law 523 = .ok (.aload_n 2, 1) := by decide +kernel
theorem dL_law_524 : decode cL_law 524 = .ok (.aload_n 0, 1) := by decide +kernel
theorem dL_law_525 : decode cL_law 525 = .ok (.iload 5, 2) := by decide +kernel
theorem dL_law_527 : decode cL_law 527 = .ok (.iconst 1, 1) := by decide +kernel
theorem dL_law_528 : decode cL_law 528 = .ok (.iadd, 1) := by decide +kernel
theorem dL_law_529 : decode cL_law 529 = .ok (.iaload, 1) := by decide +kernel
theorem dL_law_530 : decode cL_law 530 = .ok (.aload_n 0, 1) := by decide +kernel
theorem dL_law_531 : decode cL_law 531 = .ok (.iload 5, 2) := by decide +kernel
theorem dL_law_533 : decode cL_law 533 = .ok (.iconst 2, 1) := by decide +kernel
theorem dL_law_534 : decode cL_law 534 = .ok (.iadd, 1) := by decide +kernel
theorem dL_law_535 : decode cL_law 535 = .ok (.iaload, 1) := by decide +kernel
theorem dL_law_536 : decode cL_law 536 = .ok (.invokevirtual 95, 3) := by decide +kernel
theorem dL_law_539 : decode cL_law 539 = .ok (.istore 7, 2) := by decide +kernel
theorem dL_law_541 : decode cL_law 541 = .ok (.aload_n 2, 1) := by decide +kernel
theorem dL_law_542 : decode cL_law 542 = .ok (.invokevirtual 74, 3) := by decide +kernel
theorem dL_law_545 : decode cL_law 545 = .ok (.iload 6, 2) := by decide +kernel
theorem dL_law_547 : decode cL_law 547 = .ok (.if_icmp .eq 5, 3) := by decide +kernel
theorem dL_law_550 : decode cL_law 550 = .ok (.iconst 0, 1) := by decide +kernel
theorem dL_law_551 : decode cL_law 551 = .ok (.ireturn, 1) := by decide +kernel
theorem dL_law_552 : decode cL_law 552 = .ok (.iload 6, 2) := by decide +kernel
theorem dL_law_554 : decode cL_law 554 = .ok (.ifCond .ne 15, 3) := by decide +kernel
theorem dL_law_557 : decode cL_law 557 = .ok (.aload_n 3, 1) := by decide +kernel
theorem dL_law_558 : decode cL_law 558 = .ok (.iconst 0, 1) := by decide +kernel
theorem dL_law_559 : decode cL_law 559 = .ok (.laload, 1) := by decide +kernel
theorem dL_law_560 : decode cL_law 560 = .ok (.iload 7, 2) := by decide +kernel
theorem dL_law_562 : decode cL_law 562 = .ok (.i2l, 1) := by decide +kernel
theorem dL_law_563 : decode cL_law 563 = .ok (.lcmp, 1) := by decide +kernel
theorem dL_law_564 : decode cL_law 564 = .ok (.ifCond .eq 5, 3) := by decide +kernel
theorem dL_law_567 : decode cL_law 567 = .ok (.iconst 0, 1) := by decide +kernel
theorem dL_law_568 : decode cL_law 568 = .ok (.ireturn, 1) := by decide +kernel
theorem dL_law_569 : decode cL_law 569 = .ok (.goto 630, 3) := by decide +kernel
theorem dL_law_572 : decode cL_law 572 = .ok (.aload_n 1, 1) := by decide +kernel
theorem dL_law_573 : decode cL_law 573 = .ok (.invokevirtual 96, 3) := by decide +kernel
theorem dL_law_576 : decode cL_law 576 = .ok (.aload_n 2, 1) := by decide +kernel
theorem dL_law_577 : decode cL_law 577 = .ok (.invokevirtual 99, 3) := by decide +kernel
theorem dL_law_580 : decode cL_law 580 = .ok (.if_icmp .eq 619, 3) := by decide +kernel
theorem dL_law_583 : decode cL_law 583 = .ok (.iconst 0, 1) := by decide +kernel
theorem dL_law_584 : decode cL_law 584 = .ok (.ireturn, 1) := by decide +kernel
theorem dL_law_585 : decode cL_law 585 = .ok (.aload_n 1, 1) := by decide +kernel
theorem dL_law_586 : decode cL_law 586 = .ok (.invokevirtual 100, 3) := by decide +kernel
theorem dL_law_589 : decode cL_law 589 = .ok (.aload_n 2, 1) := by decide +kernel
theorem dL_law_590 : decode cL_law 590 = .ok (.invokevirtual 103, 3) := by decide +kernel
theorem dL_law_593 : decode cL_law 593 = .ok (.if_icmp .eq 606, 3) := by decide +kernel
theorem dL_law_596 : decode cL_law 596 = .ok (.iconst 0, 1) := by decide +kernel
theorem dL_law_597 : decode cL_law 597 = .ok (.ireturn, 1) := by decide +kernel
theorem dL_law_598 : decode cL_law 598 = .ok (.aload_n 1, 1) := by decide +kernel
theorem dL_law_599 : decode cL_law 599 = .ok (.aload_n 0, 1) := by decide +kernel
theorem dL_law_600 : decode cL_law 600 = .ok (.iload 5, 2) := by decide +kernel
theorem dL_law_602 : decode cL_law 602 = .ok (.iconst 1, 1) := by decide +kernel
theorem dL_law_603 : decode cL_law 603 = .ok (.iadd, 1) := by decide +kernel
theorem dL_law_604 : decode cL_law 604 = .ok (.iaload, 1) := by decide +kernel
theorem dL_law_605 : decode cL_law 605 = .ok (.aload_n 3, 1) := by decide +kernel
theorem dL_law_606 : decode cL_law 606 = .ok (.invokestatic 104, 3) := by decide +kernel
theorem dL_law_609 : decode cL_law 609 = .ok (.istore 6, 2) := by decide +kernel
theorem dL_law_611 : decode cL_law 611 = .ok (.aload_n 2, 1) := by decide +kernel
theorem dL_law_612 : decode cL_law 612 = .ok (.aload_n 0, 1) := by decide +kernel
theorem dL_law_613 : decode cL_law 613 = .ok (.iload 5, 2) := by decide +kernel
theorem dL_law_615 : decode cL_law 615 = .ok (.iconst 1, 1) := by decide +kernel
theorem dL_law_616 : decode cL_law 616 = .ok (.iadd, 1) := by decide +kernel
theorem dL_law_617 : decode cL_law 617 = .ok (.iaload, 1) := by decide +kernel
theorem dL_law_618 : decode cL_law 618 = .ok (.invokevirtual 106, 3) := by decide +kernel
theorem dL_law_621 : decode cL_law 621 = .ok (.istore 7, 2) := by decide +kernel
theorem dL_law_623 : decode cL_law 623 = .ok (.aload_n 2, 1) := by decide +kernel
theorem dL_law_624 : decode cL_law 624 = .ok (.invokevirtual 74, 3) := by decide +kernel
theorem dL_law_627 : decode cL_law 627 = .ok (.iload 6, 2) := by decide +kernel
theorem dL_law_629 : decode cL_law 629 = .ok (.if_icmp .eq 5, 3) := by decide +kernel
theorem dL_law_632 : decode cL_law 632 = .ok (.iconst 0, 1) := by decide +kernel
theorem dL_law_633 : decode cL_law 633 = .ok (.ireturn, 1) := by decide +kernel
theorem dL_law_634 : decode cL_law 634 = .ok (.iload 6, 2) := by decide +kernel
theorem dL_law_636 : decode cL_law 636 = .ok (.ifCond .ne 15, 3) := by decide +kernel
theorem dL_law_639 : decode cL_law 639 = .ok (.aload_n 3, 1) := by decide +kernel
theorem dL_law_640 : decode cL_law 640 = .ok (.iconst 0, 1) := by decide +kernel
theorem dL_law_641 : decode cL_law 641 = .ok (.laload, 1) := by decide +kernel
theorem dL_law_642 : decode cL_law 642 = .ok (.iload 7, 2) := by decide +kernel
theorem dL_law_644 : decode cL_law 644 = .ok (.i2l, 1) := by decide +kernel
theorem dL_law_645 : decode cL_law 645 = .ok (.lcmp, 1) := by decide +kernel
theorem dL_law_646 : decode cL_law 646 = .ok (.ifCond .eq 5, 3) := by decide +kernel
theorem dL_law_649 : decode cL_law 649 = .ok (.iconst 0, 1) := by decide +kernel
theorem dL_law_650 : decode cL_law 650 = .ok (.ireturn, 1) := by decide +kernel
theorem dL_law_651 : decode cL_law 651 = .ok (.goto 548, 3) := by decide +kernel
theorem dL_law_654 : decode cL_law 654 = .ok (.aload_n 1, 1) := by decide +kernel
theorem dL_law_655 : decode cL_law 655 = .ok (.invokevirtual 107, 3) := by decide +kernel
theorem dL_law_658 : decode cL_law 658 = .ok (.aload_n 2, 1) := by decide +kernel
theorem dL_law_659 : decode cL_law 659 = .ok (.invokevirtual 110, 3) := by decide +kernel
theorem dL_law_662 : decode cL_law 662 = .ok (.if_icmp .eq 537, 3) := by decide +kernel
theorem dL_law_665 : decode cL_law 665 = .ok (.iconst 0, 1) := by decide +kernel
theorem dL_law_666 : decode cL_law 666 = .ok (.ireturn, 1) := by decide +kernel
theorem dL_law_667 : decode cL_law 667 = .ok (.aload_n 1, 1) := by decide +kernel
theorem dL_law_668 : decode cL_law 668 = .ok (.invokevirtual 111, 3) := by decide +kernel
theorem dL_law_671 : decode cL_law 671 = .ok (.aload_n 2, 1) := by decide +kernel
theorem dL_law_672 : decode cL_law 672 = .ok (.invokevirtual 114, 3) := by decide +kernel
theorem dL_law_675 : decode cL_law 675 = .ok (.if_icmp .eq 524, 3) := by decide +kernel
theorem dL_law_678 : decode cL_law 678 = .ok (.iconst 0, 1) := by decide +kernel
theorem dL_law_679 : decode cL_law 679 = .ok (.ireturn, 1) := by decide +kernel
theorem dL_law_680 : decode cL_law 680 = .ok (.aload_n 1, 1) := by decide +kernel
theorem dL_law_681 : decode cL_law 681 = .ok (.aload_n 0, 1) := by decide +kernel
theorem dL_law_682 : decode cL_law 682 = .ok (.iload 5, 2) := by decide +kernel
theorem dL_law_684 : decode cL_law 684 = .ok (.iconst 1, 1) := by decide +kernel
theorem dL_law_685 : decode cL_law 685 = .ok (.iadd, 1) := by decide +kernel
theorem dL_law_686 : decode cL_law 686 = .ok (.iaload, 1) := by decide +kernel
theorem dL_law_687 : decode cL_law 687 = .ok (.aload_n 0, 1) := by decide +kernel
theorem dL_law_688 : decode cL_law 688 = .ok (.iload 5, 2) := by decide +kernel
theorem dL_law_690 : decode cL_law 690 = .ok (.iconst 2, 1) := by decide +kernel
theorem dL_law_691 : decode cL_law 691 = .ok (.iadd, 1) := by decide +kernel
theorem dL_law_692 : decode cL_law 692 = .ok (.iaload, 1) := by decide +kernel
theorem dL_law_693 : decode cL_law 693 = .ok (.aload_n 0, 1) := by decide +kernel
theorem dL_law_694 : decode cL_law 694 = .ok (.iload 5, 2) := by decide +kernel
theorem dL_law_696 : decode cL_law 696 = .ok (.iconst 3, 1) := by decide +kernel
theorem dL_law_697 : decode cL_law 697 = .ok (.iadd, 1) := by decide +kernel
theorem dL_law_698 : decode cL_law 698 = .ok (.iaload, 1) := by decide +kernel
theorem dL_law_699 : decode cL_law 699 = .ok (.aload_n 3, 1) := by decide +kernel
theorem dL_law_700 : decode cL_law 700 = .ok (.invokestatic 115, 3) := by decide +kernel
theorem dL_law_703 : decode cL_law 703 = .ok (.istore 6, 2) := by decide +kernel
theorem dL_law_705 : decode cL_law 705 = .ok (.aload_n 2, 1) := by decide +kernel
theorem dL_law_706 : decode cL_law 706 = .ok (.aload_n 0, 1) := by decide +kernel
theorem dL_law_707 : decode cL_law 707 = .ok (.iload 5, 2) := by decide +kernel
theorem dL_law_709 : decode cL_law 709 = .ok (.iconst 1, 1) := by decide +kernel
theorem dL_law_710 : decode cL_law 710 = .ok (.iadd, 1) := by decide +kernel
theorem dL_law_711 : decode cL_law 711 = .ok (.iaload, 1) := by decide +kernel
theorem dL_law_712 : decode cL_law 712 = .ok (.aload_n 0, 1) := by decide +kernel
theorem dL_law_713 : decode cL_law 713 = .ok (.iload 5, 2) := by decide +kernel
theorem dL_law_715 : decode cL_law 715 = .ok (.iconst 2, 1) := by decide +kernel
theorem dL_law_716 : decode cL_law 716 = .ok (.iadd, 1) := by decide +kernel
theorem dL_law_717 : decode cL_law 717 = .ok (.iaload, 1) := by decide +kernel
theorem dL_law_718 : decode cL_law 718 = .ok (.aload_n 0, 1) := by decide +kernel
theorem dL_law_719 : decode cL_law 719 = .ok (.iload 5, 2) := by decide +kernel
theorem dL_law_721 : decode cL_law 721 = .ok (.iconst 3, 1) := by decide +kernel
theorem dL_law_722 : decode cL_law 722 = .ok (.iadd, 1) := by decide +kernel
theorem dL_law_723 : decode cL_law 723 = .ok (.iaload, 1) := by decide +kernel
theorem dL_law_724 : decode cL_law 724 = .ok (.invokevirtual 117, 3) := by decide +kernel
theorem dL_law_727 : decode cL_law 727 = .ok (.istore 7, 2) := by decide +kernel
theorem dL_law_729 : decode cL_law 729 = .ok (.aload_n 2, 1) := by decide +kernel
theorem dL_law_730 : decode cL_law 730 = .ok (.invokevirtual 74, 3) := by decide +kernel
theorem dL_law_733 : decode cL_law 733 = .ok (.iload 6, 2) := by decide +kernel
theorem dL_law_735 : decode cL_law 735 = .ok (.if_icmp .eq 5, 3) := by decide +kernel
theorem dL_law_738 : decode cL_law 738 = .ok (.iconst 0, 1) := by decide +kernel
theorem dL_law_739 : decode cL_law 739 = .ok (.ireturn, 1) := by decide +kernel
theorem dL_law_740 : decode cL_law 740 = .ok (.iload 6, 2) := by decide +kernel
theorem dL_law_742 : decode cL_law 742 = .ok (.ifCond .ne 15, 3) := by decide +kernel
theorem dL_law_745 : decode cL_law 745 = .ok (.aload_n 3, 1) := by decide +kernel
theorem dL_law_746 : decode cL_law 746 = .ok (.iconst 0, 1) := by decide +kernel
theorem dL_law_747 : decode cL_law 747 = .ok (.laload, 1) := by decide +kernel
theorem dL_law_748 : decode cL_law 748 = .ok (.iload 7, 2) := by decide +kernel
theorem dL_law_750 : decode cL_law 750 = .ok (.i2l, 1) := by decide +kernel
theorem dL_law_751 : decode cL_law 751 = .ok (.lcmp, 1) := by decide +kernel
theorem dL_law_752 : decode cL_law 752 = .ok (.ifCond .eq 5, 3) := by decide +kernel
theorem dL_law_755 : decode cL_law 755 = .ok (.iconst 0, 1) := by decide +kernel
theorem dL_law_756 : decode cL_law 756 = .ok (.ireturn, 1) := by decide +kernel
theorem dL_law_757 : decode cL_law 757 = .ok (.goto 442, 3) := by decide +kernel
theorem dL_law_760 : decode cL_law 760 = .ok (.aload_n 1, 1) := by decide +kernel
theorem dL_law_761 : decode cL_law 761 = .ok (.aload_n 0, 1) := by decide +kernel
theorem dL_law_762 : decode cL_law 762 = .ok (.iload 5, 2) := by decide +kernel
theorem dL_law_764 : decode cL_law 764 = .ok (.iconst 1, 1) := by decide +kernel
theorem dL_law_765 : decode cL_law 765 = .ok (.iadd, 1) := by decide +kernel
theorem dL_law_766 : decode cL_law 766 = .ok (.iaload, 1) := by decide +kernel
theorem dL_law_767 : decode cL_law 767 = .ok (.aload_n 0, 1) := by decide +kernel
theorem dL_law_768 : decode cL_law 768 = .ok (.iload 5, 2) := by decide +kernel
theorem dL_law_770 : decode cL_law 770 = .ok (.iconst 2, 1) := by decide +kernel
theorem dL_law_771 : decode cL_law 771 = .ok (.iadd, 1) := by decide +kernel
theorem dL_law_772 : decode cL_law 772 = .ok (.iaload, 1) := by decide +kernel
theorem dL_law_773 : decode cL_law 773 = .ok (.aload_n 0, 1) := by decide +kernel
theorem dL_law_774 : decode cL_law 774 = .ok (.iload 5, 2) := by decide +kernel
theorem dL_law_776 : decode cL_law 776 = .ok (.iconst 3, 1) := by decide +kernel
theorem dL_law_777 : decode cL_law 777 = .ok (.iadd, 1) := by decide +kernel
theorem dL_law_778 : decode cL_law 778 = .ok (.iaload, 1) := by decide +kernel
theorem dL_law_779 : decode cL_law 779 = .ok (.aload_n 0, 1) := by decide +kernel
theorem dL_law_780 : decode cL_law 780 = .ok (.iload 5, 2) := by decide +kernel
theorem dL_law_782 : decode cL_law 782 = .ok (.iconst 4, 1) := by decide +kernel
theorem dL_law_783 : decode cL_law 783 = .ok (.iadd, 1) := by decide +kernel
theorem dL_law_784 : decode cL_law 784 = .ok (.iaload, 1) := by decide +kernel
theorem dL_law_785 : decode cL_law 785 = .ok (.aload_n 3, 1) := by decide +kernel
theorem dL_law_786 : decode cL_law 786 = .ok (.invokestatic 118, 3) := by decide +kernel
theorem dL_law_789 : decode cL_law 789 = .ok (.istore 6, 2) := by decide +kernel
theorem dL_law_791 : decode cL_law 791 = .ok (.aload_n 2, 1) := by decide +kernel
theorem dL_law_792 : decode cL_law 792 = .ok (.aload_n 0, 1) := by decide +kernel
theorem dL_law_793 : decode cL_law 793 = .ok (.iload 5, 2) := by decide +kernel
theorem dL_law_795 : decode cL_law 795 = .ok (.iconst 1, 1) := by decide +kernel
theorem dL_law_796 : decode cL_law 796 = .ok (.iadd, 1) := by decide +kernel
theorem dL_law_797 : decode cL_law 797 = .ok (.iaload, 1) := by decide +kernel
theorem dL_law_798 : decode cL_law 798 = .ok (.aload_n 0, 1) := by decide +kernel
theorem dL_law_799 : decode cL_law 799 = .ok (.iload 5, 2) := by decide +kernel
theorem dL_law_801 : decode cL_law 801 = .ok (.iconst 2, 1) := by decide +kernel
theorem dL_law_802 : decode cL_law 802 = .ok (.iadd, 1) := by decide +kernel
theorem dL_law_803 : decode cL_law 803 = .ok (.iaload, 1) := by decide +kernel
theorem dL_law_804 : decode cL_law 804 = .ok (.aload_n 0, 1) := by decide +kernel
theorem dL_law_805 : decode cL_law 805 = .ok (.iload 5, 2) := by decide +kernel
theorem dL_law_807 : decode cL_law 807 = .ok (.iconst 3, 1) := by decide +kernel
theorem dL_law_808 : decode cL_law 808 = .ok (.iadd, 1) := by decide +kernel
theorem dL_law_809 : decode cL_law 809 = .ok (.iaload, 1) := by decide +kernel
theorem dL_law_810 : decode cL_law 810 = .ok (.aload_n 0, 1) := by decide +kernel
theorem dL_law_811 : decode cL_law 811 = .ok (.iload 5, 2) := by decide +kernel
theorem dL_law_813 : decode cL_law 813 = .ok (.iconst 4, 1) := by decide +kernel
theorem dL_law_814 : decode cL_law 814 = .ok (.iadd, 1) := by decide +kernel
theorem dL_law_815 : decode cL_law 815 = .ok (.iaload, 1) := by decide +kernel
theorem dL_law_816 : decode cL_law 816 = .ok (.invokevirtual 120, 3) := by decide +kernel
theorem dL_law_819 : decode cL_law 819 = .ok (.istore 7, 2) := by decide +kernel
theorem dL_law_821 : decode cL_law 821 = .ok (.aload_n 2, 1) := by decide +kernel
theorem dL_law_822 : decode cL_law 822 = .ok (.invokevirtual 74, 3) := by decide +kernel
theorem dL_law_825 : decode cL_law 825 = .ok (.iload 6, 2) := by decide +kernel
theorem dL_law_827 : decode cL_law 827 = .ok (.if_icmp .eq 5, 3) := by decide +kernel
theorem dL_law_830 : decode cL_law 830 = .ok (.iconst 0, 1) := by decide +kernel
theorem dL_law_831 : decode cL_law 831 = .ok (.ireturn, 1) := by decide +kernel
theorem dL_law_832 : decode cL_law 832 = .ok (.iload 6, 2) := by decide +kernel
theorem dL_law_834 : decode cL_law 834 = .ok (.ifCond .ne 22, 3) := by decide +kernel
theorem dL_law_837 : decode cL_law 837 = .ok (.aload_n 3, 1) := by decide +kernel
theorem dL_law_838 : decode cL_law 838 = .ok (.iconst 0, 1) := by decide +kernel
theorem dL_law_839 : decode cL_law 839 = .ok (.laload, 1) := by decide +kernel
theorem dL_law_840 : decode cL_law 840 = .ok (.iload 7, 2) := by decide +kernel
theorem dL_law_842 : decode cL_law 842 = .ok (.ifCond .eq 7, 3) := by decide +kernel
theorem dL_law_845 : decode cL_law 845 = .ok (.lconst 1, 1) := by decide +kernel
theorem dL_law_846 : decode cL_law 846 = .ok (.goto 4, 3) := by decide +kernel
theorem dL_law_849 : decode cL_law 849 = .ok (.lconst 0, 1) := by decide +kernel
theorem dL_law_850 : decode cL_law 850 = .ok (.lcmp, 1) := by decide +kernel
theorem dL_law_851 : decode cL_law 851 = .ok (.ifCond .eq 5, 3) := by decide +kernel
theorem dL_law_854 : decode cL_law 854 = .ok (.iconst 0, 1) := by decide +kernel
theorem dL_law_855 : decode cL_law 855 = .ok (.ireturn, 1) := by decide +kernel
theorem dL_law_856 : decode cL_law 856 = .ok (.goto 343, 3) := by decide +kernel
theorem dL_law_859 : decode cL_law 859 = .ok (.aload_n 1, 1) := by decide +kernel
theorem dL_law_860 : decode cL_law 860 = .ok (.invokevirtual 121, 3) := by decide +kernel
theorem dL_law_863 : decode cL_law 863 = .ok (.aload_n 2, 1) := by decide +kernel
theorem dL_law_864 : decode cL_law 864 = .ok (.invokevirtual 124, 3) := by decide +kernel
theorem dL_law_867 : decode cL_law 867 = .ok (.if_icmp .eq 332, 3) := by decide +kernel
theorem dL_law_870 : decode cL_law 870 = .ok (.iconst 0, 1) := by decide +kernel
theorem dL_law_871 : decode cL_law 871 = .ok (.ireturn, 1) := by decide +kernel
theorem dL_law_872 : decode cL_law 872 = .ok (.aload_n 1, 1) := by decide +kernel
theorem dL_law_873 : decode cL_law 873 = .ok (.aload_n 0, 1) := by decide +kernel
theorem dL_law_874 : decode cL_law 874 = .ok (.iload 5, 2) := by decide +kernel
theorem dL_law_876 : decode cL_law 876 = .ok (.iconst 1, 1) := by decide +kernel
theorem dL_law_877 : decode cL_law 877 = .ok (.iadd, 1) := by decide +kernel
theorem dL_law_878 : decode cL_law 878 = .ok (.iaload, 1) := by decide +kernel
theorem dL_law_879 : decode cL_law 879 = .ok (.aload_n 3, 1) := by decide +kernel
theorem dL_law_880 : decode cL_law 880 = .ok (.invokestatic 125, 3) := by decide +kernel
theorem dL_law_883 : decode cL_law 883 = .ok (.istore 6, 2) := by decide +kernel
theorem dL_law_885 : decode cL_law 885 = .ok (.aload_n 2, 1) := by decide +kernel
theorem dL_law_886 : decode cL_law 886 = .ok (.aload_n 0, 1) := by decide +kernel
theorem dL_law_887 : decode cL_law 887 = .ok (.iload 5, 2) := by decide +kernel
theorem dL_law_889 : decode cL_law 889 = .ok (.iconst 1, 1) := by decide +kernel
theorem dL_law_890 : decode cL_law 890 = .ok (.iadd, 1) := by decide +kernel
theorem dL_law_891 : decode cL_law 891 = .ok (.iaload, 1) := by decide +kernel
theorem dL_law_892 : decode cL_law 892 = .ok (.invokevirtual 127, 3) := by decide +kernel
theorem dL_law_895 : decode cL_law 895 = .ok (.istore 7, 2) := by decide +kernel
theorem dL_law_897 : decode cL_law 897 = .ok (.aload_n 2, 1) := by decide +kernel
theorem dL_law_898 : decode cL_law 898 = .ok (.invokevirtual 74, 3) := by decide +kernel
theorem dL_law_901 : decode cL_law 901 = .ok (.iload 6, 2) := by decide +kernel
theorem dL_law_903 : decode cL_law 903 = .ok (.if_icmp .eq 5, 3) := by decide +kernel
theorem dL_law_906 : decode cL_law 906 = .ok (.iconst 0, 1) := by decide +kernel
theorem dL_law_907 : decode cL_law 907 = .ok (.ireturn, 1) := by decide +kernel
theorem dL_law_908 : decode cL_law 908 = .ok (.iload 6, 2) := by decide +kernel
theorem dL_law_910 : decode cL_law 910 = .ok (.ifCond .ne 15, 3) := by decide +kernel
theorem dL_law_913 : decode cL_law 913 = .ok (.aload_n 3, 1) := by decide +kernel
theorem dL_law_914 : decode cL_law 914 = .ok (.iconst 0, 1) := by decide +kernel
theorem dL_law_915 : decode cL_law 915 = .ok (.laload, 1) := by decide +kernel
theorem dL_law_916 : decode cL_law 916 = .ok (.iload 7, 2) := by decide +kernel
theorem dL_law_918 : decode cL_law 918 = .ok (.i2l, 1) := by decide +kernel
theorem dL_law_919 : decode cL_law 919 = .ok (.lcmp, 1) := by decide +kernel
theorem dL_law_920 : decode cL_law 920 = .ok (.ifCond .eq 5, 3) := by decide +kernel
theorem dL_law_923 : decode cL_law 923 = .ok (.iconst 0, 1) := by decide +kernel
theorem dL_law_924 : decode cL_law 924 = .ok (.ireturn, 1) := by decide +kernel
theorem dL_law_925 : decode cL_law 925 = .ok (.goto 274, 3) := by decide +kernel
theorem dL_law_928 : decode cL_law 928 = .ok (.aload_n 1, 1) := by decide +kernel
theorem dL_law_929 : decode cL_law 929 = .ok (.aload_n 0, 1) := by decide +kernel
theorem dL_law_930 : decode cL_law 930 = .ok (.iload 5, 2) := by decide +kernel
theorem dL_law_932 : decode cL_law 932 = .ok (.iconst 1, 1) := by decide +kernel
theorem dL_law_933 : decode cL_law 933 = .ok (.iadd, 1) := by decide +kernel
theorem dL_law_934 : decode cL_law 934 = .ok (.iaload, 1) := by decide +kernel
theorem dL_law_935 : decode cL_law 935 = .ok (.aload_n 0, 1) := by decide +kernel
theorem dL_law_936 : decode cL_law 936 = .ok (.iload 5, 2) := by decide +kernel
theorem dL_law_938 : decode cL_law 938 = .ok (.iconst 2, 1) := by decide +kernel
theorem dL_law_939 : decode cL_law 939 = .ok (.iadd, 1) := by decide +kernel
theorem dL_law_940 : decode cL_law 940 = .ok (.iaload, 1) := by decide +kernel
theorem dL_law_941 : decode cL_law 941 = .ok (.aload_n 3, 1) := by decide +kernel
theorem dL_law_942 : decode cL_law 942 = .ok (.invokestatic 128, 3) := by decide +kernel
theorem dL_law_945 : decode cL_law 945 = .ok (.istore 6, 2) := by decide +kernel
theorem dL_law_947 : decode cL_law 947 = .ok (.aload_n 2, 1) := by decide +kernel
theorem dL_law_948 : decode cL_law 948 = .ok (.aload_n 0, 1) := by decide +kernel
theorem dL_law_949 : decode cL_law 949 = .ok (.iload 5, 2) := by decide +kernel
theorem dL_law_951 : decode cL_law 951 = .ok (.iconst 1, 1) := by decide +kernel
theorem dL_law_952 : decode cL_law 952 = .ok (.iadd, 1) := by decide +kernel
theorem dL_law_953 : decode cL_law 953 = .ok (.iaload, 1) := by decide +kernel
theorem dL_law_954 : decode cL_law 954 = .ok (.aload_n 0, 1) := by decide +kernel
theorem dL_law_955 : decode cL_law 955 = .ok (.iload 5, 2) := by decide +kernel
theorem dL_law_957 : decode cL_law 957 = .ok (.iconst 2, 1) := by decide +kernel
theorem dL_law_958 : decode cL_law 958 = .ok (.iadd, 1) := by decide +kernel
theorem dL_law_959 : decode cL_law 959 = .ok (.iaload, 1) := by decide +kernel
theorem dL_law_960 : decode cL_law 960 = .ok (.invokevirtual 130, 3) := by decide +kernel
theorem dL_law_963 : decode cL_law 963 = .ok (.istore 7, 2) := by decide +kernel
theorem dL_law_965 : decode cL_law 965 = .ok (.aload_n 2, 1) := by decide +kernel
theorem dL_law_966 : decode cL_law 966 = .ok (.invokevirtual 74, 3) := by decide +kernel
theorem dL_law_969 : decode cL_law 969 = .ok (.iload 6, 2) := by decide +kernel
theorem dL_law_971 : decode cL_law 971 = .ok (.if_icmp .eq 5, 3) := by decide +kernel
theorem dL_law_974 : decode cL_law 974 = .ok (.iconst 0, 1) := by decide +kernel
theorem dL_law_975 : decode cL_law 975 = .ok (.ireturn, 1) := by decide +kernel
theorem dL_law_976 : decode cL_law 976 = .ok (.iload 6, 2) := by decide +kernel
theorem dL_law_978 : decode cL_law 978 = .ok (.ifCond .ne 15, 3) := by decide +kernel
theorem dL_law_981 : decode cL_law 981 = .ok (.aload_n 3, 1) := by decide +kernel
theorem dL_law_982 : decode cL_law 982 = .ok (.iconst 0, 1) := by decide +kernel
theorem dL_law_983 : decode cL_law 983 = .ok (.laload, 1) := by decide +kernel
theorem dL_law_984 : decode cL_law 984 = .ok (.iload 7, 2) := by decide +kernel
theorem dL_law_986 : decode cL_law 986 = .ok (.i2l, 1) := by decide +kernel
theorem dL_law_987 : decode cL_law 987 = .ok (.lcmp, 1) := by decide +kernel
theorem dL_law_988 : decode cL_law 988 = .ok (.ifCond .eq 5, 3) := by decide +kernel
theorem dL_law_991 : decode cL_law 991 = .ok (.iconst 0, 1) := by decide +kernel
theorem dL_law_992 : decode cL_law 992 = .ok (.ireturn, 1) := by decide +kernel
theorem dL_law_993 : decode cL_law 993 = .ok (.goto 206, 3) := by decide +kernel
theorem dL_law_996 : decode cL_law 996 = .ok (.aload_n 1, 1) := by decide +kernel
theorem dL_law_997 : decode cL_law 997 = .ok (.aload_n 0, 1) := by decide +kernel
theorem dL_law_998 : decode cL_law 998 = .ok (.iload 5, 2) := by decide +kernel
theorem dL_law_1000 : decode cL_law 1000 = .ok (.iconst 1, 1) := by decide +kernel
theorem dL_law_1001 : decode cL_law 1001 = .ok (.iadd, 1) := by decide +kernel
theorem dL_law_1002 : decode cL_law 1002 = .ok (.iaload, 1) := by decide +kernel
theorem dL_law_1003 : decode cL_law 1003 = .ok (.aload 4, 2) := by decide +kernel
theorem dL_law_1005 : decode cL_law 1005 = .ok (.invokestatic 131, 3) := by decide +kernel
theorem dL_law_1008 : decode cL_law 1008 = .ok (.istore 6, 2) := by decide +kernel
theorem dL_law_1010 : decode cL_law 1010 = .ok (.aload_n 2, 1) := by decide +kernel
theorem dL_law_1011 : decode cL_law 1011 = .ok (.aload_n 0, 1) := by decide +kernel
theorem dL_law_1012 : decode cL_law 1012 = .ok (.iload 5, 2) := by decide +kernel
theorem dL_law_1014 : decode cL_law 1014 = .ok (.iconst 1, 1) := by decide +kernel
theorem dL_law_1015 : decode cL_law 1015 = .ok (.iadd, 1) := by decide +kernel
theorem dL_law_1016 : decode cL_law 1016 = .ok (.iaload, 1) := by decide +kernel
theorem dL_law_1017 : decode cL_law 1017 = .ok (.invokevirtual 134, 3) := by decide +kernel
theorem dL_law_1020 : decode cL_law 1020 = .ok (.fstore 7, 2) := by decide +kernel
theorem dL_law_1022 : decode cL_law 1022 = .ok (.aload_n 2, 1) := by decide +kernel
theorem dL_law_1023 : decode cL_law 1023 = .ok (.invokevirtual 74, 3) := by decide +kernel
theorem dL_law_1026 : decode cL_law 1026 = .ok (.iload 6, 2) := by decide +kernel
theorem dL_law_1028 : decode cL_law 1028 = .ok (.if_icmp .eq 5, 3) := by decide +kernel
theorem dL_law_1031 : decode cL_law 1031 = .ok (.iconst 0, 1) := by decide +kernel
theorem dL_law_1032 : decode cL_law 1032 = .ok (.ireturn, 1) := by decide +kernel
theorem dL_law_1033 : decode cL_law 1033 = .ok (.iload 6, 2) := by decide +kernel
theorem dL_law_1035 : decode cL_law 1035 = .ok (.ifCond .ne 36, 3) := by decide +kernel
theorem dL_law_1038 : decode cL_law 1038 = .ok (.aload 4, 2) := by decide +kernel
theorem dL_law_1040 : decode cL_law 1040 = .ok (.iconst 0, 1) := by decide +kernel
theorem dL_law_1041 : decode cL_law 1041 = .ok (.daload, 1) := by decide +kernel
theorem dL_law_1042 : decode cL_law 1042 = .ok (.fload 7, 2) := by decide +kernel
theorem dL_law_1044 : decode cL_law 1044 = .ok (.f2d, 1) := by decide +kernel
theorem dL_law_1045 : decode cL_law 1045 = .ok (.dcmp .l, 1) := by decide +kernel
theorem dL_law_1046 : decode cL_law 1046 = .ok (.ifCond .eq 25, 3) := by decide +kernel
theorem dL_law_1049 : decode cL_law 1049 = .ok (.aload 4, 2) := by decide +kernel
theorem dL_law_1051 : decode cL_law 1051 = .ok (.iconst 0, 1) := by decide +kernel
theorem dL_law_1052 : decode cL_law 1052 = .ok (.daload, 1) := by decide +kernel
theorem dL_law_1053 : decode cL_law 1053 = .ok (.aload 4, 2) := by decide +kernel
theorem dL_law_1055 : decode cL_law 1055 = .ok (.iconst 0, 1) := by decide +kernel
theorem dL_law_1056 : decode cL_law 1056 = .ok (.daload, 1) := by decide +kernel
theorem dL_law_1057 : decode cL_law 1057 = .ok (.dcmp .l, 1) := by decide +kernel
theorem dL_law_1058 : decode cL_law 1058 = .ok (.ifCond .eq 11, 3) := by decide +kernel
theorem dL_law_1061 : decode cL_law 1061 = .ok (.fload 7, 2) := by decide +kernel
theorem dL_law_1063 : decode cL_law 1063 = .ok (.fload 7, 2) := by decide +kernel
theorem dL_law_1065 : decode cL_law 1065 = .ok (.fcmp .l, 1) := by decide +kernel
theorem dL_law_1066 : decode cL_law 1066 = .ok (.ifCond .ne 5, 3) := by decide +kernel
theorem dL_law_1069 : decode cL_law 1069 = .ok (.iconst 0, 1) := by decide +kernel
theorem dL_law_1070 : decode cL_law 1070 = .ok (.ireturn, 1) := by decide +kernel
theorem dL_law_1071 : decode cL_law 1071 = .ok (.goto 128, 3) := by decide +kernel
theorem dL_law_1074 : decode cL_law 1074 = .ok (.aload_n 1, 1) := by decide +kernel
theorem dL_law_1075 : decode cL_law 1075 = .ok (.aload_n 0, 1) := by decide +kernel
theorem dL_law_1076 : decode cL_law 1076 = .ok (.iload 5, 2) := by decide +kernel
theorem dL_law_1078 : decode cL_law 1078 = .ok (.iconst 1, 1) := by decide +kernel
theorem dL_law_1079 : decode cL_law 1079 = .ok (.iadd, 1) := by decide +kernel
theorem dL_law_1080 : decode cL_law 1080 = .ok (.iaload, 1) := by decide +kernel
theorem dL_law_1081 : decode cL_law 1081 = .ok (.aload_n 3, 1) := by decide +kernel
theorem dL_law_1082 : decode cL_law 1082 = .ok (.invokestatic 135, 3) := by decide +kernel
theorem dL_law_1085 : decode cL_law 1085 = .ok (.istore 6, 2) := by decide +kernel
theorem dL_law_1087 : decode cL_law 1087 = .ok (.aload_n 2, 1) := by decide +kernel
theorem dL_law_1088 : decode cL_law 1088 = .ok (.aload_n 0, 1) := by decide +kernel
theorem dL_law_1089 : decode cL_law 1089 = .ok (.iload 5, 2) := by decide +kernel
theorem dL_law_1091 : decode cL_law 1091 = .ok (.iconst 1, 1) := by decide +kernel
theorem dL_law_1092 : decode cL_law 1092 = .ok (.iadd, 1) := by decide +kernel
theorem dL_law_1093 : decode cL_law 1093 = .ok (.iaload, 1) := by decide +kernel
theorem dL_law_1094 : decode cL_law 1094 = .ok (.invokevirtual 137, 3) := by decide +kernel
theorem dL_law_1097 : decode cL_law 1097 = .ok (.istore 7, 2) := by decide +kernel
theorem dL_law_1099 : decode cL_law 1099 = .ok (.aload_n 2, 1) := by decide +kernel
theorem dL_law_1100 : decode cL_law 1100 = .ok (.invokevirtual 74, 3) := by decide +kernel
theorem dL_law_1103 : decode cL_law 1103 = .ok (.iload 6, 2) := by decide +kernel
theorem dL_law_1105 : decode cL_law 1105 = .ok (.if_icmp .eq 5, 3) := by decide +kernel
theorem dL_law_1108 : decode cL_law 1108 = .ok (.iconst 0, 1) := by decide +kernel
theorem dL_law_1109 : decode cL_law 1109 = .ok (.ireturn, 1) := by decide +kernel
theorem dL_law_1110 : decode cL_law 1110 = .ok (.iload 6, 2) := by decide +kernel
theorem dL_law_1112 : decode cL_law 1112 = .ok (.ifCond .ne 15, 3) := by decide +kernel
theorem dL_law_1115 : decode cL_law 1115 = .ok (.aload_n 3, 1) := by decide +kernel
theorem dL_law_1116 : decode cL_law 1116 = .ok (.iconst 0, 1) := by decide +kernel
theorem dL_law_1117 : decode cL_law 1117 = .ok (.laload, 1) := by decide +kernel
theorem dL_law_1118 : decode cL_law 1118 = .ok (.iload 7, 2) := by decide +kernel
theorem dL_law_1120 : decode cL_law 1120 = .ok (.i2l, 1) := by decide +kernel
theorem dL_law_1121 : decode cL_law 1121 = .ok (.lcmp, 1) := by decide +kernel
theorem dL_law_1122 : decode cL_law 1122 = .ok (.ifCond .eq 5, 3) := by decide +kernel
theorem dL_law_1125 : decode cL_law 1125 = .ok (.iconst 0, 1) := by decide +kernel
theorem dL_law_1126 : decode cL_law 1126 = .ok (.ireturn, 1) := by decide +kernel
theorem dL_law_1127 : decode cL_law 1127 = .ok (.goto 72, 3) := by decide +kernel
theorem dL_law_1130 : decode cL_law 1130 = .ok (.aload_n 1, 1) := by decide +kernel
theorem dL_law_1131 : decode cL_law 1131 = .ok (.invokevirtual 138, 3) := by decide +kernel
theorem dL_law_1134 : decode cL_law 1134 = .ok (.aload_n 2, 1) := by decide +kernel
theorem dL_law_1135 : decode cL_law 1135 = .ok (.invokevirtual 141, 3) := by decide +kernel
theorem dL_law_1138 : decode cL_law 1138 = .ok (.if_icmp .eq 61, 3) := by decide +kernel
theorem dL_law_1141 : decode cL_law 1141 = .ok (.iconst 0, 1) := by decide +kernel
theorem dL_law_1142 : decode cL_law 1142 = .ok (.ireturn, 1) := by decide +kernel
theorem dL_law_1143 : decode cL_law 1143 = .ok (.aload_n 1, 1) := by decide +kernel
theorem dL_law_1144 : decode cL_law 1144 = .ok (.aload_n 0, 1) := by decide +kernel
theorem dL_law_1145 : decode cL_law 1145 = .ok (.iload 5, 2) := by decide +kernel
theorem dL_law_1147 : decode cL_law 1147 = .ok (.iconst 1, 1) := by decide +kernel
theorem dL_law_1148 : decode cL_law 1148 = .ok (.iadd, 1) := by decide +kernel
theorem dL_law_1149 : decode cL_law 1149 = .ok (.iaload, 1) := by decide +kernel
theorem dL_law_1150 : decode cL_law 1150 = .ok (.aload_n 3, 1) := by decide +kernel
theorem dL_law_1151 : decode cL_law 1151 = .ok (.invokestatic 142, 3) := by decide +kernel
theorem dL_law_1154 : decode cL_law 1154 = .ok (.istore 6, 2) := by decide +kernel
theorem dL_law_1156 : decode cL_law 1156 = .ok (.aload_n 2, 1) := by decide +kernel
theorem dL_law_1157 : decode cL_law 1157 = .ok (.aload_n 0, 1) := by decide +kernel
theorem dL_law_1158 : decode cL_law 1158 = .ok (.iload 5, 2) := by decide +kernel
theorem dL_law_1160 : decode cL_law 1160 = .ok (.iconst 1, 1) := by decide +kernel
theorem dL_law_1161 : decode cL_law 1161 = .ok (.iadd, 1) := by decide +kernel
theorem dL_law_1162 : decode cL_law 1162 = .ok (.iaload, 1) := by decide +kernel
theorem dL_law_1163 : decode cL_law 1163 = .ok (.invokevirtual 144, 3) := by decide +kernel
theorem dL_law_1166 : decode cL_law 1166 = .ok (.istore 7, 2) := by decide +kernel
theorem dL_law_1168 : decode cL_law 1168 = .ok (.aload_n 2, 1) := by decide +kernel
theorem dL_law_1169 : decode cL_law 1169 = .ok (.invokevirtual 74, 3) := by decide +kernel
theorem dL_law_1172 : decode cL_law 1172 = .ok (.iload 6, 2) := by decide +kernel
theorem dL_law_1174 : decode cL_law 1174 = .ok (.if_icmp .eq 5, 3) := by decide +kernel
theorem dL_law_1177 : decode cL_law 1177 = .ok (.iconst 0, 1) := by decide +kernel
theorem dL_law_1178 : decode cL_law 1178 = .ok (.ireturn, 1) := by decide +kernel
theorem dL_law_1179 : decode cL_law 1179 = .ok (.iload 6, 2) := by decide +kernel
theorem dL_law_1181 : decode cL_law 1181 = .ok (.ifCond .ne 15, 3) := by decide +kernel
theorem dL_law_1184 : decode cL_law 1184 = .ok (.aload_n 3, 1) := by decide +kernel
theorem dL_law_1185 : decode cL_law 1185 = .ok (.iconst 0, 1) := by decide +kernel
theorem dL_law_1186 : decode cL_law 1186 = .ok (.laload, 1) := by decide +kernel
theorem dL_law_1187 : decode cL_law 1187 = .ok (.iload 7, 2) := by decide +kernel
theorem dL_law_1189 : decode cL_law 1189 = .ok (.i2l, 1) := by decide +kernel
theorem dL_law_1190 : decode cL_law 1190 = .ok (.lcmp, 1) := by decide +kernel
theorem dL_law_1191 : decode cL_law 1191 = .ok (.ifCond .eq 5, 3) := by decide +kernel
theorem dL_law_1194 : decode cL_law 1194 = .ok (.iconst 0, 1) := by decide +kernel
theorem dL_law_1195 : decode cL_law 1195 = .ok (.ireturn, 1) := by decide +kernel
theorem dL_law_1196 : decode cL_law 1196 = .ok (.goto 3, 3) := by decide +kernel
theorem dL_law_1199 : decode cL_law 1199 = .ok (.iinc 5 5, 3) := by decide +kernel
theorem dL_law_1202 : decode cL_law 1202 = .ok (.goto (-1174), 3) := by decide +kernel
theorem dL_law_1205 : decode cL_law 1205 = .ok (.iconst 1, 1) := by decide +kernel
theorem dL_law_1206 : decode cL_law 1206 = .ok (.ireturn, 1) := by decide +kernel
/-! ===== END printed: names ===== -/
end
section
theorem in_by {big ws : List Cond} (ps : List Nat) (hp : ps.map (fun i => big[i]?) = ws.map some) : ∀ w ∈ ws, w ∈ big := by
  intro w hw
  obtain ⟨k, hk⟩ := List.getElem?_of_mem hw
  have h1 : (ps.map (fun i => big[i]?))[k]? = some (some w) := by rw [hp, List.getElem?_map, hk]; rfl
  rw [List.getElem?_map] at h1
  cases hi : ps[k]? with
  | none => rw [hi] at h1; cases h1
  | some i => rw [hi] at h1; exact List.mem_of_getElem? (Option.some.inj h1)
set_option maxRecDepth 100000 in
theorem in_wsL_law0_r1 : ∀ w ∈ wsL_law0_r1, w ∈ lw_tbl := in_by [64, 67, 72, 115, 125, 136, 571, 300, 303, 306, 393, 397, 627, 630, 633, 637, 623, 405, 641, 645, 428, 431, 437, 440] rfl
set_option maxRecDepth 100000 in
theorem in_wsL_law0_r2 : ∀ w ∈ wsL_law0_r2, w ∈ lw_tbl := in_by [443, 649, 652, 451, 656, 459, 660, 467, 664, 668, 168, 672, 172, 676, 475, 680, 176, 180, 184, 188, 191, 194, 198, 202] rfl
set_option maxRecDepth 100000 in
theorem in_wsL_law0_r3 : ∀ w ∈ wsL_law0_r3, w ∈ lw_tbl := in_by [206, 210, 213, 216, 684, 688, 692, 696, 699, 703, 707, 710, 221, 225, 229, 716, 483, 487, 721, 725, 495, 241, 245, 249] rfl
set_option maxRecDepth 100000 in
theorem in_wsL_law0_r4 : ∀ w ∈ wsL_law0_r4, w ∈ lw_tbl := in_by [254, 258, 262, 266, 269, 277, 729, 733, 737, 237, 273, 741, 505, 508, 513, 517, 521, 525, 745, 748, 752, 756, 760, 764] rfl
set_option maxRecDepth 100000 in
theorem in_wsL_law0_r5 : ∀ w ∈ wsL_law0_r5, w ∈ lw_tbl := in_by [532, 537, 768, 544, 772, 551, 285, 289, 555, 776, 281, 780, 565, 784] rfl
set_option maxRecDepth 100000 in
theorem in_wsL_law0_r6 : ∀ w ∈ wsL_law0_r6, w ∈ lw_tbl := in_by [] rfl
set_option maxRecDepth 100000 in
theorem in_wsL_law0_r7 : ∀ w ∈ wsL_law0_r7, w ∈ lw_tbl := in_by [] rfl
set_option maxRecDepth 100000 in
theorem in_wsL_law0_r8 : ∀ w ∈ wsL_law0_r8, w ∈ lw_tbl := in_by [] rfl
set_option maxRecDepth 100000 in
theorem in_wsL_law0_r9 : ∀ w ∈ wsL_law0_r9, w ∈ lw_tbl := in_by [] rfl
set_option maxRecDepth 100000 in
theorem in_wsL_law0_r10 : ∀ w ∈ wsL_law0_r10, w ∈ lw_tbl := in_by [] rfl
set_option maxRecDepth 100000 in
theorem in_wsL_law0_r11 : ∀ w ∈ wsL_law0_r11, w ∈ lw_tbl := in_by [] rfl
set_option maxRecDepth 100000 in
theorem in_wsL_law0_r12 : ∀ w ∈ wsL_law0_r12, w ∈ lw_tbl := in_by [] rfl
set_option maxRecDepth 100000 in
theorem in_wsL_law0_r13 : ∀ w ∈ wsL_law0_r13, w ∈ lw_tbl := in_by [] rfl
set_option maxRecDepth 100000 in
theorem in_wsL_law0_r14 : ∀ w ∈ wsL_law0_r14, w ∈ lw_tbl := in_by [] rfl
set_option maxRecDepth 100000 in
theorem in_wsL_law0_r15 : ∀ w ∈ wsL_law0_r15, w ∈ lw_tbl := in_by [] rfl
set_option maxRecDepth 100000 in
theorem in_wsL_law0_r16 : ∀ w ∈ wsL_law0_r16, w ∈ lw_tbl := in_by [] rfl
set_option maxRecDepth 100000 in
theorem in_wsL_law0_r17 : ∀ w ∈ wsL_law0_r17, w ∈ lw_tbl := in_by [] rfl
set_option maxRecDepth 100000 in
theorem in_wsL_law0_r18 : ∀ w ∈ wsL_law0_r18, w ∈ lw_tbl := in_by [] rfl
set_option maxRecDepth 100000 in
theorem in_wsL_law0_r19 : ∀ w ∈ wsL_law0_r19, w ∈ lw_tbl := in_by [] rfl
set_option maxRecDepth 100000 in
theorem in_wsL_law0_r20 : ∀ w ∈ wsL_law0_r20, w ∈ lw_tbl := in_by [] rfl
set_option maxRecDepth 100000 in
theorem in_wsL_law0_r21 : ∀ w ∈ wsL_law0_r21, w ∈ lw_tbl := in_by [] rfl
set_option maxRecDepth 100000 in
theorem in_wsL_law0_r22 : ∀ w ∈ wsL_law0_r22, w ∈ lw_tbl := in_by [] rfl
theorem wsL_law_in0 : ∀ w ∈ wsL_law0, w ∈ lw_tbl := List.forall_mem_append.mpr ⟨in_wsL_law0_r1, List.forall_mem_append.mpr ⟨in_wsL_law0_r2, List.forall_mem_append.mpr ⟨in_wsL_law0_r3, List.forall_mem_append.mpr ⟨in_wsL_law0_r4, List.forall_mem_append.mpr ⟨in_wsL_law0_r5, List.forall_mem_append.mpr ⟨in_wsL_law0_r6, List.forall_mem_append.mpr ⟨in_wsL_law0_r7, List.forall_mem_append.mpr ⟨in_wsL_law0_r8, List.forall_mem_append.mpr ⟨in_wsL_law0_r9, List.forall_mem_append.mpr ⟨in_wsL_law0_r10, List.forall_mem_append.mpr ⟨in_wsL_law0_r11, List.forall_mem_append.mpr ⟨in_wsL_law0_r12, List.forall_mem_append.mpr ⟨in_wsL_law0_r13, List.forall_mem_append.mpr ⟨in_wsL_law0_r14, List.forall_mem_append.mpr ⟨in_wsL_law0_r15, List.forall_mem_append.mpr ⟨in_wsL_law0_r16, List.forall_mem_append.mpr ⟨in_wsL_law0_r17, List.forall_mem_append.mpr ⟨in_wsL_law0_r18, List.forall_mem_append.mpr ⟨in_wsL_law0_r19, List.forall_mem_append.mpr ⟨in_wsL_law0_r20, List.forall_mem_append.mpr ⟨in_wsL_law0_r21, in_wsL_law0_r22⟩⟩⟩⟩⟩⟩⟩⟩⟩⟩⟩⟩⟩⟩⟩⟩⟩⟩⟩⟩⟩
theorem wsL_law_x0 : ∀ w ∈ (vx_atS RX4 56 "java/lang/IllegalArgumentException" ["java/lang/RuntimeException", "java/lang/Exception"]).filter goodWord, w ∈ lw_tbl := by decide +kernel
theorem wsL_law_x1 : ∀ w ∈ (vx_atS RX4 66 "java/lang/IllegalStateException" ["java/lang/RuntimeException", "java/lang/Exception"]).filter goodWord, w ∈ lw_tbl := by decide +kernel
theorem wsL_law_x2 : ∀ w ∈ (vx_atS RX4 83 "java/lang/IndexOutOfBoundsException" ["java/lang/RuntimeException", "java/lang/Exception"]).filter goodWord, w ∈ lw_tbl := by decide +kernel
theorem wsL_law_in : ∀ w ∈ wsL_law, w ∈ lw_tbl := fun w h => (List.mem_append.mp h).elim (fun h => (List.mem_append.mp h).elim (fun h => (List.mem_append.mp h).elim (fun h => wsL_law_in0 w h) (fun h => wsL_law_x0 w h)) (fun h => wsL_law_x1 w h)) (fun h => wsL_law_x2 w h)
end
section
/-! words that speak of nest mates, and the texts of the exceptions -/
def nwF : List (String × Nat × String × String × String × String) := [(RX4, 59, "SentenceGym$Grammar", "words", "I", RX4), (RX2, 37, "SentenceGym$Grammar", "words", "I", RX4), (RX4, 84, "SentenceGym$Grammar", "wordCategory", "[I", RX4), (RX2, 43, "SentenceGym$Grammar", "wordCategory", "[I", RX4), (RX2, 46, "SentenceGym$Grammar", "wordPair", "[I", RX4), (RX4, 93, "SentenceGym$Grammar", "rules", "I", RX4), (RX2, 62, "SentenceGym$Grammar", "made", "[I", RX4), (RX2, 53, "SentenceGym$Grammar", "first", "[I", RX4), (RX2, 56, "SentenceGym$Grammar", "second", "[I", RX4)]
def nwM : List (String × Nat × MethodName × String) := [(RX4, 11, yX1_init, RX4), (RX4, 29, yX2_init, RX4), (RX4, 36, yX0_init, RX4), (RX4, 43, yX3_init, RX4), (RX4, 167, yX0_fill, RX4), (RX0, 16, yX4_spanOf, RX4), (RX0, 34, yX1_countWord, RX4), (RX0, 40, yX1_addJoined, RX4), (RX4, 171, yX0_countSpan, RX4), (RX0, 20, yX4_countOf, RX4), (RX4, 114, yX3_countRow, RX4), (RX3, 30, yX1_countWord, RX4), (RX3, 36, yX1_addJoined, RX4), (RX3, 20, yX4_countOf, RX4), (RX4, 129, yX2_parse, RX4), (RX2, 15, yX4_spanOf, RX4), (RX2, 59, yX1_pairsMade, RX4), (RX1, 50, yX4_hasPair, RX4), (RX4, 139, yX2_holdsSentence, RX4), (RX4, 180, yX2_putAnyWord, RX4), (RX4, 184, yX2_putWord, RX4), (RX4, 188, yX2_joinUpTo, RX4), (RX4, 71, yX1_defineWord, RX4), (RX4, 98, yX1_defineRule, RX4), (RX1, 46, yX4_pairOf, RX4), (RX4, 133, yX2_pairsOf, RX4)]
def nwS : List (String × Nat × String) := [(RX4, 54, "no such category or value"), (RX4, 64, "there are 9 words"), (RX4, 81, "no such word"), (RX4, 91, "no such category or mode"), (RX4, 96, "there are 8 rules"), (RX4, 102, "there is no rule"), (RX4, 104, "the row has 6 words"), (RX4, 106, "no such place or word"), (RX4, 108, "no such place"), (RX4, 125, "no such words or category"), (RX4, 127, "no such values"), (RX4, 145, "no such length"), (RX4, 153, "no such length or number"), (RX4, 164, "no such correction")]
/-! the world: cell number i lies at the address ad i and holds E i -/
abbrev Gm : Type := va_G × ((Nat → ClassId) × (Nat → Nat))
abbrev IT : Type := Nat → Nat → Int32
abbrev LT : Type := Nat → Nat → Int64
abbrev PT : Type := Nat → UInt64
def wl (n : Nat) (ad : Nat → Nat) (E : Nat → va_E) : va_W := (List.range n).map (fun i => (ad i, E i))
theorem wl_get {n i : Nat} {ad : Nat → Nat} {E : Nat → va_E} (h : i < n) : (wl n ad E)[i]? = some (ad i, E i) := by
  simp [wl, h]
theorem wl_none {n i : Nat} {ad : Nat → Nat} {E : Nat → va_E} (h : n ≤ i) : (wl n ad E)[i]? = none := by
  simp [wl, h]
theorem wl_of {n k : Nat} {ad : Nat → Nat} {E : Nat → va_E} {q : Nat × va_E} (h : (wl n ad E)[k]? = some q) : k < n ∧ q = (ad k, E k) := by
  rcases Nat.lt_or_ge k n with hk | hk
  · rw [wl_get hk] at h
    exact ⟨hk, (Option.some.inj h).symm⟩
  · rw [wl_none hk] at h
    cases h
theorem wl_set {n i : Nat} {ad : Nat → Nat} {E : Nat → va_E} (e : va_E) : (wl n ad E).set i (ad i, e) = wl n ad (va_up E i e) := by
  apply List.ext_getElem?
  intro j
  rcases Nat.lt_or_ge j n with hj | hj
  · rw [wl_get hj]
    by_cases hij : i = j
    · subst hij
      rw [List.getElem?_set_self (by simp [wl, hj]), va_up_self]
    · rw [List.getElem?_set_ne hij, wl_get hj, va_up_ne _ _ (Ne.symm hij)]
  · rw [wl_none hj, List.getElem?_eq_none (by simp [wl, hj])]
/-- how long the int array number k is -/
def ln (k : Nat) : Nat := if k < 14 then 6 else if k < 16 then 9 else if k < 19 then 8 else if k < 20 then 168 else if k < 22 then 9 else if k < 26 then 8 else if k < 28 then 6 else if k < 29 then 336 else if k < 37 then 256 else 128
/-- what cell k holds: objects (0 gym, 1 grammar, 2 part sets, 3 count chart, 4 plain counter, 8 model), rows of rows (5, 6, 7), long arrays (9, 10), the double array 11, int arrays from 12 on; an object's ints are row k of I -/
def ee (γ : Gm) (I : IT) (L : LT) (P : PT) : Nat → va_E
  | 0 => .inr (4, [.ref (γ.2.2 1), .ref (γ.2.2 12), .int (I 0 0), .ref (γ.2.2 13), .ref (γ.2.2 2), .ref (γ.2.2 3), .ref (γ.2.2 4)])
  | 1 => .inr (1, [.int (I 1 0), .ref (γ.2.2 14), .ref (γ.2.2 15), .int (I 1 1), .ref (γ.2.2 16), .ref (γ.2.2 17), .ref (γ.2.2 18), .ref (γ.2.2 5)])
  | 2 => .inr (2, [.ref (γ.2.2 19)])
  | 3 => .inr (0, [.ref (γ.2.2 6)])
  | 4 => .inr (3, [.ref (γ.2.2 7)])
  | 5 => .inl (γ.2.1 1, 8, .inr (.inr (.inr (.inr (fun j => if j < 8 then some (γ.2.2 (j + 29)) else none)))))
  | 6 => .inl (γ.2.1 1, 21, .inr (.inr (.inr (.inr (fun j => if j < 21 then some (γ.2.2 (j + 37)) else none)))))
  | 7 => .inl (γ.2.1 1, 13, .inr (.inr (.inr (.inr (fun j => if j < 13 then some (γ.2.2 (j + 58)) else none)))))
  | 8 => .inr (5, [.ref (γ.2.2 20), .ref (γ.2.2 21), .int (I 8 0), .ref (γ.2.2 22), .ref (γ.2.2 23), .ref (γ.2.2 24), .ref (γ.2.2 25), .int (I 8 1), .ref (γ.2.2 26), .int (I 8 2), .ref (γ.2.2 27), .int (I 8 3), .ref (γ.2.2 28), .ref (γ.2.2 9), .int (I 8 4)])
  | 9 => .inl (γ.2.1 2, 5376, .inr (.inl (L 9)))
  | 10 => .inl (γ.2.1 2, 1, .inr (.inl (L 10)))
  | 11 => .inl (γ.2.1 3, 1, .inr (.inr (.inr (.inl P))))
  | k + 12 => .inl (γ.2.1 0, ln (k + 12), .inl (I (k + 12)))
theorem ee_int {γ : Gm} {I : IT} {L : LT} {P : PT} {k : Nat} (h : 12 ≤ k) : ee γ I L P k = .inl (γ.2.1 0, ln k, .inl (I k)) := by
  obtain ⟨j, rfl⟩ : ∃ j, k = j + 12 := ⟨k - 12, by omega⟩
  rfl
theorem ee_cong {γ : Gm} {I I' : IT} {L L' : LT} {P : PT} {j : Nat} (h : I j = I' j) (h2 : L j = L' j) : ee γ I L P j = ee γ I' L' P j := by
  match j, h, h2 with
  | 0, h, h2 => simp only [ee, h]
  | 1, h, h2 => simp only [ee, h]
  | 2, h, h2 => rfl
  | 3, h, h2 => rfl
  | 4, h, h2 => rfl
  | 5, h, h2 => rfl
  | 6, h, h2 => rfl
  | 7, h, h2 => rfl
  | 8, h, h2 => simp only [ee, h]
  | 9, h, h2 => simp only [ee, h2]
  | 10, h, h2 => simp only [ee, h2]
  | 11, h, h2 => rfl
  | k + 12, h, h2 => simp only [ee, h]
theorem ee_upI {γ : Gm} {I : IT} {L : LT} {P : PT} {k : Nat} {f : Nat → Int32} {e : va_E} (h : e = ee γ (va_up I k f) L P k) : va_up (ee γ I L P) k e = ee γ (va_up I k f) L P := by
  funext j
  by_cases hj : j = k
  · subst hj
    rw [va_up_self, h]
  · rw [va_up_ne _ _ hj]
    exact ee_cong (va_up_ne _ _ hj).symm rfl
theorem ee_upL {γ : Gm} {I : IT} {L : LT} {P : PT} {k : Nat} {f : Nat → Int64} {e : va_E} (h : e = ee γ I (va_up L k f) P k) : va_up (ee γ I L P) k e = ee γ I (va_up L k f) P := by
  funext j
  by_cases hj : j = k
  · subst hj
    rw [va_up_self, h]
  · rw [va_up_ne _ _ hj]
    exact ee_cong rfl (va_up_ne _ _ hj).symm
abbrev wd (γ : Gm) (I : IT) (L : LT) (P : PT) : va_W := wl 71 γ.2.2 (ee γ I L P)
def tyl (γ : Gm) : List (ClassId × FieldType) := [(γ.2.1 0, .int), (γ.2.1 1, .array .int), (γ.2.1 2, .long), (γ.2.1 3, .double)]
/-- what a state says that stays: classes, nest mates, texts, the two statics that a new exception reads -/
def Fx (γ : Gm) (A : Nat → Prop) (U : State) : Prop :=
  va_K γ.1 vwCl (tyl γ) U ∧ (∀ q ∈ nwF, va_Nw (.fieldLinkNest q.1 q.2.1 q.2.2.1 q.2.2.2.1 q.2.2.2.2.1 q.2.2.2.2.2) U) ∧ (∀ q ∈ nwM, va_Nw (.methodLinkNest q.1 q.2.1 q.2.2.1 q.2.2.2) U) ∧ (∀ q ∈ nwS, ∃ a, vk_R q.1 q.2.1 q.2.2 a U) ∧ vx_Zq Bundle.tN "UNASSIGNED_STACK" Bundle.steD A U U.heap ∧ vx_Zq Bundle.tN "SUPPRESSED_SENTINEL" Bundle.listD A U U.heap
theorem Fx.warm {γ : Gm} {A B : Nat → Prop} {s U : State} (h : Fx γ A s) (hW : s.WarmedH U.vm) (hB : ∀ q, B q → A q) (hH : ∀ a : Nat, a < s.heap.size → ¬ A a → U.heap[a]? = s.heap[a]?) : Fx γ B U := by
  obtain ⟨h1, h2, h3, h4, h5, h6⟩ := h
  refine ⟨h1.moved hW.alike, fun q hq => va_Nw.warmF hW (h2 q hq), fun q hq => va_Nw.warmM hW (h3 q hq), fun q hq => ?_, ?_, ?_⟩
  · obtain ⟨a, ha⟩ := h4 q hq
    exact ⟨a, ha.warm hW⟩
  · exact ((h5.kept hH).moved hW.alike).narrow hB
  · exact ((h6.kept hH).moved hW.alike).narrow hB
theorem Fx.calling {γ : Gm} {A : Nat → Prop} {U : State} {g : JFrame} {mk : MethodId} {a : Array Value} (h : Fx γ A U) : Fx γ A (U.calling g mk a) := by
  obtain ⟨h1, h2, h3, h4, h5, h6⟩ := h
  have e : U.vm.Alike (U.calling g mk a).vm := Vm.Alike.refl U.vm
  refine ⟨h1.moved e, fun q hq => va_Nw.same rfl rfl (h2 q hq), fun q hq => va_Nw.same rfl rfl (h3 q hq), fun q hq => ?_, h5.moved e, h6.moved e⟩
  obtain ⟨x, hx⟩ := h4 q hq
  exact ⟨x, hx.same rfl⟩
def WP (γ : Gm) (A : Nat → Prop) (I : IT) (L : LT) (P : PT) (H : Heap) : Prop := va_P γ.1 vwCl (wd γ I L P) H ∧ va_D A (wd γ I L P)
/-- which cells a method may change: the world's, and new ones -/
def AA (γ : Gm) (sz : Nat) : Nat → Prop := fun q => (∃ i, i < 71 ∧ q = γ.2.2 i) ∨ sz ≤ q
theorem AA_in {γ : Gm} {A : Nat → Prop} {I : IT} {L : LT} {P : PT} {n n0 : Nat} (hD : va_D A (wd γ I L P)) (hA : ∀ q, n0 ≤ q → A q) (hn : n0 ≤ n) : ∀ q, AA γ n q → A q := by
  intro q h
  rcases h with ⟨i, hi, rfl⟩ | h
  · exact hD.2 i _ (wl_get hi)
  · exact hA q (Nat.le_trans hn h)
abbrev ST : Type := IT × LT
def rmd (d : Nat) : Room := { frames := d, cells := 0, slots := 0, locals := 40 * d }
def Pre (γ : Gm) (sz : Nat) (av : List Value) (I : IT) (L : LT) (P : PT) : Array Value → State → Prop := va_Pc av (fun U => U.heap.size = sz ∧ Fx γ (AA γ sz) U ∧ WP γ (fun _ => True) I L P U.heap)
theorem Pre.blind {γ : Gm} {sz : Nat} {av : List Value} {I : IT} {L : LT} {P : PT} : FrameBlind (Pre γ sz av I L P) := fun _ _ _ _ q => ⟨q.1, q.2.1, q.2.2.1.calling, q.2.2.2⟩
/-- contracts of methods that make nothing: an int or a boolean; nothing; a float -/
abbrev Ci (l : Launch) (y : MethodName) (ws : List Cond) (d : Nat) (γ : Gm) (av : List Value) (I : IT) (L : LT) (P : PT) (post : Int32 → IT → LT → Prop) : Prop := ∀ sz, Met l y ws (rmd d) (Pre γ sz av I L P) (va_Qi (fun r (u : ST) => post r u.1 u.2) (fun u t => WP γ (AA γ sz) u.1 u.2 P t.heap) (AA γ sz)) 0 0 (AA γ sz)
abbrev Cv (l : Launch) (y : MethodName) (ws : List Cond) (d : Nat) (γ : Gm) (av : List Value) (I : IT) (L : LT) (P : PT) (post : IT → LT → Prop) : Prop := ∀ sz, Met l y ws (rmd d) (Pre γ sz av I L P) (va_Qv (fun (u : ST) => post u.1 u.2) (fun u t => WP γ (AA γ sz) u.1 u.2 P t.heap) (AA γ sz)) 0 0 (AA γ sz)
abbrev Cf (l : Launch) (y : MethodName) (ws : List Cond) (d : Nat) (γ : Gm) (av : List Value) (I : IT) (L : LT) (P : PT) (post : UInt32 → IT → LT → Prop) : Prop := ∀ sz, Met l y ws (rmd d) (Pre γ sz av I L P) (va_Qf (fun r (u : ST) => post r u.1 u.2) (fun u t => WP γ (AA γ sz) u.1 u.2 P t.heap) (AA γ sz)) 0 0 (AA γ sz)
/-- what a walk has at hand -/
def Cx (EX : State → Code → Prop) (cc : ByteArray) (nL : Nat) (Ts : List Cond) (own : String) (ret : Option FieldType) (γ : Gm) (AF : State → Nat → Prop) (p : Program) (s : State) (m : MethodId) (args : Array Value) (meth : Method) (c : Code) : Prop :=
  CallFix p m c cc nL s args Ts own ∧ Fx γ (AF s) s ∧ (∀ q, s.heap.size ≤ q → AF s q) ∧ meth.sig.returnType = ret ∧ meth.locks = false ∧ EX s c
/-- from every state of this picture the machine comes to QQ -/
def G (EX : State → Code → Prop) (l : Launch) (cc : ByteArray) (nL : Nat) (Ts : List Cond) (own : String) (ret : Option FieldType) (R : Room) (γ : Gm) (P : PT) (AF : State → Nat → Prop) (QQ : List Frame → Array Value → State → State → Prop) (cells slots : Nat) (pc : Nat) (lv : List (Nat × Value)) (st : List Value) (I : IT) (L : LT) : Prop :=
  ∀ (p : Program) (e : Env) (s : State) (m : MethodId) (args : Array Value) (below : List Frame) (meth : Method) (c : Code), Cx EX cc nL Ts own ret γ AF p s m args meth c →
    ∀ (H : Heap) (locs : List Loc) (ls : Array Slot), va_S (AF s) s.heap H locs → va_P γ.1 vwCl (wd γ I L P) H → va_D (AF s) (wd γ I L P) → lv_has ls nL lv →
      W p l e R s m args below meth c H locs cells slots (QQ below args s) (F0 m pc ls st)
abbrev Qi (γ : Gm) (P : PT) (post : Int32 → IT → LT → Prop) : List Frame → Array Value → State → State → Prop := fun below args s => MQ below (va_Qi (fun r (u : ST) => post r u.1 u.2) (fun u t => WP γ (AA γ s.heap.size) u.1 u.2 P t.heap) (AA γ s.heap.size)) args s 0 0 (AA γ s.heap.size)
abbrev Qv (γ : Gm) (P : PT) (post : IT → LT → Prop) : List Frame → Array Value → State → State → Prop := fun below args s => MQ below (va_Qv (fun (u : ST) => post u.1 u.2) (fun u t => WP γ (AA γ s.heap.size) u.1 u.2 P t.heap) (AA γ s.heap.size)) args s 0 0 (AA γ s.heap.size)
abbrev AE (γ : Gm) : State → Nat → Prop := fun s => AA γ s.heap.size
abbrev E0 : State → Code → Prop := fun _ _ => True
/-- a method's body, by G -/
theorem Ci_of {l : Launch} {y : MethodName} {ws ws' : List Cond} {cc : ByteArray} {maxL d : Nat} {ret : Option FieldType} {γ : Gm} {av : List Value} {I : IT} {L : LT} {P : PT} {post : Int32 → IT → LT → Prop} {own : String} (hy : plainName y.cls = true) (ho : y.cls = own) (hw : ws = .code y cc maxL ret :: ws') (hn : (lg_sl av).length ≤ maxL)
    (body : G E0 l cc maxL ws own ret (rmd d) γ P (AE γ) (Qi γ P post) 0 0 0 (lv_args 0 av) [] I L) : Ci l y ws d γ av I L P post := by
  intro sz
  subst ho
  refine Met.ofW hy hw ?_
  intro p e s m args below meth c s₁ B hml hv
  obtain ⟨rfl, hsz, hF, hP, hD⟩ := hv
  subst hsz
  rw [lg_entry_eq]
  exact body p e s m _ below meth c ⟨⟨B.exec, B.bytes, hml, findClass_of_methodNamed B.named, atoms_spec B.pre⟩, hF, fun q h => Or.inr h, B.returns, B.notSynchronized, trivial⟩ s.heap [] _ va_S.rf hP (hD.weaken (fun k q hk _ => by obtain ⟨h1, rfl⟩ := wl_of hk; exact Or.inl ⟨k, h1, rfl⟩)) (lv_entry av hn)
theorem Cv_of {l : Launch} {y : MethodName} {ws ws' : List Cond} {cc : ByteArray} {maxL d : Nat} {γ : Gm} {av : List Value} {I : IT} {L : LT} {P : PT} {post : IT → LT → Prop} {own : String} (hy : plainName y.cls = true) (ho : y.cls = own) (hw : ws = .code y cc maxL none :: ws') (hn : (lg_sl av).length ≤ maxL)
    (body : G E0 l cc maxL ws own none (rmd d) γ P (AE γ) (Qv γ P post) 0 0 0 (lv_args 0 av) [] I L) : Cv l y ws d γ av I L P post := by
  intro sz
  subst ho
  refine Met.ofW hy hw ?_
  intro p e s m args below meth c s₁ B hml hv
  obtain ⟨rfl, hsz, hF, hP, hD⟩ := hv
  subst hsz
  rw [lg_entry_eq]
  exact body p e s m _ below meth c ⟨⟨B.exec, B.bytes, hml, findClass_of_methodNamed B.named, atoms_spec B.pre⟩, hF, fun q h => Or.inr h, B.returns, B.notSynchronized, trivial⟩ s.heap [] _ va_S.rf hP (hD.weaken (fun k q hk _ => by obtain ⟨h1, rfl⟩ := wl_of hk; exact Or.inl ⟨k, h1, rfl⟩)) (lv_entry av hn)
section Rows
variable {EX : State → Code → Prop} {l : Launch} {cc : ByteArray} {nL : Nat} {Ts : List Cond} {own : String} {ret : Option FieldType} {R : Room} {γ : Gm} {P : PT} {AF : State → Nat → Prop} {QQ : List Frame → Array Value → State → State → Prop} {cells slots : Nat} {pc : Nat} {lv : List (Nat × Value)} {st : List Value} {I : IT} {L : LT}
/-- other words for the same picture -/
theorem g_sub {lv' : List (Nat × Value)} (ks : List Nat) (h : lv_pick lv ks = lv') (kk : G EX l cc nL Ts own ret R γ P AF QQ cells slots pc lv' st I L) : G EX l cc nL Ts own ret R γ P AF QQ cells slots pc lv st I L :=
  fun p e s m args below meth c K H locs ls hS hP hD hl => kk p e s m args below meth c K H locs ls hS hP hD (lv_sub hl ks h)
theorem g_eq {I' : IT} {L' : LT} (hI : I = I') (hL : L = L') (kk : G EX l cc nL Ts own ret R γ P AF QQ cells slots pc lv st I' L') : G EX l cc nL Ts own ret R γ P AF QQ cells slots pc lv st I L := by
  subst hI; subst hL; exact kk
/-! constants -/
theorem g_ic {n : Int} {v : Int32} (hd : decode cc pc = .ok (.iconst n, 1)) (hv : Int32.ofInt n = v) (kk : G EX l cc nL Ts own ret R γ P AF QQ cells slots (pc + 1) lv (.int v :: st) I L) : G EX l cc nL Ts own ret R γ P AF QQ cells slots pc lv st I L :=
  fun p e s m args below meth c K H locs ls hS hP hD hl => lv_iconst K.1.1 K.1.2.1 hd hv (kk p e s m args below meth c K H locs ls hS hP hD hl)
theorem g_bi {n : Int} {v : Int32} (hd : decode cc pc = .ok (.bipush n, 2)) (hv : (Int8.ofInt n).toInt32 = v) (kk : G EX l cc nL Ts own ret R γ P AF QQ cells slots (pc + 2) lv (.int v :: st) I L) : G EX l cc nL Ts own ret R γ P AF QQ cells slots pc lv st I L :=
  fun p e s m args below meth c K H locs ls hS hP hD hl => lv_bipush K.1.1 K.1.2.1 hd hv (kk p e s m args below meth c K H locs ls hS hP hD hl)
theorem g_si {n : Int} {v : Int32} (hd : decode cc pc = .ok (.sipush n, 3)) (hv : (Int16.ofInt n).toInt32 = v) (kk : G EX l cc nL Ts own ret R γ P AF QQ cells slots (pc + 3) lv (.int v :: st) I L) : G EX l cc nL Ts own ret R γ P AF QQ cells slots pc lv st I L :=
  fun p e s m args below meth c K H locs ls hS hP hD hl => lv_sipush K.1.1 K.1.2.1 hd hv (kk p e s m args below meth c K H locs ls hS hP hD hl)
theorem g_ldc {index : Nat} {v : Int32} (hc : (Cond.constant own index v) ∈ Ts) (hd : decode cc pc = .ok (.ldc index, 2)) (kk : G EX l cc nL Ts own ret R γ P AF QQ cells slots (pc + 2) lv (.int v :: st) I L) : G EX l cc nL Ts own ret R γ P AF QQ cells slots pc lv st I L :=
  fun p e s m args below meth c K H locs ls hS hP hD hl => lv_ldc K.1.1 K.1.2.1 K.1.2.2.2.1 (K.1.2.2.2.2 _ hc) hd (kk p e s m args below meth c K H locs ls hS hP hD hl)
theorem g_lc {n : Fin 2} {v : Int64} (hd : decode cc pc = .ok (.lconst n, 1)) (hv : Int64.ofNat (n : Nat) = v) (kk : G EX l cc nL Ts own ret R γ P AF QQ cells slots (pc + 1) lv (.long v :: st) I L) : G EX l cc nL Ts own ret R γ P AF QQ cells slots pc lv st I L :=
  fun p e s m args below meth c K H locs ls hS hP hD hl => lv_lconst K.1.1 K.1.2.1 hd hv (kk p e s m args below meth c K H locs ls hS hP hD hl)
/-! locals -/
theorem g_il_n {k : Fin 4} {x : Int32} (j : Nat) (hd : decode cc pc = .ok (.iload_n k, 1)) (hj : lv[j]? = some ((k : Nat), .int x)) (kk : G EX l cc nL Ts own ret R γ P AF QQ cells slots (pc + 1) lv (.int x :: st) I L) : G EX l cc nL Ts own ret R γ P AF QQ cells slots pc lv st I L :=
  fun p e s m args below meth c K H locs ls hS hP hD hl => lv_iload_n K.1.1 K.1.2.1 hd rfl (lv_at hl j hj) (kk p e s m args below meth c K H locs ls hS hP hD hl)
theorem g_il {i : Nat} {x : Int32} (j : Nat) (hd : decode cc pc = .ok (.iload i, 2)) (hj : lv[j]? = some (i, .int x)) (kk : G EX l cc nL Ts own ret R γ P AF QQ cells slots (pc + 2) lv (.int x :: st) I L) : G EX l cc nL Ts own ret R γ P AF QQ cells slots pc lv st I L :=
  fun p e s m args below meth c K H locs ls hS hP hD hl => lv_iload K.1.1 K.1.2.1 hd (lv_at hl j hj) (kk p e s m args below meth c K H locs ls hS hP hD hl)
theorem g_al_n {k : Fin 4} {x : Nat} (j : Nat) (hd : decode cc pc = .ok (.aload_n k, 1)) (hj : lv[j]? = some ((k : Nat), .ref x)) (kk : G EX l cc nL Ts own ret R γ P AF QQ cells slots (pc + 1) lv (.ref x :: st) I L) : G EX l cc nL Ts own ret R γ P AF QQ cells slots pc lv st I L :=
  fun p e s m args below meth c K H locs ls hS hP hD hl => lv_aload_n K.1.1 K.1.2.1 hd rfl (lv_at hl j hj) (kk p e s m args below meth c K H locs ls hS hP hD hl)
theorem g_al {i : Nat} {x : Nat} (j : Nat) (hd : decode cc pc = .ok (.aload i, 2)) (hj : lv[j]? = some (i, .ref x)) (kk : G EX l cc nL Ts own ret R γ P AF QQ cells slots (pc + 2) lv (.ref x :: st) I L) : G EX l cc nL Ts own ret R γ P AF QQ cells slots pc lv st I L :=
  fun p e s m args below meth c K H locs ls hS hP hD hl => lv_aload K.1.1 K.1.2.1 hd (lv_at hl j hj) (kk p e s m args below meth c K H locs ls hS hP hD hl)
theorem g_ll_n {k : Fin 4} {x : Int64} (j : Nat) (hd : decode cc pc = .ok (.lload_n k, 1)) (hj : lv[j]? = some ((k : Nat), .long x)) (kk : G EX l cc nL Ts own ret R γ P AF QQ cells slots (pc + 1) lv (.long x :: st) I L) : G EX l cc nL Ts own ret R γ P AF QQ cells slots pc lv st I L :=
  fun p e s m args below meth c K H locs ls hS hP hD hl => lv_lload_n K.1.1 K.1.2.1 hd rfl (lv_at hl j hj) (kk p e s m args below meth c K H locs ls hS hP hD hl)
theorem g_ll {i : Nat} {x : Int64} (j : Nat) (hd : decode cc pc = .ok (.lload i, 2)) (hj : lv[j]? = some (i, .long x)) (kk : G EX l cc nL Ts own ret R γ P AF QQ cells slots (pc + 2) lv (.long x :: st) I L) : G EX l cc nL Ts own ret R γ P AF QQ cells slots pc lv st I L :=
  fun p e s m args below meth c K H locs ls hS hP hD hl => lv_lload K.1.1 K.1.2.1 hd (lv_at hl j hj) (kk p e s m args below meth c K H locs ls hS hP hD hl)
theorem g_fl {i : Nat} {x : UInt32} (j : Nat) (hd : decode cc pc = .ok (.fload i, 2)) (hj : lv[j]? = some (i, .float x)) (kk : G EX l cc nL Ts own ret R γ P AF QQ cells slots (pc + 2) lv (.float x :: st) I L) : G EX l cc nL Ts own ret R γ P AF QQ cells slots pc lv st I L :=
  fun p e s m args below meth c K H locs ls hS hP hD hl => lv_fload K.1.1 K.1.2.1 hd (lv_at hl j hj) (kk p e s m args below meth c K H locs ls hS hP hD hl)
theorem g_is_n {k : Fin 4} {x : Int32} {lv' : List (Nat × Value)} (hd : decode cc pc = .ok (.istore_n k, 1)) (hn : (k : Nat) < nL) (hl : ((k : Nat), Value.int x) :: lv.filter (fun q => !(q.1 == (k : Nat)) && !(q.1 + 1 == (k : Nat) && q.2.category == 2)) = lv') (kk : G EX l cc nL Ts own ret R γ P AF QQ cells slots (pc + 1) lv' st I L) : G EX l cc nL Ts own ret R γ P AF QQ cells slots pc lv (.int x :: st) I L :=
  fun p e s m args below meth c K H locs ls hS hP hD hl0 => lv_istore_n K.1.1 K.1.2.1 hd rfl hl0 hn hl (fun ls' hl' => kk p e s m args below meth c K H locs ls' hS hP hD hl')
theorem g_is {i : Nat} {x : Int32} {lv' : List (Nat × Value)} (hd : decode cc pc = .ok (.istore i, 2)) (hn : i < nL) (hl : (i, Value.int x) :: lv.filter (fun q => !(q.1 == i) && !(q.1 + 1 == i && q.2.category == 2)) = lv') (kk : G EX l cc nL Ts own ret R γ P AF QQ cells slots (pc + 2) lv' st I L) : G EX l cc nL Ts own ret R γ P AF QQ cells slots pc lv (.int x :: st) I L :=
  fun p e s m args below meth c K H locs ls hS hP hD hl0 => lv_istore K.1.1 K.1.2.1 hd hl0 hn hl (fun ls' hl' => kk p e s m args below meth c K H locs ls' hS hP hD hl')
theorem g_as_n {k : Fin 4} {x : Nat} {lv' : List (Nat × Value)} (hd : decode cc pc = .ok (.astore_n k, 1)) (hn : (k : Nat) < nL) (hl : ((k : Nat), Value.ref x) :: lv.filter (fun q => !(q.1 == (k : Nat)) && !(q.1 + 1 == (k : Nat) && q.2.category == 2)) = lv') (kk : G EX l cc nL Ts own ret R γ P AF QQ cells slots (pc + 1) lv' st I L) : G EX l cc nL Ts own ret R γ P AF QQ cells slots pc lv (.ref x :: st) I L :=
  fun p e s m args below meth c K H locs ls hS hP hD hl0 => lv_astore_n K.1.1 K.1.2.1 hd rfl hl0 hn hl (fun ls' hl' => kk p e s m args below meth c K H locs ls' hS hP hD hl')
theorem g_as {i : Nat} {x : Nat} {lv' : List (Nat × Value)} (hd : decode cc pc = .ok (.astore i, 2)) (hn : i < nL) (hl : (i, Value.ref x) :: lv.filter (fun q => !(q.1 == i) && !(q.1 + 1 == i && q.2.category == 2)) = lv') (kk : G EX l cc nL Ts own ret R γ P AF QQ cells slots (pc + 2) lv' st I L) : G EX l cc nL Ts own ret R γ P AF QQ cells slots pc lv (.ref x :: st) I L :=
  fun p e s m args below meth c K H locs ls hS hP hD hl0 => lv_astore K.1.1 K.1.2.1 hd hl0 hn hl (fun ls' hl' => kk p e s m args below meth c K H locs ls' hS hP hD hl')
theorem g_ls {i : Nat} {x : Int64} {lv' : List (Nat × Value)} (hd : decode cc pc = .ok (.lstore i, 2)) (hn : i + 1 < nL) (hl : (i, Value.long x) :: lv.filter (fun q => !(q.1 == i) && (!(q.1 == i + 1) && !(q.1 + 1 == i && q.2.category == 2))) = lv') (kk : G EX l cc nL Ts own ret R γ P AF QQ cells slots (pc + 2) lv' st I L) : G EX l cc nL Ts own ret R γ P AF QQ cells slots pc lv (.long x :: st) I L :=
  fun p e s m args below meth c K H locs ls hS hP hD hl0 => lv_lstore K.1.1 K.1.2.1 hd hl0 hn hl (fun ls' hl' => kk p e s m args below meth c K H locs ls' hS hP hD hl')
theorem g_fs {i : Nat} {x : UInt32} {lv' : List (Nat × Value)} (hd : decode cc pc = .ok (.fstore i, 2)) (hn : i < nL) (hl : (i, Value.float x) :: lv.filter (fun q => !(q.1 == i) && !(q.1 + 1 == i && q.2.category == 2)) = lv') (kk : G EX l cc nL Ts own ret R γ P AF QQ cells slots (pc + 2) lv' st I L) : G EX l cc nL Ts own ret R γ P AF QQ cells slots pc lv (.float x :: st) I L :=
  fun p e s m args below meth c K H locs ls hS hP hD hl0 => lv_fstore K.1.1 K.1.2.1 hd hl0 hn hl (fun ls' hl' => kk p e s m args below meth c K H locs ls' hS hP hD hl')
theorem g_inc {i : Nat} {n : Int} {x v : Int32} {lv' : List (Nat × Value)} (k : Nat) (hd : decode cc pc = .ok (.iinc i n, 3)) (hk : lv[k]? = some (i, .int x)) (hv : x + Int32.ofInt n = v) (hn : i < nL) (hl : (i, Value.int v) :: lv.filter (fun q => !(q.1 == i) && !(q.1 + 1 == i && q.2.category == 2)) = lv') (kk : G EX l cc nL Ts own ret R γ P AF QQ cells slots (pc + 3) lv' st I L) : G EX l cc nL Ts own ret R γ P AF QQ cells slots pc lv st I L :=
  fun p e s m args below meth c K H locs ls hS hP hD hl0 => lv_iinc K.1.1 K.1.2.1 hd hl0 hk hv hn hl (fun ls' hl' => kk p e s m args below meth c K H locs ls' hS hP hD hl')
theorem g_dup {v : Value} (hd : decode cc pc = .ok (.dup, 1)) (hv : v.category = 1) (kk : G EX l cc nL Ts own ret R γ P AF QQ cells slots (pc + 1) lv (v :: v :: st) I L) : G EX l cc nL Ts own ret R γ P AF QQ cells slots pc lv (v :: st) I L :=
  fun p e s m args below meth c K H locs ls hS hP hD hl => lv_dup K.1.1 K.1.2.1 hd hv (kk p e s m args below meth c K H locs ls hS hP hD hl)
theorem g_dup2 {v w : Value} (hd : decode cc pc = .ok (.dup2, 1)) (hv : v.category = 1) (hw : w.category = 1) (kk : G EX l cc nL Ts own ret R γ P AF QQ cells slots (pc + 1) lv (v :: w :: v :: w :: st) I L) : G EX l cc nL Ts own ret R γ P AF QQ cells slots pc lv (v :: w :: st) I L :=
  fun p e s m args below meth c K H locs ls hS hP hD hl => lv_dup2_11 K.1.1 K.1.2.1 hd hv hw (kk p e s m args below meth c K H locs ls hS hP hD hl)
/-! arithmetic -/
theorem g_iadd {x y v : Int32} (hd : decode cc pc = .ok (.iadd, 1)) (hv : x + y = v) (kk : G EX l cc nL Ts own ret R γ P AF QQ cells slots (pc + 1) lv (.int v :: st) I L) : G EX l cc nL Ts own ret R γ P AF QQ cells slots pc lv (.int y :: .int x :: st) I L := by
  subst hv; exact fun p e s m args below meth c K H locs ls hS hP hD hl => lv_iadd K.1.1 K.1.2.1 hd (kk p e s m args below meth c K H locs ls hS hP hD hl)
theorem g_isub {x y v : Int32} (hd : decode cc pc = .ok (.isub, 1)) (hv : x - y = v) (kk : G EX l cc nL Ts own ret R γ P AF QQ cells slots (pc + 1) lv (.int v :: st) I L) : G EX l cc nL Ts own ret R γ P AF QQ cells slots pc lv (.int y :: .int x :: st) I L := by
  subst hv; exact fun p e s m args below meth c K H locs ls hS hP hD hl => lv_isub K.1.1 K.1.2.1 hd (kk p e s m args below meth c K H locs ls hS hP hD hl)
theorem g_imul {x y v : Int32} (hd : decode cc pc = .ok (.imul, 1)) (hv : x * y = v) (kk : G EX l cc nL Ts own ret R γ P AF QQ cells slots (pc + 1) lv (.int v :: st) I L) : G EX l cc nL Ts own ret R γ P AF QQ cells slots pc lv (.int y :: .int x :: st) I L := by
  subst hv; exact fun p e s m args below meth c K H locs ls hS hP hD hl => lv_imul K.1.1 K.1.2.1 hd (kk p e s m args below meth c K H locs ls hS hP hD hl)
theorem g_idiv {x y v : Int32} (hd : decode cc pc = .ok (.idiv, 1)) (hne : ¬ y = 0) (hv : x / y = v) (kk : G EX l cc nL Ts own ret R γ P AF QQ cells slots (pc + 1) lv (.int v :: st) I L) : G EX l cc nL Ts own ret R γ P AF QQ cells slots pc lv (.int y :: .int x :: st) I L := by
  subst hv; exact fun p e s m args below meth c K H locs ls hS hP hD hl => lv_idiv K.1.1 K.1.2.1 hd hne (kk p e s m args below meth c K H locs ls hS hP hD hl)
theorem g_irem {x y v : Int32} (hd : decode cc pc = .ok (.irem, 1)) (hne : ¬ y = 0) (hv : x - x / y * y = v) (kk : G EX l cc nL Ts own ret R γ P AF QQ cells slots (pc + 1) lv (.int v :: st) I L) : G EX l cc nL Ts own ret R γ P AF QQ cells slots pc lv (.int y :: .int x :: st) I L := by
  subst hv; exact fun p e s m args below meth c K H locs ls hS hP hD hl => lv_irem K.1.1 K.1.2.1 hd hne (kk p e s m args below meth c K H locs ls hS hP hD hl)
theorem g_iand {x y v : Int32} (hd : decode cc pc = .ok (.iand, 1)) (hv : x &&& y = v) (kk : G EX l cc nL Ts own ret R γ P AF QQ cells slots (pc + 1) lv (.int v :: st) I L) : G EX l cc nL Ts own ret R γ P AF QQ cells slots pc lv (.int y :: .int x :: st) I L := by
  subst hv; exact fun p e s m args below meth c K H locs ls hS hP hD hl => lv_iand K.1.1 K.1.2.1 hd (kk p e s m args below meth c K H locs ls hS hP hD hl)
theorem g_ior {x y v : Int32} (hd : decode cc pc = .ok (.ior, 1)) (hv : x ||| y = v) (kk : G EX l cc nL Ts own ret R γ P AF QQ cells slots (pc + 1) lv (.int v :: st) I L) : G EX l cc nL Ts own ret R γ P AF QQ cells slots pc lv (.int y :: .int x :: st) I L := by
  subst hv; exact fun p e s m args below meth c K H locs ls hS hP hD hl => lv_ior K.1.1 K.1.2.1 hd (kk p e s m args below meth c K H locs ls hS hP hD hl)
theorem g_ishl {x y v : Int32} (hd : decode cc pc = .ok (.ishl, 1)) (hv : x <<< (y &&& 31) = v) (kk : G EX l cc nL Ts own ret R γ P AF QQ cells slots (pc + 1) lv (.int v :: st) I L) : G EX l cc nL Ts own ret R γ P AF QQ cells slots pc lv (.int y :: .int x :: st) I L := by
  subst hv; exact fun p e s m args below meth c K H locs ls hS hP hD hl => lv_ishl K.1.1 K.1.2.1 hd (kk p e s m args below meth c K H locs ls hS hP hD hl)
theorem g_ishr {x y v : Int32} (hd : decode cc pc = .ok (.ishr, 1)) (hv : x >>> (y &&& 31) = v) (kk : G EX l cc nL Ts own ret R γ P AF QQ cells slots (pc + 1) lv (.int v :: st) I L) : G EX l cc nL Ts own ret R γ P AF QQ cells slots pc lv (.int y :: .int x :: st) I L := by
  subst hv; exact fun p e s m args below meth c K H locs ls hS hP hD hl => lv_ishr K.1.1 K.1.2.1 hd (kk p e s m args below meth c K H locs ls hS hP hD hl)
theorem g_ladd {x y v : Int64} (hd : decode cc pc = .ok (.ladd, 1)) (hv : x + y = v) (kk : G EX l cc nL Ts own ret R γ P AF QQ cells slots (pc + 1) lv (.long v :: st) I L) : G EX l cc nL Ts own ret R γ P AF QQ cells slots pc lv (.long y :: .long x :: st) I L := by
  subst hv; exact fun p e s m args below meth c K H locs ls hS hP hD hl => lv_ladd K.1.1 K.1.2.1 hd (kk p e s m args below meth c K H locs ls hS hP hD hl)
theorem g_lmul {x y v : Int64} (hd : decode cc pc = .ok (.lmul, 1)) (hv : x * y = v) (kk : G EX l cc nL Ts own ret R γ P AF QQ cells slots (pc + 1) lv (.long v :: st) I L) : G EX l cc nL Ts own ret R γ P AF QQ cells slots pc lv (.long y :: .long x :: st) I L := by
  subst hv; exact fun p e s m args below meth c K H locs ls hS hP hD hl => lv_lmul K.1.1 K.1.2.1 hd (kk p e s m args below meth c K H locs ls hS hP hD hl)
theorem g_lcmp {x y : Int64} {v : Int32} (hd : decode cc pc = .ok (.lcmp, 1)) (hv : lg_cmp x y = v) (kk : G EX l cc nL Ts own ret R γ P AF QQ cells slots (pc + 1) lv (.int v :: st) I L) : G EX l cc nL Ts own ret R γ P AF QQ cells slots pc lv (.long y :: .long x :: st) I L := by
  subst hv; exact fun p e s m args below meth c K H locs ls hS hP hD hl => W.lcmp K.1.1 K.1.2.1 hd (kk p e s m args below meth c K H locs ls hS hP hD hl)
theorem g_i2l {x : Int32} {v : Int64} (hd : decode cc pc = .ok (.i2l, 1)) (hv : x.toInt64 = v) (kk : G EX l cc nL Ts own ret R γ P AF QQ cells slots (pc + 1) lv (.long v :: st) I L) : G EX l cc nL Ts own ret R γ P AF QQ cells slots pc lv (.int x :: st) I L :=
  fun p e s m args below meth c K H locs ls hS hP hD hl => lv_i2l K.1.1 K.1.2.1 hd hv (kk p e s m args below meth c K H locs ls hS hP hD hl)
theorem g_l2i {x : Int64} {v : Int32} (hd : decode cc pc = .ok (.l2i, 1)) (hv : x.toInt32 = v) (kk : G EX l cc nL Ts own ret R γ P AF QQ cells slots (pc + 1) lv (.int v :: st) I L) : G EX l cc nL Ts own ret R γ P AF QQ cells slots pc lv (.long x :: st) I L :=
  fun p e s m args below meth c K H locs ls hS hP hD hl => lv_l2i K.1.1 K.1.2.1 hd hv (kk p e s m args below meth c K H locs ls hS hP hD hl)
/-- the top by another name -/
theorem g_top {x v : Int32} (hv : x = v) (kk : G EX l cc nL Ts own ret R γ P AF QQ cells slots pc lv (.int v :: st) I L) : G EX l cc nL Ts own ret R γ P AF QQ cells slots pc lv (.int x :: st) I L := by
  subst hv; exact kk
theorem g_topl {x v : Int64} (hv : x = v) (kk : G EX l cc nL Ts own ret R γ P AF QQ cells slots pc lv (.long v :: st) I L) : G EX l cc nL Ts own ret R γ P AF QQ cells slots pc lv (.long x :: st) I L := by
  subst hv; exact kk
/-! branches -/
theorem g_goto {off : Int} {tgt : Nat} (hd : decode cc pc = .ok (.goto off, 3)) (ht : (pc : Int) + off = (tgt : Int)) (kk : G EX l cc nL Ts own ret R γ P AF QQ cells slots tgt lv st I L) : G EX l cc nL Ts own ret R γ P AF QQ cells slots pc lv st I L :=
  fun p e s m args below meth c K H locs ls hS hP hD hl => lv_goto K.1.1 K.1.2.1 hd ht (kk p e s m args below meth c K H locs ls hS hP hD hl)
theorem g_if_eq {x : Int32} {off : Int} {tgt : Nat} (hd : decode cc pc = .ok (.ifCond .eq off, 3)) (ht : (pc : Int) + off = (tgt : Int)) (kt : x = 0 → G EX l cc nL Ts own ret R γ P AF QQ cells slots tgt lv st I L) (kf : ¬ x = 0 → G EX l cc nL Ts own ret R γ P AF QQ cells slots (pc + 3) lv st I L) : G EX l cc nL Ts own ret R γ P AF QQ cells slots pc lv (.int x :: st) I L :=
  fun p e s m args below meth c K H locs ls hS hP hD hl => lv_if_eq K.1.1 K.1.2.1 hd ht (fun h => kt h p e s m args below meth c K H locs ls hS hP hD hl) (fun h => kf h p e s m args below meth c K H locs ls hS hP hD hl)
theorem g_if_ne {x : Int32} {off : Int} {tgt : Nat} (hd : decode cc pc = .ok (.ifCond .ne off, 3)) (ht : (pc : Int) + off = (tgt : Int)) (kt : ¬ x = 0 → G EX l cc nL Ts own ret R γ P AF QQ cells slots tgt lv st I L) (kf : x = 0 → G EX l cc nL Ts own ret R γ P AF QQ cells slots (pc + 3) lv st I L) : G EX l cc nL Ts own ret R γ P AF QQ cells slots pc lv (.int x :: st) I L :=
  fun p e s m args below meth c K H locs ls hS hP hD hl => lv_if_ne K.1.1 K.1.2.1 hd ht (fun h => kt h p e s m args below meth c K H locs ls hS hP hD hl) (fun h => kf h p e s m args below meth c K H locs ls hS hP hD hl)
theorem g_if_lt {x : Int32} {off : Int} {tgt : Nat} (hd : decode cc pc = .ok (.ifCond .lt off, 3)) (ht : (pc : Int) + off = (tgt : Int)) (kt : x < 0 → G EX l cc nL Ts own ret R γ P AF QQ cells slots tgt lv st I L) (kf : ¬ x < 0 → G EX l cc nL Ts own ret R γ P AF QQ cells slots (pc + 3) lv st I L) : G EX l cc nL Ts own ret R γ P AF QQ cells slots pc lv (.int x :: st) I L :=
  fun p e s m args below meth c K H locs ls hS hP hD hl => lv_if_lt K.1.1 K.1.2.1 hd ht (fun h => kt h p e s m args below meth c K H locs ls hS hP hD hl) (fun h => kf h p e s m args below meth c K H locs ls hS hP hD hl)
theorem g_if_ge {x : Int32} {off : Int} {tgt : Nat} (hd : decode cc pc = .ok (.ifCond .ge off, 3)) (ht : (pc : Int) + off = (tgt : Int)) (kt : 0 ≤ x → G EX l cc nL Ts own ret R γ P AF QQ cells slots tgt lv st I L) (kf : ¬ 0 ≤ x → G EX l cc nL Ts own ret R γ P AF QQ cells slots (pc + 3) lv st I L) : G EX l cc nL Ts own ret R γ P AF QQ cells slots pc lv (.int x :: st) I L :=
  fun p e s m args below meth c K H locs ls hS hP hD hl => lv_if_ge K.1.1 K.1.2.1 hd ht (fun h => kt h p e s m args below meth c K H locs ls hS hP hD hl) (fun h => kf h p e s m args below meth c K H locs ls hS hP hD hl)
theorem g_if_le {x : Int32} {off : Int} {tgt : Nat} (hd : decode cc pc = .ok (.ifCond .le off, 3)) (ht : (pc : Int) + off = (tgt : Int)) (kt : x ≤ 0 → G EX l cc nL Ts own ret R γ P AF QQ cells slots tgt lv st I L) (kf : ¬ x ≤ 0 → G EX l cc nL Ts own ret R γ P AF QQ cells slots (pc + 3) lv st I L) : G EX l cc nL Ts own ret R γ P AF QQ cells slots pc lv (.int x :: st) I L :=
  fun p e s m args below meth c K H locs ls hS hP hD hl => lv_if_le K.1.1 K.1.2.1 hd ht (fun h => kt h p e s m args below meth c K H locs ls hS hP hD hl) (fun h => kf h p e s m args below meth c K H locs ls hS hP hD hl)
theorem g_if_gt {x : Int32} {off : Int} {tgt : Nat} (hd : decode cc pc = .ok (.ifCond .gt off, 3)) (ht : (pc : Int) + off = (tgt : Int)) (kt : 0 < x → G EX l cc nL Ts own ret R γ P AF QQ cells slots tgt lv st I L) (kf : ¬ 0 < x → G EX l cc nL Ts own ret R γ P AF QQ cells slots (pc + 3) lv st I L) : G EX l cc nL Ts own ret R γ P AF QQ cells slots pc lv (.int x :: st) I L :=
  fun p e s m args below meth c K H locs ls hS hP hD hl => lv_if_gt K.1.1 K.1.2.1 hd ht (fun h => kt h p e s m args below meth c K H locs ls hS hP hD hl) (fun h => kf h p e s m args below meth c K H locs ls hS hP hD hl)
theorem g_ic_eq {x y : Int32} {off : Int} {tgt : Nat} (hd : decode cc pc = .ok (.if_icmp .eq off, 3)) (ht : (pc : Int) + off = (tgt : Int)) (kt : x = y → G EX l cc nL Ts own ret R γ P AF QQ cells slots tgt lv st I L) (kf : ¬ x = y → G EX l cc nL Ts own ret R γ P AF QQ cells slots (pc + 3) lv st I L) : G EX l cc nL Ts own ret R γ P AF QQ cells slots pc lv (.int y :: .int x :: st) I L :=
  fun p e s m args below meth c K H locs ls hS hP hD hl => lv_icmp_eq K.1.1 K.1.2.1 hd ht (fun h => kt h p e s m args below meth c K H locs ls hS hP hD hl) (fun h => kf h p e s m args below meth c K H locs ls hS hP hD hl)
theorem g_ic_ne {x y : Int32} {off : Int} {tgt : Nat} (hd : decode cc pc = .ok (.if_icmp .ne off, 3)) (ht : (pc : Int) + off = (tgt : Int)) (kt : ¬ x = y → G EX l cc nL Ts own ret R γ P AF QQ cells slots tgt lv st I L) (kf : x = y → G EX l cc nL Ts own ret R γ P AF QQ cells slots (pc + 3) lv st I L) : G EX l cc nL Ts own ret R γ P AF QQ cells slots pc lv (.int y :: .int x :: st) I L :=
  fun p e s m args below meth c K H locs ls hS hP hD hl => lv_icmp_ne K.1.1 K.1.2.1 hd ht (fun h => kt h p e s m args below meth c K H locs ls hS hP hD hl) (fun h => kf h p e s m args below meth c K H locs ls hS hP hD hl)
theorem g_ic_lt {x y : Int32} {off : Int} {tgt : Nat} (hd : decode cc pc = .ok (.if_icmp .lt off, 3)) (ht : (pc : Int) + off = (tgt : Int)) (kt : x < y → G EX l cc nL Ts own ret R γ P AF QQ cells slots tgt lv st I L) (kf : ¬ x < y → G EX l cc nL Ts own ret R γ P AF QQ cells slots (pc + 3) lv st I L) : G EX l cc nL Ts own ret R γ P AF QQ cells slots pc lv (.int y :: .int x :: st) I L :=
  fun p e s m args below meth c K H locs ls hS hP hD hl => lv_icmp_lt K.1.1 K.1.2.1 hd ht (fun h => kt h p e s m args below meth c K H locs ls hS hP hD hl) (fun h => kf h p e s m args below meth c K H locs ls hS hP hD hl)
theorem g_ic_ge {x y : Int32} {off : Int} {tgt : Nat} (hd : decode cc pc = .ok (.if_icmp .ge off, 3)) (ht : (pc : Int) + off = (tgt : Int)) (kt : y ≤ x → G EX l cc nL Ts own ret R γ P AF QQ cells slots tgt lv st I L) (kf : ¬ y ≤ x → G EX l cc nL Ts own ret R γ P AF QQ cells slots (pc + 3) lv st I L) : G EX l cc nL Ts own ret R γ P AF QQ cells slots pc lv (.int y :: .int x :: st) I L :=
  fun p e s m args below meth c K H locs ls hS hP hD hl => lv_icmp_ge K.1.1 K.1.2.1 hd ht (fun h => kt h p e s m args below meth c K H locs ls hS hP hD hl) (fun h => kf h p e s m args below meth c K H locs ls hS hP hD hl)
theorem g_ic_gt {x y : Int32} {off : Int} {tgt : Nat} (hd : decode cc pc = .ok (.if_icmp .gt off, 3)) (ht : (pc : Int) + off = (tgt : Int)) (kt : y < x → G EX l cc nL Ts own ret R γ P AF QQ cells slots tgt lv st I L) (kf : ¬ y < x → G EX l cc nL Ts own ret R γ P AF QQ cells slots (pc + 3) lv st I L) : G EX l cc nL Ts own ret R γ P AF QQ cells slots pc lv (.int y :: .int x :: st) I L :=
  fun p e s m args below meth c K H locs ls hS hP hD hl => lv_icmp_gt K.1.1 K.1.2.1 hd ht (fun h => kt h p e s m args below meth c K H locs ls hS hP hD hl) (fun h => kf h p e s m args below meth c K H locs ls hS hP hD hl)
theorem g_ic_le {x y : Int32} {off : Int} {tgt : Nat} (hd : decode cc pc = .ok (.if_icmp .le off, 3)) (ht : (pc : Int) + off = (tgt : Int)) (kt : x ≤ y → G EX l cc nL Ts own ret R γ P AF QQ cells slots tgt lv st I L) (kf : ¬ x ≤ y → G EX l cc nL Ts own ret R γ P AF QQ cells slots (pc + 3) lv st I L) : G EX l cc nL Ts own ret R γ P AF QQ cells slots pc lv (.int y :: .int x :: st) I L :=
  fun p e s m args below meth c K H locs ls hS hP hD hl => lv_icmp_le K.1.1 K.1.2.1 hd ht (fun h => kt h p e s m args below meth c K H locs ls hS hP hD hl) (fun h => kf h p e s m args below meth c K H locs ls hS hP hD hl)
end Rows
section Rows2
variable {EX : State → Code → Prop} {l : Launch} {cc : ByteArray} {nL : Nat} {Ts : List Cond} {own : String} {ret : Option FieldType} {R : Room} {γ : Gm} {P : PT} {AF : State → Nat → Prop} {QQ : List Frame → Array Value → State → State → Prop} {cells slots : Nat} {pc : Nat} {lv : List (Nat × Value)} {st : List Value} {I : IT} {L : LT}
/-! fields -/
theorem g_get {C ref : String} {T : u_T} {N ci index : Nat} {fs : List Value} {v : Value} (k j : Nat) (hk : k < 71) (he : ee γ I L P k = .inr (ci, fs)) (hin : ∀ w ∈ u_ws C T N, w ∈ Ts) (hc : vwCl[ci]? = some (C, T, N)) (hj : j < N) (hlink : (Cond.fieldLink own index ref (T j).2.1 (T j).2.2.1) ∈ Ts) (hsame : ref = (T j).1) (hv : fs[j]? = some v) (hd : decode cc pc = .ok (.getfield index, 3))
    (kk : G EX l cc nL Ts own ret R γ P AF QQ cells slots (pc + 3) lv (v :: st) I L) : G EX l cc nL Ts own ret R γ P AF QQ cells slots pc lv (.ref (γ.2.2 k) :: st) I L :=
  fun p e s m args below meth c K H locs ls hS hP hD hl => va_get (ws := wd γ I L P) (tys := tyl γ) K.1.1 K.1.2.1 K.1.2.2.2.2 hin K.1.2.2.2.1 K.2.1.1 hP k (by rw [wl_get hk, he]) hc j hj (K.1.2.2.2.2 _ hlink) (fun x h => by rw [hsame]; exact h) hv hd (kk p e s m args below meth c K H locs ls hS hP hD hl)
theorem g_getN {C ref host : String} {T : u_T} {N ci index : Nat} {fs : List Value} {v : Value} (k j : Nat) (hk : k < 71) (he : ee γ I L P k = .inr (ci, fs)) (hin : ∀ w ∈ u_ws C T N, w ∈ Ts) (hc : vwCl[ci]? = some (C, T, N)) (hj : j < N) (hlink : (own, index, ref, (T j).2.1, (T j).2.2.1, host) ∈ nwF) (hsame : ref = (T j).1) (hv : fs[j]? = some v) (hd : decode cc pc = .ok (.getfield index, 3))
    (kk : G EX l cc nL Ts own ret R γ P AF QQ cells slots (pc + 3) lv (v :: st) I L) : G EX l cc nL Ts own ret R γ P AF QQ cells slots pc lv (.ref (γ.2.2 k) :: st) I L :=
  fun p e s m args below meth c K H locs ls hS hP hD hl => va_getN (ws := wd γ I L P) (tys := tyl γ) (host := host) K.1.1 K.1.2.1 K.1.2.2.2.2 hin K.1.2.2.2.1 K.2.1.1 hP k (by rw [wl_get hk, he]) hc j hj (va_Nw.use rfl (K.2.1.2.1 _ hlink)) (fun x h => by rw [hsame]; exact h) hv hd (kk p e s m args below meth c K H locs ls hS hP hD hl)
theorem g_put {C ref : String} {T : u_T} {N ci index : Nat} {fs : List Value} {v : Value} {ty : FieldType} (ty0 : Nat → FieldType) (k j : Nat) (f : Nat → Int32) (hk : k < 71) (he : ee γ I L P k = .inr (ci, fs)) (hin : ∀ w ∈ u_ws C T N, w ∈ Ts) (hty : ∀ k, k < N → parseFieldDescriptor (T k).2.2.1 = some (ty0 k)) (hnm : ∀ a, a < N → ∀ b, b < N → a ≠ b → (T a).2.1 ≠ (T b).2.1) (hc : vwCl[ci]? = some (C, T, N)) (hj : j < N) (hlink : (Cond.fieldLink own index ref (T j).2.1 (T j).2.2.1) ∈ Ts) (hsame : ref = (T j).1) (hfin : (T j).2.2.2 = false) (hds : parseFieldDescriptor (T j).2.2.1 = some ty) (hn : narrow ty v = v) (hfit : fits ty v = true) (hl9 : j < fs.length) (hd : decode cc pc = .ok (.putfield index, 3))
    (hE : .inr (ci, fs.set j v) = ee γ (va_up I k f) L P k)
    (kk : G EX l cc nL Ts own ret R γ P AF QQ cells slots (pc + 3) lv st (va_up I k f) L) : G EX l cc nL Ts own ret R γ P AF QQ cells slots pc lv (v :: .ref (γ.2.2 k) :: st) I L :=
  fun p e s m args below meth c K H locs ls hS hP hD hl => va_put (ws := wd γ I L P) (tys := tyl γ) (H0 := s.heap) (A := AF s) K.1.1 K.1.2.1 K.1.2.2.2.2 hin ty0 hty hnm K.1.2.2.2.1 K.2.1.1 hP hD hS k (by rw [wl_get hk, he]) hc j hj (K.1.2.2.2.2 _ hlink) (fun x h => by rw [hsame]; exact h) hfin hds hn hfit hl9 hd (fun H1 locs1 hP hD hS => by
    rw [wl_set, ee_upI hE] at hP hD
    exact kk p e s m args below meth c K H1 locs1 ls hS hP hD hl)
theorem g_putN {C ref host : String} {T : u_T} {N ci index : Nat} {fs : List Value} {v : Value} {ty : FieldType} (ty0 : Nat → FieldType) (k j : Nat) (f : Nat → Int32) (hk : k < 71) (he : ee γ I L P k = .inr (ci, fs)) (hin : ∀ w ∈ u_ws C T N, w ∈ Ts) (hty : ∀ k, k < N → parseFieldDescriptor (T k).2.2.1 = some (ty0 k)) (hnm : ∀ a, a < N → ∀ b, b < N → a ≠ b → (T a).2.1 ≠ (T b).2.1) (hc : vwCl[ci]? = some (C, T, N)) (hj : j < N) (hlink : (own, index, ref, (T j).2.1, (T j).2.2.1, host) ∈ nwF) (hsame : ref = (T j).1) (hfin : (T j).2.2.2 = false) (hds : parseFieldDescriptor (T j).2.2.1 = some ty) (hn : narrow ty v = v) (hfit : fits ty v = true) (hl9 : j < fs.length) (hd : decode cc pc = .ok (.putfield index, 3))
    (hE : .inr (ci, fs.set j v) = ee γ (va_up I k f) L P k)
    (kk : G EX l cc nL Ts own ret R γ P AF QQ cells slots (pc + 3) lv st (va_up I k f) L) : G EX l cc nL Ts own ret R γ P AF QQ cells slots pc lv (v :: .ref (γ.2.2 k) :: st) I L :=
  fun p e s m args below meth c K H locs ls hS hP hD hl => va_putN (ws := wd γ I L P) (tys := tyl γ) (H0 := s.heap) (A := AF s) (host := host) K.1.1 K.1.2.1 K.1.2.2.2.2 hin ty0 hty hnm K.1.2.2.2.1 K.2.1.1 hP hD hS k (by rw [wl_get hk, he]) hc j hj (va_Nw.use rfl (K.2.1.2.1 _ hlink)) (fun x h => by rw [hsame]; exact h) hfin hds hn hfit hl9 hd (fun H1 locs1 hP hD hS => by
    rw [wl_set, ee_upI hE] at hP hD
    exact kk p e s m args below meth c K H1 locs1 ls hS hP hD hl)
/-! arrays -/
theorem ln_lt (k : Nat) : ln k < 2 ^ 31 := by
  unfold ln
  repeat' split
  all_goals decide
theorem g_iald {v : Int32} (k i : Nat) (h12 : 12 ≤ k) (hk : k < 71) (hi : i < ln k) (hv : I k i = v) (hd : decode cc pc = .ok (.iaload, 1))
    (kk : G EX l cc nL Ts own ret R γ P AF QQ cells slots (pc + 1) lv (.int v :: st) I L) : G EX l cc nL Ts own ret R γ P AF QQ cells slots pc lv (.int (nI i) :: .ref (γ.2.2 k) :: st) I L := by
  intro p e s m args below meth c K H locs ls hS hP hD hl
  refine va_iald (ws := wd γ I L P) (tys := tyl γ) K.1.1 K.1.2.1 K.2.1.1 hP k 0 (by rw [wl_get hk, ee_int h12]) rfl (vp_in_nI hi (ln_lt k)) hd ?_
  rw [nI_clamp (Nat.lt_trans hi (ln_lt k)), hv]
  exact kk p e s m args below meth c K H locs ls hS hP hD hl
theorem g_iast {x : Int32} (k i : Nat) (h12 : 12 ≤ k) (hk : k < 71) (hi : i < ln k) (hd : decode cc pc = .ok (.iastore, 1))
    (kk : G EX l cc nL Ts own ret R γ P AF QQ cells slots (pc + 1) lv st (va_up I k (upd (I k) i x)) L) : G EX l cc nL Ts own ret R γ P AF QQ cells slots pc lv (.int x :: .int (nI i) :: .ref (γ.2.2 k) :: st) I L := by
  intro p e s m args below meth c K H locs ls hS hP hD hl
  refine va_iast (ws := wd γ I L P) (tys := tyl γ) K.1.1 K.1.2.1 K.2.1.1 hP hD hS k 0 (by rw [wl_get hk, ee_int h12]) rfl (vp_in_nI hi (ln_lt k)) hd (fun H1 locs1 hP hD hS => ?_)
  rw [nI_clamp (Nat.lt_trans hi (ln_lt k)), wl_set, ee_upI (by rw [ee_int h12, va_up_self])] at hP hD
  exact kk p e s m args below meth c K H1 locs1 ls hS hP hD hl
theorem g_lald {v : Int64} {n : Nat} (k i : Nat) (hk : k < 71) (he : ee γ I L P k = .inl (γ.2.1 2, n, .inr (.inl (L k)))) (hn : n < 2 ^ 31) (hi : i < n) (hv : L k i = v) (hd : decode cc pc = .ok (.laload, 1))
    (kk : G EX l cc nL Ts own ret R γ P AF QQ cells slots (pc + 1) lv (.long v :: st) I L) : G EX l cc nL Ts own ret R γ P AF QQ cells slots pc lv (.int (nI i) :: .ref (γ.2.2 k) :: st) I L := by
  intro p e s m args below meth c K H locs ls hS hP hD hl
  refine va_lald (ws := wd γ I L P) (tys := tyl γ) K.1.1 K.1.2.1 K.2.1.1 hP k 2 (by rw [wl_get hk, he]) rfl (vp_in_nI hi hn) hd ?_
  rw [nI_clamp (Nat.lt_trans hi hn), hv]
  exact kk p e s m args below meth c K H locs ls hS hP hD hl
theorem g_last {x : Int64} {n : Nat} (k i : Nat) (hk : k < 71) (he : ∀ L' : LT, ee γ I L' P k = .inl (γ.2.1 2, n, .inr (.inl (L' k)))) (hn : n < 2 ^ 31) (hi : i < n) (hd : decode cc pc = .ok (.lastore, 1))
    (kk : G EX l cc nL Ts own ret R γ P AF QQ cells slots (pc + 1) lv st I (va_up L k (vp_updL (L k) i x))) : G EX l cc nL Ts own ret R γ P AF QQ cells slots pc lv (.long x :: .int (nI i) :: .ref (γ.2.2 k) :: st) I L := by
  intro p e s m args below meth c K H locs ls hS hP hD hl
  refine va_last (ws := wd γ I L P) (tys := tyl γ) K.1.1 K.1.2.1 K.2.1.1 hP hD hS k 2 (by rw [wl_get hk, he]) rfl (vp_in_nI hi hn) hd (fun H1 locs1 hP hD hS => ?_)
  rw [nI_clamp (Nat.lt_trans hi hn), wl_set, ee_upL (by rw [he, va_up_self])] at hP hD
  exact kk p e s m args below meth c K H1 locs1 ls hS hP hD hl
theorem g_aald {n q : Nat} {f : Nat → Option Nat} (k i : Nat) (hk : k < 71) (he : ee γ I L P k = .inl (γ.2.1 1, n, .inr (.inr (.inr (.inr f))))) (hn : n < 2 ^ 31) (hi : i < n) (hf : f i = some q) (hd : decode cc pc = .ok (.aaload, 1))
    (kk : G EX l cc nL Ts own ret R γ P AF QQ cells slots (pc + 1) lv (.ref q :: st) I L) : G EX l cc nL Ts own ret R γ P AF QQ cells slots pc lv (.int (nI i) :: .ref (γ.2.2 k) :: st) I L := by
  intro p e s m args below meth c K H locs ls hS hP hD hl
  have hin : vp_in (nI i) n := vp_in_nI hi hn
  have hlt : (nI i).toNatClampNeg < n := Nat.not_le.mp fun q => hin (Or.inr q)
  refine W.aald (v := .ref q) (ty := .array .int) K.1.1 K.1.2.1 (hP k _ (by rw [wl_get hk, he])) ((K.2.1.1.2 1 _ rfl).1 n (fun j => va_rf (f j))) rfl (fun q => by cases q) (by show ¬ (nI i < 0 ∨ (arrV _ _ _).slots.size ≤ _); rw [arrV_size]; exact hin) (by show (arrV _ _ _).slots[_]? = _; rw [arrV_read _ _ hlt, nI_clamp (Nat.lt_trans hi hn), hf]; rfl) rfl rfl hd ?_
  exact kk p e s m args below meth c K H locs ls hS hP hD hl
theorem g_alen {k : Nat} (h12 : 12 ≤ k) (hk : k < 71) (hd : decode cc pc = .ok (.arraylength, 1))
    (kk : G EX l cc nL Ts own ret R γ P AF QQ cells slots (pc + 1) lv (.int (nI (ln k)) :: st) I L) : G EX l cc nL Ts own ret R γ P AF QQ cells slots pc lv (.ref (γ.2.2 k) :: st) I L := by
  intro p e s m args below meth c K H locs ls hS hP hD hl
  exact va_alen (ws := wd γ I L P) (tys := tyl γ) (ty := .int) K.1.1 K.1.2.1 K.2.1.1 hP k 0 (by rw [wl_get hk, ee_int h12]) rfl rfl hd (kk p e s m args below meth c K H locs ls hS hP hD hl)
/-! calls -/
def Rn (EX : State → Code → Prop) (l : Launch) (cc : ByteArray) (nL : Nat) (Ts : List Cond) (own : String) (ret : Option FieldType) (R : Room) (γ : Gm) (P : PT) (AF : State → Nat → Prop) (cells slots : Nat) (pc : Nat) (lv : List (Nat × Value)) (stk st : List Value) (I : IT) (L : LT) (Qc : Nat → Array Value → State → Outcome → State → Prop) (av : List Value) : Prop :=
  ∀ (p : Program) (e : Env) (s : State) (m : MethodId) (args : Array Value) (below : List Frame) (meth : Method) (c : Code), Cx EX cc nL Ts own ret γ AF p s m args meth c →
    ∀ (H : Heap) (locs : List Loc) (ls : Array Slot), va_S (AF s) s.heap H locs → va_P γ.1 vwCl (wd γ I L P) H → va_D (AF s) (wd γ I L P) → lv_has ls nL lv →
      va_Run p l e R s m args below meth c H locs cells slots 0 0 (F0 m pc ls stk) st (Qc H.size av.toArray) (AA γ H.size)
theorem pre_at {p : Program} {s U : State} {m : MethodId} {args : Array Value} {meth : Method} {c : Code} {H : Heap} {locs : List Loc} {av : List Value} (K : Cx EX cc nL Ts own ret γ AF p s m args meth c) (hS : va_S (AF s) s.heap H locs) (hP : va_P γ.1 vwCl (wd γ I L P) H) (hD : va_D (AF s) (wd γ I L P)) (hU : U.heap = H) (hW : s.WarmedH U.vm) : Pre γ H.size av I L P av.toArray U :=
  ⟨rfl, by rw [hU], K.2.1.warm hW (AA_in hD K.2.2.1 hS.1) (fun a h1 h2 => by rw [hU]; exact hS.2.1 a h1 h2), by rw [hU]; exact hP, hD.weaken (fun _ _ _ _ => trivial)⟩
theorem r_V {C : String} {T : u_T} {N ci index maxL d : Nat} {fs As stk : List Value} {y : MethodName} {bytes : ByteArray} {rt : Option FieldType} {ws ws' : List Cond} {Qc : Nat → Array Value → State → Outcome → State → Prop} (k : Nat) (hk : k < 71) (he : ee γ I L P k = .inr (ci, fs)) (hc : vwCl[ci]? = some (C, T, N)) (hM : ∀ sz, Met l y ws (rmd d) (Pre γ sz (.ref (γ.2.2 k) :: As) I L P) (Qc sz) 0 0 (AA γ sz)) (hG : GoodIn Ts (wsV own index C y ws)) (hw : ws = .code y bytes maxL rt :: ws')
    (hy : y.cls = C ∧ y.cls ≠ "java/lang/invoke/MethodHandle" ∧ y.cls ≠ "java/lang/invoke/VarHandle" ∧ (parseMethodDescriptor y.desc).map (fun d => d.parameters.length) = some As.length) (hR : d + 1 ≤ R.frames ∧ 8 + (maxL + 11) + 40 * d ≤ R.locals) (hst : stk = As.reverse ++ .ref (γ.2.2 k) :: st) (hcat : (st.map fun v => v.category).sum ≤ 8) (hd : decode cc pc = .ok (.invokevirtual index, 3)) (hcs : cells ≤ R.cells ∧ slots ≤ R.slots) :
    Rn EX l cc nL Ts own ret R γ P AF cells slots pc lv stk st I L Qc (.ref (γ.2.2 k) :: As) := by
  intro p e s m args below meth c K H locs ls hS hP hD hl
  exact va_runV (As := As) (rest := st) K.1 (hM H.size) (cwV As.length K.1.2.2.2.2 hG hw rfl rfl hy hR) ⟨Pre.blind, va_recv K.2.1.1 hP hc (q0 := k) (by rw [wl_get hk, he]), fun U hU hW => pre_at K hS hP hD hU hW⟩ rfl rfl hl.1 hst (lv_room hcat) hd hcs
theorem r_S {index maxL d : Nat} {As stk : List Value} {y : MethodName} {bytes : ByteArray} {rt : Option FieldType} {ws ws' : List Cond} {Qc : Nat → Array Value → State → Outcome → State → Prop} (hM : ∀ sz, Met l y ws (rmd d) (Pre γ sz As I L P) (Qc sz) 0 0 (AA γ sz)) (hG : GoodIn Ts (va_wsS own index y ws)) (hw : ws = .code y bytes maxL rt :: ws')
    (hy : y.cls ≠ "java/lang/invoke/MethodHandle" ∧ y.cls ≠ "java/lang/invoke/VarHandle" ∧ (parseMethodDescriptor y.desc).map (fun d => d.parameters.length) = some As.length) (hR : d + 1 ≤ R.frames ∧ 8 + (maxL + 11) + 40 * d ≤ R.locals) (hst : stk = As.reverse ++ st) (hcat : (st.map fun v => v.category).sum ≤ 8) (hd : decode cc pc = .ok (.invokestatic index, 3)) (hcs : cells ≤ R.cells ∧ slots ≤ R.slots) :
    Rn EX l cc nL Ts own ret R γ P AF cells slots pc lv stk st I L Qc As := by
  intro p e s m args below meth c K H locs ls hS hP hD hl
  have ok : ∀ w ∈ va_wsS own index y ws, w.before args s = true := fun w h => K.1.2.2.2.2 w (hG w h).1
  exact va_runS (As := As) (rest := st) K.1 (hM H.size) ⟨callB_of As.length K.1.2.2.2.2 (fun w h => hG w (by unfold va_wsS; exact List.mem_append_right _ h)) hw rfl rfl (ok _ (by simp [va_wsS])) (ok _ (by simp [va_wsS])) hy hR, ok _ (by simp [va_wsS])⟩ ⟨Pre.blind, fun U hU hW => pre_at K hS hP hD hU hW⟩ rfl rfl hl.1 hst (lv_room hcat) hd hcs
theorem r_VN {C host : String} {T : u_T} {N ci index maxL d : Nat} {fs As stk : List Value} {y : MethodName} {bytes : ByteArray} {rt : Option FieldType} {ws ws' : List Cond} {Qc : Nat → Array Value → State → Outcome → State → Prop} (k : Nat) (hk : k < 71) (he : ee γ I L P k = .inr (ci, fs)) (hc : vwCl[ci]? = some (C, T, N)) (hM : ∀ sz, Met l y ws (rmd d) (Pre γ sz (.ref (γ.2.2 k) :: As) I L P) (Qc sz) 0 0 (AA γ sz)) (hG : GoodIn Ts ws) (hw : ws = .code y bytes maxL rt :: ws') (hl9 : (own, index, y, host) ∈ nwM) (hx1 : Cond.instanceMethod y ∈ Ts) (hx2 : Cond.selects C y y ∈ Ts) (hini : Cond.initialized y.cls ∈ Ts)
    (hy : y.cls ≠ "java/lang/invoke/MethodHandle" ∧ y.cls ≠ "java/lang/invoke/VarHandle" ∧ (parseMethodDescriptor y.desc).map (fun d => d.parameters.length) = some As.length) (hR : d + 1 ≤ R.frames ∧ 8 + (maxL + 11) + 40 * d ≤ R.locals) (hst : stk = As.reverse ++ .ref (γ.2.2 k) :: st) (hcat : (st.map fun v => v.category).sum ≤ 8) (hd : decode cc pc = .ok (.invokevirtual index, 3)) (hcs : cells ≤ R.cells ∧ slots ≤ R.slots) :
    Rn EX l cc nL Ts own ret R γ P AF cells slots pc lv stk st I L Qc (.ref (γ.2.2 k) :: As) := by
  intro p e s m args below meth c K H locs ls hS hP hD hl
  exact va_runVN (As := As) (rest := st) K.1 (hM H.size) ⟨va_cnB (host := host) As.length K.1.2.2.2.2 hG hw rfl rfl (K.2.1.2.2.1 _ hl9) (K.1.2.2.2.2 _ hini) hy hR, K.1.2.2.2.2 _ hx1, K.1.2.2.2.2 _ hx2⟩ ⟨Pre.blind, va_recv K.2.1.1 hP hc (q0 := k) (by rw [wl_get hk, he]), fun U hU hW => pre_at K hS hP hD hU hW⟩ rfl rfl hl.1 hst (lv_room hcat) hd hcs
theorem r_SN {host : String} {index maxL d : Nat} {As stk : List Value} {y : MethodName} {bytes : ByteArray} {rt : Option FieldType} {ws ws' : List Cond} {Qc : Nat → Array Value → State → Outcome → State → Prop} (hM : ∀ sz, Met l y ws (rmd d) (Pre γ sz As I L P) (Qc sz) 0 0 (AA γ sz)) (hG : GoodIn Ts ws) (hw : ws = .code y bytes maxL rt :: ws') (hl9 : (own, index, y, host) ∈ nwM) (hx1 : Cond.static y ∈ Ts) (hini : Cond.initialized y.cls ∈ Ts)
    (hy : y.cls ≠ "java/lang/invoke/MethodHandle" ∧ y.cls ≠ "java/lang/invoke/VarHandle" ∧ (parseMethodDescriptor y.desc).map (fun d => d.parameters.length) = some As.length) (hR : d + 1 ≤ R.frames ∧ 8 + (maxL + 11) + 40 * d ≤ R.locals) (hst : stk = As.reverse ++ st) (hcat : (st.map fun v => v.category).sum ≤ 8) (hd : decode cc pc = .ok (.invokestatic index, 3)) (hcs : cells ≤ R.cells ∧ slots ≤ R.slots) :
    Rn EX l cc nL Ts own ret R γ P AF cells slots pc lv stk st I L Qc As := by
  intro p e s m args below meth c K H locs ls hS hP hD hl
  exact va_runSN (As := As) (rest := st) K.1 (hM H.size) ⟨va_cnB (host := host) As.length K.1.2.2.2.2 hG hw rfl rfl (K.2.1.2.2.1 _ hl9) (K.1.2.2.2.2 _ hini) hy hR, K.1.2.2.2.2 _ hx1, trivial⟩ ⟨Pre.blind, fun U hU hW => pre_at K hS hP hD hU hW⟩ rfl rfl hl.1 hst (lv_room hcat) hd hcs
theorem g_ci {stk av : List Value} {post : Int32 → IT → LT → Prop} (hr : Rn EX l cc nL Ts own ret R γ P AF cells slots pc lv stk st I L (fun sz => va_Qi (fun r (u : ST) => post r u.1 u.2) (fun u t => WP γ (AA γ sz) u.1 u.2 P t.heap) (AA γ sz)) av)
    (kk : ∀ r I' L', post r I' L' → G EX l cc nL Ts own ret R γ P AF QQ cells slots (pc + 3) lv (.int r :: st) I' L') : G EX l cc nL Ts own ret R γ P AF QQ cells slots pc lv stk I L := by
  intro p e s m args below meth c K H locs ls hS hP hD hl
  have hAA := AA_in hD K.2.2.1 hS.1
  refine va_calli (hr p e s m args below meth c K H locs ls hS hP hD hl) hS (fun q _ h => hAA q h) hAA (fun r u t H1 locs1 ht hvm hp hB hz hk hS1 => ?_)
  obtain ⟨hP1, hD1⟩ := hB
  rw [ht] at hP1
  exact kk r u.1 u.2 hp p e s m args below meth c K H1 locs1 ls hS1 hP1 (hD1.weaken (fun _ q _ h => hAA q.1 h)) hl
theorem g_cv {stk av : List Value} {post : IT → LT → Prop} (hr : Rn EX l cc nL Ts own ret R γ P AF cells slots pc lv stk st I L (fun sz => va_Qv (fun (u : ST) => post u.1 u.2) (fun u t => WP γ (AA γ sz) u.1 u.2 P t.heap) (AA γ sz)) av)
    (kk : ∀ I' L', post I' L' → G EX l cc nL Ts own ret R γ P AF QQ cells slots (pc + 3) lv st I' L') : G EX l cc nL Ts own ret R γ P AF QQ cells slots pc lv stk I L := by
  intro p e s m args below meth c K H locs ls hS hP hD hl
  have hAA := AA_in hD K.2.2.1 hS.1
  refine va_callv (hr p e s m args below meth c K H locs ls hS hP hD hl) hS (fun q _ h => hAA q h) hAA (fun u t H1 locs1 ht hvm hp hB hz hk hS1 => ?_)
  obtain ⟨hP1, hD1⟩ := hB
  rw [ht] at hP1
  exact kk u.1 u.2 hp p e s m args below meth c K H1 locs1 ls hS1 hP1 (hD1.weaken (fun _ q _ h => hAA q.1 h)) hl
theorem g_cf {stk av : List Value} {post : UInt32 → IT → LT → Prop} (hr : Rn EX l cc nL Ts own ret R γ P AF cells slots pc lv stk st I L (fun sz => va_Qf (fun r (u : ST) => post r u.1 u.2) (fun u t => WP γ (AA γ sz) u.1 u.2 P t.heap) (AA γ sz)) av)
    (kk : ∀ r I' L', post r I' L' → G EX l cc nL Ts own ret R γ P AF QQ cells slots (pc + 3) lv (.float r :: st) I' L') : G EX l cc nL Ts own ret R γ P AF QQ cells slots pc lv stk I L := by
  intro p e s m args below meth c K H locs ls hS hP hD hl
  have hAA := AA_in hD K.2.2.1 hS.1
  refine va_callf (hr p e s m args below meth c K H locs ls hS hP hD hl) hS (fun q _ h => hAA q h) hAA (fun r u t H1 locs1 ht hvm hp hB hz hk hS1 => ?_)
  obtain ⟨hP1, hD1⟩ := hB
  rw [ht] at hP1
  exact kk r u.1 u.2 hp p e s m args below meth c K H1 locs1 ls hS1 hP1 (hD1.weaken (fun _ q _ h => hAA q.1 h)) hl
/-! ends -/
theorem g_iret {post : Int32 → IT → LT → Prop} {r : Int32} (hd : decode cc pc = .ok (.ireturn, 1)) (hp : post r I L) : G EX l cc nL Ts own (some .int) R γ P (AE γ) (Qi γ P post) 0 0 pc lv [.int r] I L :=
  fun p e s m args below meth c K H locs ls hS hP hD hl => W.iret K.1.1 K.1.2.1 K.2.2.2.1 (fun t ht hW => ⟨⟨r, (I, L), rfl, hp, by rw [ht]; exact ⟨hP, hD⟩⟩, hS.F ht⟩) hS.2.2 hd K.2.2.2.2.1
theorem g_zret {post : Int32 → IT → LT → Prop} {r : Int32} (hn : narrow .boolean (.int r) = .int r) (hd : decode cc pc = .ok (.ireturn, 1)) (hp : post r I L) : G EX l cc nL Ts own (some .boolean) R γ P (AE γ) (Qi γ P post) 0 0 pc lv [.int r] I L :=
  fun p e s m args below meth c K H locs ls hS hP hD hl => W.zret K.1.1 K.1.2.1 K.2.2.2.1 hn (fun t ht hW => ⟨⟨r, (I, L), rfl, hp, by rw [ht]; exact ⟨hP, hD⟩⟩, hS.F ht⟩) hS.2.2 hd K.2.2.2.2.1
theorem g_vret {post : IT → LT → Prop} (hd : decode cc pc = .ok (.return_, 1)) (hp : post I L) : G EX l cc nL Ts own none R γ P (AE γ) (Qv γ P post) 0 0 pc lv [] I L :=
  fun p e s m args below meth c K H locs ls hS hP hD hl => W.vret K.1.1 K.1.2.1 K.2.2.2.1 (fun t ht hW => ⟨⟨(I, L), rfl, hp, by rw [ht]; exact ⟨hP, hD⟩⟩, hS.F ht⟩) hS.2.2 hd K.2.2.2.2.1
end Rows2
/-- a boolean as an int -/
def bi (b : Bool) : Int32 := if b then 1 else 0
theorem bi_t : bi true = 1 := rfl
theorem bi_f : bi false = 0 := rfl
theorem bi_nar (b : Bool) : narrow .boolean (.int (bi b)) = .int (bi b) := by cases b <;> rfl
theorem bi_eq {b : Bool} (h : bi b = 0) : b = false := by
  cases b
  · rfl
  · exact absurd h (by decide)
theorem bi_ne {b : Bool} (h : ¬ bi b = 0) : b = true := by
  cases b
  · exact absurd rfl h
  · rfl
section Rows3
variable {EX : State → Code → Prop} {l : Launch} {cc : ByteArray} {nL : Nat} {Ts : List Cond} {own : String} {ret : Option FieldType} {R : Room} {γ : Gm} {P : PT} {AF : State → Nat → Prop} {QQ : List Frame → Array Value → State → State → Prop} {cells slots : Nat} {pc : Nat} {lv : List (Nat × Value)} {st : List Value} {I : IT} {L : LT}
/-! branches over known numbers, and over booleans -/
theorem gn_eq {a b : Nat} {off : Int} {tgt : Nat} (hd : decode cc pc = .ok (.if_icmp .eq off, 3)) (ht : (pc : Int) + off = (tgt : Int)) (ha : a < 2 ^ 31) (hb : b < 2 ^ 31) (kt : a = b → G EX l cc nL Ts own ret R γ P AF QQ cells slots tgt lv st I L) (kf : a ≠ b → G EX l cc nL Ts own ret R γ P AF QQ cells slots (pc + 3) lv st I L) : G EX l cc nL Ts own ret R γ P AF QQ cells slots pc lv (.int (nI b) :: .int (nI a) :: st) I L :=
  g_ic_eq hd ht (fun h => kt ((nI_eq ha hb).mp h)) (fun h => kf (fun q => h ((nI_eq ha hb).mpr q)))
theorem gn_ne {a b : Nat} {off : Int} {tgt : Nat} (hd : decode cc pc = .ok (.if_icmp .ne off, 3)) (ht : (pc : Int) + off = (tgt : Int)) (ha : a < 2 ^ 31) (hb : b < 2 ^ 31) (kt : a ≠ b → G EX l cc nL Ts own ret R γ P AF QQ cells slots tgt lv st I L) (kf : a = b → G EX l cc nL Ts own ret R γ P AF QQ cells slots (pc + 3) lv st I L) : G EX l cc nL Ts own ret R γ P AF QQ cells slots pc lv (.int (nI b) :: .int (nI a) :: st) I L :=
  g_ic_ne hd ht (fun h => kt (fun q => h ((nI_eq ha hb).mpr q))) (fun h => kf ((nI_eq ha hb).mp h))
theorem gn_lt {a b : Nat} {off : Int} {tgt : Nat} (hd : decode cc pc = .ok (.if_icmp .lt off, 3)) (ht : (pc : Int) + off = (tgt : Int)) (ha : a < 2 ^ 31) (hb : b < 2 ^ 31) (kt : a < b → G EX l cc nL Ts own ret R γ P AF QQ cells slots tgt lv st I L) (kf : b ≤ a → G EX l cc nL Ts own ret R γ P AF QQ cells slots (pc + 3) lv st I L) : G EX l cc nL Ts own ret R γ P AF QQ cells slots pc lv (.int (nI b) :: .int (nI a) :: st) I L :=
  g_ic_lt hd ht (fun h => kt ((nI_ltI ha hb).mp h)) (fun h => kf (Nat.not_lt.mp (fun q => h ((nI_ltI ha hb).mpr q))))
theorem gn_ge {a b : Nat} {off : Int} {tgt : Nat} (hd : decode cc pc = .ok (.if_icmp .ge off, 3)) (ht : (pc : Int) + off = (tgt : Int)) (ha : a < 2 ^ 31) (hb : b < 2 ^ 31) (kt : b ≤ a → G EX l cc nL Ts own ret R γ P AF QQ cells slots tgt lv st I L) (kf : a < b → G EX l cc nL Ts own ret R γ P AF QQ cells slots (pc + 3) lv st I L) : G EX l cc nL Ts own ret R γ P AF QQ cells slots pc lv (.int (nI b) :: .int (nI a) :: st) I L :=
  g_ic_ge hd ht (fun h => kt ((nI_leI hb ha).mp h)) (fun h => kf (Nat.not_le.mp (fun q => h ((nI_leI hb ha).mpr q))))
theorem gn_gt {a b : Nat} {off : Int} {tgt : Nat} (hd : decode cc pc = .ok (.if_icmp .gt off, 3)) (ht : (pc : Int) + off = (tgt : Int)) (ha : a < 2 ^ 31) (hb : b < 2 ^ 31) (kt : b < a → G EX l cc nL Ts own ret R γ P AF QQ cells slots tgt lv st I L) (kf : a ≤ b → G EX l cc nL Ts own ret R γ P AF QQ cells slots (pc + 3) lv st I L) : G EX l cc nL Ts own ret R γ P AF QQ cells slots pc lv (.int (nI b) :: .int (nI a) :: st) I L :=
  g_ic_gt hd ht (fun h => kt ((nI_ltI hb ha).mp h)) (fun h => kf (Nat.not_lt.mp (fun q => h ((nI_ltI hb ha).mpr q))))
theorem gn_le {a b : Nat} {off : Int} {tgt : Nat} (hd : decode cc pc = .ok (.if_icmp .le off, 3)) (ht : (pc : Int) + off = (tgt : Int)) (ha : a < 2 ^ 31) (hb : b < 2 ^ 31) (kt : a ≤ b → G EX l cc nL Ts own ret R γ P AF QQ cells slots tgt lv st I L) (kf : b < a → G EX l cc nL Ts own ret R γ P AF QQ cells slots (pc + 3) lv st I L) : G EX l cc nL Ts own ret R γ P AF QQ cells slots pc lv (.int (nI b) :: .int (nI a) :: st) I L :=
  g_ic_le hd ht (fun h => kt ((nI_leI ha hb).mp h)) (fun h => kf (Nat.not_le.mp (fun q => h ((nI_leI ha hb).mpr q))))
theorem nI_z {a : Nat} (ha : a < 2 ^ 31) : nI a = 0 ↔ a = 0 := by
  rw [← nI_0]; exact nI_eq ha (by decide)
theorem gz_eq {a : Nat} {off : Int} {tgt : Nat} (hd : decode cc pc = .ok (.ifCond .eq off, 3)) (ht : (pc : Int) + off = (tgt : Int)) (ha : a < 2 ^ 31) (kt : a = 0 → G EX l cc nL Ts own ret R γ P AF QQ cells slots tgt lv st I L) (kf : a ≠ 0 → G EX l cc nL Ts own ret R γ P AF QQ cells slots (pc + 3) lv st I L) : G EX l cc nL Ts own ret R γ P AF QQ cells slots pc lv (.int (nI a) :: st) I L :=
  g_if_eq hd ht (fun h => kt ((nI_z ha).mp h)) (fun h => kf (fun q => h ((nI_z ha).mpr q)))
theorem gz_ne {a : Nat} {off : Int} {tgt : Nat} (hd : decode cc pc = .ok (.ifCond .ne off, 3)) (ht : (pc : Int) + off = (tgt : Int)) (ha : a < 2 ^ 31) (kt : a ≠ 0 → G EX l cc nL Ts own ret R γ P AF QQ cells slots tgt lv st I L) (kf : a = 0 → G EX l cc nL Ts own ret R γ P AF QQ cells slots (pc + 3) lv st I L) : G EX l cc nL Ts own ret R γ P AF QQ cells slots pc lv (.int (nI a) :: st) I L :=
  g_if_ne hd ht (fun h => kt (fun q => h ((nI_z ha).mpr q))) (fun h => kf ((nI_z ha).mp h))
theorem gz_lt {a : Nat} {off : Int} {tgt : Nat} (hd : decode cc pc = .ok (.ifCond .lt off, 3)) (ht : (pc : Int) + off = (tgt : Int)) (ha : a < 2 ^ 31) (kt : False → G EX l cc nL Ts own ret R γ P AF QQ cells slots tgt lv st I L) (kf : True → G EX l cc nL Ts own ret R γ P AF QQ cells slots (pc + 3) lv st I L) : G EX l cc nL Ts own ret R γ P AF QQ cells slots pc lv (.int (nI a) :: st) I L :=
  g_if_lt hd ht (fun h => (nI_pos ha h).elim) (fun _ => kf trivial)
theorem gz_ge {a : Nat} {off : Int} {tgt : Nat} (hd : decode cc pc = .ok (.ifCond .ge off, 3)) (ht : (pc : Int) + off = (tgt : Int)) (ha : a < 2 ^ 31) (kt : True → G EX l cc nL Ts own ret R γ P AF QQ cells slots tgt lv st I L) (kf : False → G EX l cc nL Ts own ret R γ P AF QQ cells slots (pc + 3) lv st I L) : G EX l cc nL Ts own ret R γ P AF QQ cells slots pc lv (.int (nI a) :: st) I L :=
  g_if_ge hd ht (fun _ => kt trivial) (fun h => (h (nI_pos' ha)).elim)
theorem gz_le {a : Nat} {off : Int} {tgt : Nat} (hd : decode cc pc = .ok (.ifCond .le off, 3)) (ht : (pc : Int) + off = (tgt : Int)) (ha : a < 2 ^ 31) (kt : a = 0 → G EX l cc nL Ts own ret R γ P AF QQ cells slots tgt lv st I L) (kf : 0 < a → G EX l cc nL Ts own ret R γ P AF QQ cells slots (pc + 3) lv st I L) : G EX l cc nL Ts own ret R γ P AF QQ cells slots pc lv (.int (nI a) :: st) I L :=
  g_if_le hd ht (fun h => kt (by have h1 := (nI_leI ha (by decide : 0 < 2 ^ 31)).mp (by rw [nI_0]; exact h); omega)) (fun h => kf (Nat.pos_of_ne_zero (fun q => h (by rw [q, nI_0]; decide))))
theorem gb_eq {b : Bool} {off : Int} {tgt : Nat} (hd : decode cc pc = .ok (.ifCond .eq off, 3)) (ht : (pc : Int) + off = (tgt : Int)) (kt : b = false → G EX l cc nL Ts own ret R γ P AF QQ cells slots tgt lv st I L) (kf : b = true → G EX l cc nL Ts own ret R γ P AF QQ cells slots (pc + 3) lv st I L) : G EX l cc nL Ts own ret R γ P AF QQ cells slots pc lv (.int (bi b) :: st) I L :=
  g_if_eq hd ht (fun h => kt (bi_eq h)) (fun h => kf (bi_ne h))
theorem gb_ne {b : Bool} {off : Int} {tgt : Nat} (hd : decode cc pc = .ok (.ifCond .ne off, 3)) (ht : (pc : Int) + off = (tgt : Int)) (kt : b = true → G EX l cc nL Ts own ret R γ P AF QQ cells slots tgt lv st I L) (kf : b = false → G EX l cc nL Ts own ret R γ P AF QQ cells slots (pc + 3) lv st I L) : G EX l cc nL Ts own ret R γ P AF QQ cells slots pc lv (.int (bi b) :: st) I L :=
  g_if_ne hd ht (fun h => kt (bi_ne h)) (fun h => kf (bi_eq h))
end Rows3
theorem inc_1 (a : Nat) : nI a + Int32.ofInt 1 = nI (a + 1) := nI_1 a
/-- a counter that goes down to -1 -/
def dn : Nat → Int32
  | 0 => -1
  | k + 1 => nI k
theorem dec_1 (a : Nat) : nI a + Int32.ofInt (-1) = dn a := by
  cases a with
  | zero => rfl
  | succ k => exact pk_m1 k
theorem dn_neg : dn 0 < 0 := by decide
theorem dn_sub {a : Nat} (h : 0 < a) : nI a - 1 = nI (a - 1) := by
  obtain ⟨k, rfl⟩ : ∃ k, a = k + 1 := ⟨a - 1, by omega⟩
  exact nI_pred k
theorem dn_sub1 (a : Nat) : nI a - nI 1 = dn a := by
  cases a with
  | zero => rfl
  | succ k => exact nI_pred k
theorem dn_sub2 {a : Nat} (h : 0 < a) : nI a - nI 2 = dn (a - 1) := by
  obtain ⟨k, rfl⟩ : ∃ k, a = k + 1 := ⟨a - 1, by omega⟩
  rw [show nI 2 = nI 1 + nI 1 from rfl, ← Int32.sub_sub, show nI (k + 1) - nI 1 = nI k from nI_pred k, dn_sub1]
  rfl
section Rows4
variable {EX : State → Code → Prop} {l : Launch} {cc : ByteArray} {nL : Nat} {Ts : List Cond} {own : String} {ret : Option FieldType} {R : Room} {γ : Gm} {P : PT} {AF : State → Nat → Prop} {QQ : List Frame → Array Value → State → State → Prop} {cells slots : Nat} {pc : Nat} {lv : List (Nat × Value)} {st : List Value} {I : IT} {L : LT}
theorem g_tsIn {dflt lo hi : Int} {offs : Array Int} {len : Nat} {x : Int32} {off : Int} {tgt : Nat} (hd : decode cc pc = .ok (.tableswitch dflt lo hi offs, len)) (h1 : ¬ x.toInt < lo) (h2 : ¬ hi < x.toInt) (ho : offs[(x.toInt - lo).toNat]? = some off) (ht : (pc : Int) + off = (tgt : Int)) (kk : G EX l cc nL Ts own ret R γ P AF QQ cells slots tgt lv st I L) : G EX l cc nL Ts own ret R γ P AF QQ cells slots pc lv (.int x :: st) I L :=
  fun p e s m args below meth c K H locs ls hS hP hD hl => lv_tableIn K.1.1 K.1.2.1 hd h1 h2 ho ht (kk p e s m args below meth c K H locs ls hS hP hD hl)
theorem g_tsOut {dflt lo hi : Int} {offs : Array Int} {len : Nat} {x : Int32} {tgt : Nat} (hd : decode cc pc = .ok (.tableswitch dflt lo hi offs, len)) (h : x.toInt < lo ∨ hi < x.toInt) (ht : (pc : Int) + dflt = (tgt : Int)) (kk : G EX l cc nL Ts own ret R γ P AF QQ cells slots tgt lv st I L) : G EX l cc nL Ts own ret R γ P AF QQ cells slots pc lv (.int x :: st) I L :=
  fun p e s m args below meth c K H locs ls hS hP hD hl => lv_tableOut K.1.1 K.1.2.1 hd h ht (kk p e s m args below meth c K H locs ls hS hP hD hl)
end Rows4
/-- moved spans of rows: how long a row of the three grids is -/
theorem ln_29 {i : Nat} (h : i < 8) : ln (i + 29) = 256 := by
  unfold ln
  repeat' split
  all_goals (first | rfl | omega)
theorem ln_37 {i : Nat} (h : 37 ≤ i) : ln i = 128 := by
  unfold ln
  repeat' split
  all_goals (first | rfl | omega)
theorem va_uu {α : Type} (f : Nat → α) (k : Nat) (v w : α) : va_up (va_up f k v) k w = va_up f k w := bx_uu f k v w
theorem va_us {α : Type} (f : Nat → α) (k : Nat) (v : α) : va_up f k v k = v := va_up_self f k v
/-- a store in a row that was written before -/
theorem va_uw (I : IT) (k i : Nat) (f : Nat → Int32) (x : Int32) : va_up (va_up I k f) k (upd (va_up I k f k) i x) = va_up I k (upd f i x) := by rw [va_uu, va_us]
end
section
/-! numbers of this claim, away from the machine -/
/-- an int argument is one of 0 .. n-1 -/
def IN (x : Int32) (n : Nat) : Prop := ∃ j, j < n ∧ x = nI j
noncomputable def pB (p : Prop) : Bool := @decide p (Classical.propDecidable p)
theorem pB_t {p : Prop} : pB p = true ↔ p := by unfold pB; exact @decide_eq_true_iff p (Classical.propDecidable p)
theorem pB_f {p : Prop} : pB p = false ↔ ¬ p := by unfold pB; exact @decide_eq_false_iff_not p (Classical.propDecidable p)
theorem pB_of {p : Prop} (h : p) : pB p = true := pB_t.mpr h
theorem pB_no {p : Prop} (h : ¬ p) : pB p = false := pB_f.mpr h
noncomputable def inB (x : Int32) (n : Nat) : Bool := pB (IN x n)
theorem IN_neg {x : Int32} {n : Nat} (hn : n < 2 ^ 31) (h : x < 0) : ¬ IN x n := by
  rintro ⟨j, hj, rfl⟩
  exact nI_pos (Nat.lt_trans hj hn) h
theorem IN_ge {x : Int32} {n : Nat} (hn : n < 2 ^ 31) (h : ¬ x < nI n) : ¬ IN x n := by
  rintro ⟨j, hj, rfl⟩
  exact h (nI_lt hj hn)
theorem IN_of {x : Int32} {n : Nat} (hn : n < 2 ^ 31) (h0 : ¬ x < 0) (h : x < nI n) : IN x n := by
  rcases pk_ix x hn with q | q | q
  · exact absurd q h0
  · exact absurd h (Int32.not_lt.mpr q)
  · exact q
theorem IN_nI {a n : Nat} (ha : a < 2 ^ 31) (hn : n < 2 ^ 31) : IN (nI a) n ↔ a < n := by
  constructor
  · rintro ⟨j, hj, e⟩
    rw [(nI_eq ha (Nat.lt_trans hj hn)).mp e]
    exact hj
  · intro h
    exact ⟨a, h, rfl⟩
/-- the number of a span -/
def sp (a b : Nat) : Nat := b * (b - 1) / 2 + a
theorem sp_lt {a b : Nat} (h : a < b) (hb : b ≤ 6) : sp a b < 21 := by
  unfold sp
  rcases (show b = 1 ∨ b = 2 ∨ b = 3 ∨ b = 4 ∨ b = 5 ∨ b = 6 by omega) with rfl | rfl | rfl | rfl | rfl | rfl <;> simp <;> omega
theorem sp_inj {a b a' b' : Nat} (h : a < b) (hb : b ≤ 6) (h' : a' < b') (hb' : b' ≤ 6) (e : sp a b = sp a' b') : a = a' ∧ b = b' := by
  unfold sp at e
  rcases (show b = 1 ∨ b = 2 ∨ b = 3 ∨ b = 4 ∨ b = 5 ∨ b = 6 by omega) with rfl | rfl | rfl | rfl | rfl | rfl <;>
  rcases (show b' = 1 ∨ b' = 2 ∨ b' = 3 ∨ b' = 4 ∨ b' = 5 ∨ b' = 6 by omega) with rfl | rfl | rfl | rfl | rfl | rfl <;> simp at e <;> omega
/-- f 0 or f 1 or .. f (n-1), as bits -/
def orf (f : Nat → Nat) : Nat → Nat
  | 0 => 0
  | k + 1 => orf f k ||| f k
theorem orf_bit (f : Nat → Nat) (n v : Nat) : (orf f n).testBit v = true ↔ ∃ k, k < n ∧ (f k).testBit v = true := by
  induction n with
  | zero => simp [orf]
  | succ n ih =>
    rw [orf, Nat.testBit_or, Bool.or_eq_true, ih]
    constructor
    · rintro (⟨k, h1, h2⟩ | h)
      · exact ⟨k, by omega, h2⟩
      · exact ⟨n, by omega, h⟩
    · rintro ⟨k, h1, h2⟩
      by_cases e : k = n
      · subst e; exact Or.inr h2
      · exact Or.inl ⟨k, by omega, h2⟩
theorem orf_cong {f g : Nat → Nat} {n : Nat} (h : ∀ k, k < n → f k = g k) : orf f n = orf g n := by
  induction n with
  | zero => rfl
  | succ n ih => rw [orf, orf, ih (fun k hk => h k (by omega)), h n (by omega)]
theorem orf_zero {f : Nat → Nat} {n : Nat} (h : ∀ k, k < n → f k = 0) : orf f n = 0 := by
  induction n with
  | zero => rfl
  | succ n ih => rw [orf, ih (fun k hk => h k (by omega)), h n (by omega)]; rfl
theorem orf_lt {f : Nat → Nat} {n b : Nat} (h : ∀ k, k < n → f k < 2 ^ b) : orf f n < 2 ^ b := by
  induction n with
  | zero => exact Nat.two_pow_pos b
  | succ n ih => exact Nat.or_lt_two_pow (ih (fun k hk => h k (by omega))) (h n (by omega))
theorem bits_ext {a b : Nat} (h : ∀ v, a.testBit v = true ↔ b.testBit v = true) : a = b :=
  Nat.eq_of_testBit_eq (fun v => Bool.eq_iff_iff.mpr (h v))
theorem orf_comm (f : Nat → Nat → Nat) (n m : Nat) : orf (fun i => orf (fun j => f i j) m) n = orf (fun j => orf (fun i => f i j) n) m := by
  refine bits_ext (fun v => ?_)
  simp only [orf_bit]
  constructor
  · rintro ⟨i, hi, j, hj, h⟩; exact ⟨j, hj, i, hi, h⟩
  · rintro ⟨j, hj, i, hi, h⟩; exact ⟨i, hi, j, hj, h⟩
/-- what two values make by a mode -/
def jv (m a b : Nat) : Option Nat := if m = 0 then some a else if m = 1 then some b else if m = 3 then some 0 else if a = b ∨ b = 0 then some a else if a = 0 then some b else none
/-- what two pairs of values make by the modes of a rule -/
def jp (m a b : Nat) : Option Nat := match jv (m / 10) (a / 4) (b / 4), jv (m % 10) (a % 4) (b % 4) with
  | some h, some l => some (4 * h + l)
  | _, _ => none
def enc (o : Option Nat) : Int32 := match o with
  | some v => nI v
  | none => -1
theorem jv_lt {m a b v : Nat} (ha : a < 4) (hb : b < 4) (h : jv m a b = some v) : v < 4 := by
  unfold jv at h
  repeat' split at h
  all_goals (first | (cases h; omega) | cases h)
theorem jp_lt {m a b v : Nat} (ha : a < 16) (hb : b < 16) (h : jp m a b = some v) : v < 16 := by
  unfold jp at h
  split at h
  · rename_i h1 h2
    have e1 := jv_lt (by omega) (by omega) h1
    have e2 := jv_lt (by omega) (by omega) h2
    cases h
    omega
  · cases h
def obit (o : Option Nat) : Nat := match o with
  | some v => 2 ^ v
  | none => 0
/-- the set of pairs that a rule makes of one pair a and pairs out of b; of two sets -/
def pin (md a b : Nat) (k : Nat) : Nat := if b.testBit k then obit (jp md a k) else 0
def pmo (md a b : Nat) (k : Nat) : Nat := if a.testBit k then orf (pin md k b) 16 else 0
def pmk (md a b : Nat) : Nat := orf (pmo md a b) 16
theorem pin_lt {md a b k : Nat} (ha : a < 16) (hk : k < 16) : pin md a b k < 2 ^ 16 := by
  unfold pin
  split
  · cases h : jp md a k with
    | none => exact Nat.two_pow_pos 16
    | some v => exact Nat.pow_lt_pow_right (by decide) (jp_lt ha hk h)
  · exact Nat.two_pow_pos 16
theorem pmo_lt {md a b k : Nat} (hk : k < 16) : pmo md a b k < 2 ^ 16 := by
  unfold pmo
  split
  · exact orf_lt (fun j hj => pin_lt hk hj)
  · exact Nat.two_pow_pos 16
theorem pmk_lt (md a b : Nat) : pmk md a b < 2 ^ 16 := orf_lt (fun _ hk => pmo_lt hk)
theorem pmk_0l (md b : Nat) : pmk md 0 b = 0 := orf_zero (fun k _ => by simp [pmo])
theorem pmk_0r (md a : Nat) : pmk md a 0 = 0 := orf_zero (fun k _ => by
  unfold pmo
  split
  · exact orf_zero (fun j _ => by simp [pin])
  · rfl)
/-- grammar: g 0 category, g 1 pair of values of a word; g 2 made, g 3 first, g 4 second, g 5 modes of a rule -/
abbrev GR : Type := Nat → Nat → Nat
/-- what the first r rules make as category c of the sets A (of a first part) and B (of a second) -/
def str (g : GR) (A B : Nat → Nat) (c : Nat) (ρ : Nat) : Nat := if g 2 ρ = c then pmk (g 5 ρ) (A (g 3 ρ)) (B (g 4 ρ)) else 0
def stp (g : GR) (r : Nat) (A B : Nat → Nat) (c : Nat) : Nat := orf (str g A B c) r
theorem str_lt {g : GR} {A B : Nat → Nat} {c ρ : Nat} : str g A B c ρ < 2 ^ 16 := by
  unfold str
  split
  · exact pmk_lt _ _ _
  · exact Nat.two_pow_pos 16
theorem stp_lt {g : GR} {r : Nat} {A B : Nat → Nat} {c : Nat} : stp g r A B c < 2 ^ 16 := orf_lt (fun _ _ => str_lt)
/-- the sets of the row from place i, of a length, by the first r rules, over the words' sets lx; k: depth -/
def cs (g : GR) (r : Nat) (lx : Nat → Nat → Nat) : Nat → Nat → Nat → Nat → Nat
  | 0, _, _, _ => 0
  | k + 1, len, i, c => if len ≤ 1 then lx i c else orf (fun d => stp g r (cs g r lx k (d + 1) i) (cs g r lx k (len - 1 - d) (i + d + 1)) c) (len - 1)
theorem stp_cong {g : GR} {r : Nat} {A A' B B' : Nat → Nat} {c : Nat} (hA : ∀ c, A c = A' c) (hB : ∀ c, B c = B' c) : stp g r A B c = stp g r A' B' c := by
  rw [show A = A' from funext hA, show B = B' from funext hB]
theorem cs_fuel (g : GR) (r : Nat) (lx : Nat → Nat → Nat) : ∀ (k k' len : Nat), len ≤ k → len ≤ k' → 0 < len → ∀ i c, cs g r lx k len i c = cs g r lx k' len i c := by
  intro k
  induction k with
  | zero => intro k' len h1 h2 h3; omega
  | succ k ih =>
    intro k' len h1 h2 h3 i c
    obtain ⟨k', rfl⟩ : ∃ j, k' = j + 1 := ⟨k' - 1, by omega⟩
    rw [cs, cs]
    split
    · rfl
    · refine orf_cong (fun d hd => stp_cong (fun c => ?_) (fun c => ?_))
      · exact ih k' (d + 1) (by omega) (by omega) (by omega) i c
      · exact ih k' (len - 1 - d) (by omega) (by omega) (by omega) _ c
/-- the set of pairs of values that the places i .. j-1 have as category c -/
def ch (g : GR) (r : Nat) (lx : Nat → Nat → Nat) (i j c : Nat) : Nat := cs g r lx (j - i) (j - i) i c
theorem ch_one (g : GR) (r : Nat) (lx : Nat → Nat → Nat) (i c : Nat) : ch g r lx i (i + 1) c = lx i c := by
  unfold ch
  rw [show i + 1 - i = 1 by omega]
  rfl
theorem ch_more (g : GR) (r : Nat) (lx : Nat → Nat → Nat) {i j : Nat} (c : Nat) (h : i + 1 < j) : ch g r lx i j c = orf (fun d => stp g r (ch g r lx i (i + d + 1)) (ch g r lx (i + d + 1) j) c) (j - i - 1) := by
  unfold ch
  obtain ⟨n, hn⟩ : ∃ n, j - i = n + 2 := ⟨j - i - 2, by omega⟩
  rw [hn]
  show (if n + 2 ≤ 1 then _ else _) = _
  rw [if_neg (by omega)]
  refine orf_cong (fun d hd => stp_cong (fun c => ?_) (fun c => ?_))
  · rw [show i + d + 1 - i = d + 1 by omega]
    exact cs_fuel g r lx _ _ _ (by omega) (by omega) (by omega) i c
  · rw [show j - (i + d + 1) = n + 2 - 1 - d by omega]
    exact cs_fuel g r lx _ _ _ (by omega) (by omega) (by omega) _ c
theorem ch_lt {g : GR} {r : Nat} {lx : Nat → Nat → Nat} {i j c : Nat} (h : i < j) (hl : ∀ p c, lx p c < 2 ^ 16) : ch g r lx i j c < 2 ^ 16 := by
  by_cases e : j = i + 1
  · subst e; rw [ch_one]; exact hl _ _
  · rw [ch_more g r lx c (by omega)]
    exact orf_lt (fun _ _ => stp_lt)
/-- the sets depend on the words' sets within alone -/
theorem ch_cong {g : GR} {r : Nat} {lx lx' : Nat → Nat → Nat} : ∀ (n i j : Nat), j - i ≤ n → i < j → (∀ p, i ≤ p → p < j → ∀ c, lx p c = lx' p c) → ∀ c, ch g r lx i j c = ch g r lx' i j c := by
  intro n
  induction n with
  | zero => intro i j h1 h2; omega
  | succ n ih =>
    intro i j h1 h2 h c
    by_cases e : j = i + 1
    · subst e; rw [ch_one, ch_one]; exact h i (by omega) (by omega) c
    · rw [ch_more g r lx c (by omega), ch_more g r lx' c (by omega)]
      refine orf_cong (fun d hd => stp_cong (fun c => ?_) (fun c => ?_))
      · exact ih i (i + d + 1) (by omega) (by omega) (fun p h1 h2 => h p h1 (by omega)) c
      · exact ih (i + d + 1) j (by omega) (by omega) (fun p h1 h2 => h p (by omega) h2) c
/-- the sets of a word; of a row of words -/
def wset (g : GR) (w c : Nat) : Nat := if g 0 w = c then 2 ^ g 1 w else 0
def lxw (g : GR) (w : Nat → Nat) (p c : Nat) : Nat := wset g (w p) c
theorem wset_lt {g : GR} {w c : Nat} (h : g 1 w < 16) : wset g w c < 2 ^ 16 := by
  unfold wset
  split
  · exact Nat.pow_lt_pow_right (by decide) h
  · exact Nat.two_pow_pos 16
/-! bits of ints -/
theorem sl31 : ∀ n, n < 32 → ((nI n &&& 31).toBitVec.smod 32).toNat = n := by decide +kernel
theorem nI_or (a b : Nat) : nI a ||| nI b = nI (a ||| b) := by
  apply Int32.toBitVec_inj.1
  show BitVec.ofNat 32 a ||| BitVec.ofNat 32 b = BitVec.ofNat 32 (a ||| b)
  apply BitVec.eq_of_getLsbD_eq
  intro i hi
  simp [hi]
theorem nI_and (a b : Nat) : nI a &&& nI b = nI (a &&& b) := by
  apply Int32.toBitVec_inj.1
  show BitVec.ofNat 32 a &&& BitVec.ofNat 32 b = BitVec.ofNat 32 (a &&& b)
  apply BitVec.eq_of_getLsbD_eq
  intro i hi
  simp [hi]
theorem nI_and1 (a : Nat) : nI a &&& nI 1 = nI (a % 2) := by rw [nI_and, Nat.and_one_is_mod]
theorem nI_shr {a k : Nat} (ha : a < 2 ^ 31) (hk : k < 32) : nI a >>> (nI k &&& 31) = nI (a / 2 ^ k) := pk_shrN ha _ k (sl31 k hk)
theorem nI_shl {k : Nat} (hk : k < 32) : nI 1 <<< (nI k &&& 31) = nI (2 ^ k) := by
  have h : 1 * 2 ^ k < 2 ^ 32 := by rw [Nat.one_mul]; exact Nat.pow_lt_pow_right (by decide) hk
  rw [pk_shlN _ k (sl31 k hk) h, Nat.one_mul]
theorem bit_div (a k : Nat) : a / 2 ^ k % 2 = 0 ↔ a.testBit k = false := by
  rw [Nat.testBit_eq_decide_div_mod_eq, decide_eq_false_iff_not]
  generalize a / 2 ^ k = z
  omega
theorem bit_div1 (a k : Nat) : a / 2 ^ k % 2 = 1 ↔ a.testBit k = true := by
  rw [Nat.testBit_eq_decide_div_mod_eq, decide_eq_true_iff]
theorem div_lt31 {a k : Nat} (h : a < 2 ^ 31) : a / 2 ^ k < 2 ^ 31 := Nat.lt_of_le_of_lt (Nat.div_le_self _ _) h
theorem mod2_lt (a : Nat) : a % 2 < 2 ^ 31 := Nat.lt_trans (Nat.mod_lt a (by decide)) (by decide)
/-! arguments that stand for pairs of digits, lengths, spans -/
def DP (x : Int32) (m : Nat) : Prop := x = nI m ∧ m / 10 ≤ 3 ∧ m % 10 ≤ 3
theorem DP_neg {x : Int32} (h : x < 0) : ¬ ∃ m, DP x m := by
  rintro ⟨m, rfl, h1, h2⟩
  exact nI_pos (by omega) h
theorem DP_of {m : Nat} (hm : m < 2 ^ 31) : (∃ m', DP (nI m) m') ↔ m / 10 ≤ 3 ∧ m % 10 ≤ 3 := by
  constructor
  · rintro ⟨m', h, h1, h2⟩
    have := (nI_eq hm (by omega)).mp h
    subst this
    exact ⟨h1, h2⟩
  · rintro ⟨h1, h2⟩
    exact ⟨m, rfl, h1, h2⟩
/-- from and to of a part of a row of q words -/
def SPN (x y : Int32) (q a b : Nat) : Prop := x = nI a ∧ y = nI b ∧ a < b ∧ b ≤ q
theorem SPN_neg {x y : Int32} {q : Nat} (hq : q < 2 ^ 31) (h : x < 0) : ¬ ∃ a b, SPN x y q a b := by
  rintro ⟨a, b, rfl, rfl, h1, h2⟩
  exact nI_pos (by omega) h
theorem SPN_le {x y : Int32} {q : Nat} (hq : q < 2 ^ 31) (h : y ≤ x) : ¬ ∃ a b, SPN x y q a b := by
  rintro ⟨a, b, rfl, rfl, h1, h2⟩
  exact nI_ge h1 (by omega) h
theorem SPN_gt {x y : Int32} {q : Nat} (hq : q < 2 ^ 31) (h : nI q < y) : ¬ ∃ a b, SPN x y q a b := by
  rintro ⟨a, b, rfl, rfl, h1, h2⟩
  exact nI_nlt h2 hq h
theorem SPN_of {x y : Int32} {q : Nat} (hq : q < 2 ^ 31) (h0 : ¬ x < 0) (h1 : ¬ y ≤ x) (h2 : ¬ nI q < y) : ∃ a b, SPN x y q a b := by
  obtain ⟨a, ha, rfl⟩ := nI_of h0
  have hy : ¬ y < 0 := fun q => h1 (Int32.le_of_lt (Int32.lt_of_lt_of_le q (nI_pos' ha)))
  obtain ⟨b, hb, rfl⟩ := nI_of hy
  exact ⟨a, b, rfl, rfl, Nat.not_le.mp (fun q => h1 (nI_le q ha)), Nat.not_lt.mp (fun q => h2 (nI_lt q hb))⟩
theorem bi_1 {b : Bool} (h : b = true) : nI 1 = bi b := by rw [h]; rfl
theorem bi_0 {b : Bool} (h : b = false) : nI 0 = bi b := by rw [h]; rfl
theorem enc_ne {o : Option Nat} (h : ¬ enc o = -1) : ∃ v, o = some v := by
  cases o with
  | none => exact absurd rfl h
  | some v => exact ⟨v, rfl⟩
theorem nI_ne_m1 {v : Nat} (h : v < 2 ^ 31) : nI v ≠ -1 := fun e => nI_pos h (by rw [e]; decide)
theorem enc_eq {o : Option Nat} (h : enc o = -1) (hb : ∀ v, o = some v → v < 2 ^ 31) : o = none := by
  cases o with
  | none => rfl
  | some v => exact absurd h (nI_ne_m1 (hb v rfl))
/-- sums -/
def sm (f : Nat → Nat) : Nat → Nat
  | 0 => 0
  | k + 1 => sm f k + f k
theorem sm_cong {f g : Nat → Nat} {n : Nat} (h : ∀ k, k < n → f k = g k) : sm f n = sm g n := by
  induction n with
  | zero => rfl
  | succ n ih => rw [sm, sm, ih (fun k hk => h k (by omega)), h n (by omega)]
theorem sm_zero {f : Nat → Nat} {n : Nat} (h : ∀ k, k < n → f k = 0) : sm f n = 0 := by
  induction n with
  | zero => rfl
  | succ n ih => rw [sm, ih (fun k hk => h k (by omega)), h n (by omega)]
theorem sm_add (f g : Nat → Nat) (n : Nat) : sm (fun k => f k + g k) n = sm f n + sm g n := by
  induction n with
  | zero => rfl
  | succ n ih => rw [sm, sm, sm, ih]; omega
theorem sm_mul (a : Nat) (f : Nat → Nat) (n : Nat) : sm (fun k => a * f k) n = a * sm f n := by
  induction n with
  | zero => rfl
  | succ n ih => rw [sm, sm, ih, Nat.mul_add]
theorem sm_mulr (a : Nat) (f : Nat → Nat) (n : Nat) : sm (fun k => f k * a) n = sm f n * a := by
  induction n with
  | zero => simp [sm]
  | succ n ih => rw [sm, sm, ih, Nat.add_mul]
theorem sm_le {f g : Nat → Nat} {n : Nat} (h : ∀ k, k < n → f k ≤ g k) : sm f n ≤ sm g n := by
  induction n with
  | zero => exact Nat.le_refl _
  | succ n ih => rw [sm, sm]; exact Nat.add_le_add (ih (fun k hk => h k (by omega))) (h n (by omega))
theorem sm_comm (f : Nat → Nat → Nat) (n m : Nat) : sm (fun i => sm (fun j => f i j) m) n = sm (fun j => sm (fun i => f i j) n) m := by
  induction n with
  | zero => exact (sm_zero (fun _ _ => rfl)).symm
  | succ n ih => rw [sm, ih, ← sm_add]; rfl
theorem sm_one {f : Nat → Nat} {n i : Nat} (hi : i < n) (h : ∀ k, k < n → k ≠ i → f k = 0) : sm f n = f i := by
  induction n with
  | zero => omega
  | succ n ih =>
    rw [sm]
    by_cases e : i = n
    · subst e
      rw [sm_zero (fun k hk => h k (by omega) (by omega)), Nat.zero_add]
    · rw [ih (by omega) (fun k hk hne => h k (by omega) hne), h n (by omega) (Ne.symm e), Nat.add_zero]
theorem sm_const (c n : Nat) : sm (fun _ => c) n = n * c := by
  induction n with
  | zero => simp [sm]
  | succ n ih => rw [sm, ih, Nat.succ_mul]
theorem sm_bound {f : Nat → Nat} {c n : Nat} (h : ∀ k, k < n → f k ≤ c) : sm f n ≤ n * c := by
  rw [← sm_const]; exact sm_le h
theorem sm_part {f : Nat → Nat} {n i : Nat} (hi : i < n) : f i ≤ sm f n := by
  induction n with
  | zero => omega
  | succ n ih =>
    rw [sm]
    by_cases e : i = n
    · subst e; omega
    · have := ih (by omega); omega
/-- one pair a of a first part, with the numbers B of a second's pairs: how many readings with the values v -/
def cj1 (md a : Nat) (x : Nat) (B : Nat → Nat) (v o : Nat) : Nat := if jp md a o = some v then x * B o else 0
def cj2 (md : Nat) (A B : Nat → Nat) (v a : Nat) : Nat := sm (cj1 md a (A a) B v) 16
def ctr (g : GR) (A B : Nat → Nat → Nat) (c v ρ : Nat) : Nat := if g 2 ρ = c then sm (cj2 (g 5 ρ) (A (g 3 ρ)) (B (g 4 ρ)) v) 16 else 0
def cst (g : GR) (r : Nat) (A B : Nat → Nat → Nat) (c v : Nat) : Nat := sm (ctr g A B c v) r
/-- a row of numbers holds the matrix M -/
def HM (F : Nat → Int32) (M : Nat → Nat → Nat) : Prop := ∀ c, c < 8 → ∀ v, v < 16 → F (c * 16 + v) = nI (M c v)
/-- the class's grammar in the cells: n words, r rules -/
def GG (I : IT) (g : GR) (n r : Nat) : Prop :=
  I 1 0 = nI n ∧ n ≤ 9 ∧ I 1 1 = nI r ∧ r ≤ 8 ∧ (∀ w, w < n → I 14 w = nI (g 0 w) ∧ g 0 w < 8 ∧ I 15 w = nI (g 1 w) ∧ g 1 w < 16) ∧
  (∀ ρ, ρ < r → I 16 ρ = nI (g 2 ρ) ∧ g 2 ρ < 8 ∧ I 17 ρ = nI (g 3 ρ) ∧ g 3 ρ < 8 ∧ I 18 ρ = nI (g 4 ρ) ∧ g 4 ρ < 8 ∧ ∀ k, k < 256 → I (ρ + 29) k = enc (jp (g 5 ρ) (k / 16) (k % 16)))
section GGs
variable {I : IT} {g : GR} {n r : Nat}
theorem GG.cong {I' : IT} (h : GG I g n r) (e : ∀ k, (k = 1 ∨ 14 ≤ k ∧ k < 19 ∨ 29 ≤ k ∧ k < 37) → I' k = I k) : GG I' g n r := by
  obtain ⟨h1, h2, h3, h4, h5, h6⟩ := h
  refine ⟨by rw [e 1 (by omega)]; exact h1, h2, by rw [e 1 (by omega)]; exact h3, h4, fun w hw => ?_, fun ρ hρ => ?_⟩
  · rw [e 14 (by omega), e 15 (by omega)]; exact h5 w hw
  · rw [e 16 (by omega), e 17 (by omega), e 18 (by omega), e (ρ + 29) (by omega)]; exact h6 ρ hρ
theorem GG.up (h : GG I g n r) {k : Nat} (hk : k ≠ 1 ∧ (k < 14 ∨ 19 ≤ k) ∧ (k < 29 ∨ 37 ≤ k)) (F : Nat → Int32) : GG (va_up I k F) g n r :=
  h.cong (fun j hj => va_up_ne _ _ (by omega))
theorem GG.n_le (h : GG I g n r) : n ≤ 9 := h.2.1
theorem GG.r_le (h : GG I g n r) : r ≤ 8 := h.2.2.2.1
theorem GG.cn (h : GG I g n r) : I 1 0 = nI n := h.1
theorem GG.cr (h : GG I g n r) : I 1 1 = nI r := h.2.2.1
theorem GG.cat (h : GG I g n r) {w : Nat} (hw : w < n) : I 14 w = nI (g 0 w) := (h.2.2.2.2.1 w hw).1
theorem GG.cat_lt (h : GG I g n r) {w : Nat} (hw : w < n) : g 0 w < 8 := (h.2.2.2.2.1 w hw).2.1
theorem GG.val (h : GG I g n r) {w : Nat} (hw : w < n) : I 15 w = nI (g 1 w) := (h.2.2.2.2.1 w hw).2.2.1
theorem GG.val_lt (h : GG I g n r) {w : Nat} (hw : w < n) : g 1 w < 16 := (h.2.2.2.2.1 w hw).2.2.2
theorem GG.made (h : GG I g n r) {ρ : Nat} (hρ : ρ < r) : I 16 ρ = nI (g 2 ρ) := (h.2.2.2.2.2 ρ hρ).1
theorem GG.made_lt (h : GG I g n r) {ρ : Nat} (hρ : ρ < r) : g 2 ρ < 8 := (h.2.2.2.2.2 ρ hρ).2.1
theorem GG.fst (h : GG I g n r) {ρ : Nat} (hρ : ρ < r) : I 17 ρ = nI (g 3 ρ) := (h.2.2.2.2.2 ρ hρ).2.2.1
theorem GG.fst_lt (h : GG I g n r) {ρ : Nat} (hρ : ρ < r) : g 3 ρ < 8 := (h.2.2.2.2.2 ρ hρ).2.2.2.1
theorem GG.snd (h : GG I g n r) {ρ : Nat} (hρ : ρ < r) : I 18 ρ = nI (g 4 ρ) := (h.2.2.2.2.2 ρ hρ).2.2.2.2.1
theorem GG.snd_lt (h : GG I g n r) {ρ : Nat} (hρ : ρ < r) : g 4 ρ < 8 := (h.2.2.2.2.2 ρ hρ).2.2.2.2.2.1
theorem GG.row (h : GG I g n r) {ρ k : Nat} (hρ : ρ < r) (hk : k < 256) : I (ρ + 29) k = enc (jp (g 5 ρ) (k / 16) (k % 16)) := (h.2.2.2.2.2 ρ hρ).2.2.2.2.2.2 k hk
end GGs
/-- the chart of the sets is right for all parts that end at t or before -/
def CV (F : Nat → Int32) (g : GR) (r : Nat) (lx : Nat → Nat → Nat) (t : Nat) : Prop := ∀ i j, i < j → j ≤ t → ∀ c, c < 8 → F (sp i j * 8 + c) = nI (ch g r lx i j c)
theorem CV.cong {F : Nat → Int32} {g : GR} {r : Nat} {lx lx' : Nat → Nat → Nat} {t : Nat} (h : CV F g r lx t) (e : ∀ p, p < t → ∀ c, lx p c = lx' p c) : CV F g r lx' t := fun i j hij hj c hc => by
  rw [h i j hij hj c hc, ch_cong (j - i) i j (Nat.le_refl _) hij (fun p h1 h2 => e p (by omega)) c]
def LEN (x : Int32) (m : Nat) : Prop := x = nI m ∧ 1 ≤ m ∧ m ≤ 4
theorem LEN_lt {x : Int32} (h : x < nI 1) : ¬ ∃ m, LEN x m := by
  rintro ⟨m, rfl, h1, h2⟩
  exact nI_nlt h1 (by omega) h
theorem LEN_gt {x : Int32} (h : ¬ x ≤ nI 4) : ¬ ∃ m, LEN x m := by
  rintro ⟨m, rfl, h1, h2⟩
  exact h (nI_le h2 (by decide))
theorem LEN_of {x : Int32} (h1 : ¬ x < nI 1) (h2 : x ≤ nI 4) : ∃ m, LEN x m := by
  rcases pk_ix x (show (5 : Nat) < 2 ^ 31 by decide) with q | q | ⟨j, hj, rfl⟩
  · exact absurd (Int32.lt_trans q (by decide)) h1
  · exact absurd (Int32.le_trans q h2) (by decide)
  · refine ⟨j, rfl, ?_, by omega⟩
    rcases Nat.eq_zero_or_pos j with e | e
    · subst e; exact absurd (by decide) h1
    · exact e
theorem va_id {α : Type} (f : Nat → α) (k : Nat) : va_up f k (f k) = f := by
  funext j
  unfold va_up
  split
  · rename_i h; rw [h]
  · rfl
theorem upd_s (f : Nat → Int32) (k : Nat) (x : Int32) : upd f k x k = x := by simp [upd]
theorem upd_n (f : Nat → Int32) {k j : Nat} (x : Int32) (h : j ≠ k) : upd f k x j = f j := by simp [upd, h]
end
section
/-! where each nest word stands; small methods of the class that look at their arguments alone; the grammar -/
theorem nw_RX4_59 : (RX4, 59, "SentenceGym$Grammar", "words", "I", RX4) ∈ nwF := List.mem_of_getElem? (i := 0) rfl
theorem nw_RX2_37 : (RX2, 37, "SentenceGym$Grammar", "words", "I", RX4) ∈ nwF := List.mem_of_getElem? (i := 1) rfl
theorem nw_RX4_84 : (RX4, 84, "SentenceGym$Grammar", "wordCategory", "[I", RX4) ∈ nwF := List.mem_of_getElem? (i := 2) rfl
theorem nw_RX2_43 : (RX2, 43, "SentenceGym$Grammar", "wordCategory", "[I", RX4) ∈ nwF := List.mem_of_getElem? (i := 3) rfl
theorem nw_RX2_46 : (RX2, 46, "SentenceGym$Grammar", "wordPair", "[I", RX4) ∈ nwF := List.mem_of_getElem? (i := 4) rfl
theorem nw_RX4_93 : (RX4, 93, "SentenceGym$Grammar", "rules", "I", RX4) ∈ nwF := List.mem_of_getElem? (i := 5) rfl
theorem nw_RX2_62 : (RX2, 62, "SentenceGym$Grammar", "made", "[I", RX4) ∈ nwF := List.mem_of_getElem? (i := 6) rfl
theorem nw_RX2_53 : (RX2, 53, "SentenceGym$Grammar", "first", "[I", RX4) ∈ nwF := List.mem_of_getElem? (i := 7) rfl
theorem nw_RX2_56 : (RX2, 56, "SentenceGym$Grammar", "second", "[I", RX4) ∈ nwF := List.mem_of_getElem? (i := 8) rfl
theorem nm_RX4_11 : (RX4, 11, yX1_init, RX4) ∈ nwM := List.mem_of_getElem? (i := 0) rfl
theorem nm_RX4_29 : (RX4, 29, yX2_init, RX4) ∈ nwM := List.mem_of_getElem? (i := 1) rfl
theorem nm_RX4_36 : (RX4, 36, yX0_init, RX4) ∈ nwM := List.mem_of_getElem? (i := 2) rfl
theorem nm_RX4_43 : (RX4, 43, yX3_init, RX4) ∈ nwM := List.mem_of_getElem? (i := 3) rfl
theorem nm_RX4_167 : (RX4, 167, yX0_fill, RX4) ∈ nwM := List.mem_of_getElem? (i := 4) rfl
theorem nm_RX0_16 : (RX0, 16, yX4_spanOf, RX4) ∈ nwM := List.mem_of_getElem? (i := 5) rfl
theorem nm_RX0_34 : (RX0, 34, yX1_countWord, RX4) ∈ nwM := List.mem_of_getElem? (i := 6) rfl
theorem nm_RX0_40 : (RX0, 40, yX1_addJoined, RX4) ∈ nwM := List.mem_of_getElem? (i := 7) rfl
theorem nm_RX4_171 : (RX4, 171, yX0_countSpan, RX4) ∈ nwM := List.mem_of_getElem? (i := 8) rfl
theorem nm_RX0_20 : (RX0, 20, yX4_countOf, RX4) ∈ nwM := List.mem_of_getElem? (i := 9) rfl
theorem nm_RX4_114 : (RX4, 114, yX3_countRow, RX4) ∈ nwM := List.mem_of_getElem? (i := 10) rfl
theorem nm_RX3_30 : (RX3, 30, yX1_countWord, RX4) ∈ nwM := List.mem_of_getElem? (i := 11) rfl
theorem nm_RX3_36 : (RX3, 36, yX1_addJoined, RX4) ∈ nwM := List.mem_of_getElem? (i := 12) rfl
theorem nm_RX3_20 : (RX3, 20, yX4_countOf, RX4) ∈ nwM := List.mem_of_getElem? (i := 13) rfl
theorem nm_RX4_129 : (RX4, 129, yX2_parse, RX4) ∈ nwM := List.mem_of_getElem? (i := 14) rfl
theorem nm_RX2_15 : (RX2, 15, yX4_spanOf, RX4) ∈ nwM := List.mem_of_getElem? (i := 15) rfl
theorem nm_RX2_59 : (RX2, 59, yX1_pairsMade, RX4) ∈ nwM := List.mem_of_getElem? (i := 16) rfl
theorem nm_RX1_50 : (RX1, 50, yX4_hasPair, RX4) ∈ nwM := List.mem_of_getElem? (i := 17) rfl
theorem nm_RX4_139 : (RX4, 139, yX2_holdsSentence, RX4) ∈ nwM := List.mem_of_getElem? (i := 18) rfl
theorem nm_RX4_180 : (RX4, 180, yX2_putAnyWord, RX4) ∈ nwM := List.mem_of_getElem? (i := 19) rfl
theorem nm_RX4_184 : (RX4, 184, yX2_putWord, RX4) ∈ nwM := List.mem_of_getElem? (i := 20) rfl
theorem nm_RX4_188 : (RX4, 188, yX2_joinUpTo, RX4) ∈ nwM := List.mem_of_getElem? (i := 21) rfl
theorem nm_RX4_71 : (RX4, 71, yX1_defineWord, RX4) ∈ nwM := List.mem_of_getElem? (i := 22) rfl
theorem nm_RX4_98 : (RX4, 98, yX1_defineRule, RX4) ∈ nwM := List.mem_of_getElem? (i := 23) rfl
theorem nm_RX1_46 : (RX1, 46, yX4_pairOf, RX4) ∈ nwM := List.mem_of_getElem? (i := 24) rfl
theorem nm_RX4_133 : (RX4, 133, yX2_pairsOf, RX4) ∈ nwM := List.mem_of_getElem? (i := 25) rfl

set_option maxRecDepth 100000 in
set_option maxHeartbeats 4000000 in
theorem c_X4_isOutside (l : Launch) (γ : Gm) (I : IT) (L : LT) (P : PT) (x : Int32) (n : Nat) (hn : n < 2 ^ 31) : Ci l yX4_isOutside wsX4_isOutside 0 γ [.int x, .int (nI n)] I L P (fun r I' L' => r = bi (!inB x n) ∧ I' = I ∧ L' = L) := by
  refine Ci_of (own := RX4) (cc := cX4_isOutside) (maxL := 2) (by decide) rfl rfl (Nat.le_of_ble_eq_true rfl) ?_
  refine g_sub (lv' := [(0, .int x), (1, .int (nI n))]) [0, 1] rfl ?_
  refine g_il_n 0 dX4_isOutside_0 rfl ?_
  refine g_if_lt (tgt := 9) dX4_isOutside_1 (by decide) (fun h1 => ?_) (fun h1 => ?_)
  · skip
    refine g_ic (v := nI 1) dX4_isOutside_9 (by decide) ?_
    refine g_goto (tgt := 14) dX4_isOutside_10 (by decide) ?_
    refine g_top (v := bi (!inB x n)) (bi_1 (by rw [inB, pB_no (IN_neg hn h1)]; rfl)) ?_
    exact g_zret (bi_nar _) dX4_isOutside_14 (⟨rfl, rfl, rfl⟩)
  · skip
    refine g_il_n 0 dX4_isOutside_4 rfl ?_
    refine g_il_n 1 dX4_isOutside_5 rfl ?_
    refine g_ic_lt (tgt := 13) dX4_isOutside_6 (by decide) (fun h2 => ?_) (fun h2 => ?_)
    · skip
      refine g_ic (v := nI 0) dX4_isOutside_13 (by decide) ?_
      refine g_top (v := bi (!inB x n)) (bi_0 (by rw [inB, pB_of (IN_of hn h1 h2)]; rfl)) ?_
      exact g_zret (bi_nar _) dX4_isOutside_14 (⟨rfl, rfl, rfl⟩)
    · skip
      refine g_ic (v := nI 1) dX4_isOutside_9 (by decide) ?_
      refine g_goto (tgt := 14) dX4_isOutside_10 (by decide) ?_
      refine g_top (v := bi (!inB x n)) (bi_1 (by rw [inB, pB_no (IN_ge hn h2)]; rfl)) ?_
      exact g_zret (bi_nar _) dX4_isOutside_14 (⟨rfl, rfl, rfl⟩)

set_option maxRecDepth 100000 in
set_option maxHeartbeats 4000000 in
theorem c_X4_isNoKind (l : Launch) (γ : Gm) (I : IT) (L : LT) (P : PT) (x y z : Int32) : Ci l yX4_isNoKind wsX4_isNoKind 1 γ [.int x, .int y, .int z] I L P (fun r I' L' => r = bi (!(inB x 8 && inB y 4 && inB z 4)) ∧ I' = I ∧ L' = L) := by
  refine Ci_of (own := RX4) (cc := cX4_isNoKind) (maxL := 3) (by decide) rfl rfl (Nat.le_of_ble_eq_true rfl) ?_
  refine g_sub (lv' := [(0, .int x), (1, .int y), (2, .int z)]) [0, 1, 2] rfl ?_
  refine g_il_n 0 dX4_isNoKind_0 rfl ?_
  refine g_bi (v := nI 8) dX4_isNoKind_1 (by decide) ?_
  refine g_ci (r_S (st := []) (c_X4_isOutside l γ (I) L P x 8 (by decide)) gX4_isNoKind_X4_isOutside rfl (by decide +kernel) ⟨Nat.le_of_ble_eq_true rfl, Nat.le_of_ble_eq_true rfl⟩ rfl (by decide) dX4_isNoKind_3 ⟨Nat.zero_le _, Nat.zero_le _⟩) ?_
  rintro r1 I1 L1 ⟨rfl, rfl, rfl⟩
  refine gb_ne (tgt := 25) dX4_isNoKind_6 (by decide) (fun h1 => ?_) (fun h1 => ?_)
  · skip
    refine g_ic (v := nI 1) dX4_isNoKind_25 (by decide) ?_
    refine g_goto (tgt := 30) dX4_isNoKind_26 (by decide) ?_
    refine g_top (v := bi (!(inB x 8 && inB y 4 && inB z 4))) (bi_1 (by revert h1; cases inB x 8 <;> cases inB y 4 <;> cases inB z 4 <;> decide)) ?_
    exact g_zret (bi_nar _) dX4_isNoKind_30 (⟨rfl, rfl, rfl⟩)
  · skip
    refine g_il_n 1 dX4_isNoKind_9 rfl ?_
    refine g_ic (v := nI 4) dX4_isNoKind_10 (by decide) ?_
    refine g_ci (r_S (st := []) (c_X4_isOutside l γ (I) L P y 4 (by decide)) gX4_isNoKind_X4_isOutside rfl (by decide +kernel) ⟨Nat.le_of_ble_eq_true rfl, Nat.le_of_ble_eq_true rfl⟩ rfl (by decide) dX4_isNoKind_11 ⟨Nat.zero_le _, Nat.zero_le _⟩) ?_
    rintro r2 I2 L2 ⟨rfl, rfl, rfl⟩
    refine gb_ne (tgt := 25) dX4_isNoKind_14 (by decide) (fun h2 => ?_) (fun h2 => ?_)
    · skip
      refine g_ic (v := nI 1) dX4_isNoKind_25 (by decide) ?_
      refine g_goto (tgt := 30) dX4_isNoKind_26 (by decide) ?_
      refine g_top (v := bi (!(inB x 8 && inB y 4 && inB z 4))) (bi_1 (by revert h2; cases inB x 8 <;> cases inB y 4 <;> cases inB z 4 <;> decide)) ?_
      exact g_zret (bi_nar _) dX4_isNoKind_30 (⟨rfl, rfl, rfl⟩)
    · skip
      refine g_il_n 2 dX4_isNoKind_17 rfl ?_
      refine g_ic (v := nI 4) dX4_isNoKind_18 (by decide) ?_
      refine g_ci (r_S (st := []) (c_X4_isOutside l γ (I) L P z 4 (by decide)) gX4_isNoKind_X4_isOutside rfl (by decide +kernel) ⟨Nat.le_of_ble_eq_true rfl, Nat.le_of_ble_eq_true rfl⟩ rfl (by decide) dX4_isNoKind_19 ⟨Nat.zero_le _, Nat.zero_le _⟩) ?_
      rintro r3 I3 L3 ⟨rfl, rfl, rfl⟩
      refine gb_eq (tgt := 29) dX4_isNoKind_22 (by decide) (fun h3 => ?_) (fun h3 => ?_)
      · skip
        refine g_ic (v := nI 0) dX4_isNoKind_29 (by decide) ?_
        refine g_top (v := bi (!(inB x 8 && inB y 4 && inB z 4))) (bi_0 (by revert h1 h2 h3; cases inB x 8 <;> cases inB y 4 <;> cases inB z 4 <;> decide)) ?_
        exact g_zret (bi_nar _) dX4_isNoKind_30 (⟨rfl, rfl, rfl⟩)
      · skip
        refine g_ic (v := nI 1) dX4_isNoKind_25 (by decide) ?_
        refine g_goto (tgt := 30) dX4_isNoKind_26 (by decide) ?_
        refine g_top (v := bi (!(inB x 8 && inB y 4 && inB z 4))) (bi_1 (by revert h3; cases inB x 8 <;> cases inB y 4 <;> cases inB z 4 <;> decide)) ?_
        exact g_zret (bi_nar _) dX4_isNoKind_30 (⟨rfl, rfl, rfl⟩)

set_option maxRecDepth 100000 in
set_option maxHeartbeats 4000000 in
theorem c_X4_isNoDigitPair (l : Launch) (γ : Gm) (I : IT) (L : LT) (P : PT) (x : Int32) : Ci l yX4_isNoDigitPair wsX4_isNoDigitPair 0 γ [.int x] I L P (fun r I' L' => r = bi (!pB (∃ m, DP x m)) ∧ I' = I ∧ L' = L) := by
  refine Ci_of (own := RX4) (cc := cX4_isNoDigitPair) (maxL := 1) (by decide) rfl rfl (Nat.le_of_ble_eq_true rfl) ?_
  refine g_sub (lv' := [(0, .int x)]) [0] rfl ?_
  refine g_il_n 0 dX4_isNoDigitPair_0 rfl ?_
  refine g_if_lt (tgt := 20) dX4_isNoDigitPair_1 (by decide) (fun h1 => ?_) (fun h1 => ?_)
  · skip
    refine g_ic (v := nI 1) dX4_isNoDigitPair_20 (by decide) ?_
    refine g_goto (tgt := 25) dX4_isNoDigitPair_21 (by decide) ?_
    refine g_top (v := bi (!pB (∃ m, DP x m))) (bi_1 (by rw [pB_no (DP_neg h1)]; rfl)) ?_
    exact g_zret (bi_nar _) dX4_isNoDigitPair_25 (⟨rfl, rfl, rfl⟩)
  · skip
    obtain ⟨m, hm, rfl⟩ := nI_of h1
    refine g_il_n 0 dX4_isNoDigitPair_4 rfl ?_
    refine g_bi (v := nI 10) dX4_isNoDigitPair_5 (by decide) ?_
    refine g_idiv (v := nI (m / 10)) dX4_isNoDigitPair_7 (by decide) (pk_div (by omega) (by omega) (by omega)) ?_
    refine g_ic (v := nI 4) dX4_isNoDigitPair_8 (by decide) ?_
    refine gn_ge (tgt := 20) dX4_isNoDigitPair_9 (by decide) (by omega) (by omega) (fun h2 => ?_) (fun h2 => ?_)
    · skip
      refine g_ic (v := nI 1) dX4_isNoDigitPair_20 (by decide) ?_
      refine g_goto (tgt := 25) dX4_isNoDigitPair_21 (by decide) ?_
      refine g_top (v := bi (!pB (∃ m', DP (nI m) m'))) (bi_1 (by rw [pB_no (fun q => by have := (DP_of hm).mp q; omega)]; rfl)) ?_
      exact g_zret (bi_nar _) dX4_isNoDigitPair_25 (⟨rfl, rfl, rfl⟩)
    · skip
      refine g_il_n 0 dX4_isNoDigitPair_12 rfl ?_
      refine g_bi (v := nI 10) dX4_isNoDigitPair_13 (by decide) ?_
      refine g_irem (v := nI (m % 10)) dX4_isNoDigitPair_15 (by decide) (pk_rem (by omega) (by omega) (by omega)) ?_
      refine g_ic (v := nI 4) dX4_isNoDigitPair_16 (by decide) ?_
      refine gn_lt (tgt := 24) dX4_isNoDigitPair_17 (by decide) (by omega) (by omega) (fun h3 => ?_) (fun h3 => ?_)
      · skip
        refine g_ic (v := nI 0) dX4_isNoDigitPair_24 (by decide) ?_
        refine g_top (v := bi (!pB (∃ m', DP (nI m) m'))) (bi_0 (by rw [pB_of ((DP_of hm).mpr ⟨by omega, by omega⟩)]; rfl)) ?_
        exact g_zret (bi_nar _) dX4_isNoDigitPair_25 (⟨rfl, rfl, rfl⟩)
      · skip
        refine g_ic (v := nI 1) dX4_isNoDigitPair_20 (by decide) ?_
        refine g_goto (tgt := 25) dX4_isNoDigitPair_21 (by decide) ?_
        refine g_top (v := bi (!pB (∃ m', DP (nI m) m'))) (bi_1 (by rw [pB_no (fun q => by have := (DP_of hm).mp q; omega)]; rfl)) ?_
        exact g_zret (bi_nar _) dX4_isNoDigitPair_25 (⟨rfl, rfl, rfl⟩)

set_option maxRecDepth 100000 in
set_option maxHeartbeats 4000000 in
theorem c_X4_isNoLength (l : Launch) (γ : Gm) (I : IT) (L : LT) (P : PT) (x : Int32) : Ci l yX4_isNoLength wsX4_isNoLength 0 γ [.int x] I L P (fun r I' L' => r = bi (!pB (∃ m, LEN x m)) ∧ I' = I ∧ L' = L) := by
  refine Ci_of (own := RX4) (cc := cX4_isNoLength) (maxL := 1) (by decide) rfl rfl (Nat.le_of_ble_eq_true rfl) ?_
  refine g_sub (lv' := [(0, .int x)]) [0] rfl ?_
  refine g_il_n 0 dX4_isNoLength_0 rfl ?_
  refine g_ic (v := nI 1) dX4_isNoLength_1 (by decide) ?_
  refine g_ic_lt (tgt := 10) dX4_isNoLength_2 (by decide) (fun h1 => ?_) (fun h1 => ?_)
  · skip
    refine g_ic (v := nI 1) dX4_isNoLength_10 (by decide) ?_
    refine g_goto (tgt := 15) dX4_isNoLength_11 (by decide) ?_
    refine g_top (v := bi (!pB (∃ m, LEN x m))) (bi_1 (by rw [pB_no (LEN_lt h1)]; rfl)) ?_
    exact g_zret (bi_nar _) dX4_isNoLength_15 (⟨rfl, rfl, rfl⟩)
  · skip
    refine g_il_n 0 dX4_isNoLength_5 rfl ?_
    refine g_ic (v := nI 4) dX4_isNoLength_6 (by decide) ?_
    refine g_ic_le (tgt := 14) dX4_isNoLength_7 (by decide) (fun h2 => ?_) (fun h2 => ?_)
    · skip
      refine g_ic (v := nI 0) dX4_isNoLength_14 (by decide) ?_
      refine g_top (v := bi (!pB (∃ m, LEN x m))) (bi_0 (by rw [pB_of (LEN_of h1 h2)]; rfl)) ?_
      exact g_zret (bi_nar _) dX4_isNoLength_15 (⟨rfl, rfl, rfl⟩)
    · skip
      refine g_ic (v := nI 1) dX4_isNoLength_10 (by decide) ?_
      refine g_goto (tgt := 15) dX4_isNoLength_11 (by decide) ?_
      refine g_top (v := bi (!pB (∃ m, LEN x m))) (bi_1 (by rw [pB_no (LEN_gt h2)]; rfl)) ?_
      exact g_zret (bi_nar _) dX4_isNoLength_15 (⟨rfl, rfl, rfl⟩)

theorem in_X4_isNoSpan_4 : ∀ w ∈ wsX40, w ∈ wsX4_isNoSpan := by decide +kernel
set_option maxRecDepth 100000 in
set_option maxHeartbeats 4000000 in
theorem c_X4_isNoSpan (l : Launch) (γ : Gm) (I : IT) (L : LT) (P : PT) (x y : Int32) (q : Nat) (hq : I 0 0 = nI q) (hq6 : q ≤ 6) : Ci l yX4_isNoSpan wsX4_isNoSpan 0 γ [.ref (γ.2.2 0), .int x, .int y] I L P (fun r I' L' => r = bi (!pB (∃ a b, SPN x y q a b)) ∧ I' = I ∧ L' = L) := by
  refine Ci_of (own := RX4) (cc := cX4_isNoSpan) (maxL := 3) (by decide) rfl rfl (Nat.le_of_ble_eq_true rfl) ?_
  refine g_sub (lv' := [(0, .ref (γ.2.2 0)), (1, .int x), (2, .int y)]) [0, 1, 2] rfl ?_
  refine g_il_n 1 dX4_isNoSpan_0 rfl ?_
  refine g_if_lt (tgt := 17) dX4_isNoSpan_1 (by decide) (fun h1 => ?_) (fun h1 => ?_)
  · skip
    refine g_ic (v := nI 1) dX4_isNoSpan_17 (by decide) ?_
    refine g_goto (tgt := 22) dX4_isNoSpan_18 (by decide) ?_
    refine g_top (v := bi (!pB (∃ a b, SPN x y q a b))) (bi_1 (by rw [pB_no (SPN_neg (by omega) h1)]; rfl)) ?_
    exact g_zret (bi_nar _) dX4_isNoSpan_22 (⟨rfl, rfl, rfl⟩)
  · skip
    refine g_il_n 2 dX4_isNoSpan_4 rfl ?_
    refine g_il_n 1 dX4_isNoSpan_5 rfl ?_
    refine g_ic_le (tgt := 17) dX4_isNoSpan_6 (by decide) (fun h2 => ?_) (fun h2 => ?_)
    · skip
      refine g_ic (v := nI 1) dX4_isNoSpan_17 (by decide) ?_
      refine g_goto (tgt := 22) dX4_isNoSpan_18 (by decide) ?_
      refine g_top (v := bi (!pB (∃ a b, SPN x y q a b))) (bi_1 (by rw [pB_no (SPN_le (by omega) h2)]; rfl)) ?_
      exact g_zret (bi_nar _) dX4_isNoSpan_22 (⟨rfl, rfl, rfl⟩)
    · skip
      refine g_il_n 2 dX4_isNoSpan_9 rfl ?_
      refine g_al_n 0 dX4_isNoSpan_10 rfl ?_
      refine g_get 0 2 (by decide) rfl in_X4_isNoSpan_4 rfl (by decide) (by decide +kernel) rfl rfl dX4_isNoSpan_11 ?_
      refine g_top (v := nI q) (hq) ?_
      refine g_ic_le (tgt := 21) dX4_isNoSpan_14 (by decide) (fun h3 => ?_) (fun h3 => ?_)
      · skip
        refine g_ic (v := nI 0) dX4_isNoSpan_21 (by decide) ?_
        refine g_top (v := bi (!pB (∃ a b, SPN x y q a b))) (bi_0 (by rw [pB_of (SPN_of (q := q) (by omega) h1 h2 (fun q9 => (Int32.not_le.mpr q9) h3))]; rfl)) ?_
        exact g_zret (bi_nar _) dX4_isNoSpan_22 (⟨rfl, rfl, rfl⟩)
      · skip
        refine g_ic (v := nI 1) dX4_isNoSpan_17 (by decide) ?_
        refine g_goto (tgt := 22) dX4_isNoSpan_18 (by decide) ?_
        refine g_top (v := bi (!pB (∃ a b, SPN x y q a b))) (bi_1 (by rw [pB_no (SPN_gt (by omega) (Int32.not_le.mp h3))]; rfl)) ?_
        exact g_zret (bi_nar _) dX4_isNoSpan_22 (⟨rfl, rfl, rfl⟩)

set_option maxRecDepth 100000 in
set_option maxHeartbeats 4000000 in
theorem c_X4_pairOf (l : Launch) (γ : Gm) (I : IT) (L : LT) (P : PT) (a b : Nat) : Ci l yX4_pairOf wsX4_pairOf 0 γ [.int (nI a), .int (nI b)] I L P (fun r I' L' => r = nI (a * 4 + b) ∧ I' = I ∧ L' = L) := by
  refine Ci_of (own := RX4) (cc := cX4_pairOf) (maxL := 2) (by decide) rfl rfl (Nat.le_of_ble_eq_true rfl) ?_
  refine g_sub (lv' := [(0, .int (nI a)), (1, .int (nI b))]) [0, 1] rfl ?_
  refine g_il_n 0 dX4_pairOf_0 rfl ?_
  refine g_ic (v := nI 4) dX4_pairOf_1 (by decide) ?_
  refine g_imul (v := nI (a * 4)) dX4_pairOf_2 (pk_mul _ _) ?_
  refine g_il_n 1 dX4_pairOf_3 rfl ?_
  refine g_iadd (v := nI (a * 4 + b)) dX4_pairOf_4 (nI_add _ _) ?_
  exact g_iret dX4_pairOf_5 (⟨rfl, rfl, rfl⟩)

set_option maxRecDepth 100000 in
set_option maxHeartbeats 4000000 in
theorem c_X4_hasPair (l : Launch) (γ : Gm) (I : IT) (L : LT) (P : PT) (m k : Nat) (hm : m < 2 ^ 31) (hk : k < 32) : Ci l yX4_hasPair wsX4_hasPair 0 γ [.int (nI m), .int (nI k)] I L P (fun r I' L' => r = bi (m.testBit k) ∧ I' = I ∧ L' = L) := by
  refine Ci_of (own := RX4) (cc := cX4_hasPair) (maxL := 2) (by decide) rfl rfl (Nat.le_of_ble_eq_true rfl) ?_
  refine g_sub (lv' := [(0, .int (nI m)), (1, .int (nI k))]) [0, 1] rfl ?_
  refine g_il_n 0 dX4_hasPair_0 rfl ?_
  refine g_il_n 1 dX4_hasPair_1 rfl ?_
  refine g_ishr (v := nI (m / 2 ^ k)) dX4_hasPair_2 (nI_shr hm hk) ?_
  refine g_ic (v := nI 1) dX4_hasPair_3 (by decide) ?_
  refine g_iand (v := nI (m / 2 ^ k % 2)) dX4_hasPair_4 (nI_and1 _) ?_
  refine gz_eq (tgt := 12) dX4_hasPair_5 (by decide) (mod2_lt _) (fun h1 => ?_) (fun h1 => ?_)
  · skip
    refine g_ic (v := nI 0) dX4_hasPair_12 (by decide) ?_
    refine g_top (v := bi (m.testBit k)) (bi_0 ((bit_div m k).mp h1)) ?_
    exact g_zret (bi_nar _) dX4_hasPair_13 (⟨rfl, rfl, rfl⟩)
  · skip
    refine g_ic (v := nI 1) dX4_hasPair_8 (by decide) ?_
    refine g_goto (tgt := 13) dX4_hasPair_9 (by decide) ?_
    refine g_top (v := bi (m.testBit k)) (bi_1 ((bit_div1 m k).mp (by omega))) ?_
    exact g_zret (bi_nar _) dX4_hasPair_13 (⟨rfl, rfl, rfl⟩)

set_option maxRecDepth 100000 in
set_option maxHeartbeats 4000000 in
theorem c_X4_spanOf (l : Launch) (γ : Gm) (I : IT) (L : LT) (P : PT) (a b : Nat) (ha : a < b) (hb : b ≤ 6) : Ci l yX4_spanOf wsX4_spanOf 0 γ [.int (nI a), .int (nI b)] I L P (fun r I' L' => r = nI (sp a b) ∧ I' = I ∧ L' = L) := by
  refine Ci_of (own := RX4) (cc := cX4_spanOf) (maxL := 2) (by decide) rfl rfl (Nat.le_of_ble_eq_true rfl) ?_
  refine g_sub (lv' := [(0, .int (nI a)), (1, .int (nI b))]) [0, 1] rfl ?_
  have h9 : b * (b - 1) ≤ 6 * 5 := Nat.mul_le_mul hb (by omega)
  refine g_il_n 1 dX4_spanOf_0 rfl ?_
  refine g_il_n 1 dX4_spanOf_1 rfl ?_
  refine g_ic (v := nI 1) dX4_spanOf_2 (by decide) ?_
  refine g_isub (v := nI (b - 1)) dX4_spanOf_3 (pk_sub (by omega)) ?_
  refine g_imul (v := nI (b * (b - 1))) dX4_spanOf_4 (pk_mul _ _) ?_
  refine g_ic (v := nI 2) dX4_spanOf_5 (by decide) ?_
  refine g_idiv (v := nI ((b * (b - 1)) / 2)) dX4_spanOf_6 (by decide) (pk_div (by omega) (by omega) (by omega)) ?_
  refine g_il_n 0 dX4_spanOf_7 rfl ?_
  refine g_iadd (v := nI ((b * (b - 1)) / 2 + a)) dX4_spanOf_8 (nI_add _ _) ?_
  exact g_iret dX4_spanOf_9 (⟨rfl, rfl, rfl⟩)

set_option maxRecDepth 100000 in
set_option maxHeartbeats 4000000 in
theorem c_X4_told (l : Launch) (γ : Gm) (I : IT) (L : LT) (P : PT) (m : Nat) (hm : m < 2 ^ 31) : Ci l yX4_told wsX4_told 0 γ [.int (nI m)] I L P (fun r I' L' => r = nI (if m ≤ 1000000 then m else 1000000) ∧ I' = I ∧ L' = L) := by
  refine Ci_of (own := RX4) (cc := cX4_told) (maxL := 1) (by decide) rfl rfl (Nat.le_of_ble_eq_true rfl) ?_
  refine g_sub (lv' := [(0, .int (nI m))]) [0] rfl ?_
  refine g_il_n 0 dX4_told_0 rfl ?_
  refine g_ldc (v := nI 1000000) (by decide +kernel) dX4_told_1 ?_
  refine gn_le (tgt := 11) dX4_told_3 (by decide) (by omega) (by omega) (fun h1 => ?_) (fun h1 => ?_)
  · skip
    refine g_il_n 0 dX4_told_11 rfl ?_
    refine g_top (v := nI (if m ≤ 1000000 then m else 1000000)) (by rw [if_pos h1]) ?_
    exact g_iret dX4_told_12 (⟨rfl, rfl, rfl⟩)
  · skip
    refine g_ldc (v := nI 1000000) (by decide +kernel) dX4_told_6 ?_
    refine g_goto (tgt := 12) dX4_told_8 (by decide) ?_
    refine g_top (v := nI (if m ≤ 1000000 then m else 1000000)) (by rw [if_neg (by omega)]) ?_
    exact g_iret dX4_told_12 (⟨rfl, rfl, rfl⟩)

set_option maxRecDepth 100000 in
set_option maxHeartbeats 4000000 in
theorem c_X4_countOf (l : Launch) (γ : Gm) (I : IT) (L : LT) (P : PT) (k c : Nat) (f : Nat → Nat) (hk : 37 ≤ k) (hk2 : k < 71) (hc : c < 8) (hf : ∀ v, v < 16 → I k (c * 16 + v) = nI (f v)) : Ci l yX4_countOf wsX4_countOf 0 γ [.ref (γ.2.2 k), .int (nI c)] I L P (fun r I' L' => r = nI (sm f 16) ∧ I' = I ∧ L' = L) := by
  refine Ci_of (own := RX4) (cc := cX4_countOf) (maxL := 4) (by decide) rfl rfl (Nat.le_of_ble_eq_true rfl) ?_
  refine g_sub (lv' := [(0, .ref (γ.2.2 k)), (1, .int (nI c))]) [0, 1] rfl ?_
  refine g_ic (v := nI 0) dX4_countOf_0 (by decide) ?_
  refine g_is_n (lv' := [(2, .int (nI 0)), (0, .ref (γ.2.2 k)), (1, .int (nI c))]) dX4_countOf_1 (by decide) rfl ?_
  refine g_ic (v := nI 0) dX4_countOf_2 (by decide) ?_
  refine g_is_n (lv' := [(3, .int (nI 0)), (2, .int (nI 0)), (0, .ref (γ.2.2 k)), (1, .int (nI c))]) dX4_countOf_3 (by decide) rfl ?_
  have lp : ∀ (n : Nat) (v : Nat) (hv : v + n = 16), G E0 l cX4_countOf 4 wsX4_countOf RX4 (some .int) (rmd 0) γ P (AE γ) (Qi γ P (fun r I' L' => r = nI (sm f 16) ∧ I' = I ∧ L' = L)) 0 0 4 [(0, .ref (γ.2.2 k)), (1, .int (nI c)), (2, .int (nI (sm f v))), (3, .int (nI v))] [] I L := by
    intro n
    induction n with
    | zero =>
      intro v hv
      simp only [Nat.add_zero] at hv
      refine g_il_n 3 dX4_countOf_4 rfl ?_
      refine g_bi (v := nI 16) dX4_countOf_5 (by decide) ?_
      refine gn_ge (tgt := 27) dX4_countOf_7 (by decide) (by omega) (by omega) (fun h1 => ?_) (fun h1 => ?_)
      · skip
        refine g_il_n 2 dX4_countOf_27 rfl ?_
        refine g_top (v := nI (sm f 16)) (by rw [hv]) ?_
        exact g_iret dX4_countOf_28 (⟨rfl, rfl, rfl⟩)
      · skip
        exfalso; omega
    | succ n ih =>
      intro v hv
      refine g_il_n 3 dX4_countOf_4 rfl ?_
      refine g_bi (v := nI 16) dX4_countOf_5 (by decide) ?_
      refine gn_ge (tgt := 27) dX4_countOf_7 (by decide) (by omega) (by omega) (fun h1 => ?_) (fun h1 => ?_)
      · skip
        exfalso; omega
      · skip
        refine g_il_n 2 dX4_countOf_10 rfl ?_
        refine g_al_n 0 dX4_countOf_11 rfl ?_
        refine g_il_n 1 dX4_countOf_12 rfl ?_
        refine g_bi (v := nI 16) dX4_countOf_13 (by decide) ?_
        refine g_imul (v := nI (c * 16)) dX4_countOf_15 (pk_mul _ _) ?_
        refine g_il_n 3 dX4_countOf_16 rfl ?_
        refine g_iadd (v := nI (c * 16 + v)) dX4_countOf_17 (nI_add _ _) ?_
        refine g_iald (v := nI (f v)) k (c * 16 + v) (by omega) (by omega) (by rw [ln_37 (by omega)]; omega) (hf v (by omega)) dX4_countOf_18 ?_
        refine g_iadd (v := nI (sm f v + (f v))) dX4_countOf_19 (nI_add _ _) ?_
        refine g_is_n (lv' := [(2, .int (nI (sm f v + (f v)))), (0, .ref (γ.2.2 k)), (1, .int (nI c)), (3, .int (nI v))]) dX4_countOf_20 (by decide) rfl ?_
        refine g_inc (v := nI (v + 1)) (lv' := [(3, .int (nI (v + 1))), (2, .int (nI (sm f v + (f v)))), (0, .ref (γ.2.2 k)), (1, .int (nI c))]) 3 dX4_countOf_21 rfl (inc_1 _) (by decide) rfl ?_
        refine g_goto (tgt := 4) dX4_countOf_24 (by decide) ?_
        refine g_sub [2, 3, 1, 0] rfl ?_
        exact ih (v + 1) (by omega)
  refine g_sub [2, 3, 1, 0] rfl ?_
  exact lp 16 0 rfl

set_option maxRecDepth 100000 in
set_option maxHeartbeats 4000000 in
theorem c_X1_joinedValue (l : Launch) (γ : Gm) (I : IT) (L : LT) (P : PT) (m a b : Nat) (hm : m ≤ 3) (ha : a < 4) (hb : b < 4) : Ci l yX1_joinedValue wsX1_joinedValue 0 γ [.int (nI m), .int (nI a), .int (nI b)] I L P (fun r I' L' => r = enc (jv m a b) ∧ I' = I ∧ L' = L) := by
  refine Ci_of (own := RX1) (cc := cX1_joinedValue) (maxL := 3) (by decide) rfl rfl (Nat.le_of_ble_eq_true rfl) ?_
  refine g_sub (lv' := [(0, .int (nI m)), (1, .int (nI a)), (2, .int (nI b))]) [0, 1, 2] rfl ?_
  rcases (show m = 0 ∨ m = 1 ∨ m = 2 ∨ m = 3 by omega) with rfl | rfl | rfl | rfl
  · skip
    refine g_il_n 0 dX1_joinedValue_0 rfl ?_
    refine g_tsIn (off := 27) (tgt := 28) dX1_joinedValue_1 (by decide) (by decide) (by decide) (by decide) ?_
    refine g_il_n 1 dX1_joinedValue_28 rfl ?_
    exact g_iret dX1_joinedValue_29 (⟨rfl, rfl, rfl⟩)
  · skip
    refine g_il_n 0 dX1_joinedValue_0 rfl ?_
    refine g_tsIn (off := 29) (tgt := 30) dX1_joinedValue_1 (by decide) (by decide) (by decide) (by decide) ?_
    refine g_il_n 2 dX1_joinedValue_30 rfl ?_
    exact g_iret dX1_joinedValue_31 (⟨rfl, rfl, rfl⟩)
  · skip
    refine g_il_n 0 dX1_joinedValue_0 rfl ?_
    refine g_tsIn (off := 31) (tgt := 32) dX1_joinedValue_1 (by decide) (by decide) (by decide) (by decide) ?_
    refine g_il_n 1 dX1_joinedValue_32 rfl ?_
    refine g_il_n 2 dX1_joinedValue_33 rfl ?_
    refine gn_eq (tgt := 41) dX1_joinedValue_34 (by decide) (by omega) (by omega) (fun h1 => ?_) (fun h1 => ?_)
    · skip
      refine g_il_n 1 dX1_joinedValue_41 rfl ?_
      exact g_iret dX1_joinedValue_42 (⟨by rw [show jv 2 a b = some a by simp [jv, h1]]; rfl, rfl, rfl⟩)
    · skip
      refine g_il_n 2 dX1_joinedValue_37 rfl ?_
      refine gz_ne (tgt := 43) dX1_joinedValue_38 (by decide) (by omega) (fun h2 => ?_) (fun h2 => ?_)
      · skip
        refine g_il_n 1 dX1_joinedValue_43 rfl ?_
        refine gz_ne (tgt := 51) dX1_joinedValue_44 (by decide) (by omega) (fun h3 => ?_) (fun h3 => ?_)
        · skip
          refine g_ic (v := (-1 : Int32)) dX1_joinedValue_51 (by decide) ?_
          exact g_iret dX1_joinedValue_52 (⟨by rw [show jv 2 a b = none by simp [jv, h1, h2, h3]]; rfl, rfl, rfl⟩)
        · skip
          refine g_il_n 2 dX1_joinedValue_47 rfl ?_
          refine g_goto (tgt := 52) dX1_joinedValue_48 (by decide) ?_
          exact g_iret dX1_joinedValue_52 (⟨by rw [show jv 2 a b = some b by simp [jv, h1, h2, h3]; omega]; rfl, rfl, rfl⟩)
      · skip
        refine g_il_n 1 dX1_joinedValue_41 rfl ?_
        exact g_iret dX1_joinedValue_42 (⟨by rw [show jv 2 a b = some a by simp [jv, h2]]; rfl, rfl, rfl⟩)
  · skip
    refine g_il_n 0 dX1_joinedValue_0 rfl ?_
    refine g_tsOut (tgt := 53) dX1_joinedValue_1 (by decide) (by decide) ?_
    refine g_ic (v := nI 0) dX1_joinedValue_53 (by decide) ?_
    exact g_iret dX1_joinedValue_54 (⟨rfl, rfl, rfl⟩)

set_option maxRecDepth 100000 in
set_option maxHeartbeats 4000000 in
theorem c_X1_joinedPair (l : Launch) (γ : Gm) (I : IT) (L : LT) (P : PT) (m a b : Nat) (hm : m < 2 ^ 31) (h1 : m / 10 ≤ 3) (h2 : m % 10 ≤ 3) (ha : a < 16) (hb : b < 16) : Ci l yX1_joinedPair wsX1_joinedPair 1 γ [.int (nI m), .int (nI a), .int (nI b)] I L P (fun r I' L' => r = enc (jp m a b) ∧ I' = I ∧ L' = L) := by
  refine Ci_of (own := RX1) (cc := cX1_joinedPair) (maxL := 5) (by decide) rfl rfl (Nat.le_of_ble_eq_true rfl) ?_
  refine g_sub (lv' := [(0, .int (nI m)), (1, .int (nI a)), (2, .int (nI b))]) [0, 1, 2] rfl ?_
  refine g_il_n 0 dX1_joinedPair_0 rfl ?_
  refine g_bi (v := nI 10) dX1_joinedPair_1 (by decide) ?_
  refine g_idiv (v := nI (m / 10)) dX1_joinedPair_3 (by decide) (pk_div (by omega) (by omega) (by omega)) ?_
  refine g_il_n 1 dX1_joinedPair_4 rfl ?_
  refine g_ic (v := nI 4) dX1_joinedPair_5 (by decide) ?_
  refine g_idiv (v := nI (a / 4)) dX1_joinedPair_6 (by decide) (pk_div (by omega) (by omega) (by omega)) ?_
  refine g_il_n 2 dX1_joinedPair_7 rfl ?_
  refine g_ic (v := nI 4) dX1_joinedPair_8 (by decide) ?_
  refine g_idiv (v := nI (b / 4)) dX1_joinedPair_9 (by decide) (pk_div (by omega) (by omega) (by omega)) ?_
  refine g_ci (r_S (st := []) (c_X1_joinedValue l γ I L P (m / 10) (a / 4) (b / 4) h1 (by omega) (by omega)) gX1_joinedPair_X1_joinedValue rfl (by decide +kernel) ⟨Nat.le_of_ble_eq_true rfl, Nat.le_of_ble_eq_true rfl⟩ rfl (by decide) dX1_joinedPair_10 ⟨Nat.zero_le _, Nat.zero_le _⟩) ?_
  rintro r1 I1 L1 ⟨rfl, rfl, rfl⟩
  refine g_is_n (lv' := [(3, .int (enc (jv (m / 10) (a / 4) (b / 4)))), (0, .int (nI m)), (1, .int (nI a)), (2, .int (nI b))]) dX1_joinedPair_13 (by decide) rfl ?_
  refine g_il_n 1 dX1_joinedPair_14 rfl ?_
  refine g_bi (v := nI 10) dX1_joinedPair_15 (by decide) ?_
  refine g_irem (v := nI (m % 10)) dX1_joinedPair_17 (by decide) (pk_rem (by omega) (by omega) (by omega)) ?_
  refine g_il_n 2 dX1_joinedPair_18 rfl ?_
  refine g_ic (v := nI 4) dX1_joinedPair_19 (by decide) ?_
  refine g_irem (v := nI (a % 4)) dX1_joinedPair_20 (by decide) (pk_rem (by omega) (by omega) (by omega)) ?_
  refine g_il_n 3 dX1_joinedPair_21 rfl ?_
  refine g_ic (v := nI 4) dX1_joinedPair_22 (by decide) ?_
  refine g_irem (v := nI (b % 4)) dX1_joinedPair_23 (by decide) (pk_rem (by omega) (by omega) (by omega)) ?_
  refine g_ci (r_S (st := []) (c_X1_joinedValue l γ I L P (m % 10) (a % 4) (b % 4) h2 (by omega) (by omega)) gX1_joinedPair_X1_joinedValue rfl (by decide +kernel) ⟨Nat.le_of_ble_eq_true rfl, Nat.le_of_ble_eq_true rfl⟩ rfl (by decide) dX1_joinedPair_24 ⟨Nat.zero_le _, Nat.zero_le _⟩) ?_
  rintro r2 I2 L2 ⟨rfl, rfl, rfl⟩
  refine g_is (lv' := [(4, .int (enc (jv (m % 10) (a % 4) (b % 4)))), (3, .int (enc (jv (m / 10) (a / 4) (b / 4)))), (0, .int (nI m)), (1, .int (nI a)), (2, .int (nI b))]) dX1_joinedPair_27 (by decide) rfl ?_
  refine g_il_n 1 dX1_joinedPair_29 rfl ?_
  refine g_ic (v := (-1 : Int32)) dX1_joinedPair_30 (by decide) ?_
  refine g_ic_eq (tgt := 40) dX1_joinedPair_31 (by decide) (fun h3 => ?_) (fun h3 => ?_)
  · skip
    refine g_ic (v := (-1 : Int32)) dX1_joinedPair_40 (by decide) ?_
    refine g_goto (tgt := 50) dX1_joinedPair_41 (by decide) ?_
    exact g_iret dX1_joinedPair_50 (⟨by have e := enc_eq h3 (fun v hv => by have := jv_lt (by omega) (by omega) hv; omega); simp only [jp, e]; rfl, rfl, rfl⟩)
  · skip
    obtain ⟨u, hu⟩ := enc_ne h3
    refine g_il 0 dX1_joinedPair_34 rfl ?_
    refine g_ic (v := (-1 : Int32)) dX1_joinedPair_36 (by decide) ?_
    refine g_ic_ne (tgt := 44) dX1_joinedPair_37 (by decide) (fun h4 => ?_) (fun h4 => ?_)
    · skip
      obtain ⟨w, hw⟩ := enc_ne h4
      refine g_il_n 1 dX1_joinedPair_44 rfl ?_
      refine g_il 0 dX1_joinedPair_45 rfl ?_
      have hu4 := jv_lt (by omega) (by omega) hu
      have hw4 := jv_lt (by omega) (by omega) hw
      rw [show enc (jv (m / 10) (a / 4) (b / 4)) = nI u by rw [hu]; rfl, show enc (jv (m % 10) (a % 4) (b % 4)) = nI w by rw [hw]; rfl]
      refine g_ci (r_SN (st := []) (host := RX4) (c_X4_pairOf l γ I L P u w) gX1_joinedPair_X4_pairOf_n46 rfl nm_RX1_46 (by decide +kernel) (by decide +kernel) (by decide +kernel) ⟨Nat.le_of_ble_eq_true rfl, Nat.le_of_ble_eq_true rfl⟩ rfl (by decide) dX1_joinedPair_47 ⟨Nat.zero_le _, Nat.zero_le _⟩) ?_
      rintro r3 I3 L3 ⟨rfl, rfl, rfl⟩
      exact g_iret dX1_joinedPair_50 (⟨by simp only [jp, hu, hw, enc]; congr 1; omega, rfl, rfl⟩)
    · skip
      refine g_ic (v := (-1 : Int32)) dX1_joinedPair_40 (by decide) ?_
      refine g_goto (tgt := 50) dX1_joinedPair_41 (by decide) ?_
      exact g_iret dX1_joinedPair_50 (⟨by have e := enc_eq h4 (fun v hv => by have := jv_lt (by omega) (by omega) hv; omega); simp only [jp, hu, e]; rfl, rfl, rfl⟩)

theorem in_X1_defineWord_1 : ∀ w ∈ wsX10, w ∈ wsX1_defineWord := by decide +kernel
set_option maxRecDepth 100000 in
set_option maxHeartbeats 4000000 in
theorem c_X1_defineWord (l : Launch) (γ : Gm) (I : IT) (L : LT) (P : PT) (w c v : Nat) (hw : w < 9) : Cv l yX1_defineWord wsX1_defineWord 0 γ [.ref (γ.2.2 1), .int (nI w), .int (nI c), .int (nI v)] I L P (fun I' L' => I' = va_up (va_up I 14 (upd (I 14) w (nI c))) 15 (upd (I 15) w (nI v)) ∧ L' = L) := by
  refine Cv_of (own := RX1) (cc := cX1_defineWord) (maxL := 4) (by decide) rfl rfl (Nat.le_of_ble_eq_true rfl) ?_
  refine g_sub (lv' := [(0, .ref (γ.2.2 1)), (1, .int (nI w)), (2, .int (nI c)), (3, .int (nI v))]) [0, 1, 2, 3] rfl ?_
  refine g_al_n 0 dX1_defineWord_0 rfl ?_
  refine g_get (v := .ref (γ.2.2 14)) 1 1 (by decide) rfl in_X1_defineWord_1 rfl (by decide) (by decide +kernel) rfl rfl dX1_defineWord_1 ?_
  refine g_il_n 1 dX1_defineWord_4 rfl ?_
  refine g_il_n 2 dX1_defineWord_5 rfl ?_
  refine g_iast 14 w (by decide) (by decide) (show _ < 9 by omega) dX1_defineWord_6 ?_
  refine g_al_n 0 dX1_defineWord_7 rfl ?_
  refine g_get (v := .ref (γ.2.2 15)) 1 2 (by decide) rfl in_X1_defineWord_1 rfl (by decide) (by decide +kernel) rfl rfl dX1_defineWord_8 ?_
  refine g_il_n 1 dX1_defineWord_11 rfl ?_
  refine g_il_n 3 dX1_defineWord_12 rfl ?_
  refine g_iast 15 w (by decide) (by decide) (show _ < 9 by omega) dX1_defineWord_13 ?_
  exact g_vret dX1_defineWord_14 (⟨rfl, rfl⟩)

theorem in_X1_defineRule_1 : ∀ w ∈ wsX10, w ∈ wsX1_defineRule := by decide +kernel
set_option maxRecDepth 100000 in
set_option maxHeartbeats 4000000 in
theorem c_X1_defineRule (l : Launch) (γ : Gm) (I : IT) (L : LT) (P : PT) (q c f t m : Nat) (hq : q < 8) (hm : m < 2 ^ 31) (h1 : m / 10 ≤ 3) (h2 : m % 10 ≤ 3) : Cv l yX1_defineRule wsX1_defineRule 2 γ [.ref (γ.2.2 1), .int (nI q), .int (nI c), .int (nI f), .int (nI t), .int (nI m)] I L P (fun I' L' => (∃ F : Nat → Int32, I' = va_up (va_up (va_up (va_up I 16 (upd (I 16) q (nI c))) 17 (upd (I 17) q (nI f))) 18 (upd (I 18) q (nI t))) (q + 29) F ∧ ∀ k, k < 256 → F k = enc (jp m (k / 16) (k % 16))) ∧ L' = L) := by
  refine Cv_of (own := RX1) (cc := cX1_defineRule) (maxL := 7) (by decide) rfl rfl (Nat.le_of_ble_eq_true rfl) ?_
  refine g_sub (lv' := [(0, .ref (γ.2.2 1)), (1, .int (nI q)), (2, .int (nI c)), (3, .int (nI f)), (4, .int (nI t)), (5, .int (nI m))]) [0, 1, 2, 3, 4, 5] rfl ?_
  refine g_al_n 0 dX1_defineRule_0 rfl ?_
  refine g_get (v := .ref (γ.2.2 16)) 1 4 (by decide) rfl in_X1_defineRule_1 rfl (by decide) (by decide +kernel) rfl rfl dX1_defineRule_1 ?_
  refine g_il_n 1 dX1_defineRule_4 rfl ?_
  refine g_il_n 2 dX1_defineRule_5 rfl ?_
  refine g_iast 16 q (by decide) (by decide) (show _ < 8 by omega) dX1_defineRule_6 ?_
  refine g_al_n 0 dX1_defineRule_7 rfl ?_
  refine g_get (v := .ref (γ.2.2 17)) 1 5 (by decide) rfl in_X1_defineRule_1 rfl (by decide) (by decide +kernel) rfl rfl dX1_defineRule_8 ?_
  refine g_il_n 1 dX1_defineRule_11 rfl ?_
  refine g_il_n 3 dX1_defineRule_12 rfl ?_
  refine g_iast 17 q (by decide) (by decide) (show _ < 8 by omega) dX1_defineRule_13 ?_
  refine g_al_n 0 dX1_defineRule_14 rfl ?_
  refine g_get (v := .ref (γ.2.2 18)) 1 6 (by decide) rfl in_X1_defineRule_1 rfl (by decide) (by decide +kernel) rfl rfl dX1_defineRule_15 ?_
  refine g_il_n 1 dX1_defineRule_18 rfl ?_
  refine g_il 4 dX1_defineRule_19 rfl ?_
  refine g_iast 18 q (by decide) (by decide) (show _ < 8 by omega) dX1_defineRule_21 ?_
  refine g_eq (I' := va_up (va_up (va_up I 16 (upd (I 16) q (nI c))) 17 (upd (I 17) q (nI f))) 18 (upd (I 18) q (nI t))) rfl rfl ?_
  obtain ⟨J, hJ⟩ : ∃ J, J = va_up (va_up (va_up I 16 (upd (I 16) q (nI c))) 17 (upd (I 17) q (nI f))) 18 (upd (I 18) q (nI t)) := ⟨_, rfl⟩
  rw [← hJ]
  refine g_ic (v := nI 0) dX1_defineRule_22 (by decide) ?_
  refine g_is (lv' := [(6, .int (nI 0)), (0, .ref (γ.2.2 1)), (1, .int (nI q)), (2, .int (nI c)), (3, .int (nI f)), (4, .int (nI t)), (5, .int (nI m))]) dX1_defineRule_23 (by decide) rfl ?_
  have lp : ∀ (n : Nat) (k : Nat) (F : Nat → Int32) (hk : k + n = 256) (hF : ∀ j, j < k → F j = enc (jp m (j / 16) (j % 16))), G E0 l cX1_defineRule 7 wsX1_defineRule RX1 none (rmd 2) γ P (AE γ) (Qv γ P (fun I' L' => (∃ F : Nat → Int32, I' = va_up (va_up (va_up (va_up I 16 (upd (I 16) q (nI c))) 17 (upd (I 17) q (nI f))) 18 (upd (I 18) q (nI t))) (q + 29) F ∧ ∀ k, k < 256 → F k = enc (jp m (k / 16) (k % 16))) ∧ L' = L)) 0 0 25 [(0, .ref (γ.2.2 1)), (1, .int (nI q)), (5, .int (nI m)), (6, .int (nI k))] [] (va_up J (q + 29) F) L := by
    intro n
    induction n with
    | zero =>
      intro k F hk hF
      simp only [Nat.add_zero] at hk
      refine g_il 3 dX1_defineRule_25 rfl ?_
      refine g_si (v := nI 256) dX1_defineRule_27 (by decide) ?_
      refine gn_ge (tgt := 63) dX1_defineRule_30 (by decide) (by omega) (by omega) (fun h3 => ?_) (fun h3 => ?_)
      · skip
        exact g_vret dX1_defineRule_63 (⟨⟨F, by rw [← hJ], fun j hj => hF j (by omega)⟩, rfl⟩)
      · skip
        exfalso; omega
    | succ n ih =>
      intro k F hk hF
      refine g_il 3 dX1_defineRule_25 rfl ?_
      refine g_si (v := nI 256) dX1_defineRule_27 (by decide) ?_
      refine gn_ge (tgt := 63) dX1_defineRule_30 (by decide) (by omega) (by omega) (fun h3 => ?_) (fun h3 => ?_)
      · skip
        exfalso; omega
      · skip
        refine g_al_n 0 dX1_defineRule_33 rfl ?_
        refine g_get (v := .ref (γ.2.2 5)) 1 7 (by decide) rfl in_X1_defineRule_1 rfl (by decide) (by decide +kernel) rfl rfl dX1_defineRule_34 ?_
        refine g_il_n 1 dX1_defineRule_37 rfl ?_
        refine g_aald (q := γ.2.2 (q + 29)) 5 q (by decide) rfl (by decide) (show _ < 8 by omega) (if_pos (show _ < 8 by omega)) dX1_defineRule_38 ?_
        refine g_il 3 dX1_defineRule_39 rfl ?_
        refine g_il 2 dX1_defineRule_41 rfl ?_
        refine g_il 3 dX1_defineRule_43 rfl ?_
        refine g_bi (v := nI 16) dX1_defineRule_45 (by decide) ?_
        refine g_idiv (v := nI (k / 16)) dX1_defineRule_47 (by decide) (pk_div (by omega) (by omega) (by omega)) ?_
        refine g_il 3 dX1_defineRule_48 rfl ?_
        refine g_bi (v := nI 16) dX1_defineRule_50 (by decide) ?_
        refine g_irem (v := nI (k % 16)) dX1_defineRule_52 (by decide) (pk_rem (by omega) (by omega) (by omega)) ?_
        refine g_ci (r_S (st := [.int (nI k), .ref (γ.2.2 (q + 29))]) (c_X1_joinedPair l γ (va_up J (q + 29) F) L P m (k / 16) (k % 16) hm h1 h2 (by omega) (by omega)) gX1_defineRule_X1_joinedPair rfl (by decide +kernel) ⟨Nat.le_of_ble_eq_true rfl, Nat.le_of_ble_eq_true rfl⟩ rfl (by decide) dX1_defineRule_53 ⟨Nat.zero_le _, Nat.zero_le _⟩) ?_
        rintro r1 I1 L1 ⟨rfl, rfl, rfl⟩
        refine g_iast (q + 29) k (by omega) (by omega) (by rw [ln_29 hq]; omega) dX1_defineRule_56 ?_
        refine g_eq (I' := va_up J (q + 29) (upd F k (enc (jp m (k / 16) (k % 16))))) (va_uw _ _ _ _ _) rfl ?_
        refine g_inc (v := nI (k + 1)) (lv' := [(6, .int (nI (k + 1))), (0, .ref (γ.2.2 1)), (1, .int (nI q)), (5, .int (nI m))]) 3 dX1_defineRule_57 rfl (inc_1 _) (by decide) rfl ?_
        refine g_goto (tgt := 25) dX1_defineRule_60 (by decide) ?_
        refine g_sub [1, 2, 3, 0] rfl ?_
        exact ih (k + 1) (upd F k (enc (jp m (k / 16) (k % 16)))) (by omega) (fun j hj => by
          by_cases e : j = k
          · subst e; exact upd_s _ _ _
          · rw [upd_n _ _ e]; exact hF j (by omega))
  refine g_sub [1, 2, 6, 0] rfl ?_
  refine g_eq (I' := va_up J (q + 29) (J (q + 29))) (va_id _ _).symm rfl ?_
  exact lp 256 0 _ rfl (fun j hj => by omega)
end
