section
-- ===== PART A: goes FIRST, ahead of the names: the tables' words, and 'selects' of the private methods out of them =====
/-- a private method of a class that the tables say can be made, by its rows of tables_1 -/
def lw_okq (q : MethodName × Nat) : Prop := (q.1.cls ≠ "java/lang/invoke/MethodHandle" ∧ q.1.cls ≠ "java/lang/invoke/VarHandle") ∧ Cond.instantiable q.1.cls q.2 ∈ tables_1 ∧ Cond.privateMethod q.1 ∈ tables_1 ∧ Cond.instanceMethod q.1 ∈ tables_1
theorem lw_p0 : lw_okq (⟨"Epsilonhall", "ordinalAt", "(I)LEpsilonhall$Ordinal;"⟩, 12) := ⟨⟨by decide +kernel, by decide +kernel⟩, List.mem_of_getElem? (i := 42) (by decide +kernel), List.mem_of_getElem? (i := 275) (by decide +kernel), List.mem_of_getElem? (i := 276) (by decide +kernel)⟩
theorem lw_p1 : lw_okq (⟨"java/lang/Throwable", "fillInStackTrace", "(I)Ljava/lang/Throwable;"⟩, 6) := ⟨⟨by decide +kernel, by decide +kernel⟩, List.mem_of_getElem? (i := 319) (by decide +kernel), List.mem_of_getElem? (i := 317) (by decide +kernel), List.mem_of_getElem? (i := 318) (by decide +kernel)⟩
theorem lw_p2 : lw_okq (⟨"Epsilonhall", "isComparedOneWay", "(LEpsilonhall$Ordinal;I)Z"⟩, 12) := ⟨⟨by decide +kernel, by decide +kernel⟩, List.mem_of_getElem? (i := 42) (by decide +kernel), List.mem_of_getElem? (i := 368) (by decide +kernel), List.mem_of_getElem? (i := 369) (by decide +kernel)⟩
theorem lw_p3 : lw_okq (⟨"Epsilonhall$Ordinal", "lessen", "(I)V"⟩, 4) := ⟨⟨by decide +kernel, by decide +kernel⟩, List.mem_of_getElem? (i := 96) (by decide +kernel), List.mem_of_getElem? (i := 402) (by decide +kernel), List.mem_of_getElem? (i := 403) (by decide +kernel)⟩
theorem lw_p4 : lw_okq (⟨"Epsilonhall$Ordinal", "setCount", "(IJ)V"⟩, 4) := ⟨⟨by decide +kernel, by decide +kernel⟩, List.mem_of_getElem? (i := 96) (by decide +kernel), List.mem_of_getElem? (i := 406) (by decide +kernel), List.mem_of_getElem? (i := 407) (by decide +kernel)⟩
theorem lw_p5 : lw_okq (⟨"Epsilonhall$Ordinal", "partOne", "(I)V"⟩, 4) := ⟨⟨by decide +kernel, by decide +kernel⟩, List.mem_of_getElem? (i := 96) (by decide +kernel), List.mem_of_getElem? (i := 410) (by decide +kernel), List.mem_of_getElem? (i := 411) (by decide +kernel)⟩
theorem lw_p6 : lw_okq (⟨"Epsilonhall$Ordinal", "lastAt", "(I)I"⟩, 4) := ⟨⟨by decide +kernel, by decide +kernel⟩, List.mem_of_getElem? (i := 96) (by decide +kernel), List.mem_of_getElem? (i := 414) (by decide +kernel), List.mem_of_getElem? (i := 415) (by decide +kernel)⟩
theorem lw_p7 : lw_okq (⟨"Epsilonhall", "keep", "(LEpsilonhall$Ordinal;)I"⟩, 12) := ⟨⟨by decide +kernel, by decide +kernel⟩, List.mem_of_getElem? (i := 42) (by decide +kernel), List.mem_of_getElem? (i := 456) (by decide +kernel), List.mem_of_getElem? (i := 457) (by decide +kernel)⟩
theorem lw_p8 : lw_okq (⟨"Epsilonhall$Ordinal", "appendOnward", "(LEpsilonhall$Ordinal;I)V"⟩, 4) := ⟨⟨by decide +kernel, by decide +kernel⟩, List.mem_of_getElem? (i := 96) (by decide +kernel), List.mem_of_getElem? (i := 539) (by decide +kernel), List.mem_of_getElem? (i := 540) (by decide +kernel)⟩
theorem lw_p9 : lw_okq (⟨"Epsilonhall$Text", "add", "(C)V"⟩, 2) := ⟨⟨by decide +kernel, by decide +kernel⟩, List.mem_of_getElem? (i := 179) (by decide +kernel), List.mem_of_getElem? (i := 671) (by decide +kernel), List.mem_of_getElem? (i := 672) (by decide +kernel)⟩
theorem lw_p10 : lw_okq (⟨"Epsilonhall$Text", "addDigits", "(I)V"⟩, 2) := ⟨⟨by decide +kernel, by decide +kernel⟩, List.mem_of_getElem? (i := 179) (by decide +kernel), List.mem_of_getElem? (i := 680) (by decide +kernel), List.mem_of_getElem? (i := 681) (by decide +kernel)⟩
theorem lw_p11 : lw_okq (⟨"Epsilonhall$Walk", "isToldAtOnce", "()Z"⟩, 8) := ⟨⟨by decide +kernel, by decide +kernel⟩, List.mem_of_getElem? (i := 143) (by decide +kernel), List.mem_of_getElem? (i := 736) (by decide +kernel), List.mem_of_getElem? (i := 737) (by decide +kernel)⟩
theorem lw_p12 : lw_okq (⟨"Epsilonhall$Walk", "takeFrame", "()Z"⟩, 8) := ⟨⟨by decide +kernel, by decide +kernel⟩, List.mem_of_getElem? (i := 143) (by decide +kernel), List.mem_of_getElem? (i := 742) (by decide +kernel), List.mem_of_getElem? (i := 743) (by decide +kernel)⟩
theorem lw_p13 : lw_okq (⟨"Epsilonhall$Walk", "addFrame", "()Z"⟩, 8) := ⟨⟨by decide +kernel, by decide +kernel⟩, List.mem_of_getElem? (i := 143) (by decide +kernel), List.mem_of_getElem? (i := 746) (by decide +kernel), List.mem_of_getElem? (i := 747) (by decide +kernel)⟩
theorem lw_p14 : lw_okq (⟨"Epsilonhall", "checkRoomForGame", "()V"⟩, 12) := ⟨⟨by decide +kernel, by decide +kernel⟩, List.mem_of_getElem? (i := 42) (by decide +kernel), List.mem_of_getElem? (i := 776) (by decide +kernel), List.mem_of_getElem? (i := 777) (by decide +kernel)⟩
theorem lw_p15 : lw_okq (⟨"Epsilonhall$Ordinal", "firstNotAbove", "(LEpsilonhall$Ordinal;)I"⟩, 4) := ⟨⟨by decide +kernel, by decide +kernel⟩, List.mem_of_getElem? (i := 96) (by decide +kernel), List.mem_of_getElem? (i := 875) (by decide +kernel), List.mem_of_getElem? (i := 876) (by decide +kernel)⟩
def lw_privs_1 : List (MethodName × Nat) := [(⟨"Epsilonhall", "ordinalAt", "(I)LEpsilonhall$Ordinal;"⟩, 12), (⟨"java/lang/Throwable", "fillInStackTrace", "(I)Ljava/lang/Throwable;"⟩, 6), (⟨"Epsilonhall", "isComparedOneWay", "(LEpsilonhall$Ordinal;I)Z"⟩, 12), (⟨"Epsilonhall$Ordinal", "lessen", "(I)V"⟩, 4), (⟨"Epsilonhall$Ordinal", "setCount", "(IJ)V"⟩, 4), (⟨"Epsilonhall$Ordinal", "partOne", "(I)V"⟩, 4), (⟨"Epsilonhall$Ordinal", "lastAt", "(I)I"⟩, 4), (⟨"Epsilonhall", "keep", "(LEpsilonhall$Ordinal;)I"⟩, 12), (⟨"Epsilonhall$Ordinal", "appendOnward", "(LEpsilonhall$Ordinal;I)V"⟩, 4), (⟨"Epsilonhall$Text", "add", "(C)V"⟩, 2), (⟨"Epsilonhall$Text", "addDigits", "(I)V"⟩, 2), (⟨"Epsilonhall$Walk", "isToldAtOnce", "()Z"⟩, 8), (⟨"Epsilonhall$Walk", "takeFrame", "()Z"⟩, 8), (⟨"Epsilonhall$Walk", "addFrame", "()Z"⟩, 8), (⟨"Epsilonhall", "checkRoomForGame", "()V"⟩, 12), (⟨"Epsilonhall$Ordinal", "firstNotAbove", "(LEpsilonhall$Ordinal;)I"⟩, 4)]
theorem lw_r1 : ∀ q ∈ lw_privs_1, lw_okq q := List.forall_mem_cons.mpr ⟨lw_p0, List.forall_mem_cons.mpr ⟨lw_p1, List.forall_mem_cons.mpr ⟨lw_p2, List.forall_mem_cons.mpr ⟨lw_p3, List.forall_mem_cons.mpr ⟨lw_p4, List.forall_mem_cons.mpr ⟨lw_p5, List.forall_mem_cons.mpr ⟨lw_p6, List.forall_mem_cons.mpr ⟨lw_p7, List.forall_mem_cons.mpr ⟨lw_p8, List.forall_mem_cons.mpr ⟨lw_p9, List.forall_mem_cons.mpr ⟨lw_p10, List.forall_mem_cons.mpr ⟨lw_p11, List.forall_mem_cons.mpr ⟨lw_p12, List.forall_mem_cons.mpr ⟨lw_p13, List.forall_mem_cons.mpr ⟨lw_p14, List.forall_mem_cons.mpr ⟨lw_p15, fun _ h => absurd h List.not_mem_nil⟩⟩⟩⟩⟩⟩⟩⟩⟩⟩⟩⟩⟩⟩⟩⟩
theorem lw_p16 : lw_okq (⟨"Epsilonhall$Ordinal", "open", "(II)V"⟩, 4) := ⟨⟨by decide +kernel, by decide +kernel⟩, List.mem_of_getElem? (i := 96) (by decide +kernel), List.mem_of_getElem? (i := 879) (by decide +kernel), List.mem_of_getElem? (i := 880) (by decide +kernel)⟩
theorem lw_p17 : lw_okq (⟨"Epsilonhall", "place", "(LEpsilonhall$Game;)I"⟩, 12) := ⟨⟨by decide +kernel, by decide +kernel⟩, List.mem_of_getElem? (i := 42) (by decide +kernel), List.mem_of_getElem? (i := 911) (by decide +kernel), List.mem_of_getElem? (i := 912) (by decide +kernel)⟩
theorem lw_p18 : lw_okq (⟨"Epsilonhall$Hydra", "hang", "(I)V"⟩, 9) := ⟨⟨by decide +kernel, by decide +kernel⟩, List.mem_of_getElem? (i := 926) (by decide +kernel), List.mem_of_getElem? (i := 932) (by decide +kernel), List.mem_of_getElem? (i := 933) (by decide +kernel)⟩
theorem lw_p19 : lw_okq (⟨"Epsilonhall", "gameAt", "(I)LEpsilonhall$Game;"⟩, 12) := ⟨⟨by decide +kernel, by decide +kernel⟩, List.mem_of_getElem? (i := 42) (by decide +kernel), List.mem_of_getElem? (i := 985) (by decide +kernel), List.mem_of_getElem? (i := 986) (by decide +kernel)⟩
theorem lw_p20 : lw_okq (⟨"Epsilonhall$Bases", "base", "()I"⟩, 5) := ⟨⟨by decide +kernel, by decide +kernel⟩, List.mem_of_getElem? (i := 964) (by decide +kernel), List.mem_of_getElem? (i := 1105) (by decide +kernel), List.mem_of_getElem? (i := 1106) (by decide +kernel)⟩
theorem lw_p21 : lw_okq (⟨"Epsilonhall$Hydra", "isHead", "(I)Z"⟩, 9) := ⟨⟨by decide +kernel, by decide +kernel⟩, List.mem_of_getElem? (i := 926) (by decide +kernel), List.mem_of_getElem? (i := 1124) (by decide +kernel), List.mem_of_getElem? (i := 1125) (by decide +kernel)⟩
theorem lw_p22 : lw_okq (⟨"Epsilonhall$Hydra", "remove", "(I)V"⟩, 9) := ⟨⟨by decide +kernel, by decide +kernel⟩, List.mem_of_getElem? (i := 926) (by decide +kernel), List.mem_of_getElem? (i := 1132) (by decide +kernel), List.mem_of_getElem? (i := 1133) (by decide +kernel)⟩
theorem lw_p23 : lw_okq (⟨"Epsilonhall$Hydra", "markBranch", "(I)I"⟩, 9) := ⟨⟨by decide +kernel, by decide +kernel⟩, List.mem_of_getElem? (i := 926) (by decide +kernel), List.mem_of_getElem? (i := 1136) (by decide +kernel), List.mem_of_getElem? (i := 1137) (by decide +kernel)⟩
theorem lw_p24 : lw_okq (⟨"Epsilonhall$Hydra", "twinOn", "(II)I"⟩, 9) := ⟨⟨by decide +kernel, by decide +kernel⟩, List.mem_of_getElem? (i := 926) (by decide +kernel), List.mem_of_getElem? (i := 1140) (by decide +kernel), List.mem_of_getElem? (i := 1141) (by decide +kernel)⟩
theorem lw_p25 : lw_okq (⟨"Epsilonhall$Hydra", "setTwin", "(II)V"⟩, 9) := ⟨⟨by decide +kernel, by decide +kernel⟩, List.mem_of_getElem? (i := 926) (by decide +kernel), List.mem_of_getElem? (i := 1144) (by decide +kernel), List.mem_of_getElem? (i := 1145) (by decide +kernel)⟩
theorem lw_p26 : lw_okq (⟨"Epsilonhall$Hydra", "copyBranch", "(II)V"⟩, 9) := ⟨⟨by decide +kernel, by decide +kernel⟩, List.mem_of_getElem? (i := 926) (by decide +kernel), List.mem_of_getElem? (i := 1149) (by decide +kernel), List.mem_of_getElem? (i := 1150) (by decide +kernel)⟩
theorem lw_p27 : lw_okq (⟨"Epsilonhall$Worm", "set", "(II)V"⟩, 6) := ⟨⟨by decide +kernel, by decide +kernel⟩, List.mem_of_getElem? (i := 780) (by decide +kernel), List.mem_of_getElem? (i := 1157) (by decide +kernel), List.mem_of_getElem? (i := 1158) (by decide +kernel)⟩
theorem lw_p28 : lw_okq (⟨"Epsilonhall$Embedding", "read", "(LEpsilonhall$Hydra;[I)I"⟩, 8) := ⟨⟨by decide +kernel, by decide +kernel⟩, List.mem_of_getElem? (i := 194) (by decide +kernel), List.mem_of_getElem? (i := 1222) (by decide +kernel), List.mem_of_getElem? (i := 1223) (by decide +kernel)⟩
theorem lw_p29 : lw_okq (⟨"Epsilonhall$Embedding", "isAboveTwig", "(II)Z"⟩, 8) := ⟨⟨by decide +kernel, by decide +kernel⟩, List.mem_of_getElem? (i := 194) (by decide +kernel), List.mem_of_getElem? (i := 1227) (by decide +kernel), List.mem_of_getElem? (i := 1228) (by decide +kernel)⟩
theorem lw_p30 : lw_okq (⟨"Epsilonhall$Embedding", "otherHangsOn", "(II)Z"⟩, 8) := ⟨⟨by decide +kernel, by decide +kernel⟩, List.mem_of_getElem? (i := 194) (by decide +kernel), List.mem_of_getElem? (i := 1231) (by decide +kernel), List.mem_of_getElem? (i := 1232) (by decide +kernel)⟩
theorem lw_p31 : lw_okq (⟨"Epsilonhall$Embedding", "isNoted", "(II)Z"⟩, 8) := ⟨⟨by decide +kernel, by decide +kernel⟩, List.mem_of_getElem? (i := 194) (by decide +kernel), List.mem_of_getElem? (i := 1238) (by decide +kernel), List.mem_of_getElem? (i := 1239) (by decide +kernel)⟩
def lw_privs_2 : List (MethodName × Nat) := [(⟨"Epsilonhall$Ordinal", "open", "(II)V"⟩, 4), (⟨"Epsilonhall", "place", "(LEpsilonhall$Game;)I"⟩, 12), (⟨"Epsilonhall$Hydra", "hang", "(I)V"⟩, 9), (⟨"Epsilonhall", "gameAt", "(I)LEpsilonhall$Game;"⟩, 12), (⟨"Epsilonhall$Bases", "base", "()I"⟩, 5), (⟨"Epsilonhall$Hydra", "isHead", "(I)Z"⟩, 9), (⟨"Epsilonhall$Hydra", "remove", "(I)V"⟩, 9), (⟨"Epsilonhall$Hydra", "markBranch", "(I)I"⟩, 9), (⟨"Epsilonhall$Hydra", "twinOn", "(II)I"⟩, 9), (⟨"Epsilonhall$Hydra", "setTwin", "(II)V"⟩, 9), (⟨"Epsilonhall$Hydra", "copyBranch", "(II)V"⟩, 9), (⟨"Epsilonhall$Worm", "set", "(II)V"⟩, 6), (⟨"Epsilonhall$Embedding", "read", "(LEpsilonhall$Hydra;[I)I"⟩, 8), (⟨"Epsilonhall$Embedding", "isAboveTwig", "(II)Z"⟩, 8), (⟨"Epsilonhall$Embedding", "otherHangsOn", "(II)Z"⟩, 8), (⟨"Epsilonhall$Embedding", "isNoted", "(II)Z"⟩, 8)]
theorem lw_r2 : ∀ q ∈ lw_privs_2, lw_okq q := List.forall_mem_cons.mpr ⟨lw_p16, List.forall_mem_cons.mpr ⟨lw_p17, List.forall_mem_cons.mpr ⟨lw_p18, List.forall_mem_cons.mpr ⟨lw_p19, List.forall_mem_cons.mpr ⟨lw_p20, List.forall_mem_cons.mpr ⟨lw_p21, List.forall_mem_cons.mpr ⟨lw_p22, List.forall_mem_cons.mpr ⟨lw_p23, List.forall_mem_cons.mpr ⟨lw_p24, List.forall_mem_cons.mpr ⟨lw_p25, List.forall_mem_cons.mpr ⟨lw_p26, List.forall_mem_cons.mpr ⟨lw_p27, List.forall_mem_cons.mpr ⟨lw_p28, List.forall_mem_cons.mpr ⟨lw_p29, List.forall_mem_cons.mpr ⟨lw_p30, List.forall_mem_cons.mpr ⟨lw_p31, fun _ h => absurd h List.not_mem_nil⟩⟩⟩⟩⟩⟩⟩⟩⟩⟩⟩⟩⟩⟩⟩⟩
theorem lw_p32 : lw_okq (⟨"Epsilonhall$Embedding", "isIn", "(II)Z"⟩, 8) := ⟨⟨by decide +kernel, by decide +kernel⟩, List.mem_of_getElem? (i := 194) (by decide +kernel), List.mem_of_getElem? (i := 1242) (by decide +kernel), List.mem_of_getElem? (i := 1243) (by decide +kernel)⟩
theorem lw_p33 : lw_okq (⟨"Epsilonhall$Embedding", "hangsOn", "(II)Z"⟩, 8) := ⟨⟨by decide +kernel, by decide +kernel⟩, List.mem_of_getElem? (i := 194) (by decide +kernel), List.mem_of_getElem? (i := 1246) (by decide +kernel), List.mem_of_getElem? (i := 1247) (by decide +kernel)⟩
theorem lw_p34 : lw_okq (⟨"Epsilonhall$Embedding", "note", "(IIZ)V"⟩, 8) := ⟨⟨by decide +kernel, by decide +kernel⟩, List.mem_of_getElem? (i := 194) (by decide +kernel), List.mem_of_getElem? (i := 1253) (by decide +kernel), List.mem_of_getElem? (i := 1254) (by decide +kernel)⟩
theorem lw_p35 : lw_okq (⟨"Epsilonhall$Program", "doStep", "(I)V"⟩, 11) := ⟨⟨by decide +kernel, by decide +kernel⟩, List.mem_of_getElem? (i := 54) (by decide +kernel), List.mem_of_getElem? (i := 1316) (by decide +kernel), List.mem_of_getElem? (i := 1317) (by decide +kernel)⟩
theorem lw_p36 : lw_okq (⟨"Epsilonhall$Program", "told", "(I)I"⟩, 11) := ⟨⟨by decide +kernel, by decide +kernel⟩, List.mem_of_getElem? (i := 54) (by decide +kernel), List.mem_of_getElem? (i := 1321) (by decide +kernel), List.mem_of_getElem? (i := 1322) (by decide +kernel)⟩
theorem lw_p37 : lw_okq (⟨"Epsilonhall$Program", "isLess", "()Z"⟩, 11) := ⟨⟨by decide +kernel, by decide +kernel⟩, List.mem_of_getElem? (i := 54) (by decide +kernel), List.mem_of_getElem? (i := 1325) (by decide +kernel), List.mem_of_getElem? (i := 1326) (by decide +kernel)⟩
theorem lw_p38 : lw_okq (⟨"Epsilonhall$Program", "rankOf", "(I)I"⟩, 11) := ⟨⟨by decide +kernel, by decide +kernel⟩, List.mem_of_getElem? (i := 54) (by decide +kernel), List.mem_of_getElem? (i := 1349) (by decide +kernel), List.mem_of_getElem? (i := 1350) (by decide +kernel)⟩
theorem lw_p39 : lw_okq (⟨"java/util/ArrayList", "add", "(Ljava/lang/Object;[Ljava/lang/Object;I)V"⟩, 3) := ⟨⟨by decide +kernel, by decide +kernel⟩, List.mem_of_getElem? (i := 1392) (by decide +kernel), List.mem_of_getElem? (i := 1517) (by decide +kernel), List.mem_of_getElem? (i := 1518) (by decide +kernel)⟩
theorem lw_p40 : lw_okq (⟨"java/util/ArrayList", "grow", "()[Ljava/lang/Object;"⟩, 3) := ⟨⟨by decide +kernel, by decide +kernel⟩, List.mem_of_getElem? (i := 1392) (by decide +kernel), List.mem_of_getElem? (i := 1521) (by decide +kernel), List.mem_of_getElem? (i := 1522) (by decide +kernel)⟩
theorem lw_p41 : lw_okq (⟨"java/util/ArrayList", "grow", "(I)[Ljava/lang/Object;"⟩, 3) := ⟨⟨by decide +kernel, by decide +kernel⟩, List.mem_of_getElem? (i := 1392) (by decide +kernel), List.mem_of_getElem? (i := 1525) (by decide +kernel), List.mem_of_getElem? (i := 1526) (by decide +kernel)⟩
theorem lw_p42 : lw_okq (⟨"EpsilonhallModel", "adds", "(LEpsilonhallModel$Ord;II)I"⟩, 20) := ⟨⟨by decide +kernel, by decide +kernel⟩, List.mem_of_getElem? (i := 1385) (by decide +kernel), List.mem_of_getElem? (i := 1602) (by decide +kernel), List.mem_of_getElem? (i := 1603) (by decide +kernel)⟩
theorem lw_p43 : lw_okq (⟨"EpsilonhallModel$Ord", "hasGreat", "()Z"⟩, 2) := ⟨⟨by decide +kernel, by decide +kernel⟩, List.mem_of_getElem? (i := 1494) (by decide +kernel), List.mem_of_getElem? (i := 1653) (by decide +kernel), List.mem_of_getElem? (i := 1654) (by decide +kernel)⟩
theorem lw_p44 : lw_okq (⟨"EpsilonhallModel", "fails", "(I)I"⟩, 20) := ⟨⟨by decide +kernel, by decide +kernel⟩, List.mem_of_getElem? (i := 1385) (by decide +kernel), List.mem_of_getElem? (i := 1667) (by decide +kernel), List.mem_of_getElem? (i := 1668) (by decide +kernel)⟩
theorem lw_p45 : lw_okq (⟨"EpsilonhallModel", "tell", "(I)I"⟩, 20) := ⟨⟨by decide +kernel, by decide +kernel⟩, List.mem_of_getElem? (i := 1385) (by decide +kernel), List.mem_of_getElem? (i := 1673) (by decide +kernel), List.mem_of_getElem? (i := 1674) (by decide +kernel)⟩
theorem lw_p46 : lw_okq (⟨"EpsilonhallModel", "isOrd", "(I)Z"⟩, 20) := ⟨⟨by decide +kernel, by decide +kernel⟩, List.mem_of_getElem? (i := 1385) (by decide +kernel), List.mem_of_getElem? (i := 1681) (by decide +kernel), List.mem_of_getElem? (i := 1682) (by decide +kernel)⟩
theorem lw_p47 : lw_okq (⟨"java/util/ArrayList", "fastRemove", "([Ljava/lang/Object;I)V"⟩, 3) := ⟨⟨by decide +kernel, by decide +kernel⟩, List.mem_of_getElem? (i := 1392) (by decide +kernel), List.mem_of_getElem? (i := 1765) (by decide +kernel), List.mem_of_getElem? (i := 1766) (by decide +kernel)⟩
def lw_privs_3 : List (MethodName × Nat) := [(⟨"Epsilonhall$Embedding", "isIn", "(II)Z"⟩, 8), (⟨"Epsilonhall$Embedding", "hangsOn", "(II)Z"⟩, 8), (⟨"Epsilonhall$Embedding", "note", "(IIZ)V"⟩, 8), (⟨"Epsilonhall$Program", "doStep", "(I)V"⟩, 11), (⟨"Epsilonhall$Program", "told", "(I)I"⟩, 11), (⟨"Epsilonhall$Program", "isLess", "()Z"⟩, 11), (⟨"Epsilonhall$Program", "rankOf", "(I)I"⟩, 11), (⟨"java/util/ArrayList", "add", "(Ljava/lang/Object;[Ljava/lang/Object;I)V"⟩, 3), (⟨"java/util/ArrayList", "grow", "()[Ljava/lang/Object;"⟩, 3), (⟨"java/util/ArrayList", "grow", "(I)[Ljava/lang/Object;"⟩, 3), (⟨"EpsilonhallModel", "adds", "(LEpsilonhallModel$Ord;II)I"⟩, 20), (⟨"EpsilonhallModel$Ord", "hasGreat", "()Z"⟩, 2), (⟨"EpsilonhallModel", "fails", "(I)I"⟩, 20), (⟨"EpsilonhallModel", "tell", "(I)I"⟩, 20), (⟨"EpsilonhallModel", "isOrd", "(I)Z"⟩, 20), (⟨"java/util/ArrayList", "fastRemove", "([Ljava/lang/Object;I)V"⟩, 3)]
theorem lw_r3 : ∀ q ∈ lw_privs_3, lw_okq q := List.forall_mem_cons.mpr ⟨lw_p32, List.forall_mem_cons.mpr ⟨lw_p33, List.forall_mem_cons.mpr ⟨lw_p34, List.forall_mem_cons.mpr ⟨lw_p35, List.forall_mem_cons.mpr ⟨lw_p36, List.forall_mem_cons.mpr ⟨lw_p37, List.forall_mem_cons.mpr ⟨lw_p38, List.forall_mem_cons.mpr ⟨lw_p39, List.forall_mem_cons.mpr ⟨lw_p40, List.forall_mem_cons.mpr ⟨lw_p41, List.forall_mem_cons.mpr ⟨lw_p42, List.forall_mem_cons.mpr ⟨lw_p43, List.forall_mem_cons.mpr ⟨lw_p44, List.forall_mem_cons.mpr ⟨lw_p45, List.forall_mem_cons.mpr ⟨lw_p46, List.forall_mem_cons.mpr ⟨lw_p47, fun _ h => absurd h List.not_mem_nil⟩⟩⟩⟩⟩⟩⟩⟩⟩⟩⟩⟩⟩⟩⟩⟩
theorem lw_p48 : lw_okq (⟨"EpsilonhallModel", "tells", "(Z)Z"⟩, 20) := ⟨⟨by decide +kernel, by decide +kernel⟩, List.mem_of_getElem? (i := 1385) (by decide +kernel), List.mem_of_getElem? (i := 1799) (by decide +kernel), List.mem_of_getElem? (i := 1800) (by decide +kernel)⟩
theorem lw_p49 : lw_okq (⟨"EpsilonhallModel", "refuses", "(I)Z"⟩, 20) := ⟨⟨by decide +kernel, by decide +kernel⟩, List.mem_of_getElem? (i := 1385) (by decide +kernel), List.mem_of_getElem? (i := 1803) (by decide +kernel), List.mem_of_getElem? (i := 1804) (by decide +kernel)⟩
theorem lw_p50 : lw_okq (⟨"EpsilonhallModel", "isTerm", "(II)Z"⟩, 20) := ⟨⟨by decide +kernel, by decide +kernel⟩, List.mem_of_getElem? (i := 1385) (by decide +kernel), List.mem_of_getElem? (i := 1815) (by decide +kernel), List.mem_of_getElem? (i := 1816) (by decide +kernel)⟩
theorem lw_p51 : lw_okq (⟨"EpsilonhallModel", "isAsked", "(III)Z"⟩, 20) := ⟨⟨by decide +kernel, by decide +kernel⟩, List.mem_of_getElem? (i := 1385) (by decide +kernel), List.mem_of_getElem? (i := 2123) (by decide +kernel), List.mem_of_getElem? (i := 2124) (by decide +kernel)⟩
theorem lw_p52 : lw_okq (⟨"EpsilonhallModel", "slowOf", "(LEpsilonhallModel$Ord;J)J"⟩, 20) := ⟨⟨by decide +kernel, by decide +kernel⟩, List.mem_of_getElem? (i := 1385) (by decide +kernel), List.mem_of_getElem? (i := 2127) (by decide +kernel), List.mem_of_getElem? (i := 2128) (by decide +kernel)⟩
theorem lw_p53 : lw_okq (⟨"EpsilonhallModel", "isBeyond", "(J)Z"⟩, 20) := ⟨⟨by decide +kernel, by decide +kernel⟩, List.mem_of_getElem? (i := 1385) (by decide +kernel), List.mem_of_getElem? (i := 2131) (by decide +kernel), List.mem_of_getElem? (i := 2132) (by decide +kernel)⟩
theorem lw_p54 : lw_okq (⟨"EpsilonhallModel", "told", "(J)I"⟩, 20) := ⟨⟨by decide +kernel, by decide +kernel⟩, List.mem_of_getElem? (i := 1385) (by decide +kernel), List.mem_of_getElem? (i := 2139) (by decide +kernel), List.mem_of_getElem? (i := 2140) (by decide +kernel)⟩
theorem lw_p55 : lw_okq (⟨"EpsilonhallModel", "hardyOf", "(LEpsilonhallModel$Ord;J)J"⟩, 20) := ⟨⟨by decide +kernel, by decide +kernel⟩, List.mem_of_getElem? (i := 1385) (by decide +kernel), List.mem_of_getElem? (i := 2147) (by decide +kernel), List.mem_of_getElem? (i := 2148) (by decide +kernel)⟩
theorem lw_p56 : lw_okq (⟨"EpsilonhallModel", "fastOf", "(LEpsilonhallModel$Ord;J)J"⟩, 20) := ⟨⟨by decide +kernel, by decide +kernel⟩, List.mem_of_getElem? (i := 1385) (by decide +kernel), List.mem_of_getElem? (i := 2155) (by decide +kernel), List.mem_of_getElem? (i := 2156) (by decide +kernel)⟩
theorem lw_p57 : lw_okq (⟨"EpsilonhallModel", "fastFrom", "(LEpsilonhallModel$Ord;J)J"⟩, 20) := ⟨⟨by decide +kernel, by decide +kernel⟩, List.mem_of_getElem? (i := 1385) (by decide +kernel), List.mem_of_getElem? (i := 2160) (by decide +kernel), List.mem_of_getElem? (i := 2161) (by decide +kernel)⟩
theorem lw_p58 : lw_okq (⟨"EpsilonhallModel", "fastNumber", "(JJ)J"⟩, 20) := ⟨⟨by decide +kernel, by decide +kernel⟩, List.mem_of_getElem? (i := 1385) (by decide +kernel), List.mem_of_getElem? (i := 2164) (by decide +kernel), List.mem_of_getElem? (i := 2165) (by decide +kernel)⟩
theorem lw_p59 : lw_okq (⟨"EpsilonhallModel", "stepsOf", "(LEpsilonhallModel$Ord;J)J"⟩, 20) := ⟨⟨by decide +kernel, by decide +kernel⟩, List.mem_of_getElem? (i := 1385) (by decide +kernel), List.mem_of_getElem? (i := 2173) (by decide +kernel), List.mem_of_getElem? (i := 2174) (by decide +kernel)⟩
theorem lw_p60 : lw_okq (⟨"EpsilonhallModel", "plays", "(LEpsilonhallModel$Game;)I"⟩, 20) := ⟨⟨by decide +kernel, by decide +kernel⟩, List.mem_of_getElem? (i := 1385) (by decide +kernel), List.mem_of_getElem? (i := 2217) (by decide +kernel), List.mem_of_getElem? (i := 2218) (by decide +kernel)⟩
theorem lw_p61 : lw_okq (⟨"EpsilonhallModel", "isGame", "(I)Z"⟩, 20) := ⟨⟨by decide +kernel, by decide +kernel⟩, List.mem_of_getElem? (i := 1385) (by decide +kernel), List.mem_of_getElem? (i := 2233) (by decide +kernel), List.mem_of_getElem? (i := 2234) (by decide +kernel)⟩
theorem lw_p62 : lw_okq (⟨"EpsilonhallModel", "isMoved", "(LEpsilonhallModel$Game;I)Z"⟩, 20) := ⟨⟨by decide +kernel, by decide +kernel⟩, List.mem_of_getElem? (i := 1385) (by decide +kernel), List.mem_of_getElem? (i := 2266) (by decide +kernel), List.mem_of_getElem? (i := 2267) (by decide +kernel)⟩
theorem lw_p63 : lw_okq (⟨"EpsilonhallModel$Game", "isUnder", "(II)Z"⟩, 6) := ⟨⟨by decide +kernel, by decide +kernel⟩, List.mem_of_getElem? (i := 2186) (by decide +kernel), List.mem_of_getElem? (i := 2288) (by decide +kernel), List.mem_of_getElem? (i := 2289) (by decide +kernel)⟩
def lw_privs_4 : List (MethodName × Nat) := [(⟨"EpsilonhallModel", "tells", "(Z)Z"⟩, 20), (⟨"EpsilonhallModel", "refuses", "(I)Z"⟩, 20), (⟨"EpsilonhallModel", "isTerm", "(II)Z"⟩, 20), (⟨"EpsilonhallModel", "isAsked", "(III)Z"⟩, 20), (⟨"EpsilonhallModel", "slowOf", "(LEpsilonhallModel$Ord;J)J"⟩, 20), (⟨"EpsilonhallModel", "isBeyond", "(J)Z"⟩, 20), (⟨"EpsilonhallModel", "told", "(J)I"⟩, 20), (⟨"EpsilonhallModel", "hardyOf", "(LEpsilonhallModel$Ord;J)J"⟩, 20), (⟨"EpsilonhallModel", "fastOf", "(LEpsilonhallModel$Ord;J)J"⟩, 20), (⟨"EpsilonhallModel", "fastFrom", "(LEpsilonhallModel$Ord;J)J"⟩, 20), (⟨"EpsilonhallModel", "fastNumber", "(JJ)J"⟩, 20), (⟨"EpsilonhallModel", "stepsOf", "(LEpsilonhallModel$Ord;J)J"⟩, 20), (⟨"EpsilonhallModel", "plays", "(LEpsilonhallModel$Game;)I"⟩, 20), (⟨"EpsilonhallModel", "isGame", "(I)Z"⟩, 20), (⟨"EpsilonhallModel", "isMoved", "(LEpsilonhallModel$Game;I)Z"⟩, 20), (⟨"EpsilonhallModel$Game", "isUnder", "(II)Z"⟩, 6)]
theorem lw_r4 : ∀ q ∈ lw_privs_4, lw_okq q := List.forall_mem_cons.mpr ⟨lw_p48, List.forall_mem_cons.mpr ⟨lw_p49, List.forall_mem_cons.mpr ⟨lw_p50, List.forall_mem_cons.mpr ⟨lw_p51, List.forall_mem_cons.mpr ⟨lw_p52, List.forall_mem_cons.mpr ⟨lw_p53, List.forall_mem_cons.mpr ⟨lw_p54, List.forall_mem_cons.mpr ⟨lw_p55, List.forall_mem_cons.mpr ⟨lw_p56, List.forall_mem_cons.mpr ⟨lw_p57, List.forall_mem_cons.mpr ⟨lw_p58, List.forall_mem_cons.mpr ⟨lw_p59, List.forall_mem_cons.mpr ⟨lw_p60, List.forall_mem_cons.mpr ⟨lw_p61, List.forall_mem_cons.mpr ⟨lw_p62, List.forall_mem_cons.mpr ⟨lw_p63, fun _ h => absurd h List.not_mem_nil⟩⟩⟩⟩⟩⟩⟩⟩⟩⟩⟩⟩⟩⟩⟩⟩
theorem lw_p64 : lw_okq (⟨"EpsilonhallModel$Game", "rankOf", "(III)I"⟩, 6) := ⟨⟨by decide +kernel, by decide +kernel⟩, List.mem_of_getElem? (i := 2186) (by decide +kernel), List.mem_of_getElem? (i := 2292) (by decide +kernel), List.mem_of_getElem? (i := 2293) (by decide +kernel)⟩
theorem lw_p65 : lw_okq (⟨"EpsilonhallModel", "ordinalFor", "(LEpsilonhallModel$Game;)LEpsilonhallModel$Ord;"⟩, 20) := ⟨⟨by decide +kernel, by decide +kernel⟩, List.mem_of_getElem? (i := 1385) (by decide +kernel), List.mem_of_getElem? (i := 2325) (by decide +kernel), List.mem_of_getElem? (i := 2326) (by decide +kernel)⟩
theorem lw_p66 : lw_okq (⟨"EpsilonhallModel", "wormOf", "([IIII)LEpsilonhallModel$Ord;"⟩, 20) := ⟨⟨by decide +kernel, by decide +kernel⟩, List.mem_of_getElem? (i := 1385) (by decide +kernel), List.mem_of_getElem? (i := 2329) (by decide +kernel), List.mem_of_getElem? (i := 2330) (by decide +kernel)⟩
theorem lw_p67 : lw_okq (⟨"EpsilonhallModel", "noticed", "(LEpsilonhallModel$Ord;)LEpsilonhallModel$Ord;"⟩, 20) := ⟨⟨by decide +kernel, by decide +kernel⟩, List.mem_of_getElem? (i := 1385) (by decide +kernel), List.mem_of_getElem? (i := 2333) (by decide +kernel), List.mem_of_getElem? (i := 2334) (by decide +kernel)⟩
theorem lw_p68 : lw_okq (⟨"EpsilonhallModel", "isWithin", "(LEpsilonhallModel$Game;LEpsilonhallModel$Game;)Z"⟩, 20) := ⟨⟨by decide +kernel, by decide +kernel⟩, List.mem_of_getElem? (i := 1385) (by decide +kernel), List.mem_of_getElem? (i := 2352) (by decide +kernel), List.mem_of_getElem? (i := 2353) (by decide +kernel)⟩
theorem lw_p69 : lw_okq (⟨"EpsilonhallModel", "embedsAt", "(LEpsilonhallModel$Game;LEpsilonhallModel$Game;II)Z"⟩, 20) := ⟨⟨by decide +kernel, by decide +kernel⟩, List.mem_of_getElem? (i := 1385) (by decide +kernel), List.mem_of_getElem? (i := 2357) (by decide +kernel), List.mem_of_getElem? (i := 2358) (by decide +kernel)⟩
theorem lw_p70 : lw_okq (⟨"EpsilonhallModel", "finds", "(LEpsilonhallModel$Game;LEpsilonhallModel$Game;II)Z"⟩, 20) := ⟨⟨by decide +kernel, by decide +kernel⟩, List.mem_of_getElem? (i := 1385) (by decide +kernel), List.mem_of_getElem? (i := 2361) (by decide +kernel), List.mem_of_getElem? (i := 2362) (by decide +kernel)⟩
theorem lw_p71 : lw_okq (⟨"EpsilonhallModel", "isRound", "()Z"⟩, 20) := ⟨⟨by decide +kernel, by decide +kernel⟩, List.mem_of_getElem? (i := 1385) (by decide +kernel), List.mem_of_getElem? (i := 2389) (by decide +kernel), List.mem_of_getElem? (i := 2390) (by decide +kernel)⟩
theorem lw_p72 : lw_okq (⟨"EpsilonhallModel", "valueTold", "(IIIII)I"⟩, 20) := ⟨⟨by decide +kernel, by decide +kernel⟩, List.mem_of_getElem? (i := 1385) (by decide +kernel), List.mem_of_getElem? (i := 2393) (by decide +kernel), List.mem_of_getElem? (i := 2394) (by decide +kernel)⟩
theorem lw_p73 : lw_okq (⟨"EpsilonhallModel", "placeOf", "(I)I"⟩, 20) := ⟨⟨by decide +kernel, by decide +kernel⟩, List.mem_of_getElem? (i := 1385) (by decide +kernel), List.mem_of_getElem? (i := 2405) (by decide +kernel), List.mem_of_getElem? (i := 2406) (by decide +kernel)⟩
def lw_privs_5 : List (MethodName × Nat) := [(⟨"EpsilonhallModel$Game", "rankOf", "(III)I"⟩, 6), (⟨"EpsilonhallModel", "ordinalFor", "(LEpsilonhallModel$Game;)LEpsilonhallModel$Ord;"⟩, 20), (⟨"EpsilonhallModel", "wormOf", "([IIII)LEpsilonhallModel$Ord;"⟩, 20), (⟨"EpsilonhallModel", "noticed", "(LEpsilonhallModel$Ord;)LEpsilonhallModel$Ord;"⟩, 20), (⟨"EpsilonhallModel", "isWithin", "(LEpsilonhallModel$Game;LEpsilonhallModel$Game;)Z"⟩, 20), (⟨"EpsilonhallModel", "embedsAt", "(LEpsilonhallModel$Game;LEpsilonhallModel$Game;II)Z"⟩, 20), (⟨"EpsilonhallModel", "finds", "(LEpsilonhallModel$Game;LEpsilonhallModel$Game;II)Z"⟩, 20), (⟨"EpsilonhallModel", "isRound", "()Z"⟩, 20), (⟨"EpsilonhallModel", "valueTold", "(IIIII)I"⟩, 20), (⟨"EpsilonhallModel", "placeOf", "(I)I"⟩, 20)]
theorem lw_r5 : ∀ q ∈ lw_privs_5, lw_okq q := List.forall_mem_cons.mpr ⟨lw_p64, List.forall_mem_cons.mpr ⟨lw_p65, List.forall_mem_cons.mpr ⟨lw_p66, List.forall_mem_cons.mpr ⟨lw_p67, List.forall_mem_cons.mpr ⟨lw_p68, List.forall_mem_cons.mpr ⟨lw_p69, List.forall_mem_cons.mpr ⟨lw_p70, List.forall_mem_cons.mpr ⟨lw_p71, List.forall_mem_cons.mpr ⟨lw_p72, List.forall_mem_cons.mpr ⟨lw_p73, fun _ h => absurd h List.not_mem_nil⟩⟩⟩⟩⟩⟩⟩⟩⟩⟩
def lw_privs : List (MethodName × Nat) := lw_privs_1 ++ (lw_privs_2 ++ (lw_privs_3 ++ (lw_privs_4 ++ (lw_privs_5))))
def lw_tbl : List Cond := k2_sels lw_privs ++ tables_1
theorem lw_privs_ok : ∀ q ∈ lw_privs, lw_okq q := by
  show ∀ q ∈ lw_privs_1 ++ (lw_privs_2 ++ (lw_privs_3 ++ (lw_privs_4 ++ (lw_privs_5)))), lw_okq q
  exact List.forall_mem_append.mpr ⟨lw_r1, List.forall_mem_append.mpr ⟨lw_r2, List.forall_mem_append.mpr ⟨lw_r3, List.forall_mem_append.mpr ⟨lw_r4, lw_r5⟩⟩⟩⟩
/-- the streams that the claim lets the run draw from -/
abbrev lw_cs : List Choice := [Jvm.Choice.named "NaN.bits"]
theorem lw_bits : nanBits ∈ lw_cs := by first | decide | exact List.mem_cons_self | simp [lw_cs, nanBits]
end
section
/-! ===== BEGIN words of one list among another's, by their places ===== -/
theorem goodIn_r {big : List Cond} (ws : List Cond) (ps : List Nat) (hp : ws = ps.filterMap (fun i => big[i]?)) (h : ws.all goodWord = true) : GoodIn big ws := by
  intro w hw
  have h1 := List.all_eq_true.mp h w hw
  rw [hp] at hw
  obtain ⟨i, -, hi⟩ := List.mem_filterMap.mp hw
  have hm : w ∈ big := by first | exact List.mem_of_getElem? hi | exact List.getElem?_mem hi
  exact ⟨hm, good_of_word h1⟩
theorem goodIn_app {big a b : List Cond} (ha : GoodIn big a) (hb : GoodIn big b) : GoodIn big (a ++ b) := fun w h => (List.mem_append.mp h).elim (ha w) (hb w)
theorem goodIn_ca {big a b : List Cond} {c : Cond} (ha : GoodIn big (c :: a)) (hb : GoodIn big b) : GoodIn big (c :: (a ++ b)) := fun w h => (List.mem_cons.mp h).elim (fun e => ha w (List.mem_cons.mpr (Or.inl e))) (fun h => (List.mem_append.mp h).elim (fun h => ha w (List.mem_cons.mpr (Or.inr h))) (hb w))
theorem goodIn_sub {big ws : List Cond} (hm : ∀ w ∈ ws, w ∈ big) (h : ws.all goodWord = true) : GoodIn big ws := fun w hw => ⟨hm w hw, good_of_word (List.all_eq_true.mp h w hw)⟩
/-! ===== END ===== -/

/-! ===== BEGIN exceptions that leave a method, and their catching by the caller (launches without stack traces) ===== -/
section VXA
/-! The laws vx_back, vx_callV, vx_callS, vx_callSW, vx_throw0, vx_throwS follow proofs of the library, with one case more: JvmDerived/Free/Laws.lean (Back.of_free), Shelf42/LK1.lean (callV, callS), Shelf/KitTraced.lean (throwNew0V, throwNewS). -/
/-- where a method has thrown q: the class by its name, the cell, what was written, the world -/
def vx_T (XC : String → State → State → Prop) (st : State) (q : Addr) (t : State) (mc ms : Nat) (free : Addr → Prop) : Prop :=
  ∃ (E : String) (ce : Cell) (L : List Loc), XC E st t ∧ t.heap[q]? = some ce ∧ ce.vm = .none ∧ st.vm.findClass E = some ce.cls ∧ st.WarmedH t.vm ∧ st.sameButNew ({ t with vm := st.vm } : State) L mc ms ∧ ∀ z ∈ L, free z.base
def vx_Q (Qc : Array Value → State → Outcome → State → Prop) (XC : String → State → State → Prop) (mc ms : Nat) (free : Addr → Prop) : Array Value → State → Outcome → State → Prop := fun a st o t =>
  (Qc a st o t ∧ ∃ L, FrameEnd st o t L mc ms ∧ ∀ q ∈ L, free q.base) ∨ ∃ q, o = .threw q ∧ vx_T XC st q t mc ms free
/-- a callee that returns or throws -/
def vx_Met (l : Launch) (y : MethodName) (ws : List Cond) (rm : Room) (Pc : Array Value → State → Prop) (Qc : Array Value → State → Outcome → State → Prop) (XC : String → State → State → Prop) (mc ms : Nat) (free : Addr → Prop) : Prop :=
  MetFree l y (headSpec ws rm) Pc (fun _ _ _ _ _ => True) (vx_Q Qc XC mc ms free)
def vx_Post (XC : String → State → State → Prop) (mc ms : Nat) (free : Addr → Prop) : Pt → Array Value → Addr → Pt → Prop := fun A a q B =>
  ∃ (g : JFrame) (mk : MethodId) (t : State) (L : List Loc) (E : String) (ce : Cell), B.U.heap = t.heap ∧ B.U.vm = t.vm ∧ XC E (A.U.calling g mk a) t ∧ t.heap[q]? = some ce ∧ ce.vm = .none ∧ A.U.vm.findClass E = some ce.cls ∧ B.locs = A.locs ++ L ∧ (∀ z ∈ L, free z.base) ∧ B.cells = A.cells + mc ∧ B.slots = A.slots + ms
def vx_Back (l : Launch) (R : Room) (p : Program) (e : Env) (below : List Frame) (s : State) (sargs : Array Value) (y : MethodName) (len W9 : Nat)
    (Pre : Pt → Array Value → Prop) (Post : Pt → Array Value → Option Value → Pt → Prop) (PostX : Pt → Array Value → Addr → Pt → Prop) : Prop :=
  ∀ (m : MethodId) (meth : Method) (c : Code) (A : Pt) (g : JFrame) (ig : Instr) (mk : MethodId) (a : Array Value),
    Stand p l e R s m sargs below meth c A.U A.locs A.cells A.slots → g.method = m → g.locals.size = c.maxLocals → decode c.code g.pc = .ok (ig, len) →
    2 * g.monitorRoom + (g.stack.map fun v => v.category).sum ≤ W9 → A.U.methodNamed? y = some mk → Pre A a →
    (∃ (v : Option Value) (B : Pt), Stand p l e R s m sargs below meth c B.U B.locs B.cells B.slots ∧ Post A a v B ∧
      Steps p.tables e below (doInvoke e (A.U.setTop g) [] mk a).1 (B.U.setTop { g with pc := g.pc + len, stack := v.toList ++ g.stack })) ∨
    (∃ (q : Addr) (B : Pt), Stand p l e R s m sargs below meth c B.U B.locs B.cells B.slots ∧ PostX A a q B ∧
      Steps p.tables e below (doInvoke e (A.U.setTop g) [] mk a).1 ((B.U.setTop g).pushFrame (.throwing q)))
section Payer
variable {l : Launch} {R : Room} {p : Program} {e : Env} {below : List Frame} {s : State} {sargs : Array Value} {y : MethodName} {len W9 : Nat}
theorem vx_back {ws : List Cond} {rm : Room} {Pc : Array Value → State → Prop} {Qc : Array Value → State → Outcome → State → Prop} {XC : String → State → State → Prop} {mc ms : Nat} {free : Addr → Prop} {bytes : ByteArray} {maxL : Nat} {ret : Option FieldType}
    (hM : vx_Met l y ws rm Pc Qc XC mc ms free) (hblind : FrameBlind Pc) (hrc : rm.cells = mc) (hrs : rm.slots = ms)
    (hframes : rm.frames + 1 ≤ R.frames) (hlocals : W9 + (maxL + 11) + rm.locals ≤ R.locals)
    (hws : ∀ w ∈ ws, ∀ a' U, s.WarmedH U.vm → w.before a' U = true) (hcode : Cond.code y bytes maxL ret ∈ ws) (hinit : ∀ a' U, s.WarmedH U.vm → (Cond.initialized y.cls).before a' U = true) :
    vx_Back l R p e below s sargs y len W9 (PreOf R mc ms Pc) (PostOf Qc mc ms free) (vx_Post XC mc ms free) := by
  intro m meth c A g ig mk a X hg hsize hdg hW hn hp
  have h1 : (headSpec ws rm).pre.before a A.U = true := atoms_intro fun w hw => hws w hw _ _ X.warmed
  have h2 : (Cond.code y bytes maxL ret).before a A.U = true := hws _ hcode _ _ X.warmed
  have h3 : (Cond.initialized y.cls).before a A.U = true := hinit _ _ X.warmed
  have h4 : A.cells + (headSpec ws rm).room.cells ≤ R.cells := by rw [show (headSpec ws rm).room.cells = mc from hrc]; exact hp.1
  have h5 : A.slots + (headSpec ws rm).room.slots ≤ R.slots := by rw [show (headSpec ws rm).room.slots = ms from hrs]; exact hp.2.1
  have hPc : Pc a (A.U.calling g mk a) := hblind _ _ _ _ hp.2.2
  obtain ⟨U, Ls, c0, s0⟩ := A
  dsimp only [Pt.U, Pt.locs, Pt.cells, Pt.slots] at h1 h2 h3 h4 h5 X hn hPc ⊢
  obtain ⟨methY, cY, hmY, hcY, -, hlY, -, -, -, -⟩ := Cond.code_spec hn h2
  obtain ⟨kY, hkY, -⟩ := className_of_methodNamed hn
  have hinitY : kY.init = .initialized := Cond.initialized_spec (findClass_of_methodNamed hn) hkY h3
  have h : At U g.method c below := by rw [hg]; exact X.here
  have hlocals9 : W9 + (maxL + 11) + (headSpec ws rm).room.locals ≤ R.locals := hlocals
  have happ : (headSpec ws rm).appliesLoose y e.platform (U.calling g mk a) = true :=
    Spec.appliesLoose_calling (g := g) h hdg hn hkY hinitY
      (X.room_calling (g := g) (R' := (headSpec ws rm).room) hsize hmY hcY hframes (by rw [hlY]; omega) h4 h5) h1
  obtain ⟨mid, hmid⟩ := h.above
  have hfr : (U.setTop g).frames = (.java g :: mid) ++ below := by rw [State.frames_setTop' g h.top, hmid]; rfl
  obtain ⟨o, s₂, hsteps, -, hend, hq⟩ := Steps.callFree hM p X.admits X.cas X.clock (acts := []) hfr happ hPc trivial
  have hq' : vx_Q Qc XC mc ms free a (U.calling g mk a) o s₂ := hq
  rw [State.frames_setTop' g h.top] at hend
  obtain ⟨g₀, hg0⟩ := Option.isSome_iff_exists.mp h.top
  obtain ⟨r, hr⟩ := State.topJava?_eq_some.mp hg0
  have hr' : (({ U with heap := s₂.heap, slotsUsed := s₂.slotsUsed } : State).setVm s₂.vm).frames = .java g₀ :: r := hr
  rcases hq' with ⟨hqc, L, hfe, hL⟩ | ⟨q, rfl, E, ce, L, hx, hce, hcv, hcl, hW₂, hsm, hL⟩
  · obtain ⟨⟨v, rfl⟩, hW₂, e2, q2, q3, q4, q5, q6⟩ := id hfe
    have e3 : s₂ = ({ (U.calling g mk a).setFrames s₂.frames with heap := s₂.heap, slotsUsed := s₂.slotsUsed } : State).setVm s₂.vm := by
      have : s₂ = ({ s₂ with vm := (U.calling g mk a).vm } : State).setVm s₂.vm := rfl
      rw [e2] at this
      exact this
    obtain ⟨c₂, i₂, len₂, hc₂, hd₂, hf₂⟩ := hend
    have hW' : U.WarmedH s₂.vm := hW₂
    have hcc : c₂ = c := by
      have h1 : s₂.code? g.method = U.code? g.method := by
        rw [State.code?_eq, State.code?_eq, hW'.alike.method?]
      exact Option.some.inj (hc₂.symm.trans (h1.trans h.code))
    subst hcc
    have hlen : len₂ = len := by rw [hdg] at hd₂; cases hd₂; rfl
    subst hlen
    have hs₂ : s₂ = (({ U with heap := s₂.heap, slotsUsed := s₂.slotsUsed } : State).setVm s₂.vm).setTop { g with pc := g.pc + len₂, stack := v.toList ++ g.stack } := by
      refine e3.trans ?_
      rw [hf₂, State.calling_eq h.top, State.setFrames_setFrames, State.setTop_of_frames _ hr', hr]
      rfl
    have hsame : U.sameButNew ({ U with heap := s₂.heap, slotsUsed := s₂.slotsUsed } : State) L mc ms := by
      refine ⟨?_, q2, q3, q4, q5, q6⟩
      obtain ⟨t, ht, -⟩ := State.frames_cons hr
      show ({ U with heap := s₂.heap, slotsUsed := s₂.slotsUsed } : State) = { U.setFrames U.frames with heap := s₂.heap, slotsUsed := s₂.slotsUsed }
      rw [State.setFrames_self ht]
    subst hg
    refine Or.inl ⟨v, ⟨(({ U with heap := s₂.heap, slotsUsed := s₂.slotsUsed } : State).setVm s₂.vm), Ls ++ L, c0 + mc, s0 + ms⟩,
      ⟨X.admits, X.cas, X.clock, X.frames, X.room, X.hears, X.method, X.code, (X.here.setHeapUsed s₂.heap s₂.slotsUsed).setVm hW'.alike, X.tail, State.WarmedH.trans X.warmed hW', X.limits, X.bytes, X.same.trans (hsame.setVm s.vm)⟩,
      ⟨g, mk, s₂, L, rfl, rfl, hqc, rfl, hL, rfl, rfl⟩, ?_⟩
    show Steps p.tables e below _ ((({ U with heap := s₂.heap, slotsUsed := s₂.slotsUsed } : State).setVm s₂.vm).setTop { g with pc := g.pc + len₂, stack := v.toList ++ g.stack })
    rw [← hs₂]
    exact hsteps
  · obtain ⟨e2, q2, q3, q4, q5, q6⟩ := id hsm
    have e3 : s₂ = ({ (U.calling g mk a).setFrames s₂.frames with heap := s₂.heap, slotsUsed := s₂.slotsUsed } : State).setVm s₂.vm := by
      have : s₂ = ({ s₂ with vm := (U.calling g mk a).vm } : State).setVm s₂.vm := rfl
      rw [e2] at this
      exact this
    have hf₂ : s₂.frames = .throwing q :: .java g :: U.frames.tail := hend
    have hW' : U.WarmedH s₂.vm := hW₂
    have hs₂ : s₂ = ((({ U with heap := s₂.heap, slotsUsed := s₂.slotsUsed } : State).setVm s₂.vm).setTop g).pushFrame (.throwing q) := by
      refine e3.trans ?_
      rw [hf₂, State.calling_eq h.top, State.setFrames_setFrames, State.pushFrame, State.frames_setTop _ hr', State.setTop_of_frames _ hr', State.setFrames_setFrames, hr]
      rfl
    have hsame : U.sameButNew ({ U with heap := s₂.heap, slotsUsed := s₂.slotsUsed } : State) L mc ms := by
      refine ⟨?_, q2, q3, q4, q5, q6⟩
      obtain ⟨t, ht, -⟩ := State.frames_cons hr
      show ({ U with heap := s₂.heap, slotsUsed := s₂.slotsUsed } : State) = { U.setFrames U.frames with heap := s₂.heap, slotsUsed := s₂.slotsUsed }
      rw [State.setFrames_self ht]
    subst hg
    refine Or.inr ⟨q, ⟨(({ U with heap := s₂.heap, slotsUsed := s₂.slotsUsed } : State).setVm s₂.vm), Ls ++ L, c0 + mc, s0 + ms⟩,
      ⟨X.admits, X.cas, X.clock, X.frames, X.room, X.hears, X.method, X.code, (X.here.setHeapUsed s₂.heap s₂.slotsUsed).setVm hW'.alike, X.tail, State.WarmedH.trans X.warmed hW', X.limits, X.bytes, X.same.trans (hsame.setVm s.vm)⟩,
      ⟨g, mk, s₂, L, E, ce, rfl, rfl, hx, hce, hcv, hcl, rfl, hL, rfl, rfl⟩, ?_⟩
    show Steps p.tables e below _ (((({ U with heap := s₂.heap, slotsUsed := s₂.slotsUsed } : State).setVm s₂.vm).setTop g).pushFrame (.throwing q))
    rw [← hs₂]
    exact hsteps
end Payer
section Calls
variable {p : Program} {l : Launch} {e : Env} {R : Room} {s : State} {m : MethodId} {args : Array Value} {below : List Frame} {meth : Method} {c : Code} {T : State} {locs : List Loc} {cells slots : Nat}
theorem vx_callV (X : Stand p l e R s m args below meth c T locs cells slots) (hexec : p.tables.exec = Jvm.exec) {own C : String} {index : Nat} {y : MethodName} {bytes : ByteArray} {maxL : Nat} {ret : Option FieldType}
    (hown : s.vm.findClass own = some m.cls) (hlink : (Cond.methodLink own index y).before args s = true) (hinst : (Cond.instanceMethod y).before args s = true) (hsel : (Cond.selects C y y).before args s = true)
    (hcode : (Cond.code y bytes maxL ret).before args s = true) (hy : y.cls ≠ "java/lang/invoke/MethodHandle" ∧ y.cls ≠ "java/lang/invoke/VarHandle")
    {W9 : Nat} {Pre : Pt → Array Value → Prop} {Post : Pt → Array Value → Option Value → Pt → Prop} {PostX : Pt → Array Value → Addr → Pt → Prop} (hK : vx_Back l R p e below s args y 3 W9 Pre Post PostX)
    {b : Addr} {cellB : Cell} (hcell : T.heap[b]? = some cellB) (hobj : cellB.vm.isStatics = false) (hcls : s.vm.findClass C = some cellB.cls)
    {g : JFrame} (hg : g.method = m) (hsize : g.locals.size = c.maxLocals) {argsL rest : List Value} (hlen : ∀ sig, parseMethodDescriptor y.desc = some sig → argsL.length = sig.parameters.length)
    (hstack : g.stack = argsL.reverse ++ .ref b :: rest) (hW : 2 * g.monitorRoom + (rest.map fun v => v.category).sum ≤ W9) (hdg : decode c.code g.pc = .ok (.invokevirtual index, 3))
    (hpre : ∀ vm₁, s.WarmedH vm₁ → Pre ⟨T.setVm vm₁, locs, cells, slots⟩ (Value.ref b :: argsL).toArray) :
    (∃ (v : Option Value) (vm₁ : Vm) (B : Pt), s.WarmedH vm₁ ∧ Stand p l e R s m args below meth c B.U B.locs B.cells B.slots ∧ Post ⟨T.setVm vm₁, locs, cells, slots⟩ (Value.ref b :: argsL).toArray v B ∧
      ∀ target, Steps p.tables e below (B.U.setTop { g with pc := g.pc + 3, stack := v.toList ++ rest }) target → Steps p.tables e below (T.setTop g) target) ∨
    (∃ (q : Addr) (vm₁ : Vm) (B : Pt), s.WarmedH vm₁ ∧ Stand p l e R s m args below meth c B.U B.locs B.cells B.slots ∧ PostX ⟨T.setVm vm₁, locs, cells, slots⟩ (Value.ref b :: argsL).toArray q B ∧
      Steps p.tables e below (T.setTop g) ((B.U.setTop { g with stack := rest }).pushFrame (.throwing q))) := by
  obtain ⟨mk, methM, hnamed, hmethM, hstM, habM⟩ := Cond.instanceMethod_spec hinst
  obtain ⟨methM', cM, hmethM', -, -, -, -, -, -, hsigM⟩ := Cond.code_spec hnamed hcode
  cases hmethM.symm.trans hmethM'
  obtain ⟨c2, r2, m2, q1, q2, q3, q4, kP, hkP, hkPi⟩ := Cond.selects_spec hsel
  cases hcls.symm.trans q1
  cases (State.methodFound?_of_named hnamed hy).symm.trans q2
  cases hnamed.symm.trans q3
  have hselP : selectMethod e.platform s.vm cellB.cls mk = .method mk := by rw [Launch.admits_selectMethod X.admits]; exact q4
  obtain ⟨vm₁, X₁, hstep₁⟩ := X.invokevirtual hexec hown hlink hnamed hmethM hstM hkP hkPi hy (a := b) (cell := cellB) hcell
    (fun z h => by rw [h] at hobj; cases hobj) hselP hmethM habM hkP hkPi (g := g) hg (argsL := argsL) (rest := rest) (hlen _ hsigM) hstack hdg
  rcases hK m meth c ⟨T.setVm vm₁, locs, cells, slots⟩ { g with stack := rest } (.invokevirtual index) mk (Value.ref b :: argsL).toArray X₁ hg hsize hdg hW (X₁.named hnamed) (hpre vm₁ X₁.warmed) with ⟨v, B, X', hpost, hsteps⟩ | ⟨q, B, X', hpost, hsteps⟩
  · exact Or.inl ⟨v, vm₁, B, X₁.warmed, X', hpost, fun target h => hstep₁ _ fun acts => by rw [doInvoke_state]; exact hsteps.trans h⟩
  · exact Or.inr ⟨q, vm₁, B, X₁.warmed, X', hpost, hstep₁ _ fun acts => by rw [doInvoke_state]; exact hsteps⟩
theorem vx_callS (X : Stand p l e R s m args below meth c T locs cells slots) (hexec : p.tables.exec = Jvm.exec) {own : String} {index : Nat} {y : MethodName} {bytes : ByteArray} {maxL : Nat} {ret : Option FieldType}
    (hown : s.vm.findClass own = some m.cls) (hlink : (Cond.methodLink own index y).before args s = true) (hstat : (Cond.static y).before args s = true) (hinit : (Cond.initialized y.cls).before args s = true)
    (hcode : (Cond.code y bytes maxL ret).before args s = true) (hy : y.cls ≠ "java/lang/invoke/MethodHandle" ∧ y.cls ≠ "java/lang/invoke/VarHandle")
    {W9 : Nat} {Pre : Pt → Array Value → Prop} {Post : Pt → Array Value → Option Value → Pt → Prop} {PostX : Pt → Array Value → Addr → Pt → Prop} (hK : vx_Back l R p e below s args y 3 W9 Pre Post PostX)
    {g : JFrame} (hg : g.method = m) (hsize : g.locals.size = c.maxLocals) {argsL rest : List Value} (hlen : ∀ sig, parseMethodDescriptor y.desc = some sig → argsL.length = sig.parameters.length)
    (hstack : g.stack = argsL.reverse ++ rest) (hW : 2 * g.monitorRoom + (rest.map fun v => v.category).sum ≤ W9) (hdg : decode c.code g.pc = .ok (.invokestatic index, 3))
    (hpre : ∀ vm₁, s.WarmedH vm₁ → Pre ⟨T.setVm vm₁, locs, cells, slots⟩ argsL.toArray) :
    (∃ (v : Option Value) (vm₁ : Vm) (B : Pt), s.WarmedH vm₁ ∧ Stand p l e R s m args below meth c B.U B.locs B.cells B.slots ∧ Post ⟨T.setVm vm₁, locs, cells, slots⟩ argsL.toArray v B ∧
      ∀ target, Steps p.tables e below (B.U.setTop { g with pc := g.pc + 3, stack := v.toList ++ rest }) target → Steps p.tables e below (T.setTop g) target) ∨
    (∃ (q : Addr) (vm₁ : Vm) (B : Pt), s.WarmedH vm₁ ∧ Stand p l e R s m args below meth c B.U B.locs B.cells B.slots ∧ PostX ⟨T.setVm vm₁, locs, cells, slots⟩ argsL.toArray q B ∧
      Steps p.tables e below (T.setTop g) ((B.U.setTop { g with stack := rest }).pushFrame (.throwing q))) := by
  obtain ⟨mk, hnamed⟩ := Cond.code_named hcode
  obtain ⟨methM, cM, hmethM, -, -, -, -, -, -, hsigM⟩ := Cond.code_spec hnamed hcode
  have hstatic : methM.isStatic = true := Cond.static_spec hnamed hmethM hstat
  obtain ⟨kP, hkP, -⟩ := className_of_methodNamed hnamed
  have hinitP : kP.init = .initialized := Cond.initialized_spec (findClass_of_methodNamed hnamed) hkP hinit
  obtain ⟨vm₁, X₁, hstep₁⟩ := X.invokestatic hexec hown hlink hnamed hmethM hstatic hkP hinitP hy (g := g) hg (argsL := argsL) (rest := rest) (hlen _ hsigM) hstack hdg
  rcases hK m meth c ⟨T.setVm vm₁, locs, cells, slots⟩ { g with stack := rest } (.invokestatic index) mk argsL.toArray X₁ hg hsize hdg hW (X₁.named hnamed) (hpre vm₁ X₁.warmed) with ⟨v, B, X', hpost, hsteps⟩ | ⟨q, B, X', hpost, hsteps⟩
  · exact Or.inl ⟨v, vm₁, B, X₁.warmed, X', hpost, fun target h => hstep₁ _ fun acts => by rw [doInvoke_state]; exact hsteps.trans h⟩
  · exact Or.inr ⟨q, vm₁, B, X₁.warmed, X', hpost, hstep₁ _ fun acts => by rw [doInvoke_state]; exact hsteps⟩
end Calls
theorem vx_cls {s : State} {T : State} {vm₁ : Vm} {E : String} {k : ClassId} (hW : s.WarmedH vm₁) (h : (T.setVm vm₁).vm.findClass E = some k) : s.vm.findClass E = some k := by
  have h1 : vm₁.findClass E = some k := h
  rw [hW.alike.findClass] at h1
  exact h1
/-- the method's frame g, with q thrown over it -/
def vx_W (p : Program) (l : Launch) (e : Env) (R : Room) (s : State) (m : MethodId) (args : Array Value) (below : List Frame) (meth : Method) (c : Code) (H : Heap) (locs : List Loc) (cells slots : Nat) (Q : State → Prop) (g : JFrame) (q : Addr) : Prop :=
  ∀ T : State, T.heap = H → Stand p l e R s m args below meth c T locs cells slots → ∃ t, Steps p.tables e below ((T.setTop g).pushFrame (.throwing q)) t ∧ Q t
def vx_Run (p : Program) (l : Launch) (e : Env) (R : Room) (s : State) (m : MethodId) (args : Array Value) (below : List Frame) (meth : Method) (c : Code) (H : Heap) (locs : List Loc) (cells slots mc ms : Nat) (g : JFrame) (rest : List Value) (Qa : State → Outcome → State → Prop) (XC : String → State → State → Prop) (free : Addr → Prop) : Prop :=
  ∀ T : State, T.heap = H → Stand p l e R s m args below meth c T locs cells slots →
    (∃ (v : Option Value) (st₀ t T' : State) (L : List Loc), st₀.heap = H ∧ Stand p l e R s m args below meth c T' (locs ++ L) (cells + mc) (slots + ms) ∧ (∀ q ∈ L, free q.base) ∧ T'.heap = t.heap ∧ T'.vm = t.vm ∧ Qa st₀ (.returned v) t ∧
      Goes p e below T g T' { g with pc := g.pc + 3, stack := v.toList ++ rest }) ∨
    (∃ (q : Addr) (st₀ t T' : State) (L : List Loc) (E : String) (ce : Cell), st₀.heap = H ∧ Stand p l e R s m args below meth c T' (locs ++ L) (cells + mc) (slots + ms) ∧ (∀ z ∈ L, free z.base) ∧ T'.heap = t.heap ∧ T'.vm = t.vm ∧ XC E st₀ t ∧ t.heap[q]? = some ce ∧ ce.vm = .none ∧ s.vm.findClass E = some ce.cls ∧
      Steps p.tables e below (T.setTop g) ((T'.setTop { g with stack := rest }).pushFrame (.throwing q)))
def vx_X {S : Type} (px : S → Prop) (B : String → S → State → Prop) (A : Nat → Prop) : String → State → State → Prop := fun E st t => ∃ u : S, px u ∧ B E u t ∧ va_F A st t
section Runs
variable {p : Program} {l : Launch} {e : Env} {R : Room} {s : State} {m : MethodId} {args : Array Value} {below : List Frame} {meth : Method} {c : Code} {H : Heap} {locs : List Loc} {cells slots : Nat}
variable {y : MethodName} {bytes cc : ByteArray} {maxL nL mc ms n index : Nat} {ret : Option FieldType} {ws : List Cond} {rm : Room} {Pc : Array Value → State → Prop} {Qc : Array Value → State → Outcome → State → Prop} {XC : String → State → State → Prop} {free : Addr → Prop} {Ts : List Cond} {own C : String} {b : Addr} {As rest : List Value} {g : JFrame}
theorem vx_callBack (cb : CallB R s args own index y bytes maxL ret ws rm mc ms n) (hM : vx_Met l y ws rm Pc Qc XC mc ms free) (hbl : FrameBlind Pc) : vx_Back l R p e below s args y 3 8 (PreOf R mc ms Pc) (PostOf Qc mc ms free) (vx_Post XC mc ms free) := by
  obtain ⟨hrc, hrs, hfr, hlo, hws, hcw, -, hini, -⟩ := cb
  exact vx_back (bytes := bytes) (maxL := maxL) (ret := ret) hM hbl hrc hrs hfr hlo hws hcw (fun a' U hW => word_at hW (Or.inl (by first | rfl | simp [Cond.onTables, Cond.keeps, Cond.steady])) hini)
theorem vx_runV (S : CallFix p m c cc nL s args Ts own) (hM : vx_Met l y ws rm Pc Qc XC mc ms free) (cw : CallW R s args own C index y bytes maxL ret ws rm mc ms n) (hp : PreV s H C b Pc As)
    (hg : g.method = m) (hn : As.length = n) (hsize : g.locals.size = nL) (hstack : g.stack = As.reverse ++ .ref b :: rest) (hW : 2 * g.monitorRoom + (rest.map fun v => v.category).sum ≤ 8) (hdg : decode cc g.pc = .ok (.invokevirtual index, 3)) (hf : cells + mc ≤ R.cells ∧ slots + ms ≤ R.slots) :
    vx_Run p l e R s m args below meth c H locs cells slots mc ms g rest (Qc (Value.ref b :: As).toArray) XC free := by
  have hK : vx_Back l R p e below s args y 3 8 (PreOf R mc ms Pc) (PostOf Qc mc ms free) (vx_Post XC mc ms free) := vx_callBack cw.1 hM hp.1
  obtain ⟨⟨-, -, -, -, -, -, hcode, -, hy, hlen, hl⟩, hin, hse⟩ := cw
  obtain ⟨hx, hb, hml, ho, -⟩ := S
  obtain ⟨-, ⟨cellB, hcB, hoB, hclB⟩, hPc⟩ := hp
  intro T hT X
  rcases vx_callV X hx (C := C) (bytes := bytes) (maxL := maxL) (ret := ret) ho hl hin hse hcode hy hK (by rw [hT]; exact hcB) hoB hclB hg (hsize.trans hml.symm) (argsL := As) (rest := rest) (fun sig h => hn.trans (hlen sig h)) hstack hW (by rw [hb]; exact hdg)
    (fun vm₁ hW₁ => ⟨hf.1, hf.2, hPc (T.setVm vm₁) hT hW₁⟩) with ⟨v, vm₁, ⟨U', l2, c2, s2⟩, hW₁, X', ⟨g', mk, t, L, e1, e2, hq, h1, hL, h2, h3⟩, st⟩ | ⟨q, vm₁, ⟨U', l2, c2, s2⟩, hW₁, X', ⟨g', mk, t, L, E, ce, e1, e2, hq, hce, hcv, hcl, h1, hL, h2, h3⟩, st⟩
  · dsimp only [Pt.U, Pt.locs, Pt.cells, Pt.slots] at X' e1 e2 h1 h2 h3 st
    subst h1; subst h2; subst h3
    exact Or.inl ⟨v, (T.setVm vm₁).calling g' mk (Value.ref b :: As).toArray, t, U', L, hT, X', hL, e1, e2, hq, st⟩
  · dsimp only [Pt.U, Pt.locs, Pt.cells, Pt.slots] at X' e1 e2 h1 h2 h3 st hcl
    subst h1; subst h2; subst h3
    exact Or.inr ⟨q, (T.setVm vm₁).calling g' mk (Value.ref b :: As).toArray, t, U', L, E, ce, hT, X', hL, e1, e2, hq, hce, hcv, vx_cls hW₁ hcl, st⟩
theorem vx_runS (S : CallFix p m c cc nL s args Ts own) (hM : vx_Met l y ws rm Pc Qc XC mc ms free) (cw : CallB R s args own index y bytes maxL ret ws rm mc ms n ∧ (Cond.static y).before args s = true) (hp : PreS s H Pc As)
    (hg : g.method = m) (hn : As.length = n) (hsize : g.locals.size = nL) (hstack : g.stack = As.reverse ++ rest) (hW : 2 * g.monitorRoom + (rest.map fun v => v.category).sum ≤ 8) (hdg : decode cc g.pc = .ok (.invokestatic index, 3)) (hf : cells + mc ≤ R.cells ∧ slots + ms ≤ R.slots) :
    vx_Run p l e R s m args below meth c H locs cells slots mc ms g rest (Qc As.toArray) XC free := by
  have hK : vx_Back l R p e below s args y 3 8 (PreOf R mc ms Pc) (PostOf Qc mc ms free) (vx_Post XC mc ms free) := vx_callBack cw.1 hM hp.1
  obtain ⟨⟨-, -, -, -, -, -, hcode, hini, hy, hlen, hl⟩, hstt⟩ := cw
  obtain ⟨hx, hb, hml, ho, -⟩ := S
  intro T hT X
  rcases vx_callS X hx (bytes := bytes) (maxL := maxL) (ret := ret) ho hl hstt hini hcode hy hK hg (hsize.trans hml.symm) (argsL := As) (rest := rest) (fun sig h => hn.trans (hlen sig h)) hstack hW (by rw [hb]; exact hdg)
    (fun vm₁ hW₁ => ⟨hf.1, hf.2, hp.2 (T.setVm vm₁) hT hW₁⟩) with ⟨v, vm₁, ⟨U', l2, c2, s2⟩, hW₁, X', ⟨g', mk, t, L, e1, e2, hq, h1, hL, h2, h3⟩, st⟩ | ⟨q, vm₁, ⟨U', l2, c2, s2⟩, hW₁, X', ⟨g', mk, t, L, E, ce, e1, e2, hq, hce, hcv, hcl, h1, hL, h2, h3⟩, st⟩
  · dsimp only [Pt.U, Pt.locs, Pt.cells, Pt.slots] at X' e1 e2 h1 h2 h3 st
    subst h1; subst h2; subst h3
    exact Or.inl ⟨v, (T.setVm vm₁).calling g' mk As.toArray, t, U', L, hT, X', hL, e1, e2, hq, st⟩
  · dsimp only [Pt.U, Pt.locs, Pt.cells, Pt.slots] at X' e1 e2 h1 h2 h3 st hcl
    subst h1; subst h2; subst h3
    exact Or.inr ⟨q, (T.setVm vm₁).calling g' mk As.toArray, t, U', L, E, ce, hT, X', hL, e1, e2, hq, hce, hcv, vx_cls hW₁ hcl, st⟩
end Runs
section Rows
variable {p : Program} {l : Launch} {e : Env} {R : Room} {s : State} {m : MethodId} {args : Array Value} {below : List Frame} {meth : Method} {c : Code} {H : Heap} {locs : List Loc} {cells slots : Nat} {Q : State → Prop}
variable {mc ms : Nat} {free : Addr → Prop} {A0 A1 : Nat → Prop} {H0 : Heap} {a : Array Value} {pc : Nat} {ls : Array Slot} {st0 rest : List Value}
theorem vx_keep {st₀ t T' : State} {L : List Loc} (h0 : st₀.heap = H) (e1 : T'.heap = t.heap) (hS : va_S A0 H0 H locs) (hA : ∀ q, q < H.size → A1 q → A0 q) (hf : ∀ q, free q → A0 q) (hL : ∀ q ∈ L, free q.base) (hF : va_F A1 st₀ t) :
    H.size ≤ T'.heap.size ∧ (∀ q : Nat, q < H.size → ¬ A1 q → T'.heap[q]? = H[q]?) ∧ va_S A0 H0 T'.heap (locs ++ L) := by
  obtain ⟨hz, hk⟩ := hF
  rw [h0] at hz hk
  exact ⟨by rw [e1]; exact hz, fun q h1 h2 => by rw [e1]; exact hk q h1 h2,
    ⟨Nat.le_trans hS.1 (by rw [e1]; exact hz), fun q h1 h2 => by rw [e1, hk q (Nat.lt_of_lt_of_le h1 hS.1) (fun z => h2 (hA q (Nat.lt_of_lt_of_le h1 hS.1) z))]; exact hS.2.1 q h1 h2, fun q hq => by
      rcases List.mem_append.mp hq with h | h
      · exact hS.2.2 q h
      · exact hf _ (hL q h)⟩⟩
theorem vx_calli {S SX : Type} {post : Int32 → S → Prop} {px : SX → Prop} {B : S → State → Prop} {BX : String → SX → State → Prop} {AX : Nat → Prop} (hr : vx_Run p l e R s m args below meth c H locs cells slots mc ms (F0 m pc ls st0) rest (va_Qi post B A1 a) (vx_X px BX AX) free) (hS : va_S A0 H0 H locs) (hA : ∀ q, q < H.size → A1 q → A0 q) (hf : ∀ q, free q → A0 q) (hAX : ∀ q, q < H.size → AX q → A0 q)
    (kx : ∀ (E : String) (ce : Cell) (q9 : Addr) (u : SX) (t : State) (H1 : Heap) (locs1 : List Loc), t.heap = H1 → s.vm.Alike t.vm → px u → BX E u t → H.size ≤ H1.size → (∀ q : Nat, q < H.size → ¬ AX q → H1[q]? = H[q]?) → va_S A0 H0 H1 locs1 → H1[q9]? = some ce → ce.vm = .none → s.vm.findClass E = some ce.cls → vx_W p l e R s m args below meth c H1 locs1 (cells + mc) (slots + ms) Q (F0 m pc ls rest) q9)
    (kk : ∀ (r : Int32) (u : S) (t : State) (H1 : Heap) (locs1 : List Loc), t.heap = H1 → s.vm.Alike t.vm → post r u → B u t → H.size ≤ H1.size → (∀ q : Nat, q < H.size → ¬ A1 q → H1[q]? = H[q]?) → va_S A0 H0 H1 locs1 → W p l e R s m args below meth c H1 locs1 (cells + mc) (slots + ms) Q (F0 m (pc + 3) ls (.int r :: rest))) : W p l e R s m args below meth c H locs cells slots Q (F0 m pc ls st0) := by
  intro T hT X
  rcases hr T hT X with ⟨v, st₀, t, T', L, h0, X', hL, e1, e2, ⟨⟨r, u, hv, hp, hb⟩, hF⟩, st⟩ | ⟨q, st₀, t, T', L, E, ce, h0, X', hL, e1, e2, ⟨u, hp, hb, hF⟩, hce, hcv, hcl, st⟩
  · cases hv
    obtain ⟨k1, k2, k3⟩ := vx_keep h0 e1 hS hA hf hL hF
    obtain ⟨t2, a1, b1⟩ := kk r u t T'.heap (locs ++ L) e1.symm (by rw [← e2]; exact X'.warmed.alike) hp hb k1 k2 k3 T' rfl X'
    exact ⟨t2, st t2 a1, b1⟩
  · obtain ⟨k1, k2, k3⟩ := vx_keep h0 e1 hS hAX hf hL hF
    obtain ⟨t2, a1, b1⟩ := kx E ce q u t T'.heap (locs ++ L) e1.symm (by rw [← e2]; exact X'.warmed.alike) hp hb k1 k2 k3 (by rw [e1]; exact hce) hcv hcl T' rfl X'
    exact ⟨t2, st.trans a1, b1⟩
theorem vx_calll {S SX : Type} {post : Int64 → S → Prop} {px : SX → Prop} {B : S → State → Prop} {BX : String → SX → State → Prop} {AX : Nat → Prop} (hr : vx_Run p l e R s m args below meth c H locs cells slots mc ms (F0 m pc ls st0) rest (va_Ql post B A1 a) (vx_X px BX AX) free) (hS : va_S A0 H0 H locs) (hA : ∀ q, q < H.size → A1 q → A0 q) (hf : ∀ q, free q → A0 q) (hAX : ∀ q, q < H.size → AX q → A0 q)
    (kx : ∀ (E : String) (ce : Cell) (q9 : Addr) (u : SX) (t : State) (H1 : Heap) (locs1 : List Loc), t.heap = H1 → s.vm.Alike t.vm → px u → BX E u t → H.size ≤ H1.size → (∀ q : Nat, q < H.size → ¬ AX q → H1[q]? = H[q]?) → va_S A0 H0 H1 locs1 → H1[q9]? = some ce → ce.vm = .none → s.vm.findClass E = some ce.cls → vx_W p l e R s m args below meth c H1 locs1 (cells + mc) (slots + ms) Q (F0 m pc ls rest) q9)
    (kk : ∀ (r : Int64) (u : S) (t : State) (H1 : Heap) (locs1 : List Loc), t.heap = H1 → s.vm.Alike t.vm → post r u → B u t → H.size ≤ H1.size → (∀ q : Nat, q < H.size → ¬ A1 q → H1[q]? = H[q]?) → va_S A0 H0 H1 locs1 → W p l e R s m args below meth c H1 locs1 (cells + mc) (slots + ms) Q (F0 m (pc + 3) ls (.long r :: rest))) : W p l e R s m args below meth c H locs cells slots Q (F0 m pc ls st0) := by
  intro T hT X
  rcases hr T hT X with ⟨v, st₀, t, T', L, h0, X', hL, e1, e2, ⟨⟨r, u, hv, hp, hb⟩, hF⟩, st⟩ | ⟨q, st₀, t, T', L, E, ce, h0, X', hL, e1, e2, ⟨u, hp, hb, hF⟩, hce, hcv, hcl, st⟩
  · cases hv
    obtain ⟨k1, k2, k3⟩ := vx_keep h0 e1 hS hA hf hL hF
    obtain ⟨t2, a1, b1⟩ := kk r u t T'.heap (locs ++ L) e1.symm (by rw [← e2]; exact X'.warmed.alike) hp hb k1 k2 k3 T' rfl X'
    exact ⟨t2, st t2 a1, b1⟩
  · obtain ⟨k1, k2, k3⟩ := vx_keep h0 e1 hS hAX hf hL hF
    obtain ⟨t2, a1, b1⟩ := kx E ce q u t T'.heap (locs ++ L) e1.symm (by rw [← e2]; exact X'.warmed.alike) hp hb k1 k2 k3 (by rw [e1]; exact hce) hcv hcl T' rfl X'
    exact ⟨t2, st.trans a1, b1⟩
theorem vx_callf {S SX : Type} {post : UInt32 → S → Prop} {px : SX → Prop} {B : S → State → Prop} {BX : String → SX → State → Prop} {AX : Nat → Prop} (hr : vx_Run p l e R s m args below meth c H locs cells slots mc ms (F0 m pc ls st0) rest (va_Qf post B A1 a) (vx_X px BX AX) free) (hS : va_S A0 H0 H locs) (hA : ∀ q, q < H.size → A1 q → A0 q) (hf : ∀ q, free q → A0 q) (hAX : ∀ q, q < H.size → AX q → A0 q)
    (kx : ∀ (E : String) (ce : Cell) (q9 : Addr) (u : SX) (t : State) (H1 : Heap) (locs1 : List Loc), t.heap = H1 → s.vm.Alike t.vm → px u → BX E u t → H.size ≤ H1.size → (∀ q : Nat, q < H.size → ¬ AX q → H1[q]? = H[q]?) → va_S A0 H0 H1 locs1 → H1[q9]? = some ce → ce.vm = .none → s.vm.findClass E = some ce.cls → vx_W p l e R s m args below meth c H1 locs1 (cells + mc) (slots + ms) Q (F0 m pc ls rest) q9)
    (kk : ∀ (r : UInt32) (u : S) (t : State) (H1 : Heap) (locs1 : List Loc), t.heap = H1 → s.vm.Alike t.vm → post r u → B u t → H.size ≤ H1.size → (∀ q : Nat, q < H.size → ¬ A1 q → H1[q]? = H[q]?) → va_S A0 H0 H1 locs1 → W p l e R s m args below meth c H1 locs1 (cells + mc) (slots + ms) Q (F0 m (pc + 3) ls (.float r :: rest))) : W p l e R s m args below meth c H locs cells slots Q (F0 m pc ls st0) := by
  intro T hT X
  rcases hr T hT X with ⟨v, st₀, t, T', L, h0, X', hL, e1, e2, ⟨⟨r, u, hv, hp, hb⟩, hF⟩, st⟩ | ⟨q, st₀, t, T', L, E, ce, h0, X', hL, e1, e2, ⟨u, hp, hb, hF⟩, hce, hcv, hcl, st⟩
  · cases hv
    obtain ⟨k1, k2, k3⟩ := vx_keep h0 e1 hS hA hf hL hF
    obtain ⟨t2, a1, b1⟩ := kk r u t T'.heap (locs ++ L) e1.symm (by rw [← e2]; exact X'.warmed.alike) hp hb k1 k2 k3 T' rfl X'
    exact ⟨t2, st t2 a1, b1⟩
  · obtain ⟨k1, k2, k3⟩ := vx_keep h0 e1 hS hAX hf hL hF
    obtain ⟨t2, a1, b1⟩ := kx E ce q u t T'.heap (locs ++ L) e1.symm (by rw [← e2]; exact X'.warmed.alike) hp hb k1 k2 k3 (by rw [e1]; exact hce) hcv hcl T' rfl X'
    exact ⟨t2, st.trans a1, b1⟩
theorem vx_calld {S SX : Type} {post : UInt64 → S → Prop} {px : SX → Prop} {B : S → State → Prop} {BX : String → SX → State → Prop} {AX : Nat → Prop} (hr : vx_Run p l e R s m args below meth c H locs cells slots mc ms (F0 m pc ls st0) rest (va_Qd post B A1 a) (vx_X px BX AX) free) (hS : va_S A0 H0 H locs) (hA : ∀ q, q < H.size → A1 q → A0 q) (hf : ∀ q, free q → A0 q) (hAX : ∀ q, q < H.size → AX q → A0 q)
    (kx : ∀ (E : String) (ce : Cell) (q9 : Addr) (u : SX) (t : State) (H1 : Heap) (locs1 : List Loc), t.heap = H1 → s.vm.Alike t.vm → px u → BX E u t → H.size ≤ H1.size → (∀ q : Nat, q < H.size → ¬ AX q → H1[q]? = H[q]?) → va_S A0 H0 H1 locs1 → H1[q9]? = some ce → ce.vm = .none → s.vm.findClass E = some ce.cls → vx_W p l e R s m args below meth c H1 locs1 (cells + mc) (slots + ms) Q (F0 m pc ls rest) q9)
    (kk : ∀ (r : UInt64) (u : S) (t : State) (H1 : Heap) (locs1 : List Loc), t.heap = H1 → s.vm.Alike t.vm → post r u → B u t → H.size ≤ H1.size → (∀ q : Nat, q < H.size → ¬ A1 q → H1[q]? = H[q]?) → va_S A0 H0 H1 locs1 → W p l e R s m args below meth c H1 locs1 (cells + mc) (slots + ms) Q (F0 m (pc + 3) ls (.double r :: rest))) : W p l e R s m args below meth c H locs cells slots Q (F0 m pc ls st0) := by
  intro T hT X
  rcases hr T hT X with ⟨v, st₀, t, T', L, h0, X', hL, e1, e2, ⟨⟨r, u, hv, hp, hb⟩, hF⟩, st⟩ | ⟨q, st₀, t, T', L, E, ce, h0, X', hL, e1, e2, ⟨u, hp, hb, hF⟩, hce, hcv, hcl, st⟩
  · cases hv
    obtain ⟨k1, k2, k3⟩ := vx_keep h0 e1 hS hA hf hL hF
    obtain ⟨t2, a1, b1⟩ := kk r u t T'.heap (locs ++ L) e1.symm (by rw [← e2]; exact X'.warmed.alike) hp hb k1 k2 k3 T' rfl X'
    exact ⟨t2, st t2 a1, b1⟩
  · obtain ⟨k1, k2, k3⟩ := vx_keep h0 e1 hS hAX hf hL hF
    obtain ⟨t2, a1, b1⟩ := kx E ce q u t T'.heap (locs ++ L) e1.symm (by rw [← e2]; exact X'.warmed.alike) hp hb k1 k2 k3 (by rw [e1]; exact hce) hcv hcl T' rfl X'
    exact ⟨t2, st.trans a1, b1⟩
theorem vx_callv {S SX : Type} {post : S → Prop} {px : SX → Prop} {B : S → State → Prop} {BX : String → SX → State → Prop} {AX : Nat → Prop} (hr : vx_Run p l e R s m args below meth c H locs cells slots mc ms (F0 m pc ls st0) rest (va_Qv post B A1 a) (vx_X px BX AX) free) (hS : va_S A0 H0 H locs) (hA : ∀ q, q < H.size → A1 q → A0 q) (hf : ∀ q, free q → A0 q) (hAX : ∀ q, q < H.size → AX q → A0 q)
    (kx : ∀ (E : String) (ce : Cell) (q9 : Addr) (u : SX) (t : State) (H1 : Heap) (locs1 : List Loc), t.heap = H1 → s.vm.Alike t.vm → px u → BX E u t → H.size ≤ H1.size → (∀ q : Nat, q < H.size → ¬ AX q → H1[q]? = H[q]?) → va_S A0 H0 H1 locs1 → H1[q9]? = some ce → ce.vm = .none → s.vm.findClass E = some ce.cls → vx_W p l e R s m args below meth c H1 locs1 (cells + mc) (slots + ms) Q (F0 m pc ls rest) q9)
    (kk : ∀ (u : S) (t : State) (H1 : Heap) (locs1 : List Loc), t.heap = H1 → s.vm.Alike t.vm → post u → B u t → H.size ≤ H1.size → (∀ q : Nat, q < H.size → ¬ A1 q → H1[q]? = H[q]?) → va_S A0 H0 H1 locs1 → W p l e R s m args below meth c H1 locs1 (cells + mc) (slots + ms) Q (F0 m (pc + 3) ls (rest))) : W p l e R s m args below meth c H locs cells slots Q (F0 m pc ls st0) := by
  intro T hT X
  rcases hr T hT X with ⟨v, st₀, t, T', L, h0, X', hL, e1, e2, ⟨⟨u, hv, hp, hb⟩, hF⟩, st⟩ | ⟨q, st₀, t, T', L, E, ce, h0, X', hL, e1, e2, ⟨u, hp, hb, hF⟩, hce, hcv, hcl, st⟩
  · cases hv
    obtain ⟨k1, k2, k3⟩ := vx_keep h0 e1 hS hA hf hL hF
    obtain ⟨t2, a1, b1⟩ := kk u t T'.heap (locs ++ L) e1.symm (by rw [← e2]; exact X'.warmed.alike) hp hb k1 k2 k3 T' rfl X'
    exact ⟨t2, st t2 a1, b1⟩
  · obtain ⟨k1, k2, k3⟩ := vx_keep h0 e1 hS hAX hf hL hF
    obtain ⟨t2, a1, b1⟩ := kx E ce q u t T'.heap (locs ++ L) e1.symm (by rw [← e2]; exact X'.warmed.alike) hp hb k1 k2 k3 (by rw [e1]; exact hce) hcv hcl T' rfl X'
    exact ⟨t2, st.trans a1, b1⟩
/-- caught by the row x of this method's table; the rows ahead don't take it -/
theorem vx_catch {own name : String} {E : String} {ce : Cell} {q : Addr} (hown : s.vm.findClass own = some m.cls) (pre : List ExceptionTableEntry) (x : ExceptionTableEntry) (suf : List ExceptionTableEntry) (hsplit : c.exceptionTable.toList = pre ++ x :: suf)
    (hpass : ∀ z ∈ pre, covers z pc = false ∨ (z.catchType ≠ 0 ∧ ∃ nm : String, (Cond.classLink own z.catchType nm).before args s = true ∧ va_Nc E nm s)) (hx : covers x pc = true) (h0 : x.catchType ≠ 0)
    (hlink : (Cond.classLink own x.catchType name).before args s = true) (hcast : (Cond.castable E name).before args s = true) (hcell : H[q]? = some ce) (hv : ce.vm = .none) (hcl : s.vm.findClass E = some ce.cls)
    (kk : W p l e R s m args below meth c H locs cells slots Q (F0 m x.handlerPc ls [.ref q])) : vx_W p l e R s m args below meth c H locs cells slots Q (F0 m pc ls rest) q := by
  intro T hT X
  have hpl : e.platform.magicAccessors = ({} : Platform).magicAccessors := by rw [X.admits.platform]
  obtain ⟨c3, c4, hc3, hc4, hasg⟩ := Cond.castable_spec hcast
  cases Option.some.inj (hc3.symm.trans hcl)
  obtain ⟨c5, hc5, hcl5⟩ := Cond.classLink_spec hown hlink e.platform hpl
  cases Option.some.inj (hc4.symm.trans hc5)
  obtain ⟨vm', X', st⟩ := X.thenCaughtThrough q (g := F0 m pc ls rest) rfl (Steps.refl _) (by rw [hT]; exact hcell) (by rw [hv]; rfl) (by obtain ⟨k9, h9, -⟩ := Vm.findClass_spec hcl; exact ⟨k9, h9⟩) pre x suf hsplit
    (fun z hz => by
      rcases hpass z hz with h | ⟨hz0, nm, hl1, hn1⟩
      · exact Or.inl h
      · obtain ⟨c6, hc6, hcl6⟩ := Cond.classLink_spec hown hl1 e.platform hpl
        obtain ⟨a8, b8, h1, h2, h3⟩ := hn1
        cases Option.some.inj (h1.symm.trans hcl)
        cases Option.some.inj (h2.symm.trans hc6)
        exact Or.inr ⟨hz0, _, hcl6, h3⟩) hx (Or.inr ⟨h0, c4, hcl5, hasg⟩)
  obtain ⟨t, a1, b1⟩ := kk (T.setVm vm') hT X'
  exact ⟨t, st.trans a1, b1⟩
end Rows
section Ends
variable {p : Program} {l : Launch} {e : Env} {R : Room} {s : State} {m : MethodId} {args : Array Value} {below : List Frame} {meth : Method} {c : Code} {H : Heap} {locs : List Loc} {cells slots : Nat} {Q : State → Prop}
variable {mc ms : Nat} {free : Addr → Prop} {A0 A1 : Nat → Prop} {H0 : Heap} {a : Array Value} {ls : Array Slot} {st0 rest : List Value}
variable {Qc : Array Value → State → Outcome → State → Prop} {XC : String → State → State → Prop}
/-- what a body that may throw owes at its end -/
def vx_MQ (below : List Frame) (Qc : Array Value → State → Outcome → State → Prop) (XC : String → State → State → Prop) (a : Array Value) (s : State) (mc ms : Nat) (free : Addr → Prop) : State → Prop := fun t =>
  ∃ o, t.status = .running ∧ Ended t below o ∧ vx_Q Qc XC mc ms free a s o t
theorem vx_ret {g : JFrame} {mc ms : Nat} (k : W p l e R s m args below meth c H locs cells slots (MQ below Qc args s mc ms free) g) : W p l e R s m args below meth c H locs cells slots (vx_MQ below Qc XC args s mc ms free) g := by
  intro T hT X
  obtain ⟨t, a1, o, b1, b2, b3, b4⟩ := k T hT X
  exact ⟨t, a1, o, b1, b2, Or.inl ⟨b3, b4⟩⟩
/-- not caught here: it goes on to the caller -/
theorem vx_widen {g : JFrame} {q : Addr} {k n : Nat} (h1 : cells ≤ k) (h2 : slots ≤ n) (kk : vx_W p l e R s m args below meth c H locs k n Q g q) : vx_W p l e R s m args below meth c H locs cells slots Q g q := fun T hT X => kk T hT (stand_widen X h1 h2)
theorem vx_out {pc : Nat} {E : String} {ce : Cell} {q : Addr} {mc ms : Nat} (hout : ∀ x ∈ c.exceptionTable.toList, covers x pc = false) (hlocks : meth.locks = false) (hcell : H[q]? = some ce) (hv : ce.vm = .none) (hcl : s.vm.findClass E = some ce.cls)
    (hx : ∀ t : State, t.heap = H → s.vm.Alike t.vm → XC E s t) (hf : ∀ z ∈ locs, free z.base) (hc : cells ≤ mc) (hs : slots ≤ ms) :
    vx_W p l e R s m args below meth c H locs cells slots (vx_MQ below Qc XC args s mc ms free) (F0 m pc ls rest) q := by
  intro T hT X
  obtain ⟨st1, hrun, hend, hW, hsm⟩ := X.leaveThrown q (g := F0 m pc ls rest) rfl rfl rfl hout hlocks
  have hcell9 : (T.setFrames (.throwing q :: below)).heap[q]? = some ce := by
    show T.heap[q]? = some ce
    rw [hT]; exact hcell
  exact ⟨_, st1, .threw q, hrun, hend, Or.inr ⟨q, rfl, E, ce, locs, hx _ hT hW.alike, hcell9, hv, hcl, hW, hsm.mono hc hs, hf⟩⟩
theorem vx_frame {U : State} {k n : Nat} (h : s.sameButNew ({ U with vm := s.vm } : State) locs k n) : s.heap.size ≤ U.heap.size ∧ ∀ q : Nat, q < s.heap.size → (∀ z ∈ locs, z.base ≠ q) → U.heap[q]? = s.heap[q]? := by
  obtain ⟨-, h2, -, -, -, h6⟩ := h
  refine ⟨h2, fun q hq hz => ?_⟩
  obtain ⟨c9, e1, e2, e3, e4⟩ := h6 q _ (Array.getElem?_eq_getElem hq)
  have hs : c9.slots = (s.heap[q]).slots := Array.ext_getElem? fun i => e4 i fun hm => hz _ hm rfl
  have h9 : c9 = s.heap[q] := by
    rw [hs] at e2
    exact e2
  have e5 : U.heap[q]? = some c9 := e1
  rw [e5, h9, Array.getElem?_eq_getElem hq]
/-- the words of a throw but the four that speak of the heap -/
def vx_no (w : Cond) : Bool := decide (w ≠ .isRef (.static Bundle.tN "UNASSIGNED_STACK" Bundle.steD)) && decide (w ≠ .isRef (.static Bundle.tN "SUPPRESSED_SENTINEL" Bundle.listD)) && decide (w ≠ .laysStatic Bundle.tN "UNASSIGNED_STACK" Bundle.steD) && decide (w ≠ .laysStatic Bundle.tN "SUPPRESSED_SENTINEL" Bundle.listD)
def vx_at0 (own : String) (ic : Nat) (X : String) (names : List String) : List Cond := (Bundle.ownAtoms0 own ic X names).filter vx_no
def vx_atS (own : String) (ic : Nat) (X : String) (names : List String) : List Cond := (Bundle.ownAtoms own ic X names).filter vx_no
/-- a word that the tables alone decide, or a good one -/
def vx_ot (w : Cond) : Bool := w.onTables || goodWord w
theorem vx_ot_at {args a' : Array Value} {s U : State} {w : Cond} (hW : s.WarmedH U.vm) (hvm : s.vm = U.vm) (hg : vx_ot w = true) (h : w.before args s = true) : w.before a' U = true := by
  simp only [vx_ot, Bool.or_eq_true] at hg
  rcases hg with hg | hg
  · exact va_tabs hg hvm h
  · exact word_at hW (good_of_word hg) h
/-- a list's words: the good ones out of the method's own list, the others by premises of their own -/
theorem vx_hat {args : Array Value} {s : State} {L B : List Cond} (h1 : ∀ w ∈ L.filter goodWord, w.before args s = true) (h2 : ∀ w ∈ L.filter (fun w => !goodWord w), w ∈ B) (h3 : ∀ w ∈ B, w.before args s = true) : ∀ w ∈ L, w.before args s = true := by
  intro w hw
  by_cases g : goodWord w = true
  · exact h1 w (List.mem_filter.mpr ⟨hw, g⟩)
  · refine h3 w (h2 w (List.mem_filter.mpr ⟨hw, ?_⟩))
    show (!goodWord w) = true
    cases hgw : goodWord w
    · rfl
    · exact absurd hgw g
theorem vx_c {args : Array Value} {s : State} {w : Cond} {B : List Cond} (h : w.before args s = true) (t : ∀ w ∈ B, w.before args s = true) : ∀ w' ∈ w :: B, w'.before args s = true := fun w' h' => (List.mem_cons.mp h').elim (fun e => by rw [e]; exact h) (t w')
theorem vx_n {args : Array Value} {s : State} : ∀ w ∈ ([] : List Cond), w.before args s = true := fun _ h => nomatch h
theorem vx_own {args : Array Value} {s : State} {L : List Cond} (h1 : ∀ w ∈ L.filter vx_no, w.before args s = true)
    (hU : (Cond.isRef (.static Bundle.tN "UNASSIGNED_STACK" Bundle.steD)).before args s = true) (hN : (Cond.isRef (.static Bundle.tN "SUPPRESSED_SENTINEL" Bundle.listD)).before args s = true)
    (lU : (Cond.laysStatic Bundle.tN "UNASSIGNED_STACK" Bundle.steD).before args s = true) (lN : (Cond.laysStatic Bundle.tN "SUPPRESSED_SENTINEL" Bundle.listD).before args s = true) : ∀ w ∈ L, w.before args s = true := by
  intro w hw
  by_cases e1 : w = .isRef (.static Bundle.tN "UNASSIGNED_STACK" Bundle.steD)
  · rw [e1]; exact hU
  · by_cases e2 : w = .isRef (.static Bundle.tN "SUPPRESSED_SENTINEL" Bundle.listD)
    · rw [e2]; exact hN
    · by_cases e3 : w = .laysStatic Bundle.tN "UNASSIGNED_STACK" Bundle.steD
      · rw [e3]; exact lU
      · by_cases e4 : w = .laysStatic Bundle.tN "SUPPRESSED_SENTINEL" Bundle.listD
        · rw [e4]; exact lN
        · exact h1 w (List.mem_filter.mpr ⟨hw, by unfold vx_no; rw [decide_eq_true e1, decide_eq_true e2, decide_eq_true e3, decide_eq_true e4]; rfl⟩)
/-- where a static field lies, its class's statics cell in H -/
def vx_L (C n d : String) (A : Nat → Prop) (U : State) (H : Heap) : Prop := ∃ (c : ClassId) (k : Class) (i : Nat) (f : Field) (a : Nat) (cell : Cell), U.vm.findClass C = some c ∧ U.fieldFound? C n d = some (c, k, i, f) ∧ f.isStatic = true ∧ k.statics = some a ∧ H[a]? = some cell ∧ cell.vm.isStatics = true ∧ cell.cls = c ∧ f.slot < cell.slots.size ∧ k.staticTypes[f.slot]? = some f.type ∧ ¬ A a
theorem vx_L.moved {C n d : String} {A : Nat → Prop} {u U : State} {H : Heap} (hvm : u.vm.Alike U.vm) (h : vx_L C n d A u H) : vx_L C n d A U H := by
  obtain ⟨c, k, i, f, a, cell, h1, h2, h3, h4, h5, h6, h7, h8, h9, h10⟩ := h
  obtain ⟨k', hi', he⟩ := State.fieldFound?_setVm hvm h2
  exact ⟨c, k', i, f, a, cell, by rw [hvm.findClass]; exact h1, hi', h3, by rw [he]; exact h4, h5, h6, h7, h8, by rw [he]; exact h9, h10⟩
theorem vx_L.kept {C n d : String} {A : Nat → Prop} {U : State} {H H1 : Heap} (h : vx_L C n d A U H) (hq : ∀ a : Nat, a < H.size → ¬ A a → H1[a]? = H[a]?) : vx_L C n d A U H1 := by
  obtain ⟨c, k, i, f, a, cell, h1, h2, h3, h4, h5, h6, h7, h8, h9, h10⟩ := h
  exact ⟨c, k, i, f, a, cell, h1, h2, h3, h4, by rw [hq a (Array.getElem?_eq_some_iff.mp h5).1 h10]; exact h5, h6, h7, h8, h9, h10⟩
theorem vx_L.narrow {C n d : String} {A B : Nat → Prop} {U : State} {H : Heap} (h : vx_L C n d A U H) (hAB : ∀ q, B q → A q) : vx_L C n d B U H := by
  obtain ⟨c, k, i, f, a, cell, h1, h2, h3, h4, h5, h6, h7, h8, h9, h10⟩ := h
  exact ⟨c, k, i, f, a, cell, h1, h2, h3, h4, h5, h6, h7, h8, h9, fun z => h10 (hAB _ z)⟩
theorem vx_L.word {C n d : String} {A : Nat → Prop} {s : State} {args : Array Value} (h : vx_L C n d A s s.heap) : (Cond.laysStatic C n d).before args s = true := by
  obtain ⟨c, k, i, f, a, cell, h1, h2, h3, h4, h5, h6, h7, h8, h9, -⟩ := h
  show (Cond.laysStatic C n d).holds args s none s [] = true
  exact Cond.laysStatic_of h1 h2 h3 h4 h5 h6 h7 h8 h9
/-- .. and what it holds: null or some reference -/
def vx_Zq (C n d : String) (A : Nat → Prop) (U : State) (H : Heap) : Prop := va_Zq C n d A U H ∧ vx_L C n d A U H
theorem vx_Zq.moved {C n d : String} {A : Nat → Prop} {u U : State} {H : Heap} (hvm : u.vm.Alike U.vm) (h : vx_Zq C n d A u H) : vx_Zq C n d A U H := ⟨va_Zq.moved hvm h.1, vx_L.moved hvm h.2⟩
theorem vx_Zq.kept {C n d : String} {A : Nat → Prop} {U : State} {H H1 : Heap} (h : vx_Zq C n d A U H) (hq : ∀ a : Nat, a < H.size → ¬ A a → H1[a]? = H[a]?) : vx_Zq C n d A U H1 := ⟨va_Zq.kept h.1 hq, vx_L.kept h.2 hq⟩
theorem vx_Zq.narrow {C n d : String} {A B : Nat → Prop} {U : State} {H : Heap} (h : vx_Zq C n d A U H) (hAB : ∀ q, B q → A q) : vx_Zq C n d B U H := ⟨va_Zq.narrow h.1 hAB, vx_L.narrow h.2 hAB⟩
theorem vx_Zqof {args : Array Value} {s : State} {C n d : String} {A : Nat → Prop} (hl : (Cond.laysStatic C n d).before args s = true) (hini : (Cond.initialized C).before args s = true) (h : (Cond.isRef (.static C n d)).before args s = true) (hA : ∀ a : Nat, a < s.heap.size → ¬ A a) : vx_Zq C n d A s s.heap := by
  refine ⟨va_Zqof hl hini h hA, ?_⟩
  obtain ⟨c, k, i, f, a, cell, h1, h2, h3, h4, h5, h6, h7, h8, h9⟩ := Cond.laysStatic_spec hl
  exact ⟨c, k, i, f, a, cell, h1, h2, h3, h4, h5, h6, h7, h8, h9, hA a (Array.getElem?_eq_some_iff.mp h5).1⟩
theorem vx_isRef {C n d : String} {v : Value} {A : Nat → Prop} {s : State} {args : Array Value} (h : va_Z C n d v A s s.heap) (hv : v.isRef = true) : (Cond.isRef (.static C n d)).before args s = true := by
  obtain ⟨cf, kf, fi, f, a, cell, h1, h2, h3, h4, h5, h6, h7, -⟩ := h
  have he : (Term.static C n d).eval args s none [] s = some v := by
    simp [Term.eval, State.fieldNamed?, h1, h2, h4, h5, h6, h7]
  simp only [Cond.before, Cond.holds, Cond.value, he]
  cases v <;> simp_all [Value.isRef]
theorem vx_isRefq {C n d : String} {A : Nat → Prop} {s : State} {args : Array Value} (h : va_Zq C n d A s s.heap) : (Cond.isRef (.static C n d)).before args s = true := by
  rcases h with h | ⟨t, h⟩
  · exact vx_isRef h rfl
  · exact vx_isRef h rfl
/-- the same frame, seen from here: as if the method were called anew in this heap -/
theorem vx_rebase {T : State} (X : Stand p l e R s m args below meth c T locs cells slots) {R' : Room} (hf : R'.frames ≤ R.frames) (hl : R'.locals ≤ R.locals) (hc : cells + R'.cells ≤ R.cells) (hs : slots + R'.slots ≤ R.slots) :
    Stand p l e R' ((T.setVm s.vm).setFrames (.invoking m args :: below)) m args below meth c T [] 0 0 := by
  have htop : (T.setVm s.vm).topJava?.isSome := X.here.top
  have hF : ((T.setVm s.vm).setFrames (.invoking m args :: below)).frames = .invoking m args :: below := State.frames_setFrames _ (State.cur_lt_of_top htop)
  obtain ⟨g₀, hg0⟩ := Option.isSome_iff_exists.mp htop
  obtain ⟨r, hr⟩ := State.topJava?_eq_some.mp hg0
  have hl9 : e.platform.stackLimits (T.setVm s.vm).me = e.platform.stackLimits s.me := X.limits
  have hb9 : (T.setVm s.vm).me.stackBytes = s.me.stackBytes := X.bytes
  refine ⟨X.admits, X.cas, X.clock, hF, ?_, X.hears, X.method, X.code, X.here, X.tail, X.warmed, ?_, ?_, ?_⟩
  · have h := X.room
    have hU : ((T.setVm s.vm).setFrames (.invoking m args :: below)).localsInUse = s.localsInUse := by
      rw [State.localsInUse_invoking hF (meth := meth) (c := c) X.method X.code, State.localsInUse_invoking X.frames X.method X.code]
    simp only [State.hasRoom, Bool.and_eq_true, decide_eq_true_eq] at h ⊢
    obtain ⟨⟨⟨⟨h1, h2, h3, h4, h5, h6⟩, h7⟩, h8⟩, h9⟩ := h
    rw [X.frames, List.length_cons] at h2 h3
    have q1 := X.heapSize
    have q2 := X.used
    simp only [hF, hU, List.length_cons, State.stackLimits_setFrames, State.stackBytes_setFrames, hl9, hb9]
    refine ⟨⟨⟨⟨by omega, by omega, by omega, by omega, by omega, h6⟩, ?_⟩, ?_⟩, X.book⟩
    · show T.heap.size + R'.cells ≤ e.platform.maxCells
      omega
    · show T.slotsUsed + R'.slots ≤ e.platform.maxSlots
      omega
  · rw [State.stackLimits_setFrames]; rfl
  · rw [State.stackBytes_setFrames]; rfl
  · refine ⟨?_, Nat.le_refl _, Nat.le_refl _, ?_, ?_, fun a c9 h9 => ⟨c9, h9, rfl, rfl, fun _ _ => rfl⟩⟩
    · obtain ⟨t, ht, -⟩ := State.frames_cons hr
      show T.setVm s.vm = { ((T.setVm s.vm).setFrames (.invoking m args :: below)).setFrames (T.setVm s.vm).frames with heap := T.heap, slotsUsed := T.slotsUsed }
      rw [State.setFrames_setFrames, State.setFrames_self ht]
      rfl
    · show T.slotsUsed = T.slotsUsed + ((T.heap.toList.drop T.heap.size).map (·.slots.size)).sum
      rw [List.drop_eq_nil_of_le (Nat.le_of_eq Array.length_toList)]
      rfl
    · show ((T.heap.toList.drop T.heap.size).map (·.slots.size)).sum ≤ 0
      rw [List.drop_eq_nil_of_le (Nat.le_of_eq Array.length_toList)]
      exact Nat.le_refl _
/-- 'throw new E()': new; dup; invokespecial; athrow -/
theorem vx_throw0 {cc : ByteArray} {pc : Nat} (hexec : p.tables.exec = Jvm.exec) (hb : c.code = cc) (hl : l.stackTraces = false) {own cls : String} {names : List String} {ik ic mc ms : Nat} {A : Nat → Prop}
    (hown : s.vm.findClass own = some m.cls) (hcls : Bundle.fit cls = true) (hnames : ∀ n ∈ names, Bundle.fit n = true)
    (hk : (Cond.classLink own ik cls).before args s = true) (hini : (Cond.initialized cls).before args s = true) (hat : ∀ w ∈ vx_at0 own ic cls names, w.before args s = true)
    (hgood : ∀ w ∈ Cond.classLink own ik cls :: Cond.initialized cls :: vx_at0 own ic cls names, vx_ot w = true)
    (hU : vx_Zq Bundle.tN "UNASSIGNED_STACK" Bundle.steD A s s.heap) (hN : vx_Zq Bundle.tN "SUPPRESSED_SENTINEL" Bundle.listD A s s.heap) (hS : va_S A s.heap H locs) (hsize : ls.size = c.maxLocals)
    (d0 : decode cc pc = .ok (.new ik, 3)) (d3 : decode cc (pc + 3) = .ok (.dup, 1)) (d4 : decode cc (pc + 4) = .ok (.invokespecial ic, 3)) (d7 : decode cc (pc + 7) = .ok (.athrow, 1))
    (hout : ∀ x ∈ c.exceptionTable.toList, covers x (pc + 7) = false)
    (hRframes : names.length + 3 < R.frames) (hRlocals : (rest.map fun v => v.category).sum + (13 * (names.length + 1) + 42) ≤ R.locals) (hRcells : cells + 1 ≤ R.cells) (hRslots : slots + 6 ≤ R.slots) (hlocks : meth.locks = false)
    (hx : ∀ t : State, s.vm.Alike t.vm → H.size ≤ t.heap.size → (∀ q : Nat, q < H.size → t.heap[q]? = H[q]?) → XC cls s t)
    (hf : ∀ z ∈ locs, free z.base) (hc : cells + 1 ≤ mc) (hs : slots + 6 ≤ ms) :
    W p l e R s m args below meth c H locs cells slots (vx_MQ below Qc XC args s mc ms free) (F0 m pc ls rest) := by
  intro T hT X
  have htr : e.platform.stackTraces = false := (show e.platform.stackTraces = l.stackTraces by rw [X.admits.platform]).trans hl
  have Y := vx_rebase X (R' := { frames := R.frames, locals := R.locals, cells := 1, slots := 6 }) (Nat.le_refl _) (Nat.le_refl _) hRcells hRslots
  obtain ⟨s', hA⟩ : ∃ z, z = (T.setVm s.vm).setFrames (.invoking m args :: below) := ⟨_, rfl⟩
  rw [← hA] at Y
  have hvm : s'.vm = s.vm := by rw [hA]; rfl
  have hhp : s'.heap = H := by rw [hA]; exact hT
  have hW0 : s.WarmedH s'.vm := by rw [hvm]; exact State.WarmedH.refl s
  have hat' : ∀ w ∈ vx_at0 own ic cls names, w.before args s' = true := fun w hw => vx_ot_at hW0 hvm.symm (hgood w (List.mem_cons_of_mem _ (List.mem_cons_of_mem _ hw))) (hat w hw)
  have hk' : (Cond.classLink own ik cls).before args s' = true := vx_ot_at hW0 hvm.symm (hgood _ List.mem_cons_self) hk
  have hini' : (Cond.initialized cls).before args s' = true := vx_ot_at hW0 hvm.symm (hgood _ (List.mem_cons_of_mem _ List.mem_cons_self)) hini
  have hU' : vx_Zq Bundle.tN "UNASSIGNED_STACK" Bundle.steD A s' s'.heap := by rw [hhp]; exact vx_Zq.moved hW0.alike (hU.kept hS.2.1)
  have hN' : vx_Zq Bundle.tN "SUPPRESSED_SENTINEL" Bundle.listD A s' s'.heap := by rw [hhp]; exact vx_Zq.moved hW0.alike (hN.kept hS.2.1)
  have h : ∀ w ∈ Bundle.ownAtoms0 own ic cls names, w.before args s' = true := vx_own hat' (vx_isRefq hU'.1) (vx_isRefq hN'.1) hU'.2.word hN'.2.word
  have hown' : s'.vm.findClass own = some m.cls := by rw [hvm]; exact hown
  have hins : (Cond.instantiable cls 6).before args s' = true := h _ (by simp [Bundle.ownAtoms0])
  obtain ⟨vm₁, cX, kX, hfX, hkX, -, -, X₁, st1⟩ := Y.newCold hexec (own := own) (C := cls) (index := ik) (n := 6) hown' hk' hins hini'
    (g := F0 m pc ls rest) rfl (by rw [hb]; exact d0) (Nat.le_refl _) (Nat.le_refl _)
  generalize hT1 : (T.setVm vm₁).pushCell { cls := cX, slots := kX.instanceTypes.map defaultValue, vm := .none } = T1 at X₁ st1
  have hcat : (Value.ref T.heap.size).category = 1 := rfl
  have hcellA : T1.heap[T.heap.size]? = some (freshCell cX kX) := by rw [← hT1]; exact State.heap_pushCell_size _ _
  have d3' : decode c.code (pc + 3) = .ok (.dup, 1) := by rw [hb]; exact d3
  obtain ⟨U, hsteps, hrun, hend, hW, hsame, ce, hce, hO⟩ := X₁.ctorThrow0 hexec htr (own := own) (cls := cls) (names := names) (ic := ic) hown' hcls hnames h (fun x hx => nomatch hx) hfX hkX hcellA (by rw [hhp, hT]; exact Nat.le_refl _)
    (g := { method := m, pc := pc + 4, locals := ls, stack := .ref T.heap.size :: .ref T.heap.size :: rest, locked := none }) rfl hsize rfl rfl (rest := rest) rfl
    (by rw [hb]; exact d4) (by rw [hb]; exact d7) hout hRframes (by simp only [List.map_cons, List.sum_cons, hcat]; omega) hlocks
  obtain ⟨f1, f2⟩ := vx_frame hsame
  rw [hhp] at f1 f2
  have hWs : s.WarmedH U.vm := State.WarmedH.trans hW0 hW
  have hcl : s.vm.findClass cls = some ce.cls := by
    have h9 := hO.cls
    rw [hvm] at h9
    exact h9
  have hall : s.sameButNew ({ U with vm := s.vm } : State) locs mc ms := by
    subst hA
    obtain ⟨e1, e2⟩ := hsame
    rw [State.setFrames_setFrames] at e1
    have h2 : (T.setVm s.vm).sameButNew ({ U with vm := s.vm } : State) [] (0 + 1) (0 + 6) := ⟨e1, e2⟩
    have h3 := X.same.trans h2
    rw [List.append_nil] at h3
    exact h3.mono hc hs
  refine ⟨U, ?_, .threw T.heap.size, hrun, hend, Or.inr ⟨T.heap.size, rfl, cls, ce, locs, hx U hWs.alike f1 (fun q hq => f2 q hq (fun z hz => nomatch hz)), hce, hO.vm, hcl, hWs, hall, hf⟩⟩
  refine st1 _ ?_
  show Steps p.tables e below (T1.setTop { method := m, pc := pc + 3, locals := ls, stack := .ref T.heap.size :: rest, locked := none }) _
  jvm_step X₁.here [X₁.here.top, hexec, d3', Value.category]
  exact hsteps
/-- 'throw new E("text")': new; dup; ldc; invokespecial; athrow -/
theorem vx_throwS {cc : ByteArray} {pc : Nat} (hexec : p.tables.exec = Jvm.exec) (hb : c.code = cc) (hl : l.stackTraces = false) {own cls text : String} {names : List String} {ik is ic mc ms sa : Nat} {A : Nat → Prop}
    (hown : s.vm.findClass own = some m.cls) (hcls : Bundle.fit cls = true) (hnames : ∀ n ∈ names, Bundle.fit n = true)
    (hk : (Cond.classLink own ik cls).before args s = true) (hini : (Cond.initialized cls).before args s = true) (hstr : vk_R own is text sa s) (hat : ∀ w ∈ vx_atS own ic cls names, w.before args s = true)
    (hgood : ∀ w ∈ Cond.classLink own ik cls :: Cond.initialized cls :: vx_atS own ic cls names, vx_ot w = true)
    (hU : vx_Zq Bundle.tN "UNASSIGNED_STACK" Bundle.steD A s s.heap) (hN : vx_Zq Bundle.tN "SUPPRESSED_SENTINEL" Bundle.listD A s s.heap) (hS : va_S A s.heap H locs) (hsize : ls.size = c.maxLocals)
    (d0 : decode cc pc = .ok (.new ik, 3)) (d3 : decode cc (pc + 3) = .ok (.dup, 1)) (d4 : decode cc (pc + 4) = .ok (.ldc is, 2)) (d6 : decode cc (pc + 6) = .ok (.invokespecial ic, 3)) (d9 : decode cc (pc + 9) = .ok (.athrow, 1))
    (hout : ∀ x ∈ c.exceptionTable.toList, covers x (pc + 9) = false)
    (hRframes : names.length + 3 < R.frames) (hRlocals : (rest.map fun v => v.category).sum + (13 * (names.length + 1) + 43) ≤ R.locals) (hRcells : cells + 1 ≤ R.cells) (hRslots : slots + 6 ≤ R.slots) (hlocks : meth.locks = false)
    (hx : ∀ t : State, s.vm.Alike t.vm → H.size ≤ t.heap.size → (∀ q : Nat, q < H.size → t.heap[q]? = H[q]?) → XC cls s t)
    (hf : ∀ z ∈ locs, free z.base) (hc : cells + 1 ≤ mc) (hs : slots + 6 ≤ ms) :
    W p l e R s m args below meth c H locs cells slots (vx_MQ below Qc XC args s mc ms free) (F0 m pc ls rest) := by
  intro T hT X
  have htr : e.platform.stackTraces = false := (show e.platform.stackTraces = l.stackTraces by rw [X.admits.platform]).trans hl
  have Y := vx_rebase X (R' := { frames := R.frames, locals := R.locals, cells := 1, slots := 6 }) (Nat.le_refl _) (Nat.le_refl _) hRcells hRslots
  obtain ⟨s', hA⟩ : ∃ z, z = (T.setVm s.vm).setFrames (.invoking m args :: below) := ⟨_, rfl⟩
  rw [← hA] at Y
  have hvm : s'.vm = s.vm := by rw [hA]; rfl
  have hhp : s'.heap = H := by rw [hA]; exact hT
  have hW0 : s.WarmedH s'.vm := by rw [hvm]; exact State.WarmedH.refl s
  have hat' : ∀ w ∈ vx_atS own ic cls names, w.before args s' = true := fun w hw => vx_ot_at hW0 hvm.symm (hgood w (List.mem_cons_of_mem _ (List.mem_cons_of_mem _ hw))) (hat w hw)
  have hk' : (Cond.classLink own ik cls).before args s' = true := vx_ot_at hW0 hvm.symm (hgood _ List.mem_cons_self) hk
  have hini' : (Cond.initialized cls).before args s' = true := vx_ot_at hW0 hvm.symm (hgood _ (List.mem_cons_of_mem _ List.mem_cons_self)) hini
  have hU' : vx_Zq Bundle.tN "UNASSIGNED_STACK" Bundle.steD A s' s'.heap := by rw [hhp]; exact vx_Zq.moved hW0.alike (hU.kept hS.2.1)
  have hN' : vx_Zq Bundle.tN "SUPPRESSED_SENTINEL" Bundle.listD A s' s'.heap := by rw [hhp]; exact vx_Zq.moved hW0.alike (hN.kept hS.2.1)
  have h : ∀ w ∈ Bundle.ownAtoms own ic cls names, w.before args s' = true := vx_own hat' (vx_isRefq hU'.1) (vx_isRefq hN'.1) hU'.2.word hN'.2.word
  have hown' : s'.vm.findClass own = some m.cls := by rw [hvm]; exact hown
  have hins : (Cond.instantiable cls 6).before args s' = true := h _ (by simp [Bundle.ownAtoms])
  obtain ⟨vm₁, cX, kX, hfX, hkX, -, -, X₁, st1⟩ := Y.newCold hexec (own := own) (C := cls) (index := ik) (n := 6) hown' hk' hins hini'
    (g := F0 m pc ls rest) rfl (by rw [hb]; exact d0) (Nat.le_refl _) (Nat.le_refl _)
  generalize hT1 : (T.setVm vm₁).pushCell { cls := cX, slots := kX.instanceTypes.map defaultValue, vm := .none } = T1 at X₁ st1
  have hcat : (Value.ref T.heap.size).category = 1 := rfl
  have hcellA : T1.heap[T.heap.size]? = some (freshCell cX kX) := by rw [← hT1]; exact State.heap_pushCell_size _ _
  have d3' : decode c.code (pc + 3) = .ok (.dup, 1) := by rw [hb]; exact d3
  have d4' : decode c.code (pc + 4) = .ok (.ldc is, 2) := by rw [hb]; exact d4
  have hstr' : vk_R own is text sa s' := vk_R.warm hW0 hstr
  obtain ⟨U, hsteps, hrun, hend, hW, hsame, ce, hce, hO⟩ := X₁.ctorThrowS hexec htr (own := own) (cls := cls) (names := names) (ic := ic) hown' hcls hnames h (fun x hx => nomatch hx) hfX hkX hcellA (by rw [hhp, hT]; exact Nat.le_refl _) (msg := .ref sa) rfl
    (g := { method := m, pc := pc + 6, locals := ls, stack := .ref sa :: .ref T.heap.size :: .ref T.heap.size :: rest, locked := none }) rfl hsize rfl rfl (rest := rest) rfl
    (by rw [hb]; exact d6) (by rw [hb]; exact d9) hout hRframes (by simp only [List.map_cons, List.sum_cons, hcat]; omega) hlocks
  obtain ⟨f1, f2⟩ := vx_frame hsame
  rw [hhp] at f1 f2
  have hWs : s.WarmedH U.vm := State.WarmedH.trans hW0 hW
  have hcl : s.vm.findClass cls = some ce.cls := by
    have h9 := hO.cls
    rw [hvm] at h9
    exact h9
  have hall : s.sameButNew ({ U with vm := s.vm } : State) locs mc ms := by
    subst hA
    obtain ⟨e1, e2⟩ := hsame
    rw [State.setFrames_setFrames] at e1
    have h2 : (T.setVm s.vm).sameButNew ({ U with vm := s.vm } : State) [] (0 + 1) (0 + 6) := ⟨e1, e2⟩
    have h3 := X.same.trans h2
    rw [List.append_nil] at h3
    exact h3.mono hc hs
  refine ⟨U, ?_, .threw T.heap.size, hrun, hend, Or.inr ⟨T.heap.size, rfl, cls, ce, locs, hx U hWs.alike f1 (fun q hq => f2 q hq (fun z hz => nomatch hz)), hce, hO.vm, hcl, hWs, hall, hf⟩⟩
  refine st1 _ ?_
  show Steps p.tables e below (T1.setTop { method := m, pc := pc + 3, locals := ls, stack := .ref T.heap.size :: rest, locked := none }) _
  jvm_step X₁.here [X₁.here.top, hexec, d3', Value.category]
  exact X₁.ldcString hexec (own := own) (text := text) (index := is) (a := sa) hown' hstr'.1 hstr'.2
    (g := { method := m, pc := pc + 4, locals := ls, stack := .ref T.heap.size :: .ref T.heap.size :: rest, locked := none }) rfl d4' _ hsteps
/-- 'throw new E("text")', the text by a wide index -/
theorem vx_throwSW {cc : ByteArray} {pc : Nat} (hexec : p.tables.exec = Jvm.exec) (hb : c.code = cc) (hl : l.stackTraces = false) {own cls text : String} {names : List String} {ik is ic mc ms sa : Nat} {A : Nat → Prop}
    (hown : s.vm.findClass own = some m.cls) (hcls : Bundle.fit cls = true) (hnames : ∀ n ∈ names, Bundle.fit n = true)
    (hk : (Cond.classLink own ik cls).before args s = true) (hini : (Cond.initialized cls).before args s = true) (hstr : vk_R own is text sa s) (hat : ∀ w ∈ vx_atS own ic cls names, w.before args s = true)
    (hgood : ∀ w ∈ Cond.classLink own ik cls :: Cond.initialized cls :: vx_atS own ic cls names, vx_ot w = true)
    (hU : vx_Zq Bundle.tN "UNASSIGNED_STACK" Bundle.steD A s s.heap) (hN : vx_Zq Bundle.tN "SUPPRESSED_SENTINEL" Bundle.listD A s s.heap) (hS : va_S A s.heap H locs) (hsize : ls.size = c.maxLocals)
    (d0 : decode cc pc = .ok (.new ik, 3)) (d3 : decode cc (pc + 3) = .ok (.dup, 1)) (d4 : decode cc (pc + 4) = .ok (.ldc_w is, 3)) (d7 : decode cc (pc + 7) = .ok (.invokespecial ic, 3)) (d10 : decode cc (pc + 10) = .ok (.athrow, 1))
    (hout : ∀ x ∈ c.exceptionTable.toList, covers x (pc + 10) = false)
    (hRframes : names.length + 3 < R.frames) (hRlocals : (rest.map fun v => v.category).sum + (13 * (names.length + 1) + 43) ≤ R.locals) (hRcells : cells + 1 ≤ R.cells) (hRslots : slots + 6 ≤ R.slots) (hlocks : meth.locks = false)
    (hx : ∀ t : State, s.vm.Alike t.vm → H.size ≤ t.heap.size → (∀ q : Nat, q < H.size → t.heap[q]? = H[q]?) → XC cls s t)
    (hf : ∀ z ∈ locs, free z.base) (hc : cells + 1 ≤ mc) (hs : slots + 6 ≤ ms) :
    W p l e R s m args below meth c H locs cells slots (vx_MQ below Qc XC args s mc ms free) (F0 m pc ls rest) := by
  intro T hT X
  have htr : e.platform.stackTraces = false := (show e.platform.stackTraces = l.stackTraces by rw [X.admits.platform]).trans hl
  have Y := vx_rebase X (R' := { frames := R.frames, locals := R.locals, cells := 1, slots := 6 }) (Nat.le_refl _) (Nat.le_refl _) hRcells hRslots
  obtain ⟨s', hA⟩ : ∃ z, z = (T.setVm s.vm).setFrames (.invoking m args :: below) := ⟨_, rfl⟩
  rw [← hA] at Y
  have hvm : s'.vm = s.vm := by rw [hA]; rfl
  have hhp : s'.heap = H := by rw [hA]; exact hT
  have hW0 : s.WarmedH s'.vm := by rw [hvm]; exact State.WarmedH.refl s
  have hat' : ∀ w ∈ vx_atS own ic cls names, w.before args s' = true := fun w hw => vx_ot_at hW0 hvm.symm (hgood w (List.mem_cons_of_mem _ (List.mem_cons_of_mem _ hw))) (hat w hw)
  have hk' : (Cond.classLink own ik cls).before args s' = true := vx_ot_at hW0 hvm.symm (hgood _ List.mem_cons_self) hk
  have hini' : (Cond.initialized cls).before args s' = true := vx_ot_at hW0 hvm.symm (hgood _ (List.mem_cons_of_mem _ List.mem_cons_self)) hini
  have hU' : vx_Zq Bundle.tN "UNASSIGNED_STACK" Bundle.steD A s' s'.heap := by rw [hhp]; exact vx_Zq.moved hW0.alike (hU.kept hS.2.1)
  have hN' : vx_Zq Bundle.tN "SUPPRESSED_SENTINEL" Bundle.listD A s' s'.heap := by rw [hhp]; exact vx_Zq.moved hW0.alike (hN.kept hS.2.1)
  have h : ∀ w ∈ Bundle.ownAtoms own ic cls names, w.before args s' = true := vx_own hat' (vx_isRefq hU'.1) (vx_isRefq hN'.1) hU'.2.word hN'.2.word
  have hown' : s'.vm.findClass own = some m.cls := by rw [hvm]; exact hown
  have hins : (Cond.instantiable cls 6).before args s' = true := h _ (by simp [Bundle.ownAtoms])
  obtain ⟨vm₁, cX, kX, hfX, hkX, -, -, X₁, st1⟩ := Y.newCold hexec (own := own) (C := cls) (index := ik) (n := 6) hown' hk' hins hini'
    (g := F0 m pc ls rest) rfl (by rw [hb]; exact d0) (Nat.le_refl _) (Nat.le_refl _)
  generalize hT1 : (T.setVm vm₁).pushCell { cls := cX, slots := kX.instanceTypes.map defaultValue, vm := .none } = T1 at X₁ st1
  have hcat : (Value.ref T.heap.size).category = 1 := rfl
  have hcellA : T1.heap[T.heap.size]? = some (freshCell cX kX) := by rw [← hT1]; exact State.heap_pushCell_size _ _
  have d3' : decode c.code (pc + 3) = .ok (.dup, 1) := by rw [hb]; exact d3
  have d4' : decode c.code (pc + 4) = .ok (.ldc_w is, 3) := by rw [hb]; exact d4
  have hstr' : vk_R own is text sa s' := vk_R.warm hW0 hstr
  obtain ⟨U, hsteps, hrun, hend, hW, hsame, ce, hce, hO⟩ := X₁.ctorThrowS hexec htr (own := own) (cls := cls) (names := names) (ic := ic) hown' hcls hnames h (fun x hx => nomatch hx) hfX hkX hcellA (by rw [hhp, hT]; exact Nat.le_refl _) (msg := .ref sa) rfl
    (g := { method := m, pc := pc + 7, locals := ls, stack := .ref sa :: .ref T.heap.size :: .ref T.heap.size :: rest, locked := none }) rfl hsize rfl rfl (rest := rest) rfl
    (by rw [hb]; exact d7) (by rw [hb]; exact d10) hout hRframes (by simp only [List.map_cons, List.sum_cons, hcat]; omega) hlocks
  obtain ⟨f1, f2⟩ := vx_frame hsame
  rw [hhp] at f1 f2
  have hWs : s.WarmedH U.vm := State.WarmedH.trans hW0 hW
  have hcl : s.vm.findClass cls = some ce.cls := by
    have h9 := hO.cls
    rw [hvm] at h9
    exact h9
  have hall : s.sameButNew ({ U with vm := s.vm } : State) locs mc ms := by
    subst hA
    obtain ⟨e1, e2⟩ := hsame
    rw [State.setFrames_setFrames] at e1
    have h2 : (T.setVm s.vm).sameButNew ({ U with vm := s.vm } : State) [] (0 + 1) (0 + 6) := ⟨e1, e2⟩
    have h3 := X.same.trans h2
    rw [List.append_nil] at h3
    exact h3.mono hc hs
  refine ⟨U, ?_, .threw T.heap.size, hrun, hend, Or.inr ⟨T.heap.size, rfl, cls, ce, locs, hx U hWs.alike f1 (fun q hq => f2 q hq (fun z hz => nomatch hz)), hce, hO.vm, hcl, hWs, hall, hf⟩⟩
  refine st1 _ ?_
  show Steps p.tables e below (T1.setTop { method := m, pc := pc + 3, locals := ls, stack := .ref T.heap.size :: rest, locked := none }) _
  jvm_step X₁.here [X₁.here.top, hexec, d3', Value.category]
  exact X₁.ldcStringW hexec (own := own) (text := text) (index := is) (a := sa) hown' hstr'.1 hstr'.2
    (g := { method := m, pc := pc + 4, locals := ls, stack := .ref T.heap.size :: .ref T.heap.size :: rest, locked := none }) rfl d4' _ hsteps
end Ends
section Bodies
variable {l : Launch}
theorem vx_ofW {y : MethodName} {ws ws' : List Cond} {rm : Room} {Pc : Array Value → State → Prop} {Qc : Array Value → State → Outcome → State → Prop} {XC : String → State → State → Prop} {mc ms : Nat} {free : Addr → Prop} {cc : ByteArray} {maxL : Nat} {ret : Option FieldType}
    (hy : plainName y.cls = true) (hw : ws = Cond.code y cc maxL ret :: ws')
    (body : ∀ p e s m args below meth c s₁, BodyLoose p l y (headSpec ws rm) cc maxL ret e s m args below meth c s₁ → c.maxLocals = maxL → (∀ x ∈ c.exceptionTable.toList, False) → Pc args s →
      W p l e (headSpec ws rm).room s m args below meth c s.heap [] 0 0 (vx_MQ below Qc XC args s mc ms free) (entryFrame m args maxL)) : vx_Met l y ws rm Pc Qc XC mc ms free := by
  refine MetFree.of_bodyS (code := cc) (maxLocals := maxL) (ret := ret) hy ?_ ?_
  · intro args s m h hn
    obtain ⟨meth, c, h1, h2, h3, h4, h5, h6, -, -⟩ := Cond.code_spec hn (atoms_spec (ws := ws) h _ (by rw [hw]; exact List.mem_cons_self))
    exact ⟨meth, c, h1, h2, h3, h4, h5, h6⟩
  · intro p e s m args below meth c s₁ B hml hP _
    have hh0 : s₁.heap = s.heap := by rw [B.state]; rfl
    have ht : ∀ x ∈ c.exceptionTable.toList, False := by
      obtain ⟨meth9, c9, h1, h2, -, -, -, -, h7, -⟩ := Cond.code_spec B.named (atoms_spec (ws := ws) B.pre _ (by rw [hw]; exact List.mem_cons_self))
      cases Option.some.inj (h1.symm.trans B.method)
      cases Option.some.inj (h2.symm.trans (Stand.of_body B).code)
      intro x hx
      rw [Array.isEmpty_iff.mp h7] at hx
      cases hx
    obtain ⟨t, a1, o, b1, b2, b3⟩ := body p e s m args below meth c s₁ B hml ht hP s₁ hh0 (Stand.of_body B)
    exact ⟨t, o, a1, b1, b2, b3⟩
/-- the table of a body with handlers -/
theorem vx_table {p : Program} {x y : MethodName} {S : Spec} {cc bytes : ByteArray} {maxL maxL' : Nat} {ret ret' : Option FieldType} {e : Env} {s s₁ : State} {m : MethodId} {args : Array Value} {below : List Frame} {meth : Method} {c : Code} {hh : List (Nat × Nat × Nat × Nat)}
    (B : BodyLoose p l y S cc maxL ret e s m args below meth c s₁) (h : (Cond.codeWith y bytes maxL' ret' hh).before args s = true) : c.exceptionTable.toList = tableOf hh := by
  obtain ⟨m9, meth9, c9, hn9, h1, h2, -, -, h6, -⟩ := Cond.codeWith_spec h
  cases Option.some.inj (hn9.symm.trans B.named)
  cases Option.some.inj (h1.symm.trans B.method)
  cases Option.some.inj (h2.symm.trans (Stand.of_body B).code)
  rw [← h6, table_eq]
end Bodies
end VXA
/-! ===== END ===== -/
/-! ===== BEGIN a static call of a method with an exception table ===== -/
section VXS
variable {p : Program} {l : Launch} {e : Env} {R : Room} {s : State} {m : MethodId} {args : Array Value} {below : List Frame} {meth : Method} {c : Code} {T : State} {H : Heap} {locs : List Loc} {cells slots : Nat}
abbrev vx_CSW (R : Room) (s : State) (args : Array Value) (own : String) (index : Nat) (y : MethodName) (bytes : ByteArray) (maxL : Nat) (ret : Option FieldType) (hh : List (Nat × Nat × Nat × Nat)) (ws : List Cond) (rm : Room) (mc ms n : Nat) : Prop :=
  (rm.cells = mc ∧ rm.slots = ms ∧ rm.frames + 1 ≤ R.frames ∧ 8 + (maxL + 11) + rm.locals ≤ R.locals ∧ (∀ w ∈ ws, ∀ (a' : Array Value) (U : State), s.WarmedH U.vm → w.before a' U = true) ∧ Cond.codeWith y bytes maxL ret hh ∈ ws) ∧
  (Cond.codeWith y bytes maxL ret hh).before args s = true ∧ (Cond.initialized y.cls).before args s = true ∧ (y.cls ≠ "java/lang/invoke/MethodHandle" ∧ y.cls ≠ "java/lang/invoke/VarHandle") ∧
  (∀ sig, parseMethodDescriptor y.desc = some sig → n = sig.parameters.length) ∧ (Cond.methodLink own index y).before args s = true ∧ (Cond.static y).before args s = true
theorem vx_cwSW {own : String} {index maxL mc ms : Nat} {y : MethodName} {bytes : ByteArray} {ret : Option FieldType} {hh : List (Nat × Nat × Nat × Nat)} {Ts ws ws' : List Cond} {rm : Room} (n : Nat) (ht : ∀ w ∈ Ts, w.before args s = true) (hT : GoodIn Ts (va_wsS own index y ws)) (hw : ws = Cond.codeWith y bytes maxL ret hh :: ws') (hrc : rm.cells = mc) (hrs : rm.slots = ms)
    (hd : y.cls ≠ "java/lang/invoke/MethodHandle" ∧ y.cls ≠ "java/lang/invoke/VarHandle" ∧ (parseMethodDescriptor y.desc).map (fun d => d.parameters.length) = some n) (hR : rm.frames + 1 ≤ R.frames ∧ 8 + (maxL + 11) + rm.locals ≤ R.locals) :
    vx_CSW R s args own index y bytes maxL ret hh ws rm mc ms n := by
  have ok : ∀ w ∈ va_wsS own index y ws, w.before args s = true := fun w h => ht w (hT w h).1
  have hG : GoodIn Ts ws := fun w h => hT w (by unfold va_wsS; exact List.mem_append_right _ h)
  have hc : Cond.codeWith y bytes maxL ret hh ∈ ws := by rw [hw]; exact List.mem_cons_self
  refine ⟨⟨hrc, hrs, hR.1, hR.2, pay_in ht hG, hc⟩, ht _ (hG _ hc).1, ok _ (by simp [va_wsS]), ⟨hd.1, hd.2.1⟩, fun sig h => ?_, ok _ (by simp [va_wsS]), ok _ (by simp [va_wsS])⟩
  have h2 := hd.2.2
  rw [h] at h2
  exact (Option.some.inj h2).symm
theorem vx_callSW (X : Stand p l e R s m args below meth c T locs cells slots) (hexec : p.tables.exec = Jvm.exec) {own : String} {index : Nat} {y : MethodName} {bytes : ByteArray} {maxL : Nat} {ret : Option FieldType} {hh : List (Nat × Nat × Nat × Nat)}
    (hown : s.vm.findClass own = some m.cls) (hlink : (Cond.methodLink own index y).before args s = true) (hstat : (Cond.static y).before args s = true) (hinit : (Cond.initialized y.cls).before args s = true)
    (hcode : (Cond.codeWith y bytes maxL ret hh).before args s = true) (hy : y.cls ≠ "java/lang/invoke/MethodHandle" ∧ y.cls ≠ "java/lang/invoke/VarHandle")
    {W9 : Nat} {Pre : Pt → Array Value → Prop} {Post : Pt → Array Value → Option Value → Pt → Prop} (hK : Back l R p e below s args y 3 W9 Pre Post)
    {g : JFrame} (hg : g.method = m) (hsize : g.locals.size = c.maxLocals) {argsL rest : List Value} (hlen : ∀ sig, parseMethodDescriptor y.desc = some sig → argsL.length = sig.parameters.length)
    (hstack : g.stack = argsL.reverse ++ rest) (hW : 2 * g.monitorRoom + (rest.map fun v => v.category).sum ≤ W9) (hdg : decode c.code g.pc = .ok (.invokestatic index, 3))
    (hpre : ∀ vm₁, s.WarmedH vm₁ → Pre ⟨T.setVm vm₁, locs, cells, slots⟩ argsL.toArray) :
    ∃ (v : Option Value) (vm₁ : Vm) (B : Pt), s.WarmedH vm₁ ∧ Stand p l e R s m args below meth c B.U B.locs B.cells B.slots ∧ Post ⟨T.setVm vm₁, locs, cells, slots⟩ argsL.toArray v B ∧
      ∀ target, Steps p.tables e below (B.U.setTop { g with pc := g.pc + 3, stack := v.toList ++ rest }) target → Steps p.tables e below (T.setTop g) target := by
  obtain ⟨mk, methM, cM, hnamed, hmethM, -, -, -, -, -, -, hsigM⟩ := Cond.codeWith_spec hcode
  have hstatic : methM.isStatic = true := Cond.static_spec hnamed hmethM hstat
  obtain ⟨kP, hkP, -⟩ := className_of_methodNamed hnamed
  have hinitP : kP.init = .initialized := Cond.initialized_spec (findClass_of_methodNamed hnamed) hkP hinit
  obtain ⟨vm₁, X₁, hstep₁⟩ := X.invokestatic hexec hown hlink hnamed hmethM hstatic hkP hinitP hy (g := g) hg (argsL := argsL) (rest := rest) (hlen _ hsigM) hstack hdg
  obtain ⟨v, B, X', hpost, hsteps⟩ := hK m meth c ⟨T.setVm vm₁, locs, cells, slots⟩ { g with stack := rest } (.invokestatic index) mk argsL.toArray X₁ hg hsize hdg hW (X₁.named hnamed) (hpre vm₁ X₁.warmed)
  exact ⟨v, vm₁, B, X₁.warmed, X', hpost, fun target h => hstep₁ _ fun acts => by rw [doInvoke_state]; exact hsteps.trans h⟩
theorem vx_runSW {y : MethodName} {bytes cc : ByteArray} {maxL nL mc ms n index : Nat} {ret : Option FieldType} {hh : List (Nat × Nat × Nat × Nat)} {ws : List Cond} {rm : Room} {Pc : Array Value → State → Prop} {Qc : Array Value → State → Outcome → State → Prop} {free : Addr → Prop} {Ts : List Cond} {own : String} {As rest : List Value} {g : JFrame}
    (S : CallFix p m c cc nL s args Ts own) (hM : Met l y ws rm Pc Qc mc ms free) (cw : vx_CSW R s args own index y bytes maxL ret hh ws rm mc ms n) (hp : PreS s H Pc As)
    (hg : g.method = m) (hn : As.length = n) (hsize : g.locals.size = nL) (hstack : g.stack = As.reverse ++ rest) (hW : 2 * g.monitorRoom + (rest.map fun v => v.category).sum ≤ 8) (hdg : decode cc g.pc = .ok (.invokestatic index, 3)) (hf : cells + mc ≤ R.cells ∧ slots + ms ≤ R.slots) :
    va_Run p l e R s m args below meth c H locs cells slots mc ms g rest (Qc As.toArray) (free) := by
  obtain ⟨⟨hrc, hrs, hfr, hlo, hws, hcw⟩, hcode, hini, hy, hlen, hl, hstt⟩ := cw
  have hK : Back l R p e below s args y 3 8 (PreOf R mc ms Pc) (PostOf Qc mc ms free) := va_backW (hh := hh) (bytes := bytes) (maxL := maxL) (ret := ret) hM hp.1 hrc hrs hfr hlo hws hcw (fun a' U hW => word_at hW (Or.inl (by first | rfl | simp [Cond.onTables, Cond.keeps, Cond.steady])) hini)
  obtain ⟨hx, hb, hml, ho, -⟩ := S
  intro T hT X
  obtain ⟨v, vm₁, ⟨U', l2, c2, s2⟩, hW₁, X', ⟨g', mk, t, L, e1, e2, hq, h1, hL, h2, h3⟩, st⟩ := vx_callSW X hx (hh := hh) (bytes := bytes) (maxL := maxL) (ret := ret) ho hl hstt hini hcode hy hK hg (hsize.trans hml.symm) (argsL := As) (rest := rest) (fun sig h => hn.trans (hlen sig h)) hstack hW (by rw [hb]; exact hdg)
    (fun vm₁ hW₁ => ⟨hf.1, hf.2, hp.2 (T.setVm vm₁) hT hW₁⟩)
  dsimp only [Pt.U, Pt.locs, Pt.cells, Pt.slots] at X' e1 e2 h1 h2 h3 st
  subst h1; subst h2; subst h3
  exact ⟨v, (T.setVm vm₁).calling g' mk As.toArray, t, U', L, hT, X', hL, e1, e2, hq, st⟩
/-- not caught here, past rows that name other classes: it goes on to the caller -/
theorem vx_outP {p : Program} {l : Launch} {e : Env} {R : Room} {s : State} {m : MethodId} {args : Array Value} {below : List Frame} {meth : Method} {c : Code} {H : Heap} {locs : List Loc} {cells slots : Nat} {free : Addr → Prop} {ls : Array Slot} {rest : List Value} {Qc : Array Value → State → Outcome → State → Prop} {XC : String → State → State → Prop}
    {pc : Nat} {own E : String} {ce : Cell} {q : Addr} {mc ms : Nat} (hown : s.vm.findClass own = some m.cls) (hlocks : meth.locks = false)
    (hpass : ∀ z ∈ c.exceptionTable.toList, covers z pc = false ∨ (z.catchType ≠ 0 ∧ ∃ nm : String, (Cond.classLink own z.catchType nm).before args s = true ∧ va_Nc E nm s)) (hcell : H[q]? = some ce) (hv : ce.vm = .none) (hcl : s.vm.findClass E = some ce.cls)
    (hx : ∀ t : State, t.heap = H → s.vm.Alike t.vm → XC E s t) (hf : ∀ z ∈ locs, free z.base) (hc : cells ≤ mc) (hs : slots ≤ ms) :
    vx_W p l e R s m args below meth c H locs cells slots (vx_MQ below Qc XC args s mc ms free) (F0 m pc ls rest) q := by
  intro T hT X
  have hpl : e.platform.magicAccessors = ({} : Platform).magicAccessors := by rw [X.admits.platform]
  obtain ⟨vm', hW', X', st⟩ := X.outThrough hlocks q (g := F0 m pc ls rest) rfl rfl rfl (cell := ce) (by rw [hT]; exact hcell) (by rw [hv]; rfl)
    (by obtain ⟨k9, h9, -⟩ := Vm.findClass_spec hcl; exact ⟨k9, h9⟩) (fun z hz => by
      rcases hpass z hz with h | ⟨hz0, nm, hl1, hn1⟩
      · exact Or.inl h
      · obtain ⟨c6, hc6, hcl6⟩ := Cond.classLink_spec hown hl1 e.platform hpl
        obtain ⟨a8, b8, h1, h2, h3⟩ := hn1
        cases Option.some.inj (h1.symm.trans hcl)
        cases Option.some.inj (h2.symm.trans hc6)
        exact Or.inr ⟨hz0, _, hcl6, h3⟩)
  obtain ⟨g₀, hfr⟩ := X'.frames_eq
  have hcell9 : ((T.setVm vm').setFrames (.throwing q :: below)).heap[q]? = some ce := by
    show T.heap[q]? = some ce
    rw [hT]; exact hcell
  have hend : Ended ((T.setVm vm').setFrames (.throwing q :: below)) below (.threw q) := State.frames_setFrames _ (State.cur_lt_of_frames hfr)
  refine ⟨(T.setVm vm').setFrames (.throwing q :: below), ?_, .threw q, X'.here.running, hend, Or.inr ⟨q, rfl, E, ce, locs, hx _ hT (X'.ends _).1.alike, hcell9, hv, hcl, (X'.ends _).1, (X'.ends _).2.mono hc hs, hf⟩⟩
  rw [X.pushThrowing_eq]
  exact st
/-- a thing of a world lies in the heap -/
theorem vx_lt {D : va_G} {cl : List vw_C} {ws : va_W} {H1 : Heap} (h : va_P D cl ws H1) {k : Nat} {q : Nat × va_E} (hk : ws[k]? = some q) : q.1 < H1.size := (h k q hk).lt
end VXS
/-! ===== END ===== -/
/-! ===== BEGIN methods with a table of their own: called by a name, returning or throwing ===== -/
section VXH
/-! vx_backW, vx_callVX, vx_callSX, vx_callVW, vx_runVW, vx_runVX, vx_runSX, vx_ofWH follow the same proofs as their sisters above (Free/Laws.lean, Shelf42/LK1.lean); vx_outP calls Shelf42/NT130.lean (outThrough). -/
section
variable {l : Launch} {R : Room} {p : Program} {e : Env} {below : List Frame} {s : State} {sargs : Array Value} {y : MethodName} {len W9 : Nat}
theorem vx_backW {ws : List Cond} {rm : Room} {Pc : Array Value → State → Prop} {Qc : Array Value → State → Outcome → State → Prop} {XC : String → State → State → Prop} {mc ms : Nat} {free : Addr → Prop} {bytes : ByteArray} {maxL : Nat} {ret : Option FieldType} {hh : List (Nat × Nat × Nat × Nat)}
    (hM : vx_Met l y ws rm Pc Qc XC mc ms free) (hblind : FrameBlind Pc) (hrc : rm.cells = mc) (hrs : rm.slots = ms)
    (hframes : rm.frames + 1 ≤ R.frames) (hlocals : W9 + (maxL + 11) + rm.locals ≤ R.locals)
    (hws : ∀ w ∈ ws, ∀ a' U, s.WarmedH U.vm → w.before a' U = true) (hcode : Cond.codeWith y bytes maxL ret hh ∈ ws) (hinit : ∀ a' U, s.WarmedH U.vm → (Cond.initialized y.cls).before a' U = true) :
    vx_Back l R p e below s sargs y len W9 (PreOf R mc ms Pc) (PostOf Qc mc ms free) (vx_Post XC mc ms free) := by
  intro m meth c A g ig mk a X hg hsize hdg hW hn hp
  have h1 : (headSpec ws rm).pre.before a A.U = true := atoms_intro fun w hw => hws w hw _ _ X.warmed
  have h2 : (Cond.codeWith y bytes maxL ret hh).before a A.U = true := hws _ hcode _ _ X.warmed
  have h3 : (Cond.initialized y.cls).before a A.U = true := hinit _ _ X.warmed
  have h4 : A.cells + (headSpec ws rm).room.cells ≤ R.cells := by rw [show (headSpec ws rm).room.cells = mc from hrc]; exact hp.1
  have h5 : A.slots + (headSpec ws rm).room.slots ≤ R.slots := by rw [show (headSpec ws rm).room.slots = ms from hrs]; exact hp.2.1
  have hPc : Pc a (A.U.calling g mk a) := hblind _ _ _ _ hp.2.2
  obtain ⟨U, Ls, c0, s0⟩ := A
  dsimp only [Pt.U, Pt.locs, Pt.cells, Pt.slots] at h1 h2 h3 h4 h5 X hn hPc ⊢
  obtain ⟨m9, methY, cY, hn9, hmY, hcY, -, hlY, -⟩ := Cond.codeWith_spec h2
  cases Option.some.inj (hn9.symm.trans hn)
  obtain ⟨kY, hkY, -⟩ := className_of_methodNamed hn
  have hinitY : kY.init = .initialized := Cond.initialized_spec (findClass_of_methodNamed hn) hkY h3
  have h : At U g.method c below := by rw [hg]; exact X.here
  have hlocals9 : W9 + (maxL + 11) + (headSpec ws rm).room.locals ≤ R.locals := hlocals
  have happ : (headSpec ws rm).appliesLoose y e.platform (U.calling g mk a) = true :=
    Spec.appliesLoose_calling (g := g) h hdg hn hkY hinitY
      (X.room_calling (g := g) (R' := (headSpec ws rm).room) hsize hmY hcY hframes (by rw [hlY]; omega) h4 h5) h1
  obtain ⟨mid, hmid⟩ := h.above
  have hfr : (U.setTop g).frames = (.java g :: mid) ++ below := by rw [State.frames_setTop' g h.top, hmid]; rfl
  obtain ⟨o, s₂, hsteps, -, hend, hq⟩ := Steps.callFree hM p X.admits X.cas X.clock (acts := []) hfr happ hPc trivial
  have hq' : vx_Q Qc XC mc ms free a (U.calling g mk a) o s₂ := hq
  rw [State.frames_setTop' g h.top] at hend
  obtain ⟨g₀, hg0⟩ := Option.isSome_iff_exists.mp h.top
  obtain ⟨r, hr⟩ := State.topJava?_eq_some.mp hg0
  have hr' : (({ U with heap := s₂.heap, slotsUsed := s₂.slotsUsed } : State).setVm s₂.vm).frames = .java g₀ :: r := hr
  rcases hq' with ⟨hqc, L, hfe, hL⟩ | ⟨q, rfl, E, ce, L, hx, hce, hcv, hcl, hW₂, hsm, hL⟩
  · obtain ⟨⟨v, rfl⟩, hW₂, e2, q2, q3, q4, q5, q6⟩ := id hfe
    have e3 : s₂ = ({ (U.calling g mk a).setFrames s₂.frames with heap := s₂.heap, slotsUsed := s₂.slotsUsed } : State).setVm s₂.vm := by
      have : s₂ = ({ s₂ with vm := (U.calling g mk a).vm } : State).setVm s₂.vm := rfl
      rw [e2] at this
      exact this
    obtain ⟨c₂, i₂, len₂, hc₂, hd₂, hf₂⟩ := hend
    have hW' : U.WarmedH s₂.vm := hW₂
    have hcc : c₂ = c := by
      have h1 : s₂.code? g.method = U.code? g.method := by
        rw [State.code?_eq, State.code?_eq, hW'.alike.method?]
      exact Option.some.inj (hc₂.symm.trans (h1.trans h.code))
    subst hcc
    have hlen : len₂ = len := by rw [hdg] at hd₂; cases hd₂; rfl
    subst hlen
    have hs₂ : s₂ = (({ U with heap := s₂.heap, slotsUsed := s₂.slotsUsed } : State).setVm s₂.vm).setTop { g with pc := g.pc + len₂, stack := v.toList ++ g.stack } := by
      refine e3.trans ?_
      rw [hf₂, State.calling_eq h.top, State.setFrames_setFrames, State.setTop_of_frames _ hr', hr]
      rfl
    have hsame : U.sameButNew ({ U with heap := s₂.heap, slotsUsed := s₂.slotsUsed } : State) L mc ms := by
      refine ⟨?_, q2, q3, q4, q5, q6⟩
      obtain ⟨t, ht, -⟩ := State.frames_cons hr
      show ({ U with heap := s₂.heap, slotsUsed := s₂.slotsUsed } : State) = { U.setFrames U.frames with heap := s₂.heap, slotsUsed := s₂.slotsUsed }
      rw [State.setFrames_self ht]
    subst hg
    refine Or.inl ⟨v, ⟨(({ U with heap := s₂.heap, slotsUsed := s₂.slotsUsed } : State).setVm s₂.vm), Ls ++ L, c0 + mc, s0 + ms⟩,
      ⟨X.admits, X.cas, X.clock, X.frames, X.room, X.hears, X.method, X.code, (X.here.setHeapUsed s₂.heap s₂.slotsUsed).setVm hW'.alike, X.tail, State.WarmedH.trans X.warmed hW', X.limits, X.bytes, X.same.trans (hsame.setVm s.vm)⟩,
      ⟨g, mk, s₂, L, rfl, rfl, hqc, rfl, hL, rfl, rfl⟩, ?_⟩
    show Steps p.tables e below _ ((({ U with heap := s₂.heap, slotsUsed := s₂.slotsUsed } : State).setVm s₂.vm).setTop { g with pc := g.pc + len₂, stack := v.toList ++ g.stack })
    rw [← hs₂]
    exact hsteps
  · obtain ⟨e2, q2, q3, q4, q5, q6⟩ := id hsm
    have e3 : s₂ = ({ (U.calling g mk a).setFrames s₂.frames with heap := s₂.heap, slotsUsed := s₂.slotsUsed } : State).setVm s₂.vm := by
      have : s₂ = ({ s₂ with vm := (U.calling g mk a).vm } : State).setVm s₂.vm := rfl
      rw [e2] at this
      exact this
    have hf₂ : s₂.frames = .throwing q :: .java g :: U.frames.tail := hend
    have hW' : U.WarmedH s₂.vm := hW₂
    have hs₂ : s₂ = ((({ U with heap := s₂.heap, slotsUsed := s₂.slotsUsed } : State).setVm s₂.vm).setTop g).pushFrame (.throwing q) := by
      refine e3.trans ?_
      rw [hf₂, State.calling_eq h.top, State.setFrames_setFrames, State.pushFrame, State.frames_setTop _ hr', State.setTop_of_frames _ hr', State.setFrames_setFrames, hr]
      rfl
    have hsame : U.sameButNew ({ U with heap := s₂.heap, slotsUsed := s₂.slotsUsed } : State) L mc ms := by
      refine ⟨?_, q2, q3, q4, q5, q6⟩
      obtain ⟨t, ht, -⟩ := State.frames_cons hr
      show ({ U with heap := s₂.heap, slotsUsed := s₂.slotsUsed } : State) = { U.setFrames U.frames with heap := s₂.heap, slotsUsed := s₂.slotsUsed }
      rw [State.setFrames_self ht]
    subst hg
    refine Or.inr ⟨q, ⟨(({ U with heap := s₂.heap, slotsUsed := s₂.slotsUsed } : State).setVm s₂.vm), Ls ++ L, c0 + mc, s0 + ms⟩,
      ⟨X.admits, X.cas, X.clock, X.frames, X.room, X.hears, X.method, X.code, (X.here.setHeapUsed s₂.heap s₂.slotsUsed).setVm hW'.alike, X.tail, State.WarmedH.trans X.warmed hW', X.limits, X.bytes, X.same.trans (hsame.setVm s.vm)⟩,
      ⟨g, mk, s₂, L, E, ce, rfl, rfl, hx, hce, hcv, hcl, rfl, hL, rfl, rfl⟩, ?_⟩
    show Steps p.tables e below _ (((({ U with heap := s₂.heap, slotsUsed := s₂.slotsUsed } : State).setVm s₂.vm).setTop g).pushFrame (.throwing q))
    rw [← hs₂]
    exact hsteps
end
variable {p : Program} {l : Launch} {e : Env} {R : Room} {s : State} {m : MethodId} {args : Array Value} {below : List Frame} {meth : Method} {c : Code} {T : State} {H : Heap} {locs : List Loc} {cells slots : Nat}
theorem vx_callVX (X : Stand p l e R s m args below meth c T locs cells slots) (hexec : p.tables.exec = Jvm.exec) {own C : String} {index : Nat} {y : MethodName} {bytes : ByteArray} {maxL : Nat} {ret : Option FieldType} {hh : List (Nat × Nat × Nat × Nat)}
    (hown : s.vm.findClass own = some m.cls) (hlink : (Cond.methodLink own index y).before args s = true) (hinst : (Cond.instanceMethod y).before args s = true) (hsel : (Cond.selects C y y).before args s = true)
    (hcode : (Cond.codeWith y bytes maxL ret hh).before args s = true) (hy : y.cls ≠ "java/lang/invoke/MethodHandle" ∧ y.cls ≠ "java/lang/invoke/VarHandle")
    {W9 : Nat} {Pre : Pt → Array Value → Prop} {Post : Pt → Array Value → Option Value → Pt → Prop} {PostX : Pt → Array Value → Addr → Pt → Prop} (hK : vx_Back l R p e below s args y 3 W9 Pre Post PostX)
    {b : Addr} {cellB : Cell} (hcell : T.heap[b]? = some cellB) (hobj : cellB.vm.isStatics = false) (hcls : s.vm.findClass C = some cellB.cls)
    {g : JFrame} (hg : g.method = m) (hsize : g.locals.size = c.maxLocals) {argsL rest : List Value} (hlen : ∀ sig, parseMethodDescriptor y.desc = some sig → argsL.length = sig.parameters.length)
    (hstack : g.stack = argsL.reverse ++ .ref b :: rest) (hW : 2 * g.monitorRoom + (rest.map fun v => v.category).sum ≤ W9) (hdg : decode c.code g.pc = .ok (.invokevirtual index, 3))
    (hpre : ∀ vm₁, s.WarmedH vm₁ → Pre ⟨T.setVm vm₁, locs, cells, slots⟩ (Value.ref b :: argsL).toArray) :
    (∃ (v : Option Value) (vm₁ : Vm) (B : Pt), s.WarmedH vm₁ ∧ Stand p l e R s m args below meth c B.U B.locs B.cells B.slots ∧ Post ⟨T.setVm vm₁, locs, cells, slots⟩ (Value.ref b :: argsL).toArray v B ∧
      ∀ target, Steps p.tables e below (B.U.setTop { g with pc := g.pc + 3, stack := v.toList ++ rest }) target → Steps p.tables e below (T.setTop g) target) ∨
    (∃ (q : Addr) (vm₁ : Vm) (B : Pt), s.WarmedH vm₁ ∧ Stand p l e R s m args below meth c B.U B.locs B.cells B.slots ∧ PostX ⟨T.setVm vm₁, locs, cells, slots⟩ (Value.ref b :: argsL).toArray q B ∧
      Steps p.tables e below (T.setTop g) ((B.U.setTop { g with stack := rest }).pushFrame (.throwing q))) := by
  obtain ⟨mk, methM, hnamed, hmethM, hstM, habM⟩ := Cond.instanceMethod_spec hinst
  obtain ⟨m8, methM', cM, hn8, hmethM', -, -, -, -, -, -, hsigM⟩ := Cond.codeWith_spec hcode
  cases Option.some.inj (hn8.symm.trans hnamed)
  cases hmethM.symm.trans hmethM'
  obtain ⟨c2, r2, m2, q1, q2, q3, q4, kP, hkP, hkPi⟩ := Cond.selects_spec hsel
  cases hcls.symm.trans q1
  cases (State.methodFound?_of_named hnamed hy).symm.trans q2
  cases hnamed.symm.trans q3
  have hselP : selectMethod e.platform s.vm cellB.cls mk = .method mk := by rw [Launch.admits_selectMethod X.admits]; exact q4
  obtain ⟨vm₁, X₁, hstep₁⟩ := X.invokevirtual hexec hown hlink hnamed hmethM hstM hkP hkPi hy (a := b) (cell := cellB) hcell
    (fun z h => by rw [h] at hobj; cases hobj) hselP hmethM habM hkP hkPi (g := g) hg (argsL := argsL) (rest := rest) (hlen _ hsigM) hstack hdg
  rcases hK m meth c ⟨T.setVm vm₁, locs, cells, slots⟩ { g with stack := rest } (.invokevirtual index) mk (Value.ref b :: argsL).toArray X₁ hg hsize hdg hW (X₁.named hnamed) (hpre vm₁ X₁.warmed) with ⟨v, B, X', hpost, hsteps⟩ | ⟨q, B, X', hpost, hsteps⟩
  · exact Or.inl ⟨v, vm₁, B, X₁.warmed, X', hpost, fun target h => hstep₁ _ fun acts => by rw [doInvoke_state]; exact hsteps.trans h⟩
  · exact Or.inr ⟨q, vm₁, B, X₁.warmed, X', hpost, hstep₁ _ fun acts => by rw [doInvoke_state]; exact hsteps⟩
theorem vx_callSX (X : Stand p l e R s m args below meth c T locs cells slots) (hexec : p.tables.exec = Jvm.exec) {own : String} {index : Nat} {y : MethodName} {bytes : ByteArray} {maxL : Nat} {ret : Option FieldType} {hh : List (Nat × Nat × Nat × Nat)}
    (hown : s.vm.findClass own = some m.cls) (hlink : (Cond.methodLink own index y).before args s = true) (hstat : (Cond.static y).before args s = true) (hinit : (Cond.initialized y.cls).before args s = true)
    (hcode : (Cond.codeWith y bytes maxL ret hh).before args s = true) (hy : y.cls ≠ "java/lang/invoke/MethodHandle" ∧ y.cls ≠ "java/lang/invoke/VarHandle")
    {W9 : Nat} {Pre : Pt → Array Value → Prop} {Post : Pt → Array Value → Option Value → Pt → Prop} {PostX : Pt → Array Value → Addr → Pt → Prop} (hK : vx_Back l R p e below s args y 3 W9 Pre Post PostX)
    {g : JFrame} (hg : g.method = m) (hsize : g.locals.size = c.maxLocals) {argsL rest : List Value} (hlen : ∀ sig, parseMethodDescriptor y.desc = some sig → argsL.length = sig.parameters.length)
    (hstack : g.stack = argsL.reverse ++ rest) (hW : 2 * g.monitorRoom + (rest.map fun v => v.category).sum ≤ W9) (hdg : decode c.code g.pc = .ok (.invokestatic index, 3))
    (hpre : ∀ vm₁, s.WarmedH vm₁ → Pre ⟨T.setVm vm₁, locs, cells, slots⟩ argsL.toArray) :
    (∃ (v : Option Value) (vm₁ : Vm) (B : Pt), s.WarmedH vm₁ ∧ Stand p l e R s m args below meth c B.U B.locs B.cells B.slots ∧ Post ⟨T.setVm vm₁, locs, cells, slots⟩ argsL.toArray v B ∧
      ∀ target, Steps p.tables e below (B.U.setTop { g with pc := g.pc + 3, stack := v.toList ++ rest }) target → Steps p.tables e below (T.setTop g) target) ∨
    (∃ (q : Addr) (vm₁ : Vm) (B : Pt), s.WarmedH vm₁ ∧ Stand p l e R s m args below meth c B.U B.locs B.cells B.slots ∧ PostX ⟨T.setVm vm₁, locs, cells, slots⟩ argsL.toArray q B ∧
      Steps p.tables e below (T.setTop g) ((B.U.setTop { g with stack := rest }).pushFrame (.throwing q))) := by
  obtain ⟨mk, methM, cM, hnamed, hmethM, -, -, -, -, -, -, hsigM⟩ := Cond.codeWith_spec hcode
  have hstatic : methM.isStatic = true := Cond.static_spec hnamed hmethM hstat
  obtain ⟨kP, hkP, -⟩ := className_of_methodNamed hnamed
  have hinitP : kP.init = .initialized := Cond.initialized_spec (findClass_of_methodNamed hnamed) hkP hinit
  obtain ⟨vm₁, X₁, hstep₁⟩ := X.invokestatic hexec hown hlink hnamed hmethM hstatic hkP hinitP hy (g := g) hg (argsL := argsL) (rest := rest) (hlen _ hsigM) hstack hdg
  rcases hK m meth c ⟨T.setVm vm₁, locs, cells, slots⟩ { g with stack := rest } (.invokestatic index) mk argsL.toArray X₁ hg hsize hdg hW (X₁.named hnamed) (hpre vm₁ X₁.warmed) with ⟨v, B, X', hpost, hsteps⟩ | ⟨q, B, X', hpost, hsteps⟩
  · exact Or.inl ⟨v, vm₁, B, X₁.warmed, X', hpost, fun target h => hstep₁ _ fun acts => by rw [doInvoke_state]; exact hsteps.trans h⟩
  · exact Or.inr ⟨q, vm₁, B, X₁.warmed, X', hpost, hstep₁ _ fun acts => by rw [doInvoke_state]; exact hsteps⟩
theorem vx_callVW (X : Stand p l e R s m args below meth c T locs cells slots) (hexec : p.tables.exec = Jvm.exec) {own C : String} {index : Nat} {y : MethodName} {bytes : ByteArray} {maxL : Nat} {ret : Option FieldType} {hh : List (Nat × Nat × Nat × Nat)}
    (hown : s.vm.findClass own = some m.cls) (hlink : (Cond.methodLink own index y).before args s = true) (hinst : (Cond.instanceMethod y).before args s = true) (hsel : (Cond.selects C y y).before args s = true)
    (hcode : (Cond.codeWith y bytes maxL ret hh).before args s = true) (hy : y.cls ≠ "java/lang/invoke/MethodHandle" ∧ y.cls ≠ "java/lang/invoke/VarHandle")
    {W9 : Nat} {Pre : Pt → Array Value → Prop} {Post : Pt → Array Value → Option Value → Pt → Prop} (hK : Back l R p e below s args y 3 W9 Pre Post)
    {b : Addr} {cellB : Cell} (hcell : T.heap[b]? = some cellB) (hobj : cellB.vm.isStatics = false) (hcls : s.vm.findClass C = some cellB.cls)
    {g : JFrame} (hg : g.method = m) (hsize : g.locals.size = c.maxLocals) {argsL rest : List Value} (hlen : ∀ sig, parseMethodDescriptor y.desc = some sig → argsL.length = sig.parameters.length)
    (hstack : g.stack = argsL.reverse ++ .ref b :: rest) (hW : 2 * g.monitorRoom + (rest.map fun v => v.category).sum ≤ W9) (hdg : decode c.code g.pc = .ok (.invokevirtual index, 3))
    (hpre : ∀ vm₁, s.WarmedH vm₁ → Pre ⟨T.setVm vm₁, locs, cells, slots⟩ (Value.ref b :: argsL).toArray) :
    ∃ (v : Option Value) (vm₁ : Vm) (B : Pt), s.WarmedH vm₁ ∧ Stand p l e R s m args below meth c B.U B.locs B.cells B.slots ∧ Post ⟨T.setVm vm₁, locs, cells, slots⟩ (Value.ref b :: argsL).toArray v B ∧
      ∀ target, Steps p.tables e below (B.U.setTop { g with pc := g.pc + 3, stack := v.toList ++ rest }) target → Steps p.tables e below (T.setTop g) target := by
  obtain ⟨mk, methM, hnamed, hmethM, hstM, habM⟩ := Cond.instanceMethod_spec hinst
  obtain ⟨m8, methM', cM, hn8, hmethM', -, -, -, -, -, -, hsigM⟩ := Cond.codeWith_spec hcode
  cases Option.some.inj (hn8.symm.trans hnamed)
  cases hmethM.symm.trans hmethM'
  obtain ⟨c2, r2, m2, q1, q2, q3, q4, kP, hkP, hkPi⟩ := Cond.selects_spec hsel
  cases hcls.symm.trans q1
  cases (State.methodFound?_of_named hnamed hy).symm.trans q2
  cases hnamed.symm.trans q3
  have hselP : selectMethod e.platform s.vm cellB.cls mk = .method mk := by rw [Launch.admits_selectMethod X.admits]; exact q4
  obtain ⟨vm₁, X₁, hstep₁⟩ := X.invokevirtual hexec hown hlink hnamed hmethM hstM hkP hkPi hy (a := b) (cell := cellB) hcell
    (fun z h => by rw [h] at hobj; cases hobj) hselP hmethM habM hkP hkPi (g := g) hg (argsL := argsL) (rest := rest) (hlen _ hsigM) hstack hdg
  obtain ⟨v, B, X', hpost, hsteps⟩ := hK m meth c ⟨T.setVm vm₁, locs, cells, slots⟩ { g with stack := rest } (.invokevirtual index) mk (Value.ref b :: argsL).toArray X₁ hg hsize hdg hW (X₁.named hnamed) (hpre vm₁ X₁.warmed)
  exact ⟨v, vm₁, B, X₁.warmed, X', hpost, fun target h => hstep₁ _ fun acts => by rw [doInvoke_state]; exact hsteps.trans h⟩
abbrev vx_CVW (R : Room) (s : State) (args : Array Value) (own C : String) (index : Nat) (y : MethodName) (bytes : ByteArray) (maxL : Nat) (ret : Option FieldType) (hh : List (Nat × Nat × Nat × Nat)) (ws : List Cond) (rm : Room) (mc ms n : Nat) : Prop :=
  (rm.cells = mc ∧ rm.slots = ms ∧ rm.frames + 1 ≤ R.frames ∧ 8 + (maxL + 11) + rm.locals ≤ R.locals ∧ (∀ w ∈ ws, ∀ (a' : Array Value) (U : State), s.WarmedH U.vm → w.before a' U = true) ∧ Cond.codeWith y bytes maxL ret hh ∈ ws) ∧
  (Cond.codeWith y bytes maxL ret hh).before args s = true ∧ (Cond.initialized y.cls).before args s = true ∧ (y.cls ≠ "java/lang/invoke/MethodHandle" ∧ y.cls ≠ "java/lang/invoke/VarHandle") ∧
  (∀ sig, parseMethodDescriptor y.desc = some sig → n = sig.parameters.length) ∧ (Cond.methodLink own index y).before args s = true ∧ (Cond.instanceMethod y).before args s = true ∧ (Cond.selects C y y).before args s = true
theorem vx_cwVW {own C : String} {index maxL mc ms : Nat} {y : MethodName} {bytes : ByteArray} {ret : Option FieldType} {hh : List (Nat × Nat × Nat × Nat)} {Ts ws ws' : List Cond} {rm : Room} (n : Nat) (ht : ∀ w ∈ Ts, w.before args s = true) (hT : GoodIn Ts (wsV own index C y ws)) (hw : ws = Cond.codeWith y bytes maxL ret hh :: ws') (hrc : rm.cells = mc) (hrs : rm.slots = ms)
    (hd : y.cls = C ∧ y.cls ≠ "java/lang/invoke/MethodHandle" ∧ y.cls ≠ "java/lang/invoke/VarHandle" ∧ (parseMethodDescriptor y.desc).map (fun d => d.parameters.length) = some n) (hR : rm.frames + 1 ≤ R.frames ∧ 8 + (maxL + 11) + rm.locals ≤ R.locals) :
    vx_CVW R s args own C index y bytes maxL ret hh ws rm mc ms n := by
  obtain ⟨hC, hd⟩ := hd
  subst hC
  have ok : ∀ w ∈ wsV own index y.cls y ws, w.before args s = true := fun w h => ht w (hT w h).1
  have hG : GoodIn Ts ws := fun w h => hT w (by unfold wsV; exact List.mem_append_right _ h)
  have hc : Cond.codeWith y bytes maxL ret hh ∈ ws := by rw [hw]; exact List.mem_cons_self
  refine ⟨⟨hrc, hrs, hR.1, hR.2, pay_in ht hG, hc⟩, ht _ (hG _ hc).1, ok _ (by simp [wsV]), ⟨hd.1, hd.2.1⟩, fun sig h => ?_, ok _ (by simp [wsV]), ok _ (by simp [wsV]), ok _ (by simp [wsV])⟩
  have h2 := hd.2.2
  rw [h] at h2
  exact (Option.some.inj h2).symm
theorem vx_runVW {y : MethodName} {bytes cc : ByteArray} {maxL nL mc ms n index : Nat} {ret : Option FieldType} {hh : List (Nat × Nat × Nat × Nat)} {ws : List Cond} {rm : Room} {Pc : Array Value → State → Prop} {Qc : Array Value → State → Outcome → State → Prop} {free : Addr → Prop} {Ts : List Cond} {own C : String} {b : Addr} {As rest : List Value} {g : JFrame}
    (S : CallFix p m c cc nL s args Ts own) (hM : Met l y ws rm Pc Qc mc ms free) (cw : vx_CVW R s args own C index y bytes maxL ret hh ws rm mc ms n) (hp : PreV s H C b Pc As)
    (hg : g.method = m) (hn : As.length = n) (hsize : g.locals.size = nL) (hstack : g.stack = As.reverse ++ .ref b :: rest) (hW : 2 * g.monitorRoom + (rest.map fun v => v.category).sum ≤ 8) (hdg : decode cc g.pc = .ok (.invokevirtual index, 3)) (hf : cells + mc ≤ R.cells ∧ slots + ms ≤ R.slots) :
    va_Run p l e R s m args below meth c H locs cells slots mc ms g rest (Qc (Value.ref b :: As).toArray) free := by
  obtain ⟨⟨hrc, hrs, hfr, hlo, hws, hcw⟩, hcode, hini, hy, hlen, hl, hin, hse⟩ := cw
  have hK : Back l R p e below s args y 3 8 (PreOf R mc ms Pc) (PostOf Qc mc ms free) := va_backW (hh := hh) (bytes := bytes) (maxL := maxL) (ret := ret) hM hp.1 hrc hrs hfr hlo hws hcw (fun a' U hW => word_at hW (Or.inl (by first | rfl | simp [Cond.onTables, Cond.keeps, Cond.steady])) hini)
  obtain ⟨hx, hb, hml, ho, -⟩ := S
  obtain ⟨-, ⟨cellB, hcB, hoB, hclB⟩, hPc⟩ := hp
  intro T hT X
  obtain ⟨v, vm₁, ⟨U', l2, c2, s2⟩, hW₁, X', ⟨g', mk, t, L, e1, e2, hq, h1, hL, h2, h3⟩, st⟩ := vx_callVW X hx (C := C) (hh := hh) (bytes := bytes) (maxL := maxL) (ret := ret) ho hl hin hse hcode hy hK (by rw [hT]; exact hcB) hoB hclB hg (hsize.trans hml.symm) (argsL := As) (rest := rest) (fun sig h => hn.trans (hlen sig h)) hstack hW (by rw [hb]; exact hdg)
    (fun vm₁ hW₁ => ⟨hf.1, hf.2, hPc (T.setVm vm₁) hT hW₁⟩)
  dsimp only [Pt.U, Pt.locs, Pt.cells, Pt.slots] at X' e1 e2 h1 h2 h3 st
  subst h1; subst h2; subst h3
  exact ⟨v, (T.setVm vm₁).calling g' mk (Value.ref b :: As).toArray, t, U', L, hT, X', hL, e1, e2, hq, st⟩
section
variable {y : MethodName} {bytes cc : ByteArray} {maxL nL mc ms n index : Nat} {ret : Option FieldType} {ws : List Cond} {rm : Room} {Pc : Array Value → State → Prop} {Qc : Array Value → State → Outcome → State → Prop} {XC : String → State → State → Prop} {free : Addr → Prop} {Ts : List Cond} {own C : String} {b : Addr} {As rest : List Value} {g : JFrame}
theorem vx_runVX {hh : List (Nat × Nat × Nat × Nat)} (S : CallFix p m c cc nL s args Ts own) (hM : vx_Met l y ws rm Pc Qc XC mc ms free) (cw : vx_CVW R s args own C index y bytes maxL ret hh ws rm mc ms n) (hp : PreV s H C b Pc As)
    (hg : g.method = m) (hn : As.length = n) (hsize : g.locals.size = nL) (hstack : g.stack = As.reverse ++ .ref b :: rest) (hW : 2 * g.monitorRoom + (rest.map fun v => v.category).sum ≤ 8) (hdg : decode cc g.pc = .ok (.invokevirtual index, 3)) (hf : cells + mc ≤ R.cells ∧ slots + ms ≤ R.slots) :
    vx_Run p l e R s m args below meth c H locs cells slots mc ms g rest (Qc (Value.ref b :: As).toArray) XC free := by
  obtain ⟨⟨hrc, hrs, hfr, hlo, hws, hcw⟩, hcode, hini, hy, hlen, hl, hin, hse⟩ := cw
  have hK : vx_Back l R p e below s args y 3 8 (PreOf R mc ms Pc) (PostOf Qc mc ms free) (vx_Post XC mc ms free) := vx_backW (hh := hh) (bytes := bytes) (maxL := maxL) (ret := ret) hM hp.1 hrc hrs hfr hlo hws hcw (fun a' U hW => word_at hW (Or.inl (by first | rfl | simp [Cond.onTables, Cond.keeps, Cond.steady])) hini)
  obtain ⟨hx, hb, hml, ho, -⟩ := S
  obtain ⟨-, ⟨cellB, hcB, hoB, hclB⟩, hPc⟩ := hp
  intro T hT X
  rcases vx_callVX X hx (C := C) (hh := hh) (bytes := bytes) (maxL := maxL) (ret := ret) ho hl hin hse hcode hy hK (by rw [hT]; exact hcB) hoB hclB hg (hsize.trans hml.symm) (argsL := As) (rest := rest) (fun sig h => hn.trans (hlen sig h)) hstack hW (by rw [hb]; exact hdg)
    (fun vm₁ hW₁ => ⟨hf.1, hf.2, hPc (T.setVm vm₁) hT hW₁⟩) with ⟨v, vm₁, ⟨U', l2, c2, s2⟩, hW₁, X', ⟨g', mk, t, L, e1, e2, hq, h1, hL, h2, h3⟩, st⟩ | ⟨q, vm₁, ⟨U', l2, c2, s2⟩, hW₁, X', ⟨g', mk, t, L, E, ce, e1, e2, hq, hce, hcv, hcl, h1, hL, h2, h3⟩, st⟩
  · dsimp only [Pt.U, Pt.locs, Pt.cells, Pt.slots] at X' e1 e2 h1 h2 h3 st
    subst h1; subst h2; subst h3
    exact Or.inl ⟨v, (T.setVm vm₁).calling g' mk (Value.ref b :: As).toArray, t, U', L, hT, X', hL, e1, e2, hq, st⟩
  · dsimp only [Pt.U, Pt.locs, Pt.cells, Pt.slots] at X' e1 e2 h1 h2 h3 st hcl
    subst h1; subst h2; subst h3
    exact Or.inr ⟨q, (T.setVm vm₁).calling g' mk (Value.ref b :: As).toArray, t, U', L, E, ce, hT, X', hL, e1, e2, hq, hce, hcv, vx_cls hW₁ hcl, st⟩
theorem vx_runSX {hh : List (Nat × Nat × Nat × Nat)} (S : CallFix p m c cc nL s args Ts own) (hM : vx_Met l y ws rm Pc Qc XC mc ms free) (cw : vx_CSW R s args own index y bytes maxL ret hh ws rm mc ms n) (hp : PreS s H Pc As)
    (hg : g.method = m) (hn : As.length = n) (hsize : g.locals.size = nL) (hstack : g.stack = As.reverse ++ rest) (hW : 2 * g.monitorRoom + (rest.map fun v => v.category).sum ≤ 8) (hdg : decode cc g.pc = .ok (.invokestatic index, 3)) (hf : cells + mc ≤ R.cells ∧ slots + ms ≤ R.slots) :
    vx_Run p l e R s m args below meth c H locs cells slots mc ms g rest (Qc As.toArray) XC free := by
  obtain ⟨⟨hrc, hrs, hfr, hlo, hws, hcw⟩, hcode, hini, hy, hlen, hl, hstt⟩ := cw
  have hK : vx_Back l R p e below s args y 3 8 (PreOf R mc ms Pc) (PostOf Qc mc ms free) (vx_Post XC mc ms free) := vx_backW (hh := hh) (bytes := bytes) (maxL := maxL) (ret := ret) hM hp.1 hrc hrs hfr hlo hws hcw (fun a' U hW => word_at hW (Or.inl (by first | rfl | simp [Cond.onTables, Cond.keeps, Cond.steady])) hini)
  obtain ⟨hx, hb, hml, ho, -⟩ := S
  intro T hT X
  rcases vx_callSX X hx (hh := hh) (bytes := bytes) (maxL := maxL) (ret := ret) ho hl hstt hini hcode hy hK hg (hsize.trans hml.symm) (argsL := As) (rest := rest) (fun sig h => hn.trans (hlen sig h)) hstack hW (by rw [hb]; exact hdg)
    (fun vm₁ hW₁ => ⟨hf.1, hf.2, hp.2 (T.setVm vm₁) hT hW₁⟩) with ⟨v, vm₁, ⟨U', l2, c2, s2⟩, hW₁, X', ⟨g', mk, t, L, e1, e2, hq, h1, hL, h2, h3⟩, st⟩ | ⟨q, vm₁, ⟨U', l2, c2, s2⟩, hW₁, X', ⟨g', mk, t, L, E, ce, e1, e2, hq, hce, hcv, hcl, h1, hL, h2, h3⟩, st⟩
  · dsimp only [Pt.U, Pt.locs, Pt.cells, Pt.slots] at X' e1 e2 h1 h2 h3 st
    subst h1; subst h2; subst h3
    exact Or.inl ⟨v, (T.setVm vm₁).calling g' mk As.toArray, t, U', L, hT, X', hL, e1, e2, hq, st⟩
  · dsimp only [Pt.U, Pt.locs, Pt.cells, Pt.slots] at X' e1 e2 h1 h2 h3 st hcl
    subst h1; subst h2; subst h3
    exact Or.inr ⟨q, (T.setVm vm₁).calling g' mk As.toArray, t, U', L, E, ce, hT, X', hL, e1, e2, hq, hce, hcv, vx_cls hW₁ hcl, st⟩
end
end VXH
theorem vx_ofWH {l : Launch} {y : MethodName} {ws ws' : List Cond} {rm : Room} {Pc : Array Value → State → Prop} {Qc : Array Value → State → Outcome → State → Prop} {XC : String → State → State → Prop} {mc ms : Nat} {free : Addr → Prop} {cc : ByteArray} {maxL : Nat} {ret : Option FieldType} {hh : List (Nat × Nat × Nat × Nat)}
    (hy : plainName y.cls = true) (hw : ws = Cond.codeWith y cc maxL ret hh :: ws')
    (body : ∀ p e s m args below meth c s₁, BodyLoose p l y (headSpec ws rm) cc maxL ret e s m args below meth c s₁ → c.maxLocals = maxL → Pc args s →
      W p l e (headSpec ws rm).room s m args below meth c s.heap [] 0 0 (vx_MQ below Qc XC args s mc ms free) (entryFrame m args maxL)) : vx_Met l y ws rm Pc Qc XC mc ms free := by
  refine MetFree.of_bodyS (code := cc) (maxLocals := maxL) (ret := ret) hy ?_ ?_
  · intro args s m h hn
    obtain ⟨m9, meth, c, hn9, h1, h2, h3, h4, -, h5, h6, -⟩ := Cond.codeWith_spec (atoms_spec (ws := ws) h _ (by rw [hw]; exact List.mem_cons_self))
    cases hn.symm.trans hn9
    exact ⟨meth, c, h1, h2, h3, h4, h5, h6⟩
  · intro p e s m args below meth c s₁ B hml hP _
    have hh0 : s₁.heap = s.heap := by rw [B.state]; rfl
    obtain ⟨t, a1, o, b1, b2, b3⟩ := body p e s m args below meth c s₁ B hml hP s₁ hh0 (Stand.of_body B)
    exact ⟨t, o, a1, b1, b2, b3⟩
/-! ===== END ===== -/
end
section
/-! ===== BEGIN printed: names, fields, word lists, decode rows ===== -/
def RX0 : String := "Epsilonhall$Bases"
def TX0 : u_T := fun k => match k with
  | 0 => ("Epsilonhall$Game", "made", "I", false)
  | 1 => ("Epsilonhall$Game", "great", "Z", false)
  | 2 => ("Epsilonhall$Game", "fell", "Z", false)
  | 3 => ("Epsilonhall$Game", "ordinal", "LEpsilonhall$Ordinal;", true)
  | _ => ("Epsilonhall$Bases", "number", "J", false)
def tyX0 : Nat → FieldType := fun k => match k with
  | 0 => .int
  | 1 => .boolean
  | 2 => .boolean
  | 3 => .object "Epsilonhall$Ordinal"
  | _ => .long
abbrev wsX00 : List Cond := u_ws RX0 TX0 5
theorem nmX0 : ∀ a, a < 5 → ∀ b, b < 5 → a ≠ b → (TX0 a).2.1 ≠ (TX0 b).2.1 := by decide +kernel
theorem tyX0_ok : ∀ k, k < 5 → parseFieldDescriptor (TX0 k).2.2.1 = some (tyX0 k) := by decide +kernel
abbrev cX0_init : ByteArray := prog_2_method_1_code
def yX0_init : MethodName := ⟨RX0, "<init>", "(I)V"⟩
abbrev cX0_kind : ByteArray := prog_2_method_2_code
def yX0_kind : MethodName := ⟨RX0, "kind", "()C"⟩
abbrev cX0_hasEnded : ByteArray := prog_2_method_3_code
def yX0_hasEnded : MethodName := ⟨RX0, "hasEnded", "()Z"⟩
abbrev cX0_extent : ByteArray := prog_2_method_4_code
def yX0_extent : MethodName := ⟨RX0, "extent", "()J"⟩
abbrev cX0_places : ByteArray := prog_2_method_5_code
def yX0_places : MethodName := ⟨RX0, "places", "()I"⟩
abbrev cX0_held : ByteArray := prog_2_method_6_code
def yX0_held : MethodName := ⟨RX0, "held", "(I)I"⟩
abbrev cX0_base : ByteArray := prog_2_method_7_code
def yX0_base : MethodName := ⟨RX0, "base", "()I"⟩
abbrev cX0_advance : ByteArray := prog_2_method_8_code
def yX0_advance : MethodName := ⟨RX0, "advance", "()Z"⟩
abbrev cX0_cappedNumber : ByteArray := prog_2_method_9_code
def yX0_cappedNumber : MethodName := ⟨RX0, "cappedNumber", "(J)J"⟩
abbrev cX0_raised : ByteArray := prog_2_method_10_code
def yX0_raised : MethodName := ⟨RX0, "raised", "(JII)J"⟩
abbrev cX0_power : ByteArray := prog_2_method_11_code
def yX0_power : MethodName := ⟨RX0, "power", "(IJ)J"⟩
abbrev cX0_weigh : ByteArray := prog_2_method_12_code
def yX0_weigh : MethodName := ⟨RX0, "weigh", "(LEpsilonhall$Bench;)Z"⟩
abbrev cX0_weighNumber : ByteArray := prog_2_method_13_code
def yX0_weighNumber : MethodName := ⟨RX0, "weighNumber", "(JIILEpsilonhall$Bench;)Z"⟩
def RX1 : String := "Epsilonhall$Bench"
def TX1 : u_T := fun k => match k with
  | 0 => ("Epsilonhall$Bench", "rows", "[LEpsilonhall$Ordinal;", true)
  | 1 => ("Epsilonhall$Bench", "piece", "LEpsilonhall$Ordinal;", true)
  | 2 => ("Epsilonhall$Bench", "spare", "LEpsilonhall$Ordinal;", true)
  | 3 => ("Epsilonhall$Bench", "firstOn", "[I", true)
  | _ => ("Epsilonhall$Bench", "nextBeside", "[I", true)
def tyX1 : Nat → FieldType := fun k => match k with
  | 0 => .array (.object "Epsilonhall$Ordinal")
  | 1 => .object "Epsilonhall$Ordinal"
  | 2 => .object "Epsilonhall$Ordinal"
  | 3 => .array .int
  | _ => .array .int
abbrev wsX10 : List Cond := u_ws RX1 TX1 5
theorem nmX1 : ∀ a, a < 5 → ∀ b, b < 5 → a ≠ b → (TX1 a).2.1 ≠ (TX1 b).2.1 := by decide +kernel
theorem tyX1_ok : ∀ k, k < 5 → parseFieldDescriptor (TX1 k).2.2.1 = some (tyX1 k) := by decide +kernel
abbrev cX1_init : ByteArray := prog_3_method_1_code
def yX1_init : MethodName := ⟨RX1, "<init>", "()V"⟩
abbrev cX1_rowOf : ByteArray := prog_3_method_2_code
def yX1_rowOf : MethodName := ⟨RX1, "rowOf", "(I)LEpsilonhall$Ordinal;"⟩
abbrev cX1_multiplyNaturally : ByteArray := prog_3_method_3_code
def yX1_multiplyNaturally : MethodName := ⟨RX1, "multiplyNaturally", "(LEpsilonhall$Ordinal;LEpsilonhall$Ordinal;LEpsilonhall$Ordinal;)V"⟩
abbrev cX1_forgetTree : ByteArray := prog_3_method_4_code
def yX1_forgetTree : MethodName := ⟨RX1, "forgetTree", "(I)V"⟩
abbrev cX1_noteTwig : ByteArray := prog_3_method_5_code
def yX1_noteTwig : MethodName := ⟨RX1, "noteTwig", "(II)V"⟩
abbrev cX1_firstTwig : ByteArray := prog_3_method_6_code
def yX1_firstTwig : MethodName := ⟨RX1, "firstTwig", "(I)I"⟩
abbrev cX1_nextTwig : ByteArray := prog_3_method_7_code
def yX1_nextTwig : MethodName := ⟨RX1, "nextTwig", "(I)I"⟩
abbrev cX1_isRoom : ByteArray := prog_3_method_8_code
def yX1_isRoom : MethodName := ⟨RX1, "isRoom", "(I)Z"⟩
def RX2 : String := "Epsilonhall$Embedding"
def TX2 : u_T := fun k => match k with
  | 0 => ("Epsilonhall$Embedding", "parents", "[I", true)
  | 1 => ("Epsilonhall$Embedding", "otherParents", "[I", true)
  | 2 => ("Epsilonhall$Embedding", "places", "[I", true)
  | 3 => ("Epsilonhall$Embedding", "inOrAbove", "[Z", true)
  | 4 => ("Epsilonhall$Embedding", "matches", "[I", true)
  | 5 => ("Epsilonhall$Embedding", "tried", "[Z", true)
  | 6 => ("Epsilonhall$Embedding", "knots", "I", false)
  | _ => ("Epsilonhall$Embedding", "otherKnots", "I", false)
def tyX2 : Nat → FieldType := fun k => match k with
  | 0 => .array .int
  | 1 => .array .int
  | 2 => .array .int
  | 3 => .array .boolean
  | 4 => .array .int
  | 5 => .array .boolean
  | 6 => .int
  | _ => .int
abbrev wsX20 : List Cond := u_ws RX2 TX2 8
theorem nmX2 : ∀ a, a < 8 → ∀ b, b < 8 → a ≠ b → (TX2 a).2.1 ≠ (TX2 b).2.1 := by decide +kernel
theorem tyX2_ok : ∀ k, k < 8 → parseFieldDescriptor (TX2 k).2.2.1 = some (tyX2 k) := by decide +kernel
abbrev cX2_init : ByteArray := prog_4_method_1_code
def yX2_init : MethodName := ⟨RX2, "<init>", "()V"⟩
abbrev cX2_find : ByteArray := prog_4_method_2_code
def yX2_find : MethodName := ⟨RX2, "find", "(LEpsilonhall$Hydra;LEpsilonhall$Hydra;)Z"⟩
abbrev cX2_read : ByteArray := prog_4_method_3_code
def yX2_read : MethodName := ⟨RX2, "read", "(LEpsilonhall$Hydra;[I)I"⟩
abbrev cX2_isKnot : ByteArray := prog_4_method_4_code
def yX2_isKnot : MethodName := ⟨RX2, "isKnot", "(I)Z"⟩
abbrev cX2_note : ByteArray := prog_4_method_5_code
def yX2_note : MethodName := ⟨RX2, "note", "(IIZ)V"⟩
abbrev cX2_isNoted : ByteArray := prog_4_method_6_code
def yX2_isNoted : MethodName := ⟨RX2, "isNoted", "(II)Z"⟩
abbrev cX2_hangsOn : ByteArray := prog_4_method_7_code
def yX2_hangsOn : MethodName := ⟨RX2, "hangsOn", "(II)Z"⟩
abbrev cX2_otherHangsOn : ByteArray := prog_4_method_8_code
def yX2_otherHangsOn : MethodName := ⟨RX2, "otherHangsOn", "(II)Z"⟩
abbrev cX2_isAboveTwig : ByteArray := prog_4_method_9_code
def yX2_isAboveTwig : MethodName := ⟨RX2, "isAboveTwig", "(II)Z"⟩
abbrev cX2_isIn : ByteArray := prog_4_method_10_code
def yX2_isIn : MethodName := ⟨RX2, "isIn", "(II)Z"⟩
abbrev cX2_give : ByteArray := prog_4_method_11_code
def yX2_give : MethodName := ⟨RX2, "give", "(LEpsilonhall$Embedding;III)Z"⟩
def RX3 : String := "Epsilonhall$Game"
def TX3 : u_T := fun k => match k with
  | _ => ("", "", "", false)
def tyX3 : Nat → FieldType := fun k => match k with
  | _ => .int
abbrev wsX30 : List Cond := u_ws RX3 TX3 0
theorem nmX3 : ∀ a, a < 0 → ∀ b, b < 0 → a ≠ b → (TX3 a).2.1 ≠ (TX3 b).2.1 := by decide +kernel
theorem tyX3_ok : ∀ k, k < 0 → parseFieldDescriptor (TX3 k).2.2.1 = some (tyX3 k) := by decide +kernel
abbrev cX3_init : ByteArray := prog_5_method_1_code
def yX3_init : MethodName := ⟨RX3, "<init>", "()V"⟩
abbrev cX3_weighFirst : ByteArray := prog_5_method_9_code
def yX3_weighFirst : MethodName := ⟨RX3, "weighFirst", "(LEpsilonhall$Bench;)V"⟩
abbrev cX3_settle : ByteArray := prog_5_method_10_code
def yX3_settle : MethodName := ⟨RX3, "settle", "(LEpsilonhall$Bench;)V"⟩
def RX4 : String := "Epsilonhall$Hydra"
def TX4 : u_T := fun k => match k with
  | 0 => ("Epsilonhall$Game", "made", "I", false)
  | 1 => ("Epsilonhall$Game", "great", "Z", false)
  | 2 => ("Epsilonhall$Game", "fell", "Z", false)
  | 3 => ("Epsilonhall$Game", "ordinal", "LEpsilonhall$Ordinal;", true)
  | 4 => ("Epsilonhall$Hydra", "parents", "[I", true)
  | 5 => ("Epsilonhall$Hydra", "hanging", "[I", true)
  | 6 => ("Epsilonhall$Hydra", "twins", "[I", true)
  | 7 => ("Epsilonhall$Hydra", "given", "I", false)
  | _ => ("Epsilonhall$Hydra", "living", "I", false)
def tyX4 : Nat → FieldType := fun k => match k with
  | 0 => .int
  | 1 => .boolean
  | 2 => .boolean
  | 3 => .object "Epsilonhall$Ordinal"
  | 4 => .array .int
  | 5 => .array .int
  | 6 => .array .int
  | 7 => .int
  | _ => .int
abbrev wsX40 : List Cond := u_ws RX4 TX4 9
theorem nmX4 : ∀ a, a < 9 → ∀ b, b < 9 → a ≠ b → (TX4 a).2.1 ≠ (TX4 b).2.1 := by decide +kernel
theorem tyX4_ok : ∀ k, k < 9 → parseFieldDescriptor (TX4 k).2.2.1 = some (tyX4 k) := by decide +kernel
abbrev cX4_init : ByteArray := prog_6_method_1_code
def yX4_init : MethodName := ⟨RX4, "<init>", "([II)V"⟩
abbrev cX4_isHydra : ByteArray := prog_6_method_2_code
def yX4_isHydra : MethodName := ⟨RX4, "isHydra", "([II)Z"⟩
abbrev cX4_kind : ByteArray := prog_6_method_3_code
def yX4_kind : MethodName := ⟨RX4, "kind", "()C"⟩
abbrev cX4_hasEnded : ByteArray := prog_6_method_4_code
def yX4_hasEnded : MethodName := ⟨RX4, "hasEnded", "()Z"⟩
abbrev cX4_extent : ByteArray := prog_6_method_5_code
def yX4_extent : MethodName := ⟨RX4, "extent", "()J"⟩
abbrev cX4_places : ByteArray := prog_6_method_6_code
def yX4_places : MethodName := ⟨RX4, "places", "()I"⟩
abbrev cX4_held : ByteArray := prog_6_method_7_code
def yX4_held : MethodName := ⟨RX4, "held", "(I)I"⟩
abbrev cX4_isHead : ByteArray := prog_6_method_8_code
def yX4_isHead : MethodName := ⟨RX4, "isHead", "(I)Z"⟩
abbrev cX4_hang : ByteArray := prog_6_method_9_code
def yX4_hang : MethodName := ⟨RX4, "hang", "(I)V"⟩
abbrev cX4_remove : ByteArray := prog_6_method_10_code
def yX4_remove : MethodName := ⟨RX4, "remove", "(I)V"⟩
abbrev cX4_advance : ByteArray := prog_6_method_11_code
def yX4_advance : MethodName := ⟨RX4, "advance", "()Z"⟩
abbrev cX4_cutHead : ByteArray := prog_6_method_12_code
def yX4_cutHead : MethodName := ⟨RX4, "cutHead", "(I)Z"⟩
abbrev cX4_markBranch : ByteArray := prog_6_method_13_code
def yX4_markBranch : MethodName := ⟨RX4, "markBranch", "(I)I"⟩
abbrev cX4_copyBranch : ByteArray := prog_6_method_14_code
def yX4_copyBranch : MethodName := ⟨RX4, "copyBranch", "(II)V"⟩
abbrev cX4_twinOn : ByteArray := prog_6_method_15_code
def yX4_twinOn : MethodName := ⟨RX4, "twinOn", "(II)I"⟩
abbrev cX4_setTwin : ByteArray := prog_6_method_16_code
def yX4_setTwin : MethodName := ⟨RX4, "setTwin", "(II)V"⟩
abbrev cX4_weigh : ByteArray := prog_6_method_17_code
def yX4_weigh : MethodName := ⟨RX4, "weigh", "(LEpsilonhall$Bench;)Z"⟩
abbrev cX4_weighKnot : ByteArray := prog_6_method_18_code
def yX4_weighKnot : MethodName := ⟨RX4, "weighKnot", "(IILEpsilonhall$Bench;)Z"⟩
def RX5 : String := "Epsilonhall$Ordinal"
def TX5 : u_T := fun k => match k with
  | 0 => ("Epsilonhall$Ordinal", "levels", "[I", true)
  | 1 => ("Epsilonhall$Ordinal", "counts", "[I", true)
  | 2 => ("Epsilonhall$Ordinal", "used", "I", false)
  | _ => ("Epsilonhall$Ordinal", "spilt", "Z", false)
def tyX5 : Nat → FieldType := fun k => match k with
  | 0 => .array .int
  | 1 => .array .int
  | 2 => .int
  | _ => .boolean
abbrev wsX50 : List Cond := u_ws RX5 TX5 4
theorem nmX5 : ∀ a, a < 4 → ∀ b, b < 4 → a ≠ b → (TX5 a).2.1 ≠ (TX5 b).2.1 := by decide +kernel
theorem tyX5_ok : ∀ k, k < 4 → parseFieldDescriptor (TX5 k).2.2.1 = some (tyX5 k) := by decide +kernel
abbrev cX5_init : ByteArray := prog_7_method_1_code
def yX5_init : MethodName := ⟨RX5, "<init>", "(I)V"⟩
abbrev cX5_clear : ByteArray := prog_7_method_2_code
def yX5_clear : MethodName := ⟨RX5, "clear", "()V"⟩
abbrev cX5_levelAt : ByteArray := prog_7_method_3_code
def yX5_levelAt : MethodName := ⟨RX5, "levelAt", "(I)I"⟩
abbrev cX5_countAt : ByteArray := prog_7_method_4_code
def yX5_countAt : MethodName := ⟨RX5, "countAt", "(I)I"⟩
abbrev cX5_endOf : ByteArray := prog_7_method_5_code
def yX5_endOf : MethodName := ⟨RX5, "endOf", "(I)I"⟩
abbrev cX5_isBare : ByteArray := prog_7_method_6_code
def yX5_isBare : MethodName := ⟨RX5, "isBare", "(I)Z"⟩
abbrev cX5_height : ByteArray := prog_7_method_7_code
def yX5_height : MethodName := ⟨RX5, "height", "()I"⟩
abbrev cX5_countTerms : ByteArray := prog_7_method_8_code
def yX5_countTerms : MethodName := ⟨RX5, "countTerms", "()I"⟩
abbrev cX5_knotOfTerm : ByteArray := prog_7_method_9_code
def yX5_knotOfTerm : MethodName := ⟨RX5, "knotOfTerm", "(I)I"⟩
abbrev cX5_isTooGreat : ByteArray := prog_7_method_10_code
def yX5_isTooGreat : MethodName := ⟨RX5, "isTooGreat", "()Z"⟩
abbrev cX5_exponentsFall : ByteArray := prog_7_method_11_code
def yX5_exponentsFall : MethodName := ⟨RX5, "exponentsFall", "()Z"⟩
abbrev cX5_comparison : ByteArray := prog_7_method_12_code
def yX5_comparison : MethodName := ⟨RX5, "comparison", "(LEpsilonhall$Ordinal;ILEpsilonhall$Ordinal;I)I"⟩
abbrev cX5_append : ByteArray := prog_7_method_13_code
def yX5_append : MethodName := ⟨RX5, "append", "(IJ)V"⟩
abbrev cX5_setCount : ByteArray := prog_7_method_14_code
def yX5_setCount : MethodName := ⟨RX5, "setCount", "(IJ)V"⟩
abbrev cX5_capped : ByteArray := prog_7_method_15_code
def yX5_capped : MethodName := ⟨RX5, "capped", "(J)I"⟩
abbrev cX5_become : ByteArray := prog_7_method_16_code
def yX5_become : MethodName := ⟨RX5, "become", "(LEpsilonhall$Ordinal;)V"⟩
abbrev cX5_becomeNumber : ByteArray := prog_7_method_17_code
def yX5_becomeNumber : MethodName := ⟨RX5, "becomeNumber", "(I)V"⟩
abbrev cX5_appendBelow : ByteArray := prog_7_method_18_code
def yX5_appendBelow : MethodName := ⟨RX5, "appendBelow", "(LEpsilonhall$Ordinal;II)V"⟩
abbrev cX5_appendTerm : ByteArray := prog_7_method_19_code
def yX5_appendTerm : MethodName := ⟨RX5, "appendTerm", "(LEpsilonhall$Ordinal;IIJ)V"⟩
abbrev cX5_appendOnward : ByteArray := prog_7_method_20_code
def yX5_appendOnward : MethodName := ⟨RX5, "appendOnward", "(LEpsilonhall$Ordinal;I)V"⟩
abbrev cX5_appendSum : ByteArray := prog_7_method_21_code
def yX5_appendSum : MethodName := ⟨RX5, "appendSum", "(LEpsilonhall$Ordinal;ILEpsilonhall$Ordinal;II)V"⟩
abbrev cX5_appendNaturalSum : ByteArray := prog_7_method_22_code
def yX5_appendNaturalSum : MethodName := ⟨RX5, "appendNaturalSum", "(LEpsilonhall$Ordinal;ILEpsilonhall$Ordinal;II)V"⟩
abbrev cX5_becomeProduct : ByteArray := prog_7_method_23_code
def yX5_becomeProduct : MethodName := ⟨RX5, "becomeProduct", "(LEpsilonhall$Ordinal;LEpsilonhall$Ordinal;)V"⟩
abbrev cX5_becomeRest : ByteArray := prog_7_method_24_code
def yX5_becomeRest : MethodName := ⟨RX5, "becomeRest", "(LEpsilonhall$Ordinal;LEpsilonhall$Ordinal;)V"⟩
abbrev cX5_addPower : ByteArray := prog_7_method_25_code
def yX5_addPower : MethodName := ⟨RX5, "addPower", "(LEpsilonhall$Ordinal;)V"⟩
abbrev cX5_joinPower : ByteArray := prog_7_method_26_code
def yX5_joinPower : MethodName := ⟨RX5, "joinPower", "(LEpsilonhall$Ordinal;)V"⟩
abbrev cX5_firstNotAbove : ByteArray := prog_7_method_27_code
def yX5_firstNotAbove : MethodName := ⟨RX5, "firstNotAbove", "(LEpsilonhall$Ordinal;)I"⟩
abbrev cX5_open : ByteArray := prog_7_method_28_code
def yX5_open : MethodName := ⟨RX5, "open", "(II)V"⟩
abbrev cX5_takeOneOff : ByteArray := prog_7_method_29_code
def yX5_takeOneOff : MethodName := ⟨RX5, "takeOneOff", "()V"⟩
abbrev cX5_dropNumber : ByteArray := prog_7_method_30_code
def yX5_dropNumber : MethodName := ⟨RX5, "dropNumber", "()I"⟩
abbrev cX5_lessen : ByteArray := prog_7_method_31_code
def yX5_lessen : MethodName := ⟨RX5, "lessen", "(I)V"⟩
abbrev cX5_lastAt : ByteArray := prog_7_method_32_code
def yX5_lastAt : MethodName := ⟨RX5, "lastAt", "(I)I"⟩
abbrev cX5_partOne : ByteArray := prog_7_method_33_code
def yX5_partOne : MethodName := ⟨RX5, "partOne", "(I)V"⟩
abbrev cX5_goDown : ByteArray := prog_7_method_34_code
def yX5_goDown : MethodName := ⟨RX5, "goDown", "(I)Z"⟩
def RX6 : String := "Epsilonhall$Program"
def TX6 : u_T := fun k => match k with
  | 0 => ("Epsilonhall$Program", "counters", "[I", true)
  | 1 => ("Epsilonhall$Program", "before", "[I", true)
  | 2 => ("Epsilonhall$Program", "ranks", "[I", true)
  | 3 => ("Epsilonhall$Program", "order", "I", false)
  | 4 => ("Epsilonhall$Program", "guards", "[I", true)
  | 5 => ("Epsilonhall$Program", "firsts", "[I", true)
  | 6 => ("Epsilonhall$Program", "tos", "[I", true)
  | 7 => ("Epsilonhall$Program", "seconds", "[I", true)
  | 8 => ("Epsilonhall$Program", "toOthers", "[I", true)
  | 9 => ("Epsilonhall$Program", "steps", "I", false)
  | _ => ("Epsilonhall$Program", "risen", "I", false)
def tyX6 : Nat → FieldType := fun k => match k with
  | 0 => .array .int
  | 1 => .array .int
  | 2 => .array .int
  | 3 => .int
  | 4 => .array .int
  | 5 => .array .int
  | 6 => .array .int
  | 7 => .array .int
  | 8 => .array .int
  | 9 => .int
  | _ => .int
abbrev wsX60 : List Cond := u_ws RX6 TX6 11
theorem nmX6 : ∀ a, a < 11 → ∀ b, b < 11 → a ≠ b → (TX6 a).2.1 ≠ (TX6 b).2.1 := by decide +kernel
theorem tyX6_ok : ∀ k, k < 11 → parseFieldDescriptor (TX6 k).2.2.1 = some (tyX6 k) := by decide +kernel
abbrev cX6_init : ByteArray := prog_8_method_1_code
def yX6_init : MethodName := ⟨RX6, "<init>", "()V"⟩
abbrev cX6_isCounter : ByteArray := prog_8_method_2_code
def yX6_isCounter : MethodName := ⟨RX6, "isCounter", "(I)Z"⟩
abbrev cX6_isStep : ByteArray := prog_8_method_3_code
def yX6_isStep : MethodName := ⟨RX6, "isStep", "(I)Z"⟩
abbrev cX6_counterAt : ByteArray := prog_8_method_4_code
def yX6_counterAt : MethodName := ⟨RX6, "counterAt", "(I)I"⟩
abbrev cX6_change : ByteArray := prog_8_method_5_code
def yX6_change : MethodName := ⟨RX6, "change", "(II)I"⟩
abbrev cX6_append : ByteArray := prog_8_method_6_code
def yX6_append : MethodName := ⟨RX6, "append", "(IIIII)I"⟩
abbrev cX6_isOrder : ByteArray := prog_8_method_7_code
def yX6_isOrder : MethodName := ⟨RX6, "isOrder", "(I)Z"⟩
abbrev cX6_reorder : ByteArray := prog_8_method_8_code
def yX6_reorder : MethodName := ⟨RX6, "reorder", "(I)I"⟩
abbrev cX6_rankOf : ByteArray := prog_8_method_9_code
def yX6_rankOf : MethodName := ⟨RX6, "rankOf", "(I)I"⟩
abbrev cX6_isCertified : ByteArray := prog_8_method_10_code
def yX6_isCertified : MethodName := ⟨RX6, "isCertified", "(I)Z"⟩
abbrev cX6_doRound : ByteArray := prog_8_method_11_code
def yX6_doRound : MethodName := ⟨RX6, "doRound", "()Z"⟩
abbrev cX6_doStep : ByteArray := prog_8_method_12_code
def yX6_doStep : MethodName := ⟨RX6, "doStep", "(I)V"⟩
abbrev cX6_told : ByteArray := prog_8_method_13_code
def yX6_told : MethodName := ⟨RX6, "told", "(I)I"⟩
abbrev cX6_isLess : ByteArray := prog_8_method_14_code
def yX6_isLess : MethodName := ⟨RX6, "isLess", "()Z"⟩
abbrev cX6_tellValue : ByteArray := prog_8_method_15_code
def yX6_tellValue : MethodName := ⟨RX6, "tellValue", "(LEpsilonhall$Ordinal;)V"⟩
abbrev cX6_appendNumber : ByteArray := prog_8_method_16_code
def yX6_appendNumber : MethodName := ⟨RX6, "appendNumber", "(LEpsilonhall$Ordinal;I)V"⟩
def RX7 : String := "Epsilonhall$Text"
def TX7 : u_T := fun k => match k with
  | 0 => ("Epsilonhall$Text", "signs", "[C", true)
  | _ => ("Epsilonhall$Text", "used", "I", false)
def tyX7 : Nat → FieldType := fun k => match k with
  | 0 => .array .char
  | _ => .int
abbrev wsX70 : List Cond := u_ws RX7 TX7 2
theorem nmX7 : ∀ a, a < 2 → ∀ b, b < 2 → a ≠ b → (TX7 a).2.1 ≠ (TX7 b).2.1 := by decide +kernel
theorem tyX7_ok : ∀ k, k < 2 → parseFieldDescriptor (TX7 k).2.2.1 = some (tyX7 k) := by decide +kernel
abbrev cX7_init : ByteArray := prog_9_method_1_code
def yX7_init : MethodName := ⟨RX7, "<init>", "()V"⟩
abbrev cX7_sign : ByteArray := prog_9_method_2_code
def yX7_sign : MethodName := ⟨RX7, "sign", "(I)C"⟩
abbrev cX7_write : ByteArray := prog_9_method_3_code
def yX7_write : MethodName := ⟨RX7, "write", "(LEpsilonhall$Ordinal;)V"⟩
abbrev cX7_add : ByteArray := prog_9_method_4_code
def yX7_add : MethodName := ⟨RX7, "add", "(C)V"⟩
abbrev cX7_addDigits : ByteArray := prog_9_method_5_code
def yX7_addDigits : MethodName := ⟨RX7, "addDigits", "(I)V"⟩
abbrev cX7_writeBelow : ByteArray := prog_9_method_6_code
def yX7_writeBelow : MethodName := ⟨RX7, "writeBelow", "(LEpsilonhall$Text;LEpsilonhall$Ordinal;II)V"⟩
abbrev cX7_writeTerm : ByteArray := prog_9_method_7_code
def yX7_writeTerm : MethodName := ⟨RX7, "writeTerm", "(LEpsilonhall$Text;LEpsilonhall$Ordinal;II)V"⟩
def RX8 : String := "Epsilonhall$Walk"
def TX8 : u_T := fun k => match k with
  | 0 => ("Epsilonhall$Walk", "here", "LEpsilonhall$Ordinal;", true)
  | 1 => ("Epsilonhall$Walk", "frames", "[LEpsilonhall$Ordinal;", true)
  | 2 => ("Epsilonhall$Walk", "pending", "[I", true)
  | 3 => ("Epsilonhall$Walk", "open", "I", false)
  | 4 => ("Epsilonhall$Walk", "number", "I", false)
  | 5 => ("Epsilonhall$Walk", "uses", "I", false)
  | 6 => ("Epsilonhall$Walk", "steps", "I", false)
  | _ => ("Epsilonhall$Walk", "lessened", "I", false)
def tyX8 : Nat → FieldType := fun k => match k with
  | 0 => .object "Epsilonhall$Ordinal"
  | 1 => .array (.object "Epsilonhall$Ordinal")
  | 2 => .array .int
  | 3 => .int
  | 4 => .int
  | 5 => .int
  | 6 => .int
  | _ => .int
abbrev wsX80 : List Cond := u_ws RX8 TX8 8
theorem nmX8 : ∀ a, a < 8 → ∀ b, b < 8 → a ≠ b → (TX8 a).2.1 ≠ (TX8 b).2.1 := by decide +kernel
theorem tyX8_ok : ∀ k, k < 8 → parseFieldDescriptor (TX8 k).2.2.1 = some (tyX8 k) := by decide +kernel
abbrev cX8_init : ByteArray := prog_10_method_1_code
def yX8_init : MethodName := ⟨RX8, "<init>", "()V"⟩
abbrev cX8_told : ByteArray := prog_10_method_2_code
def yX8_told : MethodName := ⟨RX8, "told", "(LEpsilonhall$Ordinal;I)LEpsilonhall$Ordinal;"⟩
abbrev cX8_goToZero : ByteArray := prog_10_method_3_code
def yX8_goToZero : MethodName := ⟨RX8, "goToZero", "(LEpsilonhall$Ordinal;IIII)Z"⟩
abbrev cX8_growFast : ByteArray := prog_10_method_4_code
def yX8_growFast : MethodName := ⟨RX8, "growFast", "(LEpsilonhall$Ordinal;I)Z"⟩
abbrev cX8_isToldAtOnce : ByteArray := prog_10_method_5_code
def yX8_isToldAtOnce : MethodName := ⟨RX8, "isToldAtOnce", "()Z"⟩
abbrev cX8_addFrame : ByteArray := prog_10_method_6_code
def yX8_addFrame : MethodName := ⟨RX8, "addFrame", "()Z"⟩
abbrev cX8_takeFrame : ByteArray := prog_10_method_7_code
def yX8_takeFrame : MethodName := ⟨RX8, "takeFrame", "()Z"⟩
def RX9 : String := "Epsilonhall$Worm"
def TX9 : u_T := fun k => match k with
  | 0 => ("Epsilonhall$Game", "made", "I", false)
  | 1 => ("Epsilonhall$Game", "great", "Z", false)
  | 2 => ("Epsilonhall$Game", "fell", "Z", false)
  | 3 => ("Epsilonhall$Game", "ordinal", "LEpsilonhall$Ordinal;", true)
  | 4 => ("Epsilonhall$Worm", "numbers", "[I", true)
  | _ => ("Epsilonhall$Worm", "used", "I", false)
def tyX9 : Nat → FieldType := fun k => match k with
  | 0 => .int
  | 1 => .boolean
  | 2 => .boolean
  | 3 => .object "Epsilonhall$Ordinal"
  | 4 => .array .int
  | _ => .int
abbrev wsX90 : List Cond := u_ws RX9 TX9 6
theorem nmX9 : ∀ a, a < 6 → ∀ b, b < 6 → a ≠ b → (TX9 a).2.1 ≠ (TX9 b).2.1 := by decide +kernel
theorem tyX9_ok : ∀ k, k < 6 → parseFieldDescriptor (TX9 k).2.2.1 = some (tyX9 k) := by decide +kernel
abbrev cX9_init : ByteArray := prog_11_method_1_code
def yX9_init : MethodName := ⟨RX9, "<init>", "([II)V"⟩
abbrev cX9_isWorm : ByteArray := prog_11_method_2_code
def yX9_isWorm : MethodName := ⟨RX9, "isWorm", "([II)Z"⟩
abbrev cX9_kind : ByteArray := prog_11_method_3_code
def yX9_kind : MethodName := ⟨RX9, "kind", "()C"⟩
abbrev cX9_hasEnded : ByteArray := prog_11_method_4_code
def yX9_hasEnded : MethodName := ⟨RX9, "hasEnded", "()Z"⟩
abbrev cX9_extent : ByteArray := prog_11_method_5_code
def yX9_extent : MethodName := ⟨RX9, "extent", "()J"⟩
abbrev cX9_places : ByteArray := prog_11_method_6_code
def yX9_places : MethodName := ⟨RX9, "places", "()I"⟩
abbrev cX9_held : ByteArray := prog_11_method_7_code
def yX9_held : MethodName := ⟨RX9, "held", "(I)I"⟩
abbrev cX9_set : ByteArray := prog_11_method_8_code
def yX9_set : MethodName := ⟨RX9, "set", "(II)V"⟩
abbrev cX9_advance : ByteArray := prog_11_method_9_code
def yX9_advance : MethodName := ⟨RX9, "advance", "()Z"⟩
abbrev cX9_weigh : ByteArray := prog_11_method_10_code
def yX9_weigh : MethodName := ⟨RX9, "weigh", "(LEpsilonhall$Bench;)Z"⟩
abbrev cX9_weighPart : ByteArray := prog_11_method_11_code
def yX9_weighPart : MethodName := ⟨RX9, "weighPart", "(LEpsilonhall$Worm;IIILEpsilonhall$Bench;)Z"⟩
def RX10 : String := "Epsilonhall"
def TX10 : u_T := fun k => match k with
  | 0 => ("Epsilonhall", "ordinals", "[LEpsilonhall$Ordinal;", true)
  | 1 => ("Epsilonhall", "ordinalsKept", "I", false)
  | 2 => ("Epsilonhall", "games", "[LEpsilonhall$Game;", true)
  | 3 => ("Epsilonhall", "gamesKept", "I", false)
  | 4 => ("Epsilonhall", "buffer", "[I", true)
  | 5 => ("Epsilonhall", "buffered", "I", false)
  | 6 => ("Epsilonhall", "program", "LEpsilonhall$Program;", true)
  | 7 => ("Epsilonhall", "result", "LEpsilonhall$Ordinal;", true)
  | 8 => ("Epsilonhall", "bench", "LEpsilonhall$Bench;", true)
  | 9 => ("Epsilonhall", "walk", "LEpsilonhall$Walk;", true)
  | 10 => ("Epsilonhall", "text", "LEpsilonhall$Text;", true)
  | _ => ("Epsilonhall", "embedding", "LEpsilonhall$Embedding;", true)
def tyX10 : Nat → FieldType := fun k => match k with
  | 0 => .array (.object "Epsilonhall$Ordinal")
  | 1 => .int
  | 2 => .array (.object "Epsilonhall$Game")
  | 3 => .int
  | 4 => .array .int
  | 5 => .int
  | 6 => .object "Epsilonhall$Program"
  | 7 => .object "Epsilonhall$Ordinal"
  | 8 => .object "Epsilonhall$Bench"
  | 9 => .object "Epsilonhall$Walk"
  | 10 => .object "Epsilonhall$Text"
  | _ => .object "Epsilonhall$Embedding"
abbrev wsX100 : List Cond := u_ws RX10 TX10 12
theorem nmX10 : ∀ a, a < 12 → ∀ b, b < 12 → a ≠ b → (TX10 a).2.1 ≠ (TX10 b).2.1 := by decide +kernel
theorem tyX10_ok : ∀ k, k < 12 → parseFieldDescriptor (TX10 k).2.2.1 = some (tyX10 k) := by decide +kernel
abbrev cX10_init : ByteArray := prog_1_method_1_code
def yX10_init : MethodName := ⟨RX10, "<init>", "()V"⟩
abbrev cX10_number : ByteArray := prog_1_method_2_code
def yX10_number : MethodName := ⟨RX10, "number", "(I)I"⟩
abbrev cX10_term : ByteArray := prog_1_method_3_code
def yX10_term : MethodName := ⟨RX10, "term", "(II)I"⟩
abbrev cX10_sum : ByteArray := prog_1_method_4_code
def yX10_sum : MethodName := ⟨RX10, "sum", "(II)I"⟩
abbrev cX10_product : ByteArray := prog_1_method_5_code
def yX10_product : MethodName := ⟨RX10, "product", "(II)I"⟩
abbrev cX10_naturalSum : ByteArray := prog_1_method_6_code
def yX10_naturalSum : MethodName := ⟨RX10, "naturalSum", "(II)I"⟩
abbrev cX10_naturalProduct : ByteArray := prog_1_method_7_code
def yX10_naturalProduct : MethodName := ⟨RX10, "naturalProduct", "(II)I"⟩
abbrev cX10_takeOff : ByteArray := prog_1_method_8_code
def yX10_takeOff : MethodName := ⟨RX10, "takeOff", "(II)I"⟩
abbrev cX10_row : ByteArray := prog_1_method_9_code
def yX10_row : MethodName := ⟨RX10, "row", "(II)I"⟩
abbrev cX10_ordinals : ByteArray := prog_1_method_10_code
def yX10_ordinals : MethodName := ⟨RX10, "ordinals", "()I"⟩
abbrev cX10_compare : ByteArray := prog_1_method_11_code
def yX10_compare : MethodName := ⟨RX10, "compare", "(II)C"⟩
abbrev cX10_degree : ByteArray := prog_1_method_12_code
def yX10_degree : MethodName := ⟨RX10, "degree", "(I)I"⟩
abbrev cX10_size : ByteArray := prog_1_method_13_code
def yX10_size : MethodName := ⟨RX10, "size", "(I)I"⟩
abbrev cX10_isLimit : ByteArray := prog_1_method_14_code
def yX10_isLimit : MethodName := ⟨RX10, "isLimit", "(I)Z"⟩
abbrev cX10_terms : ByteArray := prog_1_method_15_code
def yX10_terms : MethodName := ⟨RX10, "terms", "(I)I"⟩
abbrev cX10_countOf : ByteArray := prog_1_method_16_code
def yX10_countOf : MethodName := ⟨RX10, "countOf", "(II)I"⟩
abbrev cX10_exponentOf : ByteArray := prog_1_method_17_code
def yX10_exponentOf : MethodName := ⟨RX10, "exponentOf", "(II)I"⟩
abbrev cX10_length : ByteArray := prog_1_method_18_code
def yX10_length : MethodName := ⟨RX10, "length", "(I)I"⟩
abbrev cX10_signAt : ByteArray := prog_1_method_19_code
def yX10_signAt : MethodName := ⟨RX10, "signAt", "(II)C"⟩
abbrev cX10_slow : ByteArray := prog_1_method_20_code
def yX10_slow : MethodName := ⟨RX10, "slow", "(II)I"⟩
abbrev cX10_hardy : ByteArray := prog_1_method_21_code
def yX10_hardy : MethodName := ⟨RX10, "hardy", "(II)I"⟩
abbrev cX10_fast : ByteArray := prog_1_method_22_code
def yX10_fast : MethodName := ⟨RX10, "fast", "(II)I"⟩
abbrev cX10_stepsDown : ByteArray := prog_1_method_23_code
def yX10_stepsDown : MethodName := ⟨RX10, "stepsDown", "(II)I"⟩
abbrev cX10_put : ByteArray := prog_1_method_24_code
def yX10_put : MethodName := ⟨RX10, "put", "(I)I"⟩
abbrev cX10_worm : ByteArray := prog_1_method_25_code
def yX10_worm : MethodName := ⟨RX10, "worm", "()I"⟩
abbrev cX10_hydra : ByteArray := prog_1_method_26_code
def yX10_hydra : MethodName := ⟨RX10, "hydra", "()I"⟩
abbrev cX10_bases : ByteArray := prog_1_method_27_code
def yX10_bases : MethodName := ⟨RX10, "bases", "(I)I"⟩
abbrev cX10_kindOf : ByteArray := prog_1_method_28_code
def yX10_kindOf : MethodName := ⟨RX10, "kindOf", "(I)C"⟩
abbrev cX10_isOver : ByteArray := prog_1_method_29_code
def yX10_isOver : MethodName := ⟨RX10, "isOver", "(I)Z"⟩
abbrev cX10_moves : ByteArray := prog_1_method_30_code
def yX10_moves : MethodName := ⟨RX10, "moves", "(I)I"⟩
abbrev cX10_measure : ByteArray := prog_1_method_31_code
def yX10_measure : MethodName := ⟨RX10, "measure", "(I)J"⟩
abbrev cX10_at : ByteArray := prog_1_method_32_code
def yX10_at : MethodName := ⟨RX10, "at", "(II)I"⟩
abbrev cX10_move : ByteArray := prog_1_method_33_code
def yX10_move : MethodName := ⟨RX10, "move", "(I)Z"⟩
abbrev cX10_cut : ByteArray := prog_1_method_34_code
def yX10_cut : MethodName := ⟨RX10, "cut", "(II)Z"⟩
abbrev cX10_play : ByteArray := prog_1_method_35_code
def yX10_play : MethodName := ⟨RX10, "play", "(II)I"⟩
abbrev cX10_ordinalOf : ByteArray := prog_1_method_36_code
def yX10_ordinalOf : MethodName := ⟨RX10, "ordinalOf", "(I)I"⟩
abbrev cX10_falls : ByteArray := prog_1_method_37_code
def yX10_falls : MethodName := ⟨RX10, "falls", "(I)Z"⟩
abbrev cX10_embeds : ByteArray := prog_1_method_38_code
def yX10_embeds : MethodName := ⟨RX10, "embeds", "(II)Z"⟩
abbrev cX10_setCounter : ByteArray := prog_1_method_39_code
def yX10_setCounter : MethodName := ⟨RX10, "setCounter", "(II)I"⟩
abbrev cX10_addStep : ByteArray := prog_1_method_40_code
def yX10_addStep : MethodName := ⟨RX10, "addStep", "(IIIII)I"⟩
abbrev cX10_setOrder : ByteArray := prog_1_method_41_code
def yX10_setOrder : MethodName := ⟨RX10, "setOrder", "(I)I"⟩
abbrev cX10_run : ByteArray := prog_1_method_42_code
def yX10_run : MethodName := ⟨RX10, "run", "(I)I"⟩
abbrev cX10_counter : ByteArray := prog_1_method_43_code
def yX10_counter : MethodName := ⟨RX10, "counter", "(I)I"⟩
abbrev cX10_holds : ByteArray := prog_1_method_44_code
def yX10_holds : MethodName := ⟨RX10, "holds", "(I)Z"⟩
abbrev cX10_value : ByteArray := prog_1_method_45_code
def yX10_value : MethodName := ⟨RX10, "value", "()I"⟩
abbrev cX10_rises : ByteArray := prog_1_method_46_code
def yX10_rises : MethodName := ⟨RX10, "rises", "()I"⟩
abbrev cX10_overShare : ByteArray := prog_1_method_47_code
def yX10_overShare : MethodName := ⟨RX10, "overShare", "()F"⟩
abbrev cX10_meanSize : ByteArray := prog_1_method_48_code
def yX10_meanSize : MethodName := ⟨RX10, "meanSize", "()D"⟩
abbrev cX10_isSound : ByteArray := prog_1_method_49_code
def yX10_isSound : MethodName := ⟨RX10, "isSound", "()Z"⟩
abbrev cX10_checkRange : ByteArray := prog_1_method_50_code
def yX10_checkRange : MethodName := ⟨RX10, "checkRange", "(III)V"⟩
abbrev cX10_ordinalAt : ByteArray := prog_1_method_51_code
def yX10_ordinalAt : MethodName := ⟨RX10, "ordinalAt", "(I)LEpsilonhall$Ordinal;"⟩
abbrev cX10_knotOf : ByteArray := prog_1_method_52_code
def yX10_knotOf : MethodName := ⟨RX10, "knotOf", "(LEpsilonhall$Ordinal;I)I"⟩
abbrev cX10_keep : ByteArray := prog_1_method_53_code
def yX10_keep : MethodName := ⟨RX10, "keep", "(LEpsilonhall$Ordinal;)I"⟩
abbrev cX10_reached : ByteArray := prog_1_method_54_code
def yX10_reached : MethodName := ⟨RX10, "reached", "(ZI)I"⟩
abbrev cX10_gameAt : ByteArray := prog_1_method_55_code
def yX10_gameAt : MethodName := ⟨RX10, "gameAt", "(I)LEpsilonhall$Game;"⟩
abbrev cX10_checkRoomForGame : ByteArray := prog_1_method_56_code
def yX10_checkRoomForGame : MethodName := ⟨RX10, "checkRoomForGame", "()V"⟩
abbrev cX10_place : ByteArray := prog_1_method_57_code
def yX10_place : MethodName := ⟨RX10, "place", "(LEpsilonhall$Game;)I"⟩
abbrev cX10_isComparedOneWay : ByteArray := prog_1_method_58_code
def yX10_isComparedOneWay : MethodName := ⟨RX10, "isComparedOneWay", "(LEpsilonhall$Ordinal;I)Z"⟩
def RX11 : String := "EpsilonhallModel$Game"
def TX11 : u_T := fun k => match k with
  | 0 => ("EpsilonhallModel$Game", "kind", "C", true)
  | 1 => ("EpsilonhallModel$Game", "row", "[I", true)
  | 2 => ("EpsilonhallModel$Game", "isGone", "[Z", true)
  | 3 => ("EpsilonhallModel$Game", "many", "I", false)
  | 4 => ("EpsilonhallModel$Game", "moves", "I", false)
  | _ => ("EpsilonhallModel$Game", "number", "J", false)
def tyX11 : Nat → FieldType := fun k => match k with
  | 0 => .char
  | 1 => .array .int
  | 2 => .array .boolean
  | 3 => .int
  | 4 => .int
  | _ => .long
abbrev wsX110 : List Cond := u_ws RX11 TX11 6
theorem nmX11 : ∀ a, a < 6 → ∀ b, b < 6 → a ≠ b → (TX11 a).2.1 ≠ (TX11 b).2.1 := by decide +kernel
theorem tyX11_ok : ∀ k, k < 6 → parseFieldDescriptor (TX11 k).2.2.1 = some (tyX11 k) := by decide +kernel
abbrev cX11_init : ByteArray := prog_14_method_1_code
def yX11_init : MethodName := ⟨RX11, "<init>", "(C)V"⟩
abbrev cX11_isKnot : ByteArray := prog_14_method_2_code
def yX11_isKnot : MethodName := ⟨RX11, "isKnot", "(I)Z"⟩
abbrev cX11_left : ByteArray := prog_14_method_3_code
def yX11_left : MethodName := ⟨RX11, "left", "()I"⟩
abbrev cX11_isHead : ByteArray := prog_14_method_4_code
def yX11_isHead : MethodName := ⟨RX11, "isHead", "(I)Z"⟩
abbrev cX11_isOver : ByteArray := prog_14_method_5_code
def yX11_isOver : MethodName := ⟨RX11, "isOver", "()Z"⟩
abbrev cX11_crawls : ByteArray := prog_14_method_6_code
def yX11_crawls : MethodName := ⟨RX11, "crawls", "()Z"⟩
abbrev cX11_isUnder : ByteArray := prog_14_method_7_code
def yX11_isUnder : MethodName := ⟨RX11, "isUnder", "(II)Z"⟩
abbrev cX11_loses : ByteArray := prog_14_method_8_code
def yX11_loses : MethodName := ⟨RX11, "loses", "(I)Z"⟩
abbrev cX11_rankOf : ByteArray := prog_14_method_9_code
def yX11_rankOf : MethodName := ⟨RX11, "rankOf", "(III)I"⟩
abbrev cX11_counts : ByteArray := prog_14_method_10_code
def yX11_counts : MethodName := ⟨RX11, "counts", "()Z"⟩
abbrev cX11_raised : ByteArray := prog_14_method_11_code
def yX11_raised : MethodName := ⟨RX11, "raised", "(JJ)J"⟩
abbrev cX11_capped : ByteArray := prog_14_method_12_code
def yX11_capped : MethodName := ⟨RX11, "capped", "(J)J"⟩
abbrev cX11_raisedTo : ByteArray := prog_14_method_13_code
def yX11_raisedTo : MethodName := ⟨RX11, "raisedTo", "(JJ)J"⟩
def RX12 : String := "EpsilonhallModel$Ord"
def TX12 : u_T := fun k => match k with
  | 0 => ("EpsilonhallModel$Ord", "exponents", "Ljava/util/ArrayList;", true)
  | _ => ("EpsilonhallModel$Ord", "counts", "Ljava/util/ArrayList;", true)
def tyX12 : Nat → FieldType := fun k => match k with
  | 0 => .object "java/util/ArrayList"
  | _ => .object "java/util/ArrayList"
abbrev wsX120 : List Cond := u_ws RX12 TX12 2
theorem nmX12 : ∀ a, a < 2 → ∀ b, b < 2 → a ≠ b → (TX12 a).2.1 ≠ (TX12 b).2.1 := by decide +kernel
theorem tyX12_ok : ∀ k, k < 2 → parseFieldDescriptor (TX12 k).2.2.1 = some (tyX12 k) := by decide +kernel
abbrev cX12_init : ByteArray := prog_15_method_1_code
def yX12_init : MethodName := ⟨RX12, "<init>", "()V"⟩
abbrev cX12_terms : ByteArray := prog_15_method_2_code
def yX12_terms : MethodName := ⟨RX12, "terms", "()I"⟩
abbrev cX12_exponent : ByteArray := prog_15_method_3_code
def yX12_exponent : MethodName := ⟨RX12, "exponent", "(I)LEpsilonhallModel$Ord;"⟩
abbrev cX12_count : ByteArray := prog_15_method_4_code
def yX12_count : MethodName := ⟨RX12, "count", "(I)J"⟩
abbrev cX12_isZero : ByteArray := prog_15_method_5_code
def yX12_isZero : MethodName := ⟨RX12, "isZero", "()Z"⟩
abbrev cX12_with : ByteArray := prog_15_method_6_code
def yX12_with : MethodName := ⟨RX12, "with", "(LEpsilonhallModel$Ord;J)LEpsilonhallModel$Ord;"⟩
abbrev cX12_behind : ByteArray := prog_15_method_7_code
def yX12_behind : MethodName := ⟨RX12, "behind", "(LEpsilonhallModel$Ord;I)LEpsilonhallModel$Ord;"⟩
abbrev cX12_copy : ByteArray := prog_15_method_8_code
def yX12_copy : MethodName := ⟨RX12, "copy", "()LEpsilonhallModel$Ord;"⟩
abbrev cX12_degree : ByteArray := prog_15_method_9_code
def yX12_degree : MethodName := ⟨RX12, "degree", "()I"⟩
abbrev cX12_size : ByteArray := prog_15_method_10_code
def yX12_size : MethodName := ⟨RX12, "size", "()I"⟩
abbrev cX12_isLimit : ByteArray := prog_15_method_11_code
def yX12_isLimit : MethodName := ⟨RX12, "isLimit", "()Z"⟩
abbrev cX12_hasGreat : ByteArray := prog_15_method_12_code
def yX12_hasGreat : MethodName := ⟨RX12, "hasGreat", "()Z"⟩
abbrev cX12_isGreat : ByteArray := prog_15_method_13_code
def yX12_isGreat : MethodName := ⟨RX12, "isGreat", "()Z"⟩
abbrev cX12_against : ByteArray := prog_15_method_14_code
def yX12_against : MethodName := ⟨RX12, "against", "(LEpsilonhallModel$Ord;)I"⟩
abbrev cX12_lessens : ByteArray := prog_15_method_15_code
def yX12_lessens : MethodName := ⟨RX12, "lessens", "(J)V"⟩
abbrev cX12_goesTo : ByteArray := prog_15_method_16_code
def yX12_goesTo : MethodName := ⟨RX12, "goesTo", "(J)V"⟩
def RX13 : String := "EpsilonhallModel"
def TX13 : u_T := fun k => match k with
  | 0 => ("EpsilonhallModel", "uses", "J", false)
  | 1 => ("EpsilonhallModel", "isWormGreat", "Z", false)
  | 2 => ("EpsilonhallModel", "isAt", "[Z", true)
  | 3 => ("EpsilonhallModel", "isWithin", "[Z", true)
  | 4 => ("EpsilonhallModel", "given", "[I", true)
  | 5 => ("EpsilonhallModel", "isTried", "[Z", true)
  | 6 => ("EpsilonhallModel", "ords", "Ljava/util/ArrayList;", true)
  | 7 => ("EpsilonhallModel", "games", "Ljava/util/ArrayList;", true)
  | 8 => ("EpsilonhallModel", "buffer", "[I", true)
  | 9 => ("EpsilonhallModel", "counters", "[I", true)
  | 10 => ("EpsilonhallModel", "order", "[I", true)
  | 11 => ("EpsilonhallModel", "guards", "[I", true)
  | 12 => ("EpsilonhallModel", "firsts", "[I", true)
  | 13 => ("EpsilonhallModel", "tos", "[I", true)
  | 14 => ("EpsilonhallModel", "seconds", "[I", true)
  | 15 => ("EpsilonhallModel", "toOthers", "[I", true)
  | 16 => ("EpsilonhallModel", "thrown", "I", false)
  | 17 => ("EpsilonhallModel", "put", "I", false)
  | 18 => ("EpsilonhallModel", "steps", "I", false)
  | _ => ("EpsilonhallModel", "rises", "I", false)
def tyX13 : Nat → FieldType := fun k => match k with
  | 0 => .long
  | 1 => .boolean
  | 2 => .array .boolean
  | 3 => .array .boolean
  | 4 => .array .int
  | 5 => .array .boolean
  | 6 => .object "java/util/ArrayList"
  | 7 => .object "java/util/ArrayList"
  | 8 => .array .int
  | 9 => .array .int
  | 10 => .array .int
  | 11 => .array .int
  | 12 => .array .int
  | 13 => .array .int
  | 14 => .array .int
  | 15 => .array .int
  | 16 => .int
  | 17 => .int
  | 18 => .int
  | _ => .int
abbrev wsX130 : List Cond := u_ws RX13 TX13 20
theorem nmX13 : ∀ a, a < 20 → ∀ b, b < 20 → a ≠ b → (TX13 a).2.1 ≠ (TX13 b).2.1 := by decide +kernel
theorem tyX13_ok : ∀ k, k < 20 → parseFieldDescriptor (TX13 k).2.2.1 = some (tyX13 k) := by decide +kernel
abbrev cX13_numeral : ByteArray := prog_13_method_1_code
def yX13_numeral : MethodName := ⟨RX13, "numeral", "(J)LEpsilonhallModel$Ord;"⟩
abbrev cX13_power : ByteArray := prog_13_method_2_code
def yX13_power : MethodName := ⟨RX13, "power", "(LEpsilonhallModel$Ord;J)LEpsilonhallModel$Ord;"⟩
abbrev cX13_plus : ByteArray := prog_13_method_3_code
def yX13_plus : MethodName := ⟨RX13, "plus", "(LEpsilonhallModel$Ord;LEpsilonhallModel$Ord;)LEpsilonhallModel$Ord;"⟩
abbrev cX13_times : ByteArray := prog_13_method_4_code
def yX13_times : MethodName := ⟨RX13, "times", "(LEpsilonhallModel$Ord;LEpsilonhallModel$Ord;)LEpsilonhallModel$Ord;"⟩
abbrev cX13_both : ByteArray := prog_13_method_5_code
def yX13_both : MethodName := ⟨RX13, "both", "(LEpsilonhallModel$Ord;LEpsilonhallModel$Ord;)LEpsilonhallModel$Ord;"⟩
abbrev cX13_allPairs : ByteArray := prog_13_method_6_code
def yX13_allPairs : MethodName := ⟨RX13, "allPairs", "(LEpsilonhallModel$Ord;LEpsilonhallModel$Ord;)LEpsilonhallModel$Ord;"⟩
abbrev cX13_rest : ByteArray := prog_13_method_7_code
def yX13_rest : MethodName := ⟨RX13, "rest", "(LEpsilonhallModel$Ord;LEpsilonhallModel$Ord;)LEpsilonhallModel$Ord;"⟩
abbrev cX13_text : ByteArray := prog_13_method_8_code
def yX13_text : MethodName := ⟨RX13, "text", "(LEpsilonhallModel$Ord;)Ljava/lang/String;"⟩
abbrev cX13_isBeyond : ByteArray := prog_13_method_9_code
def yX13_isBeyond : MethodName := ⟨RX13, "isBeyond", "(J)Z"⟩
abbrev cX13_slowOf : ByteArray := prog_13_method_10_code
def yX13_slowOf : MethodName := ⟨RX13, "slowOf", "(LEpsilonhallModel$Ord;J)J"⟩
abbrev cX13_hardyOf : ByteArray := prog_13_method_11_code
def yX13_hardyOf : MethodName := ⟨RX13, "hardyOf", "(LEpsilonhallModel$Ord;J)J"⟩
abbrev cX13_fastNumber : ByteArray := prog_13_method_12_code
def yX13_fastNumber : MethodName := ⟨RX13, "fastNumber", "(JJ)J"⟩
abbrev cX13_fastFrom : ByteArray := prog_13_method_13_code
def yX13_fastFrom : MethodName := ⟨RX13, "fastFrom", "(LEpsilonhallModel$Ord;J)J"⟩
abbrev cX13_fastOf : ByteArray := prog_13_method_14_code
def yX13_fastOf : MethodName := ⟨RX13, "fastOf", "(LEpsilonhallModel$Ord;J)J"⟩
abbrev cX13_stepsOf : ByteArray := prog_13_method_15_code
def yX13_stepsOf : MethodName := ⟨RX13, "stepsOf", "(LEpsilonhallModel$Ord;J)J"⟩
abbrev cX13_noticed : ByteArray := prog_13_method_16_code
def yX13_noticed : MethodName := ⟨RX13, "noticed", "(LEpsilonhallModel$Ord;)LEpsilonhallModel$Ord;"⟩
abbrev cX13_wormOf : ByteArray := prog_13_method_17_code
def yX13_wormOf : MethodName := ⟨RX13, "wormOf", "([IIII)LEpsilonhallModel$Ord;"⟩
abbrev cX13_hydraOf : ByteArray := prog_13_method_18_code
def yX13_hydraOf : MethodName := ⟨RX13, "hydraOf", "(LEpsilonhallModel$Game;)LEpsilonhallModel$Ord;"⟩
abbrev cX13_basesOf : ByteArray := prog_13_method_19_code
def yX13_basesOf : MethodName := ⟨RX13, "basesOf", "(JJ)LEpsilonhallModel$Ord;"⟩
abbrev cX13_ordinalFor : ByteArray := prog_13_method_20_code
def yX13_ordinalFor : MethodName := ⟨RX13, "ordinalFor", "(LEpsilonhallModel$Game;)LEpsilonhallModel$Ord;"⟩
abbrev cX13_pair : ByteArray := prog_13_method_21_code
def yX13_pair : MethodName := ⟨RX13, "pair", "(II)I"⟩
abbrev cX13_finds : ByteArray := prog_13_method_22_code
def yX13_finds : MethodName := ⟨RX13, "finds", "(LEpsilonhallModel$Game;LEpsilonhallModel$Game;II)Z"⟩
abbrev cX13_embedsAt : ByteArray := prog_13_method_23_code
def yX13_embedsAt : MethodName := ⟨RX13, "embedsAt", "(LEpsilonhallModel$Game;LEpsilonhallModel$Game;II)Z"⟩
abbrev cX13_isWithin : ByteArray := prog_13_method_24_code
def yX13_isWithin : MethodName := ⟨RX13, "isWithin", "(LEpsilonhallModel$Game;LEpsilonhallModel$Game;)Z"⟩
abbrev cX13_init : ByteArray := prog_13_method_25_code
def yX13_init : MethodName := ⟨RX13, "<init>", "()V"⟩
abbrev cX13_thrown : ByteArray := prog_13_method_26_code
def yX13_thrown : MethodName := ⟨RX13, "thrown", "()I"⟩
abbrev cX13_fails : ByteArray := prog_13_method_27_code
def yX13_fails : MethodName := ⟨RX13, "fails", "(I)I"⟩
abbrev cX13_tell : ByteArray := prog_13_method_28_code
def yX13_tell : MethodName := ⟨RX13, "tell", "(I)I"⟩
abbrev cX13_refuses : ByteArray := prog_13_method_29_code
def yX13_refuses : MethodName := ⟨RX13, "refuses", "(I)Z"⟩
abbrev cX13_tells : ByteArray := prog_13_method_30_code
def yX13_tells : MethodName := ⟨RX13, "tells", "(Z)Z"⟩
abbrev cX13_in : ByteArray := prog_13_method_32_code
def yX13_in : MethodName := ⟨RX13, "in", "(JJJ)Z"⟩
abbrev cX13_isOrd : ByteArray := prog_13_method_33_code
def yX13_isOrd : MethodName := ⟨RX13, "isOrd", "(I)Z"⟩
abbrev cX13_adds : ByteArray := prog_13_method_34_code
def yX13_adds : MethodName := ⟨RX13, "adds", "(LEpsilonhallModel$Ord;II)I"⟩
abbrev cX13_number : ByteArray := prog_13_method_35_code
def yX13_number : MethodName := ⟨RX13, "number", "(I)I"⟩
abbrev cX13_term : ByteArray := prog_13_method_36_code
def yX13_term : MethodName := ⟨RX13, "term", "(II)I"⟩
abbrev cX13_sum : ByteArray := prog_13_method_37_code
def yX13_sum : MethodName := ⟨RX13, "sum", "(II)I"⟩
abbrev cX13_product : ByteArray := prog_13_method_38_code
def yX13_product : MethodName := ⟨RX13, "product", "(II)I"⟩
abbrev cX13_naturalSum : ByteArray := prog_13_method_39_code
def yX13_naturalSum : MethodName := ⟨RX13, "naturalSum", "(II)I"⟩
abbrev cX13_naturalProduct : ByteArray := prog_13_method_40_code
def yX13_naturalProduct : MethodName := ⟨RX13, "naturalProduct", "(II)I"⟩
abbrev cX13_takeOff : ByteArray := prog_13_method_41_code
def yX13_takeOff : MethodName := ⟨RX13, "takeOff", "(II)I"⟩
abbrev cX13_row : ByteArray := prog_13_method_42_code
def yX13_row : MethodName := ⟨RX13, "row", "(II)I"⟩
abbrev cX13_ordinals : ByteArray := prog_13_method_43_code
def yX13_ordinals : MethodName := ⟨RX13, "ordinals", "()I"⟩
abbrev cX13_compare : ByteArray := prog_13_method_44_code
def yX13_compare : MethodName := ⟨RX13, "compare", "(II)C"⟩
abbrev cX13_degree : ByteArray := prog_13_method_45_code
def yX13_degree : MethodName := ⟨RX13, "degree", "(I)I"⟩
abbrev cX13_size : ByteArray := prog_13_method_46_code
def yX13_size : MethodName := ⟨RX13, "size", "(I)I"⟩
abbrev cX13_isLimit : ByteArray := prog_13_method_47_code
def yX13_isLimit : MethodName := ⟨RX13, "isLimit", "(I)Z"⟩
abbrev cX13_terms : ByteArray := prog_13_method_48_code
def yX13_terms : MethodName := ⟨RX13, "terms", "(I)I"⟩
abbrev cX13_isTerm : ByteArray := prog_13_method_49_code
def yX13_isTerm : MethodName := ⟨RX13, "isTerm", "(II)Z"⟩
abbrev cX13_countOf : ByteArray := prog_13_method_50_code
def yX13_countOf : MethodName := ⟨RX13, "countOf", "(II)I"⟩
abbrev cX13_exponentOf : ByteArray := prog_13_method_51_code
def yX13_exponentOf : MethodName := ⟨RX13, "exponentOf", "(II)I"⟩
abbrev cX13_length : ByteArray := prog_13_method_52_code
def yX13_length : MethodName := ⟨RX13, "length", "(I)I"⟩
abbrev cX13_signAt : ByteArray := prog_13_method_53_code
def yX13_signAt : MethodName := ⟨RX13, "signAt", "(II)C"⟩
abbrev cX13_told : ByteArray := prog_13_method_54_code
def yX13_told : MethodName := ⟨RX13, "told", "(J)I"⟩
abbrev cX13_isAsked : ByteArray := prog_13_method_55_code
def yX13_isAsked : MethodName := ⟨RX13, "isAsked", "(III)Z"⟩
abbrev cX13_slow : ByteArray := prog_13_method_56_code
def yX13_slow : MethodName := ⟨RX13, "slow", "(II)I"⟩
abbrev cX13_hardy : ByteArray := prog_13_method_57_code
def yX13_hardy : MethodName := ⟨RX13, "hardy", "(II)I"⟩
abbrev cX13_fast : ByteArray := prog_13_method_58_code
def yX13_fast : MethodName := ⟨RX13, "fast", "(II)I"⟩
abbrev cX13_stepsDown : ByteArray := prog_13_method_59_code
def yX13_stepsDown : MethodName := ⟨RX13, "stepsDown", "(II)I"⟩
abbrev cX13_put : ByteArray := prog_13_method_60_code
def yX13_put : MethodName := ⟨RX13, "put", "(I)I"⟩
abbrev cX13_plays : ByteArray := prog_13_method_61_code
def yX13_plays : MethodName := ⟨RX13, "plays", "(LEpsilonhallModel$Game;)I"⟩
abbrev cX13_worm : ByteArray := prog_13_method_62_code
def yX13_worm : MethodName := ⟨RX13, "worm", "()I"⟩
abbrev cX13_hydra : ByteArray := prog_13_method_63_code
def yX13_hydra : MethodName := ⟨RX13, "hydra", "()I"⟩
abbrev cX13_bases : ByteArray := prog_13_method_64_code
def yX13_bases : MethodName := ⟨RX13, "bases", "(I)I"⟩
abbrev cX13_isGame : ByteArray := prog_13_method_65_code
def yX13_isGame : MethodName := ⟨RX13, "isGame", "(I)Z"⟩
abbrev cX13_kindOf : ByteArray := prog_13_method_66_code
def yX13_kindOf : MethodName := ⟨RX13, "kindOf", "(I)C"⟩
abbrev cX13_isOver : ByteArray := prog_13_method_67_code
def yX13_isOver : MethodName := ⟨RX13, "isOver", "(I)Z"⟩
abbrev cX13_moves : ByteArray := prog_13_method_68_code
def yX13_moves : MethodName := ⟨RX13, "moves", "(I)I"⟩
abbrev cX13_measure : ByteArray := prog_13_method_69_code
def yX13_measure : MethodName := ⟨RX13, "measure", "(I)J"⟩
abbrev cX13_at : ByteArray := prog_13_method_70_code
def yX13_at : MethodName := ⟨RX13, "at", "(II)I"⟩
abbrev cX13_isMoved : ByteArray := prog_13_method_71_code
def yX13_isMoved : MethodName := ⟨RX13, "isMoved", "(LEpsilonhallModel$Game;I)Z"⟩
abbrev cX13_move : ByteArray := prog_13_method_72_code
def yX13_move : MethodName := ⟨RX13, "move", "(I)Z"⟩
abbrev cX13_cut : ByteArray := prog_13_method_73_code
def yX13_cut : MethodName := ⟨RX13, "cut", "(II)Z"⟩
abbrev cX13_play : ByteArray := prog_13_method_74_code
def yX13_play : MethodName := ⟨RX13, "play", "(II)I"⟩
abbrev cX13_ordinalOf : ByteArray := prog_13_method_75_code
def yX13_ordinalOf : MethodName := ⟨RX13, "ordinalOf", "(I)I"⟩
abbrev cX13_falls : ByteArray := prog_13_method_76_code
def yX13_falls : MethodName := ⟨RX13, "falls", "(I)Z"⟩
abbrev cX13_embeds : ByteArray := prog_13_method_77_code
def yX13_embeds : MethodName := ⟨RX13, "embeds", "(II)Z"⟩
abbrev cX13_isCounter : ByteArray := prog_13_method_78_code
def yX13_isCounter : MethodName := ⟨RX13, "isCounter", "(I)Z"⟩
abbrev cX13_setCounter : ByteArray := prog_13_method_79_code
def yX13_setCounter : MethodName := ⟨RX13, "setCounter", "(II)I"⟩
abbrev cX13_addStep : ByteArray := prog_13_method_80_code
def yX13_addStep : MethodName := ⟨RX13, "addStep", "(IIIII)I"⟩
abbrev cX13_setOrder : ByteArray := prog_13_method_81_code
def yX13_setOrder : MethodName := ⟨RX13, "setOrder", "(I)I"⟩
abbrev cX13_valueTold : ByteArray := prog_13_method_82_code
def yX13_valueTold : MethodName := ⟨RX13, "valueTold", "(IIIII)I"⟩
abbrev cX13_isRound : ByteArray := prog_13_method_83_code
def yX13_isRound : MethodName := ⟨RX13, "isRound", "()Z"⟩
abbrev cX13_run : ByteArray := prog_13_method_84_code
def yX13_run : MethodName := ⟨RX13, "run", "(I)I"⟩
abbrev cX13_counter : ByteArray := prog_13_method_85_code
def yX13_counter : MethodName := ⟨RX13, "counter", "(I)I"⟩
abbrev cX13_placeOf : ByteArray := prog_13_method_86_code
def yX13_placeOf : MethodName := ⟨RX13, "placeOf", "(I)I"⟩
abbrev cX13_holds : ByteArray := prog_13_method_87_code
def yX13_holds : MethodName := ⟨RX13, "holds", "(I)Z"⟩
abbrev cX13_value : ByteArray := prog_13_method_88_code
def yX13_value : MethodName := ⟨RX13, "value", "()I"⟩
abbrev cX13_rises : ByteArray := prog_13_method_89_code
def yX13_rises : MethodName := ⟨RX13, "rises", "()I"⟩
abbrev cX13_overShare : ByteArray := prog_13_method_90_code
def yX13_overShare : MethodName := ⟨RX13, "overShare", "()F"⟩
abbrev cX13_meanSize : ByteArray := prog_13_method_91_code
def yX13_meanSize : MethodName := ⟨RX13, "meanSize", "()D"⟩
abbrev cX13_isSound : ByteArray := prog_13_method_92_code
def yX13_isSound : MethodName := ⟨RX13, "isSound", "()Z"⟩
def RJx145de : String := "java/io/Serializable"
def TJx145de : u_T := fun k => match k with
  | _ => ("", "", "", false)
def tyJx145de : Nat → FieldType := fun k => match k with
  | _ => .int
abbrev wsJx145de0 : List Cond := u_ws RJx145de TJx145de 0
theorem nmJx145de : ∀ a, a < 0 → ∀ b, b < 0 → a ≠ b → (TJx145de a).2.1 ≠ (TJx145de b).2.1 := by decide +kernel
theorem tyJx145de_ok : ∀ k, k < 0 → parseFieldDescriptor (TJx145de k).2.2.1 = some (tyJx145de k) := by decide +kernel
def RJ5 : String := "java/lang/AbstractStringBuilder"
def TJ5 : u_T := fun k => match k with
  | _ => ("", "", "", false)
def tyJ5 : Nat → FieldType := fun k => match k with
  | _ => .int
abbrev wsJ50 : List Cond := u_ws RJ5 TJ5 0
theorem nmJ5 : ∀ a, a < 0 → ∀ b, b < 0 → a ≠ b → (TJ5 a).2.1 ≠ (TJ5 b).2.1 := by decide +kernel
theorem tyJ5_ok : ∀ k, k < 0 → parseFieldDescriptor (TJ5 k).2.2.1 = some (tyJ5 k) := by decide +kernel
abbrev cJ5_init_d00df : ByteArray := prog_17_method_2_code
def yJ5_init_d00df : MethodName := ⟨RJ5, "<init>", "(I)V"⟩
abbrev cJ5_length_8abf5 : ByteArray := prog_17_method_6_code
def yJ5_length_8abf5 : MethodName := ⟨RJ5, "length", "()I"⟩
abbrev cJ5_ensureCapacityInternal_d00df : ByteArray := prog_17_method_9_code
def yJ5_ensureCapacityInternal_d00df : MethodName := ⟨RJ5, "ensureCapacityInternal", "(I)V"⟩
abbrev cJ5_newCapacity_0f7a4 : ByteArray := prog_17_method_10_code
def yJ5_newCapacity_0f7a4 : MethodName := ⟨RJ5, "newCapacity", "(I)I"⟩
abbrev cJ5_inflate_da8c8 : ByteArray := prog_17_method_11_code
def yJ5_inflate_da8c8 : MethodName := ⟨RJ5, "inflate", "()V"⟩
abbrev cJ5_append_cf1ce : ByteArray := prog_17_method_22_code
def yJ5_append_cf1ce : MethodName := ⟨RJ5, "append", "(Ljava/lang/String;)Ljava/lang/AbstractStringBuilder;"⟩
abbrev cJ5_appendNull_278bc : ByteArray := prog_17_method_26_code
def yJ5_appendNull_278bc : MethodName := ⟨RJ5, "appendNull", "()Ljava/lang/AbstractStringBuilder;"⟩
abbrev cJ5_append_c97b9 : ByteArray := prog_17_method_32_code
def yJ5_append_c97b9 : MethodName := ⟨RJ5, "append", "(I)Ljava/lang/AbstractStringBuilder;"⟩
abbrev cJ5_append_66267 : ByteArray := prog_17_method_33_code
def yJ5_append_66267 : MethodName := ⟨RJ5, "append", "(J)Ljava/lang/AbstractStringBuilder;"⟩
abbrev cJ5_getValue_6d5f1 : ByteArray := prog_17_method_64_code
def yJ5_getValue_6d5f1 : MethodName := ⟨RJ5, "getValue", "()[B"⟩
abbrev cJ5_isLatin1_aae02 : ByteArray := prog_17_method_68_code
def yJ5_isLatin1_aae02 : MethodName := ⟨RJ5, "isLatin1", "()Z"⟩
abbrev cJ5_inflateIfNeededFor_a7421 : ByteArray := prog_17_method_71_code
def yJ5_inflateIfNeededFor_a7421 : MethodName := ⟨RJ5, "inflateIfNeededFor", "(Ljava/lang/String;)V"⟩
abbrev cJ5_putStringAt_47b60 : ByteArray := prog_17_method_73_code
def yJ5_putStringAt_47b60 : MethodName := ⟨RJ5, "putStringAt", "(ILjava/lang/String;)V"⟩
def RJx2cfe8 : String := "java/lang/Appendable"
def TJx2cfe8 : u_T := fun k => match k with
  | _ => ("", "", "", false)
def tyJx2cfe8 : Nat → FieldType := fun k => match k with
  | _ => .int
abbrev wsJx2cfe80 : List Cond := u_ws RJx2cfe8 TJx2cfe8 0
theorem nmJx2cfe8 : ∀ a, a < 0 → ∀ b, b < 0 → a ≠ b → (TJx2cfe8 a).2.1 ≠ (TJx2cfe8 b).2.1 := by decide +kernel
theorem tyJx2cfe8_ok : ∀ k, k < 0 → parseFieldDescriptor (TJx2cfe8 k).2.2.1 = some (tyJx2cfe8 k) := by decide +kernel
def RJx9f9b0 : String := "java/lang/CharSequence"
def TJx9f9b0 : u_T := fun k => match k with
  | _ => ("", "", "", false)
def tyJx9f9b0 : Nat → FieldType := fun k => match k with
  | _ => .int
abbrev wsJx9f9b00 : List Cond := u_ws RJx9f9b0 TJx9f9b0 0
theorem nmJx9f9b0 : ∀ a, a < 0 → ∀ b, b < 0 → a ≠ b → (TJx9f9b0 a).2.1 ≠ (TJx9f9b0 b).2.1 := by decide +kernel
theorem tyJx9f9b0_ok : ∀ k, k < 0 → parseFieldDescriptor (TJx9f9b0 k).2.2.1 = some (tyJx9f9b0 k) := by decide +kernel
def RJx8e188 : String := "java/lang/Cloneable"
def TJx8e188 : u_T := fun k => match k with
  | _ => ("", "", "", false)
def tyJx8e188 : Nat → FieldType := fun k => match k with
  | _ => .int
abbrev wsJx8e1880 : List Cond := u_ws RJx8e188 TJx8e188 0
theorem nmJx8e188 : ∀ a, a < 0 → ∀ b, b < 0 → a ≠ b → (TJx8e188 a).2.1 ≠ (TJx8e188 b).2.1 := by decide +kernel
theorem tyJx8e188_ok : ∀ k, k < 0 → parseFieldDescriptor (TJx8e188 k).2.2.1 = some (tyJx8e188 k) := by decide +kernel
def RJxb160c : String := "java/lang/Comparable"
def TJxb160c : u_T := fun k => match k with
  | _ => ("", "", "", false)
def tyJxb160c : Nat → FieldType := fun k => match k with
  | _ => .int
abbrev wsJxb160c0 : List Cond := u_ws RJxb160c TJxb160c 0
theorem nmJxb160c : ∀ a, a < 0 → ∀ b, b < 0 → a ≠ b → (TJxb160c a).2.1 ≠ (TJxb160c b).2.1 := by decide +kernel
theorem tyJxb160c_ok : ∀ k, k < 0 → parseFieldDescriptor (TJxb160c k).2.2.1 = some (tyJxb160c k) := by decide +kernel
def RJ6 : String := "java/lang/Integer"
def TJ6 : u_T := fun k => match k with
  | _ => ("", "", "", false)
def tyJ6 : Nat → FieldType := fun k => match k with
  | _ => .int
abbrev wsJ60 : List Cond := u_ws RJ6 TJ6 0
theorem nmJ6 : ∀ a, a < 0 → ∀ b, b < 0 → a ≠ b → (TJ6 a).2.1 ≠ (TJ6 b).2.1 := by decide +kernel
theorem tyJ6_ok : ∀ k, k < 0 → parseFieldDescriptor (TJ6 k).2.2.1 = some (tyJ6 k) := by decide +kernel
abbrev cJ6_getChars_ba4f3 : ByteArray := prog_26_method_12_code
def yJ6_getChars_ba4f3 : MethodName := ⟨RJ6, "getChars", "(II[B)I"⟩
abbrev cJ6_stringSize_0f7a4 : ByteArray := prog_26_method_13_code
def yJ6_stringSize_0f7a4 : MethodName := ⟨RJ6, "stringSize", "(I)I"⟩
def RJxab1ab : String := "java/lang/Iterable"
def TJxab1ab : u_T := fun k => match k with
  | _ => ("", "", "", false)
def tyJxab1ab : Nat → FieldType := fun k => match k with
  | _ => .int
abbrev wsJxab1ab0 : List Cond := u_ws RJxab1ab TJxab1ab 0
theorem nmJxab1ab : ∀ a, a < 0 → ∀ b, b < 0 → a ≠ b → (TJxab1ab a).2.1 ≠ (TJxab1ab b).2.1 := by decide +kernel
theorem tyJxab1ab_ok : ∀ k, k < 0 → parseFieldDescriptor (TJxab1ab k).2.2.1 = some (tyJxab1ab k) := by decide +kernel
def RJxdb0fc : String := "java/lang/Long$LongCache"
def TJxdb0fc : u_T := fun k => match k with
  | _ => ("", "", "", false)
def tyJxdb0fc : Nat → FieldType := fun k => match k with
  | _ => .int
abbrev wsJxdb0fc0 : List Cond := u_ws RJxdb0fc TJxdb0fc 0
theorem nmJxdb0fc : ∀ a, a < 0 → ∀ b, b < 0 → a ≠ b → (TJxdb0fc a).2.1 ≠ (TJxdb0fc b).2.1 := by decide +kernel
theorem tyJxdb0fc_ok : ∀ k, k < 0 → parseFieldDescriptor (TJxdb0fc k).2.2.1 = some (tyJxdb0fc k) := by decide +kernel
def RJ13 : String := "java/lang/Long"
def TJ13 : u_T := fun k => match k with
  | _ => ("java/lang/Long", "value", "J", true)
def tyJ13 : Nat → FieldType := fun k => match k with
  | _ => .long
abbrev wsJ130 : List Cond := u_ws RJ13 TJ13 1
theorem nmJ13 : ∀ a, a < 1 → ∀ b, b < 1 → a ≠ b → (TJ13 a).2.1 ≠ (TJ13 b).2.1 := by decide +kernel
theorem tyJ13_ok : ∀ k, k < 1 → parseFieldDescriptor (TJ13 k).2.2.1 = some (tyJ13 k) := by decide +kernel
abbrev cJ13_getChars_11360 : ByteArray := prog_28_method_14_code
def yJ13_getChars_11360 : MethodName := ⟨RJ13, "getChars", "(JI[B)I"⟩
abbrev cJ13_stringSize_95d88 : ByteArray := prog_28_method_15_code
def yJ13_stringSize_95d88 : MethodName := ⟨RJ13, "stringSize", "(J)I"⟩
abbrev cJ13_valueOf_928b6 : ByteArray := prog_28_method_24_code
def yJ13_valueOf_928b6 : MethodName := ⟨RJ13, "valueOf", "(J)Ljava/lang/Long;"⟩
abbrev cJ13_init_e45a9 : ByteArray := prog_28_method_26_code
def yJ13_init_e45a9 : MethodName := ⟨RJ13, "<init>", "(J)V"⟩
abbrev cJ13_longValue_f9912 : ByteArray := prog_28_method_31_code
def yJ13_longValue_f9912 : MethodName := ⟨RJ13, "longValue", "()J"⟩
def RJ9 : String := "java/lang/Math"
def TJ9 : u_T := fun k => match k with
  | _ => ("", "", "", false)
def tyJ9 : Nat → FieldType := fun k => match k with
  | _ => .int
abbrev wsJ90 : List Cond := u_ws RJ9 TJ9 0
theorem nmJ9 : ∀ a, a < 0 → ∀ b, b < 0 → a ≠ b → (TJ9 a).2.1 ≠ (TJ9 b).2.1 := by decide +kernel
theorem tyJ9_ok : ∀ k, k < 0 → parseFieldDescriptor (TJ9 k).2.2.1 = some (tyJ9 k) := by decide +kernel
abbrev cJ9_max_7cf53 : ByteArray := prog_30_method_65_code
def yJ9_max_7cf53 : MethodName := ⟨RJ9, "max", "(II)I"⟩
abbrev cJ9_min_7cf53 : ByteArray := prog_30_method_69_code
def yJ9_min_7cf53 : MethodName := ⟨RJ9, "min", "(II)I"⟩
def RJxd2413 : String := "java/lang/Number"
def TJxd2413 : u_T := fun k => match k with
  | _ => ("", "", "", false)
def tyJxd2413 : Nat → FieldType := fun k => match k with
  | _ => .int
abbrev wsJxd24130 : List Cond := u_ws RJxd2413 TJxd2413 0
theorem nmJxd2413 : ∀ a, a < 0 → ∀ b, b < 0 → a ≠ b → (TJxd2413 a).2.1 ≠ (TJxd2413 b).2.1 := by decide +kernel
theorem tyJxd2413_ok : ∀ k, k < 0 → parseFieldDescriptor (TJxd2413 k).2.2.1 = some (tyJxd2413 k) := by decide +kernel
abbrev cJxd2413_init_da8c8 : ByteArray := prog_31_method_1_code
def yJxd2413_init_da8c8 : MethodName := ⟨RJxd2413, "<init>", "()V"⟩
def RJ0 : String := "java/lang/String"
def TJ0 : u_T := fun k => match k with
  | 0 => ("java/lang/String", "value", "[B", true)
  | 1 => ("java/lang/String", "coder", "B", true)
  | 2 => ("java/lang/String", "hash", "I", false)
  | _ => ("java/lang/String", "hashIsZero", "Z", false)
def tyJ0 : Nat → FieldType := fun k => match k with
  | 0 => .array .byte
  | 1 => .byte
  | 2 => .int
  | _ => .boolean
abbrev wsJ00 : List Cond := u_ws RJ0 TJ0 4
theorem nmJ0 : ∀ a, a < 4 → ∀ b, b < 4 → a ≠ b → (TJ0 a).2.1 ≠ (TJ0 b).2.1 := by decide +kernel
theorem tyJ0_ok : ∀ k, k < 4 → parseFieldDescriptor (TJ0 k).2.2.1 = some (tyJ0 k) := by decide +kernel
abbrev cJ0_init_81219 : ByteArray := prog_33_method_53_code
def yJ0_init_81219 : MethodName := ⟨RJ0, "<init>", "(Ljava/lang/StringBuilder;)V"⟩
abbrev cJ0_length_8abf5 : ByteArray := prog_33_method_54_code
def yJ0_length_8abf5 : MethodName := ⟨RJ0, "length", "()I"⟩
abbrev cJ0_charAt_5068e : ByteArray := prog_33_method_56_code
def yJ0_charAt_5068e : MethodName := ⟨RJ0, "charAt", "(I)C"⟩
abbrev cJ0_getBytes_840e7 : ByteArray := prog_33_method_147_code
def yJ0_getBytes_840e7 : MethodName := ⟨RJ0, "getBytes", "([BIB)V"⟩
abbrev cJ0_init_db425 : ByteArray := prog_33_method_150_code
def yJ0_init_db425 : MethodName := ⟨RJ0, "<init>", "(Ljava/lang/AbstractStringBuilder;Ljava/lang/Void;)V"⟩
abbrev cJ0_coder_7d493 : ByteArray := prog_33_method_152_code
def yJ0_coder_7d493 : MethodName := ⟨RJ0, "coder", "()B"⟩
abbrev cJ0_isLatin1_aae02 : ByteArray := prog_33_method_154_code
def yJ0_isLatin1_aae02 : MethodName := ⟨RJ0, "isLatin1", "()Z"⟩
abbrev cJ0_checkIndex_df160 : ByteArray := prog_33_method_155_code
def yJ0_checkIndex_df160 : MethodName := ⟨RJ0, "checkIndex", "(II)V"⟩
abbrev cJ0_checkBoundsOffCount_cabcc : ByteArray := prog_33_method_157_code
def yJ0_checkBoundsOffCount_cabcc : MethodName := ⟨RJ0, "checkBoundsOffCount", "(III)I"⟩
abbrev cJ0_checkBoundsBeginEnd_23922 : ByteArray := prog_33_method_158_code
def yJ0_checkBoundsBeginEnd_23922 : MethodName := ⟨RJ0, "checkBoundsBeginEnd", "(III)V"⟩
def RJ4 : String := "java/lang/StringBuilder"
def TJ4 : u_T := fun k => match k with
  | 0 => ("java/lang/AbstractStringBuilder", "value", "[B", false)
  | 1 => ("java/lang/AbstractStringBuilder", "coder", "B", false)
  | 2 => ("java/lang/AbstractStringBuilder", "maybeLatin1", "Z", false)
  | _ => ("java/lang/AbstractStringBuilder", "count", "I", false)
def tyJ4 : Nat → FieldType := fun k => match k with
  | 0 => .array .byte
  | 1 => .byte
  | 2 => .boolean
  | _ => .int
abbrev wsJ40 : List Cond := u_ws RJ4 TJ4 4
theorem nmJ4 : ∀ a, a < 4 → ∀ b, b < 4 → a ≠ b → (TJ4 a).2.1 ≠ (TJ4 b).2.1 := by decide +kernel
theorem tyJ4_ok : ∀ k, k < 4 → parseFieldDescriptor (TJ4 k).2.2.1 = some (tyJ4 k) := by decide +kernel
abbrev cJ4_init_da8c8 : ByteArray := prog_34_method_1_code
def yJ4_init_da8c8 : MethodName := ⟨RJ4, "<init>", "()V"⟩
abbrev cJ4_append_15ec4 : ByteArray := prog_34_method_7_code
def yJ4_append_15ec4 : MethodName := ⟨RJ4, "append", "(Ljava/lang/String;)Ljava/lang/StringBuilder;"⟩
abbrev cJ4_append_bf812 : ByteArray := prog_34_method_15_code
def yJ4_append_bf812 : MethodName := ⟨RJ4, "append", "(I)Ljava/lang/StringBuilder;"⟩
abbrev cJ4_append_f7089 : ByteArray := prog_34_method_16_code
def yJ4_append_f7089 : MethodName := ⟨RJ4, "append", "(J)Ljava/lang/StringBuilder;"⟩
abbrev cJ4_toString_0e30d : ByteArray := prog_34_method_42_code
def yJ4_toString_0e30d : MethodName := ⟨RJ4, "toString", "()Ljava/lang/String;"⟩
abbrev cJ4_length_8abf5 : ByteArray := prog_34_method_93_code
def yJ4_length_8abf5 : MethodName := ⟨RJ4, "length", "()I"⟩
def RJ1 : String := "java/lang/StringLatin1"
def TJ1 : u_T := fun k => match k with
  | _ => ("", "", "", false)
def tyJ1 : Nat → FieldType := fun k => match k with
  | _ => .int
abbrev wsJ10 : List Cond := u_ws RJ1 TJ1 0
theorem nmJ1 : ∀ a, a < 0 → ∀ b, b < 0 → a ≠ b → (TJ1 a).2.1 ≠ (TJ1 b).2.1 := by decide +kernel
theorem tyJ1_ok : ∀ k, k < 0 → parseFieldDescriptor (TJ1 k).2.2.1 = some (tyJ1 k) := by decide +kernel
abbrev cJ1_charAt_3b067 : ByteArray := prog_35_method_2_code
def yJ1_charAt_3b067 : MethodName := ⟨RJ1, "charAt", "([BI)C"⟩
abbrev cJ1_inflate_0e8fd : ByteArray := prog_35_method_50_code
def yJ1_inflate_0e8fd : MethodName := ⟨RJ1, "inflate", "([BI[BII)V"⟩
def RJ2 : String := "java/lang/StringUTF16"
def TJ2 : u_T := fun k => match k with
  | _ => ("", "", "", false)
def tyJ2 : Nat → FieldType := fun k => match k with
  | _ => .int
abbrev wsJ20 : List Cond := u_ws RJ2 TJ2 0
theorem nmJ2 : ∀ a, a < 0 → ∀ b, b < 0 → a ≠ b → (TJ2 a).2.1 ≠ (TJ2 b).2.1 := by decide +kernel
theorem tyJ2_ok : ∀ k, k < 0 → parseFieldDescriptor (TJ2 k).2.2.1 = some (tyJ2 k) := by decide +kernel
abbrev cJ2_newBytesFor_77867 : ByteArray := prog_36_method_2_code
def yJ2_newBytesFor_77867 : MethodName := ⟨RJ2, "newBytesFor", "(I)[B"⟩
abbrev cJ2_newBytesLength_0f7a4 : ByteArray := prog_36_method_3_code
def yJ2_newBytesLength_0f7a4 : MethodName := ⟨RJ2, "newBytesLength", "(I)I"⟩
abbrev cJ2_putChar_b72d1 : ByteArray := prog_36_method_4_code
def yJ2_putChar_b72d1 : MethodName := ⟨RJ2, "putChar", "([BII)V"⟩
abbrev cJ2_getChar_3b067 : ByteArray := prog_36_method_5_code
def yJ2_getChar_3b067 : MethodName := ⟨RJ2, "getChar", "([BI)C"⟩
abbrev cJ2_length_9d52b : ByteArray := prog_36_method_6_code
def yJ2_length_9d52b : MethodName := ⟨RJ2, "length", "([B)I"⟩
abbrev cJ2_coderFromArrayLen_85cad : ByteArray := prog_36_method_15_code
def yJ2_coderFromArrayLen_85cad : MethodName := ⟨RJ2, "coderFromArrayLen", "([BI)B"⟩
abbrev cJ2_compress_39247 : ByteArray := prog_36_method_17_code
def yJ2_compress_39247 : MethodName := ⟨RJ2, "compress", "([BII)[B"⟩
abbrev cJ2_compress_5af95 : ByteArray := prog_36_method_22_code
def yJ2_compress_5af95 : MethodName := ⟨RJ2, "compress", "([BI[BII)I"⟩
abbrev cJ2_getChars_46870 : ByteArray := prog_36_method_77_code
def yJ2_getChars_46870 : MethodName := ⟨RJ2, "getChars", "(III[B)I"⟩
abbrev cJ2_getChars_1ba55 : ByteArray := prog_36_method_78_code
def yJ2_getChars_1ba55 : MethodName := ⟨RJ2, "getChars", "(JII[B)I"⟩
abbrev cJ2_putCharsAt_cd4e5 : ByteArray := prog_36_method_81_code
def yJ2_putCharsAt_cd4e5 : MethodName := ⟨RJ2, "putCharsAt", "([BICCCC)I"⟩
abbrev cJ2_charAt_3b067 : ByteArray := prog_36_method_83_code
def yJ2_charAt_3b067 : MethodName := ⟨RJ2, "charAt", "([BI)C"⟩
abbrev cJ2_inflate_0e8fd : ByteArray := prog_36_method_86_code
def yJ2_inflate_0e8fd : MethodName := ⟨RJ2, "inflate", "([BI[BII)V"⟩
abbrev cJ2_getChars_ba4f3 : ByteArray := prog_36_method_89_code
def yJ2_getChars_ba4f3 : MethodName := ⟨RJ2, "getChars", "(II[B)I"⟩
abbrev cJ2_getChars_11360 : ByteArray := prog_36_method_90_code
def yJ2_getChars_11360 : MethodName := ⟨RJ2, "getChars", "(JI[B)I"⟩
abbrev cJ2_checkIndex_2214a : ByteArray := prog_36_method_91_code
def yJ2_checkIndex_2214a : MethodName := ⟨RJ2, "checkIndex", "(I[B)V"⟩
abbrev cJ2_checkBoundsBeginEnd_d044e : ByteArray := prog_36_method_93_code
def yJ2_checkBoundsBeginEnd_d044e : MethodName := ⟨RJ2, "checkBoundsBeginEnd", "(II[B)V"⟩
abbrev cJ2_checkBoundsOffCount_d044e : ByteArray := prog_36_method_94_code
def yJ2_checkBoundsOffCount_d044e : MethodName := ⟨RJ2, "checkBoundsOffCount", "(II[B)V"⟩
def RJ10 : String := "java/lang/System"
def TJ10 : u_T := fun k => match k with
  | _ => ("", "", "", false)
def tyJ10 : Nat → FieldType := fun k => match k with
  | _ => .int
abbrev wsJ100 : List Cond := u_ws RJ10 TJ10 0
theorem nmJ10 : ∀ a, a < 0 → ∀ b, b < 0 → a ≠ b → (TJ10 a).2.1 ≠ (TJ10 b).2.1 := by decide +kernel
theorem tyJ10_ok : ∀ k, k < 0 → parseFieldDescriptor (TJ10 k).2.2.1 = some (tyJ10 k) := by decide +kernel
def RJxfd54e : String := "java/lang/constant/Constable"
def TJxfd54e : u_T := fun k => match k with
  | _ => ("", "", "", false)
def tyJxfd54e : Nat → FieldType := fun k => match k with
  | _ => .int
abbrev wsJxfd54e0 : List Cond := u_ws RJxfd54e TJxfd54e 0
theorem nmJxfd54e : ∀ a, a < 0 → ∀ b, b < 0 → a ≠ b → (TJxfd54e a).2.1 ≠ (TJxfd54e b).2.1 := by decide +kernel
theorem tyJxfd54e_ok : ∀ k, k < 0 → parseFieldDescriptor (TJxfd54e k).2.2.1 = some (tyJxfd54e k) := by decide +kernel
def RJx3cf43 : String := "java/lang/constant/ConstantDesc"
def TJx3cf43 : u_T := fun k => match k with
  | _ => ("", "", "", false)
def tyJx3cf43 : Nat → FieldType := fun k => match k with
  | _ => .int
abbrev wsJx3cf430 : List Cond := u_ws RJx3cf43 TJx3cf43 0
theorem nmJx3cf43 : ∀ a, a < 0 → ∀ b, b < 0 → a ≠ b → (TJx3cf43 a).2.1 ≠ (TJx3cf43 b).2.1 := by decide +kernel
theorem tyJx3cf43_ok : ∀ k, k < 0 → parseFieldDescriptor (TJx3cf43 k).2.2.1 = some (tyJx3cf43 k) := by decide +kernel
def RJxa1e45 : String := "java/util/AbstractCollection"
def TJxa1e45 : u_T := fun k => match k with
  | _ => ("", "", "", false)
def tyJxa1e45 : Nat → FieldType := fun k => match k with
  | _ => .int
abbrev wsJxa1e450 : List Cond := u_ws RJxa1e45 TJxa1e45 0
theorem nmJxa1e45 : ∀ a, a < 0 → ∀ b, b < 0 → a ≠ b → (TJxa1e45 a).2.1 ≠ (TJxa1e45 b).2.1 := by decide +kernel
theorem tyJxa1e45_ok : ∀ k, k < 0 → parseFieldDescriptor (TJxa1e45 k).2.2.1 = some (tyJxa1e45 k) := by decide +kernel
abbrev cJxa1e45_init_da8c8 : ByteArray := prog_42_method_1_code
def yJxa1e45_init_da8c8 : MethodName := ⟨RJxa1e45, "<init>", "()V"⟩
def RJxc12de : String := "java/util/AbstractList"
def TJxc12de : u_T := fun k => match k with
  | _ => ("", "", "", false)
def tyJxc12de : Nat → FieldType := fun k => match k with
  | _ => .int
abbrev wsJxc12de0 : List Cond := u_ws RJxc12de TJxc12de 0
theorem nmJxc12de : ∀ a, a < 0 → ∀ b, b < 0 → a ≠ b → (TJxc12de a).2.1 ≠ (TJxc12de b).2.1 := by decide +kernel
theorem tyJxc12de_ok : ∀ k, k < 0 → parseFieldDescriptor (TJxc12de k).2.2.1 = some (tyJxc12de k) := by decide +kernel
abbrev cJxc12de_init_da8c8 : ByteArray := prog_43_method_1_code
def yJxc12de_init_da8c8 : MethodName := ⟨RJxc12de, "<init>", "()V"⟩
def RJx4a65c : String := "java/util/ArrayList"
def TJx4a65c : u_T := fun k => match k with
  | 0 => ("java/util/AbstractList", "modCount", "I", false)
  | 1 => ("java/util/ArrayList", "elementData", "[Ljava/lang/Object;", false)
  | _ => ("java/util/ArrayList", "size", "I", false)
def tyJx4a65c : Nat → FieldType := fun k => match k with
  | 0 => .int
  | 1 => .array (.object "java/lang/Object")
  | _ => .int
abbrev wsJx4a65c0 : List Cond := u_ws RJx4a65c TJx4a65c 3
theorem nmJx4a65c : ∀ a, a < 3 → ∀ b, b < 3 → a ≠ b → (TJx4a65c a).2.1 ≠ (TJx4a65c b).2.1 := by decide +kernel
theorem tyJx4a65c_ok : ∀ k, k < 3 → parseFieldDescriptor (TJx4a65c k).2.2.1 = some (tyJx4a65c k) := by decide +kernel
abbrev cJx4a65c_init_da8c8 : ByteArray := prog_44_method_2_code
def yJx4a65c_init_da8c8 : MethodName := ⟨RJx4a65c, "<init>", "()V"⟩
abbrev cJx4a65c_grow_92f84 : ByteArray := prog_44_method_6_code
def yJx4a65c_grow_92f84 : MethodName := ⟨RJx4a65c, "grow", "(I)[Ljava/lang/Object;"⟩
abbrev cJx4a65c_grow_d5877 : ByteArray := prog_44_method_7_code
def yJx4a65c_grow_d5877 : MethodName := ⟨RJx4a65c, "grow", "()[Ljava/lang/Object;"⟩
abbrev cJx4a65c_size_8abf5 : ByteArray := prog_44_method_8_code
def yJx4a65c_size_8abf5 : MethodName := ⟨RJx4a65c, "size", "()I"⟩
abbrev cJx4a65c_isEmpty_aae02 : ByteArray := prog_44_method_9_code
def yJx4a65c_isEmpty_aae02 : MethodName := ⟨RJx4a65c, "isEmpty", "()Z"⟩
abbrev cJx4a65c_elementData_915e3 : ByteArray := prog_44_method_18_code
def yJx4a65c_elementData_915e3 : MethodName := ⟨RJx4a65c, "elementData", "(I)Ljava/lang/Object;"⟩
abbrev cJx4a65c_get_915e3 : ByteArray := prog_44_method_20_code
def yJx4a65c_get_915e3 : MethodName := ⟨RJx4a65c, "get", "(I)Ljava/lang/Object;"⟩
abbrev cJx4a65c_set_bcc79 : ByteArray := prog_44_method_23_code
def yJx4a65c_set_bcc79 : MethodName := ⟨RJx4a65c, "set", "(ILjava/lang/Object;)Ljava/lang/Object;"⟩
abbrev cJx4a65c_add_72be8 : ByteArray := prog_44_method_24_code
def yJx4a65c_add_72be8 : MethodName := ⟨RJx4a65c, "add", "(Ljava/lang/Object;[Ljava/lang/Object;I)V"⟩
abbrev cJx4a65c_add_9ea2d : ByteArray := prog_44_method_25_code
def yJx4a65c_add_9ea2d : MethodName := ⟨RJx4a65c, "add", "(Ljava/lang/Object;)Z"⟩
abbrev cJx4a65c_remove_915e3 : ByteArray := prog_44_method_29_code
def yJx4a65c_remove_915e3 : MethodName := ⟨RJx4a65c, "remove", "(I)Ljava/lang/Object;"⟩
abbrev cJx4a65c_fastRemove_b59b0 : ByteArray := prog_44_method_39_code
def yJx4a65c_fastRemove_b59b0 : MethodName := ⟨RJx4a65c, "fastRemove", "([Ljava/lang/Object;I)V"⟩
def RJ7 : String := "java/util/Arrays"
def TJ7 : u_T := fun k => match k with
  | _ => ("", "", "", false)
def tyJ7 : Nat → FieldType := fun k => match k with
  | _ => .int
abbrev wsJ70 : List Cond := u_ws RJ7 TJ7 0
theorem nmJ7 : ∀ a, a < 0 → ∀ b, b < 0 → a ≠ b → (TJ7 a).2.1 ≠ (TJ7 b).2.1 := by decide +kernel
theorem tyJ7_ok : ∀ k, k < 0 → parseFieldDescriptor (TJ7 k).2.2.1 = some (tyJ7 k) := by decide +kernel
abbrev cJ7_copyOf_1904c : ByteArray := prog_45_method_119_code
def yJ7_copyOf_1904c : MethodName := ⟨RJ7, "copyOf", "([Ljava/lang/Object;I)[Ljava/lang/Object;"⟩
abbrev cJ7_copyOf_6403c : ByteArray := prog_45_method_120_code
def yJ7_copyOf_6403c : MethodName := ⟨RJ7, "copyOf", "([Ljava/lang/Object;ILjava/lang/Class;)[Ljava/lang/Object;"⟩
abbrev cJ7_copyOf_9075b : ByteArray := prog_45_method_121_code
def yJ7_copyOf_9075b : MethodName := ⟨RJ7, "copyOf", "([BI)[B"⟩
abbrev cJ7_checkLength_df160 : ByteArray := prog_45_method_131_code
def yJ7_checkLength_df160 : MethodName := ⟨RJ7, "checkLength", "(II)V"⟩
abbrev cJ7_copyOfRange_39247 : ByteArray := prog_45_method_132_code
def yJ7_copyOfRange_39247 : MethodName := ⟨RJ7, "copyOfRange", "([BII)[B"⟩
abbrev cJ7_copyOfRangeByte_39247 : ByteArray := prog_45_method_133_code
def yJ7_copyOfRangeByte_39247 : MethodName := ⟨RJ7, "copyOfRangeByte", "([BII)[B"⟩
def RJx5ef63 : String := "java/util/Collection"
def TJx5ef63 : u_T := fun k => match k with
  | _ => ("", "", "", false)
def tyJx5ef63 : Nat → FieldType := fun k => match k with
  | _ => .int
abbrev wsJx5ef630 : List Cond := u_ws RJx5ef63 TJx5ef63 0
theorem nmJx5ef63 : ∀ a, a < 0 → ∀ b, b < 0 → a ≠ b → (TJx5ef63 a).2.1 ≠ (TJx5ef63 b).2.1 := by decide +kernel
theorem tyJx5ef63_ok : ∀ k, k < 0 → parseFieldDescriptor (TJx5ef63 k).2.2.1 = some (tyJx5ef63 k) := by decide +kernel
def RJxbd725 : String := "java/util/List"
def TJxbd725 : u_T := fun k => match k with
  | _ => ("", "", "", false)
def tyJxbd725 : Nat → FieldType := fun k => match k with
  | _ => .int
abbrev wsJxbd7250 : List Cond := u_ws RJxbd725 TJxbd725 0
theorem nmJxbd725 : ∀ a, a < 0 → ∀ b, b < 0 → a ≠ b → (TJxbd725 a).2.1 ≠ (TJxbd725 b).2.1 := by decide +kernel
theorem tyJxbd725_ok : ∀ k, k < 0 → parseFieldDescriptor (TJxbd725 k).2.2.1 = some (tyJxbd725 k) := by decide +kernel
def RJ15 : String := "java/util/Objects"
def TJ15 : u_T := fun k => match k with
  | _ => ("", "", "", false)
def tyJ15 : Nat → FieldType := fun k => match k with
  | _ => .int
abbrev wsJ150 : List Cond := u_ws RJ15 TJ15 0
theorem nmJ15 : ∀ a, a < 0 → ∀ b, b < 0 → a ≠ b → (TJ15 a).2.1 ≠ (TJ15 b).2.1 := by decide +kernel
theorem tyJ15_ok : ∀ k, k < 0 → parseFieldDescriptor (TJ15 k).2.2.1 = some (tyJ15 k) := by decide +kernel
abbrev cJ15_checkIndex_7cf53 : ByteArray := prog_49_method_17_code
def yJ15_checkIndex_7cf53 : MethodName := ⟨RJ15, "checkIndex", "(II)I"⟩
def RJxf0a74 : String := "java/util/RandomAccess"
def TJxf0a74 : u_T := fun k => match k with
  | _ => ("", "", "", false)
def tyJxf0a74 : Nat → FieldType := fun k => match k with
  | _ => .int
abbrev wsJxf0a740 : List Cond := u_ws RJxf0a74 TJxf0a74 0
theorem nmJxf0a74 : ∀ a, a < 0 → ∀ b, b < 0 → a ≠ b → (TJxf0a74 a).2.1 ≠ (TJxf0a74 b).2.1 := by decide +kernel
theorem tyJxf0a74_ok : ∀ k, k < 0 → parseFieldDescriptor (TJxf0a74 k).2.2.1 = some (tyJxf0a74 k) := by decide +kernel
def RJxa66e6 : String := "java/util/SequencedCollection"
def TJxa66e6 : u_T := fun k => match k with
  | _ => ("", "", "", false)
def tyJxa66e6 : Nat → FieldType := fun k => match k with
  | _ => .int
abbrev wsJxa66e60 : List Cond := u_ws RJxa66e6 TJxa66e6 0
theorem nmJxa66e6 : ∀ a, a < 0 → ∀ b, b < 0 → a ≠ b → (TJxa66e6 a).2.1 ≠ (TJxa66e6 b).2.1 := by decide +kernel
theorem tyJxa66e6_ok : ∀ k, k < 0 → parseFieldDescriptor (TJxa66e6 k).2.2.1 = some (tyJxa66e6 k) := by decide +kernel
def RJ8 : String := "jdk/internal/util/ArraysSupport"
def TJ8 : u_T := fun k => match k with
  | _ => ("", "", "", false)
def tyJ8 : Nat → FieldType := fun k => match k with
  | _ => .int
abbrev wsJ80 : List Cond := u_ws RJ8 TJ8 0
theorem nmJ8 : ∀ a, a < 0 → ∀ b, b < 0 → a ≠ b → (TJ8 a).2.1 ≠ (TJ8 b).2.1 := by decide +kernel
theorem tyJ8_ok : ∀ k, k < 0 → parseFieldDescriptor (TJ8 k).2.2.1 = some (tyJ8 k) := by decide +kernel
abbrev cJ8_newLength_cabcc : ByteArray := prog_52_method_27_code
def yJ8_newLength_cabcc : MethodName := ⟨RJ8, "newLength", "(III)I"⟩
abbrev cJ8_hugeLength_7cf53 : ByteArray := prog_52_method_28_code
def yJ8_hugeLength_7cf53 : MethodName := ⟨RJ8, "hugeLength", "(II)I"⟩
def RJ3 : String := "jdk/internal/util/Preconditions"
def TJ3 : u_T := fun k => match k with
  | _ => ("", "", "", false)
def tyJ3 : Nat → FieldType := fun k => match k with
  | _ => .int
abbrev wsJ30 : List Cond := u_ws RJ3 TJ3 0
theorem nmJ3 : ∀ a, a < 0 → ∀ b, b < 0 → a ≠ b → (TJ3 a).2.1 ≠ (TJ3 b).2.1 := by decide +kernel
theorem tyJ3_ok : ∀ k, k < 0 → parseFieldDescriptor (TJ3 k).2.2.1 = some (tyJ3 k) := by decide +kernel
abbrev cJ3_checkIndex_8e157 : ByteArray := prog_53_method_11_code
def yJ3_checkIndex_8e157 : MethodName := ⟨RJ3, "checkIndex", "(IILjava/util/function/BiFunction;)I"⟩
abbrev cJ3_checkFromToIndex_8c36e : ByteArray := prog_53_method_12_code
def yJ3_checkFromToIndex_8c36e : MethodName := ⟨RJ3, "checkFromToIndex", "(IIILjava/util/function/BiFunction;)I"⟩
abbrev cJ3_checkFromIndexSize_8c36e : ByteArray := prog_53_method_13_code
def yJ3_checkFromIndexSize_8c36e : MethodName := ⟨RJ3, "checkFromIndexSize", "(IIILjava/util/function/BiFunction;)I"⟩
def RL : String := "EpsilonhallLaw"
abbrev cL_number : ByteArray := method_3_code
def yL_number : MethodName := ⟨RL, "number", "(LEpsilonhall;I[J)I"⟩
abbrev cL_term : ByteArray := method_4_code
def yL_term : MethodName := ⟨RL, "term", "(LEpsilonhall;II[J)I"⟩
abbrev cL_sum : ByteArray := method_5_code
def yL_sum : MethodName := ⟨RL, "sum", "(LEpsilonhall;II[J)I"⟩
abbrev cL_product : ByteArray := method_6_code
def yL_product : MethodName := ⟨RL, "product", "(LEpsilonhall;II[J)I"⟩
abbrev cL_naturalSum : ByteArray := method_7_code
def yL_naturalSum : MethodName := ⟨RL, "naturalSum", "(LEpsilonhall;II[J)I"⟩
abbrev cL_naturalProduct : ByteArray := method_8_code
def yL_naturalProduct : MethodName := ⟨RL, "naturalProduct", "(LEpsilonhall;II[J)I"⟩
abbrev cL_takeOff : ByteArray := method_9_code
def yL_takeOff : MethodName := ⟨RL, "takeOff", "(LEpsilonhall;II[J)I"⟩
abbrev cL_row : ByteArray := method_10_code
def yL_row : MethodName := ⟨RL, "row", "(LEpsilonhall;II[J)I"⟩
abbrev cL_compare : ByteArray := method_11_code
def yL_compare : MethodName := ⟨RL, "compare", "(LEpsilonhall;II[J)I"⟩
abbrev cL_degree : ByteArray := method_12_code
def yL_degree : MethodName := ⟨RL, "degree", "(LEpsilonhall;I[J)I"⟩
abbrev cL_size : ByteArray := method_13_code
def yL_size : MethodName := ⟨RL, "size", "(LEpsilonhall;I[J)I"⟩
abbrev cL_isLimit : ByteArray := method_14_code
def yL_isLimit : MethodName := ⟨RL, "isLimit", "(LEpsilonhall;I[J)I"⟩
abbrev cL_terms : ByteArray := method_15_code
def yL_terms : MethodName := ⟨RL, "terms", "(LEpsilonhall;I[J)I"⟩
abbrev cL_countOf : ByteArray := method_16_code
def yL_countOf : MethodName := ⟨RL, "countOf", "(LEpsilonhall;II[J)I"⟩
abbrev cL_exponentOf : ByteArray := method_17_code
def yL_exponentOf : MethodName := ⟨RL, "exponentOf", "(LEpsilonhall;II[J)I"⟩
abbrev cL_length : ByteArray := method_18_code
def yL_length : MethodName := ⟨RL, "length", "(LEpsilonhall;I[J)I"⟩
abbrev cL_signAt : ByteArray := method_19_code
def yL_signAt : MethodName := ⟨RL, "signAt", "(LEpsilonhall;II[J)I"⟩
abbrev cL_slow : ByteArray := method_20_code
def yL_slow : MethodName := ⟨RL, "slow", "(LEpsilonhall;II[J)I"⟩
abbrev cL_hardy : ByteArray := method_21_code
def yL_hardy : MethodName := ⟨RL, "hardy", "(LEpsilonhall;II[J)I"⟩
abbrev cL_fast : ByteArray := method_22_code
def yL_fast : MethodName := ⟨RL, "fast", "(LEpsilonhall;II[J)I"⟩
abbrev cL_stepsDown : ByteArray := method_23_code
def yL_stepsDown : MethodName := ⟨RL, "stepsDown", "(LEpsilonhall;II[J)I"⟩
abbrev cL_put : ByteArray := method_24_code
def yL_put : MethodName := ⟨RL, "put", "(LEpsilonhall;I[J)I"⟩
abbrev cL_worm : ByteArray := method_25_code
def yL_worm : MethodName := ⟨RL, "worm", "(LEpsilonhall;[J)I"⟩
abbrev cL_hydra : ByteArray := method_26_code
def yL_hydra : MethodName := ⟨RL, "hydra", "(LEpsilonhall;[J)I"⟩
abbrev cL_bases : ByteArray := method_27_code
def yL_bases : MethodName := ⟨RL, "bases", "(LEpsilonhall;I[J)I"⟩
abbrev cL_kindOf : ByteArray := method_28_code
def yL_kindOf : MethodName := ⟨RL, "kindOf", "(LEpsilonhall;I[J)I"⟩
abbrev cL_isOver : ByteArray := method_29_code
def yL_isOver : MethodName := ⟨RL, "isOver", "(LEpsilonhall;I[J)I"⟩
abbrev cL_moves : ByteArray := method_30_code
def yL_moves : MethodName := ⟨RL, "moves", "(LEpsilonhall;I[J)I"⟩
abbrev cL_measure : ByteArray := method_31_code
def yL_measure : MethodName := ⟨RL, "measure", "(LEpsilonhall;I[J)I"⟩
abbrev cL_at : ByteArray := method_32_code
def yL_at : MethodName := ⟨RL, "at", "(LEpsilonhall;II[J)I"⟩
abbrev cL_move : ByteArray := method_33_code
def yL_move : MethodName := ⟨RL, "move", "(LEpsilonhall;I[J)I"⟩
abbrev cL_cut : ByteArray := method_34_code
def yL_cut : MethodName := ⟨RL, "cut", "(LEpsilonhall;II[J)I"⟩
abbrev cL_play : ByteArray := method_35_code
def yL_play : MethodName := ⟨RL, "play", "(LEpsilonhall;II[J)I"⟩
abbrev cL_ordinalOf : ByteArray := method_36_code
def yL_ordinalOf : MethodName := ⟨RL, "ordinalOf", "(LEpsilonhall;I[J)I"⟩
abbrev cL_falls : ByteArray := method_37_code
def yL_falls : MethodName := ⟨RL, "falls", "(LEpsilonhall;I[J)I"⟩
abbrev cL_embeds : ByteArray := method_38_code
def yL_embeds : MethodName := ⟨RL, "embeds", "(LEpsilonhall;II[J)I"⟩
abbrev cL_setCounter : ByteArray := method_39_code
def yL_setCounter : MethodName := ⟨RL, "setCounter", "(LEpsilonhall;II[J)I"⟩
abbrev cL_addStep : ByteArray := method_40_code
def yL_addStep : MethodName := ⟨RL, "addStep", "(LEpsilonhall;IIIII[J)I"⟩
abbrev cL_setOrder : ByteArray := method_41_code
def yL_setOrder : MethodName := ⟨RL, "setOrder", "(LEpsilonhall;I[J)I"⟩
abbrev cL_run : ByteArray := method_42_code
def yL_run : MethodName := ⟨RL, "run", "(LEpsilonhall;I[J)I"⟩
abbrev cL_counter : ByteArray := method_43_code
def yL_counter : MethodName := ⟨RL, "counter", "(LEpsilonhall;I[J)I"⟩
abbrev cL_holds : ByteArray := method_44_code
def yL_holds : MethodName := ⟨RL, "holds", "(LEpsilonhall;I[J)I"⟩
abbrev cL_value : ByteArray := method_45_code
def yL_value : MethodName := ⟨RL, "value", "(LEpsilonhall;[J)I"⟩
abbrev cL_overShare : ByteArray := method_46_code
def yL_overShare : MethodName := ⟨RL, "overShare", "(LEpsilonhall;[D)I"⟩
abbrev cL_meanSize : ByteArray := method_47_code
def yL_meanSize : MethodName := ⟨RL, "meanSize", "(LEpsilonhall;[D)I"⟩
abbrev cL_law : ByteArray := code
def yL_law : MethodName := ⟨RL, "law", "([I)Z"⟩
def wsX5_init : List Cond := .code yX5_init cX5_init 3 none :: ([.methodLink RX5 3 objectInit, .instanceMethod objectInit, .code objectInit ⟨#[0xb1]⟩ 1 none, .arrayClass .int, .fieldLink RX5 9 "Epsilonhall$Ordinal" "levels" "[I", .fieldLink RX5 15 "Epsilonhall$Ordinal" "counts" "[I"] ++ wsX50)
def wsX3_init : List Cond := .code yX3_init cX3_init 1 none :: ([.methodLink RX3 3 objectInit, .instanceMethod objectInit, .code objectInit ⟨#[0xb1]⟩ 1 none, .fieldLink RX3 9 "Epsilonhall$Game" "fell" "Z", .classLink RX3 15 RX5, .instantiable RX5 4, .initialized RX5, .fieldLink RX3 20 "Epsilonhall$Game" "ordinal" "LEpsilonhall$Ordinal;", .methodLink RX3 17 yX5_init, .instanceMethod yX5_init, .code yX5_init cX5_init 3 none, .methodLink RX5 3 objectInit, .arrayClass .int, .fieldLink RX5 9 "Epsilonhall$Ordinal" "levels" "[I", .fieldLink RX5 15 "Epsilonhall$Ordinal" "counts" "[I"] ++ wsX00 ++ wsX40 ++ wsX90 ++ wsX50)
def wsX0_init : List Cond := .code yX0_init cX0_init 2 none :: ([.fieldLink RX0 9 "Epsilonhall$Bases" "number" "J", .instanceMethod yX3_init, .initialized RX3, .code yX3_init cX3_init 1 none, .methodLink RX3 3 objectInit, .instanceMethod objectInit, .code objectInit ⟨#[0xb1]⟩ 1 none, .fieldLink RX3 9 "Epsilonhall$Game" "fell" "Z", .classLink RX3 15 RX5, .instantiable RX5 4, .initialized RX5, .fieldLink RX3 20 "Epsilonhall$Game" "ordinal" "LEpsilonhall$Ordinal;", .methodLink RX3 17 yX5_init, .instanceMethod yX5_init, .code yX5_init cX5_init 3 none, .methodLink RX5 3 objectInit, .arrayClass .int, .fieldLink RX5 9 "Epsilonhall$Ordinal" "levels" "[I", .fieldLink RX5 15 "Epsilonhall$Ordinal" "counts" "[I"] ++ wsX00 ++ wsX40 ++ wsX90 ++ wsX50)
def wsX0_kind : List Cond := .code yX0_kind cX0_kind 1 (some .char) :: ([])
def wsX0_hasEnded : List Cond := .code yX0_hasEnded cX0_hasEnded 1 (some .boolean) :: ([.fieldLink RX0 9 "Epsilonhall$Bases" "number" "J"] ++ wsX00)
def wsX0_extent : List Cond := .code yX0_extent cX0_extent 1 (some .long) :: ([.fieldLink RX0 9 "Epsilonhall$Bases" "number" "J"] ++ wsX00)
def wsX0_places : List Cond := .code yX0_places cX0_places 1 (some .int) :: ([])
def wsL_law0_r1 : List Cond := [Cond.classLink RL 8 RX10, Cond.instantiable RX10 12, Cond.initialized RX10, Cond.classLink RL 166 RX13, Cond.instantiable RX13 20, Cond.initialized RX13, Cond.arrayClass .long, Cond.arrayClass .double, Cond.methodLink RL 165 yX10_init, Cond.instanceMethod yX10_init, Cond.code yX10_init cX10_init 1 none, Cond.methodLink RX10 3 objectInit, Cond.instanceMethod objectInit, Cond.code objectInit ⟨#[0xb1]⟩ 1 none, Cond.classLink RX10 9 RX5, Cond.fieldLink RX10 11 "Epsilonhall" "ordinals" "[LEpsilonhall$Ordinal;", Cond.classLink RX10 15 RX3, Cond.fieldLink RX10 17 "Epsilonhall" "games" "[LEpsilonhall$Game;", Cond.arrayClass .int, Cond.fieldLink RX10 21 "Epsilonhall" "buffer" "[I", Cond.classLink RX10 25 RX6, Cond.instantiable RX6 11, Cond.initialized RX6, Cond.fieldLink RX10 28 "Epsilonhall" "program" "LEpsilonhall$Program;"]
def wsL_law0_r2 : List Cond := [Cond.instantiable RX5 4, Cond.initialized RX5, Cond.fieldLink RX10 35 "Epsilonhall" "result" "LEpsilonhall$Ordinal;", Cond.classLink RX10 39 RX1, Cond.instantiable RX1 5, Cond.initialized RX1, Cond.fieldLink RX10 42 "Epsilonhall" "bench" "LEpsilonhall$Bench;", Cond.classLink RX10 46 RX8, Cond.instantiable RX8 8, Cond.initialized RX8, Cond.fieldLink RX10 49 "Epsilonhall" "walk" "LEpsilonhall$Walk;", Cond.classLink RX10 53 RX7, Cond.instantiable RX7 2, Cond.initialized RX7, Cond.fieldLink RX10 56 "Epsilonhall" "text" "LEpsilonhall$Text;", Cond.classLink RX10 60 RX2, Cond.instantiable RX2 8, Cond.initialized RX2, Cond.fieldLink RX10 63 "Epsilonhall" "embedding" "LEpsilonhall$Embedding;", Cond.methodLink RX10 27 yX6_init, Cond.instanceMethod yX6_init, Cond.code yX6_init cX6_init 2 none, Cond.methodLink RX6 3 objectInit, Cond.fieldLink RX6 9 "Epsilonhall$Program" "counters" "[I"]
def wsL_law0_r3 : List Cond := [Cond.fieldLink RX6 15 "Epsilonhall$Program" "before" "[I", Cond.fieldLink RX6 18 "Epsilonhall$Program" "ranks" "[I", Cond.fieldLink RX6 21 "Epsilonhall$Program" "order" "I", Cond.fieldLink RX6 25 "Epsilonhall$Program" "guards" "[I", Cond.fieldLink RX6 28 "Epsilonhall$Program" "firsts" "[I", Cond.fieldLink RX6 31 "Epsilonhall$Program" "tos" "[I", Cond.fieldLink RX6 34 "Epsilonhall$Program" "seconds" "[I", Cond.fieldLink RX6 37 "Epsilonhall$Program" "toOthers" "[I", Cond.methodLink RX10 32 yX5_init, Cond.instanceMethod yX5_init, Cond.code yX5_init cX5_init 3 none, Cond.methodLink RX5 3 objectInit, Cond.fieldLink RX5 9 "Epsilonhall$Ordinal" "levels" "[I", Cond.fieldLink RX5 15 "Epsilonhall$Ordinal" "counts" "[I", Cond.methodLink RX10 41 yX1_init, Cond.instanceMethod yX1_init, Cond.code yX1_init cX1_init 2 none, Cond.methodLink RX1 3 objectInit, Cond.classLink RX1 9 RX5, Cond.fieldLink RX1 11 "Epsilonhall$Bench" "rows" "[LEpsilonhall$Ordinal;", Cond.fieldLink RX1 20 "Epsilonhall$Bench" "piece" "LEpsilonhall$Ordinal;", Cond.fieldLink RX1 24 "Epsilonhall$Bench" "spare" "LEpsilonhall$Ordinal;", Cond.fieldLink RX1 27 "Epsilonhall$Bench" "firstOn" "[I", Cond.fieldLink RX1 31 "Epsilonhall$Bench" "nextBeside" "[I"]
def wsL_law0_r4 : List Cond := [Cond.methodLink RX1 17 yX5_init, Cond.methodLink RX10 48 yX8_init, Cond.instanceMethod yX8_init, Cond.code yX8_init cX8_init 2 none, Cond.methodLink RX8 3 objectInit, Cond.classLink RX8 9 RX5, Cond.fieldLink RX8 14 "Epsilonhall$Walk" "here" "LEpsilonhall$Ordinal;", Cond.fieldLink RX8 20 "Epsilonhall$Walk" "frames" "[LEpsilonhall$Ordinal;", Cond.fieldLink RX8 24 "Epsilonhall$Walk" "pending" "[I", Cond.methodLink RX8 11 yX5_init, Cond.instanceMethod yX7_init, Cond.code yX7_init cX7_init 1 none, Cond.methodLink RX7 3 objectInit, Cond.arrayClass .char, Cond.fieldLink RX7 9 "Epsilonhall$Text" "signs" "[C", Cond.instanceMethod yX2_init, Cond.code yX2_init cX2_init 1 none, Cond.methodLink RX2 3 objectInit, Cond.fieldLink RX2 9 "Epsilonhall$Embedding" "parents" "[I", Cond.fieldLink RX2 15 "Epsilonhall$Embedding" "otherParents" "[I", Cond.fieldLink RX2 18 "Epsilonhall$Embedding" "places" "[I", Cond.arrayClass .boolean, Cond.fieldLink RX2 21 "Epsilonhall$Embedding" "inOrAbove" "[Z", Cond.fieldLink RX2 25 "Epsilonhall$Embedding" "matches" "[I"]
def wsL_law0_r5 : List Cond := [Cond.fieldLink RX2 28 "Epsilonhall$Embedding" "tried" "[Z", Cond.methodLink RL 168 yX13_init, Cond.instanceMethod yX13_init, Cond.code yX13_init cX13_init 1 none, Cond.methodLink RX13 212 objectInit, Cond.constant RX13 215 (90601), Cond.fieldLink RX13 216 "EpsilonhallModel" "isAt" "[Z", Cond.fieldLink RX13 195 "EpsilonhallModel" "isWithin" "[Z", Cond.fieldLink RX13 202 "EpsilonhallModel" "given" "[I", Cond.fieldLink RX13 192 "EpsilonhallModel" "isTried" "[Z", Cond.classLink RX13 141 RJx4a65c, Cond.instantiable RJx4a65c 3, Cond.initialized RJx4a65c, Cond.fieldLink RX13 219 "EpsilonhallModel" "ords" "Ljava/util/ArrayList;", Cond.fieldLink RX13 223 "EpsilonhallModel" "games" "Ljava/util/ArrayList;", Cond.fieldLink RX13 226 "EpsilonhallModel" "buffer" "[I", Cond.fieldLink RX13 229 "EpsilonhallModel" "counters" "[I", Cond.fieldLink RX13 232 "EpsilonhallModel" "order" "[I", Cond.fieldLink RX13 235 "EpsilonhallModel" "guards" "[I", Cond.fieldLink RX13 238 "EpsilonhallModel" "firsts" "[I", Cond.fieldLink RX13 241 "EpsilonhallModel" "tos" "[I", Cond.fieldLink RX13 244 "EpsilonhallModel" "seconds" "[I", Cond.fieldLink RX13 247 "EpsilonhallModel" "toOthers" "[I", Cond.methodLink RX13 143 yJx4a65c_init_da8c8]
def wsL_law0_r6 : List Cond := [Cond.instanceMethod yJx4a65c_init_da8c8, Cond.code yJx4a65c_init_da8c8 cJx4a65c_init_da8c8 1 none, Cond.fieldLink RJx4a65c 39 "java/util/ArrayList" "DEFAULTCAPACITY_EMPTY_ELEMENTDATA" "[Ljava/lang/Object;", Cond.fieldLink RJx4a65c 9 "java/util/ArrayList" "elementData" "[Ljava/lang/Object;", Cond.methodLink RJx4a65c 1 yJxc12de_init_da8c8, Cond.instanceMethod yJxc12de_init_da8c8, Cond.initialized RJxc12de, Cond.code yJxc12de_init_da8c8 cJxc12de_init_da8c8 1 none, Cond.fieldLink RJxc12de 7 "java/util/AbstractList" "modCount" "I", Cond.methodLink RJxc12de 1 yJxa1e45_init_da8c8, Cond.instanceMethod yJxa1e45_init_da8c8, Cond.initialized RJxa1e45, Cond.code yJxa1e45_init_da8c8 cJxa1e45_init_da8c8 1 none, Cond.methodLink RJxa1e45 1 objectInit, Cond.methodLink RL 169 yL_number, Cond.static yL_number, Cond.initialized RL, Cond.codeWith yL_number cL_number 4 (some .int) [(0, 9, 12, 13), (0, 9, 15, 15)], Cond.classLink RL 13 "java/lang/IllegalArgumentException", Cond.methodLink RL 7 yX10_number, Cond.instanceMethod yX10_number, Cond.selects RX10 yX10_number yX10_number, Cond.code yX10_number cX10_number 2 (some .int), Cond.constant RX10 67 (999999)]
def wsL_law0_r7 : List Cond := [Cond.methodLink RX10 68 yX10_checkRange, Cond.static yX10_checkRange, Cond.code yX10_checkRange cX10_checkRange 3 none, Cond.classLink RX10 201 "java/lang/IllegalArgumentException", Cond.initialized "java/lang/IllegalArgumentException", Cond.methodLink RX10 72 yX5_becomeNumber, Cond.instanceMethod yX5_becomeNumber, Cond.selects RX5 yX5_becomeNumber yX5_becomeNumber, Cond.code yX5_becomeNumber cX5_becomeNumber 2 none, Cond.methodLink RX5 52 yX5_clear, Cond.instanceMethod yX5_clear, Cond.selects RX5 yX5_clear yX5_clear, Cond.code yX5_clear cX5_clear 1 none, Cond.fieldLink RX5 18 "Epsilonhall$Ordinal" "used" "I", Cond.fieldLink RX5 22 "Epsilonhall$Ordinal" "spilt" "Z", Cond.methodLink RX5 59 yX5_append, Cond.instanceMethod yX5_append, Cond.selects RX5 yX5_append yX5_append, Cond.code yX5_append cX5_append 4 none, Cond.methodLink RX5 45 yX5_capped, Cond.static yX5_capped, Cond.code yX5_capped cX5_capped 2 (some .int), Cond.constantLong RX5 49 (999999), Cond.constant RX5 51 (1000000)]
def wsL_law0_r8 : List Cond := [Cond.methodLink RX10 75 yX10_keep, Cond.instanceMethod yX10_keep, Cond.selects RX10 yX10_keep yX10_keep, Cond.code yX10_keep cX10_keep 3 (some .int), Cond.classLink RX10 113 "java/lang/UnsupportedOperationException", Cond.initialized "java/lang/UnsupportedOperationException", Cond.classLink RX10 190 "java/lang/IllegalStateException", Cond.initialized "java/lang/IllegalStateException", Cond.fieldLink RX10 127 "Epsilonhall" "ordinalsKept" "I", Cond.methodLink RX10 365 yX5_isTooGreat, Cond.instanceMethod yX5_isTooGreat, Cond.selects RX5 yX5_isTooGreat yX5_isTooGreat, Cond.code yX5_isTooGreat cX5_isTooGreat 2 (some .boolean), Cond.constant RX5 40 (999999), Cond.methodLink RX5 33 yX5_height, Cond.instanceMethod yX5_height, Cond.selects RX5 yX5_height yX5_height, Cond.code yX5_height cX5_height 4 (some .int), Cond.methodLink RX5 26 yX5_levelAt, Cond.instanceMethod yX5_levelAt, Cond.selects RX5 yX5_levelAt yX5_levelAt, Cond.code yX5_levelAt cX5_levelAt 2 (some .int), Cond.methodLink RX5 37 yX5_countAt, Cond.instanceMethod yX5_countAt]
def wsL_law0_r9 : List Cond := [Cond.selects RX5 yX5_countAt yX5_countAt, Cond.code yX5_countAt cX5_countAt 2 (some .int), Cond.methodLink RX10 368 yX5_become, Cond.instanceMethod yX5_become, Cond.selects RX5 yX5_become yX5_become, Cond.code yX5_become cX5_become 2 none, Cond.methodLink RX5 55 yX5_appendBelow, Cond.instanceMethod yX5_appendBelow, Cond.selects RX5 yX5_appendBelow yX5_appendBelow, Cond.code yX5_appendBelow cX5_appendBelow 7 none, Cond.methodLink RX5 30 yX5_endOf, Cond.instanceMethod yX5_endOf, Cond.selects RX5 yX5_endOf yX5_endOf, Cond.code yX5_endOf cX5_endOf 4 (some .int), Cond.methodLink RL 174 yX13_number, Cond.instanceMethod yX13_number, Cond.selects RX13 yX13_number yX13_number, Cond.code yX13_number cX13_number 2 (some .int), Cond.constantLong RX13 267 (999999), Cond.methodLink RX13 256 yX13_in, Cond.static yX13_in, Cond.code yX13_in cX13_in 6 (some .boolean), Cond.methodLink RX13 122 yX13_numeral, Cond.static yX13_numeral]
def wsL_law0_r10 : List Cond := [Cond.code yX13_numeral cX13_numeral 2 (some (.object "EpsilonhallModel$Ord")), Cond.classLink RX13 1 RX12, Cond.instantiable RX12 2, Cond.initialized RX12, Cond.instanceMethod yX12_init, Cond.code yX12_init cX12_init 1 none, Cond.methodLink RX12 3 objectInit, Cond.classLink RX12 9 RJx4a65c, Cond.fieldLink RX12 12 "EpsilonhallModel$Ord" "exponents" "Ljava/util/ArrayList;", Cond.fieldLink RX12 18 "EpsilonhallModel$Ord" "counts" "Ljava/util/ArrayList;", Cond.methodLink RX12 11 yJx4a65c_init_da8c8, Cond.methodLink RX13 7 yX12_with, Cond.instanceMethod yX12_with, Cond.selects RX12 yX12_with yX12_with, Cond.code yX12_with cX12_with 4 (some (.object "EpsilonhallModel$Ord")), Cond.methodLink RX12 39 yJx4a65c_add_9ea2d, Cond.instanceMethod yJx4a65c_add_9ea2d, Cond.selects RJx4a65c yJx4a65c_add_9ea2d yJx4a65c_add_9ea2d, Cond.code yJx4a65c_add_9ea2d cJx4a65c_add_9ea2d 2 (some .boolean), Cond.fieldLink RJx4a65c 63 "java/util/ArrayList" "modCount" "I", Cond.sameField "java/util/ArrayList" "java/util/AbstractList" "modCount" "I", Cond.fieldLink RJx4a65c 48 "java/util/ArrayList" "size" "I", Cond.methodLink RJx4a65c 131 yJx4a65c_add_72be8, Cond.instanceMethod yJx4a65c_add_72be8]
def wsL_law0_r11 : List Cond := [Cond.selects RJx4a65c yJx4a65c_add_72be8 yJx4a65c_add_72be8, Cond.code yJx4a65c_add_72be8 cJx4a65c_add_72be8 4 none, Cond.methodLink RJx4a65c 129 yJx4a65c_grow_d5877, Cond.instanceMethod yJx4a65c_grow_d5877, Cond.selects RJx4a65c yJx4a65c_grow_d5877 yJx4a65c_grow_d5877, Cond.code yJx4a65c_grow_d5877 cJx4a65c_grow_d5877 1 (some (.array (.object "java/lang/Object"))), Cond.methodLink RJx4a65c 69 yJx4a65c_grow_92f84, Cond.instanceMethod yJx4a65c_grow_92f84, Cond.selects RJx4a65c yJx4a65c_grow_92f84 yJx4a65c_grow_92f84, Cond.code yJx4a65c_grow_92f84 cJx4a65c_grow_92f84 4 (some (.array (.object "java/lang/Object"))), Cond.methodLink RJx4a65c 79 Lib.Math.max.name, Cond.static Lib.Math.max.name, Cond.initialized "java/lang/Math", Cond.code Lib.Math.max.name Lib.Math.max.code 2 (some .int), Cond.classLink RJx4a65c 7 "java/lang/Object", Cond.methodLink RJx4a65c 73 yJ8_newLength_cabcc, Cond.static yJ8_newLength_cabcc, Cond.initialized RJ8, Cond.code yJ8_newLength_cabcc cJ8_newLength_cabcc 4 (some .int), Cond.methodLink RJ8 194 Lib.Math.max.name, Cond.constant RJ8 200 (2147483639), Cond.methodLink RJ8 201 yJ8_hugeLength_7cf53, Cond.static yJ8_hugeLength_7cf53, Cond.code yJ8_hugeLength_7cf53 cJ8_hugeLength_7cf53 3 (some .int)]
def wsL_law0_r12 : List Cond := [Cond.methodLink RJx4a65c 66 yJ7_copyOf_1904c, Cond.static yJ7_copyOf_1904c, Cond.initialized RJ7, Cond.code yJ7_copyOf_1904c cJ7_copyOf_1904c 2 (some (.array (.object "java/lang/Object"))), Cond.methodLink RJ7 86 ⟨"java/lang/Object", "getClass", "()Ljava/lang/Class;"⟩, Cond.selects "[Ljava/lang/Object;" ⟨"java/lang/Object", "getClass", "()Ljava/lang/Class;"⟩ ⟨"java/lang/Object", "getClass", "()Ljava/lang/Class;"⟩, Cond.instanceMethod ⟨"java/lang/Object", "getClass", "()Ljava/lang/Class;"⟩, Cond.native ⟨"java/lang/Object", "getClass", "()Ljava/lang/Class;"⟩, Cond.methodLink RJ7 300 yJ7_copyOf_6403c, Cond.static yJ7_copyOf_6403c, Cond.code yJ7_copyOf_6403c cJ7_copyOf_6403c 4 (some (.array (.object "java/lang/Object"))), Cond.classLink RJ7 110 "[Ljava/lang/Object;", Cond.classLink RJ7 2 "java/lang/Object", Cond.methodLink RJ7 304 Lib.Math.min.name, Cond.static Lib.Math.min.name, Cond.code Lib.Math.min.name Lib.Math.min.code 2 (some .int), Cond.methodLink RJ7 150 arraycopyName, Cond.native arraycopyName, Cond.static arraycopyName, Cond.initialized "java/lang/System", Cond.methodLink RX12 43 yJ13_valueOf_928b6, Cond.static yJ13_valueOf_928b6, Cond.initialized RJ13, Cond.code yJ13_valueOf_928b6 cJ13_valueOf_928b6 3 (some (.object "java/lang/Long"))]
def wsL_law0_r13 : List Cond := [Cond.constantLong RJ13 230 (-128), Cond.constantLong RJ13 232 (127), Cond.fieldLink RJ13 234 "java/lang/Long$LongCache" "cache" "[Ljava/lang/Long;", Cond.classLink RJ13 1 RJ13, Cond.instantiable RJ13 1, Cond.methodLink RJ13 240 yJ13_init_e45a9, Cond.instanceMethod yJ13_init_e45a9, Cond.code yJ13_init_e45a9 cJ13_init_e45a9 3 none, Cond.fieldLink RJ13 273 "java/lang/Long" "value" "J", Cond.methodLink RJ13 270 yJxd2413_init_da8c8, Cond.instanceMethod yJxd2413_init_da8c8, Cond.initialized RJxd2413, Cond.code yJxd2413_init_da8c8 cJxd2413_init_da8c8 1 none, Cond.methodLink RJxd2413 1 objectInit, Cond.methodLink RX13 269 yX13_adds, Cond.instanceMethod yX13_adds, Cond.selects RX13 yX13_adds yX13_adds, Cond.code yX13_adds cX13_adds 4 (some .int), Cond.methodLink RX13 95 yX12_isGreat, Cond.instanceMethod yX12_isGreat, Cond.selects RX12 yX12_isGreat yX12_isGreat, Cond.code yX12_isGreat cX12_isGreat 1 (some .boolean), Cond.methodLink RX12 70 yX12_degree, Cond.instanceMethod yX12_degree]
def wsL_law0_r14 : List Cond := [Cond.selects RX12 yX12_degree yX12_degree, Cond.code yX12_degree cX12_degree 1 (some .int), Cond.methodLink RX12 67 yX12_isZero, Cond.instanceMethod yX12_isZero, Cond.selects RX12 yX12_isZero yX12_isZero, Cond.code yX12_isZero cX12_isZero 1 (some .boolean), Cond.methodLink RX12 35 yJx4a65c_isEmpty_aae02, Cond.instanceMethod yJx4a65c_isEmpty_aae02, Cond.selects RJx4a65c yJx4a65c_isEmpty_aae02 yJx4a65c_isEmpty_aae02, Cond.code yJx4a65c_isEmpty_aae02 cJx4a65c_isEmpty_aae02 1 (some .boolean), Cond.methodLink RX12 50 yX12_exponent, Cond.instanceMethod yX12_exponent, Cond.selects RX12 yX12_exponent yX12_exponent, Cond.code yX12_exponent cX12_exponent 2 (some (.object "EpsilonhallModel$Ord")), Cond.classLink RX12 13 "EpsilonhallModel$Ord", Cond.methodLink RX12 25 yJx4a65c_get_915e3, Cond.instanceMethod yJx4a65c_get_915e3, Cond.selects RJx4a65c yJx4a65c_get_915e3 yJx4a65c_get_915e3, Cond.code yJx4a65c_get_915e3 cJx4a65c_get_915e3 2 (some (.object "java/lang/Object")), Cond.methodLink RJx4a65c 118 yJ15_checkIndex_7cf53, Cond.static yJ15_checkIndex_7cf53, Cond.initialized RJ15, Cond.code yJ15_checkIndex_7cf53 cJ15_checkIndex_7cf53 2 (some .int), Cond.methodLink RJ15 105 yJ3_checkIndex_8e157]
def wsL_law0_r15 : List Cond := [Cond.static yJ3_checkIndex_8e157, Cond.initialized RJ3, Cond.code yJ3_checkIndex_8e157 cJ3_checkIndex_8e157 3 (some .int), Cond.methodLink RJx4a65c 123 yJx4a65c_elementData_915e3, Cond.instanceMethod yJx4a65c_elementData_915e3, Cond.selects RJx4a65c yJx4a65c_elementData_915e3 yJx4a65c_elementData_915e3, Cond.code yJx4a65c_elementData_915e3 cJx4a65c_elementData_915e3 2 (some (.object "java/lang/Object")), Cond.methodLink RX12 73 yX12_size, Cond.instanceMethod yX12_size, Cond.selects RX12 yX12_size yX12_size, Cond.code yX12_size cX12_size 3 (some .int), Cond.methodLink RX12 47 yX12_terms, Cond.instanceMethod yX12_terms, Cond.selects RX12 yX12_terms yX12_terms, Cond.code yX12_terms cX12_terms 1 (some .int), Cond.methodLink RX12 21 yJx4a65c_size_8abf5, Cond.instanceMethod yJx4a65c_size_8abf5, Cond.selects RJx4a65c yJx4a65c_size_8abf5 yJx4a65c_size_8abf5, Cond.code yJx4a65c_size_8abf5 cJx4a65c_size_8abf5 1 (some .int), Cond.methodLink RX12 76 yX12_hasGreat, Cond.instanceMethod yX12_hasGreat, Cond.selects RX12 yX12_hasGreat yX12_hasGreat, Cond.code yX12_hasGreat cX12_hasGreat 3 (some .boolean), Cond.constantLong RX12 74 (999999)]
def wsL_law0_r16 : List Cond := [Cond.methodLink RX12 54 yX12_count, Cond.instanceMethod yX12_count, Cond.selects RX12 yX12_count yX12_count, Cond.code yX12_count cX12_count 2 (some .long), Cond.classLink RX12 29 "java/lang/Long", Cond.methodLink RX12 31 yJ13_longValue_f9912, Cond.instanceMethod yJ13_longValue_f9912, Cond.selects RJ13 yJ13_longValue_f9912 yJ13_longValue_f9912, Cond.code yJ13_longValue_f9912 cJ13_longValue_f9912 1 (some .long), Cond.methodLink RX13 260 yX13_fails, Cond.instanceMethod yX13_fails, Cond.selects RX13 yX13_fails yX13_fails, Cond.code yX13_fails cX13_fails 2 (some .int), Cond.fieldLink RX13 250 "EpsilonhallModel" "thrown" "I", Cond.methodLink RX13 253 yJx4a65c_size_8abf5, Cond.methodLink RX13 150 yJx4a65c_add_9ea2d, Cond.methodLink RX13 264 yX13_tell, Cond.instanceMethod yX13_tell, Cond.selects RX13 yX13_tell yX13_tell, Cond.code yX13_tell cX13_tell 2 (some .int), Cond.methodLink RL 175 yX13_thrown, Cond.instanceMethod yX13_thrown, Cond.selects RX13 yX13_thrown yX13_thrown, Cond.code yX13_thrown cX13_thrown 1 (some .int)]
def wsL_law0_r17 : List Cond := [Cond.methodLink RL 178 yL_term, Cond.static yL_term, Cond.codeWith yL_term cL_term 5 (some .int) [(0, 10, 13, 21), (0, 10, 17, 13), (0, 10, 21, 23), (0, 10, 25, 15)], Cond.classLink RL 21 "java/lang/IndexOutOfBoundsException", Cond.methodLink RL 17 yX10_term, Cond.instanceMethod yX10_term, Cond.selects RX10 yX10_term yX10_term, Cond.code yX10_term cX10_term 4 (some .int), Cond.methodLink RX10 79 yX10_ordinalAt, Cond.instanceMethod yX10_ordinalAt, Cond.selects RX10 yX10_ordinalAt yX10_ordinalAt, Cond.code yX10_ordinalAt cX10_ordinalAt 3 (some (.object "Epsilonhall$Ordinal")), Cond.classLink RX10 157 "java/lang/IndexOutOfBoundsException", Cond.initialized "java/lang/IndexOutOfBoundsException", Cond.methodLink RX10 83 yX5_clear, Cond.methodLink RX10 86 yX5_append, Cond.methodLink RX10 90 yX5_appendBelow, Cond.methodLink RL 181 yX13_term, Cond.instanceMethod yX13_term, Cond.selects RX13 yX13_term yX13_term, Cond.code yX13_term cX13_term 3 (some .int), Cond.classLink RX13 1 "EpsilonhallModel$Ord", Cond.methodLink RX13 273 yX13_isOrd, Cond.instanceMethod yX13_isOrd]
def wsL_law0_r18 : List Cond := [Cond.selects RX13 yX13_isOrd yX13_isOrd, Cond.code yX13_isOrd cX13_isOrd 2 (some .boolean), Cond.methodLink RX13 162 yJx4a65c_get_915e3, Cond.methodLink RX13 35 yX13_power, Cond.static yX13_power, Cond.code yX13_power cX13_power 3 (some (.object "EpsilonhallModel$Ord")), Cond.methodLink RL 182 yL_sum, Cond.static yL_sum, Cond.codeWith yL_sum cL_sum 5 (some .int) [(0, 10, 13, 21), (0, 10, 17, 23), (0, 10, 21, 15)], Cond.methodLink RL 25 yX10_sum, Cond.instanceMethod yX10_sum, Cond.selects RX10 yX10_sum yX10_sum, Cond.code yX10_sum cX10_sum 5 (some .int), Cond.methodLink RX10 94 yX5_appendSum, Cond.instanceMethod yX5_appendSum, Cond.selects RX5 yX5_appendSum yX5_appendSum, Cond.code yX5_appendSum cX5_appendSum 10 none, Cond.methodLink RX5 63 yX5_isBare, Cond.instanceMethod yX5_isBare, Cond.selects RX5 yX5_isBare yX5_isBare, Cond.code yX5_isBare cX5_isBare 2 (some .boolean), Cond.methodLink RX5 41 yX5_comparison, Cond.static yX5_comparison, Cond.code yX5_comparison cX5_comparison 14 (some .int)]
def wsL_law0_r19 : List Cond := [Cond.methodLink RX5 67 yX5_appendTerm, Cond.instanceMethod yX5_appendTerm, Cond.selects RX5 yX5_appendTerm yX5_appendTerm, Cond.code yX5_appendTerm cX5_appendTerm 6 none, Cond.methodLink RX5 71 yX5_setCount, Cond.instanceMethod yX5_setCount, Cond.selects RX5 yX5_setCount yX5_setCount, Cond.code yX5_setCount cX5_setCount 4 none, Cond.methodLink RL 184 yX13_sum, Cond.instanceMethod yX13_sum, Cond.selects RX13 yX13_sum yX13_sum, Cond.code yX13_sum cX13_sum 3 (some .int), Cond.methodLink RX13 40 yX13_plus, Cond.static yX13_plus, Cond.code yX13_plus cX13_plus 5 (some (.object "EpsilonhallModel$Ord")), Cond.methodLink RX13 11 yX12_isZero, Cond.methodLink RX13 15 yX12_terms, Cond.methodLink RX13 19 yX12_exponent, Cond.methodLink RX13 23 yX12_against, Cond.instanceMethod yX12_against, Cond.selects RX12 yX12_against yX12_against, Cond.code yX12_against cX12_against 4 (some .int), Cond.methodLink RX12 79 yX12_against, Cond.methodLink RX13 27 yX12_count]
def wsL_law0_r20 : List Cond := [Cond.methodLink RX13 31 yX12_behind, Cond.instanceMethod yX12_behind, Cond.selects RX12 yX12_behind yX12_behind, Cond.code yX12_behind cX12_behind 4 (some (.object "EpsilonhallModel$Ord")), Cond.methodLink RX12 58 yX12_with, Cond.methodLink RL 185 yL_product, Cond.static yL_product, Cond.codeWith yL_product cL_product 5 (some .int) [(0, 10, 13, 21), (0, 10, 17, 23), (0, 10, 21, 15)], Cond.methodLink RL 28 yX10_product, Cond.instanceMethod yX10_product, Cond.selects RX10 yX10_product yX10_product, Cond.code yX10_product cX10_product 5 (some .int), Cond.methodLink RX10 98 yX5_becomeProduct, Cond.instanceMethod yX5_becomeProduct, Cond.selects RX5 yX5_becomeProduct yX5_becomeProduct, Cond.code yX5_becomeProduct cX5_becomeProduct 4 none, Cond.methodLink RX5 74 yX5_appendOnward, Cond.instanceMethod yX5_appendOnward, Cond.selects RX5 yX5_appendOnward yX5_appendOnward, Cond.code yX5_appendOnward cX5_appendOnward 4 none, Cond.methodLink RX5 78 yX5_appendSum, Cond.methodLink RL 187 yX13_product, Cond.instanceMethod yX13_product, Cond.selects RX13 yX13_product yX13_product]
def wsL_law0_r21 : List Cond := [Cond.code yX13_product cX13_product 3 (some .int), Cond.methodLink RX13 276 yX13_times, Cond.static yX13_times, Cond.code yX13_times cX13_times 6 (some (.object "EpsilonhallModel$Ord")), Cond.methodLink RL 188 yL_naturalSum, Cond.static yL_naturalSum, Cond.codeWith yL_naturalSum cL_naturalSum 5 (some .int) [(0, 10, 13, 21), (0, 10, 17, 23), (0, 10, 21, 15)], Cond.methodLink RL 31 yX10_naturalSum, Cond.instanceMethod yX10_naturalSum, Cond.selects RX10 yX10_naturalSum yX10_naturalSum, Cond.code yX10_naturalSum cX10_naturalSum 5 (some .int), Cond.methodLink RX10 102 yX5_appendNaturalSum, Cond.instanceMethod yX5_appendNaturalSum, Cond.selects RX5 yX5_appendNaturalSum yX5_appendNaturalSum, Cond.code yX5_appendNaturalSum cX5_appendNaturalSum 11 none, Cond.methodLink RL 190 yX13_naturalSum, Cond.instanceMethod yX13_naturalSum, Cond.selects RX13 yX13_naturalSum yX13_naturalSum, Cond.code yX13_naturalSum cX13_naturalSum 3 (some .int), Cond.methodLink RX13 44 yX13_both, Cond.static yX13_both, Cond.code yX13_both cX13_both 9 (some (.object "EpsilonhallModel$Ord")), Cond.methodLink RL 191 yL_naturalProduct, Cond.static yL_naturalProduct]
def wsL_law0_r22 : List Cond := [Cond.codeWith yL_naturalProduct cL_naturalProduct 5 (some .int) [(0, 10, 13, 21), (0, 10, 17, 23), (0, 10, 21, 15)], Cond.methodLink RL 34 yX10_naturalProduct, Cond.instanceMethod yX10_naturalProduct, Cond.selects RX10 yX10_naturalProduct yX10_naturalProduct, Cond.code yX10_naturalProduct cX10_naturalProduct 5 (some .int), Cond.methodLink RX10 105 yX1_multiplyNaturally, Cond.instanceMethod yX1_multiplyNaturally, Cond.selects RX1 yX1_multiplyNaturally yX1_multiplyNaturally, Cond.code yX1_multiplyNaturally cX1_multiplyNaturally 6 none, Cond.methodLink RX1 34 yX5_clear, Cond.methodLink RX1 41 yX5_isTooGreat, Cond.methodLink RX1 45 yX5_countAt, Cond.methodLink RX1 49 yX5_append, Cond.methodLink RX1 53 yX5_appendNaturalSum, Cond.methodLink RX1 57 yX5_endOf, Cond.methodLink RX1 64 yX5_become, Cond.methodLink RL 193 yX13_naturalProduct, Cond.instanceMethod yX13_naturalProduct, Cond.selects RX13 yX13_naturalProduct yX13_naturalProduct, Cond.code yX13_naturalProduct cX13_naturalProduct 3 (some .int), Cond.methodLink RX13 279 yX13_allPairs, Cond.static yX13_allPairs, Cond.code yX13_allPairs cX13_allPairs 5 (some (.object "EpsilonhallModel$Ord")), Cond.methodLink RL 194 yL_takeOff]
def wsL_law0_r23 : List Cond := [Cond.static yL_takeOff, Cond.codeWith yL_takeOff cL_takeOff 5 (some .int) [(0, 10, 13, 21), (0, 10, 17, 23), (0, 10, 21, 15)], Cond.methodLink RL 37 yX10_takeOff, Cond.instanceMethod yX10_takeOff, Cond.selects RX10 yX10_takeOff yX10_takeOff, Cond.code yX10_takeOff cX10_takeOff 5 (some .int), Cond.methodLink RX10 109 yX5_comparison, Cond.methodLink RX10 120 yX5_becomeRest, Cond.instanceMethod yX5_becomeRest, Cond.selects RX5 yX5_becomeRest yX5_becomeRest, Cond.code yX5_becomeRest cX5_becomeRest 6 none, Cond.methodLink RL 196 yX13_takeOff, Cond.instanceMethod yX13_takeOff, Cond.selects RX13 yX13_takeOff yX13_takeOff, Cond.code yX13_takeOff cX13_takeOff 3 (some .int), Cond.methodLink RX13 138 yX13_rest, Cond.static yX13_rest, Cond.code yX13_rest cX13_rest 4 (some (.object "EpsilonhallModel$Ord")), Cond.methodLink RL 197 yL_row, Cond.static yL_row, Cond.codeWith yL_row cL_row 5 (some .int) [(0, 10, 13, 21), (0, 10, 17, 13), (0, 10, 21, 23), (0, 10, 25, 15)], Cond.methodLink RL 40 yX10_row, Cond.instanceMethod yX10_row, Cond.selects RX10 yX10_row yX10_row]
def wsL_law0_r24 : List Cond := [Cond.code yX10_row cX10_row 4 (some .int), Cond.methodLink RX10 123 yX8_told, Cond.instanceMethod yX8_told, Cond.selects RX8 yX8_told yX8_told, Cond.code yX8_told cX8_told 3 (some (.object "Epsilonhall$Ordinal")), Cond.methodLink RX8 28 yX5_become, Cond.methodLink RX8 32 yX5_goDown, Cond.instanceMethod yX5_goDown, Cond.selects RX5 yX5_goDown yX5_goDown, Cond.code yX5_goDown cX5_goDown 4 (some .boolean), Cond.methodLink RX5 90 yX5_lessen, Cond.instanceMethod yX5_lessen, Cond.selects RX5 yX5_lessen yX5_lessen, Cond.code yX5_lessen cX5_lessen 3 none, Cond.methodLink RX5 97 yX5_partOne, Cond.instanceMethod yX5_partOne, Cond.selects RX5 yX5_partOne yX5_partOne, Cond.code yX5_partOne cX5_partOne 4 none, Cond.methodLink RX5 94 yX5_lastAt, Cond.instanceMethod yX5_lastAt, Cond.selects RX5 yX5_lastAt yX5_lastAt, Cond.code yX5_lastAt cX5_lastAt 3 (some .int), Cond.methodLink RL 199 yX13_row, Cond.instanceMethod yX13_row]
def wsL_law0_r25 : List Cond := [Cond.selects RX13 yX13_row yX13_row, Cond.code yX13_row cX13_row 4 (some .int), Cond.constantLong RX13 282 (20), Cond.methodLink RX13 87 yX12_copy, Cond.instanceMethod yX12_copy, Cond.selects RX12 yX12_copy yX12_copy, Cond.code yX12_copy cX12_copy 1 (some (.object "EpsilonhallModel$Ord")), Cond.classLink RX12 13 RX12, Cond.methodLink RX12 62 yX12_init, Cond.methodLink RX12 63 yX12_behind, Cond.methodLink RX13 107 yX12_goesTo, Cond.instanceMethod yX12_goesTo, Cond.selects RX12 yX12_goesTo yX12_goesTo, Cond.code yX12_goesTo cX12_goesTo 5 none, Cond.methodLink RX12 90 yX12_lessens, Cond.instanceMethod yX12_lessens, Cond.selects RX12 yX12_lessens yX12_lessens, Cond.code yX12_lessens cX12_lessens 6 none, Cond.methodLink RX12 83 yJx4a65c_set_bcc79, Cond.instanceMethod yJx4a65c_set_bcc79, Cond.selects RJx4a65c yJx4a65c_set_bcc79 yJx4a65c_set_bcc79, Cond.code yJx4a65c_set_bcc79 cJx4a65c_set_bcc79 4 (some (.object "java/lang/Object")), Cond.methodLink RX12 87 yJx4a65c_remove_915e3, Cond.instanceMethod yJx4a65c_remove_915e3]
def wsL_law0_r26 : List Cond := [Cond.selects RJx4a65c yJx4a65c_remove_915e3 yJx4a65c_remove_915e3, Cond.code yJx4a65c_remove_915e3 cJx4a65c_remove_915e3 4 (some (.object "java/lang/Object")), Cond.methodLink RJx4a65c 144 yJx4a65c_fastRemove_b59b0, Cond.instanceMethod yJx4a65c_fastRemove_b59b0, Cond.selects RJx4a65c yJx4a65c_fastRemove_b59b0 yJx4a65c_fastRemove_b59b0, Cond.code yJx4a65c_fastRemove_b59b0 cJx4a65c_fastRemove_b59b0 4 none, Cond.methodLink RJx4a65c 112 arraycopyName, Cond.methodLink RX12 94 yX12_copy, Cond.methodLink RX12 98 yX12_goesTo, Cond.methodLink RX12 101 yX12_isLimit, Cond.instanceMethod yX12_isLimit, Cond.selects RX12 yX12_isLimit yX12_isLimit, Cond.code yX12_isLimit cX12_isLimit 1 (some .boolean), Cond.methodLink RL 200 yX10_ordinals, Cond.instanceMethod yX10_ordinals, Cond.selects RX10 yX10_ordinals yX10_ordinals, Cond.code yX10_ordinals cX10_ordinals 1 (some .int), Cond.methodLink RL 203 yX13_ordinals, Cond.instanceMethod yX13_ordinals, Cond.selects RX13 yX13_ordinals yX13_ordinals, Cond.code yX13_ordinals cX13_ordinals 1 (some .int), Cond.methodLink RL 204 yL_compare, Cond.static yL_compare, Cond.codeWith yL_compare cL_compare 5 (some .int) [(0, 10, 13, 21)]]
def wsL_law0_r27 : List Cond := [Cond.methodLink RL 43 yX10_compare, Cond.instanceMethod yX10_compare, Cond.selects RX10 yX10_compare yX10_compare, Cond.code yX10_compare cX10_compare 4 (some .char), Cond.methodLink RL 206 yX13_compare, Cond.instanceMethod yX13_compare, Cond.selects RX13 yX13_compare yX13_compare, Cond.code yX13_compare cX13_compare 4 (some .char), Cond.methodLink RL 207 yL_degree, Cond.static yL_degree, Cond.codeWith yL_degree cL_degree 4 (some .int) [(0, 9, 12, 21)], Cond.methodLink RL 47 yX10_degree, Cond.instanceMethod yX10_degree, Cond.selects RX10 yX10_degree yX10_degree, Cond.code yX10_degree cX10_degree 2 (some .int), Cond.methodLink RX10 131 yX5_height, Cond.methodLink RL 209 yX13_degree, Cond.instanceMethod yX13_degree, Cond.selects RX13 yX13_degree yX13_degree, Cond.code yX13_degree cX13_degree 2 (some .int), Cond.methodLink RX13 284 yX12_degree, Cond.methodLink RL 210 yL_size, Cond.static yL_size, Cond.codeWith yL_size cL_size 4 (some .int) [(0, 9, 12, 21)]]
def wsL_law0_r28 : List Cond := [Cond.methodLink RL 50 yX10_size, Cond.instanceMethod yX10_size, Cond.selects RX10 yX10_size yX10_size, Cond.code yX10_size cX10_size 2 (some .int), Cond.methodLink RL 212 yX13_size, Cond.instanceMethod yX13_size, Cond.selects RX13 yX13_size yX13_size, Cond.code yX13_size cX13_size 2 (some .int), Cond.methodLink RX13 287 yX12_size, Cond.methodLink RL 213 yL_isLimit, Cond.static yL_isLimit, Cond.codeWith yL_isLimit cL_isLimit 4 (some .int) [(0, 16, 19, 21)], Cond.methodLink RL 53 yX10_isLimit, Cond.instanceMethod yX10_isLimit, Cond.selects RX10 yX10_isLimit yX10_isLimit, Cond.code yX10_isLimit cX10_isLimit 3 (some .boolean), Cond.methodLink RX10 138 yX5_levelAt, Cond.methodLink RL 215 yX13_isLimit, Cond.instanceMethod yX13_isLimit, Cond.selects RX13 yX13_isLimit yX13_isLimit, Cond.code yX13_isLimit cX13_isLimit 2 (some .boolean), Cond.methodLink RX13 100 yX12_isLimit, Cond.methodLink RX13 288 yX13_tells, Cond.instanceMethod yX13_tells]
def wsL_law0_r29 : List Cond := [Cond.selects RX13 yX13_tells yX13_tells, Cond.code yX13_tells cX13_tells 2 (some .boolean), Cond.methodLink RX13 292 yX13_refuses, Cond.instanceMethod yX13_refuses, Cond.selects RX13 yX13_refuses yX13_refuses, Cond.code yX13_refuses cX13_refuses 2 (some .boolean), Cond.methodLink RL 216 yL_terms, Cond.static yL_terms, Cond.codeWith yL_terms cL_terms 4 (some .int) [(0, 9, 12, 21)], Cond.methodLink RL 57 yX10_terms, Cond.instanceMethod yX10_terms, Cond.selects RX10 yX10_terms yX10_terms, Cond.code yX10_terms cX10_terms 2 (some .int), Cond.methodLink RX10 142 yX5_countTerms, Cond.instanceMethod yX5_countTerms, Cond.selects RX5 yX5_countTerms yX5_countTerms, Cond.code yX5_countTerms cX5_countTerms 3 (some .int), Cond.methodLink RL 218 yX13_terms, Cond.instanceMethod yX13_terms, Cond.selects RX13 yX13_terms yX13_terms, Cond.code yX13_terms cX13_terms 2 (some .int), Cond.methodLink RL 219 yL_countOf, Cond.static yL_countOf, Cond.codeWith yL_countOf cL_countOf 5 (some .int) [(0, 10, 13, 21)]]
def wsL_law0_r30 : List Cond := [Cond.methodLink RL 60 yX10_countOf, Cond.instanceMethod yX10_countOf, Cond.selects RX10 yX10_countOf yX10_countOf, Cond.code yX10_countOf cX10_countOf 4 (some .int), Cond.methodLink RX10 145 yX10_knotOf, Cond.static yX10_knotOf, Cond.code yX10_knotOf cX10_knotOf 3 (some .int), Cond.methodLink RX10 360 yX5_knotOfTerm, Cond.instanceMethod yX5_knotOfTerm, Cond.selects RX5 yX5_knotOfTerm yX5_knotOfTerm, Cond.code yX5_knotOfTerm cX5_knotOfTerm 4 (some .int), Cond.methodLink RX10 149 yX5_countAt, Cond.methodLink RL 221 yX13_countOf, Cond.instanceMethod yX13_countOf, Cond.selects RX13 yX13_countOf yX13_countOf, Cond.code yX13_countOf cX13_countOf 3 (some .int), Cond.methodLink RX13 295 yX13_isTerm, Cond.instanceMethod yX13_isTerm, Cond.selects RX13 yX13_isTerm yX13_isTerm, Cond.code yX13_isTerm cX13_isTerm 3 (some .boolean), Cond.methodLink RL 222 yL_exponentOf, Cond.static yL_exponentOf, Cond.codeWith yL_exponentOf cL_exponentOf 5 (some .int) [(0, 10, 13, 21), (0, 10, 17, 15)], Cond.methodLink RL 63 yX10_exponentOf]
def wsL_law0_r31 : List Cond := [Cond.instanceMethod yX10_exponentOf, Cond.selects RX10 yX10_exponentOf yX10_exponentOf, Cond.code yX10_exponentOf cX10_exponentOf 5 (some .int), Cond.methodLink RL 224 yX13_exponentOf, Cond.instanceMethod yX13_exponentOf, Cond.selects RX13 yX13_exponentOf yX13_exponentOf, Cond.code yX13_exponentOf cX13_exponentOf 3 (some .int), Cond.methodLink RL 225 yL_length, Cond.static yL_length, Cond.codeWith yL_length cL_length 4 (some .int) [(0, 9, 12, 21)], Cond.methodLink RL 66 yX10_length, Cond.instanceMethod yX10_length, Cond.selects RX10 yX10_length yX10_length, Cond.code yX10_length cX10_length 2 (some .int), Cond.methodLink RX10 152 yX7_write, Cond.instanceMethod yX7_write, Cond.selects RX7 yX7_write yX7_write, Cond.code yX7_write cX7_write 2 none, Cond.fieldLink RX7 15 "Epsilonhall$Text" "used" "I", Cond.methodLink RX7 19 yX7_writeBelow, Cond.static yX7_writeBelow, Cond.code yX7_writeBelow cX7_writeBelow 6 none, Cond.methodLink RX7 28 yX5_isBare, Cond.methodLink RX7 24 yX7_add]
def wsL_law0_r32 : List Cond := [Cond.instanceMethod yX7_add, Cond.selects RX7 yX7_add yX7_add, Cond.code yX7_add cX7_add 2 none, Cond.methodLink RX7 34 yX5_endOf, Cond.methodLink RX7 38 yX7_writeTerm, Cond.static yX7_writeTerm, Cond.code yX7_writeTerm cX7_writeTerm 6 none, Cond.methodLink RX7 41 yX5_countAt, Cond.methodLink RX7 44 yX7_addDigits, Cond.instanceMethod yX7_addDigits, Cond.selects RX7 yX7_addDigits yX7_addDigits, Cond.code yX7_addDigits cX7_addDigits 3 none, Cond.constant RX7 23 (100000), Cond.methodLink RL 227 yX13_length, Cond.instanceMethod yX13_length, Cond.selects RX13 yX13_length yX13_length, Cond.code yX13_length cX13_length 2 (some .int), Cond.methodLink RX13 69 yX13_text, Cond.static yX13_text, Cond.code yX13_text cX13_text 6 (some (.object "java/lang/String")), Cond.classLink RX13 51 RJ4, Cond.instantiable RJ4 4, Cond.initialized RJ4, Cond.methodLink RX13 53 yJ4_init_da8c8]
def wsL_law0_r33 : List Cond := [Cond.instanceMethod yJ4_init_da8c8, Cond.code yJ4_init_da8c8 cJ4_init_da8c8 1 none, Cond.methodLink RJ4 1 yJ5_init_d00df, Cond.instanceMethod yJ5_init_d00df, Cond.initialized RJ5, Cond.code yJ5_init_d00df cJ5_init_d00df 2 none, Cond.methodLink RJ5 3 objectInit, Cond.fieldLink RJ5 18 "java/lang/String" "COMPACT_STRINGS" "Z", Cond.arrayClass .byte, Cond.fieldLink RJ5 15 "java/lang/AbstractStringBuilder" "value" "[B", Cond.fieldLink RJ5 22 "java/lang/AbstractStringBuilder" "coder" "B", Cond.methodLink RJ5 26 yJ2_newBytesFor_77867, Cond.static yJ2_newBytesFor_77867, Cond.initialized RJ2, Cond.code yJ2_newBytesFor_77867 cJ2_newBytesFor_77867 1 (some (.array .byte)), Cond.methodLink RJ2 11 yJ2_newBytesLength_0f7a4, Cond.static yJ2_newBytesLength_0f7a4, Cond.code yJ2_newBytesLength_0f7a4 cJ2_newBytesLength_0f7a4 1 (some .int), Cond.constant RJ2 20 (1073741823), Cond.methodLink RX13 54 yJ4_append_15ec4, Cond.instanceMethod yJ4_append_15ec4, Cond.selects RJ4 yJ4_append_15ec4 yJ4_append_15ec4, Cond.code yJ4_append_15ec4 cJ4_append_15ec4 2 (some (.object "java/lang/StringBuilder")), Cond.methodLink RJ4 29 yJ5_append_cf1ce]
def wsL_law0_r34 : List Cond := [Cond.sameMethod "java/lang/AbstractStringBuilder" "java/lang/AbstractStringBuilder" "append" "(Ljava/lang/String;)Ljava/lang/AbstractStringBuilder;", Cond.superclass RJ4 RJ5, Cond.instanceMethod yJ5_append_cf1ce, Cond.code yJ5_append_cf1ce cJ5_append_cf1ce 3 (some (.object "java/lang/AbstractStringBuilder")), Cond.fieldLink RJ5 79 "java/lang/AbstractStringBuilder" "count" "I", Cond.methodLink RJ5 204 ⟨"java/lang/AbstractStringBuilder", "appendNull", "()Ljava/lang/AbstractStringBuilder;"⟩, Cond.sameMethod "java/lang/AbstractStringBuilder" "java/lang/AbstractStringBuilder" "appendNull" "()Ljava/lang/AbstractStringBuilder;", Cond.selects RJ4 ⟨"java/lang/AbstractStringBuilder", "appendNull", "()Ljava/lang/AbstractStringBuilder;"⟩ yJ5_appendNull_278bc, Cond.instanceMethod yJ5_appendNull_278bc, Cond.code yJ5_appendNull_278bc cJ5_appendNull_278bc 3 (some (.object "java/lang/AbstractStringBuilder")), Cond.methodLink RJ5 100 ⟨"java/lang/AbstractStringBuilder", "ensureCapacityInternal", "(I)V"⟩, Cond.sameMethod "java/lang/AbstractStringBuilder" "java/lang/AbstractStringBuilder" "ensureCapacityInternal" "(I)V", Cond.selects RJ4 ⟨"java/lang/AbstractStringBuilder", "ensureCapacityInternal", "(I)V"⟩ yJ5_ensureCapacityInternal_d00df, Cond.instanceMethod yJ5_ensureCapacityInternal_d00df, Cond.code yJ5_ensureCapacityInternal_d00df cJ5_ensureCapacityInternal_d00df 3 none, Cond.methodLink RJ5 104 ⟨"java/lang/AbstractStringBuilder", "newCapacity", "(I)I"⟩, Cond.sameMethod "java/lang/AbstractStringBuilder" "java/lang/AbstractStringBuilder" "newCapacity" "(I)I", Cond.selects RJ4 ⟨"java/lang/AbstractStringBuilder", "newCapacity", "(I)I"⟩ yJ5_newCapacity_0f7a4, Cond.instanceMethod yJ5_newCapacity_0f7a4, Cond.code yJ5_newCapacity_0f7a4 cJ5_newCapacity_0f7a4 6 (some .int), Cond.constant RJ5 39 (2147483647), Cond.methodLink RJ5 114 yJ8_newLength_cabcc, Cond.methodLink RJ5 108 yJ7_copyOf_9075b, Cond.static yJ7_copyOf_9075b]
def wsL_law0_r35 : List Cond := [Cond.code yJ7_copyOf_9075b cJ7_copyOf_9075b 3 (some (.array .byte)), Cond.methodLink RJ7 310 ⟨"[B", "clone", "()Ljava/lang/Object;"⟩, Cond.sameMethod "[B" "java/lang/Object" "clone" "()Ljava/lang/Object;", Cond.native ⟨"java/lang/Object", "clone", "()Ljava/lang/Object;"⟩, Cond.instanceMethod ⟨"java/lang/Object", "clone", "()Ljava/lang/Object;"⟩, Cond.selects "[B" ⟨"[B", "clone", "()Ljava/lang/Object;"⟩ ⟨"java/lang/Object", "clone", "()Ljava/lang/Object;"⟩, Cond.classLink RJ7 311 "[B", Cond.methodLink RJ5 83 ⟨"java/lang/AbstractStringBuilder", "isLatin1", "()Z"⟩, Cond.sameMethod "java/lang/AbstractStringBuilder" "java/lang/AbstractStringBuilder" "isLatin1" "()Z", Cond.selects RJ4 ⟨"java/lang/AbstractStringBuilder", "isLatin1", "()Z"⟩ yJ5_isLatin1_aae02, Cond.instanceMethod yJ5_isLatin1_aae02, Cond.code yJ5_isLatin1_aae02 cJ5_isLatin1_aae02 1 (some .boolean), Cond.methodLink RJ5 226 yJ2_putCharsAt_cd4e5, Cond.static yJ2_putCharsAt_cd4e5, Cond.code yJ2_putCharsAt_cd4e5 cJ2_putCharsAt_cd4e5 7 (some .int), Cond.fieldLink RJ2 44 "java/lang/StringUTF16" "$assertionsDisabled" "Z", Cond.methodLink RJ2 96 yJ2_checkBoundsBeginEnd_d044e, Cond.static yJ2_checkBoundsBeginEnd_d044e, Cond.code yJ2_checkBoundsBeginEnd_d044e cJ2_checkBoundsBeginEnd_d044e 3 none, Cond.methodLink RJ2 48 yJ2_length_9d52b, Cond.static yJ2_length_9d52b, Cond.code yJ2_length_9d52b cJ2_length_9d52b 1 (some .int), Cond.methodLink RJ2 241 yJ0_checkBoundsBeginEnd_23922, Cond.static yJ0_checkBoundsBeginEnd_23922]
def wsL_law0_r36 : List Cond := [Cond.initialized RJ0, Cond.code yJ0_checkBoundsBeginEnd_23922 cJ0_checkBoundsBeginEnd_23922 3 none, Cond.fieldLink RJ0 1053 "jdk/internal/util/Preconditions" "SIOOBE_FORMATTER" "Ljava/util/function/BiFunction;", Cond.methodLink RJ0 1062 yJ3_checkFromToIndex_8c36e, Cond.static yJ3_checkFromToIndex_8c36e, Cond.code yJ3_checkFromToIndex_8c36e cJ3_checkFromToIndex_8c36e 4 (some .int), Cond.methodLink RJ2 111 yJ2_putChar_b72d1, Cond.static yJ2_putChar_b72d1, Cond.code yJ2_putChar_b72d1 cJ2_putChar_b72d1 3 none, Cond.fieldLink RJ2 59 "java/lang/StringUTF16" "HI_BYTE_SHIFT" "I", Cond.fieldLink RJ2 63 "java/lang/StringUTF16" "LO_BYTE_SHIFT" "I", Cond.methodLink RJ5 32 yJ0_length_8abf5, Cond.instanceMethod yJ0_length_8abf5, Cond.selects RJ0 yJ0_length_8abf5 yJ0_length_8abf5, Cond.code yJ0_length_8abf5 cJ0_length_8abf5 1 (some .int), Cond.fieldLink RJ0 9 "java/lang/String" "value" "[B", Cond.methodLink RJ0 335 yJ0_coder_7d493, Cond.instanceMethod yJ0_coder_7d493, Cond.selects RJ0 yJ0_coder_7d493 yJ0_coder_7d493, Cond.code yJ0_coder_7d493 cJ0_coder_7d493 1 (some .byte), Cond.fieldLink RJ0 38 "java/lang/String" "COMPACT_STRINGS" "Z", Cond.fieldLink RJ0 15 "java/lang/String" "coder" "B", Cond.methodLink RJ5 208 ⟨"java/lang/AbstractStringBuilder", "putStringAt", "(ILjava/lang/String;)V"⟩, Cond.sameMethod "java/lang/AbstractStringBuilder" "java/lang/AbstractStringBuilder" "putStringAt" "(ILjava/lang/String;)V"]
def wsL_law0_r37 : List Cond := [Cond.selects RJ4 ⟨"java/lang/AbstractStringBuilder", "putStringAt", "(ILjava/lang/String;)V"⟩ yJ5_putStringAt_47b60, Cond.instanceMethod yJ5_putStringAt_47b60, Cond.code yJ5_putStringAt_47b60 cJ5_putStringAt_47b60 3 none, Cond.methodLink RJ5 397 ⟨"java/lang/AbstractStringBuilder", "inflateIfNeededFor", "(Ljava/lang/String;)V"⟩, Cond.sameMethod "java/lang/AbstractStringBuilder" "java/lang/AbstractStringBuilder" "inflateIfNeededFor" "(Ljava/lang/String;)V", Cond.selects RJ4 ⟨"java/lang/AbstractStringBuilder", "inflateIfNeededFor", "(Ljava/lang/String;)V"⟩ yJ5_inflateIfNeededFor_a7421, Cond.instanceMethod yJ5_inflateIfNeededFor_a7421, Cond.code yJ5_inflateIfNeededFor_a7421 cJ5_inflateIfNeededFor_a7421 2 none, Cond.methodLink RJ5 40 yJ0_coder_7d493, Cond.methodLink RJ5 195 ⟨"java/lang/AbstractStringBuilder", "inflate", "()V"⟩, Cond.sameMethod "java/lang/AbstractStringBuilder" "java/lang/AbstractStringBuilder" "inflate" "()V", Cond.selects RJ4 ⟨"java/lang/AbstractStringBuilder", "inflate", "()V"⟩ yJ5_inflate_da8c8, Cond.instanceMethod yJ5_inflate_da8c8, Cond.code yJ5_inflate_da8c8 cJ5_inflate_da8c8 2 none, Cond.methodLink RJ5 125 yJ1_inflate_0e8fd, Cond.static yJ1_inflate_0e8fd, Cond.initialized RJ1, Cond.code yJ1_inflate_0e8fd cJ1_inflate_0e8fd 5 none, Cond.methodLink RJ1 240 yJ2_inflate_0e8fd, Cond.static yJ2_inflate_0e8fd, Cond.code yJ2_inflate_0e8fd cJ2_inflate_0e8fd 6 none, Cond.methodLink RJ2 173 yJ2_checkBoundsOffCount_d044e, Cond.static yJ2_checkBoundsOffCount_d044e, Cond.code yJ2_checkBoundsOffCount_d044e cJ2_checkBoundsOffCount_d044e 3 none]
def wsL_law0_r38 : List Cond := [Cond.methodLink RJ2 419 yJ0_checkBoundsOffCount_cabcc, Cond.static yJ0_checkBoundsOffCount_cabcc, Cond.code yJ0_checkBoundsOffCount_cabcc cJ0_checkBoundsOffCount_cabcc 3 (some .int), Cond.methodLink RJ0 1065 yJ3_checkFromIndexSize_8c36e, Cond.static yJ3_checkFromIndexSize_8c36e, Cond.code yJ3_checkFromIndexSize_8c36e cJ3_checkFromIndexSize_8c36e 4 (some .int), Cond.methodLink RJ5 399 yJ0_getBytes_840e7, Cond.instanceMethod yJ0_getBytes_840e7, Cond.selects RJ0 yJ0_getBytes_840e7 yJ0_getBytes_840e7, Cond.code yJ0_getBytes_840e7 cJ0_getBytes_840e7 4 none, Cond.methodLink RJ0 212 arraycopyName, Cond.methodLink RJ0 106 yJ1_inflate_0e8fd, Cond.methodLink RX13 58 yJ4_append_f7089, Cond.instanceMethod yJ4_append_f7089, Cond.selects RJ4 yJ4_append_f7089 yJ4_append_f7089, Cond.code yJ4_append_f7089 cJ4_append_f7089 3 (some (.object "java/lang/StringBuilder")), Cond.methodLink RJ4 56 yJ5_append_66267, Cond.sameMethod "java/lang/AbstractStringBuilder" "java/lang/AbstractStringBuilder" "append" "(J)Ljava/lang/AbstractStringBuilder;", Cond.instanceMethod yJ5_append_66267, Cond.code yJ5_append_66267 cJ5_append_66267 5 (some (.object "java/lang/AbstractStringBuilder")), Cond.methodLink RJ5 254 yJ13_stringSize_95d88, Cond.static yJ13_stringSize_95d88, Cond.code yJ13_stringSize_95d88 cJ13_stringSize_95d88 6 (some .int), Cond.constantLong RJ13 140 (-10)]
def wsL_law0_r39 : List Cond := [Cond.constantLong RJ13 53 (10), Cond.methodLink RJ5 259 yJ13_getChars_11360, Cond.static yJ13_getChars_11360, Cond.code yJ13_getChars_11360 cJ13_getChars_11360 11 (some .int), Cond.constantLong RJ13 129 (-2147483648), Cond.constantLong RJ13 131 (100), Cond.fieldLink RJ13 133 "java/lang/Integer" "DigitOnes" "[B", Cond.fieldLink RJ13 137 "java/lang/Integer" "DigitTens" "[B", Cond.methodLink RJ5 262 yJ2_getChars_1ba55, Cond.static yJ2_getChars_1ba55, Cond.code yJ2_getChars_1ba55 cJ2_getChars_1ba55 6 (some .int), Cond.methodLink RJ2 396 yJ2_getChars_11360, Cond.static yJ2_getChars_11360, Cond.code yJ2_getChars_11360 cJ2_getChars_11360 11 (some .int), Cond.constantLong RJ2 410 (-2147483648), Cond.constantLong RJ2 412 (100), Cond.fieldLink RJ2 403 "java/lang/Integer" "DigitOnes" "[B", Cond.fieldLink RJ2 407 "java/lang/Integer" "DigitTens" "[B", Cond.methodLink RX13 61 yJ4_toString_0e30d, Cond.instanceMethod yJ4_toString_0e30d, Cond.selects RJ4 yJ4_toString_0e30d yJ4_toString_0e30d, Cond.code yJ4_toString_0e30d cJ4_toString_0e30d 1 (some (.object "java/lang/String")), Cond.classLink RJ4 18 RJ0, Cond.instantiable RJ0 4]
def wsL_law0_r40 : List Cond := [Cond.methodLink RJ4 137 yJ0_init_81219, Cond.instanceMethod yJ0_init_81219, Cond.code yJ0_init_81219 cJ0_init_81219 2 none, Cond.methodLink RJ0 489 yJ0_init_db425, Cond.instanceMethod yJ0_init_db425, Cond.code yJ0_init_db425 cJ0_init_db425 5 none, Cond.methodLink RJ0 1 objectInit, Cond.fieldLink RJ0 1048 "java/lang/AbstractStringBuilder" "maybeLatin1" "Z", Cond.methodLink RJ0 552 ⟨"java/lang/AbstractStringBuilder", "getValue", "()[B"⟩, Cond.sameMethod "java/lang/AbstractStringBuilder" "java/lang/AbstractStringBuilder" "getValue" "()[B", Cond.selects RJ4 ⟨"java/lang/AbstractStringBuilder", "getValue", "()[B"⟩ yJ5_getValue_6d5f1, Cond.instanceMethod yJ5_getValue_6d5f1, Cond.code yJ5_getValue_6d5f1 cJ5_getValue_6d5f1 1 (some (.array .byte)), Cond.methodLink RJ0 549 ⟨"java/lang/AbstractStringBuilder", "length", "()I"⟩, Cond.sameMethod "java/lang/AbstractStringBuilder" "java/lang/AbstractStringBuilder" "length" "()I", Cond.instanceMethod ⟨"java/lang/AbstractStringBuilder", "length", "()I"⟩, Cond.selects RJ4 ⟨"java/lang/AbstractStringBuilder", "length", "()I"⟩ yJ4_length_8abf5, Cond.instanceMethod yJ4_length_8abf5, Cond.code yJ4_length_8abf5 cJ4_length_8abf5 1 (some .int), Cond.methodLink RJ4 343 yJ5_length_8abf5, Cond.instanceMethod yJ5_length_8abf5, Cond.code yJ5_length_8abf5 cJ5_length_8abf5 1 (some .int), Cond.methodLink RJ0 1047 ⟨"java/lang/AbstractStringBuilder", "isLatin1", "()Z"⟩, Cond.methodLink RJ0 54 yJ7_copyOfRange_39247]
def wsL_law0_r41 : List Cond := [Cond.static yJ7_copyOfRange_39247, Cond.code yJ7_copyOfRange_39247 cJ7_copyOfRange_39247 3 (some (.array .byte)), Cond.methodLink RJ7 339 yJ7_copyOfRangeByte_39247, Cond.static yJ7_copyOfRangeByte_39247, Cond.code yJ7_copyOfRangeByte_39247 cJ7_copyOfRangeByte_39247 5 (some (.array .byte)), Cond.methodLink RJ7 343 yJ7_checkLength_df160, Cond.static yJ7_checkLength_df160, Cond.code yJ7_checkLength_df160 cJ7_checkLength_df160 2 none, Cond.classLink RJ7 45 RJ4, Cond.methodLink RJ0 1051 yJ2_compress_39247, Cond.static yJ2_compress_39247, Cond.code yJ2_compress_39247 cJ2_compress_39247 6 (some (.array .byte)), Cond.methodLink RJ2 123 yJ2_compress_5af95, Cond.static yJ2_compress_5af95, Cond.code yJ2_compress_5af95 cJ2_compress_5af95 7 (some .int), Cond.methodLink RJ2 71 yJ2_getChar_3b067, Cond.static yJ2_getChar_3b067, Cond.code yJ2_getChar_3b067 cJ2_getChar_3b067 2 (some .char), Cond.methodLink RJ2 126 yJ7_copyOfRange_39247, Cond.methodLink RJ0 47 yJ2_coderFromArrayLen_85cad, Cond.static yJ2_coderFromArrayLen_85cad, Cond.code yJ2_coderFromArrayLen_85cad cJ2_coderFromArrayLen_85cad 2 (some .byte), Cond.methodLink RX13 299 yJ0_length_8abf5, Cond.methodLink RL 228 yL_signAt]
def wsL_law0_r42 : List Cond := [Cond.static yL_signAt, Cond.codeWith yL_signAt cL_signAt 5 (some .int) [(0, 10, 13, 21)], Cond.methodLink RL 69 yX10_signAt, Cond.instanceMethod yX10_signAt, Cond.selects RX10 yX10_signAt yX10_signAt, Cond.code yX10_signAt cX10_signAt 3 (some .char), Cond.methodLink RX10 162 yX7_sign, Cond.instanceMethod yX7_sign, Cond.selects RX7 yX7_sign yX7_sign, Cond.code yX7_sign cX7_sign 2 (some .char), Cond.methodLink RL 230 yX13_signAt, Cond.instanceMethod yX13_signAt, Cond.selects RX13 yX13_signAt yX13_signAt, Cond.code yX13_signAt cX13_signAt 3 (some .char), Cond.methodLink RX13 304 yJ0_charAt_5068e, Cond.instanceMethod yJ0_charAt_5068e, Cond.selects RJ0 yJ0_charAt_5068e yJ0_charAt_5068e, Cond.code yJ0_charAt_5068e cJ0_charAt_5068e 2 (some .char), Cond.methodLink RJ0 492 yJ0_isLatin1_aae02, Cond.instanceMethod yJ0_isLatin1_aae02, Cond.selects RJ0 yJ0_isLatin1_aae02 yJ0_isLatin1_aae02, Cond.code yJ0_isLatin1_aae02 cJ0_isLatin1_aae02 1 (some .boolean), Cond.methodLink RJ0 495 yJ1_charAt_3b067, Cond.static yJ1_charAt_3b067]
def wsL_law0_r43 : List Cond := [Cond.code yJ1_charAt_3b067 cJ1_charAt_3b067 2 (some .char), Cond.methodLink RJ1 9 yJ0_checkIndex_df160, Cond.static yJ0_checkIndex_df160, Cond.code yJ0_checkIndex_df160 cJ0_checkIndex_df160 2 none, Cond.methodLink RJ0 1059 yJ3_checkIndex_8e157, Cond.methodLink RJ0 498 yJ2_charAt_3b067, Cond.static yJ2_charAt_3b067, Cond.code yJ2_charAt_3b067 cJ2_charAt_3b067 2 (some .char), Cond.methodLink RJ2 67 yJ2_checkIndex_2214a, Cond.static yJ2_checkIndex_2214a, Cond.code yJ2_checkIndex_2214a cJ2_checkIndex_2214a 2 none, Cond.methodLink RJ2 414 yJ0_checkIndex_df160, Cond.methodLink RL 231 yL_slow, Cond.static yL_slow, Cond.codeWith yL_slow cL_slow 5 (some .int) [(0, 10, 13, 21), (0, 10, 17, 13), (0, 10, 21, 23)], Cond.methodLink RL 72 yX10_slow, Cond.instanceMethod yX10_slow, Cond.selects RX10 yX10_slow yX10_slow, Cond.code yX10_slow cX10_slow 4 (some .int), Cond.methodLink RX10 166 yX8_goToZero, Cond.instanceMethod yX8_goToZero, Cond.selects RX8 yX8_goToZero yX8_goToZero, Cond.code yX8_goToZero cX8_goToZero 8 (some .boolean), Cond.fieldLink RX8 36 "Epsilonhall$Walk" "number" "I"]
def wsL_law0_r44 : List Cond := [Cond.fieldLink RX8 40 "Epsilonhall$Walk" "steps" "I", Cond.fieldLink RX8 43 "Epsilonhall$Walk" "lessened" "I", Cond.methodLink RX8 49 yX5_dropNumber, Cond.instanceMethod yX5_dropNumber, Cond.selects RX5 yX5_dropNumber yX5_dropNumber, Cond.code yX5_dropNumber cX5_dropNumber 2 (some .int), Cond.methodLink RX10 173 yX10_reached, Cond.static yX10_reached, Cond.code yX10_reached cX10_reached 2 (some .int), Cond.constant RX10 371 (1000000), Cond.methodLink RL 233 yX13_slow, Cond.instanceMethod yX13_slow, Cond.selects RX13 yX13_slow yX13_slow, Cond.code yX13_slow cX13_slow 3 (some .int), Cond.methodLink RX13 308 yX13_isAsked, Cond.instanceMethod yX13_isAsked, Cond.selects RX13 yX13_isAsked yX13_isAsked, Cond.code yX13_isAsked cX13_isAsked 4 (some .boolean), Cond.methodLink RX13 312 yX13_slowOf, Cond.instanceMethod yX13_slowOf, Cond.selects RX13 yX13_slowOf yX13_slowOf, Cond.code yX13_slowOf cX13_slowOf 9 (some .long), Cond.fieldLink RX13 79 "EpsilonhallModel" "uses" "J", Cond.constantLong RX13 98 (-1)]
def wsL_law0_r45 : List Cond := [Cond.methodLink RX13 91 yX13_isBeyond, Cond.instanceMethod yX13_isBeyond, Cond.selects RX13 yX13_isBeyond yX13_isBeyond, Cond.code yX13_isBeyond cX13_isBeyond 3 (some .boolean), Cond.constantLong RX13 83 (20000), Cond.constantLong RX13 85 (1000000), Cond.methodLink RX13 103 yX12_lessens, Cond.methodLink RX13 315 yX13_told, Cond.instanceMethod yX13_told, Cond.selects RX13 yX13_told yX13_told, Cond.code yX13_told cX13_told 3 (some .int), Cond.methodLink RL 234 yL_hardy, Cond.static yL_hardy, Cond.codeWith yL_hardy cL_hardy 5 (some .int) [(0, 10, 13, 21), (0, 10, 17, 13), (0, 10, 21, 23)], Cond.methodLink RL 75 yX10_hardy, Cond.instanceMethod yX10_hardy, Cond.selects RX10 yX10_hardy yX10_hardy, Cond.code yX10_hardy cX10_hardy 4 (some .int), Cond.methodLink RL 236 yX13_hardy, Cond.instanceMethod yX13_hardy, Cond.selects RX13 yX13_hardy yX13_hardy, Cond.code yX13_hardy cX13_hardy 3 (some .int), Cond.methodLink RX13 319 yX13_hardyOf, Cond.instanceMethod yX13_hardyOf]
def wsL_law0_r46 : List Cond := [Cond.selects RX13 yX13_hardyOf yX13_hardyOf, Cond.code yX13_hardyOf cX13_hardyOf 9 (some .long), Cond.methodLink RL 237 yL_fast, Cond.static yL_fast, Cond.codeWith yL_fast cL_fast 5 (some .int) [(0, 10, 13, 21), (0, 10, 17, 13), (0, 10, 21, 23)], Cond.methodLink RL 78 yX10_fast, Cond.instanceMethod yX10_fast, Cond.selects RX10 yX10_fast yX10_fast, Cond.code yX10_fast cX10_fast 4 (some .int), Cond.methodLink RX10 180 yX8_growFast, Cond.instanceMethod yX8_growFast, Cond.selects RX8 yX8_growFast yX8_growFast, Cond.code yX8_growFast cX8_growFast 6 (some .boolean), Cond.fieldLink RX8 53 "Epsilonhall$Walk" "uses" "I", Cond.fieldLink RX8 56 "Epsilonhall$Walk" "open" "I", Cond.constant RX8 67 (1000000), Cond.methodLink RX8 59 yX5_levelAt, Cond.methodLink RX8 63 yX8_isToldAtOnce, Cond.instanceMethod yX8_isToldAtOnce, Cond.selects RX8 yX8_isToldAtOnce yX8_isToldAtOnce, Cond.code yX8_isToldAtOnce cX8_isToldAtOnce 1 (some .boolean), Cond.methodLink RX8 74 yX5_countAt, Cond.methodLink RX8 68 yX8_takeFrame, Cond.instanceMethod yX8_takeFrame]
def wsL_law0_r47 : List Cond := [Cond.selects RX8 yX8_takeFrame yX8_takeFrame, Cond.code yX8_takeFrame cX8_takeFrame 3 (some .boolean), Cond.methodLink RX8 71 yX8_addFrame, Cond.instanceMethod yX8_addFrame, Cond.selects RX8 yX8_addFrame yX8_addFrame, Cond.code yX8_addFrame cX8_addFrame 2 (some .boolean), Cond.methodLink RL 239 yX13_fast, Cond.instanceMethod yX13_fast, Cond.selects RX13 yX13_fast yX13_fast, Cond.code yX13_fast cX13_fast 3 (some .int), Cond.methodLink RX13 322 yX13_fastOf, Cond.instanceMethod yX13_fastOf, Cond.selects RX13 yX13_fastOf yX13_fastOf, Cond.code yX13_fastOf cX13_fastOf 5 (some .long), Cond.constantLong RX13 110 (2), Cond.methodLink RX13 118 yX13_fastFrom, Cond.instanceMethod yX13_fastFrom, Cond.selects RX13 yX13_fastFrom yX13_fastFrom, Cond.code yX13_fastFrom cX13_fastFrom 8 (some .long), Cond.methodLink RX13 114 yX13_fastNumber, Cond.instanceMethod yX13_fastNumber, Cond.selects RX13 yX13_fastNumber yX13_fastNumber, Cond.code yX13_fastNumber cX13_fastNumber 9 (some .long), Cond.constantLong RX13 112 (3)]
def wsL_law0_r48 : List Cond := [Cond.methodLink RL 240 yL_stepsDown, Cond.static yL_stepsDown, Cond.codeWith yL_stepsDown cL_stepsDown 5 (some .int) [(0, 10, 13, 21), (0, 10, 17, 13), (0, 10, 21, 23)], Cond.methodLink RL 81 yX10_stepsDown, Cond.instanceMethod yX10_stepsDown, Cond.selects RX10 yX10_stepsDown yX10_stepsDown, Cond.code yX10_stepsDown cX10_stepsDown 4 (some .int), Cond.methodLink RL 242 yX13_stepsDown, Cond.instanceMethod yX13_stepsDown, Cond.selects RX13 yX13_stepsDown yX13_stepsDown, Cond.code yX13_stepsDown cX13_stepsDown 3 (some .int), Cond.methodLink RX13 325 yX13_stepsOf, Cond.instanceMethod yX13_stepsOf, Cond.selects RX13 yX13_stepsOf yX13_stepsOf, Cond.code yX13_stepsOf cX13_stepsOf 11 (some .long), Cond.methodLink RL 243 yL_put, Cond.static yL_put, Cond.codeWith yL_put cL_put 4 (some .int) [(0, 9, 12, 13), (0, 9, 15, 15)], Cond.methodLink RL 84 yX10_put, Cond.instanceMethod yX10_put, Cond.selects RX10 yX10_put yX10_put, Cond.code yX10_put cX10_put 2 (some .int), Cond.fieldLink RX10 187 "Epsilonhall" "buffered" "I", Cond.methodLink RL 245 yX13_put]
def wsL_law0_r49 : List Cond := [Cond.instanceMethod yX13_put, Cond.selects RX13 yX13_put yX13_put, Cond.code yX13_put cX13_put 2 (some .int), Cond.constantLong RX13 328 (11), Cond.fieldLink RX13 330 "EpsilonhallModel" "put" "I", Cond.methodLink RL 246 yL_worm, Cond.static yL_worm, Cond.codeWith yL_worm cL_worm 3 (some .int) [(0, 8, 11, 13), (0, 8, 14, 15)], Cond.methodLink RL 87 yX10_worm, Cond.instanceMethod yX10_worm, Cond.selects RX10 yX10_worm yX10_worm, Cond.code yX10_worm cX10_worm 2 (some .int), Cond.classLink RX10 196 RX9, Cond.instantiable RX9 6, Cond.initialized RX9, Cond.methodLink RX10 195 yX9_isWorm, Cond.static yX9_isWorm, Cond.code yX9_isWorm cX9_isWorm 3 (some .boolean), Cond.methodLink RX10 206 yX10_checkRoomForGame, Cond.instanceMethod yX10_checkRoomForGame, Cond.selects RX10 yX10_checkRoomForGame yX10_checkRoomForGame, Cond.code yX10_checkRoomForGame cX10_checkRoomForGame 1 none, Cond.fieldLink RX10 343 "Epsilonhall" "gamesKept" "I", Cond.methodLink RX10 209 yX9_init]
def wsL_law0_r50 : List Cond := [Cond.instanceMethod yX9_init, Cond.code yX9_init cX9_init 4 none, Cond.fieldLink RX9 9 "Epsilonhall$Worm" "numbers" "[I", Cond.fieldLink RX9 15 "Epsilonhall$Worm" "used" "I", Cond.instanceMethod yX3_init, Cond.initialized RX3, Cond.code yX3_init cX3_init 1 none, Cond.methodLink RX3 3 objectInit, Cond.fieldLink RX3 9 "Epsilonhall$Game" "fell" "Z", Cond.classLink RX3 15 RX5, Cond.fieldLink RX3 20 "Epsilonhall$Game" "ordinal" "LEpsilonhall$Ordinal;", Cond.methodLink RX3 17 yX5_init, Cond.methodLink RX10 212 ⟨"Epsilonhall$Game", "weighFirst", "(LEpsilonhall$Bench;)V"⟩, Cond.sameMethod "Epsilonhall$Game" "Epsilonhall$Game" "weighFirst" "(LEpsilonhall$Bench;)V", Cond.selects RX0 ⟨"Epsilonhall$Game", "weighFirst", "(LEpsilonhall$Bench;)V"⟩ yX3_weighFirst, Cond.instanceMethod yX3_weighFirst, Cond.code yX3_weighFirst cX3_weighFirst 2 none, Cond.fieldLink RX3 28 "Epsilonhall$Game" "great" "Z", Cond.methodLink RX3 24 ⟨"Epsilonhall$Game", "weigh", "(LEpsilonhall$Bench;)Z"⟩, Cond.sameMethod "Epsilonhall$Game" "Epsilonhall$Game" "weigh" "(LEpsilonhall$Bench;)Z", Cond.selects RX0 ⟨"Epsilonhall$Game", "weigh", "(LEpsilonhall$Bench;)Z"⟩ yX0_weigh, Cond.instanceMethod yX0_weigh, Cond.initialized RX0, Cond.code yX0_weigh cX0_weigh 2 (some .boolean)]
def wsL_law0_r51 : List Cond := [Cond.fieldLink RX0 9 "Epsilonhall$Bases" "number" "J", Cond.fieldLink RX0 15 "Epsilonhall$Bases" "made" "I", Cond.sameField "Epsilonhall$Bases" "Epsilonhall$Game" "made" "I", Cond.methodLink RX0 41 yX0_weighNumber, Cond.static yX0_weighNumber, Cond.code yX0_weighNumber cX0_weighNumber 13 (some .boolean), Cond.methodLink RX0 45 yX1_rowOf, Cond.instanceMethod yX1_rowOf, Cond.selects RX1 yX1_rowOf yX1_rowOf, Cond.code yX1_rowOf cX1_rowOf 3 (some (.object "Epsilonhall$Ordinal")), Cond.methodLink RX0 51 yX5_clear, Cond.methodLink RX0 56 yX5_append, Cond.methodLink RX0 60 yX5_appendBelow, Cond.methodLink RX0 64 yX5_isTooGreat, Cond.selects RX4 ⟨"Epsilonhall$Game", "weigh", "(LEpsilonhall$Bench;)Z"⟩ yX4_weigh, Cond.instanceMethod yX4_weigh, Cond.initialized RX4, Cond.code yX4_weigh cX4_weigh 3 (some .boolean), Cond.fieldLink RX4 21 "Epsilonhall$Hydra" "given" "I", Cond.methodLink RX4 65 yX1_forgetTree, Cond.instanceMethod yX1_forgetTree, Cond.selects RX1 yX1_forgetTree yX1_forgetTree, Cond.code yX1_forgetTree cX1_forgetTree 3 none, Cond.methodLink RX4 32 yX4_held]
def wsL_law0_r52 : List Cond := [Cond.instanceMethod yX4_held, Cond.selects RX4 yX4_held yX4_held, Cond.code yX4_held cX4_held 2 (some .int), Cond.fieldLink RX4 9 "Epsilonhall$Hydra" "parents" "[I", Cond.methodLink RX4 70 yX1_noteTwig, Cond.instanceMethod yX1_noteTwig, Cond.selects RX1 yX1_noteTwig yX1_noteTwig, Cond.code yX1_noteTwig cX1_noteTwig 3 none, Cond.methodLink RX1 68 yX1_isRoom, Cond.static yX1_isRoom, Cond.code yX1_isRoom cX1_isRoom 1 (some .boolean), Cond.methodLink RX4 73 yX4_weighKnot, Cond.static yX4_weighKnot, Cond.code yX4_weighKnot cX4_weighKnot 6 (some .boolean), Cond.methodLink RX4 77 yX1_rowOf, Cond.methodLink RX4 81 yX5_clear, Cond.methodLink RX4 86 yX1_firstTwig, Cond.instanceMethod yX1_firstTwig, Cond.selects RX1 yX1_firstTwig yX1_firstTwig, Cond.code yX1_firstTwig cX1_firstTwig 2 (some .int), Cond.methodLink RX4 89 yX5_joinPower, Cond.instanceMethod yX5_joinPower, Cond.selects RX5 yX5_joinPower yX5_joinPower, Cond.code yX5_joinPower cX5_joinPower 4 none]
def wsL_law0_r53 : List Cond := [Cond.methodLink RX5 82 yX5_firstNotAbove, Cond.instanceMethod yX5_firstNotAbove, Cond.selects RX5 yX5_firstNotAbove yX5_firstNotAbove, Cond.code yX5_firstNotAbove cX5_firstNotAbove 3 (some .int), Cond.methodLink RX5 86 yX5_open, Cond.instanceMethod yX5_open, Cond.selects RX5 yX5_open yX5_open, Cond.code yX5_open cX5_open 6 none, Cond.methodLink RX4 93 yX5_isTooGreat, Cond.methodLink RX4 97 yX1_nextTwig, Cond.instanceMethod yX1_nextTwig, Cond.selects RX1 yX1_nextTwig yX1_nextTwig, Cond.code yX1_nextTwig cX1_nextTwig 2 (some .int), Cond.selects RX9 ⟨"Epsilonhall$Game", "weigh", "(LEpsilonhall$Bench;)Z"⟩ yX9_weigh, Cond.instanceMethod yX9_weigh, Cond.code yX9_weigh cX9_weigh 2 (some .boolean), Cond.methodLink RX9 32 yX9_weighPart, Cond.static yX9_weighPart, Cond.code yX9_weighPart cX9_weighPart 8 (some .boolean), Cond.methodLink RX9 36 yX1_rowOf, Cond.methodLink RX9 42 yX5_clear, Cond.methodLink RX9 19 yX9_held, Cond.instanceMethod yX9_held, Cond.selects RX9 yX9_held yX9_held]
def wsL_law0_r54 : List Cond := [Cond.code yX9_held cX9_held 2 (some .int), Cond.methodLink RX9 47 yX5_addPower, Cond.instanceMethod yX5_addPower, Cond.selects RX5 yX5_addPower yX5_addPower, Cond.code yX5_addPower cX5_addPower 3 none, Cond.methodLink RX9 51 yX5_isTooGreat, Cond.methodLink RX9 55 yX5_takeOneOff, Cond.instanceMethod yX5_takeOneOff, Cond.selects RX5 yX5_takeOneOff yX5_takeOneOff, Cond.code yX5_takeOneOff cX5_takeOneOff 1 none, Cond.methodLink RX3 31 yX1_rowOf, Cond.methodLink RX3 37 yX5_become, Cond.selects RX4 ⟨"Epsilonhall$Game", "weighFirst", "(LEpsilonhall$Bench;)V"⟩ yX3_weighFirst, Cond.selects RX9 ⟨"Epsilonhall$Game", "weighFirst", "(LEpsilonhall$Bench;)V"⟩ yX3_weighFirst, Cond.methodLink RX10 216 yX10_place, Cond.instanceMethod yX10_place, Cond.selects RX10 yX10_place yX10_place, Cond.code yX10_place cX10_place 2 (some .int), Cond.methodLink RL 249 yX13_worm, Cond.instanceMethod yX13_worm, Cond.selects RX13 yX13_worm yX13_worm, Cond.code yX13_worm cX13_worm 4 (some .int), Cond.classLink RX13 145 RX11, Cond.instantiable RX11 6]
def wsL_law0_r55 : List Cond := [Cond.initialized RX11, Cond.methodLink RX13 333 yX11_init, Cond.instanceMethod yX11_init, Cond.code yX11_init cX11_init 2 none, Cond.methodLink RX11 3 objectInit, Cond.fieldLink RX11 9 "EpsilonhallModel$Game" "row" "[I", Cond.fieldLink RX11 15 "EpsilonhallModel$Game" "isGone" "[Z", Cond.fieldLink RX11 19 "EpsilonhallModel$Game" "kind" "C", Cond.methodLink RX13 336 yX13_plays, Cond.instanceMethod yX13_plays, Cond.selects RX13 yX13_plays yX13_plays, Cond.code yX13_plays cX13_plays 2 (some .int), Cond.methodLink RL 250 yL_hydra, Cond.static yL_hydra, Cond.codeWith yL_hydra cL_hydra 3 (some .int) [(0, 8, 11, 13), (0, 8, 14, 15)], Cond.methodLink RL 91 yX10_hydra, Cond.instanceMethod yX10_hydra, Cond.selects RX10 yX10_hydra yX10_hydra, Cond.code yX10_hydra cX10_hydra 2 (some .int), Cond.classLink RX10 221 RX4, Cond.instantiable RX4 9, Cond.methodLink RX10 220 yX4_isHydra, Cond.static yX4_isHydra, Cond.code yX4_isHydra cX4_isHydra 3 (some .boolean)]
def wsL_law0_r56 : List Cond := [Cond.methodLink RX10 227 yX4_init, Cond.instanceMethod yX4_init, Cond.code yX4_init cX4_init 4 none, Cond.fieldLink RX4 15 "Epsilonhall$Hydra" "hanging" "[I", Cond.fieldLink RX4 18 "Epsilonhall$Hydra" "twins" "[I", Cond.fieldLink RX4 25 "Epsilonhall$Hydra" "living" "I", Cond.methodLink RX4 28 yX4_hang, Cond.instanceMethod yX4_hang, Cond.selects RX4 yX4_hang yX4_hang, Cond.code yX4_hang cX4_hang 2 none, Cond.methodLink RL 252 yX13_hydra, Cond.instanceMethod yX13_hydra, Cond.selects RX13 yX13_hydra yX13_hydra, Cond.code yX13_hydra cX13_hydra 4 (some .int), Cond.methodLink RL 253 yL_bases, Cond.static yL_bases, Cond.codeWith yL_bases cL_bases 4 (some .int) [(0, 9, 12, 13), (0, 9, 15, 15)], Cond.methodLink RL 94 yX10_bases, Cond.instanceMethod yX10_bases, Cond.selects RX10 yX10_bases yX10_bases, Cond.code yX10_bases cX10_bases 3 (some .int), Cond.classLink RX10 228 RX0, Cond.instantiable RX0 5, Cond.methodLink RX10 230 yX0_init]
def wsL_law0_r57 : List Cond := [Cond.instanceMethod yX0_init, Cond.code yX0_init cX0_init 2 none, Cond.methodLink RL 255 yX13_bases, Cond.instanceMethod yX13_bases, Cond.selects RX13 yX13_bases yX13_bases, Cond.code yX13_bases cX13_bases 3 (some .int), Cond.methodLink RL 256 yL_kindOf, Cond.static yL_kindOf, Cond.codeWith yL_kindOf cL_kindOf 4 (some .int) [(0, 9, 12, 21)], Cond.methodLink RL 97 yX10_kindOf, Cond.instanceMethod yX10_kindOf, Cond.selects RX10 yX10_kindOf yX10_kindOf, Cond.code yX10_kindOf cX10_kindOf 2 (some .char), Cond.methodLink RX10 231 yX10_gameAt, Cond.instanceMethod yX10_gameAt, Cond.selects RX10 yX10_gameAt yX10_gameAt, Cond.code yX10_gameAt cX10_gameAt 3 (some (.object "Epsilonhall$Game")), Cond.methodLink RX10 235 ⟨"Epsilonhall$Game", "kind", "()C"⟩, Cond.sameMethod "Epsilonhall$Game" "Epsilonhall$Game" "kind" "()C", Cond.selects RX0 ⟨"Epsilonhall$Game", "kind", "()C"⟩ yX0_kind, Cond.instanceMethod yX0_kind, Cond.code yX0_kind cX0_kind 1 (some .char), Cond.selects RX4 ⟨"Epsilonhall$Game", "kind", "()C"⟩ yX4_kind, Cond.instanceMethod yX4_kind]
def wsL_law0_r58 : List Cond := [Cond.code yX4_kind cX4_kind 1 (some .char), Cond.selects RX9 ⟨"Epsilonhall$Game", "kind", "()C"⟩ yX9_kind, Cond.instanceMethod yX9_kind, Cond.code yX9_kind cX9_kind 1 (some .char), Cond.methodLink RL 258 yX13_kindOf, Cond.instanceMethod yX13_kindOf, Cond.selects RX13 yX13_kindOf yX13_kindOf, Cond.code yX13_kindOf cX13_kindOf 2 (some .char), Cond.classLink RX13 145 "EpsilonhallModel$Game", Cond.methodLink RX13 340 yX13_isGame, Cond.instanceMethod yX13_isGame, Cond.selects RX13 yX13_isGame yX13_isGame, Cond.code yX13_isGame cX13_isGame 2 (some .boolean), Cond.methodLink RL 259 yL_isOver, Cond.static yL_isOver, Cond.codeWith yL_isOver cL_isOver 4 (some .int) [(0, 16, 19, 21)], Cond.methodLink RL 101 yX10_isOver, Cond.instanceMethod yX10_isOver, Cond.selects RX10 yX10_isOver yX10_isOver, Cond.code yX10_isOver cX10_isOver 2 (some .boolean), Cond.methodLink RX10 239 ⟨"Epsilonhall$Game", "hasEnded", "()Z"⟩, Cond.sameMethod "Epsilonhall$Game" "Epsilonhall$Game" "hasEnded" "()Z", Cond.selects RX0 ⟨"Epsilonhall$Game", "hasEnded", "()Z"⟩ yX0_hasEnded, Cond.instanceMethod yX0_hasEnded]
def wsL_law0_r59 : List Cond := [Cond.code yX0_hasEnded cX0_hasEnded 1 (some .boolean), Cond.selects RX4 ⟨"Epsilonhall$Game", "hasEnded", "()Z"⟩ yX4_hasEnded, Cond.instanceMethod yX4_hasEnded, Cond.code yX4_hasEnded cX4_hasEnded 1 (some .boolean), Cond.selects RX9 ⟨"Epsilonhall$Game", "hasEnded", "()Z"⟩ yX9_hasEnded, Cond.instanceMethod yX9_hasEnded, Cond.code yX9_hasEnded cX9_hasEnded 1 (some .boolean), Cond.methodLink RL 261 yX13_isOver, Cond.instanceMethod yX13_isOver, Cond.selects RX13 yX13_isOver yX13_isOver, Cond.code yX13_isOver cX13_isOver 2 (some .boolean), Cond.methodLink RX13 343 yX11_isOver, Cond.instanceMethod yX11_isOver, Cond.selects RX11 yX11_isOver yX11_isOver, Cond.code yX11_isOver cX11_isOver 1 (some .boolean), Cond.fieldLink RX11 23 "EpsilonhallModel$Game" "many" "I", Cond.fieldLink RX11 39 "EpsilonhallModel$Game" "number" "J", Cond.methodLink RX11 35 yX11_left, Cond.instanceMethod yX11_left, Cond.selects RX11 yX11_left yX11_left, Cond.code yX11_left cX11_left 3 (some .int), Cond.methodLink RL 262 yL_moves, Cond.static yL_moves, Cond.codeWith yL_moves cL_moves 4 (some .int) [(0, 9, 12, 21)]]
def wsL_law0_r60 : List Cond := [Cond.methodLink RL 104 yX10_moves, Cond.instanceMethod yX10_moves, Cond.selects RX10 yX10_moves yX10_moves, Cond.code yX10_moves cX10_moves 2 (some .int), Cond.fieldLink RX10 243 "Epsilonhall$Game" "made" "I", Cond.methodLink RL 264 yX13_moves, Cond.instanceMethod yX13_moves, Cond.selects RX13 yX13_moves yX13_moves, Cond.code yX13_moves cX13_moves 2 (some .int), Cond.methodLink RL 265 yL_measure, Cond.static yL_measure, Cond.codeWith yL_measure cL_measure 4 (some .int) [(0, 8, 11, 21)], Cond.methodLink RL 107 yX10_measure, Cond.instanceMethod yX10_measure, Cond.selects RX10 yX10_measure yX10_measure, Cond.code yX10_measure cX10_measure 2 (some .long), Cond.methodLink RX10 246 ⟨"Epsilonhall$Game", "extent", "()J"⟩, Cond.sameMethod "Epsilonhall$Game" "Epsilonhall$Game" "extent" "()J", Cond.selects RX0 ⟨"Epsilonhall$Game", "extent", "()J"⟩ yX0_extent, Cond.instanceMethod yX0_extent, Cond.code yX0_extent cX0_extent 1 (some .long), Cond.selects RX4 ⟨"Epsilonhall$Game", "extent", "()J"⟩ yX4_extent, Cond.instanceMethod yX4_extent, Cond.code yX4_extent cX4_extent 1 (some .long)]
def wsL_law0_r61 : List Cond := [Cond.selects RX9 ⟨"Epsilonhall$Game", "extent", "()J"⟩ yX9_extent, Cond.instanceMethod yX9_extent, Cond.code yX9_extent cX9_extent 1 (some .long), Cond.methodLink RL 267 yX13_measure, Cond.instanceMethod yX13_measure, Cond.selects RX13 yX13_measure yX13_measure, Cond.code yX13_measure cX13_measure 3 (some .long), Cond.methodLink RX13 346 yX11_left, Cond.methodLink RL 268 yL_at, Cond.static yL_at, Cond.codeWith yL_at cL_at 5 (some .int) [(0, 10, 13, 21), (0, 10, 17, 114)], Cond.methodLink RL 111 yX10_at, Cond.instanceMethod yX10_at, Cond.selects RX10 yX10_at yX10_at, Cond.code yX10_at cX10_at 5 (some .int), Cond.classLink RX10 258 "java/util/NoSuchElementException", Cond.initialized "java/util/NoSuchElementException", Cond.methodLink RX10 250 ⟨"Epsilonhall$Game", "places", "()I"⟩, Cond.sameMethod "Epsilonhall$Game" "Epsilonhall$Game" "places" "()I", Cond.selects RX0 ⟨"Epsilonhall$Game", "places", "()I"⟩ yX0_places, Cond.instanceMethod yX0_places, Cond.code yX0_places cX0_places 1 (some .int), Cond.selects RX4 ⟨"Epsilonhall$Game", "places", "()I"⟩ yX4_places, Cond.instanceMethod yX4_places]
def wsL_law0_r62 : List Cond := [Cond.code yX4_places cX4_places 1 (some .int), Cond.selects RX9 ⟨"Epsilonhall$Game", "places", "()I"⟩ yX9_places, Cond.instanceMethod yX9_places, Cond.code yX9_places cX9_places 1 (some .int), Cond.methodLink RX10 255 ⟨"Epsilonhall$Game", "held", "(I)I"⟩, Cond.sameMethod "Epsilonhall$Game" "Epsilonhall$Game" "held" "(I)I", Cond.selects RX0 ⟨"Epsilonhall$Game", "held", "(I)I"⟩ yX0_held, Cond.instanceMethod yX0_held, Cond.code yX0_held cX0_held 2 (some .int), Cond.selects RX4 ⟨"Epsilonhall$Game", "held", "(I)I"⟩ yX4_held, Cond.selects RX9 ⟨"Epsilonhall$Game", "held", "(I)I"⟩ yX9_held, Cond.methodLink RL 270 yX13_at, Cond.instanceMethod yX13_at, Cond.selects RX13 yX13_at yX13_at, Cond.code yX13_at cX13_at 3 (some .int), Cond.methodLink RL 271 yL_move, Cond.static yL_move, Cond.codeWith yL_move cL_move 4 (some .int) [(0, 16, 19, 21), (0, 16, 22, 23)], Cond.methodLink RL 116 yX10_move, Cond.instanceMethod yX10_move, Cond.selects RX10 yX10_move yX10_move, Cond.code yX10_move cX10_move 3 (some .boolean), Cond.methodLink RX10 263 ⟨"Epsilonhall$Game", "advance", "()Z"⟩, Cond.sameMethod "Epsilonhall$Game" "Epsilonhall$Game" "advance" "()Z"]
def wsL_law0_r63 : List Cond := [Cond.selects RX0 ⟨"Epsilonhall$Game", "advance", "()Z"⟩ yX0_advance, Cond.instanceMethod yX0_advance, Cond.code yX0_advance cX0_advance 3 (some .boolean), Cond.constantLong RX0 27 (1000000000000), Cond.methodLink RX0 19 yX0_base, Cond.instanceMethod yX0_base, Cond.selects RX0 yX0_base yX0_base, Cond.code yX0_base cX0_base 1 (some .int), Cond.methodLink RX0 23 yX0_raised, Cond.static yX0_raised, Cond.code yX0_raised cX0_raised 13 (some .long), Cond.constantLong RX0 31 (1000000000002), Cond.methodLink RX0 33 yX0_power, Cond.static yX0_power, Cond.code yX0_power cX0_power 6 (some .long), Cond.methodLink RX0 37 yX0_cappedNumber, Cond.static yX0_cappedNumber, Cond.code yX0_cappedNumber cX0_cappedNumber 2 (some .long), Cond.constantLong RX0 29 (1000000000001), Cond.selects RX4 ⟨"Epsilonhall$Game", "advance", "()Z"⟩ yX4_advance, Cond.instanceMethod yX4_advance, Cond.code yX4_advance cX4_advance 2 (some .boolean), Cond.methodLink RX4 36 yX4_isHead, Cond.instanceMethod yX4_isHead]
def wsL_law0_r64 : List Cond := [Cond.selects RX4 yX4_isHead yX4_isHead, Cond.code yX4_isHead cX4_isHead 2 (some .boolean), Cond.methodLink RX4 40 yX4_cutHead, Cond.instanceMethod yX4_cutHead, Cond.selects RX4 yX4_cutHead yX4_cutHead, Cond.code yX4_cutHead cX4_cutHead 7 (some .boolean), Cond.fieldLink RX4 49 "Epsilonhall$Hydra" "made" "I", Cond.sameField "Epsilonhall$Hydra" "Epsilonhall$Game" "made" "I", Cond.constantLong RX4 52 (300), Cond.methodLink RX4 43 yX4_remove, Cond.instanceMethod yX4_remove, Cond.selects RX4 yX4_remove yX4_remove, Cond.code yX4_remove cX4_remove 3 none, Cond.methodLink RX4 46 yX4_markBranch, Cond.instanceMethod yX4_markBranch, Cond.selects RX4 yX4_markBranch yX4_markBranch, Cond.code yX4_markBranch cX4_markBranch 5 (some .int), Cond.methodLink RX4 58 yX4_twinOn, Cond.instanceMethod yX4_twinOn, Cond.selects RX4 yX4_twinOn yX4_twinOn, Cond.code yX4_twinOn cX4_twinOn 3 (some .int), Cond.methodLink RX4 62 yX4_setTwin, Cond.instanceMethod yX4_setTwin, Cond.selects RX4 yX4_setTwin yX4_setTwin]
def wsL_law0_r65 : List Cond := [Cond.code yX4_setTwin cX4_setTwin 3 none, Cond.methodLink RX4 54 yX4_copyBranch, Cond.instanceMethod yX4_copyBranch, Cond.selects RX4 yX4_copyBranch yX4_copyBranch, Cond.code yX4_copyBranch cX4_copyBranch 6 none, Cond.selects RX9 ⟨"Epsilonhall$Game", "advance", "()Z"⟩ yX9_advance, Cond.instanceMethod yX9_advance, Cond.code yX9_advance cX9_advance 8 (some .boolean), Cond.fieldLink RX9 23 "Epsilonhall$Worm" "made" "I", Cond.sameField "Epsilonhall$Worm" "Epsilonhall$Game" "made" "I", Cond.constantLong RX9 26 (300), Cond.methodLink RX9 28 yX9_set, Cond.instanceMethod yX9_set, Cond.selects RX9 yX9_set yX9_set, Cond.code yX9_set cX9_set 3 none, Cond.methodLink RX10 268 ⟨"Epsilonhall$Game", "settle", "(LEpsilonhall$Bench;)V"⟩, Cond.sameMethod "Epsilonhall$Game" "Epsilonhall$Game" "settle" "(LEpsilonhall$Bench;)V", Cond.selects RX0 ⟨"Epsilonhall$Game", "settle", "(LEpsilonhall$Bench;)V"⟩ yX3_settle, Cond.instanceMethod yX3_settle, Cond.code yX3_settle cX3_settle 4 none, Cond.fieldLink RX3 41 "Epsilonhall$Game" "made" "I", Cond.methodLink RX3 45 yX5_comparison, Cond.selects RX4 ⟨"Epsilonhall$Game", "settle", "(LEpsilonhall$Bench;)V"⟩ yX3_settle, Cond.selects RX9 ⟨"Epsilonhall$Game", "settle", "(LEpsilonhall$Bench;)V"⟩ yX3_settle]
def wsL_law0_r66 : List Cond := [Cond.methodLink RL 273 yX13_move, Cond.instanceMethod yX13_move, Cond.selects RX13 yX13_move yX13_move, Cond.code yX13_move cX13_move 2 (some .boolean), Cond.methodLink RX13 361 yX13_isMoved, Cond.instanceMethod yX13_isMoved, Cond.selects RX13 yX13_isMoved yX13_isMoved, Cond.code yX13_isMoved cX13_isMoved 5 (some .boolean), Cond.methodLink RX13 349 yX11_isHead, Cond.instanceMethod yX11_isHead, Cond.selects RX11 yX11_isHead yX11_isHead, Cond.code yX11_isHead cX11_isHead 4 (some .boolean), Cond.methodLink RX11 31 yX11_isKnot, Cond.instanceMethod yX11_isKnot, Cond.selects RX11 yX11_isKnot yX11_isKnot, Cond.code yX11_isKnot cX11_isKnot 2 (some .boolean), Cond.methodLink RX13 352 yX11_crawls, Cond.instanceMethod yX11_crawls, Cond.selects RX11 yX11_crawls yX11_crawls, Cond.code yX11_crawls cX11_crawls 5 (some .boolean), Cond.fieldLink RX11 43 "EpsilonhallModel$Game" "moves" "I", Cond.constantLong RX11 46 (300), Cond.methodLink RX13 355 yX11_loses, Cond.instanceMethod yX11_loses]
def wsL_law0_r67 : List Cond := [Cond.selects RX11 yX11_loses yX11_loses, Cond.code yX11_loses cX11_loses 8 (some .boolean), Cond.methodLink RX11 48 yX11_isUnder, Cond.instanceMethod yX11_isUnder, Cond.selects RX11 yX11_isUnder yX11_isUnder, Cond.code yX11_isUnder cX11_isUnder 4 (some .boolean), Cond.methodLink RX11 52 yX11_rankOf, Cond.instanceMethod yX11_rankOf, Cond.selects RX11 yX11_rankOf yX11_rankOf, Cond.code yX11_rankOf cX11_rankOf 6 (some .int), Cond.methodLink RX13 358 yX11_counts, Cond.instanceMethod yX11_counts, Cond.selects RX11 yX11_counts yX11_counts, Cond.code yX11_counts cX11_counts 3 (some .boolean), Cond.constantLong RX11 56 (2), Cond.constantLong RX11 62 (1000000000000), Cond.methodLink RX11 58 yX11_raised, Cond.static yX11_raised, Cond.code yX11_raised cX11_raised 12 (some .long), Cond.methodLink RX11 64 yX11_raisedTo, Cond.static yX11_raisedTo, Cond.code yX11_raisedTo cX11_raisedTo 8 (some .long), Cond.constantLong RX11 71 (2000000000000), Cond.methodLink RX11 67 yX11_capped]
def wsL_law0_r68 : List Cond := [Cond.static yX11_capped, Cond.code yX11_capped cX11_capped 2 (some .long), Cond.methodLink RL 274 yL_cut, Cond.static yL_cut, Cond.codeWith yL_cut cL_cut 5 (some .int) [(0, 17, 20, 21), (0, 17, 24, 23)], Cond.methodLink RL 119 yX10_cut, Cond.instanceMethod yX10_cut, Cond.selects RX10 yX10_cut yX10_cut, Cond.code yX10_cut cX10_cut 5 (some .boolean), Cond.classLink RX10 221 "Epsilonhall$Hydra", Cond.methodLink RX10 273 yX4_places, Cond.selects RX4 yX4_places yX4_places, Cond.methodLink RX10 276 yX4_cutHead, Cond.methodLink RX10 282 ⟨"Epsilonhall$Hydra", "settle", "(LEpsilonhall$Bench;)V"⟩, Cond.sameMethod "Epsilonhall$Hydra" "Epsilonhall$Game" "settle" "(LEpsilonhall$Bench;)V", Cond.selects RX4 ⟨"Epsilonhall$Hydra", "settle", "(LEpsilonhall$Bench;)V"⟩ yX3_settle, Cond.methodLink RX10 283 yX4_hasEnded, Cond.selects RX4 yX4_hasEnded yX4_hasEnded, Cond.methodLink RL 276 yX13_cut, Cond.instanceMethod yX13_cut, Cond.selects RX13 yX13_cut yX13_cut, Cond.code yX13_cut cX13_cut 4 (some .boolean), Cond.methodLink RL 277 yL_play, Cond.static yL_play]
def wsL_law0_r69 : List Cond := [Cond.codeWith yL_play cL_play 5 (some .int) [(0, 10, 13, 21), (0, 10, 17, 13)], Cond.methodLink RL 123 yX10_play, Cond.instanceMethod yX10_play, Cond.selects RX10 yX10_play yX10_play, Cond.code yX10_play cX10_play 5 (some .int), Cond.methodLink RL 279 yX13_play, Cond.instanceMethod yX13_play, Cond.selects RX13 yX13_play yX13_play, Cond.code yX13_play cX13_play 4 (some .int), Cond.constantLong RX13 365 (200), Cond.methodLink RL 280 yL_ordinalOf, Cond.static yL_ordinalOf, Cond.codeWith yL_ordinalOf cL_ordinalOf 4 (some .int) [(0, 9, 12, 21), (0, 9, 15, 23), (0, 9, 18, 15)], Cond.methodLink RL 126 yX10_ordinalOf, Cond.instanceMethod yX10_ordinalOf, Cond.selects RX10 yX10_ordinalOf yX10_ordinalOf, Cond.code yX10_ordinalOf cX10_ordinalOf 3 (some .int), Cond.fieldLink RX10 284 "Epsilonhall$Game" "great" "Z", Cond.fieldLink RX10 290 "Epsilonhall$Game" "ordinal" "LEpsilonhall$Ordinal;", Cond.methodLink RL 282 yX13_ordinalOf, Cond.instanceMethod yX13_ordinalOf, Cond.selects RX13 yX13_ordinalOf yX13_ordinalOf, Cond.code yX13_ordinalOf cX13_ordinalOf 3 (some .int), Cond.fieldLink RX13 126 "EpsilonhallModel" "isWormGreat" "Z"]
def wsL_law0_r70 : List Cond := [Cond.methodLink RX13 367 yX13_ordinalFor, Cond.instanceMethod yX13_ordinalFor, Cond.selects RX13 yX13_ordinalFor yX13_ordinalFor, Cond.code yX13_ordinalFor cX13_ordinalFor 2 (some (.object "EpsilonhallModel$Ord")), Cond.methodLink RX13 130 yX13_wormOf, Cond.instanceMethod yX13_wormOf, Cond.selects RX13 yX13_wormOf yX13_wormOf, Cond.code yX13_wormOf cX13_wormOf 9 (some (.object "EpsilonhallModel$Ord")), Cond.methodLink RX13 134 yX13_noticed, Cond.instanceMethod yX13_noticed, Cond.selects RX13 yX13_noticed yX13_noticed, Cond.code yX13_noticed cX13_noticed 2 (some (.object "EpsilonhallModel$Ord")), Cond.methodLink RX13 178 yX13_hydraOf, Cond.static yX13_hydraOf, Cond.code yX13_hydraOf cX13_hydraOf 3 (some (.object "EpsilonhallModel$Ord")), Cond.methodLink RX13 166 yJx4a65c_set_bcc79, Cond.methodLink RX13 170 yX13_basesOf, Cond.static yX13_basesOf, Cond.code yX13_basesOf cX13_basesOf 10 (some (.object "EpsilonhallModel$Ord")), Cond.methodLink RL 283 yL_falls, Cond.static yL_falls, Cond.codeWith yL_falls cL_falls 4 (some .int) [(0, 16, 19, 21)], Cond.methodLink RL 129 yX10_falls, Cond.instanceMethod yX10_falls]
def wsL_law0_r71 : List Cond := [Cond.selects RX10 yX10_falls yX10_falls, Cond.code yX10_falls cX10_falls 2 (some .boolean), Cond.fieldLink RX10 293 "Epsilonhall$Game" "fell" "Z", Cond.methodLink RL 285 yX13_falls, Cond.instanceMethod yX13_falls, Cond.selects RX13 yX13_falls yX13_falls, Cond.code yX13_falls cX13_falls 2 (some .boolean), Cond.methodLink RL 286 yL_embeds, Cond.static yL_embeds, Cond.codeWith yL_embeds cL_embeds 5 (some .int) [(0, 17, 20, 21), (0, 17, 24, 23)], Cond.methodLink RL 132 yX10_embeds, Cond.instanceMethod yX10_embeds, Cond.selects RX10 yX10_embeds yX10_embeds, Cond.code yX10_embeds cX10_embeds 5 (some .boolean), Cond.constantLong RX10 298 (14), Cond.methodLink RX10 302 yX2_find, Cond.instanceMethod yX2_find, Cond.selects RX2 yX2_find yX2_find, Cond.code yX2_find cX2_find 5 (some .boolean), Cond.fieldLink RX2 35 "Epsilonhall$Embedding" "knots" "I", Cond.fieldLink RX2 39 "Epsilonhall$Embedding" "otherKnots" "I", Cond.methodLink RX2 31 yX2_read, Cond.instanceMethod yX2_read, Cond.selects RX2 yX2_read yX2_read]
def wsL_law0_r72 : List Cond := [Cond.code yX2_read cX2_read 6 (some .int), Cond.methodLink RX2 61 yX4_held, Cond.methodLink RX2 42 yX2_isAboveTwig, Cond.instanceMethod yX2_isAboveTwig, Cond.selects RX2 yX2_isAboveTwig yX2_isAboveTwig, Cond.code yX2_isAboveTwig cX2_isAboveTwig 4 (some .boolean), Cond.methodLink RX2 69 yX2_otherHangsOn, Cond.instanceMethod yX2_otherHangsOn, Cond.selects RX2 yX2_otherHangsOn yX2_otherHangsOn, Cond.code yX2_otherHangsOn cX2_otherHangsOn 3 (some .boolean), Cond.methodLink RX2 65 yX2_isKnot, Cond.static yX2_isKnot, Cond.code yX2_isKnot cX2_isKnot 1 (some .boolean), Cond.methodLink RX2 53 yX2_isNoted, Cond.instanceMethod yX2_isNoted, Cond.selects RX2 yX2_isNoted yX2_isNoted, Cond.code yX2_isNoted cX2_isNoted 3 (some .boolean), Cond.methodLink RX2 46 yX2_isIn, Cond.instanceMethod yX2_isIn, Cond.selects RX2 yX2_isIn yX2_isIn, Cond.code yX2_isIn cX2_isIn 5 (some .boolean), Cond.methodLink RX2 72 yX2_hangsOn, Cond.instanceMethod yX2_hangsOn, Cond.selects RX2 yX2_hangsOn yX2_hangsOn]
def wsL_law0_r73 : List Cond := [Cond.code yX2_hangsOn cX2_hangsOn 3 (some .boolean), Cond.methodLink RX2 75 yX2_give, Cond.static yX2_give, Cond.code yX2_give cX2_give 5 (some .boolean), Cond.methodLink RX2 49 yX2_note, Cond.instanceMethod yX2_note, Cond.selects RX2 yX2_note yX2_note, Cond.code yX2_note cX2_note 4 none, Cond.methodLink RL 288 yX13_embeds, Cond.instanceMethod yX13_embeds, Cond.selects RX13 yX13_embeds yX13_embeds, Cond.code yX13_embeds cX13_embeds 5 (some .boolean), Cond.methodLink RX13 370 yX13_isWithin, Cond.instanceMethod yX13_isWithin, Cond.selects RX13 yX13_isWithin yX13_isWithin, Cond.code yX13_isWithin cX13_isWithin 7 (some .boolean), Cond.methodLink RX13 188 yX11_isKnot, Cond.methodLink RX13 209 yX13_embedsAt, Cond.instanceMethod yX13_embedsAt, Cond.selects RX13 yX13_embedsAt yX13_embedsAt, Cond.code yX13_embedsAt cX13_embedsAt 8 (some .boolean), Cond.methodLink RX13 205 yX13_finds, Cond.instanceMethod yX13_finds, Cond.selects RX13 yX13_finds yX13_finds]
def wsL_law0_r74 : List Cond := [Cond.code yX13_finds cX13_finds 6 (some .boolean), Cond.methodLink RX13 198 yX13_pair, Cond.static yX13_pair, Cond.code yX13_pair cX13_pair 2 (some .int), Cond.methodLink RL 289 yL_setCounter, Cond.static yL_setCounter, Cond.codeWith yL_setCounter cL_setCounter 5 (some .int) [(0, 10, 13, 13)], Cond.methodLink RL 135 yX10_setCounter, Cond.instanceMethod yX10_setCounter, Cond.selects RX10 yX10_setCounter yX10_setCounter, Cond.code yX10_setCounter cX10_setCounter 3 (some .int), Cond.methodLink RX10 306 yX6_change, Cond.instanceMethod yX6_change, Cond.selects RX6 yX6_change yX6_change, Cond.code yX6_change cX6_change 4 (some .int), Cond.methodLink RX6 44 yX6_counterAt, Cond.instanceMethod yX6_counterAt, Cond.selects RX6 yX6_counterAt yX6_counterAt, Cond.code yX6_counterAt cX6_counterAt 2 (some .int), Cond.methodLink RX6 40 yX6_isCounter, Cond.static yX6_isCounter, Cond.code yX6_isCounter cX6_isCounter 1 (some .boolean), Cond.methodLink RL 291 yX13_setCounter, Cond.instanceMethod yX13_setCounter]
def wsL_law0_r75 : List Cond := [Cond.selects RX13 yX13_setCounter yX13_setCounter, Cond.code yX13_setCounter cX13_setCounter 4 (some .int), Cond.methodLink RX13 373 yX13_isCounter, Cond.static yX13_isCounter, Cond.code yX13_isCounter cX13_isCounter 1 (some .boolean), Cond.methodLink RL 292 yL_addStep, Cond.static yL_addStep, Cond.codeWith yL_addStep cL_addStep 8 (some .int) [(0, 16, 19, 13), (0, 16, 23, 15)], Cond.methodLink RL 138 yX10_addStep, Cond.instanceMethod yX10_addStep, Cond.selects RX10 yX10_addStep yX10_addStep, Cond.code yX10_addStep cX10_addStep 6 (some .int), Cond.methodLink RX10 315 yX6_append, Cond.instanceMethod yX6_append, Cond.selects RX6 yX6_append yX6_append, Cond.code yX6_append cX6_append 7 (some .int), Cond.fieldLink RX6 48 "Epsilonhall$Program" "steps" "I", Cond.methodLink RX6 51 yX6_isStep, Cond.static yX6_isStep, Cond.code yX6_isStep cX6_isStep 1 (some .boolean), Cond.methodLink RL 295 yX13_addStep, Cond.instanceMethod yX13_addStep, Cond.selects RX13 yX13_addStep yX13_addStep, Cond.code yX13_addStep cX13_addStep 8 (some .int)]
def wsL_law0_r76 : List Cond := [Cond.constantLong RX13 376 (-4), Cond.constantLong RX13 378 (1000), Cond.fieldLink RX13 380 "EpsilonhallModel" "steps" "I", Cond.methodLink RL 296 yL_setOrder, Cond.static yL_setOrder, Cond.codeWith yL_setOrder cL_setOrder 4 (some .int) [(0, 9, 12, 13)], Cond.methodLink RL 142 yX10_setOrder, Cond.instanceMethod yX10_setOrder, Cond.selects RX10 yX10_setOrder yX10_setOrder, Cond.code yX10_setOrder cX10_setOrder 2 (some .int), Cond.methodLink RX10 318 yX6_isOrder, Cond.static yX6_isOrder, Cond.code yX6_isOrder cX6_isOrder 5 (some .boolean), Cond.methodLink RX10 323 yX6_reorder, Cond.instanceMethod yX6_reorder, Cond.selects RX6 yX6_reorder yX6_reorder, Cond.code yX6_reorder cX6_reorder 6 (some .int), Cond.methodLink RL 298 yX13_setOrder, Cond.instanceMethod yX13_setOrder, Cond.selects RX13 yX13_setOrder yX13_setOrder, Cond.code yX13_setOrder cX13_setOrder 5 (some .int), Cond.methodLink RL 299 yL_run, Cond.static yL_run, Cond.codeWith yL_run cL_run 4 (some .int) [(0, 9, 12, 13)]]
def wsL_law0_r77 : List Cond := [Cond.methodLink RL 145 yX10_run, Cond.instanceMethod yX10_run, Cond.selects RX10 yX10_run yX10_run, Cond.code yX10_run cX10_run 3 (some .int), Cond.methodLink RX10 326 yX6_doRound, Cond.instanceMethod yX6_doRound, Cond.selects RX6 yX6_doRound yX6_doRound, Cond.code yX6_doRound cX6_doRound 2 (some .boolean), Cond.methodLink RX6 57 yX6_doStep, Cond.instanceMethod yX6_doStep, Cond.selects RX6 yX6_doStep yX6_doStep, Cond.code yX6_doStep cX6_doStep 3 none, Cond.fieldLink RX6 72 "Epsilonhall$Program" "risen" "I", Cond.methodLink RX6 61 yX6_change, Cond.methodLink RX6 65 yX6_told, Cond.instanceMethod yX6_told, Cond.selects RX6 yX6_told yX6_told, Cond.code yX6_told cX6_told 3 (some .int), Cond.methodLink RX6 68 yX6_isLess, Cond.instanceMethod yX6_isLess, Cond.selects RX6 yX6_isLess yX6_isLess, Cond.code yX6_isLess cX6_isLess 3 (some .boolean), Cond.methodLink RL 301 yX13_run, Cond.instanceMethod yX13_run]
def wsL_law0_r78 : List Cond := [Cond.selects RX13 yX13_run yX13_run, Cond.code yX13_run cX13_run 3 (some .int), Cond.methodLink RX13 390 yX13_isRound, Cond.instanceMethod yX13_isRound, Cond.selects RX13 yX13_isRound yX13_isRound, Cond.code yX13_isRound cX13_isRound 10 (some .boolean), Cond.fieldLink RX13 387 "EpsilonhallModel" "rises" "I", Cond.methodLink RX13 383 yX13_valueTold, Cond.instanceMethod yX13_valueTold, Cond.selects RX13 yX13_valueTold yX13_valueTold, Cond.code yX13_valueTold cX13_valueTold 6 (some .int), Cond.methodLink RL 302 yL_counter, Cond.static yL_counter, Cond.codeWith yL_counter cL_counter 4 (some .int) [(0, 9, 12, 13)], Cond.methodLink RL 148 yX10_counter, Cond.instanceMethod yX10_counter, Cond.selects RX10 yX10_counter yX10_counter, Cond.code yX10_counter cX10_counter 2 (some .int), Cond.methodLink RX10 329 yX6_counterAt, Cond.methodLink RL 304 yX13_counter, Cond.instanceMethod yX13_counter, Cond.selects RX13 yX13_counter yX13_counter, Cond.code yX13_counter cX13_counter 2 (some .int), Cond.methodLink RL 305 yL_holds]
def wsL_law0_r79 : List Cond := [Cond.static yL_holds, Cond.codeWith yL_holds cL_holds 4 (some .int) [(0, 16, 19, 21)], Cond.methodLink RL 151 yX10_holds, Cond.instanceMethod yX10_holds, Cond.selects RX10 yX10_holds yX10_holds, Cond.code yX10_holds cX10_holds 2 (some .boolean), Cond.methodLink RX10 334 yX6_isCertified, Cond.instanceMethod yX6_isCertified, Cond.selects RX6 yX6_isCertified yX6_isCertified, Cond.code yX6_isCertified cX6_isCertified 3 (some .boolean), Cond.methodLink RX6 54 yX6_rankOf, Cond.instanceMethod yX6_rankOf, Cond.selects RX6 yX6_rankOf yX6_rankOf, Cond.code yX6_rankOf cX6_rankOf 2 (some .int), Cond.methodLink RL 307 yX13_holds, Cond.instanceMethod yX13_holds, Cond.selects RX13 yX13_holds yX13_holds, Cond.code yX13_holds cX13_holds 3 (some .boolean), Cond.methodLink RX13 393 yX13_placeOf, Cond.instanceMethod yX13_placeOf, Cond.selects RX13 yX13_placeOf yX13_placeOf, Cond.code yX13_placeOf cX13_placeOf 3 (some .int), Cond.methodLink RL 308 yL_value, Cond.static yL_value]
def wsL_law0_r80 : List Cond := [Cond.codeWith yL_value cL_value 3 (some .int) [(0, 8, 11, 15)], Cond.classLink RL 15 "java/lang/IllegalStateException", Cond.methodLink RL 154 yX10_value, Cond.instanceMethod yX10_value, Cond.selects RX10 yX10_value yX10_value, Cond.code yX10_value cX10_value 1 (some .int), Cond.methodLink RX10 337 yX6_tellValue, Cond.instanceMethod yX6_tellValue, Cond.selects RX6 yX6_tellValue yX6_tellValue, Cond.code yX6_tellValue cX6_tellValue 4 none, Cond.methodLink RX6 75 yX5_clear, Cond.methodLink RX6 80 yX5_append, Cond.methodLink RX6 84 yX6_appendNumber, Cond.static yX6_appendNumber, Cond.code yX6_appendNumber cX6_appendNumber 2 none, Cond.methodLink RL 310 yX13_value, Cond.instanceMethod yX13_value, Cond.selects RX13 yX13_value yX13_value, Cond.code yX13_value cX13_value 3 (some .int), Cond.methodLink RL 311 yX10_rises, Cond.instanceMethod yX10_rises, Cond.selects RX10 yX10_rises yX10_rises, Cond.code yX10_rises cX10_rises 1 (some .int), Cond.methodLink RL 314 yX13_rises]
def wsL_law0_r81 : List Cond := [Cond.instanceMethod yX13_rises, Cond.selects RX13 yX13_rises yX13_rises, Cond.code yX13_rises cX13_rises 1 (some .int), Cond.methodLink RL 315 yL_overShare, Cond.static yL_overShare, Cond.codeWith yL_overShare cL_overShare 3 (some .int) [(0, 8, 11, 114)], Cond.classLink RL 114 "java/util/NoSuchElementException", Cond.methodLink RL 157 yX10_overShare, Cond.instanceMethod yX10_overShare, Cond.selects RX10 yX10_overShare yX10_overShare, Cond.code yX10_overShare cX10_overShare 3 (some .float), Cond.methodLink RL 318 yX13_overShare, Cond.instanceMethod yX13_overShare, Cond.selects RX13 yX13_overShare yX13_overShare, Cond.code yX13_overShare cX13_overShare 3 (some .float), Cond.methodLink RX13 396 yJx4a65c_isEmpty_aae02, Cond.methodLink RL 319 yL_meanSize, Cond.static yL_meanSize, Cond.codeWith yL_meanSize cL_meanSize 3 (some .int) [(0, 7, 10, 114)], Cond.methodLink RL 161 yX10_meanSize, Cond.instanceMethod yX10_meanSize, Cond.selects RX10 yX10_meanSize yX10_meanSize, Cond.code yX10_meanSize cX10_meanSize 3 (some .double), Cond.methodLink RL 321 yX13_meanSize]
def wsL_law0_r82 : List Cond := [Cond.instanceMethod yX13_meanSize, Cond.selects RX13 yX13_meanSize yX13_meanSize, Cond.code yX13_meanSize cX13_meanSize 3 (some .double), Cond.methodLink RL 322 yX10_isSound, Cond.instanceMethod yX10_isSound, Cond.selects RX10 yX10_isSound yX10_isSound, Cond.code yX10_isSound cX10_isSound 4 (some .boolean), Cond.methodLink RX10 350 yX5_exponentsFall, Cond.instanceMethod yX5_exponentsFall, Cond.selects RX5 yX5_exponentsFall yX5_exponentsFall, Cond.code yX5_exponentsFall cX5_exponentsFall 3 (some .boolean), Cond.methodLink RX10 353 yX10_isComparedOneWay, Cond.instanceMethod yX10_isComparedOneWay, Cond.selects RX10 yX10_isComparedOneWay yX10_isComparedOneWay, Cond.code yX10_isComparedOneWay cX10_isComparedOneWay 7 (some .boolean), Cond.methodLink RL 326 yX13_isSound, Cond.instanceMethod yX13_isSound, Cond.selects RX13 yX13_isSound yX13_isSound, Cond.code yX13_isSound cX13_isSound 1 (some .boolean)]
def wsL_law0 : List Cond := (wsL_law0_r1 ++ (wsL_law0_r2 ++ (wsL_law0_r3 ++ (wsL_law0_r4 ++ (wsL_law0_r5 ++ (wsL_law0_r6 ++ (wsL_law0_r7 ++ (wsL_law0_r8 ++ (wsL_law0_r9 ++ (wsL_law0_r10 ++ (wsL_law0_r11 ++ (wsL_law0_r12 ++ (wsL_law0_r13 ++ (wsL_law0_r14 ++ (wsL_law0_r15 ++ (wsL_law0_r16 ++ (wsL_law0_r17 ++ (wsL_law0_r18 ++ (wsL_law0_r19 ++ (wsL_law0_r20 ++ (wsL_law0_r21 ++ (wsL_law0_r22 ++ (wsL_law0_r23 ++ (wsL_law0_r24 ++ (wsL_law0_r25 ++ (wsL_law0_r26 ++ (wsL_law0_r27 ++ (wsL_law0_r28 ++ (wsL_law0_r29 ++ (wsL_law0_r30 ++ (wsL_law0_r31 ++ (wsL_law0_r32 ++ (wsL_law0_r33 ++ (wsL_law0_r34 ++ (wsL_law0_r35 ++ (wsL_law0_r36 ++ (wsL_law0_r37 ++ (wsL_law0_r38 ++ (wsL_law0_r39 ++ (wsL_law0_r40 ++ (wsL_law0_r41 ++ (wsL_law0_r42 ++ (wsL_law0_r43 ++ (wsL_law0_r44 ++ (wsL_law0_r45 ++ (wsL_law0_r46 ++ (wsL_law0_r47 ++ (wsL_law0_r48 ++ (wsL_law0_r49 ++ (wsL_law0_r50 ++ (wsL_law0_r51 ++ (wsL_law0_r52 ++ (wsL_law0_r53 ++ (wsL_law0_r54 ++ (wsL_law0_r55 ++ (wsL_law0_r56 ++ (wsL_law0_r57 ++ (wsL_law0_r58 ++ (wsL_law0_r59 ++ (wsL_law0_r60 ++ (wsL_law0_r61 ++ (wsL_law0_r62 ++ (wsL_law0_r63 ++ (wsL_law0_r64 ++ (wsL_law0_r65 ++ (wsL_law0_r66 ++ (wsL_law0_r67 ++ (wsL_law0_r68 ++ (wsL_law0_r69 ++ (wsL_law0_r70 ++ (wsL_law0_r71 ++ (wsL_law0_r72 ++ (wsL_law0_r73 ++ (wsL_law0_r74 ++ (wsL_law0_r75 ++ (wsL_law0_r76 ++ (wsL_law0_r77 ++ (wsL_law0_r78 ++ (wsL_law0_r79 ++ (wsL_law0_r80 ++ (wsL_law0_r81 ++ wsL_law0_r82))))))))))))))))))))))))))))))))))))))))))))))))))))))))))))))))))))))))))))))))) ++ wsX100 ++ wsX130 ++ wsX60 ++ wsX50 ++ wsX10 ++ wsX80 ++ wsX70 ++ wsX20 ++ wsJx4a65c0 ++ wsX120 ++ wsJ130 ++ wsJ40 ++ wsJ00 ++ wsX90 ++ wsX00 ++ wsX40 ++ wsX110 ++ ([] : List Cond)
def wsL_law : List Cond := wsL_law0 ++ (vx_atS RX10 205 "java/lang/IllegalArgumentException" ["java/lang/RuntimeException", "java/lang/Exception"]).filter goodWord ++ (vx_atS RX10 117 "java/lang/UnsupportedOperationException" ["java/lang/RuntimeException", "java/lang/Exception"]).filter goodWord ++ (vx_atS RX10 194 "java/lang/IllegalStateException" ["java/lang/RuntimeException", "java/lang/Exception"]).filter goodWord ++ (vx_atS RX10 161 "java/lang/IndexOutOfBoundsException" ["java/lang/RuntimeException", "java/lang/Exception"]).filter goodWord ++ (vx_atS RX10 262 "java/util/NoSuchElementException" ["java/lang/RuntimeException", "java/lang/Exception"]).filter goodWord
set_option maxRecDepth 20000 in
theorem wsL_law_in0 : ∀ w ∈ wsL_law0, w ∈ lw_tbl := fun w h => (goodIn_p wsL_law0 [125, 128, 137, 179, 202, 226, 262, 277, 1468, 1475, 1478, 1481, 510, 514, 534, 463, 471, 474, 538, 542, 546, 439, 446, 459, 467, 435, 1565, 1569, 1572, 1577, 1591, 1595, 1599, 1603, 1607, 1613, 1610, 1617, 1620, 1649, 1655, 1663, 1672, 1675, 1684, 1688, 1692, 1696, 1700, 1704, 1708, 1711, 1714, 1718, 1723, 1727, 1731, 1735, 1739, 1744, 1749, 1755, 1561, 588, 357, 1759, 1763, 1767, 598, 602, 606, 442, 500, 488, 1771, 1774, 1781, 1787, 613, 617, 621, 1792, 1795, 629, 633, 1799, 1802, 640, 644, 1806, 1809, 658, 663, 1813, 1816, 670, 455, 480, 484, 492, 496, 1820, 1825, 1831, 1835, 1839, 1843, 1847, 1854, 345, 1858, 677, 1862, 684, 1866, 692, 1871, 699, 1876, 1881, 1885, 707, 711, 1889, 718, 721, 725, 1893, 1897, 734, 1901, 741, 745, 748, 753, 757, 762, 1905, 1908, 1915, 1918, 1924, 1927, 1945, 1948, 1952, 1956, 1960, 1965, 1977, 1980, 1983, 1986, 1989, 1994, 1997, 2007, 2011, 2016, 2020, 2025, 2028, 2031, 2034, 2037, 2040, 2044, 2050, 2053, 2056, 2061, 2070, 2073, 2081, 2086, 2089, 2095, 2101, 2103, 2107, 2110, 2113, 2144, 2147, 2150, 2154, 770, 775, 2175, 2179, 2183, 2186, 2189, 2193, 2196, 782, 786, 790, 793, 2201, 2205, 2209, 2213, 2221, 802, 2225, 2229, 809, 813, 818, 824, 828, 2233, 2237, 2242, 2246, 835, 2251, 2255, 842, 2259, 850, 853, 858, 863, 866, 905, 911, 914, 918, 925, 929, 933, 937, 940, 943, 949, 953, 957, 961, 966, 969, 972, 978, 982, 987, 993, 2264, 2269, 2299, 1000, 1003, 1009, 1014, 2303, 1042, 1047, 2307, 1063, 1067, 1074, 1077, 1080, 2311, 2315, 1087, 1093, 1096, 1099, 2319, 2323, 2327, 1106, 2331, 1113, 1119, 1122, 1125, 2335, 1133, 1139, 1142, 1145, 1152, 2340, 1177, 1183, 1187, 1190, 1194, 1197, 1202, 1206, 1210, 1214, 1218, 1222, 1226, 1231, 1234, 1239, 1247, 2344, 2348, 2352, 2356, 2361, 2366, 2370, 2374, 2378, 2382, 2385, 2390, 1255, 2394, 1272, 2398, 1279, 2403, 2407, 2411, 2415, 2418, 2422, 1286, 2426, 1293, 1300, 1304, 1309, 1313, 1316, 1320, 1324, 1328, 1331, 1335, 2430, 2434, 2439, 2443, 2446, 1342, 1346, 1350, 1353, 2450, 2453, 1360, 1365, 1368, 2457, 1375, 1378, 1383, 2463, 1390, 1394, 1398, 1403, 1407, 2467, 2471, 2475, 1414, 2479, 1422, 1427, 1431, 2483, 2487, 1438, 1442, 1447, 2491, 349, 2495, 1454, 2499, 1462, 2504, 353, 431, 450, 2508] (by decide +kernel) (by decide +kernel) w h).1
theorem wsL_law_x0 : ∀ w ∈ (vx_atS RX10 205 "java/lang/IllegalArgumentException" ["java/lang/RuntimeException", "java/lang/Exception"]).filter goodWord, w ∈ lw_tbl := by decide +kernel
theorem wsL_law_x1 : ∀ w ∈ (vx_atS RX10 117 "java/lang/UnsupportedOperationException" ["java/lang/RuntimeException", "java/lang/Exception"]).filter goodWord, w ∈ lw_tbl := by decide +kernel
theorem wsL_law_x2 : ∀ w ∈ (vx_atS RX10 194 "java/lang/IllegalStateException" ["java/lang/RuntimeException", "java/lang/Exception"]).filter goodWord, w ∈ lw_tbl := by decide +kernel
theorem wsL_law_x3 : ∀ w ∈ (vx_atS RX10 161 "java/lang/IndexOutOfBoundsException" ["java/lang/RuntimeException", "java/lang/Exception"]).filter goodWord, w ∈ lw_tbl := by decide +kernel
theorem wsL_law_x4 : ∀ w ∈ (vx_atS RX10 262 "java/util/NoSuchElementException" ["java/lang/RuntimeException", "java/lang/Exception"]).filter goodWord, w ∈ lw_tbl := by decide +kernel
theorem wsL_law_in : ∀ w ∈ wsL_law, w ∈ lw_tbl := fun w h => (List.mem_append.mp h).elim (fun h => (List.mem_append.mp h).elim (fun h => (List.mem_append.mp h).elim (fun h => (List.mem_append.mp h).elim (fun h => (List.mem_append.mp h).elim (fun h => wsL_law_in0 w h) (fun h => wsL_law_x0 w h)) (fun h => wsL_law_x1 w h)) (fun h => wsL_law_x2 w h)) (fun h => wsL_law_x3 w h)) (fun h => wsL_law_x4 w h)
theorem inlX0 : ∀ w ∈ wsX00, w ∈ wsL_law := fun _ h => List.mem_append_left _ (List.mem_append_left _ (List.mem_append_left _ (List.mem_append_left _ (List.mem_append_left _ (List.mem_append_left _ (List.mem_append_left _ (List.mem_append_left _ (List.mem_append_right _ h))))))))
theorem inX0 : ∀ w ∈ wsX00, w ∈ lw_tbl := fun w h => wsL_law_in w (inlX0 w h)
theorem inlX1 : ∀ w ∈ wsX10, w ∈ wsL_law := fun _ h => List.mem_append_left _ (List.mem_append_left _ (List.mem_append_left _ (List.mem_append_left _ (List.mem_append_left _ (List.mem_append_left _ (List.mem_append_left _ (List.mem_append_left _ (List.mem_append_left _ (List.mem_append_left _ (List.mem_append_left _ (List.mem_append_left _ (List.mem_append_left _ (List.mem_append_left _ (List.mem_append_left _ (List.mem_append_left _ (List.mem_append_left _ (List.mem_append_left _ (List.mem_append_right _ h))))))))))))))))))
theorem inX1 : ∀ w ∈ wsX10, w ∈ lw_tbl := fun w h => wsL_law_in w (inlX1 w h)
theorem inlX2 : ∀ w ∈ wsX20, w ∈ wsL_law := fun _ h => List.mem_append_left _ (List.mem_append_left _ (List.mem_append_left _ (List.mem_append_left _ (List.mem_append_left _ (List.mem_append_left _ (List.mem_append_left _ (List.mem_append_left _ (List.mem_append_left _ (List.mem_append_left _ (List.mem_append_left _ (List.mem_append_left _ (List.mem_append_left _ (List.mem_append_left _ (List.mem_append_left _ (List.mem_append_right _ h)))))))))))))))
theorem inX2 : ∀ w ∈ wsX20, w ∈ lw_tbl := fun w h => wsL_law_in w (inlX2 w h)
theorem inX3 : ∀ w ∈ wsX30, w ∈ lw_tbl := by decide +kernel
theorem inlX4 : ∀ w ∈ wsX40, w ∈ wsL_law := fun _ h => List.mem_append_left _ (List.mem_append_left _ (List.mem_append_left _ (List.mem_append_left _ (List.mem_append_left _ (List.mem_append_left _ (List.mem_append_left _ (List.mem_append_right _ h)))))))
theorem inX4 : ∀ w ∈ wsX40, w ∈ lw_tbl := fun w h => wsL_law_in w (inlX4 w h)
theorem inlX5 : ∀ w ∈ wsX50, w ∈ wsL_law := fun _ h => List.mem_append_left _ (List.mem_append_left _ (List.mem_append_left _ (List.mem_append_left _ (List.mem_append_left _ (List.mem_append_left _ (List.mem_append_left _ (List.mem_append_left _ (List.mem_append_left _ (List.mem_append_left _ (List.mem_append_left _ (List.mem_append_left _ (List.mem_append_left _ (List.mem_append_left _ (List.mem_append_left _ (List.mem_append_left _ (List.mem_append_left _ (List.mem_append_left _ (List.mem_append_left _ (List.mem_append_right _ h)))))))))))))))))))
theorem inX5 : ∀ w ∈ wsX50, w ∈ lw_tbl := fun w h => wsL_law_in w (inlX5 w h)
theorem inlX6 : ∀ w ∈ wsX60, w ∈ wsL_law := fun _ h => List.mem_append_left _ (List.mem_append_left _ (List.mem_append_left _ (List.mem_append_left _ (List.mem_append_left _ (List.mem_append_left _ (List.mem_append_left _ (List.mem_append_left _ (List.mem_append_left _ (List.mem_append_left _ (List.mem_append_left _ (List.mem_append_left _ (List.mem_append_left _ (List.mem_append_left _ (List.mem_append_left _ (List.mem_append_left _ (List.mem_append_left _ (List.mem_append_left _ (List.mem_append_left _ (List.mem_append_left _ (List.mem_append_right _ h))))))))))))))))))))
theorem inX6 : ∀ w ∈ wsX60, w ∈ lw_tbl := fun w h => wsL_law_in w (inlX6 w h)
theorem inlX7 : ∀ w ∈ wsX70, w ∈ wsL_law := fun _ h => List.mem_append_left _ (List.mem_append_left _ (List.mem_append_left _ (List.mem_append_left _ (List.mem_append_left _ (List.mem_append_left _ (List.mem_append_left _ (List.mem_append_left _ (List.mem_append_left _ (List.mem_append_left _ (List.mem_append_left _ (List.mem_append_left _ (List.mem_append_left _ (List.mem_append_left _ (List.mem_append_left _ (List.mem_append_left _ (List.mem_append_right _ h))))))))))))))))
theorem inX7 : ∀ w ∈ wsX70, w ∈ lw_tbl := fun w h => wsL_law_in w (inlX7 w h)
theorem inlX8 : ∀ w ∈ wsX80, w ∈ wsL_law := fun _ h => List.mem_append_left _ (List.mem_append_left _ (List.mem_append_left _ (List.mem_append_left _ (List.mem_append_left _ (List.mem_append_left _ (List.mem_append_left _ (List.mem_append_left _ (List.mem_append_left _ (List.mem_append_left _ (List.mem_append_left _ (List.mem_append_left _ (List.mem_append_left _ (List.mem_append_left _ (List.mem_append_left _ (List.mem_append_left _ (List.mem_append_left _ (List.mem_append_right _ h)))))))))))))))))
theorem inX8 : ∀ w ∈ wsX80, w ∈ lw_tbl := fun w h => wsL_law_in w (inlX8 w h)
theorem inlX9 : ∀ w ∈ wsX90, w ∈ wsL_law := fun _ h => List.mem_append_left _ (List.mem_append_left _ (List.mem_append_left _ (List.mem_append_left _ (List.mem_append_left _ (List.mem_append_left _ (List.mem_append_left _ (List.mem_append_left _ (List.mem_append_left _ (List.mem_append_right _ h)))))))))
theorem inX9 : ∀ w ∈ wsX90, w ∈ lw_tbl := fun w h => wsL_law_in w (inlX9 w h)
theorem inlX10 : ∀ w ∈ wsX100, w ∈ wsL_law := fun _ h => List.mem_append_left _ (List.mem_append_left _ (List.mem_append_left _ (List.mem_append_left _ (List.mem_append_left _ (List.mem_append_left _ (List.mem_append_left _ (List.mem_append_left _ (List.mem_append_left _ (List.mem_append_left _ (List.mem_append_left _ (List.mem_append_left _ (List.mem_append_left _ (List.mem_append_left _ (List.mem_append_left _ (List.mem_append_left _ (List.mem_append_left _ (List.mem_append_left _ (List.mem_append_left _ (List.mem_append_left _ (List.mem_append_left _ (List.mem_append_left _ (List.mem_append_right _ h))))))))))))))))))))))
theorem inX10 : ∀ w ∈ wsX100, w ∈ lw_tbl := fun w h => wsL_law_in w (inlX10 w h)
theorem inlX11 : ∀ w ∈ wsX110, w ∈ wsL_law := fun _ h => List.mem_append_left _ (List.mem_append_left _ (List.mem_append_left _ (List.mem_append_left _ (List.mem_append_left _ (List.mem_append_left _ (List.mem_append_right _ h))))))
theorem inX11 : ∀ w ∈ wsX110, w ∈ lw_tbl := fun w h => wsL_law_in w (inlX11 w h)
theorem inlX12 : ∀ w ∈ wsX120, w ∈ wsL_law := fun _ h => List.mem_append_left _ (List.mem_append_left _ (List.mem_append_left _ (List.mem_append_left _ (List.mem_append_left _ (List.mem_append_left _ (List.mem_append_left _ (List.mem_append_left _ (List.mem_append_left _ (List.mem_append_left _ (List.mem_append_left _ (List.mem_append_left _ (List.mem_append_left _ (List.mem_append_right _ h)))))))))))))
theorem inX12 : ∀ w ∈ wsX120, w ∈ lw_tbl := fun w h => wsL_law_in w (inlX12 w h)
theorem inlX13 : ∀ w ∈ wsX130, w ∈ wsL_law := fun _ h => List.mem_append_left _ (List.mem_append_left _ (List.mem_append_left _ (List.mem_append_left _ (List.mem_append_left _ (List.mem_append_left _ (List.mem_append_left _ (List.mem_append_left _ (List.mem_append_left _ (List.mem_append_left _ (List.mem_append_left _ (List.mem_append_left _ (List.mem_append_left _ (List.mem_append_left _ (List.mem_append_left _ (List.mem_append_left _ (List.mem_append_left _ (List.mem_append_left _ (List.mem_append_left _ (List.mem_append_left _ (List.mem_append_left _ (List.mem_append_right _ h)))))))))))))))))))))
theorem inX13 : ∀ w ∈ wsX130, w ∈ lw_tbl := fun w h => wsL_law_in w (inlX13 w h)
theorem inJx145de : ∀ w ∈ wsJx145de0, w ∈ lw_tbl := by decide +kernel
theorem inJ5 : ∀ w ∈ wsJ50, w ∈ lw_tbl := by decide +kernel
theorem inJx2cfe8 : ∀ w ∈ wsJx2cfe80, w ∈ lw_tbl := by decide +kernel
theorem inJx9f9b0 : ∀ w ∈ wsJx9f9b00, w ∈ lw_tbl := by decide +kernel
theorem inJx8e188 : ∀ w ∈ wsJx8e1880, w ∈ lw_tbl := by decide +kernel
theorem inJxb160c : ∀ w ∈ wsJxb160c0, w ∈ lw_tbl := by decide +kernel
theorem inJ6 : ∀ w ∈ wsJ60, w ∈ lw_tbl := by decide +kernel
theorem inJxab1ab : ∀ w ∈ wsJxab1ab0, w ∈ lw_tbl := by decide +kernel
theorem inJxdb0fc : ∀ w ∈ wsJxdb0fc0, w ∈ lw_tbl := by decide +kernel
theorem inlJ13 : ∀ w ∈ wsJ130, w ∈ wsL_law := fun _ h => List.mem_append_left _ (List.mem_append_left _ (List.mem_append_left _ (List.mem_append_left _ (List.mem_append_left _ (List.mem_append_left _ (List.mem_append_left _ (List.mem_append_left _ (List.mem_append_left _ (List.mem_append_left _ (List.mem_append_left _ (List.mem_append_left _ (List.mem_append_right _ h))))))))))))
theorem inJ13 : ∀ w ∈ wsJ130, w ∈ lw_tbl := fun w h => wsL_law_in w (inlJ13 w h)
theorem inJ9 : ∀ w ∈ wsJ90, w ∈ lw_tbl := by decide +kernel
theorem inJxd2413 : ∀ w ∈ wsJxd24130, w ∈ lw_tbl := by decide +kernel
theorem inlJ0 : ∀ w ∈ wsJ00, w ∈ wsL_law := fun _ h => List.mem_append_left _ (List.mem_append_left _ (List.mem_append_left _ (List.mem_append_left _ (List.mem_append_left _ (List.mem_append_left _ (List.mem_append_left _ (List.mem_append_left _ (List.mem_append_left _ (List.mem_append_left _ (List.mem_append_right _ h))))))))))
theorem inJ0 : ∀ w ∈ wsJ00, w ∈ lw_tbl := fun w h => wsL_law_in w (inlJ0 w h)
theorem inlJ4 : ∀ w ∈ wsJ40, w ∈ wsL_law := fun _ h => List.mem_append_left _ (List.mem_append_left _ (List.mem_append_left _ (List.mem_append_left _ (List.mem_append_left _ (List.mem_append_left _ (List.mem_append_left _ (List.mem_append_left _ (List.mem_append_left _ (List.mem_append_left _ (List.mem_append_left _ (List.mem_append_right _ h)))))))))))
theorem inJ4 : ∀ w ∈ wsJ40, w ∈ lw_tbl := fun w h => wsL_law_in w (inlJ4 w h)
theorem inJ1 : ∀ w ∈ wsJ10, w ∈ lw_tbl := by decide +kernel
theorem inJ2 : ∀ w ∈ wsJ20, w ∈ lw_tbl := by decide +kernel
theorem inJ10 : ∀ w ∈ wsJ100, w ∈ lw_tbl := by decide +kernel
theorem inJxfd54e : ∀ w ∈ wsJxfd54e0, w ∈ lw_tbl := by decide +kernel
theorem inJx3cf43 : ∀ w ∈ wsJx3cf430, w ∈ lw_tbl := by decide +kernel
theorem inJxa1e45 : ∀ w ∈ wsJxa1e450, w ∈ lw_tbl := by decide +kernel
theorem inJxc12de : ∀ w ∈ wsJxc12de0, w ∈ lw_tbl := by decide +kernel
theorem inlJx4a65c : ∀ w ∈ wsJx4a65c0, w ∈ wsL_law := fun _ h => List.mem_append_left _ (List.mem_append_left _ (List.mem_append_left _ (List.mem_append_left _ (List.mem_append_left _ (List.mem_append_left _ (List.mem_append_left _ (List.mem_append_left _ (List.mem_append_left _ (List.mem_append_left _ (List.mem_append_left _ (List.mem_append_left _ (List.mem_append_left _ (List.mem_append_left _ (List.mem_append_right _ h))))))))))))))
theorem inJx4a65c : ∀ w ∈ wsJx4a65c0, w ∈ lw_tbl := fun w h => wsL_law_in w (inlJx4a65c w h)
theorem inJ7 : ∀ w ∈ wsJ70, w ∈ lw_tbl := by decide +kernel
theorem inJx5ef63 : ∀ w ∈ wsJx5ef630, w ∈ lw_tbl := by decide +kernel
theorem inJxbd725 : ∀ w ∈ wsJxbd7250, w ∈ lw_tbl := by decide +kernel
theorem inJ15 : ∀ w ∈ wsJ150, w ∈ lw_tbl := by decide +kernel
theorem inJxf0a74 : ∀ w ∈ wsJxf0a740, w ∈ lw_tbl := by decide +kernel
theorem inJxa66e6 : ∀ w ∈ wsJxa66e60, w ∈ lw_tbl := by decide +kernel
theorem inJ8 : ∀ w ∈ wsJ80, w ∈ lw_tbl := by decide +kernel
theorem inJ3 : ∀ w ∈ wsJ30, w ∈ lw_tbl := by decide +kernel
abbrev vwCl : List vw_C := [(RJ0, TJ0, 4), (RJ4, TJ4, 4), (RJ13, TJ13, 1), (RJx4a65c, TJx4a65c, 3), (RX0, TX0, 5), (RX1, TX1, 5), (RX2, TX2, 8), (RX4, TX4, 9), (RX5, TX5, 4), (RX6, TX6, 11), (RX7, TX7, 2), (RX8, TX8, 8), (RX9, TX9, 6), (RX10, TX10, 12), (RX11, TX11, 6), (RX12, TX12, 2), (RX13, TX13, 20)]
end
