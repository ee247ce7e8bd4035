section
-- ===== PART A: goes FIRST, ahead of the names: the tables' words, and 'selects' of the private methods out of them =====
/-- a private method of a class that the tables say can be made, by its rows of tables_1 -/
def lw_okq (q : MethodName × Nat) : Prop := (q.1.cls ≠ "java/lang/invoke/MethodHandle" ∧ q.1.cls ≠ "java/lang/invoke/VarHandle") ∧ Cond.instantiable q.1.cls q.2 ∈ tables_1 ∧ Cond.privateMethod q.1 ∈ tables_1 ∧ Cond.instanceMethod q.1 ∈ tables_1
theorem lw_p0 : lw_okq (⟨"DarkSitting", "putNumber", "(I)V"⟩, 11) := ⟨⟨by decide +kernel, by decide +kernel⟩, List.mem_of_getElem? (i := 30) (by decide +kernel), List.mem_of_getElem? (i := 344) (by decide +kernel), List.mem_of_getElem? (i := 345) (by decide +kernel)⟩
theorem lw_p1 : lw_okq (⟨"DarkSitting$Ropes", "reckonSlacks", "()V"⟩, 3) := ⟨⟨by decide +kernel, by decide +kernel⟩, List.mem_of_getElem? (i := 289) (by decide +kernel), List.mem_of_getElem? (i := 368) (by decide +kernel), List.mem_of_getElem? (i := 369) (by decide +kernel)⟩
theorem lw_p2 : lw_okq (⟨"DarkSitting$Ropes", "shorten", "()V"⟩, 3) := ⟨⟨by decide +kernel, by decide +kernel⟩, List.mem_of_getElem? (i := 289) (by decide +kernel), List.mem_of_getElem? (i := 384) (by decide +kernel), List.mem_of_getElem? (i := 385) (by decide +kernel)⟩
theorem lw_p3 : lw_okq (⟨"DarkSitting$Ropes", "secondsBy", "(II)I"⟩, 3) := ⟨⟨by decide +kernel, by decide +kernel⟩, List.mem_of_getElem? (i := 289) (by decide +kernel), List.mem_of_getElem? (i := 388) (by decide +kernel), List.mem_of_getElem? (i := 389) (by decide +kernel)⟩
theorem lw_p4 : lw_okq (⟨"DarkSitting$Ropes", "givesWay", "(II)Z"⟩, 3) := ⟨⟨by decide +kernel, by decide +kernel⟩, List.mem_of_getElem? (i := 289) (by decide +kernel), List.mem_of_getElem? (i := 392) (by decide +kernel), List.mem_of_getElem? (i := 393) (by decide +kernel)⟩
theorem lw_p5 : lw_okq (⟨"DarkSitting$Ropes", "hasAll", "(II)Z"⟩, 3) := ⟨⟨by decide +kernel, by decide +kernel⟩, List.mem_of_getElem? (i := 289) (by decide +kernel), List.mem_of_getElem? (i := 399) (by decide +kernel), List.mem_of_getElem? (i := 400) (by decide +kernel)⟩
theorem lw_p6 : lw_okq (⟨"DarkSitting$Ropes", "reckonOut", "(I)V"⟩, 3) := ⟨⟨by decide +kernel, by decide +kernel⟩, List.mem_of_getElem? (i := 289) (by decide +kernel), List.mem_of_getElem? (i := 410) (by decide +kernel), List.mem_of_getElem? (i := 411) (by decide +kernel)⟩
theorem lw_p7 : lw_okq (⟨"java/lang/Throwable", "fillInStackTrace", "(I)Ljava/lang/Throwable;"⟩, 6) := ⟨⟨by decide +kernel, by decide +kernel⟩, List.mem_of_getElem? (i := 501) (by decide +kernel), List.mem_of_getElem? (i := 499) (by decide +kernel), List.mem_of_getElem? (i := 500) (by decide +kernel)⟩
theorem lw_p8 : lw_okq (⟨"DarkSitting$Table", "put", "(II)V"⟩, 3) := ⟨⟨by decide +kernel, by decide +kernel⟩, List.mem_of_getElem? (i := 106) (by decide +kernel), List.mem_of_getElem? (i := 557) (by decide +kernel), List.mem_of_getElem? (i := 558) (by decide +kernel)⟩
theorem lw_p9 : lw_okq (⟨"DarkSitting$Scanner", "put", "(III)V"⟩, 4) := ⟨⟨by decide +kernel, by decide +kernel⟩, List.mem_of_getElem? (i := 44) (by decide +kernel), List.mem_of_getElem? (i := 634) (by decide +kernel), List.mem_of_getElem? (i := 635) (by decide +kernel)⟩
theorem lw_p10 : lw_okq (⟨"DarkSitting$Reader", "startAnew", "()V"⟩, 10) := ⟨⟨by decide +kernel, by decide +kernel⟩, List.mem_of_getElem? (i := 38) (by decide +kernel), List.mem_of_getElem? (i := 707) (by decide +kernel), List.mem_of_getElem? (i := 708) (by decide +kernel)⟩
theorem lw_p11 : lw_okq (⟨"DarkSitting$Reader", "token", "()I"⟩, 10) := ⟨⟨by decide +kernel, by decide +kernel⟩, List.mem_of_getElem? (i := 38) (by decide +kernel), List.mem_of_getElem? (i := 711) (by decide +kernel), List.mem_of_getElem? (i := 712) (by decide +kernel)⟩
theorem lw_p12 : lw_okq (⟨"DarkSitting$Reader", "readRuleLine", "()Z"⟩, 10) := ⟨⟨by decide +kernel, by decide +kernel⟩, List.mem_of_getElem? (i := 38) (by decide +kernel), List.mem_of_getElem? (i := 715) (by decide +kernel), List.mem_of_getElem? (i := 716) (by decide +kernel)⟩
theorem lw_p13 : lw_okq (⟨"DarkSitting$Reader", "readPair", "(IIIII)Z"⟩, 10) := ⟨⟨by decide +kernel, by decide +kernel⟩, List.mem_of_getElem? (i := 38) (by decide +kernel), List.mem_of_getElem? (i := 719) (by decide +kernel), List.mem_of_getElem? (i := 720) (by decide +kernel)⟩
theorem lw_p14 : lw_okq (⟨"DarkSitting$Reader", "number", "(II)I"⟩, 10) := ⟨⟨by decide +kernel, by decide +kernel⟩, List.mem_of_getElem? (i := 38) (by decide +kernel), List.mem_of_getElem? (i := 723) (by decide +kernel), List.mem_of_getElem? (i := 724) (by decide +kernel)⟩
theorem lw_p15 : lw_okq (⟨"DarkSitting$Reader", "pass", "(I)Z"⟩, 10) := ⟨⟨by decide +kernel, by decide +kernel⟩, List.mem_of_getElem? (i := 38) (by decide +kernel), List.mem_of_getElem? (i := 727) (by decide +kernel), List.mem_of_getElem? (i := 728) (by decide +kernel)⟩
def lw_privs_1 : List (MethodName × Nat) := [(⟨"DarkSitting", "putNumber", "(I)V"⟩, 11), (⟨"DarkSitting$Ropes", "reckonSlacks", "()V"⟩, 3), (⟨"DarkSitting$Ropes", "shorten", "()V"⟩, 3), (⟨"DarkSitting$Ropes", "secondsBy", "(II)I"⟩, 3), (⟨"DarkSitting$Ropes", "givesWay", "(II)Z"⟩, 3), (⟨"DarkSitting$Ropes", "hasAll", "(II)Z"⟩, 3), (⟨"DarkSitting$Ropes", "reckonOut", "(I)V"⟩, 3), (⟨"java/lang/Throwable", "fillInStackTrace", "(I)Ljava/lang/Throwable;"⟩, 6), (⟨"DarkSitting$Table", "put", "(II)V"⟩, 3), (⟨"DarkSitting$Scanner", "put", "(III)V"⟩, 4), (⟨"DarkSitting$Reader", "startAnew", "()V"⟩, 10), (⟨"DarkSitting$Reader", "token", "()I"⟩, 10), (⟨"DarkSitting$Reader", "readRuleLine", "()Z"⟩, 10), (⟨"DarkSitting$Reader", "readPair", "(IIIII)Z"⟩, 10), (⟨"DarkSitting$Reader", "number", "(II)I"⟩, 10), (⟨"DarkSitting$Reader", "pass", "(I)Z"⟩, 10)]
theorem lw_r1 : ∀ q ∈ lw_privs_1, lw_okq q := List.forall_mem_cons.mpr ⟨lw_p0, List.forall_mem_cons.mpr ⟨lw_p1, List.forall_mem_cons.mpr ⟨lw_p2, List.forall_mem_cons.mpr ⟨lw_p3, List.forall_mem_cons.mpr ⟨lw_p4, List.forall_mem_cons.mpr ⟨lw_p5, List.forall_mem_cons.mpr ⟨lw_p6, List.forall_mem_cons.mpr ⟨lw_p7, List.forall_mem_cons.mpr ⟨lw_p8, List.forall_mem_cons.mpr ⟨lw_p9, List.forall_mem_cons.mpr ⟨lw_p10, List.forall_mem_cons.mpr ⟨lw_p11, List.forall_mem_cons.mpr ⟨lw_p12, List.forall_mem_cons.mpr ⟨lw_p13, List.forall_mem_cons.mpr ⟨lw_p14, List.forall_mem_cons.mpr ⟨lw_p15, fun _ h => absurd h List.not_mem_nil⟩⟩⟩⟩⟩⟩⟩⟩⟩⟩⟩⟩⟩⟩⟩⟩
theorem lw_p16 : lw_okq (⟨"DarkSitting$Reader", "refuse", "()Z"⟩, 10) := ⟨⟨by decide +kernel, by decide +kernel⟩, List.mem_of_getElem? (i := 38) (by decide +kernel), List.mem_of_getElem? (i := 731) (by decide +kernel), List.mem_of_getElem? (i := 732) (by decide +kernel)⟩
theorem lw_p17 : lw_okq (⟨"DarkSitting$Reader", "keepLine", "(III)Z"⟩, 10) := ⟨⟨by decide +kernel, by decide +kernel⟩, List.mem_of_getElem? (i := 38) (by decide +kernel), List.mem_of_getElem? (i := 735) (by decide +kernel), List.mem_of_getElem? (i := 736) (by decide +kernel)⟩
theorem lw_p18 : lw_okq (⟨"DarkSitting$Reader", "readWayLine", "()Z"⟩, 10) := ⟨⟨by decide +kernel, by decide +kernel⟩, List.mem_of_getElem? (i := 38) (by decide +kernel), List.mem_of_getElem? (i := 739) (by decide +kernel), List.mem_of_getElem? (i := 740) (by decide +kernel)⟩
theorem lw_p19 : lw_okq (⟨"DarkSitting$Reader", "readCondition", "(I)Z"⟩, 10) := ⟨⟨by decide +kernel, by decide +kernel⟩, List.mem_of_getElem? (i := 38) (by decide +kernel), List.mem_of_getElem? (i := 743) (by decide +kernel), List.mem_of_getElem? (i := 744) (by decide +kernel)⟩
theorem lw_p20 : lw_okq (⟨"DarkSitting$Reader", "readAtom", "(I)Z"⟩, 10) := ⟨⟨by decide +kernel, by decide +kernel⟩, List.mem_of_getElem? (i := 38) (by decide +kernel), List.mem_of_getElem? (i := 747) (by decide +kernel), List.mem_of_getElem? (i := 748) (by decide +kernel)⟩
theorem lw_p21 : lw_okq (⟨"DarkSitting$Reader", "keepStep", "(II)Z"⟩, 10) := ⟨⟨by decide +kernel, by decide +kernel⟩, List.mem_of_getElem? (i := 38) (by decide +kernel), List.mem_of_getElem? (i := 751) (by decide +kernel), List.mem_of_getElem? (i := 752) (by decide +kernel)⟩
theorem lw_p22 : lw_okq (⟨"DarkSitting$Reader", "readComparison", "()Z"⟩, 10) := ⟨⟨by decide +kernel, by decide +kernel⟩, List.mem_of_getElem? (i := 38) (by decide +kernel), List.mem_of_getElem? (i := 755) (by decide +kernel), List.mem_of_getElem? (i := 756) (by decide +kernel)⟩
theorem lw_p23 : lw_okq (⟨"DarkSitting$Reader", "readSum", "()Z"⟩, 10) := ⟨⟨by decide +kernel, by decide +kernel⟩, List.mem_of_getElem? (i := 38) (by decide +kernel), List.mem_of_getElem? (i := 759) (by decide +kernel), List.mem_of_getElem? (i := 760) (by decide +kernel)⟩
theorem lw_p24 : lw_okq (⟨"DarkSitting$Sitting", "settleLine", "(IIILDarkSitting$Table;)V"⟩, 8) := ⟨⟨by decide +kernel, by decide +kernel⟩, List.mem_of_getElem? (i := 230) (by decide +kernel), List.mem_of_getElem? (i := 867) (by decide +kernel), List.mem_of_getElem? (i := 868) (by decide +kernel)⟩
theorem lw_p25 : lw_okq (⟨"DarkSitting$Sitting", "setsOfTag", "(III)I"⟩, 8) := ⟨⟨by decide +kernel, by decide +kernel⟩, List.mem_of_getElem? (i := 230) (by decide +kernel), List.mem_of_getElem? (i := 899) (by decide +kernel), List.mem_of_getElem? (i := 900) (by decide +kernel)⟩
theorem lw_p26 : lw_okq (⟨"DarkSitting$Sitting", "partOf", "(III)I"⟩, 8) := ⟨⟨by decide +kernel, by decide +kernel⟩, List.mem_of_getElem? (i := 230) (by decide +kernel), List.mem_of_getElem? (i := 906) (by decide +kernel), List.mem_of_getElem? (i := 907) (by decide +kernel)⟩
theorem lw_p27 : lw_okq (⟨"DarkSitting$Course", "allowUnseen", "()V"⟩, 7) := ⟨⟨by decide +kernel, by decide +kernel⟩, List.mem_of_getElem? (i := 224) (by decide +kernel), List.mem_of_getElem? (i := 930) (by decide +kernel), List.mem_of_getElem? (i := 931) (by decide +kernel)⟩
theorem lw_p28 : lw_okq (⟨"DarkSitting$Book", "greatestReach", "(I)I"⟩, 14) := ⟨⟨by decide +kernel, by decide +kernel⟩, List.mem_of_getElem? (i := 100) (by decide +kernel), List.mem_of_getElem? (i := 953) (by decide +kernel), List.mem_of_getElem? (i := 954) (by decide +kernel)⟩
theorem lw_p29 : lw_okq (⟨"DarkSitting$Course", "freedBehind", "(II)I"⟩, 7) := ⟨⟨by decide +kernel, by decide +kernel⟩, List.mem_of_getElem? (i := 224) (by decide +kernel), List.mem_of_getElem? (i := 974) (by decide +kernel), List.mem_of_getElem? (i := 975) (by decide +kernel)⟩
theorem lw_p30 : lw_okq (⟨"DarkSitting", "reckonOdds", "(I)V"⟩, 11) := ⟨⟨by decide +kernel, by decide +kernel⟩, List.mem_of_getElem? (i := 30) (by decide +kernel), List.mem_of_getElem? (i := 1071) (by decide +kernel), List.mem_of_getElem? (i := 1072) (by decide +kernel)⟩
theorem lw_p31 : lw_okq (⟨"DarkSitting", "sharesToOdds", "()V"⟩, 11) := ⟨⟨by decide +kernel, by decide +kernel⟩, List.mem_of_getElem? (i := 30) (by decide +kernel), List.mem_of_getElem? (i := 1076) (by decide +kernel), List.mem_of_getElem? (i := 1077) (by decide +kernel)⟩
def lw_privs_2 : List (MethodName × Nat) := [(⟨"DarkSitting$Reader", "refuse", "()Z"⟩, 10), (⟨"DarkSitting$Reader", "keepLine", "(III)Z"⟩, 10), (⟨"DarkSitting$Reader", "readWayLine", "()Z"⟩, 10), (⟨"DarkSitting$Reader", "readCondition", "(I)Z"⟩, 10), (⟨"DarkSitting$Reader", "readAtom", "(I)Z"⟩, 10), (⟨"DarkSitting$Reader", "keepStep", "(II)Z"⟩, 10), (⟨"DarkSitting$Reader", "readComparison", "()Z"⟩, 10), (⟨"DarkSitting$Reader", "readSum", "()Z"⟩, 10), (⟨"DarkSitting$Sitting", "settleLine", "(IIILDarkSitting$Table;)V"⟩, 8), (⟨"DarkSitting$Sitting", "setsOfTag", "(III)I"⟩, 8), (⟨"DarkSitting$Sitting", "partOf", "(III)I"⟩, 8), (⟨"DarkSitting$Course", "allowUnseen", "()V"⟩, 7), (⟨"DarkSitting$Book", "greatestReach", "(I)I"⟩, 14), (⟨"DarkSitting$Course", "freedBehind", "(II)I"⟩, 7), (⟨"DarkSitting", "reckonOdds", "(I)V"⟩, 11), (⟨"DarkSitting", "sharesToOdds", "()V"⟩, 11)]
theorem lw_r2 : ∀ q ∈ lw_privs_2, lw_okq q := List.forall_mem_cons.mpr ⟨lw_p16, List.forall_mem_cons.mpr ⟨lw_p17, List.forall_mem_cons.mpr ⟨lw_p18, List.forall_mem_cons.mpr ⟨lw_p19, List.forall_mem_cons.mpr ⟨lw_p20, List.forall_mem_cons.mpr ⟨lw_p21, List.forall_mem_cons.mpr ⟨lw_p22, List.forall_mem_cons.mpr ⟨lw_p23, List.forall_mem_cons.mpr ⟨lw_p24, List.forall_mem_cons.mpr ⟨lw_p25, List.forall_mem_cons.mpr ⟨lw_p26, List.forall_mem_cons.mpr ⟨lw_p27, List.forall_mem_cons.mpr ⟨lw_p28, List.forall_mem_cons.mpr ⟨lw_p29, List.forall_mem_cons.mpr ⟨lw_p30, List.forall_mem_cons.mpr ⟨lw_p31, fun _ h => absurd h List.not_mem_nil⟩⟩⟩⟩⟩⟩⟩⟩⟩⟩⟩⟩⟩⟩⟩⟩
theorem lw_p32 : lw_okq (⟨"DarkSitting", "allFactors", "(II)J"⟩, 11) := ⟨⟨by decide +kernel, by decide +kernel⟩, List.mem_of_getElem? (i := 30) (by decide +kernel), List.mem_of_getElem? (i := 1081) (by decide +kernel), List.mem_of_getElem? (i := 1082) (by decide +kernel)⟩
theorem lw_p33 : lw_okq (⟨"DarkSitting", "trapFactors", "(II)J"⟩, 11) := ⟨⟨by decide +kernel, by decide +kernel⟩, List.mem_of_getElem? (i := 30) (by decide +kernel), List.mem_of_getElem? (i := 1088) (by decide +kernel), List.mem_of_getElem? (i := 1089) (by decide +kernel)⟩
theorem lw_p34 : lw_okq (⟨"DarkSitting", "springs", "(II)I"⟩, 11) := ⟨⟨by decide +kernel, by decide +kernel⟩, List.mem_of_getElem? (i := 30) (by decide +kernel), List.mem_of_getElem? (i := 1092) (by decide +kernel), List.mem_of_getElem? (i := 1093) (by decide +kernel)⟩
theorem lw_p35 : lw_okq (⟨"DarkSitting", "choicesWithAtLeast", "(III)I"⟩, 11) := ⟨⟨by decide +kernel, by decide +kernel⟩, List.mem_of_getElem? (i := 30) (by decide +kernel), List.mem_of_getElem? (i := 1127) (by decide +kernel), List.mem_of_getElem? (i := 1128) (by decide +kernel)⟩
theorem lw_p36 : lw_okq (⟨"DarkSitting", "knowersOn", "(III)I"⟩, 11) := ⟨⟨by decide +kernel, by decide +kernel⟩, List.mem_of_getElem? (i := 30) (by decide +kernel), List.mem_of_getElem? (i := 1155) (by decide +kernel), List.mem_of_getElem? (i := 1156) (by decide +kernel)⟩
theorem lw_p37 : lw_okq (⟨"DarkSitting", "spread", "(I)V"⟩, 11) := ⟨⟨by decide +kernel, by decide +kernel⟩, List.mem_of_getElem? (i := 30) (by decide +kernel), List.mem_of_getElem? (i := 1159) (by decide +kernel), List.mem_of_getElem? (i := 1160) (by decide +kernel)⟩
theorem lw_p38 : lw_okq (⟨"DarkSitting", "neededTellers", "(I)I"⟩, 11) := ⟨⟨by decide +kernel, by decide +kernel⟩, List.mem_of_getElem? (i := 30) (by decide +kernel), List.mem_of_getElem? (i := 1170) (by decide +kernel), List.mem_of_getElem? (i := 1171) (by decide +kernel)⟩
theorem lw_p39 : lw_okq (⟨"DarkSitting", "sources", "(I)I"⟩, 11) := ⟨⟨by decide +kernel, by decide +kernel⟩, List.mem_of_getElem? (i := 30) (by decide +kernel), List.mem_of_getElem? (i := 1174) (by decide +kernel), List.mem_of_getElem? (i := 1175) (by decide +kernel)⟩
theorem lw_p40 : lw_okq (⟨"DarkSittingModel", "throwsIf", "(ZI)Z"⟩, 30) := ⟨⟨by decide +kernel, by decide +kernel⟩, List.mem_of_getElem? (i := 1221) (by decide +kernel), List.mem_of_getElem? (i := 1334) (by decide +kernel), List.mem_of_getElem? (i := 1335) (by decide +kernel)⟩
theorem lw_p41 : lw_okq (⟨"DarkSittingModel", "puts", "(IIIIII)I"⟩, 30) := ⟨⟨by decide +kernel, by decide +kernel⟩, List.mem_of_getElem? (i := 1221) (by decide +kernel), List.mem_of_getElem? (i := 1338) (by decide +kernel), List.mem_of_getElem? (i := 1339) (by decide +kernel)⟩
theorem lw_p42 : lw_okq (⟨"DarkSittingModel", "keeps", "(ZIII)I"⟩, 30) := ⟨⟨by decide +kernel, by decide +kernel⟩, List.mem_of_getElem? (i := 1221) (by decide +kernel), List.mem_of_getElem? (i := 1362) (by decide +kernel), List.mem_of_getElem? (i := 1363) (by decide +kernel)⟩
theorem lw_p43 : lw_okq (⟨"DarkSittingModel", "uses", "()V"⟩, 30) := ⟨⟨by decide +kernel, by decide +kernel⟩, List.mem_of_getElem? (i := 1221) (by decide +kernel), List.mem_of_getElem? (i := 1366) (by decide +kernel), List.mem_of_getElem? (i := 1367) (by decide +kernel)⟩
theorem lw_p44 : lw_okq (⟨"DarkSittingModel", "readAll", "(Z)I"⟩, 30) := ⟨⟨by decide +kernel, by decide +kernel⟩, List.mem_of_getElem? (i := 1221) (by decide +kernel), List.mem_of_getElem? (i := 1370) (by decide +kernel), List.mem_of_getElem? (i := 1371) (by decide +kernel)⟩
theorem lw_p45 : lw_okq (⟨"DarkSittingModel", "blanks", "()V"⟩, 30) := ⟨⟨by decide +kernel, by decide +kernel⟩, List.mem_of_getElem? (i := 1221) (by decide +kernel), List.mem_of_getElem? (i := 1374) (by decide +kernel), List.mem_of_getElem? (i := 1375) (by decide +kernel)⟩
theorem lw_p46 : lw_okq (⟨"DarkSittingModel", "isAt", "(II)Z"⟩, 30) := ⟨⟨by decide +kernel, by decide +kernel⟩, List.mem_of_getElem? (i := 1221) (by decide +kernel), List.mem_of_getElem? (i := 1378) (by decide +kernel), List.mem_of_getElem? (i := 1379) (by decide +kernel)⟩
theorem lw_p47 : lw_okq (⟨"DarkSittingModel", "readLine", "(IZ)Z"⟩, 30) := ⟨⟨by decide +kernel, by decide +kernel⟩, List.mem_of_getElem? (i := 1221) (by decide +kernel), List.mem_of_getElem? (i := 1382) (by decide +kernel), List.mem_of_getElem? (i := 1383) (by decide +kernel)⟩
def lw_privs_3 : List (MethodName × Nat) := [(⟨"DarkSitting", "allFactors", "(II)J"⟩, 11), (⟨"DarkSitting", "trapFactors", "(II)J"⟩, 11), (⟨"DarkSitting", "springs", "(II)I"⟩, 11), (⟨"DarkSitting", "choicesWithAtLeast", "(III)I"⟩, 11), (⟨"DarkSitting", "knowersOn", "(III)I"⟩, 11), (⟨"DarkSitting", "spread", "(I)V"⟩, 11), (⟨"DarkSitting", "neededTellers", "(I)I"⟩, 11), (⟨"DarkSitting", "sources", "(I)I"⟩, 11), (⟨"DarkSittingModel", "throwsIf", "(ZI)Z"⟩, 30), (⟨"DarkSittingModel", "puts", "(IIIIII)I"⟩, 30), (⟨"DarkSittingModel", "keeps", "(ZIII)I"⟩, 30), (⟨"DarkSittingModel", "uses", "()V"⟩, 30), (⟨"DarkSittingModel", "readAll", "(Z)I"⟩, 30), (⟨"DarkSittingModel", "blanks", "()V"⟩, 30), (⟨"DarkSittingModel", "isAt", "(II)Z"⟩, 30), (⟨"DarkSittingModel", "readLine", "(IZ)Z"⟩, 30)]
theorem lw_r3 : ∀ q ∈ lw_privs_3, lw_okq q := List.forall_mem_cons.mpr ⟨lw_p32, List.forall_mem_cons.mpr ⟨lw_p33, List.forall_mem_cons.mpr ⟨lw_p34, List.forall_mem_cons.mpr ⟨lw_p35, List.forall_mem_cons.mpr ⟨lw_p36, List.forall_mem_cons.mpr ⟨lw_p37, List.forall_mem_cons.mpr ⟨lw_p38, List.forall_mem_cons.mpr ⟨lw_p39, List.forall_mem_cons.mpr ⟨lw_p40, List.forall_mem_cons.mpr ⟨lw_p41, List.forall_mem_cons.mpr ⟨lw_p42, List.forall_mem_cons.mpr ⟨lw_p43, List.forall_mem_cons.mpr ⟨lw_p44, List.forall_mem_cons.mpr ⟨lw_p45, List.forall_mem_cons.mpr ⟨lw_p46, List.forall_mem_cons.mpr ⟨lw_p47, fun _ h => absurd h List.not_mem_nil⟩⟩⟩⟩⟩⟩⟩⟩⟩⟩⟩⟩⟩⟩⟩⟩
theorem lw_p48 : lw_okq (⟨"DarkSittingModel", "letters", "()V"⟩, 30) := ⟨⟨by decide +kernel, by decide +kernel⟩, List.mem_of_getElem? (i := 1221) (by decide +kernel), List.mem_of_getElem? (i := 1386) (by decide +kernel), List.mem_of_getElem? (i := 1387) (by decide +kernel)⟩
theorem lw_p49 : lw_okq (⟨"DarkSittingModel", "readRule", "(I)Z"⟩, 30) := ⟨⟨by decide +kernel, by decide +kernel⟩, List.mem_of_getElem? (i := 1221) (by decide +kernel), List.mem_of_getElem? (i := 1396) (by decide +kernel), List.mem_of_getElem? (i := 1397) (by decide +kernel)⟩
theorem lw_p50 : lw_okq (⟨"DarkSittingModel", "isWord", "(Ljava/lang/String;)Z"⟩, 30) := ⟨⟨by decide +kernel, by decide +kernel⟩, List.mem_of_getElem? (i := 1221) (by decide +kernel), List.mem_of_getElem? (i := 1401) (by decide +kernel), List.mem_of_getElem? (i := 1402) (by decide +kernel)⟩
theorem lw_p51 : lw_okq (⟨"DarkSittingModel", "number", "(II)I"⟩, 30) := ⟨⟨by decide +kernel, by decide +kernel⟩, List.mem_of_getElem? (i := 1221) (by decide +kernel), List.mem_of_getElem? (i := 1410) (by decide +kernel), List.mem_of_getElem? (i := 1411) (by decide +kernel)⟩
theorem lw_p52 : lw_okq (⟨"DarkSittingModel", "tells", "(II)Z"⟩, 30) := ⟨⟨by decide +kernel, by decide +kernel⟩, List.mem_of_getElem? (i := 1221) (by decide +kernel), List.mem_of_getElem? (i := 1414) (by decide +kernel), List.mem_of_getElem? (i := 1415) (by decide +kernel)⟩
theorem lw_p53 : lw_okq (⟨"DarkSittingModel", "needsWord", "(Ljava/lang/String;)Z"⟩, 30) := ⟨⟨by decide +kernel, by decide +kernel⟩, List.mem_of_getElem? (i := 1221) (by decide +kernel), List.mem_of_getElem? (i := 1419) (by decide +kernel), List.mem_of_getElem? (i := 1420) (by decide +kernel)⟩
theorem lw_p54 : lw_okq (⟨"DarkSittingModel", "readWay", "(I)Z"⟩, 30) := ⟨⟨by decide +kernel, by decide +kernel⟩, List.mem_of_getElem? (i := 1221) (by decide +kernel), List.mem_of_getElem? (i := 1424) (by decide +kernel), List.mem_of_getElem? (i := 1425) (by decide +kernel)⟩
theorem lw_p55 : lw_okq (⟨"DarkSittingModel", "readCond", "()Z"⟩, 30) := ⟨⟨by decide +kernel, by decide +kernel⟩, List.mem_of_getElem? (i := 1221) (by decide +kernel), List.mem_of_getElem? (i := 1432) (by decide +kernel), List.mem_of_getElem? (i := 1433) (by decide +kernel)⟩
theorem lw_p56 : lw_okq (⟨"DarkSittingModel", "readAllOf", "()Z"⟩, 30) := ⟨⟨by decide +kernel, by decide +kernel⟩, List.mem_of_getElem? (i := 1221) (by decide +kernel), List.mem_of_getElem? (i := 1436) (by decide +kernel), List.mem_of_getElem? (i := 1437) (by decide +kernel)⟩
theorem lw_p57 : lw_okq (⟨"DarkSittingModel", "readAtom", "()Z"⟩, 30) := ⟨⟨by decide +kernel, by decide +kernel⟩, List.mem_of_getElem? (i := 1221) (by decide +kernel), List.mem_of_getElem? (i := 1440) (by decide +kernel), List.mem_of_getElem? (i := 1441) (by decide +kernel)⟩
theorem lw_p58 : lw_okq (⟨"DarkSittingModel", "sign", "(I)Z"⟩, 30) := ⟨⟨by decide +kernel, by decide +kernel⟩, List.mem_of_getElem? (i := 1221) (by decide +kernel), List.mem_of_getElem? (i := 1444) (by decide +kernel), List.mem_of_getElem? (i := 1445) (by decide +kernel)⟩
theorem lw_p59 : lw_okq (⟨"DarkSittingModel", "passes", "(Ljava/lang/String;)Z"⟩, 30) := ⟨⟨by decide +kernel, by decide +kernel⟩, List.mem_of_getElem? (i := 1221) (by decide +kernel), List.mem_of_getElem? (i := 1449) (by decide +kernel), List.mem_of_getElem? (i := 1450) (by decide +kernel)⟩
theorem lw_p60 : lw_okq (⟨"DarkSittingModel", "emits", "(II)V"⟩, 30) := ⟨⟨by decide +kernel, by decide +kernel⟩, List.mem_of_getElem? (i := 1221) (by decide +kernel), List.mem_of_getElem? (i := 1453) (by decide +kernel), List.mem_of_getElem? (i := 1454) (by decide +kernel)⟩
theorem lw_p61 : lw_okq (⟨"DarkSittingModel", "tagAt", "()I"⟩, 30) := ⟨⟨by decide +kernel, by decide +kernel⟩, List.mem_of_getElem? (i := 1221) (by decide +kernel), List.mem_of_getElem? (i := 1457) (by decide +kernel), List.mem_of_getElem? (i := 1458) (by decide +kernel)⟩
theorem lw_p62 : lw_okq (⟨"DarkSittingModel", "emitsOf", "(I)Z"⟩, 30) := ⟨⟨by decide +kernel, by decide +kernel⟩, List.mem_of_getElem? (i := 1221) (by decide +kernel), List.mem_of_getElem? (i := 1467) (by decide +kernel), List.mem_of_getElem? (i := 1468) (by decide +kernel)⟩
theorem lw_p63 : lw_okq (⟨"DarkSittingModel", "readSum", "()Z"⟩, 30) := ⟨⟨by decide +kernel, by decide +kernel⟩, List.mem_of_getElem? (i := 1221) (by decide +kernel), List.mem_of_getElem? (i := 1471) (by decide +kernel), List.mem_of_getElem? (i := 1472) (by decide +kernel)⟩
def lw_privs_4 : List (MethodName × Nat) := [(⟨"DarkSittingModel", "letters", "()V"⟩, 30), (⟨"DarkSittingModel", "readRule", "(I)Z"⟩, 30), (⟨"DarkSittingModel", "isWord", "(Ljava/lang/String;)Z"⟩, 30), (⟨"DarkSittingModel", "number", "(II)I"⟩, 30), (⟨"DarkSittingModel", "tells", "(II)Z"⟩, 30), (⟨"DarkSittingModel", "needsWord", "(Ljava/lang/String;)Z"⟩, 30), (⟨"DarkSittingModel", "readWay", "(I)Z"⟩, 30), (⟨"DarkSittingModel", "readCond", "()Z"⟩, 30), (⟨"DarkSittingModel", "readAllOf", "()Z"⟩, 30), (⟨"DarkSittingModel", "readAtom", "()Z"⟩, 30), (⟨"DarkSittingModel", "sign", "(I)Z"⟩, 30), (⟨"DarkSittingModel", "passes", "(Ljava/lang/String;)Z"⟩, 30), (⟨"DarkSittingModel", "emits", "(II)V"⟩, 30), (⟨"DarkSittingModel", "tagAt", "()I"⟩, 30), (⟨"DarkSittingModel", "emitsOf", "(I)Z"⟩, 30), (⟨"DarkSittingModel", "readSum", "()Z"⟩, 30)]
theorem lw_r4 : ∀ q ∈ lw_privs_4, lw_okq q := List.forall_mem_cons.mpr ⟨lw_p48, List.forall_mem_cons.mpr ⟨lw_p49, List.forall_mem_cons.mpr ⟨lw_p50, List.forall_mem_cons.mpr ⟨lw_p51, List.forall_mem_cons.mpr ⟨lw_p52, List.forall_mem_cons.mpr ⟨lw_p53, List.forall_mem_cons.mpr ⟨lw_p54, List.forall_mem_cons.mpr ⟨lw_p55, List.forall_mem_cons.mpr ⟨lw_p56, List.forall_mem_cons.mpr ⟨lw_p57, List.forall_mem_cons.mpr ⟨lw_p58, List.forall_mem_cons.mpr ⟨lw_p59, List.forall_mem_cons.mpr ⟨lw_p60, List.forall_mem_cons.mpr ⟨lw_p61, List.forall_mem_cons.mpr ⟨lw_p62, List.forall_mem_cons.mpr ⟨lw_p63, fun _ h => absurd h List.not_mem_nil⟩⟩⟩⟩⟩⟩⟩⟩⟩⟩⟩⟩⟩⟩⟩⟩
theorem lw_p64 : lw_okq (⟨"DarkSittingModel", "readPart", "()Z"⟩, 30) := ⟨⟨by decide +kernel, by decide +kernel⟩, List.mem_of_getElem? (i := 1221) (by decide +kernel), List.mem_of_getElem? (i := 1475) (by decide +kernel), List.mem_of_getElem? (i := 1476) (by decide +kernel)⟩
theorem lw_p65 : lw_okq (⟨"DarkSittingModel", "none", "(II)Z"⟩, 30) := ⟨⟨by decide +kernel, by decide +kernel⟩, List.mem_of_getElem? (i := 1221) (by decide +kernel), List.mem_of_getElem? (i := 1493) (by decide +kernel), List.mem_of_getElem? (i := 1494) (by decide +kernel)⟩
theorem lw_p66 : lw_okq (⟨"DarkSittingModel", "laysOut", "(II)V"⟩, 30) := ⟨⟨by decide +kernel, by decide +kernel⟩, List.mem_of_getElem? (i := 1221) (by decide +kernel), List.mem_of_getElem? (i := 1497) (by decide +kernel), List.mem_of_getElem? (i := 1498) (by decide +kernel)⟩
theorem lw_p67 : lw_okq (⟨"DarkSittingModel", "lines", "(I)I"⟩, 30) := ⟨⟨by decide +kernel, by decide +kernel⟩, List.mem_of_getElem? (i := 1221) (by decide +kernel), List.mem_of_getElem? (i := 1501) (by decide +kernel), List.mem_of_getElem? (i := 1502) (by decide +kernel)⟩
theorem lw_p68 : lw_okq (⟨"DarkSittingModel", "of", "(III)I"⟩, 30) := ⟨⟨by decide +kernel, by decide +kernel⟩, List.mem_of_getElem? (i := 1221) (by decide +kernel), List.mem_of_getElem? (i := 1505) (by decide +kernel), List.mem_of_getElem? (i := 1506) (by decide +kernel)⟩
theorem lw_p69 : lw_okq (⟨"DarkSittingModel", "sortOf", "(II)I"⟩, 30) := ⟨⟨by decide +kernel, by decide +kernel⟩, List.mem_of_getElem? (i := 1221) (by decide +kernel), List.mem_of_getElem? (i := 1509) (by decide +kernel), List.mem_of_getElem? (i := 1510) (by decide +kernel)⟩
theorem lw_p70 : lw_okq (⟨"DarkSittingModel", "holdsAll", "(IIIZ)Z"⟩, 30) := ⟨⟨by decide +kernel, by decide +kernel⟩, List.mem_of_getElem? (i := 1221) (by decide +kernel), List.mem_of_getElem? (i := 1517) (by decide +kernel), List.mem_of_getElem? (i := 1518) (by decide +kernel)⟩
theorem lw_p71 : lw_okq (⟨"DarkSittingModel", "holdsLine", "(IIIIZ)Z"⟩, 30) := ⟨⟨by decide +kernel, by decide +kernel⟩, List.mem_of_getElem? (i := 1221) (by decide +kernel), List.mem_of_getElem? (i := 1521) (by decide +kernel), List.mem_of_getElem? (i := 1522) (by decide +kernel)⟩
theorem lw_p72 : lw_okq (⟨"DarkSittingModel", "asked", "(IIIIZ)I"⟩, 30) := ⟨⟨by decide +kernel, by decide +kernel⟩, List.mem_of_getElem? (i := 1221) (by decide +kernel), List.mem_of_getElem? (i := 1525) (by decide +kernel), List.mem_of_getElem? (i := 1526) (by decide +kernel)⟩
theorem lw_p73 : lw_okq (⟨"DarkSittingModel", "ofHolder", "(II)I"⟩, 30) := ⟨⟨by decide +kernel, by decide +kernel⟩, List.mem_of_getElem? (i := 1221) (by decide +kernel), List.mem_of_getElem? (i := 1530) (by decide +kernel), List.mem_of_getElem? (i := 1531) (by decide +kernel)⟩
theorem lw_p74 : lw_okq (⟨"DarkSittingModel", "canBy", "(IZ)Z"⟩, 30) := ⟨⟨by decide +kernel, by decide +kernel⟩, List.mem_of_getElem? (i := 1221) (by decide +kernel), List.mem_of_getElem? (i := 1546) (by decide +kernel), List.mem_of_getElem? (i := 1547) (by decide +kernel)⟩
theorem lw_p75 : lw_okq (⟨"DarkSittingModel", "prepares", "(IZZ)Z"⟩, 30) := ⟨⟨by decide +kernel, by decide +kernel⟩, List.mem_of_getElem? (i := 1221) (by decide +kernel), List.mem_of_getElem? (i := 1550) (by decide +kernel), List.mem_of_getElem? (i := 1551) (by decide +kernel)⟩
theorem lw_p76 : lw_okq (⟨"DarkSittingModel", "reachOf", "(I)I"⟩, 30) := ⟨⟨by decide +kernel, by decide +kernel⟩, List.mem_of_getElem? (i := 1221) (by decide +kernel), List.mem_of_getElem? (i := 1560) (by decide +kernel), List.mem_of_getElem? (i := 1561) (by decide +kernel)⟩
theorem lw_p77 : lw_okq (⟨"DarkSittingModel", "lastOf", "(III)I"⟩, 30) := ⟨⟨by decide +kernel, by decide +kernel⟩, List.mem_of_getElem? (i := 1221) (by decide +kernel), List.mem_of_getElem? (i := 1564) (by decide +kernel), List.mem_of_getElem? (i := 1565) (by decide +kernel)⟩
theorem lw_p78 : lw_okq (⟨"DarkSittingModel", "canDo", "(III)Z"⟩, 30) := ⟨⟨by decide +kernel, by decide +kernel⟩, List.mem_of_getElem? (i := 1221) (by decide +kernel), List.mem_of_getElem? (i := 1569) (by decide +kernel), List.mem_of_getElem? (i := 1570) (by decide +kernel)⟩
theorem lw_p79 : lw_okq (⟨"DarkSittingModel", "goesOnwards", "()V"⟩, 30) := ⟨⟨by decide +kernel, by decide +kernel⟩, List.mem_of_getElem? (i := 1221) (by decide +kernel), List.mem_of_getElem? (i := 1573) (by decide +kernel), List.mem_of_getElem? (i := 1574) (by decide +kernel)⟩
def lw_privs_5 : List (MethodName × Nat) := [(⟨"DarkSittingModel", "readPart", "()Z"⟩, 30), (⟨"DarkSittingModel", "none", "(II)Z"⟩, 30), (⟨"DarkSittingModel", "laysOut", "(II)V"⟩, 30), (⟨"DarkSittingModel", "lines", "(I)I"⟩, 30), (⟨"DarkSittingModel", "of", "(III)I"⟩, 30), (⟨"DarkSittingModel", "sortOf", "(II)I"⟩, 30), (⟨"DarkSittingModel", "holdsAll", "(IIIZ)Z"⟩, 30), (⟨"DarkSittingModel", "holdsLine", "(IIIIZ)Z"⟩, 30), (⟨"DarkSittingModel", "asked", "(IIIIZ)I"⟩, 30), (⟨"DarkSittingModel", "ofHolder", "(II)I"⟩, 30), (⟨"DarkSittingModel", "canBy", "(IZ)Z"⟩, 30), (⟨"DarkSittingModel", "prepares", "(IZZ)Z"⟩, 30), (⟨"DarkSittingModel", "reachOf", "(I)I"⟩, 30), (⟨"DarkSittingModel", "lastOf", "(III)I"⟩, 30), (⟨"DarkSittingModel", "canDo", "(III)Z"⟩, 30), (⟨"DarkSittingModel", "goesOnwards", "()V"⟩, 30)]
theorem lw_r5 : ∀ q ∈ lw_privs_5, lw_okq q := List.forall_mem_cons.mpr ⟨lw_p64, List.forall_mem_cons.mpr ⟨lw_p65, List.forall_mem_cons.mpr ⟨lw_p66, List.forall_mem_cons.mpr ⟨lw_p67, List.forall_mem_cons.mpr ⟨lw_p68, List.forall_mem_cons.mpr ⟨lw_p69, List.forall_mem_cons.mpr ⟨lw_p70, List.forall_mem_cons.mpr ⟨lw_p71, List.forall_mem_cons.mpr ⟨lw_p72, List.forall_mem_cons.mpr ⟨lw_p73, List.forall_mem_cons.mpr ⟨lw_p74, List.forall_mem_cons.mpr ⟨lw_p75, List.forall_mem_cons.mpr ⟨lw_p76, List.forall_mem_cons.mpr ⟨lw_p77, List.forall_mem_cons.mpr ⟨lw_p78, List.forall_mem_cons.mpr ⟨lw_p79, fun _ h => absurd h List.not_mem_nil⟩⟩⟩⟩⟩⟩⟩⟩⟩⟩⟩⟩⟩⟩⟩⟩
theorem lw_p80 : lw_okq (⟨"DarkSittingModel", "canGo", "(III)Z"⟩, 30) := ⟨⟨by decide +kernel, by decide +kernel⟩, List.mem_of_getElem? (i := 1221) (by decide +kernel), List.mem_of_getElem? (i := 1577) (by decide +kernel), List.mem_of_getElem? (i := 1578) (by decide +kernel)⟩
theorem lw_p81 : lw_okq (⟨"DarkSittingModel", "freedBy", "(I)I"⟩, 30) := ⟨⟨by decide +kernel, by decide +kernel⟩, List.mem_of_getElem? (i := 1221) (by decide +kernel), List.mem_of_getElem? (i := 1581) (by decide +kernel), List.mem_of_getElem? (i := 1582) (by decide +kernel)⟩
theorem lw_p82 : lw_okq (⟨"DarkSittingModel", "meets", "(IZ)V"⟩, 30) := ⟨⟨by decide +kernel, by decide +kernel⟩, List.mem_of_getElem? (i := 1221) (by decide +kernel), List.mem_of_getElem? (i := 1593) (by decide +kernel), List.mem_of_getElem? (i := 1594) (by decide +kernel)⟩
theorem lw_p83 : lw_okq (⟨"DarkSittingModel", "goesBackwards", "()V"⟩, 30) := ⟨⟨by decide +kernel, by decide +kernel⟩, List.mem_of_getElem? (i := 1221) (by decide +kernel), List.mem_of_getElem? (i := 1597) (by decide +kernel), List.mem_of_getElem? (i := 1598) (by decide +kernel)⟩
theorem lw_p84 : lw_okq (⟨"DarkSittingModel", "earliestOf", "(II)I"⟩, 30) := ⟨⟨by decide +kernel, by decide +kernel⟩, List.mem_of_getElem? (i := 1221) (by decide +kernel), List.mem_of_getElem? (i := 1601) (by decide +kernel), List.mem_of_getElem? (i := 1602) (by decide +kernel)⟩
theorem lw_p85 : lw_okq (⟨"DarkSittingModel", "isShut", "(III)Z"⟩, 30) := ⟨⟨by decide +kernel, by decide +kernel⟩, List.mem_of_getElem? (i := 1221) (by decide +kernel), List.mem_of_getElem? (i := 1613) (by decide +kernel), List.mem_of_getElem? (i := 1614) (by decide +kernel)⟩
theorem lw_p86 : lw_okq (⟨"DarkSittingModel", "hasOthers", "(II)Z"⟩, 30) := ⟨⟨by decide +kernel, by decide +kernel⟩, List.mem_of_getElem? (i := 1221) (by decide +kernel), List.mem_of_getElem? (i := 1633) (by decide +kernel), List.mem_of_getElem? (i := 1634) (by decide +kernel)⟩
theorem lw_p87 : lw_okq (⟨"DarkSittingModel", "forgets", "()V"⟩, 30) := ⟨⟨by decide +kernel, by decide +kernel⟩, List.mem_of_getElem? (i := 1221) (by decide +kernel), List.mem_of_getElem? (i := 1641) (by decide +kernel), List.mem_of_getElem? (i := 1642) (by decide +kernel)⟩
theorem lw_p88 : lw_okq (⟨"DarkSittingModel", "oddsAfter", "(I)V"⟩, 30) := ⟨⟨by decide +kernel, by decide +kernel⟩, List.mem_of_getElem? (i := 1221) (by decide +kernel), List.mem_of_getElem? (i := 1645) (by decide +kernel), List.mem_of_getElem? (i := 1646) (by decide +kernel)⟩
theorem lw_p89 : lw_okq (⟨"DarkSittingModel", "shares", "()V"⟩, 30) := ⟨⟨by decide +kernel, by decide +kernel⟩, List.mem_of_getElem? (i := 1221) (by decide +kernel), List.mem_of_getElem? (i := 1649) (by decide +kernel), List.mem_of_getElem? (i := 1650) (by decide +kernel)⟩
theorem lw_p90 : lw_okq (⟨"DarkSittingModel", "factorOf", "(II)J"⟩, 30) := ⟨⟨by decide +kernel, by decide +kernel⟩, List.mem_of_getElem? (i := 1221) (by decide +kernel), List.mem_of_getElem? (i := 1654) (by decide +kernel), List.mem_of_getElem? (i := 1655) (by decide +kernel)⟩
theorem lw_p91 : lw_okq (⟨"DarkSittingModel", "canBe", "(IIZ)I"⟩, 30) := ⟨⟨by decide +kernel, by decide +kernel⟩, List.mem_of_getElem? (i := 1221) (by decide +kernel), List.mem_of_getElem? (i := 1658) (by decide +kernel), List.mem_of_getElem? (i := 1659) (by decide +kernel)⟩
theorem lw_p92 : lw_okq (⟨"DarkSittingModel", "springs", "(II)I"⟩, 30) := ⟨⟨by decide +kernel, by decide +kernel⟩, List.mem_of_getElem? (i := 1221) (by decide +kernel), List.mem_of_getElem? (i := 1665) (by decide +kernel), List.mem_of_getElem? (i := 1666) (by decide +kernel)⟩
theorem lw_p93 : lw_okq (⟨"DarkSittingModel", "knowing", "(III)I"⟩, 30) := ⟨⟨by decide +kernel, by decide +kernel⟩, List.mem_of_getElem? (i := 1221) (by decide +kernel), List.mem_of_getElem? (i := 1701) (by decide +kernel), List.mem_of_getElem? (i := 1702) (by decide +kernel)⟩
theorem lw_p94 : lw_okq (⟨"DarkSittingModel", "spreads", "(I)V"⟩, 30) := ⟨⟨by decide +kernel, by decide +kernel⟩, List.mem_of_getElem? (i := 1221) (by decide +kernel), List.mem_of_getElem? (i := 1721) (by decide +kernel), List.mem_of_getElem? (i := 1722) (by decide +kernel)⟩
theorem lw_p95 : lw_okq (⟨"DarkSittingModel", "canTurn", "(II)Z"⟩, 30) := ⟨⟨by decide +kernel, by decide +kernel⟩, List.mem_of_getElem? (i := 1221) (by decide +kernel), List.mem_of_getElem? (i := 1726) (by decide +kernel), List.mem_of_getElem? (i := 1727) (by decide +kernel)⟩
def lw_privs_6 : List (MethodName × Nat) := [(⟨"DarkSittingModel", "canGo", "(III)Z"⟩, 30), (⟨"DarkSittingModel", "freedBy", "(I)I"⟩, 30), (⟨"DarkSittingModel", "meets", "(IZ)V"⟩, 30), (⟨"DarkSittingModel", "goesBackwards", "()V"⟩, 30), (⟨"DarkSittingModel", "earliestOf", "(II)I"⟩, 30), (⟨"DarkSittingModel", "isShut", "(III)Z"⟩, 30), (⟨"DarkSittingModel", "hasOthers", "(II)Z"⟩, 30), (⟨"DarkSittingModel", "forgets", "()V"⟩, 30), (⟨"DarkSittingModel", "oddsAfter", "(I)V"⟩, 30), (⟨"DarkSittingModel", "shares", "()V"⟩, 30), (⟨"DarkSittingModel", "factorOf", "(II)J"⟩, 30), (⟨"DarkSittingModel", "canBe", "(IIZ)I"⟩, 30), (⟨"DarkSittingModel", "springs", "(II)I"⟩, 30), (⟨"DarkSittingModel", "knowing", "(III)I"⟩, 30), (⟨"DarkSittingModel", "spreads", "(I)V"⟩, 30), (⟨"DarkSittingModel", "canTurn", "(II)Z"⟩, 30)]
theorem lw_r6 : ∀ q ∈ lw_privs_6, lw_okq q := List.forall_mem_cons.mpr ⟨lw_p80, List.forall_mem_cons.mpr ⟨lw_p81, List.forall_mem_cons.mpr ⟨lw_p82, List.forall_mem_cons.mpr ⟨lw_p83, List.forall_mem_cons.mpr ⟨lw_p84, List.forall_mem_cons.mpr ⟨lw_p85, List.forall_mem_cons.mpr ⟨lw_p86, List.forall_mem_cons.mpr ⟨lw_p87, List.forall_mem_cons.mpr ⟨lw_p88, List.forall_mem_cons.mpr ⟨lw_p89, List.forall_mem_cons.mpr ⟨lw_p90, List.forall_mem_cons.mpr ⟨lw_p91, List.forall_mem_cons.mpr ⟨lw_p92, List.forall_mem_cons.mpr ⟨lw_p93, List.forall_mem_cons.mpr ⟨lw_p94, List.forall_mem_cons.mpr ⟨lw_p95, fun _ h => absurd h List.not_mem_nil⟩⟩⟩⟩⟩⟩⟩⟩⟩⟩⟩⟩⟩⟩⟩⟩
theorem lw_p96 : lw_okq (⟨"DarkSittingModel", "leastTo", "(I)I"⟩, 30) := ⟨⟨by decide +kernel, by decide +kernel⟩, List.mem_of_getElem? (i := 1221) (by decide +kernel), List.mem_of_getElem? (i := 1731) (by decide +kernel), List.mem_of_getElem? (i := 1732) (by decide +kernel)⟩
def lw_privs_7 : List (MethodName × Nat) := [(⟨"DarkSittingModel", "leastTo", "(I)I"⟩, 30)]
theorem lw_r7 : ∀ q ∈ lw_privs_7, lw_okq q := List.forall_mem_cons.mpr ⟨lw_p96, fun _ h => absurd h List.not_mem_nil⟩
def lw_privs : List (MethodName × Nat) := lw_privs_1 ++ (lw_privs_2 ++ (lw_privs_3 ++ (lw_privs_4 ++ (lw_privs_5 ++ (lw_privs_6 ++ (lw_privs_7))))))
def lw_tbl : List Cond := k2_sels lw_privs ++ tables_1
theorem lw_privs_ok : ∀ q ∈ lw_privs, lw_okq q := by
  show ∀ q ∈ lw_privs_1 ++ (lw_privs_2 ++ (lw_privs_3 ++ (lw_privs_4 ++ (lw_privs_5 ++ (lw_privs_6 ++ (lw_privs_7)))))), lw_okq q
  exact List.forall_mem_append.mpr ⟨lw_r1, List.forall_mem_append.mpr ⟨lw_r2, List.forall_mem_append.mpr ⟨lw_r3, List.forall_mem_append.mpr ⟨lw_r4, List.forall_mem_append.mpr ⟨lw_r5, List.forall_mem_append.mpr ⟨lw_r6, lw_r7⟩⟩⟩⟩⟩⟩
end
section
def RX0 : String := "DarkSitting$Book"
def TX0 : u_T := fun k => match k with
  | 0 => ("DarkSitting$Book", "persons", "LDarkSitting$Table;", true)
  | 1 => ("DarkSitting$Book", "rules", "[LDarkSitting$Rule;", true)
  | 2 => ("DarkSitting$Book", "ruleCount", "I", false)
  | 3 => ("DarkSitting$Book", "ways", "[LDarkSitting$Way;", true)
  | 4 => ("DarkSitting$Book", "wayCount", "I", false)
  | 5 => ("DarkSitting$Book", "things", "LDarkSitting$Table;", true)
  | 6 => ("DarkSitting$Book", "notes", "LDarkSitting$Table;", true)
  | 7 => ("DarkSitting$Book", "traps", "LDarkSitting$Table;", true)
  | 8 => ("DarkSitting$Book", "stories", "LDarkSitting$Table;", true)
  | 9 => ("DarkSitting$Book", "nights", "LDarkSitting$Table;", true)
  | 10 => ("DarkSitting$Book", "tellings", "LDarkSitting$Table;", true)
  | 11 => ("DarkSitting$Book", "knots", "LDarkSitting$Table;", true)
  | 12 => ("DarkSitting$Book", "beginners", "I", false)
  | _ => ("DarkSitting$Book", "ropeSlack", "I", false)
def tyX0 : Nat → FieldType := fun k => match k with
  | 0 => .object "DarkSitting$Table"
  | 1 => .array (.object "DarkSitting$Rule")
  | 2 => .int
  | 3 => .array (.object "DarkSitting$Way")
  | 4 => .int
  | 5 => .object "DarkSitting$Table"
  | 6 => .object "DarkSitting$Table"
  | 7 => .object "DarkSitting$Table"
  | 8 => .object "DarkSitting$Table"
  | 9 => .object "DarkSitting$Table"
  | 10 => .object "DarkSitting$Table"
  | 11 => .object "DarkSitting$Table"
  | 12 => .int
  | _ => .int
abbrev wsX00 : List Cond := u_ws RX0 TX0 14
theorem nmX0 : ∀ a, a < 14 → ∀ b, b < 14 → a ≠ b → (TX0 a).2.1 ≠ (TX0 b).2.1 := by decide +kernel
theorem tyX0_ok : ∀ k, k < 14 → parseFieldDescriptor (TX0 k).2.2.1 = some (tyX0 k) := by decide +kernel
abbrev cX0_init : ByteArray := prog_2_method_1_code
def yX0_init : MethodName := ⟨RX0, "<init>", "()V"⟩
abbrev cX0_addRule : ByteArray := prog_2_method_2_code
def yX0_addRule : MethodName := ⟨RX0, "addRule", "(LDarkSitting$Rule;)I"⟩
abbrev cX0_addWay : ByteArray := prog_2_method_3_code
def yX0_addWay : MethodName := ⟨RX0, "addWay", "(LDarkSitting$Way;)I"⟩
abbrev cX0_allWays : ByteArray := prog_2_method_4_code
def yX0_allWays : MethodName := ⟨RX0, "allWays", "()I"⟩
abbrev cX0_setsFor : ByteArray := prog_2_method_5_code
def yX0_setsFor : MethodName := ⟨RX0, "setsFor", "(II)I"⟩
abbrev cX0_greatestReach : ByteArray := prog_2_method_6_code
def yX0_greatestReach : MethodName := ⟨RX0, "greatestReach", "(I)I"⟩
abbrev cX0_become : ByteArray := prog_2_method_7_code
def yX0_become : MethodName := ⟨RX0, "become", "(LDarkSitting$Book;)V"⟩
def RX1 : String := "DarkSitting$Course"
def TX1 : u_T := fun k => match k with
  | 0 => ("DarkSitting$Course", "book", "LDarkSitting$Book;", true)
  | 1 => ("DarkSitting$Course", "sitting", "LDarkSitting$Sitting;", true)
  | 2 => ("DarkSitting$Course", "startSets", "[I", true)
  | 3 => ("DarkSitting$Course", "goingSets", "[I", true)
  | 4 => ("DarkSitting$Course", "allowedSets", "[I", true)
  | 5 => ("DarkSitting$Course", "sets", "[I", true)
  | _ => ("DarkSitting$Course", "everSets", "[I", true)
def tyX1 : Nat → FieldType := fun k => match k with
  | 0 => .object "DarkSitting$Book"
  | 1 => .object "DarkSitting$Sitting"
  | 2 => .array .int
  | 3 => .array .int
  | 4 => .array .int
  | 5 => .array .int
  | _ => .array .int
abbrev wsX10 : List Cond := u_ws RX1 TX1 7
theorem nmX1 : ∀ a, a < 7 → ∀ b, b < 7 → a ≠ b → (TX1 a).2.1 ≠ (TX1 b).2.1 := by decide +kernel
theorem tyX1_ok : ∀ k, k < 7 → parseFieldDescriptor (TX1 k).2.2.1 = some (tyX1 k) := by decide +kernel
abbrev cX1_init : ByteArray := prog_3_method_1_code
def yX1_init : MethodName := ⟨RX1, "<init>", "(LDarkSitting$Book;)V"⟩
abbrev cX1_forget : ByteArray := prog_3_method_2_code
def yX1_forget : MethodName := ⟨RX1, "forget", "()V"⟩
abbrev cX1_prepare : ByteArray := prog_3_method_3_code
def yX1_prepare : MethodName := ⟨RX1, "prepare", "(IIIZ)V"⟩
abbrev cX1_bringsAllNotes : ByteArray := prog_3_method_4_code
def yX1_bringsAllNotes : MethodName := ⟨RX1, "bringsAllNotes", "(I)Z"⟩
abbrev cX1_allowUnseen : ByteArray := prog_3_method_5_code
def yX1_allowUnseen : MethodName := ⟨RX1, "allowUnseen", "()V"⟩
abbrev cX1_walk : ByteArray := prog_3_method_6_code
def yX1_walk : MethodName := ⟨RX1, "walk", "(I)V"⟩
abbrev cX1_withAllTheirParts : ByteArray := prog_3_method_7_code
def yX1_withAllTheirParts : MethodName := ⟨RX1, "withAllTheirParts", "(I)I"⟩
abbrev cX1_freedBehind : ByteArray := prog_3_method_8_code
def yX1_freedBehind : MethodName := ⟨RX1, "freedBehind", "(II)I"⟩
abbrev cX1_firstSecondOf : ByteArray := prog_3_method_9_code
def yX1_firstSecondOf : MethodName := ⟨RX1, "firstSecondOf", "(I)I"⟩
abbrev cX1_limbsAt : ByteArray := prog_3_method_10_code
def yX1_limbsAt : MethodName := ⟨RX1, "limbsAt", "(I)I"⟩
abbrev cX1_canEver : ByteArray := prog_3_method_11_code
def yX1_canEver : MethodName := ⟨RX1, "canEver", "(IIZI)Z"⟩
def RX2 : String := "DarkSitting$Reader"
def TX2 : u_T := fun k => match k with
  | 0 => ("DarkSitting$Reader", "scanner", "LDarkSitting$Scanner;", true)
  | 1 => ("DarkSitting$Reader", "next", "I", false)
  | 2 => ("DarkSitting$Reader", "wrong", "I", false)
  | 3 => ("DarkSitting$Reader", "lines", "[I", true)
  | 4 => ("DarkSitting$Reader", "lineCells", "I", false)
  | 5 => ("DarkSitting$Reader", "frees", "I", false)
  | 6 => ("DarkSitting$Reader", "take", "I", false)
  | 7 => ("DarkSitting$Reader", "reach", "I", false)
  | 8 => ("DarkSitting$Reader", "steps", "[I", true)
  | _ => ("DarkSitting$Reader", "stepCount", "I", false)
def tyX2 : Nat → FieldType := fun k => match k with
  | 0 => .object "DarkSitting$Scanner"
  | 1 => .int
  | 2 => .int
  | 3 => .array .int
  | 4 => .int
  | 5 => .int
  | 6 => .int
  | 7 => .int
  | 8 => .array .int
  | _ => .int
abbrev wsX20 : List Cond := u_ws RX2 TX2 10
theorem nmX2 : ∀ a, a < 10 → ∀ b, b < 10 → a ≠ b → (TX2 a).2.1 ≠ (TX2 b).2.1 := by decide +kernel
theorem tyX2_ok : ∀ k, k < 10 → parseFieldDescriptor (TX2 k).2.2.1 = some (tyX2 k) := by decide +kernel
abbrev cX2_init : ByteArray := prog_4_method_1_code
def yX2_init : MethodName := ⟨RX2, "<init>", "()V"⟩
abbrev cX2_readLines : ByteArray := prog_4_method_2_code
def yX2_readLines : MethodName := ⟨RX2, "readLines", "([BIZ)Z"⟩
abbrev cX2_ruleRead : ByteArray := prog_4_method_3_code
def yX2_ruleRead : MethodName := ⟨RX2, "ruleRead", "()LDarkSitting$Rule;"⟩
abbrev cX2_wayRead : ByteArray := prog_4_method_4_code
def yX2_wayRead : MethodName := ⟨RX2, "wayRead", "()LDarkSitting$Way;"⟩
abbrev cX2_startAnew : ByteArray := prog_4_method_5_code
def yX2_startAnew : MethodName := ⟨RX2, "startAnew", "()V"⟩
abbrev cX2_token : ByteArray := prog_4_method_6_code
def yX2_token : MethodName := ⟨RX2, "token", "()I"⟩
abbrev cX2_refuse : ByteArray := prog_4_method_7_code
def yX2_refuse : MethodName := ⟨RX2, "refuse", "()Z"⟩
abbrev cX2_pass : ByteArray := prog_4_method_8_code
def yX2_pass : MethodName := ⟨RX2, "pass", "(I)Z"⟩
abbrev cX2_number : ByteArray := prog_4_method_9_code
def yX2_number : MethodName := ⟨RX2, "number", "(II)I"⟩
abbrev cX2_readRuleLine : ByteArray := prog_4_method_10_code
def yX2_readRuleLine : MethodName := ⟨RX2, "readRuleLine", "()Z"⟩
abbrev cX2_readPair : ByteArray := prog_4_method_11_code
def yX2_readPair : MethodName := ⟨RX2, "readPair", "(IIIII)Z"⟩
abbrev cX2_keepLine : ByteArray := prog_4_method_12_code
def yX2_keepLine : MethodName := ⟨RX2, "keepLine", "(III)Z"⟩
abbrev cX2_readWayLine : ByteArray := prog_4_method_13_code
def yX2_readWayLine : MethodName := ⟨RX2, "readWayLine", "()Z"⟩
abbrev cX2_keepStep : ByteArray := prog_4_method_14_code
def yX2_keepStep : MethodName := ⟨RX2, "keepStep", "(II)Z"⟩
abbrev cX2_readCondition : ByteArray := prog_4_method_15_code
def yX2_readCondition : MethodName := ⟨RX2, "readCondition", "(I)Z"⟩
abbrev cX2_readAtom : ByteArray := prog_4_method_16_code
def yX2_readAtom : MethodName := ⟨RX2, "readAtom", "(I)Z"⟩
abbrev cX2_readComparison : ByteArray := prog_4_method_17_code
def yX2_readComparison : MethodName := ⟨RX2, "readComparison", "()Z"⟩
abbrev cX2_readSum : ByteArray := prog_4_method_18_code
def yX2_readSum : MethodName := ⟨RX2, "readSum", "()Z"⟩
def RX3 : String := "DarkSitting$Ropes"
def TX3 : u_T := fun k => match k with
  | 0 => ("DarkSitting$Ropes", "book", "LDarkSitting$Book;", true)
  | 1 => ("DarkSitting$Ropes", "seconds", "[I", true)
  | _ => ("DarkSitting$Ropes", "slacks", "[I", true)
def tyX3 : Nat → FieldType := fun k => match k with
  | 0 => .object "DarkSitting$Book"
  | 1 => .array .int
  | _ => .array .int
abbrev wsX30 : List Cond := u_ws RX3 TX3 3
theorem nmX3 : ∀ a, a < 3 → ∀ b, b < 3 → a ≠ b → (TX3 a).2.1 ≠ (TX3 b).2.1 := by decide +kernel
theorem tyX3_ok : ∀ k, k < 3 → parseFieldDescriptor (TX3 k).2.2.1 = some (tyX3 k) := by decide +kernel
abbrev cX3_init : ByteArray := prog_5_method_1_code
def yX3_init : MethodName := ⟨RX3, "<init>", "(LDarkSitting$Book;)V"⟩
abbrev cX3_fewestOut : ByteArray := prog_5_method_2_code
def yX3_fewestOut : MethodName := ⟨RX3, "fewestOut", "(I)I"⟩
abbrev cX3_fewestOutAndIn : ByteArray := prog_5_method_3_code
def yX3_fewestOutAndIn : MethodName := ⟨RX3, "fewestOutAndIn", "(I)I"⟩
abbrev cX3_firstToOpen : ByteArray := prog_5_method_4_code
def yX3_firstToOpen : MethodName := ⟨RX3, "firstToOpen", "(I)I"⟩
abbrev cX3_reckonOut : ByteArray := prog_5_method_5_code
def yX3_reckonOut : MethodName := ⟨RX3, "reckonOut", "(I)V"⟩
abbrev cX3_reckonSlacks : ByteArray := prog_5_method_6_code
def yX3_reckonSlacks : MethodName := ⟨RX3, "reckonSlacks", "()V"⟩
abbrev cX3_hasAll : ByteArray := prog_5_method_7_code
def yX3_hasAll : MethodName := ⟨RX3, "hasAll", "(II)Z"⟩
abbrev cX3_shorten : ByteArray := prog_5_method_8_code
def yX3_shorten : MethodName := ⟨RX3, "shorten", "()V"⟩
abbrev cX3_secondsBy : ByteArray := prog_5_method_9_code
def yX3_secondsBy : MethodName := ⟨RX3, "secondsBy", "(II)I"⟩
abbrev cX3_givesWay : ByteArray := prog_5_method_10_code
def yX3_givesWay : MethodName := ⟨RX3, "givesWay", "(II)Z"⟩
def RX4 : String := "DarkSitting$Rule"
def TX4 : u_T := fun k => match k with
  | _ => ("DarkSitting$Rule", "lines", "[I", true)
def tyX4 : Nat → FieldType := fun k => match k with
  | _ => .array .int
abbrev wsX40 : List Cond := u_ws RX4 TX4 1
theorem nmX4 : ∀ a, a < 1 → ∀ b, b < 1 → a ≠ b → (TX4 a).2.1 ≠ (TX4 b).2.1 := by decide +kernel
theorem tyX4_ok : ∀ k, k < 1 → parseFieldDescriptor (TX4 k).2.2.1 = some (tyX4 k) := by decide +kernel
abbrev cX4_init : ByteArray := prog_6_method_1_code
def yX4_init : MethodName := ⟨RX4, "<init>", "([I)V"⟩
abbrev cX4_lineCount : ByteArray := prog_6_method_2_code
def yX4_lineCount : MethodName := ⟨RX4, "lineCount", "()I"⟩
def RX5 : String := "DarkSitting$Scanner"
def TX5 : u_T := fun k => match k with
  | 0 => ("DarkSitting$Scanner", "tokens", "[I", true)
  | 1 => ("DarkSitting$Scanner", "starts", "[I", true)
  | 2 => ("DarkSitting$Scanner", "numbers", "[I", true)
  | _ => ("DarkSitting$Scanner", "size", "I", false)
def tyX5 : Nat → FieldType := fun k => match k with
  | 0 => .array .int
  | 1 => .array .int
  | 2 => .array .int
  | _ => .int
abbrev wsX50 : List Cond := u_ws RX5 TX5 4
theorem nmX5 : ∀ a, a < 4 → ∀ b, b < 4 → a ≠ b → (TX5 a).2.1 ≠ (TX5 b).2.1 := by decide +kernel
theorem tyX5_ok : ∀ k, k < 4 → parseFieldDescriptor (TX5 k).2.2.1 = some (tyX5 k) := by decide +kernel
abbrev cX5_init : ByteArray := prog_7_method_1_code
def yX5_init : MethodName := ⟨RX5, "<init>", "()V"⟩
abbrev cX5_scan : ByteArray := prog_7_method_2_code
def yX5_scan : MethodName := ⟨RX5, "scan", "([BI)V"⟩
abbrev cX5_put : ByteArray := prog_7_method_3_code
def yX5_put : MethodName := ⟨RX5, "put", "(III)V"⟩
abbrev cX5_isLetter : ByteArray := prog_7_method_4_code
def yX5_isLetter : MethodName := ⟨RX5, "isLetter", "(I)Z"⟩
abbrev cX5_isDigit : ByteArray := prog_7_method_5_code
def yX5_isDigit : MethodName := ⟨RX5, "isDigit", "(I)Z"⟩
abbrev cX5_numberOf : ByteArray := prog_7_method_6_code
def yX5_numberOf : MethodName := ⟨RX5, "numberOf", "([BII)I"⟩
def RX6 : String := "DarkSitting$Sitting"
def TX6 : u_T := fun k => match k with
  | 0 => ("DarkSitting$Sitting", "last", "I", false)
  | 1 => ("DarkSitting$Sitting", "held", "I", false)
  | 2 => ("DarkSitting$Sitting", "tied", "I", false)
  | 3 => ("DarkSitting$Sitting", "lit", "[I", true)
  | 4 => ("DarkSitting$Sitting", "holderKnows", "[I", true)
  | 5 => ("DarkSitting$Sitting", "holderTires", "[I", true)
  | 6 => ("DarkSitting$Sitting", "tieSlack", "[I", true)
  | _ => ("DarkSitting$Sitting", "waiting", "[I", true)
def tyX6 : Nat → FieldType := fun k => match k with
  | 0 => .int
  | 1 => .int
  | 2 => .int
  | 3 => .array .int
  | 4 => .array .int
  | 5 => .array .int
  | 6 => .array .int
  | _ => .array .int
abbrev wsX60 : List Cond := u_ws RX6 TX6 8
theorem nmX6 : ∀ a, a < 8 → ∀ b, b < 8 → a ≠ b → (TX6 a).2.1 ≠ (TX6 b).2.1 := by decide +kernel
theorem tyX6_ok : ∀ k, k < 8 → parseFieldDescriptor (TX6 k).2.2.1 = some (tyX6 k) := by decide +kernel
abbrev cX6_init : ByteArray := prog_8_method_1_code
def yX6_init : MethodName := ⟨RX6, "<init>", "()V"⟩
abbrev cX6_settle : ByteArray := prog_8_method_2_code
def yX6_settle : MethodName := ⟨RX6, "settle", "(LDarkSitting$Rule;ILDarkSitting$Table;)V"⟩
abbrev cX6_settleLine : ByteArray := prog_8_method_3_code
def yX6_settleLine : MethodName := ⟨RX6, "settleLine", "(IIILDarkSitting$Table;)V"⟩
abbrev cX6_litSeconds : ByteArray := prog_8_method_4_code
def yX6_litSeconds : MethodName := ⟨RX6, "litSeconds", "()I"⟩
abbrev cX6_setsThatMeet : ByteArray := prog_8_method_5_code
def yX6_setsThatMeet : MethodName := ⟨RX6, "setsThatMeet", "(LDarkSitting$Way;IZ)I"⟩
abbrev cX6_isTag : ByteArray := prog_8_method_6_code
def yX6_isTag : MethodName := ⟨RX6, "isTag", "(I)Z"⟩
abbrev cX6_setsOfTag : ByteArray := prog_8_method_7_code
def yX6_setsOfTag : MethodName := ⟨RX6, "setsOfTag", "(III)I"⟩
abbrev cX6_partOf : ByteArray := prog_8_method_8_code
def yX6_partOf : MethodName := ⟨RX6, "partOf", "(III)I"⟩
abbrev cX6_setsThatCompare : ByteArray := prog_8_method_9_code
def yX6_setsThatCompare : MethodName := ⟨RX6, "setsThatCompare", "(III)I"⟩
def RX7 : String := "DarkSitting$Table"
def TX7 : u_T := fun k => match k with
  | 0 => ("DarkSitting$Table", "width", "I", true)
  | 1 => ("DarkSitting$Table", "cells", "[I", true)
  | _ => ("DarkSitting$Table", "size", "I", false)
def tyX7 : Nat → FieldType := fun k => match k with
  | 0 => .int
  | 1 => .array .int
  | _ => .int
abbrev wsX70 : List Cond := u_ws RX7 TX7 3
theorem nmX7 : ∀ a, a < 3 → ∀ b, b < 3 → a ≠ b → (TX7 a).2.1 ≠ (TX7 b).2.1 := by decide +kernel
theorem tyX7_ok : ∀ k, k < 3 → parseFieldDescriptor (TX7 k).2.2.1 = some (tyX7 k) := by decide +kernel
abbrev cX7_init : ByteArray := prog_9_method_1_code
def yX7_init : MethodName := ⟨RX7, "<init>", "(II)V"⟩
abbrev cX7_hasRoom : ByteArray := prog_9_method_2_code
def yX7_hasRoom : MethodName := ⟨RX7, "hasRoom", "()Z"⟩
abbrev cX7_add : ByteArray := prog_9_method_3_code
def yX7_add : MethodName := ⟨RX7, "add", "(IIIII)I"⟩
abbrev cX7_put : ByteArray := prog_9_method_4_code
def yX7_put : MethodName := ⟨RX7, "put", "(II)V"⟩
abbrev cX7_get : ByteArray := prog_9_method_5_code
def yX7_get : MethodName := ⟨RX7, "get", "(II)I"⟩
abbrev cX7_become : ByteArray := prog_9_method_6_code
def yX7_become : MethodName := ⟨RX7, "become", "(LDarkSitting$Table;)V"⟩
def RX8 : String := "DarkSitting$Token"
def TX8 : u_T := fun k => match k with
  | _ => ("", "", "", false)
def tyX8 : Nat → FieldType := fun k => match k with
  | _ => .int
abbrev wsX80 : List Cond := u_ws RX8 TX8 0
theorem nmX8 : ∀ a, a < 0 → ∀ b, b < 0 → a ≠ b → (TX8 a).2.1 ≠ (TX8 b).2.1 := by decide +kernel
theorem tyX8_ok : ∀ k, k < 0 → parseFieldDescriptor (TX8 k).2.2.1 = some (tyX8 k) := by decide +kernel
abbrev cX8_ofWord : ByteArray := prog_10_method_2_code
def yX8_ofWord : MethodName := ⟨RX8, "ofWord", "([BII)I"⟩
abbrev cX8_isSame : ByteArray := prog_10_method_3_code
def yX8_isSame : MethodName := ⟨RX8, "isSame", "([BIIII)Z"⟩
abbrev cX8_ofSign : ByteArray := prog_10_method_4_code
def yX8_ofSign : MethodName := ⟨RX8, "ofSign", "(I)I"⟩
def RX9 : String := "DarkSitting$Way"
def TX9 : u_T := fun k => match k with
  | 0 => ("DarkSitting$Way", "frees", "I", true)
  | 1 => ("DarkSitting$Way", "take", "I", true)
  | 2 => ("DarkSitting$Way", "reach", "I", true)
  | _ => ("DarkSitting$Way", "steps", "[I", true)
def tyX9 : Nat → FieldType := fun k => match k with
  | 0 => .int
  | 1 => .int
  | 2 => .int
  | _ => .array .int
abbrev wsX90 : List Cond := u_ws RX9 TX9 4
theorem nmX9 : ∀ a, a < 4 → ∀ b, b < 4 → a ≠ b → (TX9 a).2.1 ≠ (TX9 b).2.1 := by decide +kernel
theorem tyX9_ok : ∀ k, k < 4 → parseFieldDescriptor (TX9 k).2.2.1 = some (tyX9 k) := by decide +kernel
abbrev cX9_init : ByteArray := prog_11_method_1_code
def yX9_init : MethodName := ⟨RX9, "<init>", "(III[I)V"⟩
abbrev cX9_setsItChanges : ByteArray := prog_11_method_2_code
def yX9_setsItChanges : MethodName := ⟨RX9, "setsItChanges", "()I"⟩
abbrev cX9_freed : ByteArray := prog_11_method_3_code
def yX9_freed : MethodName := ⟨RX9, "freed", "(I)I"⟩
def RX10 : String := "DarkSitting"
def TX10 : u_T := fun k => match k with
  | 0 => ("DarkSitting", "tape", "[B", true)
  | 1 => ("DarkSitting", "tapeSize", "I", false)
  | 2 => ("DarkSitting", "reader", "LDarkSitting$Reader;", true)
  | 3 => ("DarkSitting", "book", "LDarkSitting$Book;", true)
  | 4 => ("DarkSitting", "keptBook", "LDarkSitting$Book;", true)
  | 5 => ("DarkSitting", "isKept", "Z", false)
  | 6 => ("DarkSitting", "course", "LDarkSitting$Course;", true)
  | 7 => ("DarkSitting", "ropes", "LDarkSitting$Ropes;", true)
  | 8 => ("DarkSitting", "shares", "[J", true)
  | 9 => ("DarkSitting", "storyOdds", "[I", true)
  | _ => ("DarkSitting", "knowsSince", "[I", true)
def tyX10 : Nat → FieldType := fun k => match k with
  | 0 => .array .byte
  | 1 => .int
  | 2 => .object "DarkSitting$Reader"
  | 3 => .object "DarkSitting$Book"
  | 4 => .object "DarkSitting$Book"
  | 5 => .boolean
  | 6 => .object "DarkSitting$Course"
  | 7 => .object "DarkSitting$Ropes"
  | 8 => .array .long
  | 9 => .array .int
  | _ => .array .int
abbrev wsX100 : List Cond := u_ws RX10 TX10 11
theorem nmX10 : ∀ a, a < 11 → ∀ b, b < 11 → a ≠ b → (TX10 a).2.1 ≠ (TX10 b).2.1 := by decide +kernel
theorem tyX10_ok : ∀ k, k < 11 → parseFieldDescriptor (TX10 k).2.2.1 = some (tyX10 k) := by decide +kernel
abbrev cX10_init : ByteArray := prog_1_method_1_code
def yX10_init : MethodName := ⟨RX10, "<init>", "()V"⟩
abbrev cX10_feed : ByteArray := prog_1_method_2_code
def yX10_feed : MethodName := ⟨RX10, "feed", "(IIIII)I"⟩
abbrev cX10_end : ByteArray := prog_1_method_3_code
def yX10_end : MethodName := ⟨RX10, "end", "(I)Z"⟩
abbrev cX10_person : ByteArray := prog_1_method_4_code
def yX10_person : MethodName := ⟨RX10, "person", "(II)I"⟩
abbrev cX10_rule : ByteArray := prog_1_method_5_code
def yX10_rule : MethodName := ⟨RX10, "rule", "()I"⟩
abbrev cX10_way : ByteArray := prog_1_method_6_code
def yX10_way : MethodName := ⟨RX10, "way", "()I"⟩
abbrev cX10_fault : ByteArray := prog_1_method_7_code
def yX10_fault : MethodName := ⟨RX10, "fault", "()I"⟩
abbrev cX10_thing : ByteArray := prog_1_method_8_code
def yX10_thing : MethodName := ⟨RX10, "thing", "(III)I"⟩
abbrev cX10_look : ByteArray := prog_1_method_9_code
def yX10_look : MethodName := ⟨RX10, "look", "(II)I"⟩
abbrev cX10_needs : ByteArray := prog_1_method_10_code
def yX10_needs : MethodName := ⟨RX10, "needs", "(IIIIZ)Z"⟩
abbrev cX10_note : ByteArray := prog_1_method_11_code
def yX10_note : MethodName := ⟨RX10, "note", "(II)I"⟩
abbrev cX10_torn : ByteArray := prog_1_method_12_code
def yX10_torn : MethodName := ⟨RX10, "torn", "()I"⟩
abbrev cX10_can : ByteArray := prog_1_method_13_code
def yX10_can : MethodName := ⟨RX10, "can", "(IIZ)Z"⟩
abbrev cX10_fewest : ByteArray := prog_1_method_14_code
def yX10_fewest : MethodName := ⟨RX10, "fewest", "(IZ)I"⟩
abbrev cX10_earliest : ByteArray := prog_1_method_15_code
def yX10_earliest : MethodName := ⟨RX10, "earliest", "(IIZI)I"⟩
abbrev cX10_may : ByteArray := prog_1_method_16_code
def yX10_may : MethodName := ⟨RX10, "may", "(IIZI)I"⟩
abbrev cX10_shut : ByteArray := prog_1_method_17_code
def yX10_shut : MethodName := ⟨RX10, "shut", "(I)I"⟩
abbrev cX10_opens : ByteArray := prog_1_method_18_code
def yX10_opens : MethodName := ⟨RX10, "opens", "(II)I"⟩
abbrev cX10_trap : ByteArray := prog_1_method_19_code
def yX10_trap : MethodName := ⟨RX10, "trap", "(III)I"⟩
abbrev cX10_story : ByteArray := prog_1_method_20_code
def yX10_story : MethodName := ⟨RX10, "story", "(III)I"⟩
abbrev cX10_night : ByteArray := prog_1_method_21_code
def yX10_night : MethodName := ⟨RX10, "night", "(IIIII)I"⟩
abbrev cX10_odds : ByteArray := prog_1_method_22_code
def yX10_odds : MethodName := ⟨RX10, "odds", "(I)I"⟩
abbrev cX10_oddsBy : ByteArray := prog_1_method_23_code
def yX10_oddsBy : MethodName := ⟨RX10, "oddsBy", "(II)I"⟩
abbrev cX10_factor : ByteArray := prog_1_method_24_code
def yX10_factor : MethodName := ⟨RX10, "factor", "(II)J"⟩
abbrev cX10_says : ByteArray := prog_1_method_25_code
def yX10_says : MethodName := ⟨RX10, "says", "(I)J"⟩
abbrev cX10_with : ByteArray := prog_1_method_26_code
def yX10_with : MethodName := ⟨RX10, "with", "(II)I"⟩
abbrev cX10_knew : ByteArray := prog_1_method_27_code
def yX10_knew : MethodName := ⟨RX10, "knew", "(I)V"⟩
abbrev cX10_told : ByteArray := prog_1_method_28_code
def yX10_told : MethodName := ⟨RX10, "told", "(III)I"⟩
abbrev cX10_knows : ByteArray := prog_1_method_29_code
def yX10_knows : MethodName := ⟨RX10, "knows", "(I)I"⟩
abbrev cX10_whence : ByteArray := prog_1_method_30_code
def yX10_whence : MethodName := ⟨RX10, "whence", "(IZ)I"⟩
abbrev cX10_knot : ByteArray := prog_1_method_31_code
def yX10_knot : MethodName := ⟨RX10, "knot", "(IIII)I"⟩
abbrev cX10_rope : ByteArray := prog_1_method_32_code
def yX10_rope : MethodName := ⟨RX10, "rope", "(I)V"⟩
abbrev cX10_out : ByteArray := prog_1_method_33_code
def yX10_out : MethodName := ⟨RX10, "out", "(IZ)I"⟩
abbrev cX10_first : ByteArray := prog_1_method_34_code
def yX10_first : MethodName := ⟨RX10, "first", "(I)I"⟩
abbrev cX10_tale : ByteArray := prog_1_method_35_code
def yX10_tale : MethodName := ⟨RX10, "tale", "(III)I"⟩
abbrev cX10_cold : ByteArray := prog_1_method_36_code
def yX10_cold : MethodName := ⟨RX10, "cold", "(III)I"⟩
abbrev cX10_image : ByteArray := prog_1_method_37_code
def yX10_image : MethodName := ⟨RX10, "image", "()V"⟩
abbrev cX10_back : ByteArray := prog_1_method_38_code
def yX10_back : MethodName := ⟨RX10, "back", "()Z"⟩
abbrev cX10_count : ByteArray := prog_1_method_39_code
def yX10_count : MethodName := ⟨RX10, "count", "(I)I"⟩
abbrev cX10_demand : ByteArray := prog_1_method_40_code
def yX10_demand : MethodName := ⟨RX10, "demand", "(Z)V"⟩
abbrev cX10_demandRow : ByteArray := prog_1_method_41_code
def yX10_demandRow : MethodName := ⟨RX10, "demandRow", "(II)V"⟩
abbrev cX10_demandRoom : ByteArray := prog_1_method_42_code
def yX10_demandRoom : MethodName := ⟨RX10, "demandRoom", "(Z)V"⟩
abbrev cX10_demandWhat : ByteArray := prog_1_method_43_code
def yX10_demandWhat : MethodName := ⟨RX10, "demandWhat", "(II)V"⟩
abbrev cX10_isBetween : ByteArray := prog_1_method_44_code
def yX10_isBetween : MethodName := ⟨RX10, "isBetween", "(III)Z"⟩
abbrev cX10_isOfFirst : ByteArray := prog_1_method_45_code
def yX10_isOfFirst : MethodName := ⟨RX10, "isOfFirst", "(II)Z"⟩
abbrev cX10_firstBits : ByteArray := prog_1_method_46_code
def yX10_firstBits : MethodName := ⟨RX10, "firstBits", "(I)I"⟩
abbrev cX10_hasBit : ByteArray := prog_1_method_47_code
def yX10_hasBit : MethodName := ⟨RX10, "hasBit", "(II)Z"⟩
abbrev cX10_putNumber : ByteArray := prog_1_method_48_code
def yX10_putNumber : MethodName := ⟨RX10, "putNumber", "(I)V"⟩
abbrev cX10_reckonOdds : ByteArray := prog_1_method_49_code
def yX10_reckonOdds : MethodName := ⟨RX10, "reckonOdds", "(I)V"⟩
abbrev cX10_sharesToOdds : ByteArray := prog_1_method_50_code
def yX10_sharesToOdds : MethodName := ⟨RX10, "sharesToOdds", "()V"⟩
abbrev cX10_allFactors : ByteArray := prog_1_method_51_code
def yX10_allFactors : MethodName := ⟨RX10, "allFactors", "(II)J"⟩
abbrev cX10_trapFactors : ByteArray := prog_1_method_52_code
def yX10_trapFactors : MethodName := ⟨RX10, "trapFactors", "(II)J"⟩
abbrev cX10_springs : ByteArray := prog_1_method_53_code
def yX10_springs : MethodName := ⟨RX10, "springs", "(II)I"⟩
abbrev cX10_choicesWithAtLeast : ByteArray := prog_1_method_54_code
def yX10_choicesWithAtLeast : MethodName := ⟨RX10, "choicesWithAtLeast", "(III)I"⟩
abbrev cX10_choices : ByteArray := prog_1_method_55_code
def yX10_choices : MethodName := ⟨RX10, "choices", "(II)I"⟩
abbrev cX10_knowersOn : ByteArray := prog_1_method_56_code
def yX10_knowersOn : MethodName := ⟨RX10, "knowersOn", "(III)I"⟩
abbrev cX10_spread : ByteArray := prog_1_method_57_code
def yX10_spread : MethodName := ⟨RX10, "spread", "(I)V"⟩
abbrev cX10_sources : ByteArray := prog_1_method_58_code
def yX10_sources : MethodName := ⟨RX10, "sources", "(I)I"⟩
abbrev cX10_neededTellers : ByteArray := prog_1_method_59_code
def yX10_neededTellers : MethodName := ⟨RX10, "neededTellers", "(I)I"⟩
def RX11 : String := "DarkSittingModel"
def TX11 : u_T := fun k => match k with
  | 0 => ("DarkSittingModel", "thrown", "I", false)
  | 1 => ("DarkSittingModel", "world", "[I", true)
  | 2 => ("DarkSittingModel", "image", "[I", true)
  | 3 => ("DarkSittingModel", "hasImage", "Z", false)
  | 4 => ("DarkSittingModel", "tape", "[B", true)
  | 5 => ("DarkSittingModel", "taped", "I", false)
  | 6 => ("DarkSittingModel", "point", "I", false)
  | 7 => ("DarkSittingModel", "end", "I", false)
  | 8 => ("DarkSittingModel", "begin", "I", false)
  | 9 => ("DarkSittingModel", "deep", "I", false)
  | 10 => ("DarkSittingModel", "faultAt", "I", false)
  | 11 => ("DarkSittingModel", "five", "[I", true)
  | 12 => ("DarkSittingModel", "steps", "I", false)
  | 13 => ("DarkSittingModel", "lastSecond", "I", false)
  | 14 => ("DarkSittingModel", "lit", "[Z", true)
  | 15 => ("DarkSittingModel", "holder", "[I", true)
  | 16 => ("DarkSittingModel", "tie", "[I", true)
  | 17 => ("DarkSittingModel", "value", "[I", true)
  | 18 => ("DarkSittingModel", "good", "[Z", true)
  | 19 => ("DarkSittingModel", "onwards", "[Z", true)
  | 20 => ("DarkSittingModel", "backwards", "[Z", true)
  | 21 => ("DarkSittingModel", "met", "[Z", true)
  | 22 => ("DarkSittingModel", "run", "[I", true)
  | 23 => ("DarkSittingModel", "waySet", "I", false)
  | 24 => ("DarkSittingModel", "isKnown", "[Z", true)
  | 25 => ("DarkSittingModel", "known", "[I", true)
  | 26 => ("DarkSittingModel", "odds", "[I", true)
  | 27 => ("DarkSittingModel", "by", "[J", true)
  | 28 => ("DarkSittingModel", "far", "[I", true)
  | _ => ("DarkSittingModel", "there", "[I", true)
def tyX11 : Nat → FieldType := fun k => match k with
  | 0 => .int
  | 1 => .array .int
  | 2 => .array .int
  | 3 => .boolean
  | 4 => .array .byte
  | 5 => .int
  | 6 => .int
  | 7 => .int
  | 8 => .int
  | 9 => .int
  | 10 => .int
  | 11 => .array .int
  | 12 => .int
  | 13 => .int
  | 14 => .array .boolean
  | 15 => .array .int
  | 16 => .array .int
  | 17 => .array .int
  | 18 => .array .boolean
  | 19 => .array .boolean
  | 20 => .array .boolean
  | 21 => .array .boolean
  | 22 => .array .int
  | 23 => .int
  | 24 => .array .boolean
  | 25 => .array .int
  | 26 => .array .int
  | 27 => .array .long
  | 28 => .array .int
  | _ => .array .int
abbrev wsX110 : List Cond := u_ws RX11 TX11 30
theorem nmX11 : ∀ a, a < 30 → ∀ b, b < 30 → a ≠ b → (TX11 a).2.1 ≠ (TX11 b).2.1 := by decide +kernel
theorem tyX11_ok : ∀ k, k < 30 → parseFieldDescriptor (TX11 k).2.2.1 = some (tyX11 k) := by decide +kernel
abbrev cX11_thrown : ByteArray := prog_13_method_1_code
def yX11_thrown : MethodName := ⟨RX11, "thrown", "()I"⟩
abbrev cX11_throwsIf : ByteArray := prog_13_method_2_code
def yX11_throwsIf : MethodName := ⟨RX11, "throwsIf", "(ZI)Z"⟩
abbrev cX11_in : ByteArray := prog_13_method_3_code
def yX11_in : MethodName := ⟨RX11, "in", "(III)Z"⟩
abbrev cX11_init : ByteArray := prog_13_method_4_code
def yX11_init : MethodName := ⟨RX11, "<init>", "()V"⟩
abbrev cX11_image : ByteArray := prog_13_method_5_code
def yX11_image : MethodName := ⟨RX11, "image", "()V"⟩
abbrev cX11_back : ByteArray := prog_13_method_6_code
def yX11_back : MethodName := ⟨RX11, "back", "()Z"⟩
abbrev cX11_none : ByteArray := prog_13_method_7_code
def yX11_none : MethodName := ⟨RX11, "none", "(II)Z"⟩
abbrev cX11_puts : ByteArray := prog_13_method_8_code
def yX11_puts : MethodName := ⟨RX11, "puts", "(IIIIII)I"⟩
abbrev cX11_person : ByteArray := prog_13_method_9_code
def yX11_person : MethodName := ⟨RX11, "person", "(II)I"⟩
abbrev cX11_thing : ByteArray := prog_13_method_10_code
def yX11_thing : MethodName := ⟨RX11, "thing", "(III)I"⟩
abbrev cX11_feed : ByteArray := prog_13_method_11_code
def yX11_feed : MethodName := ⟨RX11, "feed", "(IIIII)I"⟩
abbrev cX11_end : ByteArray := prog_13_method_12_code
def yX11_end : MethodName := ⟨RX11, "end", "(I)Z"⟩
abbrev cX11_uses : ByteArray := prog_13_method_13_code
def yX11_uses : MethodName := ⟨RX11, "uses", "()V"⟩
abbrev cX11_isAt : ByteArray := prog_13_method_14_code
def yX11_isAt : MethodName := ⟨RX11, "isAt", "(II)Z"⟩
abbrev cX11_blanks : ByteArray := prog_13_method_15_code
def yX11_blanks : MethodName := ⟨RX11, "blanks", "()V"⟩
abbrev cX11_letters : ByteArray := prog_13_method_16_code
def yX11_letters : MethodName := ⟨RX11, "letters", "()V"⟩
abbrev cX11_isWord : ByteArray := prog_13_method_17_code
def yX11_isWord : MethodName := ⟨RX11, "isWord", "(Ljava/lang/String;)Z"⟩
abbrev cX11_passes : ByteArray := prog_13_method_18_code
def yX11_passes : MethodName := ⟨RX11, "passes", "(Ljava/lang/String;)Z"⟩
abbrev cX11_needsWord : ByteArray := prog_13_method_19_code
def yX11_needsWord : MethodName := ⟨RX11, "needsWord", "(Ljava/lang/String;)Z"⟩
abbrev cX11_sign : ByteArray := prog_13_method_20_code
def yX11_sign : MethodName := ⟨RX11, "sign", "(I)Z"⟩
abbrev cX11_number : ByteArray := prog_13_method_21_code
def yX11_number : MethodName := ⟨RX11, "number", "(II)I"⟩
abbrev cX11_fault : ByteArray := prog_13_method_22_code
def yX11_fault : MethodName := ⟨RX11, "fault", "()I"⟩
abbrev cX11_textAt : ByteArray := prog_13_method_23_code
def yX11_textAt : MethodName := ⟨RX11, "textAt", "(I)I"⟩
abbrev cX11_lineAt : ByteArray := prog_13_method_24_code
def yX11_lineAt : MethodName := ⟨RX11, "lineAt", "(II)I"⟩
abbrev cX11_lines : ByteArray := prog_13_method_25_code
def yX11_lines : MethodName := ⟨RX11, "lines", "(I)I"⟩
abbrev cX11_sortOf : ByteArray := prog_13_method_26_code
def yX11_sortOf : MethodName := ⟨RX11, "sortOf", "(II)I"⟩
abbrev cX11_of : ByteArray := prog_13_method_27_code
def yX11_of : MethodName := ⟨RX11, "of", "(III)I"⟩
abbrev cX11_emits : ByteArray := prog_13_method_28_code
def yX11_emits : MethodName := ⟨RX11, "emits", "(II)V"⟩
abbrev cX11_emitsOf : ByteArray := prog_13_method_29_code
def yX11_emitsOf : MethodName := ⟨RX11, "emitsOf", "(I)Z"⟩
abbrev cX11_readPart : ByteArray := prog_13_method_30_code
def yX11_readPart : MethodName := ⟨RX11, "readPart", "()Z"⟩
abbrev cX11_readSum : ByteArray := prog_13_method_31_code
def yX11_readSum : MethodName := ⟨RX11, "readSum", "()Z"⟩
abbrev cX11_tagAt : ByteArray := prog_13_method_32_code
def yX11_tagAt : MethodName := ⟨RX11, "tagAt", "()I"⟩
abbrev cX11_readAtom : ByteArray := prog_13_method_33_code
def yX11_readAtom : MethodName := ⟨RX11, "readAtom", "()Z"⟩
abbrev cX11_readAllOf : ByteArray := prog_13_method_34_code
def yX11_readAllOf : MethodName := ⟨RX11, "readAllOf", "()Z"⟩
abbrev cX11_readCond : ByteArray := prog_13_method_35_code
def yX11_readCond : MethodName := ⟨RX11, "readCond", "()Z"⟩
abbrev cX11_tells : ByteArray := prog_13_method_36_code
def yX11_tells : MethodName := ⟨RX11, "tells", "(II)Z"⟩
abbrev cX11_readRule : ByteArray := prog_13_method_37_code
def yX11_readRule : MethodName := ⟨RX11, "readRule", "(I)Z"⟩
abbrev cX11_readWay : ByteArray := prog_13_method_38_code
def yX11_readWay : MethodName := ⟨RX11, "readWay", "(I)Z"⟩
abbrev cX11_readLine : ByteArray := prog_13_method_39_code
def yX11_readLine : MethodName := ⟨RX11, "readLine", "(IZ)Z"⟩
abbrev cX11_readAll : ByteArray := prog_13_method_40_code
def yX11_readAll : MethodName := ⟨RX11, "readAll", "(Z)I"⟩
abbrev cX11_keeps : ByteArray := prog_13_method_41_code
def yX11_keeps : MethodName := ⟨RX11, "keeps", "(ZIII)I"⟩
abbrev cX11_rule : ByteArray := prog_13_method_42_code
def yX11_rule : MethodName := ⟨RX11, "rule", "()I"⟩
abbrev cX11_way : ByteArray := prog_13_method_43_code
def yX11_way : MethodName := ⟨RX11, "way", "()I"⟩
abbrev cX11_laysOut : ByteArray := prog_13_method_44_code
def yX11_laysOut : MethodName := ⟨RX11, "laysOut", "(II)V"⟩
abbrev cX11_look : ByteArray := prog_13_method_45_code
def yX11_look : MethodName := ⟨RX11, "look", "(II)I"⟩
abbrev cX11_ofHolder : ByteArray := prog_13_method_46_code
def yX11_ofHolder : MethodName := ⟨RX11, "ofHolder", "(II)I"⟩
abbrev cX11_asked : ByteArray := prog_13_method_47_code
def yX11_asked : MethodName := ⟨RX11, "asked", "(IIIIZ)I"⟩
abbrev cX11_holdsLine : ByteArray := prog_13_method_48_code
def yX11_holdsLine : MethodName := ⟨RX11, "holdsLine", "(IIIIZ)Z"⟩
abbrev cX11_holdsAll : ByteArray := prog_13_method_49_code
def yX11_holdsAll : MethodName := ⟨RX11, "holdsAll", "(IIIZ)Z"⟩
abbrev cX11_needs : ByteArray := prog_13_method_50_code
def yX11_needs : MethodName := ⟨RX11, "needs", "(IIIIZ)Z"⟩
abbrev cX11_lastOf : ByteArray := prog_13_method_51_code
def yX11_lastOf : MethodName := ⟨RX11, "lastOf", "(III)I"⟩
abbrev cX11_freedBy : ByteArray := prog_13_method_52_code
def yX11_freedBy : MethodName := ⟨RX11, "freedBy", "(I)I"⟩
abbrev cX11_at : ByteArray := prog_13_method_53_code
def yX11_at : MethodName := ⟨RX11, "at", "(II)I"⟩
abbrev cX11_runAt : ByteArray := prog_13_method_54_code
def yX11_runAt : MethodName := ⟨RX11, "runAt", "(III)I"⟩
abbrev cX11_reachOf : ByteArray := prog_13_method_55_code
def yX11_reachOf : MethodName := ⟨RX11, "reachOf", "(I)I"⟩
abbrev cX11_canDo : ByteArray := prog_13_method_56_code
def yX11_canDo : MethodName := ⟨RX11, "canDo", "(III)Z"⟩
abbrev cX11_prepares : ByteArray := prog_13_method_57_code
def yX11_prepares : MethodName := ⟨RX11, "prepares", "(IZZ)Z"⟩
abbrev cX11_canGo : ByteArray := prog_13_method_58_code
def yX11_canGo : MethodName := ⟨RX11, "canGo", "(III)Z"⟩
abbrev cX11_goesOnwards : ByteArray := prog_13_method_59_code
def yX11_goesOnwards : MethodName := ⟨RX11, "goesOnwards", "()V"⟩
abbrev cX11_goesBackwards : ByteArray := prog_13_method_60_code
def yX11_goesBackwards : MethodName := ⟨RX11, "goesBackwards", "()V"⟩
abbrev cX11_meets : ByteArray := prog_13_method_61_code
def yX11_meets : MethodName := ⟨RX11, "meets", "(IZ)V"⟩
abbrev cX11_earliestOf : ByteArray := prog_13_method_62_code
def yX11_earliestOf : MethodName := ⟨RX11, "earliestOf", "(II)I"⟩
abbrev cX11_canBy : ByteArray := prog_13_method_63_code
def yX11_canBy : MethodName := ⟨RX11, "canBy", "(IZ)Z"⟩
abbrev cX11_note : ByteArray := prog_13_method_64_code
def yX11_note : MethodName := ⟨RX11, "note", "(II)I"⟩
abbrev cX11_torn : ByteArray := prog_13_method_65_code
def yX11_torn : MethodName := ⟨RX11, "torn", "()I"⟩
abbrev cX11_can : ByteArray := prog_13_method_66_code
def yX11_can : MethodName := ⟨RX11, "can", "(IIZ)Z"⟩
abbrev cX11_fewest : ByteArray := prog_13_method_67_code
def yX11_fewest : MethodName := ⟨RX11, "fewest", "(IZ)I"⟩
abbrev cX11_earliest : ByteArray := prog_13_method_68_code
def yX11_earliest : MethodName := ⟨RX11, "earliest", "(IIZI)I"⟩
abbrev cX11_may : ByteArray := prog_13_method_69_code
def yX11_may : MethodName := ⟨RX11, "may", "(IIZI)I"⟩
abbrev cX11_isShut : ByteArray := prog_13_method_70_code
def yX11_isShut : MethodName := ⟨RX11, "isShut", "(III)Z"⟩
abbrev cX11_shut : ByteArray := prog_13_method_71_code
def yX11_shut : MethodName := ⟨RX11, "shut", "(I)I"⟩
abbrev cX11_opens : ByteArray := prog_13_method_72_code
def yX11_opens : MethodName := ⟨RX11, "opens", "(II)I"⟩
abbrev cX11_trap : ByteArray := prog_13_method_73_code
def yX11_trap : MethodName := ⟨RX11, "trap", "(III)I"⟩
abbrev cX11_story : ByteArray := prog_13_method_74_code
def yX11_story : MethodName := ⟨RX11, "story", "(III)I"⟩
abbrev cX11_hasOthers : ByteArray := prog_13_method_75_code
def yX11_hasOthers : MethodName := ⟨RX11, "hasOthers", "(II)Z"⟩
abbrev cX11_night : ByteArray := prog_13_method_76_code
def yX11_night : MethodName := ⟨RX11, "night", "(IIIII)I"⟩
abbrev cX11_forgets : ByteArray := prog_13_method_77_code
def yX11_forgets : MethodName := ⟨RX11, "forgets", "()V"⟩
abbrev cX11_canBe : ByteArray := prog_13_method_78_code
def yX11_canBe : MethodName := ⟨RX11, "canBe", "(IIZ)I"⟩
abbrev cX11_springs : ByteArray := prog_13_method_79_code
def yX11_springs : MethodName := ⟨RX11, "springs", "(II)I"⟩
abbrev cX11_factorOf : ByteArray := prog_13_method_80_code
def yX11_factorOf : MethodName := ⟨RX11, "factorOf", "(II)J"⟩
abbrev cX11_shares : ByteArray := prog_13_method_81_code
def yX11_shares : MethodName := ⟨RX11, "shares", "()V"⟩
abbrev cX11_oddsAfter : ByteArray := prog_13_method_82_code
def yX11_oddsAfter : MethodName := ⟨RX11, "oddsAfter", "(I)V"⟩
abbrev cX11_odds : ByteArray := prog_13_method_83_code
def yX11_odds : MethodName := ⟨RX11, "odds", "(I)I"⟩
abbrev cX11_oddsBy : ByteArray := prog_13_method_84_code
def yX11_oddsBy : MethodName := ⟨RX11, "oddsBy", "(II)I"⟩
abbrev cX11_factor : ByteArray := prog_13_method_85_code
def yX11_factor : MethodName := ⟨RX11, "factor", "(II)J"⟩
abbrev cX11_says : ByteArray := prog_13_method_86_code
def yX11_says : MethodName := ⟨RX11, "says", "(I)J"⟩
abbrev cX11_choices : ByteArray := prog_13_method_87_code
def yX11_choices : MethodName := ⟨RX11, "choices", "(II)I"⟩
abbrev cX11_with : ByteArray := prog_13_method_88_code
def yX11_with : MethodName := ⟨RX11, "with", "(II)I"⟩
abbrev cX11_knew : ByteArray := prog_13_method_89_code
def yX11_knew : MethodName := ⟨RX11, "knew", "(I)V"⟩
abbrev cX11_told : ByteArray := prog_13_method_90_code
def yX11_told : MethodName := ⟨RX11, "told", "(III)I"⟩
abbrev cX11_knowing : ByteArray := prog_13_method_91_code
def yX11_knowing : MethodName := ⟨RX11, "knowing", "(III)I"⟩
abbrev cX11_knows : ByteArray := prog_13_method_92_code
def yX11_knows : MethodName := ⟨RX11, "knows", "(I)I"⟩
abbrev cX11_whence : ByteArray := prog_13_method_93_code
def yX11_whence : MethodName := ⟨RX11, "whence", "(IZ)I"⟩
abbrev cX11_knot : ByteArray := prog_13_method_94_code
def yX11_knot : MethodName := ⟨RX11, "knot", "(IIII)I"⟩
abbrev cX11_rope : ByteArray := prog_13_method_95_code
def yX11_rope : MethodName := ⟨RX11, "rope", "(I)V"⟩
abbrev cX11_canTurn : ByteArray := prog_13_method_96_code
def yX11_canTurn : MethodName := ⟨RX11, "canTurn", "(II)Z"⟩
abbrev cX11_spreads : ByteArray := prog_13_method_97_code
def yX11_spreads : MethodName := ⟨RX11, "spreads", "(I)V"⟩
abbrev cX11_leastTo : ByteArray := prog_13_method_98_code
def yX11_leastTo : MethodName := ⟨RX11, "leastTo", "(I)I"⟩
abbrev cX11_out : ByteArray := prog_13_method_99_code
def yX11_out : MethodName := ⟨RX11, "out", "(IZ)I"⟩
abbrev cX11_first : ByteArray := prog_13_method_100_code
def yX11_first : MethodName := ⟨RX11, "first", "(I)I"⟩
abbrev cX11_tale : ByteArray := prog_13_method_101_code
def yX11_tale : MethodName := ⟨RX11, "tale", "(III)I"⟩
abbrev cX11_cold : ByteArray := prog_13_method_102_code
def yX11_cold : MethodName := ⟨RX11, "cold", "(III)I"⟩
abbrev cX11_count : ByteArray := prog_13_method_103_code
def yX11_count : MethodName := ⟨RX11, "count", "(I)I"⟩
def RJ11 : String := "java/lang/Character"
abbrev cJ11_isValidCodePoint_9a6ad : ByteArray := prog_16_method_11_code
def yJ11_isValidCodePoint_9a6ad : MethodName := ⟨RJ11, "isValidCodePoint", "(I)Z"⟩
abbrev cJ11_highSurrogate_5068e : ByteArray := prog_16_method_28_code
def yJ11_highSurrogate_5068e : MethodName := ⟨RJ11, "highSurrogate", "(I)C"⟩
abbrev cJ11_lowSurrogate_5068e : ByteArray := prog_16_method_29_code
def yJ11_lowSurrogate_5068e : MethodName := ⟨RJ11, "lowSurrogate", "(I)C"⟩
def RJ6 : String := "java/lang/Integer"
abbrev cJ6_numberOfTrailingZeros_0f7a4 : ByteArray := prog_22_method_48_code
def yJ6_numberOfTrailingZeros_0f7a4 : MethodName := ⟨RJ6, "numberOfTrailingZeros", "(I)I"⟩
abbrev cJ6_bitCount_0f7a4 : ByteArray := prog_22_method_49_code
def yJ6_bitCount_0f7a4 : MethodName := ⟨RJ6, "bitCount", "(I)I"⟩
def RJ9 : String := "java/lang/Math"
abbrev cJ9_abs_0f7a4 : ByteArray := prog_23_method_59_code
def yJ9_abs_0f7a4 : MethodName := ⟨RJ9, "abs", "(I)I"⟩
abbrev cJ9_abs_067f4 : ByteArray := prog_23_method_61_code
def yJ9_abs_067f4 : MethodName := ⟨RJ9, "abs", "(J)J"⟩
abbrev cJ9_max_7cf53 : ByteArray := prog_23_method_65_code
def yJ9_max_7cf53 : MethodName := ⟨RJ9, "max", "(II)I"⟩
abbrev cJ9_min_7cf53 : ByteArray := prog_23_method_69_code
def yJ9_min_7cf53 : MethodName := ⟨RJ9, "min", "(II)I"⟩
abbrev cJ9_min_f86c9 : ByteArray := prog_23_method_70_code
def yJ9_min_f86c9 : MethodName := ⟨RJ9, "min", "(JJ)J"⟩
def RJ0 : String := "java/lang/String"
abbrev cJ0_length_8abf5 : ByteArray := prog_25_method_54_code
def yJ0_length_8abf5 : MethodName := ⟨RJ0, "length", "()I"⟩
abbrev cJ0_charAt_5068e : ByteArray := prog_25_method_56_code
def yJ0_charAt_5068e : MethodName := ⟨RJ0, "charAt", "(I)C"⟩
abbrev cJ0_indexOf_0f7a4 : ByteArray := prog_25_method_79_code
def yJ0_indexOf_0f7a4 : MethodName := ⟨RJ0, "indexOf", "(I)I"⟩
abbrev cJ0_indexOf_7cf53 : ByteArray := prog_25_method_80_code
def yJ0_indexOf_7cf53 : MethodName := ⟨RJ0, "indexOf", "(II)I"⟩
abbrev cJ0_coder_7d493 : ByteArray := prog_25_method_152_code
def yJ0_coder_7d493 : MethodName := ⟨RJ0, "coder", "()B"⟩
abbrev cJ0_isLatin1_aae02 : ByteArray := prog_25_method_154_code
def yJ0_isLatin1_aae02 : MethodName := ⟨RJ0, "isLatin1", "()Z"⟩
abbrev cJ0_checkIndex_df160 : ByteArray := prog_25_method_155_code
def yJ0_checkIndex_df160 : MethodName := ⟨RJ0, "checkIndex", "(II)V"⟩
abbrev cJ0_checkBoundsBeginEnd_23922 : ByteArray := prog_25_method_158_code
def yJ0_checkBoundsBeginEnd_23922 : MethodName := ⟨RJ0, "checkBoundsBeginEnd", "(III)V"⟩
def RJ1 : String := "java/lang/StringLatin1"
abbrev cJ1_charAt_3b067 : ByteArray := prog_26_method_2_code
def yJ1_charAt_3b067 : MethodName := ⟨RJ1, "charAt", "([BI)C"⟩
abbrev cJ1_canEncode_9a6ad : ByteArray := prog_26_method_4_code
def yJ1_canEncode_9a6ad : MethodName := ⟨RJ1, "canEncode", "(I)Z"⟩
abbrev cJ1_indexOf_4cfef : ByteArray := prog_26_method_22_code
def yJ1_indexOf_4cfef : MethodName := ⟨RJ1, "indexOf", "([BIII)I"⟩
abbrev cJ1_indexOfChar_4cfef : ByteArray := prog_26_method_23_code
def yJ1_indexOfChar_4cfef : MethodName := ⟨RJ1, "indexOfChar", "([BIII)I"⟩
def RJ2 : String := "java/lang/StringUTF16"
abbrev cJ2_getChar_3b067 : ByteArray := prog_27_method_5_code
def yJ2_getChar_3b067 : MethodName := ⟨RJ2, "getChar", "([BI)C"⟩
abbrev cJ2_length_9d52b : ByteArray := prog_27_method_6_code
def yJ2_length_9d52b : MethodName := ⟨RJ2, "length", "([B)I"⟩
abbrev cJ2_indexOf_4cfef : ByteArray := prog_27_method_40_code
def yJ2_indexOf_4cfef : MethodName := ⟨RJ2, "indexOf", "([BIII)I"⟩
abbrev cJ2_indexOfChar_4cfef : ByteArray := prog_27_method_47_code
def yJ2_indexOfChar_4cfef : MethodName := ⟨RJ2, "indexOfChar", "([BIII)I"⟩
abbrev cJ2_indexOfCharUnsafe_4cfef : ByteArray := prog_27_method_48_code
def yJ2_indexOfCharUnsafe_4cfef : MethodName := ⟨RJ2, "indexOfCharUnsafe", "([BIII)I"⟩
abbrev cJ2_indexOfSupplementary_4cfef : ByteArray := prog_27_method_49_code
def yJ2_indexOfSupplementary_4cfef : MethodName := ⟨RJ2, "indexOfSupplementary", "([BIII)I"⟩
abbrev cJ2_charAt_3b067 : ByteArray := prog_27_method_83_code
def yJ2_charAt_3b067 : MethodName := ⟨RJ2, "charAt", "([BI)C"⟩
abbrev cJ2_checkIndex_2214a : ByteArray := prog_27_method_91_code
def yJ2_checkIndex_2214a : MethodName := ⟨RJ2, "checkIndex", "(I[B)V"⟩
abbrev cJ2_checkBoundsBeginEnd_d044e : ByteArray := prog_27_method_93_code
def yJ2_checkBoundsBeginEnd_d044e : MethodName := ⟨RJ2, "checkBoundsBeginEnd", "(II[B)V"⟩
def RJ10 : String := "java/lang/System"
def RJ7 : String := "java/util/Arrays"
abbrev cJ7_fill_53178 : ByteArray := prog_33_method_103_code
def yJ7_fill_53178 : MethodName := ⟨RJ7, "fill", "([II)V"⟩
abbrev cJ7_copyOf_59c91 : ByteArray := prog_33_method_123_code
def yJ7_copyOf_59c91 : MethodName := ⟨RJ7, "copyOf", "([II)[I"⟩
def RJ3 : String := "jdk/internal/util/Preconditions"
abbrev cJ3_checkIndex_8e157 : ByteArray := prog_35_method_11_code
def yJ3_checkIndex_8e157 : MethodName := ⟨RJ3, "checkIndex", "(IILjava/util/function/BiFunction;)I"⟩
abbrev cJ3_checkFromToIndex_8c36e : ByteArray := prog_35_method_12_code
def yJ3_checkFromToIndex_8c36e : MethodName := ⟨RJ3, "checkFromToIndex", "(IIILjava/util/function/BiFunction;)I"⟩
def RL : String := "DarkSittingLaw"
abbrev cL_person : ByteArray := method_3_code
def yL_person : MethodName := ⟨RL, "person", "(LDarkSitting;II[J)I"⟩
abbrev cL_rule : ByteArray := method_4_code
def yL_rule : MethodName := ⟨RL, "rule", "(LDarkSitting;[J)I"⟩
abbrev cL_way : ByteArray := method_5_code
def yL_way : MethodName := ⟨RL, "way", "(LDarkSitting;[J)I"⟩
abbrev cL_thing : ByteArray := method_6_code
def yL_thing : MethodName := ⟨RL, "thing", "(LDarkSitting;III[J)I"⟩
abbrev cL_look : ByteArray := method_7_code
def yL_look : MethodName := ⟨RL, "look", "(LDarkSitting;II[J)I"⟩
abbrev cL_needs : ByteArray := method_8_code
def yL_needs : MethodName := ⟨RL, "needs", "(LDarkSitting;IIIIZ[J)I"⟩
abbrev cL_note : ByteArray := method_9_code
def yL_note : MethodName := ⟨RL, "note", "(LDarkSitting;II[J)I"⟩
abbrev cL_can : ByteArray := method_10_code
def yL_can : MethodName := ⟨RL, "can", "(LDarkSitting;IIZ[J)I"⟩
abbrev cL_fewest : ByteArray := method_11_code
def yL_fewest : MethodName := ⟨RL, "fewest", "(LDarkSitting;IZ[J)I"⟩
abbrev cL_earliest : ByteArray := method_12_code
def yL_earliest : MethodName := ⟨RL, "earliest", "(LDarkSitting;IIZI[J)I"⟩
abbrev cL_may : ByteArray := method_13_code
def yL_may : MethodName := ⟨RL, "may", "(LDarkSitting;IIZI[J)I"⟩
abbrev cL_shut : ByteArray := method_14_code
def yL_shut : MethodName := ⟨RL, "shut", "(LDarkSitting;I[J)I"⟩
abbrev cL_opens : ByteArray := method_15_code
def yL_opens : MethodName := ⟨RL, "opens", "(LDarkSitting;II[J)I"⟩
abbrev cL_trap : ByteArray := method_16_code
def yL_trap : MethodName := ⟨RL, "trap", "(LDarkSitting;III[J)I"⟩
abbrev cL_story : ByteArray := method_17_code
def yL_story : MethodName := ⟨RL, "story", "(LDarkSitting;III[J)I"⟩
abbrev cL_night : ByteArray := method_18_code
def yL_night : MethodName := ⟨RL, "night", "(LDarkSitting;IIIII[J)I"⟩
abbrev cL_odds : ByteArray := method_19_code
def yL_odds : MethodName := ⟨RL, "odds", "(LDarkSitting;I[J)I"⟩
abbrev cL_oddsBy : ByteArray := method_20_code
def yL_oddsBy : MethodName := ⟨RL, "oddsBy", "(LDarkSitting;II[J)I"⟩
abbrev cL_factor : ByteArray := method_21_code
def yL_factor : MethodName := ⟨RL, "factor", "(LDarkSitting;II[J)I"⟩
abbrev cL_says : ByteArray := method_22_code
def yL_says : MethodName := ⟨RL, "says", "(LDarkSitting;I[J)I"⟩
abbrev cL_with : ByteArray := method_23_code
def yL_with : MethodName := ⟨RL, "with", "(LDarkSitting;II[J)I"⟩
abbrev cL_knew : ByteArray := method_24_code
def yL_knew : MethodName := ⟨RL, "knew", "(LDarkSitting;I)I"⟩
abbrev cL_told : ByteArray := method_25_code
def yL_told : MethodName := ⟨RL, "told", "(LDarkSitting;III[J)I"⟩
abbrev cL_knows : ByteArray := method_26_code
def yL_knows : MethodName := ⟨RL, "knows", "(LDarkSitting;I[J)I"⟩
abbrev cL_whence : ByteArray := method_27_code
def yL_whence : MethodName := ⟨RL, "whence", "(LDarkSitting;IZ[J)I"⟩
abbrev cL_knot : ByteArray := method_28_code
def yL_knot : MethodName := ⟨RL, "knot", "(LDarkSitting;IIII[J)I"⟩
abbrev cL_rope : ByteArray := method_29_code
def yL_rope : MethodName := ⟨RL, "rope", "(LDarkSitting;I)I"⟩
abbrev cL_tale : ByteArray := method_30_code
def yL_tale : MethodName := ⟨RL, "tale", "(LDarkSitting;III[J)I"⟩
abbrev cL_cold : ByteArray := method_31_code
def yL_cold : MethodName := ⟨RL, "cold", "(LDarkSitting;III[J)I"⟩
abbrev cL_law : ByteArray := code
def yL_law : MethodName := ⟨RL, "law", "([I)Z"⟩
abbrev vwCl : List vw_C := [(RX0, TX0, 14), (RX1, TX1, 7), (RX2, TX2, 10), (RX3, TX3, 3), (RX4, TX4, 1), (RX5, TX5, 4), (RX6, TX6, 8), (RX7, TX7, 3), (RX9, TX9, 4), (RX10, TX10, 11), (RX11, TX11, 30)]
end
section
/-! the heap as the proofs see it: cells by number; what stands below 64 is fixed (texts, static rows, the script), the own cells are 64 and on -/
def gB (w : Cond) : Bool := (w.onTables && w.keeps) || (match w with | .arrayClass _ => true | _ => false)
def gT : List Cond := lw_tbl.filter gB
abbrev x_C : Type := (Nat × vp_A) ⊕ (Nat × List Value)
/-- how many numbers are given, which are known, what they hold -/
abbrev x_S : Type := Nat × List Nat × (Nat → x_C)
/-- launch, classes, slots, array classes, where the fixed cells lie, where the own ones begin, what never changes -/
abbrev x_E : Type := Launch × (Nat → ClassId) × (Nat → Nat → Nat) × (Nat → ClassId) × (Nat → Nat) × Nat × (State → Heap → Prop)
def x_sg (V : x_E) (h : Nat) : Nat := if h < 64 then V.2.2.2.2.1 h else V.2.2.2.2.2.1 + (h - 64)
def x_tv (V : x_E) (v : Value) : Value := match v with
  | .ref h => .ref (x_sg V h)
  | .int a => .int a
  | .long a => .long a
  | .null => .null
  | z => z
def x_ta (V : x_E) (a : vp_A) : vp_A := match a with
  | (n, .inl f) => (n, .inl f)
  | (n, .inr (.inl f)) => (n, .inr (.inl f))
  | (n, .inr (.inr (.inr (.inr f)))) => (n, .inr (.inr (.inr (.inr (fun j => (f j).map (x_sg V))))))
  | z => z
def x_tc (V : x_E) (x : x_C) : va_E := match x with
  | .inl a => .inl (V.2.2.2.1 a.1, x_ta V a.2)
  | .inr o => .inr (o.1, o.2.map (x_tv V))
def x_ws (V : x_E) (S : x_S) : va_W := S.2.1.map (fun h => (x_sg V h, x_tc V (S.2.2 h)))
def x_tys : List FieldType := [.int, .byte, .boolean, .long, .object "DarkSitting$Rule", .object "DarkSitting$Way"]
def x_ty (V : x_E) : List (ClassId × FieldType) := [(V.2.2.2.1 0, .int), (V.2.2.2.1 1, .byte), (V.2.2.2.1 2, .boolean), (V.2.2.2.1 3, .long), (V.2.2.2.1 4, .object "DarkSitting$Rule"), (V.2.2.2.1 5, .object "DarkSitting$Way")]
def x_A (V : x_E) : Nat → Prop := fun q => V.2.2.2.2.2.1 ≤ q
abbrev x_D (V : x_E) : va_G := (V.2.1, V.2.2.1)
/-- the heap H holds S -/
def x_H (V : x_E) (S : x_S) (H : Heap) : Prop := H.size = V.2.2.2.2.2.1 + (S.1 - 64) ∧ 64 ≤ S.1 ∧ va_P (x_D V) vwCl (x_ws V S) H ∧ S.2.1.Nodup ∧ ∀ h ∈ S.2.1, 64 ≤ h ∧ h < S.1
def x_ok (V : x_E) : Prop := (∀ (u U : State) (H : Heap), u.WarmedH U.vm → V.2.2.2.2.2.2 u H → V.2.2.2.2.2.2 U H) ∧ ∀ (U : State) (H H1 : Heap), V.2.2.2.2.2.1 ≤ H.size → (∀ a : Nat, a < H.size → ¬ x_A V a → H1[a]? = H[a]?) → V.2.2.2.2.2.2 U H → V.2.2.2.2.2.2 U H1
def x_G (V : x_E) (s : State) (H : Heap) : Prop := x_ok V ∧ va_K (x_D V) vwCl (x_ty V) s ∧ V.2.2.2.2.2.2 s H
def x_R (V : x_E) (S : x_S) (U : State) : Prop := x_H V S U.heap ∧ x_G V U U.heap
theorem x_G.moved {V : x_E} {u U : State} {H : Heap} (hvm : u.WarmedH U.vm) (h : x_G V u H) : x_G V U H := ⟨h.1, h.2.1.moved hvm.alike, h.1.1 u U H hvm h.2.2⟩
theorem x_G.kept {V : x_E} {u : State} {H H1 : Heap} (hz : V.2.2.2.2.2.1 ≤ H.size) (hq : ∀ a : Nat, a < H.size → ¬ x_A V a → H1[a]? = H[a]?) (h : x_G V u H) : x_G V u H1 := ⟨h.1, h.2.1, h.1.2 u H H1 hz hq h.2.2⟩
theorem x_sg_own {V : x_E} {h : Nat} (hh : 64 ≤ h) : x_sg V h = V.2.2.2.2.2.1 + (h - 64) := by unfold x_sg; rw [if_neg (by omega)]
theorem x_sg_inj {V : x_E} {a b : Nat} (ha : 64 ≤ a) (hb : 64 ≤ b) (h : x_sg V a = x_sg V b) : a = b := by rw [x_sg_own ha, x_sg_own hb] at h; omega
theorem x_sg_A {V : x_E} {h : Nat} (hh : 64 ≤ h) : x_A V (x_sg V h) := by unfold x_A; rw [x_sg_own hh]; omega
theorem x_in {V : x_E} {S : x_S} {h : Nat} (hh : h ∈ S.2.1) : ∃ k : Nat, S.2.1[k]? = some h ∧ (x_ws V S)[k]? = some (x_sg V h, x_tc V (S.2.2 h)) := by
  obtain ⟨k, hk⟩ := List.getElem?_of_mem hh
  exact ⟨k, hk, by unfold x_ws; rw [List.getElem?_map, hk]; rfl⟩
theorem x_DD {V : x_E} {S : x_S} {H : Heap} (hH : x_H V S H) : va_D (x_A V) (x_ws V S) := by
  obtain ⟨-, -, -, hn, hl⟩ := hH
  have at' : ∀ (i : Nat) (p : Nat × va_E), (x_ws V S)[i]? = some p → ∃ h, S.2.1[i]? = some h ∧ p.1 = x_sg V h := by
    intro i p hp
    unfold x_ws at hp
    rw [List.getElem?_map] at hp
    cases hi : S.2.1[i]? with
    | none => rw [hi] at hp; cases hp
    | some h => rw [hi] at hp; cases hp; exact ⟨h, rfl, rfl⟩
  refine ⟨fun i j p q hp hq e => ?_, fun k q hq => ?_⟩
  · obtain ⟨a, ha, ea⟩ := at' i p hp
    obtain ⟨b, hb, eb⟩ := at' j q hq
    have hab := x_sg_inj (hl a (List.mem_of_getElem? ha)).1 (hl b (List.mem_of_getElem? hb)).1 (by rw [← ea, ← eb]; exact e)
    subst hab
    have hi := (List.getElem?_eq_some_iff.mp ha).1
    exact (List.getElem?_inj hi hn).mp (ha.trans hb.symm)
  · obtain ⟨a, ha, ea⟩ := at' k q hq
    rw [ea]
    exact x_sg_A (hl a (List.mem_of_getElem? ha)).1
/-- a cell of S changed -/
def x_put (S : x_S) (h : Nat) (e : x_C) : x_S := (S.1, S.2.1, fun j => if j = h then e else S.2.2 j)
theorem x_ws_put {V : x_E} {S : x_S} {h k : Nat} {e : x_C} (hn : S.2.1.Nodup) (hk : S.2.1[k]? = some h) : (x_ws V S).set k (x_sg V h, x_tc V e) = x_ws V (x_put S h e) := by
  apply List.ext_getElem?
  intro i
  unfold x_ws x_put
  dsimp only
  rw [List.getElem?_set, List.getElem?_map, List.length_map]
  have hlt := (List.getElem?_eq_some_iff.mp hk).1
  by_cases hi : k = i
  · subst hi
    rw [if_pos rfl, if_pos hlt, List.getElem?_map, hk]
    simp
  · rw [if_neg hi, List.getElem?_map]
    cases hj : S.2.1[i]? with
    | none => rfl
    | some j =>
      have hne : j ≠ h := fun q => hi ((List.getElem?_inj hlt hn).mp (by rw [hk, hj, q]))
      simp [hne]
theorem x_H_put {V : x_E} {S : x_S} {h k : Nat} {e : x_C} {H H1 : Heap} (hH : x_H V S H) (hk : S.2.1[k]? = some h) (hP : va_P (x_D V) vwCl ((x_ws V S).set k (x_sg V h, x_tc V e)) H1) (hz : H1.size = H.size) : x_H V (x_put S h e) H1 := by
  obtain ⟨h1, h2, -, h4, h5⟩ := hH
  rw [x_ws_put h4 hk] at hP
  exact ⟨by rw [hz]; exact h1, h2, hP, h4, h5⟩
/-- locals by their numbers -/
def x_tl (V : x_E) (ls : List (Nat × Value)) : List (Nat × Value) := ls.map (fun q => (q.1, x_tv V q.2))
def x_lk : List (Nat × Value) → Nat → Option Value
  | [], _ => none
  | q :: r, i => if q.1 = i then some q.2 else x_lk r i
def x_ins : List (Nat × Value) → Nat → Value → List (Nat × Value)
  | [], i, v => [(i, v)]
  | q :: r, i, v => if q.1 < i then q :: x_ins r i v else if q.1 = i then (i, v) :: r else (i, v) :: q :: r
def x_dr : List (Nat × Value) → Nat → List (Nat × Value)
  | [], _ => []
  | q :: r, i => if q.1 = i then x_dr r i else q :: x_dr r i
def x_d2 : List (Nat × Value) → Nat → List (Nat × Value)
  | [], _ => []
  | q :: r, i => if q.1 + 1 = i ∧ q.2.category = 2 then x_d2 r i else q :: x_d2 r i
def x_set1 (ls : List (Nat × Value)) (i : Nat) (v : Value) : List (Nat × Value) := x_ins (x_dr (x_d2 ls i) i) i v
def x_set2 (ls : List (Nat × Value)) (i : Nat) (v : Value) : List (Nat × Value) := x_ins (x_dr (x_dr (x_d2 ls i) i) (i + 1)) i v
theorem x_cat (V : x_E) (v : Value) : (x_tv V v).category = v.category := by cases v <;> rfl
theorem x_lk_mem {V : x_E} : ∀ {ls : List (Nat × Value)} {i : Nat} {v : Value}, x_lk ls i = some v → (i, x_tv V v) ∈ x_tl V ls
  | [], _, _, h => by cases h
  | q :: r, i, v, h => by
    unfold x_lk at h
    by_cases hq : q.1 = i
    · rw [if_pos hq] at h
      cases h
      subst hq
      exact List.mem_cons_self
    · rw [if_neg hq] at h
      exact List.mem_cons_of_mem _ (x_lk_mem h)
theorem x_at {V : x_E} {ls : List (Nat × Value)} {arr : Array Slot} {nL i : Nat} {v : Value} (hl : lv_has arr nL (x_tl V ls)) (h : x_lk ls i = some v) : arr[i]? = some (.val (x_tv V v)) := hl.2.2 _ (x_lk_mem h)
theorem x_ins_mem : ∀ {ls : List (Nat × Value)} {i : Nat} {v : Value} {q : Nat × Value}, q ∈ x_ins ls i v → q = (i, v) ∨ q ∈ ls
  | [], _, _, _, h => by unfold x_ins at h; exact Or.inl (List.mem_singleton.mp h)
  | p :: r, i, v, q, h => by
    unfold x_ins at h
    by_cases h1 : p.1 < i
    · rw [if_pos h1] at h
      rcases List.mem_cons.mp h with e | e
      · exact Or.inr (by rw [e]; exact List.mem_cons_self)
      · rcases x_ins_mem e with e | e
        · exact Or.inl e
        · exact Or.inr (List.mem_cons_of_mem _ e)
    · rw [if_neg h1] at h
      by_cases h2 : p.1 = i
      · rw [if_pos h2] at h
        rcases List.mem_cons.mp h with e | e
        · exact Or.inl e
        · exact Or.inr (List.mem_cons_of_mem _ e)
      · rw [if_neg h2] at h
        rcases List.mem_cons.mp h with e | e
        · exact Or.inl e
        · exact Or.inr e
theorem x_dr_mem : ∀ {ls : List (Nat × Value)} {i : Nat} {q : Nat × Value}, q ∈ x_dr ls i → q ∈ ls ∧ q.1 ≠ i
  | [], _, _, h => by cases h
  | p :: r, i, q, h => by
    unfold x_dr at h
    by_cases h1 : p.1 = i
    · rw [if_pos h1] at h
      exact ⟨List.mem_cons_of_mem _ (x_dr_mem h).1, (x_dr_mem h).2⟩
    · rw [if_neg h1] at h
      rcases List.mem_cons.mp h with e | e
      · exact ⟨by rw [e]; exact List.mem_cons_self, by rw [e]; exact h1⟩
      · exact ⟨List.mem_cons_of_mem _ (x_dr_mem e).1, (x_dr_mem e).2⟩
theorem x_d2_mem : ∀ {ls : List (Nat × Value)} {i : Nat} {q : Nat × Value}, q ∈ x_d2 ls i → q ∈ ls ∧ ¬ (q.1 + 1 = i ∧ q.2.category = 2)
  | [], _, _, h => by cases h
  | p :: r, i, q, h => by
    unfold x_d2 at h
    by_cases h1 : p.1 + 1 = i ∧ p.2.category = 2
    · rw [if_pos h1] at h
      exact ⟨List.mem_cons_of_mem _ (x_d2_mem h).1, (x_d2_mem h).2⟩
    · rw [if_neg h1] at h
      rcases List.mem_cons.mp h with e | e
      · exact ⟨by rw [e]; exact List.mem_cons_self, by rw [e]; exact h1⟩
      · exact ⟨List.mem_cons_of_mem _ (x_d2_mem e).1, (x_d2_mem e).2⟩
theorem x_set1_has {V : x_E} {ls : List (Nat × Value)} {arr : Array Slot} {nL i : Nat} {v : Value} (h : lv_has arr nL ((i, x_tv V v) :: (x_tl V ls).filter (fun q => !(q.1 == i) && !(q.1 + 1 == i && q.2.category == 2)))) : lv_has arr nL (x_tl V (x_set1 ls i v)) := by
  refine ⟨h.1, h.2.1, fun q hq => h.2.2 q ?_⟩
  unfold x_tl at hq
  obtain ⟨q', h1, rfl⟩ := List.mem_map.mp hq
  rcases x_ins_mem h1 with e | e
  · rw [e]; exact List.mem_cons_self
  · obtain ⟨h2, h3⟩ := x_dr_mem e
    obtain ⟨h4, h5⟩ := x_d2_mem h2
    refine List.mem_cons_of_mem _ (List.mem_filter.mpr ⟨List.mem_map.mpr ⟨q', h4, rfl⟩, ?_⟩)
    have h5' : ¬ (q'.1 + 1 = i ∧ (x_tv V q'.2).category = 2) := by rw [x_cat]; exact h5
    simp only [Bool.and_eq_true, Bool.not_eq_true', beq_eq_false_iff_ne, ne_eq, Bool.and_eq_false_iff]
    exact ⟨h3, by by_cases z : q'.1 + 1 = i
                  · exact Or.inr (fun y => h5' ⟨z, y⟩)
                  · exact Or.inl z⟩
theorem x_set2_has {V : x_E} {ls : List (Nat × Value)} {arr : Array Slot} {nL i : Nat} {v : Value} (h : lv_has arr nL ((i, x_tv V v) :: (x_tl V ls).filter (fun q => !(q.1 == i) && (!(q.1 == i + 1) && !(q.1 + 1 == i && q.2.category == 2))))) : lv_has arr nL (x_tl V (x_set2 ls i v)) := by
  refine ⟨h.1, h.2.1, fun q hq => h.2.2 q ?_⟩
  unfold x_tl at hq
  obtain ⟨q', h1, rfl⟩ := List.mem_map.mp hq
  rcases x_ins_mem h1 with e | e
  · rw [e]; exact List.mem_cons_self
  · obtain ⟨h2', h3'⟩ := x_dr_mem e
    obtain ⟨h2, h3⟩ := x_dr_mem h2'
    obtain ⟨h4, h5⟩ := x_d2_mem h2
    refine List.mem_cons_of_mem _ (List.mem_filter.mpr ⟨List.mem_map.mpr ⟨q', h4, rfl⟩, ?_⟩)
    have h5' : ¬ (q'.1 + 1 = i ∧ (x_tv V q'.2).category = 2) := by rw [x_cat]; exact h5
    simp only [Bool.and_eq_true, Bool.not_eq_true', beq_eq_false_iff_ne, ne_eq, Bool.and_eq_false_iff]
    exact ⟨h3, h3', by by_cases z : q'.1 + 1 = i
                       · exact Or.inr (fun y => h5' ⟨z, y⟩)
                       · exact Or.inl z⟩
end
section
/-! the machine as the proofs see it: E c k pc ls st S: from here, with c cells and k slots of the room spent, the method comes to its end with Q -/
/-- the words of a method -/
def x_W (y : MethodName) (cc : ByteArray) (nL : Nat) (ret : Option FieldType) : List Cond := .code y cc nL ret :: gT
def x_rt (cc : ByteArray) (ret : Option FieldType) (pc : Nat) (v : Option Value) : Prop := match v with
  | none => decode cc pc = .ok (.return_, 1) ∧ ret = none
  | some (.int z) => decode cc pc = .ok (.ireturn, 1) ∧ ∃ ty, ret = some ty ∧ narrow ty (.int z) = .int z
  | some (.long _) => decode cc pc = .ok (.lreturn, 1) ∧ ret = some .long
  | some (.ref _) => decode cc pc = .ok (.areturn, 1) ∧ ∃ ty, ret = some ty ∧ ((∃ n, ty = .object n) ∨ ∃ t, ty = .array t)
  | _ => False
abbrev x_P : Type := Nat → Nat → Nat → List (Nat × Value) → List Value → x_S → Prop
/-- the method's own place: what all rows need -/
def x_X (V : x_E) (own : String) (cc : ByteArray) (nL : Nat) (ret : Option FieldType) (d MC MS : Nat) (nm : String) (Q : Option Value → x_S → Prop) (E : x_P) : Prop :=
  ∃ (p : Program) (e : Env) (R : Room) (s : State) (m : MethodId) (args : Array Value) (below : List Frame) (meth : Method) (c : Code) (QW : State → Prop),
    (p.tables.exec = Jvm.exec ∧ c.code = cc ∧ c.maxLocals = nL ∧ meth.name = nm ∧ s.vm.findClass own = some m.cls ∧ (∀ w ∈ gT, w.before args s = true) ∧ x_G V s s.heap ∧ V.2.2.2.2.2.1 ≤ s.heap.size ∧ d ≤ R.frames ∧ 64 * d ≤ R.locals ∧ MC ≤ R.cells ∧ MS ≤ R.slots) ∧
    (E = fun ce sl pc ls st S => ∀ (H : Heap) (locs : List Loc) (arr : Array Slot), x_H V S H → va_S (x_A V) s.heap H locs → lv_has arr nL (x_tl V ls) → W p V.1 e R s m args below meth c H locs ce sl QW (F0 m pc arr (st.map (x_tv V)))) ∧
    (∀ (ce sl pc : Nat) (ls : List (Nat × Value)) (v : Option Value) (S : x_S), x_rt cc ret pc v → Q v S → ce ≤ MC → sl ≤ MS → E ce sl pc ls v.toList S)
/-- a method's contract -/
def x_Ct (V : x_E) (y : MethodName) (cc : ByteArray) (nL : Nat) (ret : Option FieldType) (d mc ms : Nat) (P : List Value → x_S → Prop) (Q : List Value → x_S → Option Value → x_S → Prop) : Prop :=
  ∀ (a : List Value) (S : x_S), P a S → Met V.1 y (x_W y cc nL ret) { frames := d, cells := mc, slots := ms, locals := 64 * d } (fun av U => av = (a.map (x_tv V)).toArray ∧ x_R V S U)
    (fun _ st o t => ∃ (r : Option Value) (S' : x_S), o = .returned (r.map (x_tv V)) ∧ Q a S r S' ∧ x_R V S' t ∧ va_F (x_A V) st t) mc ms (x_A V)
theorem x_args {V : x_E} : ∀ (a : List Value) (i : Nat), x_tl V (lv_args i a) = lv_args i (a.map (x_tv V))
  | [], _ => rfl
  | v :: r, i => by
    show (i, x_tv V v) :: x_tl V (lv_args (if v.category = 2 then i + 2 else i + 1) r) = (i, x_tv V v) :: lv_args (if (x_tv V v).category = 2 then i + 2 else i + 1) (r.map (x_tv V))
    rw [x_cat, x_args r]
theorem x_len {V : x_E} : ∀ (a : List Value), (lg_sl (a.map (x_tv V))).length = (lg_sl a).length
  | [] => rfl
  | v :: r => by
    have h := x_len (V := V) r
    unfold lg_sl at h ⊢
    rw [List.map_cons, List.flatMap_cons, List.flatMap_cons, List.length_append, List.length_append, h, x_cat]
    by_cases hc : v.category = 2
    · rw [if_pos hc, if_pos hc]; rfl
    · rw [if_neg hc, if_neg hc]; rfl
theorem x_blind {V : x_E} {S : x_S} {a : List Value} : FrameBlind (fun av U => av = (a.map (x_tv V)).toArray ∧ x_R V S U) := by
  intro b U g mk ⟨h1, h2, h3⟩
  exact ⟨h1, h2, x_G.moved (u := U) (U := U.calling g mk b) (State.WarmedH.refl U) h3⟩
theorem x_gain {V : x_E} {S : x_S} {s t : State} {H : Heap} {locs : List Loc} (hG : x_G V s s.heap) (h0 : V.2.2.2.2.2.1 ≤ s.heap.size) (hH : x_H V S H) (hS : va_S (x_A V) s.heap H locs) (ht : t.heap = H) (hW : s.WarmedH t.vm) : x_R V S t := by
  subst ht
  exact ⟨hH, (hG.kept h0 (fun a h1 h2 => hS.2.1 a h1 h2)).moved hW⟩
/-- a contract out of a walk -/
theorem x_met {V : x_E} {y : MethodName} {cc : ByteArray} {nL : Nat} {ret : Option FieldType} {d mc ms : Nat} {P : List Value → x_S → Prop} {Q : List Value → x_S → Option Value → x_S → Prop} (hy : plainName y.cls = true)
    (hn : ∀ a S, P a S → (lg_sl a).length ≤ nL)
    (body : ∀ (a : List Value) (S : x_S), P a S → ∀ E, x_X V y.cls cc nL ret d mc ms y.name (Q a S) E → E 0 0 0 (lv_args 0 a) [] S) : x_Ct V y cc nL ret d mc ms P Q := by
  intro a S hP
  refine Met.ofW (cc := cc) (maxL := nL) (ret := ret) hy rfl ?_
  intro p e s m args below meth c s₁ B hml hv
  obtain ⟨rfl, hH, hG⟩ := hv
  have hts := atoms_spec (ws := x_W y cc nL ret) B.pre
  have hlocks := B.notSynchronized
  have hr := B.returns
  have h0 : V.2.2.2.2.2.1 ≤ s.heap.size := by rw [hH.1]; omega
  have hl := lv_entry (a.map (x_tv V)) (n := nL) (by rw [x_len]; exact hn a S hP)
  rw [lg_entry_eq]
  rw [← x_args] at hl
  refine body a S hP _ ⟨p, e, _, s, m, _, below, meth, c, _, ⟨B.exec, B.bytes, hml, (name_of_methodNamed B.named B.method).1, findClass_of_methodNamed B.named, fun w hw => hts w (List.mem_cons_of_mem _ hw), hG, h0, Nat.le_refl _, Nat.le_refl _, Nat.le_refl _, Nat.le_refl _⟩, rfl, ?_⟩ s.heap [] _ hH va_S.rf hl
  intro ce sl pc ls v S' hrt hQ hce hsl H locs arr hH' hS _
  refine W.widen hce hsl ?_
  have key : ∀ t : State, t.heap = H → s.WarmedH t.vm → (∃ (r : Option Value) (S' : x_S), Outcome.returned (v.map (x_tv V)) = .returned (r.map (x_tv V)) ∧ Q a S r S' ∧ x_R V S' t ∧ va_F (x_A V) s t) :=
    fun t ht hW => ⟨v, S', rfl, hQ, x_gain hG h0 hH' hS ht hW, hS.F ht⟩
  match v, hrt with
  | none, ⟨hd, he⟩ => exact W.vret B.exec B.bytes (hr.trans he) key hS.2.2 hd
  | some (.int z), ⟨hd, ty, he, hnn⟩ => exact W.zret B.exec B.bytes (hr.trans he) hnn key hS.2.2 hd
  | some (.long z), ⟨hd, he⟩ => exact W.lret B.exec B.bytes (hr.trans he) key hS.2.2 hd
  | some (.ref z), ⟨hd, ty, he, ht⟩ => exact W.aret B.exec B.bytes (hr.trans he) ht (Or.inr ⟨_, rfl⟩) key hS.2.2 hd
end
section
section R5
variable {V : x_E} {own nm : String} {cc : ByteArray} {nL d MC MS pc ce sl : Nat} {ret : Option FieldType} {Q : Option Value → x_S → Prop} {E : x_P} {ls : List (Nat × Value)} {st : List Value} {S : x_S}
theorem r_iconst (hE : x_X V own cc nL ret d MC MS nm Q E) {n : Int} {v : Int32} (hd : decode cc pc = .ok (.iconst n, 1)) (hv : Int32.ofInt n = v) (kk : E ce sl (pc + 1) ls (.int v :: st) S) : E ce sl pc ls (st) S := by
  obtain ⟨p, e, R, s, m, args, below, meth, c, QW, ⟨hx, hb, hml, hnm, hown, hts, hG, h0, hdf, hdl, hMC, hMS⟩, rfl, hret⟩ := hE
  intro H locs arr hH hS hl
  exact lv_iconst hx hb hd hv (kk H locs arr hH hS hl)
theorem r_bipush (hE : x_X V own cc nL ret d MC MS nm Q E) {n : Int} {v : Int32} (hd : decode cc pc = .ok (.bipush n, 2)) (hv : (Int8.ofInt n).toInt32 = v) (kk : E ce sl (pc + 2) ls (.int v :: st) S) : E ce sl pc ls (st) S := by
  obtain ⟨p, e, R, s, m, args, below, meth, c, QW, ⟨hx, hb, hml, hnm, hown, hts, hG, h0, hdf, hdl, hMC, hMS⟩, rfl, hret⟩ := hE
  intro H locs arr hH hS hl
  exact lv_bipush hx hb hd hv (kk H locs arr hH hS hl)
theorem r_sipush (hE : x_X V own cc nL ret d MC MS nm Q E) {n : Int} {v : Int32} (hd : decode cc pc = .ok (.sipush n, 3)) (hv : (Int16.ofInt n).toInt32 = v) (kk : E ce sl (pc + 3) ls (.int v :: st) S) : E ce sl pc ls (st) S := by
  obtain ⟨p, e, R, s, m, args, below, meth, c, QW, ⟨hx, hb, hml, hnm, hown, hts, hG, h0, hdf, hdl, hMC, hMS⟩, rfl, hret⟩ := hE
  intro H locs arr hH hS hl
  exact lv_sipush hx hb hd hv (kk H locs arr hH hS hl)
theorem r_lconst (hE : x_X V own cc nL ret d MC MS nm Q E) {n : Fin 2} {v : Int64} (hd : decode cc pc = .ok (.lconst n, 1)) (hv : Int64.ofNat (n : Nat) = v) (kk : E ce sl (pc + 1) ls (.long v :: st) S) : E ce sl pc ls (st) S := by
  obtain ⟨p, e, R, s, m, args, below, meth, c, QW, ⟨hx, hb, hml, hnm, hown, hts, hG, h0, hdf, hdl, hMC, hMS⟩, rfl, hret⟩ := hE
  intro H locs arr hH hS hl
  exact lv_lconst hx hb hd hv (kk H locs arr hH hS hl)
theorem r_iload_n (hE : x_X V own cc nL ret d MC MS nm Q E) {k : Fin 4} {v : Int32} (hd : decode cc pc = .ok (.iload_n k, 1)) (hv : x_lk ls k = some (.int v)) (kk : E ce sl (pc + 1) ls (.int v :: st) S) : E ce sl pc ls (st) S := by
  obtain ⟨p, e, R, s, m, args, below, meth, c, QW, ⟨hx, hb, hml, hnm, hown, hts, hG, h0, hdf, hdl, hMC, hMS⟩, rfl, hret⟩ := hE
  intro H locs arr hH hS hl
  exact lv_iload_n hx hb hd rfl (x_at hl hv) (kk H locs arr hH hS hl)
theorem r_iload (hE : x_X V own cc nL ret d MC MS nm Q E) {i : Nat} {v : Int32} (hd : decode cc pc = .ok (.iload i, 2)) (hv : x_lk ls i = some (.int v)) (kk : E ce sl (pc + 2) ls (.int v :: st) S) : E ce sl pc ls (st) S := by
  obtain ⟨p, e, R, s, m, args, below, meth, c, QW, ⟨hx, hb, hml, hnm, hown, hts, hG, h0, hdf, hdl, hMC, hMS⟩, rfl, hret⟩ := hE
  intro H locs arr hH hS hl
  exact lv_iload hx hb hd (x_at hl hv) (kk H locs arr hH hS hl)
theorem r_istore_n (hE : x_X V own cc nL ret d MC MS nm Q E) {k : Fin 4} {v : Int32} {ls2 : List (Nat × Value)} (hd : decode cc pc = .ok (.istore_n k, 1)) (hi : (k : Nat) < nL) (hs : x_set1 ls (k : Nat) (.int v) = ls2) (kk : E ce sl (pc + 1) ls2 st S) : E ce sl pc ls (.int v :: st) S := by
  subst hs
  obtain ⟨p, e, R, s, m, args, below, meth, c, QW, ⟨hx, hb, hml, hnm, hown, hts, hG, h0, hdf, hdl, hMC, hMS⟩, rfl, hret⟩ := hE
  intro H locs arr hH hS hl
  exact lv_istore_n hx hb hd rfl hl hi rfl (fun arr2 hl2 => kk H locs arr2 hH hS (x_set1_has hl2))
theorem r_istore (hE : x_X V own cc nL ret d MC MS nm Q E) {i : Nat} {v : Int32} {ls2 : List (Nat × Value)} (hd : decode cc pc = .ok (.istore i, 2)) (hi : i < nL) (hs : x_set1 ls i (.int v) = ls2) (kk : E ce sl (pc + 2) ls2 st S) : E ce sl pc ls (.int v :: st) S := by
  subst hs
  obtain ⟨p, e, R, s, m, args, below, meth, c, QW, ⟨hx, hb, hml, hnm, hown, hts, hG, h0, hdf, hdl, hMC, hMS⟩, rfl, hret⟩ := hE
  intro H locs arr hH hS hl
  exact lv_istore hx hb hd hl hi rfl (fun arr2 hl2 => kk H locs arr2 hH hS (x_set1_has hl2))
theorem r_lload_n (hE : x_X V own cc nL ret d MC MS nm Q E) {k : Fin 4} {v : Int64} (hd : decode cc pc = .ok (.lload_n k, 1)) (hv : x_lk ls k = some (.long v)) (kk : E ce sl (pc + 1) ls (.long v :: st) S) : E ce sl pc ls (st) S := by
  obtain ⟨p, e, R, s, m, args, below, meth, c, QW, ⟨hx, hb, hml, hnm, hown, hts, hG, h0, hdf, hdl, hMC, hMS⟩, rfl, hret⟩ := hE
  intro H locs arr hH hS hl
  exact lv_lload_n hx hb hd rfl (x_at hl hv) (kk H locs arr hH hS hl)
theorem r_lload (hE : x_X V own cc nL ret d MC MS nm Q E) {i : Nat} {v : Int64} (hd : decode cc pc = .ok (.lload i, 2)) (hv : x_lk ls i = some (.long v)) (kk : E ce sl (pc + 2) ls (.long v :: st) S) : E ce sl pc ls (st) S := by
  obtain ⟨p, e, R, s, m, args, below, meth, c, QW, ⟨hx, hb, hml, hnm, hown, hts, hG, h0, hdf, hdl, hMC, hMS⟩, rfl, hret⟩ := hE
  intro H locs arr hH hS hl
  exact lv_lload hx hb hd (x_at hl hv) (kk H locs arr hH hS hl)
theorem r_lstore_n (hE : x_X V own cc nL ret d MC MS nm Q E) {k : Fin 4} {v : Int64} {ls2 : List (Nat × Value)} (hd : decode cc pc = .ok (.lstore_n k, 1)) (hi : (k : Nat) + 1 < nL) (hs : x_set2 ls (k : Nat) (.long v) = ls2) (kk : E ce sl (pc + 1) ls2 st S) : E ce sl pc ls (.long v :: st) S := by
  subst hs
  obtain ⟨p, e, R, s, m, args, below, meth, c, QW, ⟨hx, hb, hml, hnm, hown, hts, hG, h0, hdf, hdl, hMC, hMS⟩, rfl, hret⟩ := hE
  intro H locs arr hH hS hl
  exact lv_lstore_n hx hb hd rfl hl hi rfl (fun arr2 hl2 => kk H locs arr2 hH hS (x_set2_has hl2))
theorem r_lstore (hE : x_X V own cc nL ret d MC MS nm Q E) {i : Nat} {v : Int64} {ls2 : List (Nat × Value)} (hd : decode cc pc = .ok (.lstore i, 2)) (hi : i + 1 < nL) (hs : x_set2 ls i (.long v) = ls2) (kk : E ce sl (pc + 2) ls2 st S) : E ce sl pc ls (.long v :: st) S := by
  subst hs
  obtain ⟨p, e, R, s, m, args, below, meth, c, QW, ⟨hx, hb, hml, hnm, hown, hts, hG, h0, hdf, hdl, hMC, hMS⟩, rfl, hret⟩ := hE
  intro H locs arr hH hS hl
  exact lv_lstore hx hb hd hl hi rfl (fun arr2 hl2 => kk H locs arr2 hH hS (x_set2_has hl2))
theorem r_aload_n (hE : x_X V own cc nL ret d MC MS nm Q E) {k : Fin 4} {v : Nat} (hd : decode cc pc = .ok (.aload_n k, 1)) (hv : x_lk ls k = some (.ref v)) (kk : E ce sl (pc + 1) ls (.ref v :: st) S) : E ce sl pc ls (st) S := by
  obtain ⟨p, e, R, s, m, args, below, meth, c, QW, ⟨hx, hb, hml, hnm, hown, hts, hG, h0, hdf, hdl, hMC, hMS⟩, rfl, hret⟩ := hE
  intro H locs arr hH hS hl
  exact lv_aload_n hx hb hd rfl (x_at hl hv) (kk H locs arr hH hS hl)
theorem r_aload (hE : x_X V own cc nL ret d MC MS nm Q E) {i : Nat} {v : Nat} (hd : decode cc pc = .ok (.aload i, 2)) (hv : x_lk ls i = some (.ref v)) (kk : E ce sl (pc + 2) ls (.ref v :: st) S) : E ce sl pc ls (st) S := by
  obtain ⟨p, e, R, s, m, args, below, meth, c, QW, ⟨hx, hb, hml, hnm, hown, hts, hG, h0, hdf, hdl, hMC, hMS⟩, rfl, hret⟩ := hE
  intro H locs arr hH hS hl
  exact lv_aload hx hb hd (x_at hl hv) (kk H locs arr hH hS hl)
theorem r_astore_n (hE : x_X V own cc nL ret d MC MS nm Q E) {k : Fin 4} {v : Nat} {ls2 : List (Nat × Value)} (hd : decode cc pc = .ok (.astore_n k, 1)) (hi : (k : Nat) < nL) (hs : x_set1 ls (k : Nat) (.ref v) = ls2) (kk : E ce sl (pc + 1) ls2 st S) : E ce sl pc ls (.ref v :: st) S := by
  subst hs
  obtain ⟨p, e, R, s, m, args, below, meth, c, QW, ⟨hx, hb, hml, hnm, hown, hts, hG, h0, hdf, hdl, hMC, hMS⟩, rfl, hret⟩ := hE
  intro H locs arr hH hS hl
  exact lv_astore_n hx hb hd rfl hl hi rfl (fun arr2 hl2 => kk H locs arr2 hH hS (x_set1_has hl2))
theorem r_astore (hE : x_X V own cc nL ret d MC MS nm Q E) {i : Nat} {v : Nat} {ls2 : List (Nat × Value)} (hd : decode cc pc = .ok (.astore i, 2)) (hi : i < nL) (hs : x_set1 ls i (.ref v) = ls2) (kk : E ce sl (pc + 2) ls2 st S) : E ce sl pc ls (.ref v :: st) S := by
  subst hs
  obtain ⟨p, e, R, s, m, args, below, meth, c, QW, ⟨hx, hb, hml, hnm, hown, hts, hG, h0, hdf, hdl, hMC, hMS⟩, rfl, hret⟩ := hE
  intro H locs arr hH hS hl
  exact lv_astore hx hb hd hl hi rfl (fun arr2 hl2 => kk H locs arr2 hH hS (x_set1_has hl2))
theorem r_iinc (hE : x_X V own cc nL ret d MC MS nm Q E) {i : Nat} {n : Int} {x v : Int32} {ls2 : List (Nat × Value)} (hd : decode cc pc = .ok (.iinc i n, 3)) (hl0 : x_lk ls i = some (.int x)) (hv : x + Int32.ofInt n = v) (hi : i < nL) (hs : x_set1 ls i (.int v) = ls2) (kk : E ce sl (pc + 3) ls2 st S) : E ce sl pc ls st S := by
  subst hs
  obtain ⟨p, e, R, s, m, args, below, meth, c, QW, ⟨hx, hb, hml, hnm, hown, hts, hG, h0, hdf, hdl, hMC, hMS⟩, rfl, hret⟩ := hE
  intro H locs arr hH hS hl
  obtain ⟨k9, hk9⟩ := List.getElem?_of_mem (x_lk_mem (V := V) hl0)
  exact lv_iinc hx hb hd hl hk9 hv hi rfl (fun arr2 hl2 => kk H locs arr2 hH hS (x_set1_has hl2))
theorem r_iadd (hE : x_X V own cc nL ret d MC MS nm Q E) {x y : Int32} (hd : decode cc pc = .ok (.iadd, 1))  (kk : E ce sl (pc + 1) ls (.int (x + y) :: st) S) : E ce sl pc ls (.int y :: .int x :: st) S := by
  obtain ⟨p, e, R, s, m, args, below, meth, c, QW, ⟨hx, hb, hml, hnm, hown, hts, hG, h0, hdf, hdl, hMC, hMS⟩, rfl, hret⟩ := hE
  intro H locs arr hH hS hl
  exact lv_iadd hx hb hd (kk H locs arr hH hS hl)
theorem r_isub (hE : x_X V own cc nL ret d MC MS nm Q E) {x y : Int32} (hd : decode cc pc = .ok (.isub, 1))  (kk : E ce sl (pc + 1) ls (.int (x - y) :: st) S) : E ce sl pc ls (.int y :: .int x :: st) S := by
  obtain ⟨p, e, R, s, m, args, below, meth, c, QW, ⟨hx, hb, hml, hnm, hown, hts, hG, h0, hdf, hdl, hMC, hMS⟩, rfl, hret⟩ := hE
  intro H locs arr hH hS hl
  exact lv_isub hx hb hd (kk H locs arr hH hS hl)
theorem r_imul (hE : x_X V own cc nL ret d MC MS nm Q E) {x y : Int32} (hd : decode cc pc = .ok (.imul, 1))  (kk : E ce sl (pc + 1) ls (.int (x * y) :: st) S) : E ce sl pc ls (.int y :: .int x :: st) S := by
  obtain ⟨p, e, R, s, m, args, below, meth, c, QW, ⟨hx, hb, hml, hnm, hown, hts, hG, h0, hdf, hdl, hMC, hMS⟩, rfl, hret⟩ := hE
  intro H locs arr hH hS hl
  exact lv_imul hx hb hd (kk H locs arr hH hS hl)
theorem r_iand (hE : x_X V own cc nL ret d MC MS nm Q E) {x y : Int32} (hd : decode cc pc = .ok (.iand, 1))  (kk : E ce sl (pc + 1) ls (.int (x &&& y) :: st) S) : E ce sl pc ls (.int y :: .int x :: st) S := by
  obtain ⟨p, e, R, s, m, args, below, meth, c, QW, ⟨hx, hb, hml, hnm, hown, hts, hG, h0, hdf, hdl, hMC, hMS⟩, rfl, hret⟩ := hE
  intro H locs arr hH hS hl
  exact lv_iand hx hb hd (kk H locs arr hH hS hl)
theorem r_ior (hE : x_X V own cc nL ret d MC MS nm Q E) {x y : Int32} (hd : decode cc pc = .ok (.ior, 1))  (kk : E ce sl (pc + 1) ls (.int (x ||| y) :: st) S) : E ce sl pc ls (.int y :: .int x :: st) S := by
  obtain ⟨p, e, R, s, m, args, below, meth, c, QW, ⟨hx, hb, hml, hnm, hown, hts, hG, h0, hdf, hdl, hMC, hMS⟩, rfl, hret⟩ := hE
  intro H locs arr hH hS hl
  exact lv_ior hx hb hd (kk H locs arr hH hS hl)
theorem r_ixor (hE : x_X V own cc nL ret d MC MS nm Q E) {x y : Int32} (hd : decode cc pc = .ok (.ixor, 1))  (kk : E ce sl (pc + 1) ls (.int (x ^^^ y) :: st) S) : E ce sl pc ls (.int y :: .int x :: st) S := by
  obtain ⟨p, e, R, s, m, args, below, meth, c, QW, ⟨hx, hb, hml, hnm, hown, hts, hG, h0, hdf, hdl, hMC, hMS⟩, rfl, hret⟩ := hE
  intro H locs arr hH hS hl
  exact lv_ixor hx hb hd (kk H locs arr hH hS hl)
theorem r_ishl (hE : x_X V own cc nL ret d MC MS nm Q E) {x y : Int32} (hd : decode cc pc = .ok (.ishl, 1))  (kk : E ce sl (pc + 1) ls (.int (x <<< (y &&& 31)) :: st) S) : E ce sl pc ls (.int y :: .int x :: st) S := by
  obtain ⟨p, e, R, s, m, args, below, meth, c, QW, ⟨hx, hb, hml, hnm, hown, hts, hG, h0, hdf, hdl, hMC, hMS⟩, rfl, hret⟩ := hE
  intro H locs arr hH hS hl
  exact lv_ishl hx hb hd (kk H locs arr hH hS hl)
theorem r_ishr (hE : x_X V own cc nL ret d MC MS nm Q E) {x y : Int32} (hd : decode cc pc = .ok (.ishr, 1))  (kk : E ce sl (pc + 1) ls (.int (x >>> (y &&& 31)) :: st) S) : E ce sl pc ls (.int y :: .int x :: st) S := by
  obtain ⟨p, e, R, s, m, args, below, meth, c, QW, ⟨hx, hb, hml, hnm, hown, hts, hG, h0, hdf, hdl, hMC, hMS⟩, rfl, hret⟩ := hE
  intro H locs arr hH hS hl
  exact lv_ishr hx hb hd (kk H locs arr hH hS hl)
theorem r_iushr (hE : x_X V own cc nL ret d MC MS nm Q E) {x y : Int32} (hd : decode cc pc = .ok (.iushr, 1))  (kk : E ce sl (pc + 1) ls (.int ((x.toUInt32 >>> (y.toUInt32 &&& Int32.toUInt32 31)).toInt32) :: st) S) : E ce sl pc ls (.int y :: .int x :: st) S := by
  obtain ⟨p, e, R, s, m, args, below, meth, c, QW, ⟨hx, hb, hml, hnm, hown, hts, hG, h0, hdf, hdl, hMC, hMS⟩, rfl, hret⟩ := hE
  intro H locs arr hH hS hl
  exact lv_iushr hx hb hd rfl (kk H locs arr hH hS hl)
theorem r_idiv (hE : x_X V own cc nL ret d MC MS nm Q E) {x y : Int32} (hd : decode cc pc = .ok (.idiv, 1)) (hne : ¬ y = 0) (kk : E ce sl (pc + 1) ls (.int (x / y) :: st) S) : E ce sl pc ls (.int y :: .int x :: st) S := by
  obtain ⟨p, e, R, s, m, args, below, meth, c, QW, ⟨hx, hb, hml, hnm, hown, hts, hG, h0, hdf, hdl, hMC, hMS⟩, rfl, hret⟩ := hE
  intro H locs arr hH hS hl
  exact lv_idiv hx hb hd hne (kk H locs arr hH hS hl)
theorem r_irem (hE : x_X V own cc nL ret d MC MS nm Q E) {x y : Int32} (hd : decode cc pc = .ok (.irem, 1)) (hne : ¬ y = 0) (kk : E ce sl (pc + 1) ls (.int (x - x / y * y) :: st) S) : E ce sl pc ls (.int y :: .int x :: st) S := by
  obtain ⟨p, e, R, s, m, args, below, meth, c, QW, ⟨hx, hb, hml, hnm, hown, hts, hG, h0, hdf, hdl, hMC, hMS⟩, rfl, hret⟩ := hE
  intro H locs arr hH hS hl
  exact lv_irem hx hb hd hne (kk H locs arr hH hS hl)
theorem r_ineg (hE : x_X V own cc nL ret d MC MS nm Q E) {x : Int32} (hd : decode cc pc = .ok (.ineg, 1))  (kk : E ce sl (pc + 1) ls (.int (-x) :: st) S) : E ce sl pc ls (.int x :: st) S := by
  obtain ⟨p, e, R, s, m, args, below, meth, c, QW, ⟨hx, hb, hml, hnm, hown, hts, hG, h0, hdf, hdl, hMC, hMS⟩, rfl, hret⟩ := hE
  intro H locs arr hH hS hl
  exact lv_ineg hx hb hd (kk H locs arr hH hS hl)
theorem r_ladd (hE : x_X V own cc nL ret d MC MS nm Q E) {x y : Int64} (hd : decode cc pc = .ok (.ladd, 1))  (kk : E ce sl (pc + 1) ls (.long (x + y) :: st) S) : E ce sl pc ls (.long y :: .long x :: st) S := by
  obtain ⟨p, e, R, s, m, args, below, meth, c, QW, ⟨hx, hb, hml, hnm, hown, hts, hG, h0, hdf, hdl, hMC, hMS⟩, rfl, hret⟩ := hE
  intro H locs arr hH hS hl
  exact lv_ladd hx hb hd (kk H locs arr hH hS hl)
theorem r_lsub (hE : x_X V own cc nL ret d MC MS nm Q E) {x y : Int64} (hd : decode cc pc = .ok (.lsub, 1))  (kk : E ce sl (pc + 1) ls (.long (x - y) :: st) S) : E ce sl pc ls (.long y :: .long x :: st) S := by
  obtain ⟨p, e, R, s, m, args, below, meth, c, QW, ⟨hx, hb, hml, hnm, hown, hts, hG, h0, hdf, hdl, hMC, hMS⟩, rfl, hret⟩ := hE
  intro H locs arr hH hS hl
  exact lv_lsub hx hb hd (kk H locs arr hH hS hl)
theorem r_lmul (hE : x_X V own cc nL ret d MC MS nm Q E) {x y : Int64} (hd : decode cc pc = .ok (.lmul, 1))  (kk : E ce sl (pc + 1) ls (.long (x * y) :: st) S) : E ce sl pc ls (.long y :: .long x :: st) S := by
  obtain ⟨p, e, R, s, m, args, below, meth, c, QW, ⟨hx, hb, hml, hnm, hown, hts, hG, h0, hdf, hdl, hMC, hMS⟩, rfl, hret⟩ := hE
  intro H locs arr hH hS hl
  exact lv_lmul hx hb hd (kk H locs arr hH hS hl)
theorem r_ldiv (hE : x_X V own cc nL ret d MC MS nm Q E) {x y : Int64} (hd : decode cc pc = .ok (.ldiv, 1)) (hne : ¬ y = 0) (kk : E ce sl (pc + 1) ls (.long (x / y) :: st) S) : E ce sl pc ls (.long y :: .long x :: st) S := by
  obtain ⟨p, e, R, s, m, args, below, meth, c, QW, ⟨hx, hb, hml, hnm, hown, hts, hG, h0, hdf, hdl, hMC, hMS⟩, rfl, hret⟩ := hE
  intro H locs arr hH hS hl
  exact lv_ldiv hx hb hd hne (kk H locs arr hH hS hl)
theorem r_lneg (hE : x_X V own cc nL ret d MC MS nm Q E) {x : Int64} (hd : decode cc pc = .ok (.lneg, 1))  (kk : E ce sl (pc + 1) ls (.long (-x) :: st) S) : E ce sl pc ls (.long x :: st) S := by
  obtain ⟨p, e, R, s, m, args, below, meth, c, QW, ⟨hx, hb, hml, hnm, hown, hts, hG, h0, hdf, hdl, hMC, hMS⟩, rfl, hret⟩ := hE
  intro H locs arr hH hS hl
  exact lv_lneg hx hb hd (kk H locs arr hH hS hl)
theorem r_lcmp (hE : x_X V own cc nL ret d MC MS nm Q E) {x y : Int64} (hd : decode cc pc = .ok (.lcmp, 1))  (kk : E ce sl (pc + 1) ls (.int (lg_cmp x y) :: st) S) : E ce sl pc ls (.long y :: .long x :: st) S := by
  obtain ⟨p, e, R, s, m, args, below, meth, c, QW, ⟨hx, hb, hml, hnm, hown, hts, hG, h0, hdf, hdl, hMC, hMS⟩, rfl, hret⟩ := hE
  intro H locs arr hH hS hl
  exact W.lcmp hx hb hd (kk H locs arr hH hS hl)
theorem r_i2l (hE : x_X V own cc nL ret d MC MS nm Q E) {x : Int32} (hd : decode cc pc = .ok (.i2l, 1))  (kk : E ce sl (pc + 1) ls (.long x.toInt64 :: st) S) : E ce sl pc ls (.int x :: st) S := by
  obtain ⟨p, e, R, s, m, args, below, meth, c, QW, ⟨hx, hb, hml, hnm, hown, hts, hG, h0, hdf, hdl, hMC, hMS⟩, rfl, hret⟩ := hE
  intro H locs arr hH hS hl
  exact lv_i2l hx hb hd rfl (kk H locs arr hH hS hl)
theorem r_l2i (hE : x_X V own cc nL ret d MC MS nm Q E) {x : Int64} (hd : decode cc pc = .ok (.l2i, 1))  (kk : E ce sl (pc + 1) ls (.int x.toInt32 :: st) S) : E ce sl pc ls (.long x :: st) S := by
  obtain ⟨p, e, R, s, m, args, below, meth, c, QW, ⟨hx, hb, hml, hnm, hown, hts, hG, h0, hdf, hdl, hMC, hMS⟩, rfl, hret⟩ := hE
  intro H locs arr hH hS hl
  exact lv_l2i hx hb hd rfl (kk H locs arr hH hS hl)
theorem r_i2b (hE : x_X V own cc nL ret d MC MS nm Q E) {x : Int32} (hd : decode cc pc = .ok (.i2b, 1))  (kk : E ce sl (pc + 1) ls (.int x.toInt8.toInt32 :: st) S) : E ce sl pc ls (.int x :: st) S := by
  obtain ⟨p, e, R, s, m, args, below, meth, c, QW, ⟨hx, hb, hml, hnm, hown, hts, hG, h0, hdf, hdl, hMC, hMS⟩, rfl, hret⟩ := hE
  intro H locs arr hH hS hl
  exact lv_i2b hx hb hd rfl (kk H locs arr hH hS hl)
theorem r_i2c (hE : x_X V own cc nL ret d MC MS nm Q E) {x : Int32} (hd : decode cc pc = .ok (.i2c, 1))  (kk : E ce sl (pc + 1) ls (.int (x.toUInt32 % 65536).toInt32 :: st) S) : E ce sl pc ls (.int x :: st) S := by
  obtain ⟨p, e, R, s, m, args, below, meth, c, QW, ⟨hx, hb, hml, hnm, hown, hts, hG, h0, hdf, hdl, hMC, hMS⟩, rfl, hret⟩ := hE
  intro H locs arr hH hS hl
  exact lv_i2c hx hb hd rfl (kk H locs arr hH hS hl)
theorem r_dup (hE : x_X V own cc nL ret d MC MS nm Q E) {v : Value} (hd : decode cc pc = .ok (.dup, 1)) (hc : v.category = 1) (kk : E ce sl (pc + 1) ls (v :: v :: st) S) : E ce sl pc ls (v :: st) S := by
  obtain ⟨p, e, R, s, m, args, below, meth, c, QW, ⟨hx, hb, hml, hnm, hown, hts, hG, h0, hdf, hdl, hMC, hMS⟩, rfl, hret⟩ := hE
  intro H locs arr hH hS hl
  exact lv_dup hx hb hd ((x_cat V v).trans hc) (kk H locs arr hH hS hl)
theorem r_pop (hE : x_X V own cc nL ret d MC MS nm Q E) {v : Value} (hd : decode cc pc = .ok (.pop, 1)) (hc : v.category = 1) (kk : E ce sl (pc + 1) ls (st) S) : E ce sl pc ls (v :: st) S := by
  obtain ⟨p, e, R, s, m, args, below, meth, c, QW, ⟨hx, hb, hml, hnm, hown, hts, hG, h0, hdf, hdl, hMC, hMS⟩, rfl, hret⟩ := hE
  intro H locs arr hH hS hl
  exact lv_pop hx hb hd ((x_cat V v).trans hc) (kk H locs arr hH hS hl)
theorem r_dup2 (hE : x_X V own cc nL ret d MC MS nm Q E) {v w : Value} (hd : decode cc pc = .ok (.dup2, 1)) (hc : v.category = 1) (hc2 : w.category = 1) (kk : E ce sl (pc + 1) ls (v :: w :: v :: w :: st) S) : E ce sl pc ls (v :: w :: st) S := by
  obtain ⟨p, e, R, s, m, args, below, meth, c, QW, ⟨hx, hb, hml, hnm, hown, hts, hG, h0, hdf, hdl, hMC, hMS⟩, rfl, hret⟩ := hE
  intro H locs arr hH hS hl
  exact lv_dup2_11 hx hb hd ((x_cat V v).trans hc) ((x_cat V w).trans hc2) (kk H locs arr hH hS hl)
theorem r_if_eq (hE : x_X V own cc nL ret d MC MS nm Q E) {x : Int32} {off : Int} {tgt : Nat} (hd : decode cc pc = .ok (.ifCond .eq off, 3)) (ht : (pc : Int) + off = (tgt : Int)) (kt : x = 0 → E ce sl tgt ls st S) (kf : ¬ x = 0 → E ce sl (pc + 3) ls st S) : E ce sl pc ls (.int x :: st) S := by
  obtain ⟨p, e, R, s, m, args, below, meth, c, QW, ⟨hx, hb, hml, hnm, hown, hts, hG, h0, hdf, hdl, hMC, hMS⟩, rfl, hret⟩ := hE
  intro H locs arr hH hS hl
  exact lv_if_eq hx hb hd ht (fun h => kt h H locs arr hH hS hl) (fun h => kf (by first | exact h | exact Decidable.not_not.mp h) H locs arr hH hS hl)
theorem r_icmp_eq (hE : x_X V own cc nL ret d MC MS nm Q E) {x y : Int32} {off : Int} {tgt : Nat} (hd : decode cc pc = .ok (.if_icmp .eq off, 3)) (ht : (pc : Int) + off = (tgt : Int)) (kt : x = y → E ce sl tgt ls st S) (kf : ¬ x = y → E ce sl (pc + 3) ls st S) : E ce sl pc ls (.int y :: .int x :: st) S := by
  obtain ⟨p, e, R, s, m, args, below, meth, c, QW, ⟨hx, hb, hml, hnm, hown, hts, hG, h0, hdf, hdl, hMC, hMS⟩, rfl, hret⟩ := hE
  intro H locs arr hH hS hl
  exact lv_icmp_eq hx hb hd ht (fun h => kt h H locs arr hH hS hl) (fun h => kf (by first | exact h | exact Decidable.not_not.mp h) H locs arr hH hS hl)
theorem r_if_ne (hE : x_X V own cc nL ret d MC MS nm Q E) {x : Int32} {off : Int} {tgt : Nat} (hd : decode cc pc = .ok (.ifCond .ne off, 3)) (ht : (pc : Int) + off = (tgt : Int)) (kt : ¬ x = 0 → E ce sl tgt ls st S) (kf : x = 0 → E ce sl (pc + 3) ls st S) : E ce sl pc ls (.int x :: st) S := by
  obtain ⟨p, e, R, s, m, args, below, meth, c, QW, ⟨hx, hb, hml, hnm, hown, hts, hG, h0, hdf, hdl, hMC, hMS⟩, rfl, hret⟩ := hE
  intro H locs arr hH hS hl
  exact lv_if_ne hx hb hd ht (fun h => kt h H locs arr hH hS hl) (fun h => kf (by first | exact h | exact Decidable.not_not.mp h) H locs arr hH hS hl)
theorem r_icmp_ne (hE : x_X V own cc nL ret d MC MS nm Q E) {x y : Int32} {off : Int} {tgt : Nat} (hd : decode cc pc = .ok (.if_icmp .ne off, 3)) (ht : (pc : Int) + off = (tgt : Int)) (kt : ¬ x = y → E ce sl tgt ls st S) (kf : x = y → E ce sl (pc + 3) ls st S) : E ce sl pc ls (.int y :: .int x :: st) S := by
  obtain ⟨p, e, R, s, m, args, below, meth, c, QW, ⟨hx, hb, hml, hnm, hown, hts, hG, h0, hdf, hdl, hMC, hMS⟩, rfl, hret⟩ := hE
  intro H locs arr hH hS hl
  exact lv_icmp_ne hx hb hd ht (fun h => kt h H locs arr hH hS hl) (fun h => kf (by first | exact h | exact Decidable.not_not.mp h) H locs arr hH hS hl)
theorem r_if_lt (hE : x_X V own cc nL ret d MC MS nm Q E) {x : Int32} {off : Int} {tgt : Nat} (hd : decode cc pc = .ok (.ifCond .lt off, 3)) (ht : (pc : Int) + off = (tgt : Int)) (kt : x < 0 → E ce sl tgt ls st S) (kf : ¬ x < 0 → E ce sl (pc + 3) ls st S) : E ce sl pc ls (.int x :: st) S := by
  obtain ⟨p, e, R, s, m, args, below, meth, c, QW, ⟨hx, hb, hml, hnm, hown, hts, hG, h0, hdf, hdl, hMC, hMS⟩, rfl, hret⟩ := hE
  intro H locs arr hH hS hl
  exact lv_if_lt hx hb hd ht (fun h => kt h H locs arr hH hS hl) (fun h => kf (by first | exact h | exact Decidable.not_not.mp h) H locs arr hH hS hl)
theorem r_icmp_lt (hE : x_X V own cc nL ret d MC MS nm Q E) {x y : Int32} {off : Int} {tgt : Nat} (hd : decode cc pc = .ok (.if_icmp .lt off, 3)) (ht : (pc : Int) + off = (tgt : Int)) (kt : x < y → E ce sl tgt ls st S) (kf : ¬ x < y → E ce sl (pc + 3) ls st S) : E ce sl pc ls (.int y :: .int x :: st) S := by
  obtain ⟨p, e, R, s, m, args, below, meth, c, QW, ⟨hx, hb, hml, hnm, hown, hts, hG, h0, hdf, hdl, hMC, hMS⟩, rfl, hret⟩ := hE
  intro H locs arr hH hS hl
  exact lv_icmp_lt hx hb hd ht (fun h => kt h H locs arr hH hS hl) (fun h => kf (by first | exact h | exact Decidable.not_not.mp h) H locs arr hH hS hl)
theorem r_if_ge (hE : x_X V own cc nL ret d MC MS nm Q E) {x : Int32} {off : Int} {tgt : Nat} (hd : decode cc pc = .ok (.ifCond .ge off, 3)) (ht : (pc : Int) + off = (tgt : Int)) (kt : 0 ≤ x → E ce sl tgt ls st S) (kf : ¬ 0 ≤ x → E ce sl (pc + 3) ls st S) : E ce sl pc ls (.int x :: st) S := by
  obtain ⟨p, e, R, s, m, args, below, meth, c, QW, ⟨hx, hb, hml, hnm, hown, hts, hG, h0, hdf, hdl, hMC, hMS⟩, rfl, hret⟩ := hE
  intro H locs arr hH hS hl
  exact lv_if_ge hx hb hd ht (fun h => kt h H locs arr hH hS hl) (fun h => kf (by first | exact h | exact Decidable.not_not.mp h) H locs arr hH hS hl)
theorem r_icmp_ge (hE : x_X V own cc nL ret d MC MS nm Q E) {x y : Int32} {off : Int} {tgt : Nat} (hd : decode cc pc = .ok (.if_icmp .ge off, 3)) (ht : (pc : Int) + off = (tgt : Int)) (kt : y ≤ x → E ce sl tgt ls st S) (kf : ¬ y ≤ x → E ce sl (pc + 3) ls st S) : E ce sl pc ls (.int y :: .int x :: st) S := by
  obtain ⟨p, e, R, s, m, args, below, meth, c, QW, ⟨hx, hb, hml, hnm, hown, hts, hG, h0, hdf, hdl, hMC, hMS⟩, rfl, hret⟩ := hE
  intro H locs arr hH hS hl
  exact lv_icmp_ge hx hb hd ht (fun h => kt h H locs arr hH hS hl) (fun h => kf (by first | exact h | exact Decidable.not_not.mp h) H locs arr hH hS hl)
theorem r_if_gt (hE : x_X V own cc nL ret d MC MS nm Q E) {x : Int32} {off : Int} {tgt : Nat} (hd : decode cc pc = .ok (.ifCond .gt off, 3)) (ht : (pc : Int) + off = (tgt : Int)) (kt : 0 < x → E ce sl tgt ls st S) (kf : ¬ 0 < x → E ce sl (pc + 3) ls st S) : E ce sl pc ls (.int x :: st) S := by
  obtain ⟨p, e, R, s, m, args, below, meth, c, QW, ⟨hx, hb, hml, hnm, hown, hts, hG, h0, hdf, hdl, hMC, hMS⟩, rfl, hret⟩ := hE
  intro H locs arr hH hS hl
  exact lv_if_gt hx hb hd ht (fun h => kt h H locs arr hH hS hl) (fun h => kf (by first | exact h | exact Decidable.not_not.mp h) H locs arr hH hS hl)
theorem r_icmp_gt (hE : x_X V own cc nL ret d MC MS nm Q E) {x y : Int32} {off : Int} {tgt : Nat} (hd : decode cc pc = .ok (.if_icmp .gt off, 3)) (ht : (pc : Int) + off = (tgt : Int)) (kt : y < x → E ce sl tgt ls st S) (kf : ¬ y < x → E ce sl (pc + 3) ls st S) : E ce sl pc ls (.int y :: .int x :: st) S := by
  obtain ⟨p, e, R, s, m, args, below, meth, c, QW, ⟨hx, hb, hml, hnm, hown, hts, hG, h0, hdf, hdl, hMC, hMS⟩, rfl, hret⟩ := hE
  intro H locs arr hH hS hl
  exact lv_icmp_gt hx hb hd ht (fun h => kt h H locs arr hH hS hl) (fun h => kf (by first | exact h | exact Decidable.not_not.mp h) H locs arr hH hS hl)
theorem r_if_le (hE : x_X V own cc nL ret d MC MS nm Q E) {x : Int32} {off : Int} {tgt : Nat} (hd : decode cc pc = .ok (.ifCond .le off, 3)) (ht : (pc : Int) + off = (tgt : Int)) (kt : x ≤ 0 → E ce sl tgt ls st S) (kf : ¬ x ≤ 0 → E ce sl (pc + 3) ls st S) : E ce sl pc ls (.int x :: st) S := by
  obtain ⟨p, e, R, s, m, args, below, meth, c, QW, ⟨hx, hb, hml, hnm, hown, hts, hG, h0, hdf, hdl, hMC, hMS⟩, rfl, hret⟩ := hE
  intro H locs arr hH hS hl
  exact lv_if_le hx hb hd ht (fun h => kt h H locs arr hH hS hl) (fun h => kf (by first | exact h | exact Decidable.not_not.mp h) H locs arr hH hS hl)
theorem r_icmp_le (hE : x_X V own cc nL ret d MC MS nm Q E) {x y : Int32} {off : Int} {tgt : Nat} (hd : decode cc pc = .ok (.if_icmp .le off, 3)) (ht : (pc : Int) + off = (tgt : Int)) (kt : x ≤ y → E ce sl tgt ls st S) (kf : ¬ x ≤ y → E ce sl (pc + 3) ls st S) : E ce sl pc ls (.int y :: .int x :: st) S := by
  obtain ⟨p, e, R, s, m, args, below, meth, c, QW, ⟨hx, hb, hml, hnm, hown, hts, hG, h0, hdf, hdl, hMC, hMS⟩, rfl, hret⟩ := hE
  intro H locs arr hH hS hl
  exact lv_icmp_le hx hb hd ht (fun h => kt h H locs arr hH hS hl) (fun h => kf (by first | exact h | exact Decidable.not_not.mp h) H locs arr hH hS hl)
theorem r_goto (hE : x_X V own cc nL ret d MC MS nm Q E) {off : Int} {tgt : Nat} (hd : decode cc pc = .ok (.goto off, 3)) (ht : (pc : Int) + off = (tgt : Int)) (kk : E ce sl tgt ls st S) : E ce sl pc ls st S := by
  obtain ⟨p, e, R, s, m, args, below, meth, c, QW, ⟨hx, hb, hml, hnm, hown, hts, hG, h0, hdf, hdl, hMC, hMS⟩, rfl, hret⟩ := hE
  intro H locs arr hH hS hl
  exact lv_goto hx hb hd ht (kk H locs arr hH hS hl)
theorem r_tsin (hE : x_X V own cc nL ret d MC MS nm Q E) {dflt lo hi : Int} {offs : Array Int} {len : Nat} {x : Int32} {off : Int} {tgt : Nat} (hd : decode cc pc = .ok (.tableswitch dflt lo hi offs, len)) (h1 : ¬ x.toInt < lo) (h2 : ¬ hi < x.toInt) (ho : offs[(x.toInt - lo).toNat]? = some off) (ht : (pc : Int) + off = (tgt : Int)) (kk : E ce sl tgt ls st S) : E ce sl pc ls (.int x :: st) S := by
  obtain ⟨p, e, R, s, m, args, below, meth, c, QW, ⟨hx, hb, hml, hnm, hown, hts, hG, h0, hdf, hdl, hMC, hMS⟩, rfl, hret⟩ := hE
  intro H locs arr hH hS hl
  exact lv_tableIn hx hb hd h1 h2 ho ht (kk H locs arr hH hS hl)
theorem r_tsout (hE : x_X V own cc nL ret d MC MS nm Q E) {dflt lo hi : Int} {offs : Array Int} {len : Nat} {x : Int32} {tgt : Nat} (hd : decode cc pc = .ok (.tableswitch dflt lo hi offs, len)) (h : x.toInt < lo ∨ hi < x.toInt) (ht : (pc : Int) + dflt = (tgt : Int)) (kk : E ce sl tgt ls st S) : E ce sl pc ls (.int x :: st) S := by
  obtain ⟨p, e, R, s, m, args, below, meth, c, QW, ⟨hx, hb, hml, hnm, hown, hts, hG, h0, hdf, hdl, hMC, hMS⟩, rfl, hret⟩ := hE
  intro H locs arr hH hS hl
  exact lv_tableOut hx hb hd h ht (kk H locs arr hH hS hl)
theorem r_ldc (hE : x_X V own cc nL ret d MC MS nm Q E) {i : Nat} {v : Int32} (hd : decode cc pc = .ok (.ldc i, 2)) (hc : Cond.constant own i v ∈ gT) (kk : E ce sl (pc + 2) ls (.int v :: st) S) : E ce sl pc ls st S := by
  obtain ⟨p, e, R, s, m, args, below, meth, c, QW, ⟨hx, hb, hml, hnm, hown, hts, hG, h0, hdf, hdl, hMC, hMS⟩, rfl, hret⟩ := hE
  intro H locs arr hH hS hl
  exact lv_ldc hx hb hown (hts _ hc) hd (kk H locs arr hH hS hl)
theorem r_ldcw (hE : x_X V own cc nL ret d MC MS nm Q E) {i : Nat} {v : Int32} (hd : decode cc pc = .ok (.ldc_w i, 3)) (hc : Cond.constant own i v ∈ gT) (kk : E ce sl (pc + 3) ls (.int v :: st) S) : E ce sl pc ls st S := by
  obtain ⟨p, e, R, s, m, args, below, meth, c, QW, ⟨hx, hb, hml, hnm, hown, hts, hG, h0, hdf, hdl, hMC, hMS⟩, rfl, hret⟩ := hE
  intro H locs arr hH hS hl
  exact lv_ldcw hx hb hown (hts _ hc) hd (kk H locs arr hH hS hl)
theorem r_ldc2 (hE : x_X V own cc nL ret d MC MS nm Q E) {i : Nat} {v : Int64} (hd : decode cc pc = .ok (.ldc2_w i, 3)) (hc : Cond.constantLong own i v ∈ gT) (kk : E ce sl (pc + 3) ls (.long v :: st) S) : E ce sl pc ls st S := by
  obtain ⟨p, e, R, s, m, args, below, meth, c, QW, ⟨hx, hb, hml, hnm, hown, hts, hG, h0, hdf, hdl, hMC, hMS⟩, rfl, hret⟩ := hE
  intro H locs arr hH hS hl
  exact lv_ldc2 hx hb hown (hts _ hc) hd (kk H locs arr hH hS hl)
theorem r_ireturn (hE : x_X V own cc nL ret d MC MS nm Q E) {v : Int32} {ty : FieldType} (hd : decode cc pc = .ok (.ireturn, 1)) (hr : ret = some ty) (hn : narrow ty (.int v) = .int v) (hce : ce ≤ MC) (hsl : sl ≤ MS) (hq : Q (some (.int v)) S) : E ce sl pc ls [.int v] S := by
  obtain ⟨p, e, R, s, m, args, below, meth, c, QW, -, -, hret⟩ := hE
  exact hret ce sl pc ls (some (.int v)) S ⟨hd, ty, hr, hn⟩ hq hce hsl
theorem r_lreturn (hE : x_X V own cc nL ret d MC MS nm Q E) {v : Int64} (hd : decode cc pc = .ok (.lreturn, 1)) (hr : ret = some .long) (hce : ce ≤ MC) (hsl : sl ≤ MS) (hq : Q (some (.long v)) S) : E ce sl pc ls [.long v] S := by
  obtain ⟨p, e, R, s, m, args, below, meth, c, QW, -, -, hret⟩ := hE
  exact hret ce sl pc ls (some (.long v)) S ⟨hd, hr⟩ hq hce hsl
theorem r_areturn (hE : x_X V own cc nL ret d MC MS nm Q E) {v : Nat} {ty : FieldType} (hd : decode cc pc = .ok (.areturn, 1)) (hr : ret = some ty) (hn : (∃ n, ty = .object n) ∨ ∃ t, ty = .array t) (hce : ce ≤ MC) (hsl : sl ≤ MS) (hq : Q (some (.ref v)) S) : E ce sl pc ls [.ref v] S := by
  obtain ⟨p, e, R, s, m, args, below, meth, c, QW, -, -, hret⟩ := hE
  exact hret ce sl pc ls (some (.ref v)) S ⟨hd, ty, hr, hn⟩ hq hce hsl
theorem r_return (hE : x_X V own cc nL ret d MC MS nm Q E) (hd : decode cc pc = .ok (.return_, 1)) (hr : ret = none) (hce : ce ≤ MC) (hsl : sl ≤ MS) (hq : Q none S) : E ce sl pc ls [] S := by
  obtain ⟨p, e, R, s, m, args, below, meth, c, QW, -, -, hret⟩ := hE
  exact hret ce sl pc ls none S ⟨hd, hr⟩ hq hce hsl
theorem r_locs (hE : x_X V own cc nL ret d MC MS nm Q E) {ls2 : List (Nat × Value)} (h : ∀ q ∈ ls2, x_lk ls q.1 = some q.2) (kk : E ce sl pc ls2 st S) : E ce sl pc ls st S := by
  obtain ⟨p, e, R, s, m, args, below, meth, c, QW, ⟨hx, hb, hml, hnm, hown, hts, hG, h0, hdf, hdl, hMC, hMS⟩, rfl, hret⟩ := hE
  intro H locs arr hH hS hl
  refine kk H locs arr hH hS ⟨hl.1, hl.2.1, fun q hq => ?_⟩
  obtain ⟨q2, h1, rfl⟩ := List.mem_map.mp hq
  exact x_at hl (h q2 h1)
/-- a class of the world by its number: its words, types, names -/
def x_K (ci : Nat) (C : String) (T : u_T) (N : Nat) (ty : Nat → FieldType) : Prop := vwCl[ci]? = some (C, T, N) ∧ (∀ w ∈ u_ws C T N, w ∈ gT) ∧ (∀ k, k < N → parseFieldDescriptor (T k).2.2.1 = some (ty k)) ∧ ∀ a, a < N → ∀ b, b < N → a ≠ b → (T a).2.1 ≠ (T b).2.1
/-- the entry i of the class own names the field k of the class ci -/
def x_F (own : String) (i ci k : Nat) (t : FieldType) (fin sm : Bool) : Prop := ∃ (C : String) (T : u_T) (N : Nat) (ty : Nat → FieldType), x_K ci C T N ty ∧ k < N ∧ Cond.fieldLink own i (T k).1 (T k).2.1 (T k).2.2.1 ∈ gT ∧ ty k = t ∧ (T k).2.2.2 = fin ∧ (sm = true → (T k).1 = own)
theorem r_getf (hE : x_X V own cc nL ret d MC MS nm Q E) {i ci k h : Nat} {t : FieldType} {fin sm : Bool} {fs : List Value} {v : Value} (hF : x_F own i ci k t fin sm) (hd : decode cc pc = .ok (.getfield i, 3)) (hm : h ∈ S.2.1) (hc : S.2.2 h = .inr (ci, fs)) (hv : fs[k]? = some v) (kk : E ce sl (pc + 3) ls (v :: st) S) : E ce sl pc ls (.ref h :: st) S := by
  obtain ⟨p, e, R, s, m, args, below, meth, c, QW, ⟨hx, hb, hml, hnm, hown, hts, hG, h0, hdf, hdl, hMC, hMS⟩, rfl, hret⟩ := hE
  intro H locs arr hH hS hl
  obtain ⟨C, T, N, ty, ⟨hcl, hin, -, -⟩, hk, hlk, -, -, -⟩ := hF
  obtain ⟨k0, -, hk0⟩ := x_in (V := V) hm
  rw [hc] at hk0
  exact va_get (D := x_D V) (C := C) (T := T) (N := N) (v := x_tv V v) hx hb hts hin hown hG.2.1 hH.2.2.1 k0 hk0 hcl k hk (hts _ hlk) (fun _ h9 => h9) (by rw [List.getElem?_map, hv]; rfl) hd (kk H locs arr hH hS hl)
theorem r_putf (hE : x_X V own cc nL ret d MC MS nm Q E) {i ci k h : Nat} {t : FieldType} {sm : Bool} {fs : List Value} {v : Value} (hF : x_F own i ci k t false sm) (hd : decode cc pc = .ok (.putfield i, 3)) (hm : h ∈ S.2.1) (hc : S.2.2 h = .inr (ci, fs)) (hn : narrow t v = v) (hf : fits t v = true) (hk2 : k < fs.length) (kk : E ce sl (pc + 3) ls st (x_put S h (.inr (ci, fs.set k v)))) : E ce sl pc ls (v :: .ref h :: st) S := by
  obtain ⟨p, e, R, s, m, args, below, meth, c, QW, ⟨hx, hb, hml, hnm, hown, hts, hG, h0, hdf, hdl, hMC, hMS⟩, rfl, hret⟩ := hE
  intro H locs arr hH hS hl
  obtain ⟨C, T, N, ty, ⟨hcl, hin, hty, hap0⟩, hk, hlk, ht, hfin, -⟩ := hF
  obtain ⟨k0, hk1, hk0⟩ := x_in (V := V) hm
  rw [hc] at hk0
  have hn2 : narrow t (x_tv V v) = x_tv V v := by cases v <;> first | exact hn | (cases t <;> rfl)
  have hf2 : fits t (x_tv V v) = true := by cases v <;> first | exact hf | (cases t <;> simp_all [fits, x_tv])
  have hK := hG.2.1
  have hP := hH.2.2.1
  have hap := va_apart (own := own) hts hin ty hty hap0 hK hcl
  obtain ⟨r, h1, cell, q1, q2, q3, q4⟩ := hP k0 _ hk0
  have hr : r = (C, T, N) := Option.some.inj (h1.symm.trans hcl)
  subst hr
  obtain ⟨hSl, hfc, kC, hkC, hkind⟩ := hK.1 ci _ hcl
  obtain ⟨cf, kf, fi, f, hi, hsl⟩ := hSl k hk
  have hlay := hts _ (hin _ (u_in_lay hk))
  unfold u_lay at hlay
  rw [if_neg (by rw [hfin]; decide)] at hlay
  have hst := (u_facts hfc hkC (u_lays hts hin hk) hi).1
  have h6 := u_store hfc hkC hkind hlay hi (by rw [hty k hk, ht]) hn2 hf2
  refine W.putK hx hb (f := f) ⟨hown, hts _ hlk, ⟨_, _, _, hi⟩, hst⟩ (by rw [q2]; exact h6) q1 q3 (by rw [hsl]; exact k2_hasslot (q4 k hk)) rfl rfl hd fun H' e1 e2 e3 => ?_
  rw [hsl] at e1 ⊢
  have hlen : k < (fs.map (x_tv V)).length := by rw [List.length_map]; exact hk2
  have hP1 := hP.set (x_DD hH) hk0 (e := .inr (ci, (fs.map (x_tv V)).set k (x_tv V v))) ⟨_, hcl, t_OB.to (V := updV (vp_V (fs.map (x_tv V))) k (x_tv V v)) ⟨_, e1, q2, q3, t_set q4 hap hk _⟩ (fun j _ => vp_updV_set hlen _ j)⟩ e3
  refine kk H' _ arr (x_H_put (e := .inr (ci, fs.set k v)) hH hk1 ?_ e2) (hS.put e2 e3 ((x_DD hH).2 k0 _ hk0)) hl
  show va_P (x_D V) vwCl ((x_ws V S).set k0 (x_sg V h, .inr (ci, (fs.set k v).map (x_tv V)))) H'
  rw [List.map_set]
  exact hP1
end R5
end
section
theorem x_good : GoodIn gT gT := by
  intro w hw
  refine ⟨hw, ?_⟩
  have h := (List.mem_filter.mp hw).2
  unfold gB at h
  rw [Bool.or_eq_true] at h
  rcases h with h | h
  · exact Or.inl h
  · cases w <;> first | exact Or.inr ⟨_, rfl⟩ | cases h
theorem x_goodW {y : MethodName} {cc : ByteArray} {nL : Nat} {ret : Option FieldType} (h : Cond.code y cc nL ret ∈ gT) : GoodIn gT (x_W y cc nL ret) := by
  intro w hw
  rcases List.mem_cons.mp hw with rfl | h1
  · exact x_good _ h
  · exact x_good _ h1
theorem x_gin {w : Cond} (h : w ∈ lw_tbl) (hg : gB w = true) : w ∈ gT := List.mem_filter.mpr ⟨h, hg⟩
theorem x_trf (V : x_E) (r : Option Nat) : x_tv V (va_rf r) = va_rf (r.map (x_sg V)) := by cases r <;> rfl
section R6
variable {V : x_E} {own nm : String} {cc : ByteArray} {nL d MC MS pc ce sl : Nat} {ret : Option FieldType} {Q : Option Value → x_S → Prop} {E : x_P} {ls : List (Nat × Value)} {st : List Value} {S : x_S}
theorem x_inA {h t n : Nat} {a : vp_A} (hm : h ∈ S.2.1) (hc : S.2.2 h = .inl (t, a)) : ∃ k : Nat, S.2.1[k]? = some h ∧ (x_ws V S)[k]? = some (x_sg V h, .inl (V.2.2.2.1 t, x_ta V a)) := by
  obtain ⟨k, h1, h2⟩ := x_in (V := V) hm
  exact ⟨k, h1, by rw [h2, hc]; rfl⟩
theorem r_iald (hE : x_X V own cc nL ret d MC MS nm Q E) {h n : Nat} {f : Nat → Int32} {i : Int32} (hd : decode cc pc = .ok (.iaload, 1)) (hm : h ∈ S.2.1) (hc : S.2.2 h = .inl (0, n, .inl f)) (hin : vp_in i n) (kk : E ce sl (pc + 1) ls (.int (f i.toNatClampNeg) :: st) S) : E ce sl pc ls (.int i :: .ref h :: st) S := by
  obtain ⟨p, e, R, s, m, args, below, meth, c, QW, ⟨hx, hb, hml, hnm, hown, hts, hG, h0, hdf, hdl, hMC, hMS⟩, rfl, hret⟩ := hE
  intro H locs arr hH hS hl
  obtain ⟨k0, -, hk0⟩ := x_inA (V := V) (n := 0) hm hc
  exact va_iald (D := x_D V) hx hb hG.2.1 hH.2.2.1 k0 0 hk0 rfl hin hd (kk H locs arr hH hS hl)
theorem r_bald (hE : x_X V own cc nL ret d MC MS nm Q E) {h n : Nat} {f : Nat → Int32} {i : Int32} (hd : decode cc pc = .ok (.baload, 1)) (hm : h ∈ S.2.1) (hc : S.2.2 h = .inl (1, n, .inl f)) (hin : vp_in i n) (kk : E ce sl (pc + 1) ls (.int (f i.toNatClampNeg) :: st) S) : E ce sl pc ls (.int i :: .ref h :: st) S := by
  obtain ⟨p, e, R, s, m, args, below, meth, c, QW, ⟨hx, hb, hml, hnm, hown, hts, hG, h0, hdf, hdl, hMC, hMS⟩, rfl, hret⟩ := hE
  intro H locs arr hH hS hl
  obtain ⟨k0, -, hk0⟩ := x_inA (V := V) (n := 0) hm hc
  exact va_bald (D := x_D V) hx hb hG.2.1 hH.2.2.1 k0 1 hk0 rfl hin hd (kk H locs arr hH hS hl)
theorem r_zald (hE : x_X V own cc nL ret d MC MS nm Q E) {h n : Nat} {f : Nat → Int32} {i : Int32} (hd : decode cc pc = .ok (.baload, 1)) (hm : h ∈ S.2.1) (hc : S.2.2 h = .inl (2, n, .inl f)) (hin : vp_in i n) (kk : E ce sl (pc + 1) ls (.int (f i.toNatClampNeg) :: st) S) : E ce sl pc ls (.int i :: .ref h :: st) S := by
  obtain ⟨p, e, R, s, m, args, below, meth, c, QW, ⟨hx, hb, hml, hnm, hown, hts, hG, h0, hdf, hdl, hMC, hMS⟩, rfl, hret⟩ := hE
  intro H locs arr hH hS hl
  obtain ⟨k0, -, hk0⟩ := x_inA (V := V) (n := 0) hm hc
  exact va_zald (D := x_D V) hx hb hG.2.1 hH.2.2.1 k0 2 hk0 rfl hin hd (kk H locs arr hH hS hl)
theorem r_lald (hE : x_X V own cc nL ret d MC MS nm Q E) {h n : Nat} {f : Nat → Int64} {i : Int32} (hd : decode cc pc = .ok (.laload, 1)) (hm : h ∈ S.2.1) (hc : S.2.2 h = .inl (3, n, .inr (.inl f))) (hin : vp_in i n) (kk : E ce sl (pc + 1) ls (.long (f i.toNatClampNeg) :: st) S) : E ce sl pc ls (.int i :: .ref h :: st) S := by
  obtain ⟨p, e, R, s, m, args, below, meth, c, QW, ⟨hx, hb, hml, hnm, hown, hts, hG, h0, hdf, hdl, hMC, hMS⟩, rfl, hret⟩ := hE
  intro H locs arr hH hS hl
  obtain ⟨k0, -, hk0⟩ := x_inA (V := V) (n := 0) hm hc
  exact va_lald (D := x_D V) hx hb hG.2.1 hH.2.2.1 k0 3 hk0 rfl hin hd (kk H locs arr hH hS hl)
/-- rows of RULES (t 4) and WAYS (t 5) -/
theorem r_aald (hE : x_X V own cc nL ret d MC MS nm Q E) {h n t : Nat} {f : Nat → Option Nat} {i : Int32} (ht : t = 4 ∨ t = 5) (hd : decode cc pc = .ok (.aaload, 1)) (hm : h ∈ S.2.1) (hc : S.2.2 h = .inl (t, n, .inr (.inr (.inr (.inr f))))) (hin : vp_in i n) (kk : E ce sl (pc + 1) ls (va_rf (f i.toNatClampNeg) :: st) S) : E ce sl pc ls (.int i :: .ref h :: st) S := by
  obtain ⟨p, e, R, s, m, args, below, meth, c, QW, ⟨hx, hb, hml, hnm, hown, hts, hG, h0, hdf, hdl, hMC, hMS⟩, rfl, hret⟩ := hE
  intro H locs arr hH hS hl
  obtain ⟨k0, -, hk0⟩ := x_inA (V := V) (n := 0) hm hc
  have kk2 := kk H locs arr hH hS hl
  rw [List.map_cons, x_trf] at kk2
  rcases ht with rfl | rfl
  · exact va_aldq (D := x_D V) hx hb hG.2.1 hH.2.2.1 k0 4 hk0 rfl hin hd kk2
  · exact va_aldq (D := x_D V) hx hb hG.2.1 hH.2.2.1 k0 5 hk0 rfl hin hd kk2
theorem r_alen (hE : x_X V own cc nL ret d MC MS nm Q E) {h t : Nat} {a : vp_A} {v : Int32} (ht : t < 6) (hd : decode cc pc = .ok (.arraylength, 1)) (hm : h ∈ S.2.1) (hc : S.2.2 h = .inl (t, a)) (hv : Int32.ofNat a.1 = v) (kk : E ce sl (pc + 1) ls (.int v :: st) S) : E ce sl pc ls (.ref h :: st) S := by
  obtain ⟨p, e, R, s, m, args, below, meth, c, QW, ⟨hx, hb, hml, hnm, hown, hts, hG, h0, hdf, hdl, hMC, hMS⟩, rfl, hret⟩ := hE
  intro H locs arr hH hS hl
  obtain ⟨k0, -, hk0⟩ := x_inA (V := V) (n := 0) hm hc
  have hv2 : Int32.ofNat (x_ta V a).1 = v := by
    rw [← hv]; unfold x_ta; split <;> rfl
  have hty : ∃ ty, (x_ty V)[t]? = some (V.2.2.2.1 t, ty) := by
    rcases (show t = 0 ∨ t = 1 ∨ t = 2 ∨ t = 3 ∨ t = 4 ∨ t = 5 by omega) with rfl | rfl | rfl | rfl | rfl | rfl <;> exact ⟨_, rfl⟩
  obtain ⟨ty, hty⟩ := hty
  exact va_alen (D := x_D V) hx hb hG.2.1 hH.2.2.1 k0 t hk0 hty hv2 hd (kk H locs arr hH hS hl)
theorem r_iast (hE : x_X V own cc nL ret d MC MS nm Q E) {h n : Nat} {f : Nat → Int32} {i x : Int32} (hd : decode cc pc = .ok (.iastore, 1)) (hm : h ∈ S.2.1) (hc : S.2.2 h = .inl (0, n, .inl f)) (hin : vp_in i n) (kk : E ce sl (pc + 1) ls st (x_put S h (.inl (0, n, .inl (upd f i.toNatClampNeg x))))) : E ce sl pc ls (.int x :: .int i :: .ref h :: st) S := by
  obtain ⟨p, e, R, s, m, args, below, meth, c, QW, ⟨hx, hb, hml, hnm, hown, hts, hG, h0, hdf, hdl, hMC, hMS⟩, rfl, hret⟩ := hE
  intro H locs arr hH hS hl
  obtain ⟨k0, hk1, hk0⟩ := x_inA (V := V) (n := 0) hm hc
  have hP := hH.2.2.1
  refine W.iast hx hb (hP k0 _ hk0) ((hG.2.1.2 0 _ rfl).1 n (fun j => .int (f j))) (fun q => by cases q) (by show ¬ (i < 0 ∨ (arrV _ _ _).slots.size ≤ _); rw [arrV_size]; exact hin) rfl rfl hd fun H1 e1 z oq => ?_
  refine kk H1 _ arr (x_H_put (e := .inl (0, n, .inl (upd f i.toNatClampNeg x))) hH hk1 (hP.set (x_DD hH) hk0 ?_ oq) z) (hS.put z oq ((x_DD hH).2 k0 _ hk0)) hl
  show H1[x_sg V h]? = some (vp_cell _ _)
  rw [e1]
  show some (Cell.setSlot (vp_cell _ (n, .inl f)) _ _) = some (vp_cell _ (n, .inl _))
  rw [vp_cell_i, vp_cell_i, arrV_store]
  congr 2
  funext q
  by_cases hq : q = i.toNatClampNeg
  · subst hq
    simp [updV, upd]
  · simp [updV, upd, hq]
theorem r_bast (hE : x_X V own cc nL ret d MC MS nm Q E) {h n : Nat} {f : Nat → Int32} {i x : Int32} (hd : decode cc pc = .ok (.bastore, 1)) (hm : h ∈ S.2.1) (hc : S.2.2 h = .inl (1, n, .inl f)) (hin : vp_in i n) (kk : E ce sl (pc + 1) ls st (x_put S h (.inl (1, n, .inl (upd f i.toNatClampNeg (vp_nar .byte x)))))) : E ce sl pc ls (.int x :: .int i :: .ref h :: st) S := by
  obtain ⟨p, e, R, s, m, args, below, meth, c, QW, ⟨hx, hb, hml, hnm, hown, hts, hG, h0, hdf, hdl, hMC, hMS⟩, rfl, hret⟩ := hE
  intro H locs arr hH hS hl
  obtain ⟨k0, hk1, hk0⟩ := x_inA (V := V) (n := 0) hm hc
  have hP := hH.2.2.1
  refine W.bast hx hb (hP k0 _ hk0) ((hG.2.1.2 1 _ rfl).1 n (fun j => .int (f j))) (fun q => by cases q) (by show ¬ (i < 0 ∨ (arrV _ _ _).slots.size ≤ _); rw [arrV_size]; exact hin) rfl rfl hd fun H1 e1 z oq => ?_
  refine kk H1 _ arr (x_H_put (e := .inl (1, n, .inl (upd f i.toNatClampNeg (vp_nar .byte x)))) hH hk1 (hP.set (x_DD hH) hk0 ?_ oq) z) (hS.put z oq ((x_DD hH).2 k0 _ hk0)) hl
  show H1[x_sg V h]? = some (vp_cell _ _)
  rw [e1]
  show some (Cell.setSlot (vp_cell _ (n, .inl f)) _ _) = some (vp_cell _ (n, .inl _))
  rw [vp_cell_i, vp_cell_i, arrV_store]
  congr 2
  funext q
  by_cases hq : q = i.toNatClampNeg
  · subst hq
    simp [updV, upd, vp_nar]
    try rfl
  · simp [updV, upd, hq]
theorem r_zast (hE : x_X V own cc nL ret d MC MS nm Q E) {h n : Nat} {f : Nat → Int32} {i x : Int32} (hd : decode cc pc = .ok (.bastore, 1)) (hm : h ∈ S.2.1) (hc : S.2.2 h = .inl (2, n, .inl f)) (hin : vp_in i n) (kk : E ce sl (pc + 1) ls st (x_put S h (.inl (2, n, .inl (upd f i.toNatClampNeg (vp_nar .boolean x)))))) : E ce sl pc ls (.int x :: .int i :: .ref h :: st) S := by
  obtain ⟨p, e, R, s, m, args, below, meth, c, QW, ⟨hx, hb, hml, hnm, hown, hts, hG, h0, hdf, hdl, hMC, hMS⟩, rfl, hret⟩ := hE
  intro H locs arr hH hS hl
  obtain ⟨k0, hk1, hk0⟩ := x_inA (V := V) (n := 0) hm hc
  have hP := hH.2.2.1
  refine W.zast hx hb (hP k0 _ hk0) ((hG.2.1.2 2 _ rfl).1 n (fun j => .int (f j))) (fun q => by cases q) (by show ¬ (i < 0 ∨ (arrV _ _ _).slots.size ≤ _); rw [arrV_size]; exact hin) rfl rfl hd fun H1 e1 z oq => ?_
  refine kk H1 _ arr (x_H_put (e := .inl (2, n, .inl (upd f i.toNatClampNeg (vp_nar .boolean x)))) hH hk1 (hP.set (x_DD hH) hk0 ?_ oq) z) (hS.put z oq ((x_DD hH).2 k0 _ hk0)) hl
  show H1[x_sg V h]? = some (vp_cell _ _)
  rw [e1]
  show some (Cell.setSlot (vp_cell _ (n, .inl f)) _ _) = some (vp_cell _ (n, .inl _))
  rw [vp_cell_i, vp_cell_i, arrV_store]
  congr 2
  funext q
  by_cases hq : q = i.toNatClampNeg
  · subst hq
    simp [updV, upd, vp_nar]
    try rfl
  · simp [updV, upd, hq]
theorem r_last (hE : x_X V own cc nL ret d MC MS nm Q E) {h n : Nat} {f : Nat → Int64} {i : Int32} {x : Int64} (hd : decode cc pc = .ok (.lastore, 1)) (hm : h ∈ S.2.1) (hc : S.2.2 h = .inl (3, n, .inr (.inl f))) (hin : vp_in i n) (kk : E ce sl (pc + 1) ls st (x_put S h (.inl (3, n, .inr (.inl (vp_updL f i.toNatClampNeg x)))))) : E ce sl pc ls (.long x :: .int i :: .ref h :: st) S := by
  obtain ⟨p, e, R, s, m, args, below, meth, c, QW, ⟨hx, hb, hml, hnm, hown, hts, hG, h0, hdf, hdl, hMC, hMS⟩, rfl, hret⟩ := hE
  intro H locs arr hH hS hl
  obtain ⟨k0, hk1, hk0⟩ := x_inA (V := V) (n := 0) hm hc
  have hP := hH.2.2.1
  refine W.last hx hb (hP k0 _ hk0) ((hG.2.1.2 3 _ rfl).1 n (fun j => .long (f j))) (fun q => by cases q) (by show ¬ (i < 0 ∨ (arrV _ _ _).slots.size ≤ _); rw [arrV_size]; exact hin) rfl rfl hd fun H1 e1 z oq => ?_
  refine kk H1 _ arr (x_H_put (e := .inl (3, n, .inr (.inl (vp_updL f i.toNatClampNeg x)))) hH hk1 (hP.set (x_DD hH) hk0 ?_ oq) z) (hS.put z oq ((x_DD hH).2 k0 _ hk0)) hl
  show H1[x_sg V h]? = some (vp_cell _ _)
  rw [e1]
  show some (Cell.setSlot (vp_cell _ (n, .inr (.inl f))) _ _) = some (vp_cell _ (n, .inr (.inl _)))
  rw [vp_cell_l, vp_cell_l, arrV_store]
  congr 2
  funext q
  by_cases hq : q = i.toNatClampNeg
  · subst hq
    simp [updV, vp_updL]
  · simp [updV, vp_updL, hq]
end R6
end
section
/-- a call's words: the callee's code, its class ready, the entry i of own names it -/
def x_Y (y : MethodName) (cc : ByteArray) (nL : Nat) (ret : Option FieldType) (n : Nat) : Prop := Cond.code y cc nL ret ∈ gT ∧ Cond.initialized y.cls ∈ gT ∧ (y.cls ≠ "java/lang/invoke/MethodHandle" ∧ y.cls ≠ "java/lang/invoke/VarHandle" ∧ (parseMethodDescriptor y.desc).map (fun d => d.parameters.length) = some n) ∧ nL ≤ 45
def x_YS (y : MethodName) (cc : ByteArray) (nL : Nat) (ret : Option FieldType) (n : Nat) : Prop := x_Y y cc nL ret n ∧ Cond.static y ∈ gT
def x_YV (y : MethodName) (cc : ByteArray) (nL : Nat) (ret : Option FieldType) (n : Nat) : Prop := x_Y y cc nL ret n ∧ Cond.instanceMethod y ∈ gT ∧ Cond.selects y.cls y y ∈ gT
def x_YI (y : MethodName) (cc : ByteArray) (nL : Nat) (n : Nat) : Prop := x_Y y cc nL none n ∧ Cond.instanceMethod y ∈ gT ∧ y.name = "<init>"
theorem x_sumcat (V : x_E) : ∀ (st : List Value), ((st.map (x_tv V)).map fun v => v.category).sum = (st.map fun v => v.category).sum
  | [] => rfl
  | v :: r => by
    have h := x_sumcat V r
    simp only [List.map_cons, List.sum_cons, x_cat]
    rw [h]
section R7
variable {V : x_E} {own nm : String} {cc : ByteArray} {nL d MC MS pc ce sl : Nat} {ret : Option FieldType} {Q : Option Value → x_S → Prop} {E : x_P} {ls : List (Nat × Value)} {st st0 : List Value} {S : x_S}
variable {i : Nat} {y : MethodName} {cc2 : ByteArray} {nL2 d2 mc ms : Nat} {ret2 : Option FieldType} {P : List Value → x_S → Prop} {Qy : List Value → x_S → Option Value → x_S → Prop}
/-- behind a call -/
theorem x_back {p : Program} {e : Env} {R : Room} {s : State} {m : MethodId} {args : Array Value} {below : List Frame} {meth : Method} {c : Code} {QW : State → Prop} {H : Heap} {locs : List Loc} {arr : Array Slot} {stw : List Value} {a : List Value}
    (hG : x_G V s s.heap) (hS : va_S (x_A V) s.heap H locs)
    (hr : va_Run p V.1 e R s m args below meth c H locs ce sl mc ms (F0 m pc arr stw) (st.map (x_tv V)) (fun st9 o t => ∃ (r : Option Value) (S' : x_S), o = .returned (r.map (x_tv V)) ∧ Qy a S r S' ∧ x_R V S' t ∧ va_F (x_A V) st9 t) (x_A V))
    (kk : ∀ (r : Option Value) (S' : x_S), Qy a S r S' → ∀ (H : Heap) (locs : List Loc), x_H V S' H → va_S (x_A V) s.heap H locs → W p V.1 e R s m args below meth c H locs (ce + mc) (sl + ms) QW (F0 m (pc + 3) arr ((r.toList ++ st).map (x_tv V)))) :
    W p V.1 e R s m args below meth c H locs ce sl QW (F0 m pc arr stw) := by
  intro T hT X
  obtain ⟨v, st9, t, T2, L, h0, X2, hL, e1, e2, ⟨r, S2, hv, hq, hR, hF⟩, hst⟩ := hr T hT X
  cases hv
  have hz : H.size ≤ T2.heap.size := by rw [e1, ← h0]; exact hF.1
  have hS2 : va_S (x_A V) s.heap T2.heap (locs ++ L) := by
    refine ⟨Nat.le_trans hS.1 hz, fun q h1 h2 => ?_, fun q hq9 => ?_⟩
    · rw [e1, hF.2 q (by rw [h0]; exact Nat.lt_of_lt_of_le h1 hS.1) h2, h0]
      exact hS.2.1 q h1 h2
    · rcases List.mem_append.mp hq9 with h | h
      · exact hS.2.2 q h
      · exact hL q h
  obtain ⟨t2, a1, b1⟩ := kk r S2 hq T2.heap (locs ++ L) (by rw [e1]; exact hR.1) hS2 T2 rfl X2
  refine ⟨t2, hst t2 ?_, b1⟩
  have e9 : (r.map (x_tv V)).toList ++ st.map (x_tv V) = (r.toList ++ st).map (x_tv V) := by cases r <;> rfl
  rw [e9]
  exact a1
theorem x_pre {s : State} {H : Heap} {locs : List Loc} {a : List Value} (hG : x_G V s s.heap) (h0 : V.2.2.2.2.2.1 ≤ s.heap.size) (hH : x_H V S H) (hS : va_S (x_A V) s.heap H locs) : PreS s H (fun av U => av = (a.map (x_tv V)).toArray ∧ x_R V S U) (a.map (x_tv V)) :=
  ⟨x_blind, fun _ hU hW => ⟨rfl, x_gain hG h0 hH hS hU hW⟩⟩
theorem x_callB {R : Room} {s : State} {args : Array Value} {n : Nat} (hts : ∀ w ∈ gT, w.before args s = true) (hY : x_Y y cc2 nL2 ret2 n) (hl : Cond.methodLink own i y ∈ gT) (hdf : d ≤ R.frames) (hdl : 64 * d ≤ R.locals) (hdd : d2 + 1 ≤ d) :
    CallB R s args own i y cc2 nL2 ret2 (x_W y cc2 nL2 ret2) { frames := d2, cells := mc, slots := ms, locals := 64 * d2 } mc ms n :=
  callB_of n hts (x_goodW hY.1) rfl rfl rfl (hts _ hY.2.1) (hts _ hl) hY.2.2.1 ⟨by show d2 + 1 ≤ _; omega, by show 8 + (nL2 + 11) + 64 * d2 ≤ _; have := hY.2.2.2; omega⟩
/-- a static method -/
theorem r_invs (hE : x_X V own cc nL ret d MC MS nm Q E) (a : List Value) (hC : x_Ct V y cc2 nL2 ret2 d2 mc ms P Qy) (hY : x_YS y cc2 nL2 ret2 a.length) (hl : Cond.methodLink own i y ∈ gT) (hd : decode cc pc = .ok (.invokestatic i, 3)) (hst : st0 = a.reverse ++ st) (hdd : d2 + 1 ≤ d) (hcap : ce + mc ≤ MC ∧ sl + ms ≤ MS) (hW : (st.map fun v => v.category).sum ≤ 8) (hp : P a S)
    (kk : ∀ (r : Option Value) (S' : x_S), Qy a S r S' → E (ce + mc) (sl + ms) (pc + 3) ls (r.toList ++ st) S') : E ce sl pc ls st0 S := by
  subst hst
  obtain ⟨p, e, R, s, m, args, below, meth, c, QW, ⟨hx, hb, hml, hnm, hown, hts, hG, h0, hdf, hdl, hMC, hMS⟩, rfl, hret⟩ := hE
  intro H locs arr hH hS hla
  have cw := x_callB (mc := mc) (ms := ms) (d2 := d2) hts hY.1 hl hdf hdl hdd
  refine x_back hG hS (va_runS (As := a.map (x_tv V)) ⟨hx, hb, hml, hown, hts⟩ (hC a S hp) ⟨cw, hts _ hY.2⟩ (x_pre hG h0 hH hS) rfl (List.length_map _) hla.1 (by show (a.reverse ++ st).map (x_tv V) = _; rw [List.map_append, List.map_reverse]) (lv_room (by rw [x_sumcat]; exact hW)) hd ⟨Nat.le_trans hcap.1 hMC, Nat.le_trans hcap.2 hMS⟩) (fun r S2 hq H1 locs1 hH1 hS1 => kk r S2 hq H1 locs1 arr hH1 hS1 hla)
/-- a method of an object whose class is its own -/
theorem r_invv (hE : x_X V own cc nL ret d MC MS nm Q E) {h ci : Nat} {fs : List Value} {T : u_T} {N : Nat} (a : List Value) (hC : x_Ct V y cc2 nL2 ret2 d2 mc ms P Qy) (hY : x_YV y cc2 nL2 ret2 a.length) (hl : Cond.methodLink own i y ∈ gT) (hd : decode cc pc = .ok (.invokevirtual i, 3)) (hst : st0 = a.reverse ++ .ref h :: st) (hm : h ∈ S.2.1) (hc : S.2.2 h = .inr (ci, fs)) (hcl : vwCl[ci]? = some (y.cls, T, N)) (hdd : d2 + 1 ≤ d) (hcap : ce + mc ≤ MC ∧ sl + ms ≤ MS) (hW : (st.map fun v => v.category).sum ≤ 8) (hp : P (.ref h :: a) S)
    (kk : ∀ (r : Option Value) (S' : x_S), Qy (.ref h :: a) S r S' → E (ce + mc) (sl + ms) (pc + 3) ls (r.toList ++ st) S') : E ce sl pc ls st0 S := by
  subst hst
  obtain ⟨p, e, R, s, m, args, below, meth, c, QW, ⟨hx, hb, hml, hnm, hown, hts, hG, h0, hdf, hdl, hMC, hMS⟩, rfl, hret⟩ := hE
  intro H locs arr hH hS hla
  have cw := x_callB (mc := mc) (ms := ms) (d2 := d2) hts hY.1 hl hdf hdl hdd
  obtain ⟨k0, -, hk0⟩ := x_in (V := V) hm
  rw [hc] at hk0
  have hrc := va_recv hG.2.1 hH.2.2.1 hcl hk0
  have hpp := x_pre (a := .ref h :: a) hG h0 hH hS
  refine x_back hG hS (va_runV (As := a.map (x_tv V)) ⟨hx, hb, hml, hown, hts⟩ (hC (.ref h :: a) S hp) ⟨cw, hts _ hY.2.1, hts _ hY.2.2⟩ ⟨hpp.1, hrc, hpp.2⟩ rfl (List.length_map _) hla.1 (by show (a.reverse ++ .ref h :: st).map (x_tv V) = _; rw [List.map_append, List.map_reverse]; rfl) (lv_room (by rw [x_sumcat]; exact hW)) hd ⟨Nat.le_trans hcap.1 hMC, Nat.le_trans hcap.2 hMS⟩) (fun r S2 hq H1 locs1 hH1 hS1 => kk r S2 hq H1 locs1 arr hH1 hS1 hla)
/-- a constructor -/
theorem r_invi (hE : x_X V own cc nL ret d MC MS nm Q E) {h : Nat} (a : List Value) (hC : x_Ct V y cc2 nL2 none d2 mc ms P Qy) (hY : x_YI y cc2 nL2 a.length) (hl : Cond.methodLink own i y ∈ gT) (hd : decode cc pc = .ok (.invokespecial i, 3)) (hst : st0 = a.reverse ++ .ref h :: st) (hdd : d2 + 1 ≤ d) (hcap : ce + mc ≤ MC ∧ sl + ms ≤ MS) (hW : (st.map fun v => v.category).sum ≤ 8) (hp : P (.ref h :: a) S)
    (kk : ∀ (r : Option Value) (S' : x_S), Qy (.ref h :: a) S r S' → E (ce + mc) (sl + ms) (pc + 3) ls (r.toList ++ st) S') : E ce sl pc ls st0 S := by
  subst hst
  obtain ⟨p, e, R, s, m, args, below, meth, c, QW, ⟨hx, hb, hml, hnm, hown, hts, hG, h0, hdf, hdl, hMC, hMS⟩, rfl, hret⟩ := hE
  intro H locs arr hH hS hla
  have cw := x_callB (mc := mc) (ms := ms) (d2 := d2) hts hY.1 hl hdf hdl hdd
  refine x_back hG hS (va_runI (As := a.map (x_tv V)) ⟨hx, hb, hml, hown, hts⟩ (hC (.ref h :: a) S hp) ⟨cw, hY.2.2, hts _ hY.2.1⟩ (x_pre (a := .ref h :: a) hG h0 hH hS) rfl (List.length_map _) hla.1 (by show (a.reverse ++ .ref h :: st).map (x_tv V) = _; rw [List.map_append, List.map_reverse]; rfl) (lv_room (by rw [x_sumcat]; exact hW)) hd ⟨Nat.le_trans hcap.1 hMC, Nat.le_trans hcap.2 hMS⟩) (fun r S2 hq H1 locs1 hH1 hS1 => kk r S2 hq H1 locs1 arr hH1 hS1 hla)
/-- a nest mate's static method -/
theorem r_invsN (hE : x_X V own cc nL ret d MC MS nm Q E) {host : String} (a : List Value) (hC : x_Ct V y cc2 nL2 ret2 d2 mc ms P Qy) (hY : x_YS y cc2 nL2 ret2 a.length) (hl : ∀ (U : State) (H : Heap), V.2.2.2.2.2.2 U H → va_Nw (.methodLinkNest own i y host) U) (hd : decode cc pc = .ok (.invokestatic i, 3)) (hst : st0 = a.reverse ++ st) (hdd : d2 + 1 ≤ d) (hcap : ce + mc ≤ MC ∧ sl + ms ≤ MS) (hW : (st.map fun v => v.category).sum ≤ 8) (hp : P a S)
    (kk : ∀ (r : Option Value) (S' : x_S), Qy a S r S' → E (ce + mc) (sl + ms) (pc + 3) ls (r.toList ++ st) S') : E ce sl pc ls st0 S := by
  subst hst
  obtain ⟨p, e, R, s, m, args, below, meth, c, QW, ⟨hx, hb, hml, hnm, hown, hts, hG, h0, hdf, hdl, hMC, hMS⟩, rfl, hret⟩ := hE
  intro H locs arr hH hS hla
  have cw := va_cnB (R := R) (args := args) (own := own) (index := i) (mc := mc) (ms := ms) (rm := { frames := d2, cells := mc, slots := ms, locals := 64 * d2 }) a.length hts (x_goodW hY.1.1) rfl rfl rfl (hl s s.heap hG.2.2) (hts _ hY.1.2.1) hY.1.2.2.1 ⟨by show d2 + 1 ≤ _; omega, by show 8 + (nL2 + 11) + 64 * d2 ≤ _; have := hY.1.2.2.2; omega⟩
  refine x_back hG hS (va_runSN (As := a.map (x_tv V)) ⟨hx, hb, hml, hown, hts⟩ (hC a S hp) ⟨cw, hts _ hY.2, trivial⟩ (x_pre hG h0 hH hS) rfl (List.length_map _) hla.1 (by show (a.reverse ++ st).map (x_tv V) = _; rw [List.map_append, List.map_reverse]) (lv_room (by rw [x_sumcat]; exact hW)) hd ⟨Nat.le_trans hcap.1 hMC, Nat.le_trans hcap.2 hMS⟩) (fun r S2 hq H1 locs1 hH1 hS1 => kk r S2 hq H1 locs1 arr hH1 hS1 hla)
/-- a nest mate's constructor -/
theorem r_inviN (hE : x_X V own cc nL ret d MC MS nm Q E) {host : String} {h : Nat} (a : List Value) (hC : x_Ct V y cc2 nL2 none d2 mc ms P Qy) (hY : x_YI y cc2 nL2 a.length) (hl : ∀ (U : State) (H : Heap), V.2.2.2.2.2.2 U H → va_Nw (.methodLinkNest own i y host) U) (hd : decode cc pc = .ok (.invokespecial i, 3)) (hst : st0 = a.reverse ++ .ref h :: st) (hdd : d2 + 1 ≤ d) (hcap : ce + mc ≤ MC ∧ sl + ms ≤ MS) (hW : (st.map fun v => v.category).sum ≤ 8) (hp : P (.ref h :: a) S)
    (kk : ∀ (r : Option Value) (S' : x_S), Qy (.ref h :: a) S r S' → E (ce + mc) (sl + ms) (pc + 3) ls (r.toList ++ st) S') : E ce sl pc ls st0 S := by
  subst hst
  obtain ⟨p, e, R, s, m, args, below, meth, c, QW, ⟨hx, hb, hml, hnm, hown, hts, hG, h0, hdf, hdl, hMC, hMS⟩, rfl, hret⟩ := hE
  intro H locs arr hH hS hla
  have cw := va_cnB (R := R) (args := args) (own := own) (index := i) (mc := mc) (ms := ms) (rm := { frames := d2, cells := mc, slots := ms, locals := 64 * d2 }) a.length hts (x_goodW hY.1.1) rfl rfl rfl (hl s s.heap hG.2.2) (hts _ hY.1.2.1) hY.1.2.2.1 ⟨by show d2 + 1 ≤ _; omega, by show 8 + (nL2 + 11) + 64 * d2 ≤ _; have := hY.1.2.2.2; omega⟩
  refine x_back hG hS (va_runIN (As := a.map (x_tv V)) ⟨hx, hb, hml, hown, hts⟩ (hC (.ref h :: a) S hp) ⟨cw, hY.2.2, hts _ hY.2.1⟩ (x_pre (a := .ref h :: a) hG h0 hH hS) rfl (List.length_map _) hla.1 (by show (a.reverse ++ .ref h :: st).map (x_tv V) = _; rw [List.map_append, List.map_reverse]; rfl) (lv_room (by rw [x_sumcat]; exact hW)) hd ⟨Nat.le_trans hcap.1 hMC, Nat.le_trans hcap.2 hMS⟩) (fun r S2 hq H1 locs1 hH1 hS1 => kk r S2 hq H1 locs1 arr hH1 hS1 hla)
end R7
end
section
/-- a new cell -/
def x_push (S : x_S) (e : x_C) : x_S := (S.1 + 1, S.2.1 ++ [S.1], fun j => if j = S.1 then e else S.2.2 j)
theorem x_ws_push {V : x_E} {S : x_S} {e : x_C} (hl : ∀ h ∈ S.2.1, 64 ≤ h ∧ h < S.1) : x_ws V (x_push S e) = x_ws V S ++ [(x_sg V S.1, x_tc V e)] := by
  unfold x_ws x_push
  dsimp only
  rw [List.map_append]
  congr 1
  · apply List.map_congr_left
    intro h hh
    rw [if_neg (by have := (hl h hh).2; omega)]
  · simp
theorem x_H_push {V : x_E} {S : x_S} {e : x_C} {H H1 : Heap} (hH : x_H V S H) (hz : H1.size = H.size + 1) (ho : ∀ q, q < H.size → H1[q]? = H[q]?) (he : va_at (x_D V) vwCl (H.size, x_tc V e) H1) : x_H V (x_push S e) H1 := by
  obtain ⟨h1, h2, h3, h4, h5⟩ := hH
  have hsg : x_sg V S.1 = H.size := by rw [x_sg_own h2, h1]
  refine ⟨by rw [hz, h1]; show _ = _ + (S.1 + 1 - 64); omega, by show 64 ≤ S.1 + 1; omega, ?_, ?_, fun h hh => ?_⟩
  · rw [x_ws_push h5, hsg]
    refine (h3.kept (fun k x hx => ho x.1 ((h3 k x hx).lt))).app (fun k x hx => ?_)
    have hk : k < 1 := (List.getElem?_eq_some_iff.mp hx).1
    rw [show k = 0 by omega] at hx
    cases hx
    exact he
  · show (S.2.1 ++ [S.1]).Nodup
    rw [List.nodup_append]
    refine ⟨h4, by simp, fun a ha b hb => ?_⟩
    rw [List.mem_singleton.mp hb]
    have := (h5 a ha).2
    omega
  · rcases List.mem_append.mp hh with h | h
    · have := h5 _ h
      exact ⟨this.1, by show _ < S.1 + 1; omega⟩
    · rw [List.mem_singleton.mp h]
      exact ⟨h2, by show _ < S.1 + 1; omega⟩
theorem x_S_push {V : x_E} {S : x_S} {H0 H H1 : Heap} {locs : List Loc} (hS : va_S (x_A V) H0 H locs) (hz : H1.size = H.size + 1) (ho : ∀ q, q < H.size → H1[q]? = H[q]?) : va_S (x_A V) H0 H1 locs :=
  ⟨Nat.le_trans hS.1 (by omega), fun q h1 h2 => (ho q (Nat.lt_of_lt_of_le h1 hS.1)).trans (hS.2.1 q h1 h2), hS.2.2⟩
section R8
variable {V : x_E} {own nm : String} {cc : ByteArray} {nL d MC MS pc ce sl : Nat} {ret : Option FieldType} {Q : Option Value → x_S → Prop} {E : x_P} {ls : List (Nat × Value)} {st : List Value} {S : x_S}
theorem r_new (hE : x_X V own cc nL ret d MC MS nm Q E) {i ci N : Nat} {C : String} {T : u_T} {ty : Nat → FieldType} {fs : List Value} (hK : x_K ci C T N ty) (hcl : Cond.classLink own i C ∈ gT) (hins : Cond.instantiable C N ∈ gT) (hini : Cond.initialized C ∈ gT) (hfs : ∀ j, j < N → defaultValue (ty j) = vp_V fs j) (hfs2 : fs.map (x_tv V) = fs) (hd : decode cc pc = .ok (.new i, 3)) (hcap : ce + 1 ≤ MC ∧ sl + N ≤ MS)
    (kk : E (ce + 1) (sl + N) (pc + 3) ls (.ref S.1 :: st) (x_push S (.inr (ci, fs)))) : E ce sl pc ls st S := by
  obtain ⟨p, e, R, s, m, args, below, meth, c, QW, ⟨hx, hb, hml, hnm, hown, hts, hG, h0, hdf, hdl, hMC, hMS⟩, rfl, hret⟩ := hE
  intro H locs arr hH hS hl
  obtain ⟨hc, hin, hty, -⟩ := hK
  have hKn := hG.2.1.1 ci _ hc
  refine W.newcK hx hb hown (hts _ hcl) (hts _ hins) (hts _ hini) rfl hd (Nat.le_trans hcap.1 hMC) (Nat.le_trans hcap.2 hMS) hKn.2.1 rfl fun H1 kC hkC e1 z1 o1 => ?_
  have hsg : x_sg V S.1 = H.size := by rw [x_sg_own hH.2.1, hH.1]
  have h1 := kk H1 locs arr (x_H_push hH z1 o1 ⟨_, hc, by
    show t_OB _ _ _ _ _ (vp_V (fs.map (x_tv V)))
    rw [hfs2]
    exact (u_born ty hts hin hKn hkC e1 hty).to hfs⟩) (x_S_push (S := S) hS z1 o1) hl
  rw [List.map_cons] at h1
  have e9 : x_tv V (.ref S.1) = .ref H.size := by show Value.ref (x_sg V S.1) = _; rw [hsg]
  rw [e9] at h1
  exact h1
/-- the row's number, its first contents -/
def x_at0 (t : Nat) : (Nat → Int32) ⊕ (Nat → Int64) ⊕ (Nat → UInt32) ⊕ (Nat → UInt64) ⊕ (Nat → Option Nat) := if t = 3 then .inr (.inl (fun _ => 0)) else .inl (fun _ => 0)
theorem r_newa (hE : x_X V own cc nL ret d MC MS nm Q E) {at0 : ArrayType} {t N : Nat} {n : Int32} (ht : t < 4) (hty : x_tys[t]? = some (newarray.typeOf at0)) (hw : Cond.arrayClass (newarray.typeOf at0) ∈ gT) (hd : decode cc pc = .ok (.newarray at0, 2)) (hn : ¬ n < 0) (hN : n.toNatClampNeg = N) (hby : N * 8 ≤ 536870912) (hcap : ce + 1 ≤ MC ∧ sl + N ≤ MS)
    (kk : E (ce + 1) (sl + N) (pc + 2) ls (.ref S.1 :: st) (x_push S (.inl (t, N, x_at0 t)))) : E ce sl pc ls (.int n :: st) S := by
  obtain ⟨p, e, R, s, m, args, below, meth, c, QW, ⟨hx, hb, hml, hnm, hown, hts, hG, h0, hdf, hdl, hMC, hMS⟩, rfl, hret⟩ := hE
  intro H locs arr hH hS hl
  have hb8 : N * componentBytes (newarray.typeOf at0) ≤ 536870912 := by
    refine Nat.le_trans (Nat.mul_le_mul_left N ?_) hby
    cases at0 <;> decide
  refine va_newaK hx hb (hts _ hw) rfl hd rfl hn hN hb8 (Nat.le_trans hcap.1 hMC) (Nat.le_trans hcap.2 hMS) rfl fun H1 cA e1 z1 o1 hAr hNm => ?_
  have hsg : x_sg V S.1 = H.size := by rw [x_sg_own hH.2.1, hH.1]
  have key : va_at (x_D V) vwCl (H.size, x_tc V (.inl (t, N, x_at0 t))) H1 := by
    show H1[H.size]? = some (vp_cell _ _)
    rw [e1]
    have hK2 := hG.2.1.2
    rcases (show t = 0 ∨ t = 1 ∨ t = 2 ∨ t = 3 by omega) with rfl | rfl | rfl | rfl
    · have e2 : newarray.typeOf at0 = .int := (Option.some.inj hty).symm
      rw [e2] at hNm ⊢
      have h2 : s.vm.findClass ("[" ++ FieldType.int.toString) = some (V.2.2.2.1 0) := (hK2 0 _ rfl).2
      rw [Option.some.inj (hNm.symm.trans h2)]
      rfl
    · have e2 : newarray.typeOf at0 = .byte := (Option.some.inj hty).symm
      rw [e2] at hNm ⊢
      have h2 : s.vm.findClass ("[" ++ FieldType.byte.toString) = some (V.2.2.2.1 1) := (hK2 1 _ rfl).2
      rw [Option.some.inj (hNm.symm.trans h2)]
      rfl
    · have e2 : newarray.typeOf at0 = .boolean := (Option.some.inj hty).symm
      rw [e2] at hNm ⊢
      have h2 : s.vm.findClass ("[" ++ FieldType.boolean.toString) = some (V.2.2.2.1 2) := (hK2 2 _ rfl).2
      rw [Option.some.inj (hNm.symm.trans h2)]
      rfl
    · have e2 : newarray.typeOf at0 = .long := (Option.some.inj hty).symm
      rw [e2] at hNm ⊢
      have h2 : s.vm.findClass ("[" ++ FieldType.long.toString) = some (V.2.2.2.1 3) := (hK2 3 _ rfl).2
      rw [Option.some.inj (hNm.symm.trans h2)]
      rfl
  have h1 := kk H1 locs arr (x_H_push hH z1 o1 key) (x_S_push (S := S) hS z1 o1) hl
  rw [List.map_cons] at h1
  have e9 : x_tv V (.ref S.1) = .ref H.size := by show Value.ref (x_sg V S.1) = _; rw [hsg]
  rw [e9] at h1
  exact h1
theorem r_anew (hE : x_X V own cc nL ret d MC MS nm Q E) {i t N : Nat} {C : String} {n : Int32} (ht : t = 4 ∨ t = 5) (hty : x_tys[t]? = some (.object C)) (hcl : Cond.classLink own i C ∈ gT) (hov : ∀ (U : State) (H : Heap), V.2.2.2.2.2.2 U H → va_AO C U) (hd : decode cc pc = .ok (.anewarray i, 3)) (hn : ¬ n < 0) (hN : n.toNatClampNeg = N) (hby : N * 4 ≤ 536870912) (hcap : ce + 1 ≤ MC ∧ sl + N ≤ MS)
    (kk : E (ce + 1) (sl + N) (pc + 3) ls (.ref S.1 :: st) (x_push S (.inl (t, N, .inr (.inr (.inr (.inr (fun _ => none)))))))) : E ce sl pc ls (.int n :: st) S := by
  obtain ⟨p, e, R, s, m, args, below, meth, c, QW, ⟨hx, hb, hml, hnm, hown, hts, hG, h0, hdf, hdl, hMC, hMS⟩, rfl, hret⟩ := hE
  intro H locs arr hH hS hl
  subst hN
  refine W.anew hx hb hown (hts _ hcl) (va_AO.use (hov s s.heap hG.2.2)) rfl hd rfl hn hby (Nat.le_trans hcap.1 hMC) (Nat.le_trans hcap.2 hMS) fun cA kA comp f1 f2 f3 f4 => ?_
  generalize hH1 : H.push ({ cls := cA, slots := Array.replicate n.toNatClampNeg .null, vm := .none } : Cell) = H1
  have z1 : H1.size = H.size + 1 := by rw [← hH1, Array.size_push]
  have e1 : H1[H.size]? = some (arrV cA n.toNatClampNeg (fun _ => .null)) := by rw [← hH1, Array.getElem?_push_size, ← arrV_new]
  have o1 : ∀ q : Nat, q < H.size → H1[q]? = H[q]? := fun q hq => by rw [← hH1, Array.getElem?_push, if_neg (Nat.ne_of_lt hq)]
  have hsg : x_sg V S.1 = H.size := by rw [x_sg_own hH.2.1, hH.1]
  have hcA : cA = V.2.2.2.1 t := by
    have hK2 := hG.2.1.2
    rcases ht with rfl | rfl
    · obtain ⟨_, _, -, -, -, h2⟩ := (hK2 4 _ rfl).2
      have hC : C = "DarkSitting$Rule" := by injection (Option.some.inj hty).symm
      subst hC
      exact Option.some.inj (f1.symm.trans h2)
    · obtain ⟨_, _, -, -, -, h2⟩ := (hK2 5 _ rfl).2
      have hC : C = "DarkSitting$Way" := by injection (Option.some.inj hty).symm
      subst hC
      exact Option.some.inj (f1.symm.trans h2)
  subst hcA
  have h1 := kk H1 locs arr (x_H_push hH z1 o1 (by
    show H1[H.size]? = some (vp_cell _ _)
    rw [e1]
    rfl)) (x_S_push (S := S) hS z1 o1) hl
  rw [List.map_cons] at h1
  have e9 : x_tv V (.ref S.1) = .ref H.size := by show Value.ref (x_sg V S.1) = _; rw [hsg]
  rw [e9] at h1
  exact h1
/-- Object's own constructor -/
theorem r_obj (hE : x_X V own cc nL ret d MC MS nm Q E) {i h : Nat} (hl0 : Cond.methodLink own i Lib.objectInit ∈ gT) (hin : Cond.instanceMethod Lib.objectInit ∈ gT) (hco : Cond.code Lib.objectInit ⟨#[0xb1]⟩ 1 none ∈ gT) (hd : decode cc pc = .ok (.invokespecial i, 3)) (hd1 : 1 ≤ d) (hW : (st.map fun v => v.category).sum ≤ 8) (kk : E ce sl (pc + 3) ls st S) : E ce sl pc ls (.ref h :: st) S := by
  obtain ⟨p, e, R, s, m, args, below, meth, c, QW, ⟨hx, hb, hml, hnm, hown, hts, hG, h0, hdf, hdl, hMC, hMS⟩, rfl, hret⟩ := hE
  intro H locs arr hH hS hl
  refine W.objInit hx hb hown (hts _ hl0) (hts _ hin) (hts _ hco) rfl (by rw [hml]; exact hl.1) rfl hd (by omega) ?_ ?_
  · have h1 := lv_room (m := m) (pc := pc) (ls := arr) (rest := (Value.ref h :: st).map (x_tv V)) (st := st.map (x_tv V)) (by rw [x_sumcat]; exact hW)
    have h2 : 64 * 1 ≤ 64 * d := Nat.mul_le_mul_left 64 hd1
    have h3 := Nat.le_trans h2 hdl
    have h4 : 2 * (F0 m pc arr ((Value.ref h :: st).map (x_tv V))).monitorRoom + ((st.map (x_tv V)).map fun v => v.category).sum ≤ 8 := h1
    exact Nat.le_trans (Nat.add_le_add_right h4 12) (by omega)
  · exact W.eq (g2 := F0 m (pc + 3) arr (st.map (x_tv V))) rfl (kk H locs arr hH hS hl)
/-- a final field, in its constructor -/
theorem r_putF (hE : x_X V own cc nL ret d MC MS "<init>" Q E) {i ci k h : Nat} {t : FieldType} {fs : List Value} {v : Value} (hF : x_F own i ci k t true true) (hd : decode cc pc = .ok (.putfield i, 3)) (hm : h ∈ S.2.1) (hc : S.2.2 h = .inr (ci, fs)) (hn : narrow t v = v) (hf : fits t v = true) (hk2 : k < fs.length) (kk : E ce sl (pc + 3) ls st (x_put S h (.inr (ci, fs.set k v)))) : E ce sl pc ls (v :: .ref h :: st) S := by
  obtain ⟨p, e, R, s, m, args, below, meth, c, QW, ⟨hx, hb, hml, hnm, hown, hts, hG, h0, hdf, hdl, hMC, hMS⟩, rfl, hret⟩ := hE
  intro H locs arr hH hS hl
  obtain ⟨C, T, N, ty, ⟨hcl, hin, hty, hap0⟩, hk, hlk, ht, hfin, hdecl⟩ := hF
  obtain ⟨k0, hk1, hk0⟩ := x_in (V := V) hm
  rw [hc] at hk0
  have hn2 : narrow t (x_tv V v) = x_tv V v := by cases v <;> first | exact hn | (cases t <;> rfl)
  have hf2 : fits t (x_tv V v) = true := by cases v <;> first | exact hf | (cases t <;> simp_all [fits, x_tv])
  have hK := hG.2.1
  have hP := hH.2.2.1
  have hap := va_apart (own := own) hts hin ty hty hap0 hK hcl
  obtain ⟨r, h1, cell, q1, q2, q3, q4⟩ := hP k0 _ hk0
  have hr : r = (C, T, N) := Option.some.inj (h1.symm.trans hcl)
  subst hr
  obtain ⟨hSl, hfc, kC, hkC, hkind⟩ := hK.1 ci _ hcl
  obtain ⟨cf, kf, fi, f, hi, hsl⟩ := hSl k hk
  have hlay := hts _ (hin _ (u_in_lay hk))
  unfold u_lay at hlay
  rw [if_pos hfin] at hlay
  have hst := (u_facts hfc hkC (u_lays hts hin hk) hi).1
  have hcf : m.cls = cf := by
    obtain ⟨_, _, c', _, _, _, -, -, hf', -, -, -, hown2, -⟩ := Cond.laysFinal_spec hlay
    have e1 : c' = cf := by have := hi.symm.trans hf'; simp at this; exact this.1.symm
    rw [hdecl rfl] at hown2
    rw [← e1]; exact Option.some.inj (hown.symm.trans hown2)
  have h6 := u_fits hfc hkC hkind (Or.inr hlay) hi (by rw [hty k hk, ht]) hn2 hf2
  refine W.putFinK hx hb hown (hts _ hlk) hi hst hcf hnm (by rw [q2]; exact h6) q1 q3 (by rw [hsl]; exact k2_hasslot (q4 k hk)) rfl rfl hd fun H' e1 e2 e3 => ?_
  rw [hsl] at e1 ⊢
  have hlen : k < (fs.map (x_tv V)).length := by rw [List.length_map]; exact hk2
  have hP1 := hP.set (x_DD hH) hk0 (e := .inr (ci, (fs.map (x_tv V)).set k (x_tv V v))) ⟨_, hcl, t_OB.to (V := updV (vp_V (fs.map (x_tv V))) k (x_tv V v)) ⟨_, e1, q2, q3, t_set q4 hap hk _⟩ (fun j _ => vp_updV_set hlen _ j)⟩ e3
  refine kk H' _ arr (x_H_put (e := .inr (ci, fs.set k v)) hH hk1 ?_ e2) (hS.put e2 e3 ((x_DD hH).2 k0 _ hk0)) hl
  show va_P (x_D V) vwCl ((x_ws V S).set k0 (x_sg V h, .inr (ci, (fs.set k v).map (x_tv V)))) H'
  rw [List.map_set]
  exact hP1
/-- a RULE or a WAY into its row -/
theorem r_aast (hE : x_X V own cc nL ret d MC MS nm Q E) {h n t v ci : Nat} {vs : List Value} {f : Nat → Option Nat} {i : Int32} (ht : (t = 4 ∧ ci = 4) ∨ (t = 5 ∧ ci = 8)) (hd : decode cc pc = .ok (.aastore, 1)) (hm : h ∈ S.2.1) (hc : S.2.2 h = .inl (t, n, .inr (.inr (.inr (.inr f))))) (hm2 : v ∈ S.2.1) (hc2 : S.2.2 v = .inr (ci, vs)) (hin : vp_in i n)
    (kk : E ce sl (pc + 1) ls st (x_put S h (.inl (t, n, .inr (.inr (.inr (.inr (va_up f i.toNatClampNeg (some v))))))))) : E ce sl pc ls (.ref v :: .int i :: .ref h :: st) S := by
  obtain ⟨p, e, R, s, m, args, below, meth, c, QW, ⟨hx, hb, hml, hnm, hown, hts, hG, h0, hdf, hdl, hMC, hMS⟩, rfl, hret⟩ := hE
  intro H locs arr hH hS hl
  obtain ⟨k0, hk1, hk0⟩ := x_inA (V := V) (n := 0) hm hc
  obtain ⟨k2, -, hk2⟩ := x_in (V := V) hm2
  rw [hc2] at hk2
  have hP := hH.2.2.1
  have hK := hG.2.1
  have hlt : i.toNatClampNeg < n := Nat.not_le.mp fun q => hin (Or.inr q)
  have h0i : ¬ i < 0 := fun q => hin (Or.inl q)
  obtain ⟨r', hr', cellV, g1, g2, g3, -⟩ := hP k2 _ hk2
  obtain ⟨r, hr, hta⟩ : ∃ r : vw_C, vwCl[ci]? = some r ∧ (x_ty V)[t]? = some (V.2.2.2.1 t, .object r.1) := by
    rcases ht with ⟨rfl, rfl⟩ | ⟨rfl, rfl⟩
    · exact ⟨_, rfl, rfl⟩
    · exact ⟨_, rfl, rfl⟩
  have hcls := (hK.1 ci r hr).2
  obtain ⟨kA, comp, k1, k2', k3, -⟩ := (hK.2 t _ hta).2
  have hcomp : comp = V.2.1 ci := Option.some.inj (k3.symm.trans hcls.1)
  subst hcomp
  obtain ⟨kC, hkC, -⟩ := hcls.2
  refine W.aast hx hb (hP k0 _ hk0) (fun q h => by cases h) (fun h => by cases h) k1 k2' rfl hkC ⟨h0i, by show _ < (arrV _ _ _).slots.size; rw [arrV_size]; exact hlt⟩ g1 (fun q h => by rw [g3] at h; cases h) (by rw [g2]; exact hkC) (by rw [g2]; exact va_assign hcls) rfl rfl hd fun H1 e1 z oq => ?_
  refine kk H1 _ arr (x_H_put (e := .inl (t, n, .inr (.inr (.inr (.inr (va_up f i.toNatClampNeg (some v))))))) hH hk1 (hP.set (x_DD hH) hk0 ?_ oq) z) (hS.put z oq ((x_DD hH).2 k0 _ hk0)) hl
  show H1[x_sg V h]? = some (vp_cell _ _)
  rw [e1]
  show some (Cell.setSlot (vp_cell _ (n, .inr (.inr (.inr (.inr _))))) _ _) = some (vp_cell _ (n, .inr (.inr (.inr (.inr _)))))
  rw [vp_cell_q, vp_cell_q, arrV_store]
  congr 2
  funext q
  by_cases hq : q = i.toNatClampNeg
  · subst hq
    simp [updV, va_up, va_rf]
  · simp [updV, va_up, hq]
end R8
end
section
theorem tb_1 : ∀ w ∈ tables_1_1, w ∈ tables_1 := fun w h => List.mem_append_left _ h
theorem tb_2 : ∀ w ∈ tables_1_2, w ∈ tables_1 := fun w h => List.mem_append_right _ (List.mem_append_left _ h)
theorem tb_3 : ∀ w ∈ tables_1_3, w ∈ tables_1 := fun w h => List.mem_append_right _ (List.mem_append_right _ (List.mem_append_left _ h))
theorem tb_4 : ∀ w ∈ tables_1_4, w ∈ tables_1 := fun w h => List.mem_append_right _ (List.mem_append_right _ (List.mem_append_right _ (List.mem_append_left _ h)))
theorem tb_5 : ∀ w ∈ tables_1_5, w ∈ tables_1 := fun w h => List.mem_append_right _ (List.mem_append_right _ (List.mem_append_right _ (List.mem_append_right _ (List.mem_append_left _ h))))
theorem tb_6 : ∀ w ∈ tables_1_6, w ∈ tables_1 := fun w h => List.mem_append_right _ (List.mem_append_right _ (List.mem_append_right _ (List.mem_append_right _ (List.mem_append_right _ (List.mem_append_left _ h)))))
theorem tb_7 : ∀ w ∈ tables_1_7, w ∈ tables_1 := fun w h => List.mem_append_right _ (List.mem_append_right _ (List.mem_append_right _ (List.mem_append_right _ (List.mem_append_right _ (List.mem_append_right _ (List.mem_append_left _ h))))))
theorem tb_8 : ∀ w ∈ tables_1_8, w ∈ tables_1 := fun w h => List.mem_append_right _ (List.mem_append_right _ (List.mem_append_right _ (List.mem_append_right _ (List.mem_append_right _ (List.mem_append_right _ (List.mem_append_right _ (h)))))))
theorem kX0 : x_K 0 RX0 TX0 14 tyX0 := ⟨rfl, fun w h => x_gin ((by decide +kernel : ∀ w ∈ wsX00, w ∈ lw_tbl) w h) ((by decide +kernel : ∀ w ∈ wsX00, gB w = true) w h), tyX0_ok, nmX0⟩
theorem kX1 : x_K 1 RX1 TX1 7 tyX1 := ⟨rfl, fun w h => x_gin ((by decide +kernel : ∀ w ∈ wsX10, w ∈ lw_tbl) w h) ((by decide +kernel : ∀ w ∈ wsX10, gB w = true) w h), tyX1_ok, nmX1⟩
theorem kX2 : x_K 2 RX2 TX2 10 tyX2 := ⟨rfl, fun w h => x_gin ((by decide +kernel : ∀ w ∈ wsX20, w ∈ lw_tbl) w h) ((by decide +kernel : ∀ w ∈ wsX20, gB w = true) w h), tyX2_ok, nmX2⟩
theorem kX3 : x_K 3 RX3 TX3 3 tyX3 := ⟨rfl, fun w h => x_gin ((by decide +kernel : ∀ w ∈ wsX30, w ∈ lw_tbl) w h) ((by decide +kernel : ∀ w ∈ wsX30, gB w = true) w h), tyX3_ok, nmX3⟩
theorem kX4 : x_K 4 RX4 TX4 1 tyX4 := ⟨rfl, fun w h => x_gin ((by decide +kernel : ∀ w ∈ wsX40, w ∈ lw_tbl) w h) ((by decide +kernel : ∀ w ∈ wsX40, gB w = true) w h), tyX4_ok, nmX4⟩
theorem kX5 : x_K 5 RX5 TX5 4 tyX5 := ⟨rfl, fun w h => x_gin ((by decide +kernel : ∀ w ∈ wsX50, w ∈ lw_tbl) w h) ((by decide +kernel : ∀ w ∈ wsX50, gB w = true) w h), tyX5_ok, nmX5⟩
theorem kX6 : x_K 6 RX6 TX6 8 tyX6 := ⟨rfl, fun w h => x_gin ((by decide +kernel : ∀ w ∈ wsX60, w ∈ lw_tbl) w h) ((by decide +kernel : ∀ w ∈ wsX60, gB w = true) w h), tyX6_ok, nmX6⟩
theorem kX7 : x_K 7 RX7 TX7 3 tyX7 := ⟨rfl, fun w h => x_gin ((by decide +kernel : ∀ w ∈ wsX70, w ∈ lw_tbl) w h) ((by decide +kernel : ∀ w ∈ wsX70, gB w = true) w h), tyX7_ok, nmX7⟩
theorem kX9 : x_K 8 RX9 TX9 4 tyX9 := ⟨rfl, fun w h => x_gin ((by decide +kernel : ∀ w ∈ wsX90, w ∈ lw_tbl) w h) ((by decide +kernel : ∀ w ∈ wsX90, gB w = true) w h), tyX9_ok, nmX9⟩
theorem kX10 : x_K 9 RX10 TX10 11 tyX10 := ⟨rfl, fun w h => x_gin ((by decide +kernel : ∀ w ∈ wsX100, w ∈ lw_tbl) w h) ((by decide +kernel : ∀ w ∈ wsX100, gB w = true) w h), tyX10_ok, nmX10⟩
theorem kX11 : x_K 10 RX11 TX11 30 tyX11 := ⟨rfl, fun w h => x_gin ((by decide +kernel : ∀ w ∈ wsX110, w ∈ lw_tbl) w h) ((by decide +kernel : ∀ w ∈ wsX110, gB w = true) w h), tyX11_ok, nmX11⟩
set_option maxRecDepth 100000 in
theorem f_X5_9 : x_F RX5 9 5 0 (tyX5 0) true true := ⟨RX5, TX5, 4, tyX5, kX5, by decide, (x_gin (List.mem_append_right _ (tb_1 _ (List.mem_of_getElem? (i := 49) rfl))) rfl), rfl, rfl, fun _ => rfl⟩
set_option maxRecDepth 100000 in
theorem f_X2_90 : x_F RX2 90 5 0 (tyX5 0) true false := ⟨RX5, TX5, 4, tyX5, kX5, by decide, (x_gin (List.mem_append_right _ (tb_1 _ (List.mem_of_getElem? (i := 50) rfl))) rfl), rfl, rfl, fun h => by cases h⟩
set_option maxRecDepth 100000 in
theorem f_X5_15 : x_F RX5 15 5 1 (tyX5 1) true true := ⟨RX5, TX5, 4, tyX5, kX5, by decide, (x_gin (List.mem_append_right _ (tb_1 _ (List.mem_of_getElem? (i := 51) rfl))) rfl), rfl, rfl, fun _ => rfl⟩
set_option maxRecDepth 100000 in
theorem f_X2_93 : x_F RX2 93 5 1 (tyX5 1) true false := ⟨RX5, TX5, 4, tyX5, kX5, by decide, (x_gin (List.mem_append_right _ (tb_1 _ (List.mem_of_getElem? (i := 52) rfl))) rfl), rfl, rfl, fun h => by cases h⟩
set_option maxRecDepth 100000 in
theorem f_X5_18 : x_F RX5 18 5 2 (tyX5 2) true true := ⟨RX5, TX5, 4, tyX5, kX5, by decide, (x_gin (List.mem_append_right _ (tb_1 _ (List.mem_of_getElem? (i := 53) rfl))) rfl), rfl, rfl, fun _ => rfl⟩
set_option maxRecDepth 100000 in
theorem f_X2_96 : x_F RX2 96 5 2 (tyX5 2) true false := ⟨RX5, TX5, 4, tyX5, kX5, by decide, (x_gin (List.mem_append_right _ (tb_1 _ (List.mem_of_getElem? (i := 54) rfl))) rfl), rfl, rfl, fun h => by cases h⟩
set_option maxRecDepth 100000 in
theorem f_X5_21 : x_F RX5 21 5 3 (tyX5 3) false true := ⟨RX5, TX5, 4, tyX5, kX5, by decide, (x_gin (List.mem_append_right _ (tb_1 _ (List.mem_of_getElem? (i := 55) rfl))) rfl), rfl, rfl, fun _ => rfl⟩
set_option maxRecDepth 100000 in
theorem f_X2_12 : x_F RX2 12 2 0 (tyX2 0) true true := ⟨RX2, TX2, 10, tyX2, kX2, by decide, (x_gin (List.mem_append_right _ (tb_1 _ (List.mem_of_getElem? (i := 67) rfl))) rfl), rfl, rfl, fun _ => rfl⟩
set_option maxRecDepth 100000 in
theorem f_X2_87 : x_F RX2 87 2 1 (tyX2 1) false true := ⟨RX2, TX2, 10, tyX2, kX2, by decide, (x_gin (List.mem_append_right _ (tb_1 _ (List.mem_of_getElem? (i := 68) rfl))) rfl), rfl, rfl, fun _ => rfl⟩
set_option maxRecDepth 100000 in
theorem f_X2_18 : x_F RX2 18 2 2 (tyX2 2) false true := ⟨RX2, TX2, 10, tyX2, kX2, by decide, (x_gin (List.mem_append_right _ (tb_1 _ (List.mem_of_getElem? (i := 69) rfl))) rfl), rfl, rfl, fun _ => rfl⟩
set_option maxRecDepth 100000 in
theorem f_X10_119 : x_F RX10 119 2 2 (tyX2 2) false false := ⟨RX2, TX2, 10, tyX2, kX2, by decide, (x_gin (List.mem_append_right _ (tb_1 _ (List.mem_of_getElem? (i := 70) rfl))) rfl), rfl, rfl, fun h => by cases h⟩
set_option maxRecDepth 100000 in
theorem f_X2_24 : x_F RX2 24 2 3 (tyX2 3) true true := ⟨RX2, TX2, 10, tyX2, kX2, by decide, (x_gin (List.mem_append_right _ (tb_1 _ (List.mem_of_getElem? (i := 71) rfl))) rfl), rfl, rfl, fun _ => rfl⟩
set_option maxRecDepth 100000 in
theorem f_X2_58 : x_F RX2 58 2 4 (tyX2 4) false true := ⟨RX2, TX2, 10, tyX2, kX2, by decide, (x_gin (List.mem_append_right _ (tb_1 _ (List.mem_of_getElem? (i := 72) rfl))) rfl), rfl, rfl, fun _ => rfl⟩
set_option maxRecDepth 100000 in
theorem f_X2_72 : x_F RX2 72 2 5 (tyX2 5) false true := ⟨RX2, TX2, 10, tyX2, kX2, by decide, (x_gin (List.mem_append_right _ (tb_1 _ (List.mem_of_getElem? (i := 73) rfl))) rfl), rfl, rfl, fun _ => rfl⟩
set_option maxRecDepth 100000 in
theorem f_X2_75 : x_F RX2 75 2 6 (tyX2 6) false true := ⟨RX2, TX2, 10, tyX2, kX2, by decide, (x_gin (List.mem_append_right _ (tb_1 _ (List.mem_of_getElem? (i := 74) rfl))) rfl), rfl, rfl, fun _ => rfl⟩
set_option maxRecDepth 100000 in
theorem f_X2_78 : x_F RX2 78 2 7 (tyX2 7) false true := ⟨RX2, TX2, 10, tyX2, kX2, by decide, (x_gin (List.mem_append_right _ (tb_1 _ (List.mem_of_getElem? (i := 75) rfl))) rfl), rfl, rfl, fun _ => rfl⟩
set_option maxRecDepth 100000 in
theorem f_X2_28 : x_F RX2 28 2 8 (tyX2 8) true true := ⟨RX2, TX2, 10, tyX2, kX2, by decide, (x_gin (List.mem_append_right _ (tb_1 _ (List.mem_of_getElem? (i := 76) rfl))) rfl), rfl, rfl, fun _ => rfl⟩
set_option maxRecDepth 100000 in
theorem f_X2_81 : x_F RX2 81 2 9 (tyX2 9) false true := ⟨RX2, TX2, 10, tyX2, kX2, by decide, (x_gin (List.mem_append_right _ (tb_1 _ (List.mem_of_getElem? (i := 77) rfl))) rfl), rfl, rfl, fun _ => rfl⟩
set_option maxRecDepth 100000 in
theorem f_X7_7 : x_F RX7 7 7 0 (tyX7 0) true true := ⟨RX7, TX7, 3, tyX7, kX7, by decide, (x_gin (List.mem_append_right _ (tb_1 _ (List.mem_of_getElem? (i := 111) rfl))) rfl), rfl, rfl, fun _ => rfl⟩
set_option maxRecDepth 100000 in
theorem f_X7_13 : x_F RX7 13 7 1 (tyX7 1) true true := ⟨RX7, TX7, 3, tyX7, kX7, by decide, (x_gin (List.mem_append_right _ (tb_1 _ (List.mem_of_getElem? (i := 112) rfl))) rfl), rfl, rfl, fun _ => rfl⟩
set_option maxRecDepth 100000 in
theorem f_X7_17 : x_F RX7 17 7 2 (tyX7 2) false true := ⟨RX7, TX7, 3, tyX7, kX7, by decide, (x_gin (List.mem_append_right _ (tb_1 _ (List.mem_of_getElem? (i := 113) rfl))) rfl), rfl, rfl, fun _ => rfl⟩
set_option maxRecDepth 100000 in
theorem f_X1_89 : x_F RX1 89 7 2 (tyX7 2) false false := ⟨RX7, TX7, 3, tyX7, kX7, by decide, (x_gin (List.mem_append_right _ (tb_1 _ (List.mem_of_getElem? (i := 114) rfl))) rfl), rfl, rfl, fun h => by cases h⟩
set_option maxRecDepth 100000 in
theorem f_X3_49 : x_F RX3 49 7 2 (tyX7 2) false false := ⟨RX7, TX7, 3, tyX7, kX7, by decide, (x_gin (List.mem_append_right _ (tb_1 _ (List.mem_of_getElem? (i := 115) rfl))) rfl), rfl, rfl, fun h => by cases h⟩
set_option maxRecDepth 100000 in
theorem f_X10_176 : x_F RX10 176 7 2 (tyX7 2) false false := ⟨RX7, TX7, 3, tyX7, kX7, by decide, (x_gin (List.mem_append_right _ (tb_1 _ (List.mem_of_getElem? (i := 116) rfl))) rfl), rfl, rfl, fun h => by cases h⟩
set_option maxRecDepth 100000 in
theorem f_X4_7 : x_F RX4 7 4 0 (tyX4 0) true true := ⟨RX4, TX4, 1, tyX4, kX4, by decide, (x_gin (List.mem_append_right _ (tb_1 _ (List.mem_of_getElem? (i := 133) rfl))) rfl), rfl, rfl, fun _ => rfl⟩
set_option maxRecDepth 100000 in
theorem f_X6_49 : x_F RX6 49 4 0 (tyX4 0) true false := ⟨RX4, TX4, 1, tyX4, kX4, by decide, (x_gin (List.mem_append_right _ (tb_1 _ (List.mem_of_getElem? (i := 134) rfl))) rfl), rfl, rfl, fun h => by cases h⟩
set_option maxRecDepth 100000 in
theorem f_X9_9 : x_F RX9 9 8 0 (tyX9 0) true true := ⟨RX9, TX9, 4, tyX9, kX9, by decide, (x_gin (List.mem_append_right _ (tb_1 _ (List.mem_of_getElem? (i := 143) rfl))) rfl), rfl, rfl, fun _ => rfl⟩
set_option maxRecDepth 100000 in
theorem f_X9_15 : x_F RX9 15 8 1 (tyX9 1) true true := ⟨RX9, TX9, 4, tyX9, kX9, by decide, (x_gin (List.mem_append_right _ (tb_1 _ (List.mem_of_getElem? (i := 144) rfl))) rfl), rfl, rfl, fun _ => rfl⟩
set_option maxRecDepth 100000 in
theorem f_X1_119 : x_F RX1 119 8 1 (tyX9 1) true false := ⟨RX9, TX9, 4, tyX9, kX9, by decide, (x_gin (List.mem_append_right _ (tb_1 _ (List.mem_of_getElem? (i := 145) rfl))) rfl), rfl, rfl, fun h => by cases h⟩
set_option maxRecDepth 100000 in
theorem f_X9_18 : x_F RX9 18 8 2 (tyX9 2) true true := ⟨RX9, TX9, 4, tyX9, kX9, by decide, (x_gin (List.mem_append_right _ (tb_1 _ (List.mem_of_getElem? (i := 146) rfl))) rfl), rfl, rfl, fun _ => rfl⟩
set_option maxRecDepth 100000 in
theorem f_X0_86 : x_F RX0 86 8 2 (tyX9 2) true false := ⟨RX9, TX9, 4, tyX9, kX9, by decide, (x_gin (List.mem_append_right _ (tb_1 _ (List.mem_of_getElem? (i := 147) rfl))) rfl), rfl, rfl, fun h => by cases h⟩
set_option maxRecDepth 100000 in
theorem f_X9_21 : x_F RX9 21 8 3 (tyX9 3) true true := ⟨RX9, TX9, 4, tyX9, kX9, by decide, (x_gin (List.mem_append_right _ (tb_1 _ (List.mem_of_getElem? (i := 148) rfl))) rfl), rfl, rfl, fun _ => rfl⟩
set_option maxRecDepth 100000 in
theorem f_X6_65 : x_F RX6 65 8 3 (tyX9 3) true false := ⟨RX9, TX9, 4, tyX9, kX9, by decide, (x_gin (List.mem_append_right _ (tb_1 _ (List.mem_of_getElem? (i := 149) rfl))) rfl), rfl, rfl, fun h => by cases h⟩
set_option maxRecDepth 100000 in
theorem f_X0_14 : x_F RX0 14 0 0 (tyX0 0) true true := ⟨RX0, TX0, 14, tyX0, kX0, by decide, (x_gin (List.mem_append_right _ (tb_1 _ (List.mem_of_getElem? (i := 159) rfl))) rfl), rfl, rfl, fun _ => rfl⟩
set_option maxRecDepth 100000 in
theorem f_X1_50 : x_F RX1 50 0 0 (tyX0 0) true false := ⟨RX0, TX0, 14, tyX0, kX0, by decide, (x_gin (List.mem_append_right _ (tb_1 _ (List.mem_of_getElem? (i := 160) rfl))) rfl), rfl, rfl, fun h => by cases h⟩
set_option maxRecDepth 100000 in
theorem f_X10_73 : x_F RX10 73 0 0 (tyX0 0) true false := ⟨RX0, TX0, 14, tyX0, kX0, by decide, (x_gin (List.mem_append_right _ (tb_1 _ (List.mem_of_getElem? (i := 161) rfl))) rfl), rfl, rfl, fun h => by cases h⟩
set_option maxRecDepth 100000 in
theorem f_X0_22 : x_F RX0 22 0 1 (tyX0 1) true true := ⟨RX0, TX0, 14, tyX0, kX0, by decide, (x_gin (List.mem_append_right _ (tb_1 _ (List.mem_of_getElem? (i := 162) rfl))) rfl), rfl, rfl, fun _ => rfl⟩
set_option maxRecDepth 100000 in
theorem f_X1_44 : x_F RX1 44 0 1 (tyX0 1) true false := ⟨RX0, TX0, 14, tyX0, kX0, by decide, (x_gin (List.mem_append_right _ (tb_1 _ (List.mem_of_getElem? (i := 163) rfl))) rfl), rfl, rfl, fun h => by cases h⟩
set_option maxRecDepth 100000 in
theorem f_X10_136 : x_F RX10 136 0 1 (tyX0 1) true false := ⟨RX0, TX0, 14, tyX0, kX0, by decide, (x_gin (List.mem_append_right _ (tb_1 _ (List.mem_of_getElem? (i := 164) rfl))) rfl), rfl, rfl, fun h => by cases h⟩
set_option maxRecDepth 100000 in
theorem f_X0_59 : x_F RX0 59 0 2 (tyX0 2) false true := ⟨RX0, TX0, 14, tyX0, kX0, by decide, (x_gin (List.mem_append_right _ (tb_1 _ (List.mem_of_getElem? (i := 165) rfl))) rfl), rfl, rfl, fun _ => rfl⟩
set_option maxRecDepth 100000 in
theorem f_X10_97 : x_F RX10 97 0 2 (tyX0 2) false false := ⟨RX0, TX0, 14, tyX0, kX0, by decide, (x_gin (List.mem_append_right _ (tb_1 _ (List.mem_of_getElem? (i := 166) rfl))) rfl), rfl, rfl, fun h => by cases h⟩
set_option maxRecDepth 100000 in
theorem f_X0_28 : x_F RX0 28 0 3 (tyX0 3) true true := ⟨RX0, TX0, 14, tyX0, kX0, by decide, (x_gin (List.mem_append_right _ (tb_1 _ (List.mem_of_getElem? (i := 167) rfl))) rfl), rfl, rfl, fun _ => rfl⟩
set_option maxRecDepth 100000 in
theorem f_X1_69 : x_F RX1 69 0 3 (tyX0 3) true false := ⟨RX0, TX0, 14, tyX0, kX0, by decide, (x_gin (List.mem_append_right _ (tb_1 _ (List.mem_of_getElem? (i := 168) rfl))) rfl), rfl, rfl, fun h => by cases h⟩
set_option maxRecDepth 100000 in
theorem f_X10_164 : x_F RX10 164 0 3 (tyX0 3) true false := ⟨RX0, TX0, 14, tyX0, kX0, by decide, (x_gin (List.mem_append_right _ (tb_1 _ (List.mem_of_getElem? (i := 169) rfl))) rfl), rfl, rfl, fun h => by cases h⟩
set_option maxRecDepth 100000 in
theorem f_X0_63 : x_F RX0 63 0 4 (tyX0 4) false true := ⟨RX0, TX0, 14, tyX0, kX0, by decide, (x_gin (List.mem_append_right _ (tb_1 _ (List.mem_of_getElem? (i := 170) rfl))) rfl), rfl, rfl, fun _ => rfl⟩
set_option maxRecDepth 100000 in
theorem f_X1_61 : x_F RX1 61 0 4 (tyX0 4) false false := ⟨RX0, TX0, 14, tyX0, kX0, by decide, (x_gin (List.mem_append_right _ (tb_1 _ (List.mem_of_getElem? (i := 171) rfl))) rfl), rfl, rfl, fun h => by cases h⟩
set_option maxRecDepth 100000 in
theorem f_X10_108 : x_F RX10 108 0 4 (tyX0 4) false false := ⟨RX0, TX0, 14, tyX0, kX0, by decide, (x_gin (List.mem_append_right _ (tb_1 _ (List.mem_of_getElem? (i := 172) rfl))) rfl), rfl, rfl, fun h => by cases h⟩
set_option maxRecDepth 100000 in
theorem f_X0_32 : x_F RX0 32 0 5 (tyX0 5) true true := ⟨RX0, TX0, 14, tyX0, kX0, by decide, (x_gin (List.mem_append_right _ (tb_1 _ (List.mem_of_getElem? (i := 173) rfl))) rfl), rfl, rfl, fun _ => rfl⟩
set_option maxRecDepth 100000 in
theorem f_X10_122 : x_F RX10 122 0 5 (tyX0 5) true false := ⟨RX0, TX0, 14, tyX0, kX0, by decide, (x_gin (List.mem_append_right _ (tb_1 _ (List.mem_of_getElem? (i := 174) rfl))) rfl), rfl, rfl, fun h => by cases h⟩
set_option maxRecDepth 100000 in
theorem f_X0_35 : x_F RX0 35 0 6 (tyX0 6) true true := ⟨RX0, TX0, 14, tyX0, kX0, by decide, (x_gin (List.mem_append_right _ (tb_1 _ (List.mem_of_getElem? (i := 175) rfl))) rfl), rfl, rfl, fun _ => rfl⟩
set_option maxRecDepth 100000 in
theorem f_X1_86 : x_F RX1 86 0 6 (tyX0 6) true false := ⟨RX0, TX0, 14, tyX0, kX0, by decide, (x_gin (List.mem_append_right _ (tb_1 _ (List.mem_of_getElem? (i := 176) rfl))) rfl), rfl, rfl, fun h => by cases h⟩
set_option maxRecDepth 100000 in
theorem f_X10_179 : x_F RX10 179 0 6 (tyX0 6) true false := ⟨RX0, TX0, 14, tyX0, kX0, by decide, (x_gin (List.mem_append_right _ (tb_1 _ (List.mem_of_getElem? (i := 177) rfl))) rfl), rfl, rfl, fun h => by cases h⟩
set_option maxRecDepth 100000 in
theorem f_X0_38 : x_F RX0 38 0 7 (tyX0 7) true true := ⟨RX0, TX0, 14, tyX0, kX0, by decide, (x_gin (List.mem_append_right _ (tb_1 _ (List.mem_of_getElem? (i := 178) rfl))) rfl), rfl, rfl, fun _ => rfl⟩
set_option maxRecDepth 100000 in
theorem f_X10_216 : x_F RX10 216 0 7 (tyX0 7) true false := ⟨RX0, TX0, 14, tyX0, kX0, by decide, (x_gin (List.mem_append_right _ (tb_1 _ (List.mem_of_getElem? (i := 179) rfl))) rfl), rfl, rfl, fun h => by cases h⟩
set_option maxRecDepth 100000 in
theorem f_X0_41 : x_F RX0 41 0 8 (tyX0 8) true true := ⟨RX0, TX0, 14, tyX0, kX0, by decide, (x_gin (List.mem_append_right _ (tb_1 _ (List.mem_of_getElem? (i := 180) rfl))) rfl), rfl, rfl, fun _ => rfl⟩
set_option maxRecDepth 100000 in
theorem f_X10_219 : x_F RX10 219 0 8 (tyX0 8) true false := ⟨RX0, TX0, 14, tyX0, kX0, by decide, (x_gin (List.mem_append_right _ (tb_1 _ (List.mem_of_getElem? (i := 181) rfl))) rfl), rfl, rfl, fun h => by cases h⟩
set_option maxRecDepth 100000 in
theorem f_X0_44 : x_F RX0 44 0 9 (tyX0 9) true true := ⟨RX0, TX0, 14, tyX0, kX0, by decide, (x_gin (List.mem_append_right _ (tb_1 _ (List.mem_of_getElem? (i := 182) rfl))) rfl), rfl, rfl, fun _ => rfl⟩
set_option maxRecDepth 100000 in
theorem f_X10_225 : x_F RX10 225 0 9 (tyX0 9) true false := ⟨RX0, TX0, 14, tyX0, kX0, by decide, (x_gin (List.mem_append_right _ (tb_1 _ (List.mem_of_getElem? (i := 183) rfl))) rfl), rfl, rfl, fun h => by cases h⟩
set_option maxRecDepth 100000 in
theorem f_X0_47 : x_F RX0 47 0 10 (tyX0 10) true true := ⟨RX0, TX0, 14, tyX0, kX0, by decide, (x_gin (List.mem_append_right _ (tb_1 _ (List.mem_of_getElem? (i := 184) rfl))) rfl), rfl, rfl, fun _ => rfl⟩
set_option maxRecDepth 100000 in
theorem f_X10_256 : x_F RX10 256 0 10 (tyX0 10) true false := ⟨RX0, TX0, 14, tyX0, kX0, by decide, (x_gin (List.mem_append_right _ (tb_1 _ (List.mem_of_getElem? (i := 185) rfl))) rfl), rfl, rfl, fun h => by cases h⟩
set_option maxRecDepth 100000 in
theorem f_X0_50 : x_F RX0 50 0 11 (tyX0 11) true true := ⟨RX0, TX0, 14, tyX0, kX0, by decide, (x_gin (List.mem_append_right _ (tb_1 _ (List.mem_of_getElem? (i := 186) rfl))) rfl), rfl, rfl, fun _ => rfl⟩
set_option maxRecDepth 100000 in
theorem f_X3_43 : x_F RX3 43 0 11 (tyX0 11) true false := ⟨RX0, TX0, 14, tyX0, kX0, by decide, (x_gin (List.mem_append_right _ (tb_1 _ (List.mem_of_getElem? (i := 187) rfl))) rfl), rfl, rfl, fun h => by cases h⟩
set_option maxRecDepth 100000 in
theorem f_X10_268 : x_F RX10 268 0 11 (tyX0 11) true false := ⟨RX0, TX0, 14, tyX0, kX0, by decide, (x_gin (List.mem_append_right _ (tb_1 _ (List.mem_of_getElem? (i := 188) rfl))) rfl), rfl, rfl, fun h => by cases h⟩
set_option maxRecDepth 100000 in
theorem f_X0_98 : x_F RX0 98 0 12 (tyX0 12) false true := ⟨RX0, TX0, 14, tyX0, kX0, by decide, (x_gin (List.mem_append_right _ (tb_1 _ (List.mem_of_getElem? (i := 189) rfl))) rfl), rfl, rfl, fun _ => rfl⟩
set_option maxRecDepth 100000 in
theorem f_X10_253 : x_F RX10 253 0 12 (tyX0 12) false false := ⟨RX0, TX0, 14, tyX0, kX0, by decide, (x_gin (List.mem_append_right _ (tb_1 _ (List.mem_of_getElem? (i := 190) rfl))) rfl), rfl, rfl, fun h => by cases h⟩
set_option maxRecDepth 100000 in
theorem f_X3_62 : x_F RX3 62 0 13 (tyX0 13) false false := ⟨RX0, TX0, 14, tyX0, kX0, by decide, (x_gin (List.mem_append_right _ (tb_1 _ (List.mem_of_getElem? (i := 191) rfl))) rfl), rfl, rfl, fun h => by cases h⟩
set_option maxRecDepth 100000 in
theorem f_X0_101 : x_F RX0 101 0 13 (tyX0 13) false true := ⟨RX0, TX0, 14, tyX0, kX0, by decide, (x_gin (List.mem_append_right _ (tb_1 _ (List.mem_of_getElem? (i := 192) rfl))) rfl), rfl, rfl, fun _ => rfl⟩
set_option maxRecDepth 100000 in
theorem f_X10_271 : x_F RX10 271 0 13 (tyX0 13) false false := ⟨RX0, TX0, 14, tyX0, kX0, by decide, (x_gin (List.mem_append_right _ (tb_1 _ (List.mem_of_getElem? (i := 193) rfl))) rfl), rfl, rfl, fun h => by cases h⟩
set_option maxRecDepth 100000 in
theorem f_X6_27 : x_F RX6 27 6 0 (tyX6 0) false true := ⟨RX6, TX6, 8, tyX6, kX6, by decide, (x_gin (List.mem_append_right _ (tb_1 _ (List.mem_of_getElem? (i := 235) rfl))) rfl), rfl, rfl, fun _ => rfl⟩
set_option maxRecDepth 100000 in
theorem f_X1_79 : x_F RX1 79 6 0 (tyX6 0) false false := ⟨RX6, TX6, 8, tyX6, kX6, by decide, (x_gin (List.mem_append_right _ (tb_1 _ (List.mem_of_getElem? (i := 236) rfl))) rfl), rfl, rfl, fun h => by cases h⟩
set_option maxRecDepth 100000 in
theorem f_X10_146 : x_F RX10 146 6 0 (tyX6 0) false false := ⟨RX6, TX6, 8, tyX6, kX6, by decide, (x_gin (List.mem_append_right _ (tb_1 _ (List.mem_of_getElem? (i := 237) rfl))) rfl), rfl, rfl, fun h => by cases h⟩
set_option maxRecDepth 100000 in
theorem f_X6_31 : x_F RX6 31 6 1 (tyX6 1) false true := ⟨RX6, TX6, 8, tyX6, kX6, by decide, (x_gin (List.mem_append_right _ (tb_1 _ (List.mem_of_getElem? (i := 238) rfl))) rfl), rfl, rfl, fun _ => rfl⟩
set_option maxRecDepth 100000 in
theorem f_X10_158 : x_F RX10 158 6 1 (tyX6 1) false false := ⟨RX6, TX6, 8, tyX6, kX6, by decide, (x_gin (List.mem_append_right _ (tb_1 _ (List.mem_of_getElem? (i := 239) rfl))) rfl), rfl, rfl, fun h => by cases h⟩
set_option maxRecDepth 100000 in
theorem f_X6_34 : x_F RX6 34 6 2 (tyX6 2) false true := ⟨RX6, TX6, 8, tyX6, kX6, by decide, (x_gin (List.mem_append_right _ (tb_2 _ (List.mem_of_getElem? (i := 0) rfl))) rfl), rfl, rfl, fun _ => rfl⟩
set_option maxRecDepth 100000 in
theorem f_X10_161 : x_F RX10 161 6 2 (tyX6 2) false false := ⟨RX6, TX6, 8, tyX6, kX6, by decide, (x_gin (List.mem_append_right _ (tb_2 _ (List.mem_of_getElem? (i := 1) rfl))) rfl), rfl, rfl, fun h => by cases h⟩
set_option maxRecDepth 100000 in
theorem f_X6_9 : x_F RX6 9 6 3 (tyX6 3) true true := ⟨RX6, TX6, 8, tyX6, kX6, by decide, (x_gin (List.mem_append_right _ (tb_2 _ (List.mem_of_getElem? (i := 2) rfl))) rfl), rfl, rfl, fun _ => rfl⟩
set_option maxRecDepth 100000 in
theorem f_X1_105 : x_F RX1 105 6 3 (tyX6 3) true false := ⟨RX6, TX6, 8, tyX6, kX6, by decide, (x_gin (List.mem_append_right _ (tb_2 _ (List.mem_of_getElem? (i := 3) rfl))) rfl), rfl, rfl, fun h => by cases h⟩
set_option maxRecDepth 100000 in
theorem f_X6_15 : x_F RX6 15 6 4 (tyX6 4) true true := ⟨RX6, TX6, 8, tyX6, kX6, by decide, (x_gin (List.mem_append_right _ (tb_2 _ (List.mem_of_getElem? (i := 4) rfl))) rfl), rfl, rfl, fun _ => rfl⟩
set_option maxRecDepth 100000 in
theorem f_X6_18 : x_F RX6 18 6 5 (tyX6 5) true true := ⟨RX6, TX6, 8, tyX6, kX6, by decide, (x_gin (List.mem_append_right _ (tb_2 _ (List.mem_of_getElem? (i := 5) rfl))) rfl), rfl, rfl, fun _ => rfl⟩
set_option maxRecDepth 100000 in
theorem f_X6_21 : x_F RX6 21 6 6 (tyX6 6) true true := ⟨RX6, TX6, 8, tyX6, kX6, by decide, (x_gin (List.mem_append_right _ (tb_2 _ (List.mem_of_getElem? (i := 6) rfl))) rfl), rfl, rfl, fun _ => rfl⟩
set_option maxRecDepth 100000 in
theorem f_X6_24 : x_F RX6 24 6 7 (tyX6 7) true true := ⟨RX6, TX6, 8, tyX6, kX6, by decide, (x_gin (List.mem_append_right _ (tb_2 _ (List.mem_of_getElem? (i := 7) rfl))) rfl), rfl, rfl, fun _ => rfl⟩
set_option maxRecDepth 100000 in
theorem f_X1_34 : x_F RX1 34 1 0 (tyX1 0) true true := ⟨RX1, TX1, 7, tyX1, kX1, by decide, (x_gin (List.mem_append_right _ (tb_2 _ (List.mem_of_getElem? (i := 25) rfl))) rfl), rfl, rfl, fun _ => rfl⟩
set_option maxRecDepth 100000 in
theorem f_X1_12 : x_F RX1 12 1 1 (tyX1 1) true true := ⟨RX1, TX1, 7, tyX1, kX1, by decide, (x_gin (List.mem_append_right _ (tb_2 _ (List.mem_of_getElem? (i := 26) rfl))) rfl), rfl, rfl, fun _ => rfl⟩
set_option maxRecDepth 100000 in
theorem f_X10_132 : x_F RX10 132 1 1 (tyX1 1) true false := ⟨RX1, TX1, 7, tyX1, kX1, by decide, (x_gin (List.mem_append_right _ (tb_2 _ (List.mem_of_getElem? (i := 27) rfl))) rfl), rfl, rfl, fun h => by cases h⟩
set_option maxRecDepth 100000 in
theorem f_X1_18 : x_F RX1 18 1 2 (tyX1 2) true true := ⟨RX1, TX1, 7, tyX1, kX1, by decide, (x_gin (List.mem_append_right _ (tb_2 _ (List.mem_of_getElem? (i := 28) rfl))) rfl), rfl, rfl, fun _ => rfl⟩
set_option maxRecDepth 100000 in
theorem f_X1_22 : x_F RX1 22 1 3 (tyX1 3) true true := ⟨RX1, TX1, 7, tyX1, kX1, by decide, (x_gin (List.mem_append_right _ (tb_2 _ (List.mem_of_getElem? (i := 29) rfl))) rfl), rfl, rfl, fun _ => rfl⟩
set_option maxRecDepth 100000 in
theorem f_X1_25 : x_F RX1 25 1 4 (tyX1 4) true true := ⟨RX1, TX1, 7, tyX1, kX1, by decide, (x_gin (List.mem_append_right _ (tb_2 _ (List.mem_of_getElem? (i := 30) rfl))) rfl), rfl, rfl, fun _ => rfl⟩
set_option maxRecDepth 100000 in
theorem f_X1_28 : x_F RX1 28 1 5 (tyX1 5) true true := ⟨RX1, TX1, 7, tyX1, kX1, by decide, (x_gin (List.mem_append_right _ (tb_2 _ (List.mem_of_getElem? (i := 31) rfl))) rfl), rfl, rfl, fun _ => rfl⟩
set_option maxRecDepth 100000 in
theorem f_X1_31 : x_F RX1 31 1 6 (tyX1 6) true true := ⟨RX1, TX1, 7, tyX1, kX1, by decide, (x_gin (List.mem_append_right _ (tb_2 _ (List.mem_of_getElem? (i := 32) rfl))) rfl), rfl, rfl, fun _ => rfl⟩
set_option maxRecDepth 100000 in
theorem f_X3_18 : x_F RX3 18 3 0 (tyX3 0) true true := ⟨RX3, TX3, 3, tyX3, kX3, by decide, (x_gin (List.mem_append_right _ (tb_2 _ (List.mem_of_getElem? (i := 54) rfl))) rfl), rfl, rfl, fun _ => rfl⟩
set_option maxRecDepth 100000 in
theorem f_X3_11 : x_F RX3 11 3 1 (tyX3 1) true true := ⟨RX3, TX3, 3, tyX3, kX3, by decide, (x_gin (List.mem_append_right _ (tb_2 _ (List.mem_of_getElem? (i := 55) rfl))) rfl), rfl, rfl, fun _ => rfl⟩
set_option maxRecDepth 100000 in
theorem f_X3_15 : x_F RX3 15 3 2 (tyX3 2) true true := ⟨RX3, TX3, 3, tyX3, kX3, by decide, (x_gin (List.mem_append_right _ (tb_2 _ (List.mem_of_getElem? (i := 56) rfl))) rfl), rfl, rfl, fun _ => rfl⟩
set_option maxRecDepth 100000 in
theorem f_X10_9 : x_F RX10 9 9 0 (tyX10 0) true true := ⟨RX10, TX10, 11, tyX10, kX10, by decide, (x_gin (List.mem_append_right _ (tb_2 _ (List.mem_of_getElem? (i := 64) rfl))) rfl), rfl, rfl, fun _ => rfl⟩
set_option maxRecDepth 100000 in
theorem f_X10_57 : x_F RX10 57 9 1 (tyX10 1) false true := ⟨RX10, TX10, 11, tyX10, kX10, by decide, (x_gin (List.mem_append_right _ (tb_2 _ (List.mem_of_getElem? (i := 65) rfl))) rfl), rfl, rfl, fun _ => rfl⟩
set_option maxRecDepth 100000 in
theorem f_X10_16 : x_F RX10 16 9 2 (tyX10 2) true true := ⟨RX10, TX10, 11, tyX10, kX10, by decide, (x_gin (List.mem_append_right _ (tb_2 _ (List.mem_of_getElem? (i := 66) rfl))) rfl), rfl, rfl, fun _ => rfl⟩
set_option maxRecDepth 100000 in
theorem f_X10_23 : x_F RX10 23 9 3 (tyX10 3) true true := ⟨RX10, TX10, 11, tyX10, kX10, by decide, (x_gin (List.mem_append_right _ (tb_2 _ (List.mem_of_getElem? (i := 67) rfl))) rfl), rfl, rfl, fun _ => rfl⟩
set_option maxRecDepth 100000 in
theorem f_X10_27 : x_F RX10 27 9 4 (tyX10 4) true true := ⟨RX10, TX10, 11, tyX10, kX10, by decide, (x_gin (List.mem_append_right _ (tb_2 _ (List.mem_of_getElem? (i := 68) rfl))) rfl), rfl, rfl, fun _ => rfl⟩
set_option maxRecDepth 100000 in
theorem f_X10_303 : x_F RX10 303 9 5 (tyX10 5) false true := ⟨RX10, TX10, 11, tyX10, kX10, by decide, (x_gin (List.mem_append_right _ (tb_2 _ (List.mem_of_getElem? (i := 69) rfl))) rfl), rfl, rfl, fun _ => rfl⟩
set_option maxRecDepth 100000 in
theorem f_X10_35 : x_F RX10 35 9 6 (tyX10 6) true true := ⟨RX10, TX10, 11, tyX10, kX10, by decide, (x_gin (List.mem_append_right _ (tb_2 _ (List.mem_of_getElem? (i := 70) rfl))) rfl), rfl, rfl, fun _ => rfl⟩
set_option maxRecDepth 100000 in
theorem f_X10_42 : x_F RX10 42 9 7 (tyX10 7) true true := ⟨RX10, TX10, 11, tyX10, kX10, by decide, (x_gin (List.mem_append_right _ (tb_2 _ (List.mem_of_getElem? (i := 71) rfl))) rfl), rfl, rfl, fun _ => rfl⟩
set_option maxRecDepth 100000 in
theorem f_X10_46 : x_F RX10 46 9 8 (tyX10 8) true true := ⟨RX10, TX10, 11, tyX10, kX10, by decide, (x_gin (List.mem_append_right _ (tb_2 _ (List.mem_of_getElem? (i := 72) rfl))) rfl), rfl, rfl, fun _ => rfl⟩
set_option maxRecDepth 100000 in
theorem f_X10_50 : x_F RX10 50 9 9 (tyX10 9) true true := ⟨RX10, TX10, 11, tyX10, kX10, by decide, (x_gin (List.mem_append_right _ (tb_2 _ (List.mem_of_getElem? (i := 73) rfl))) rfl), rfl, rfl, fun _ => rfl⟩
set_option maxRecDepth 100000 in
theorem f_X10_54 : x_F RX10 54 9 10 (tyX10 10) true true := ⟨RX10, TX10, 11, tyX10, kX10, by decide, (x_gin (List.mem_append_right _ (tb_2 _ (List.mem_of_getElem? (i := 74) rfl))) rfl), rfl, rfl, fun _ => rfl⟩
set_option maxRecDepth 100000 in
theorem f_X11_3 : x_F RX11 3 10 0 (tyX11 0) false true := ⟨RX11, TX11, 30, tyX11, kX11, by decide, (x_gin (List.mem_append_right _ (tb_6 _ (List.mem_of_getElem? (i := 26) rfl))) rfl), rfl, rfl, fun _ => rfl⟩
set_option maxRecDepth 100000 in
theorem f_X11_13 : x_F RX11 13 10 1 (tyX11 1) true true := ⟨RX11, TX11, 30, tyX11, kX11, by decide, (x_gin (List.mem_append_right _ (tb_6 _ (List.mem_of_getElem? (i := 27) rfl))) rfl), rfl, rfl, fun _ => rfl⟩
set_option maxRecDepth 100000 in
theorem f_X11_17 : x_F RX11 17 10 2 (tyX11 2) true true := ⟨RX11, TX11, 30, tyX11, kX11, by decide, (x_gin (List.mem_append_right _ (tb_6 _ (List.mem_of_getElem? (i := 28) rfl))) rfl), rfl, rfl, fun _ => rfl⟩
set_option maxRecDepth 100000 in
theorem f_X11_77 : x_F RX11 77 10 3 (tyX11 3) false true := ⟨RX11, TX11, 30, tyX11, kX11, by decide, (x_gin (List.mem_append_right _ (tb_6 _ (List.mem_of_getElem? (i := 29) rfl))) rfl), rfl, rfl, fun _ => rfl⟩
set_option maxRecDepth 100000 in
theorem f_X11_20 : x_F RX11 20 10 4 (tyX11 4) true true := ⟨RX11, TX11, 30, tyX11, kX11, by decide, (x_gin (List.mem_append_right _ (tb_6 _ (List.mem_of_getElem? (i := 30) rfl))) rfl), rfl, rfl, fun _ => rfl⟩
set_option maxRecDepth 100000 in
theorem f_X11_93 : x_F RX11 93 10 5 (tyX11 5) false true := ⟨RX11, TX11, 30, tyX11, kX11, by decide, (x_gin (List.mem_append_right _ (tb_6 _ (List.mem_of_getElem? (i := 31) rfl))) rfl), rfl, rfl, fun _ => rfl⟩
set_option maxRecDepth 100000 in
theorem f_X11_99 : x_F RX11 99 10 6 (tyX11 6) false true := ⟨RX11, TX11, 30, tyX11, kX11, by decide, (x_gin (List.mem_append_right _ (tb_6 _ (List.mem_of_getElem? (i := 32) rfl))) rfl), rfl, rfl, fun _ => rfl⟩
set_option maxRecDepth 100000 in
theorem f_X11_96 : x_F RX11 96 10 7 (tyX11 7) false true := ⟨RX11, TX11, 30, tyX11, kX11, by decide, (x_gin (List.mem_append_right _ (tb_6 _ (List.mem_of_getElem? (i := 33) rfl))) rfl), rfl, rfl, fun _ => rfl⟩
set_option maxRecDepth 100000 in
theorem f_X11_109 : x_F RX11 109 10 8 (tyX11 8) false true := ⟨RX11, TX11, 30, tyX11, kX11, by decide, (x_gin (List.mem_append_right _ (tb_6 _ (List.mem_of_getElem? (i := 34) rfl))) rfl), rfl, rfl, fun _ => rfl⟩
set_option maxRecDepth 100000 in
theorem f_X11_178 : x_F RX11 178 10 9 (tyX11 9) false true := ⟨RX11, TX11, 30, tyX11, kX11, by decide, (x_gin (List.mem_append_right _ (tb_6 _ (List.mem_of_getElem? (i := 35) rfl))) rfl), rfl, rfl, fun _ => rfl⟩
set_option maxRecDepth 100000 in
theorem f_X11_24 : x_F RX11 24 10 10 (tyX11 10) false true := ⟨RX11, TX11, 30, tyX11, kX11, by decide, (x_gin (List.mem_append_right _ (tb_6 _ (List.mem_of_getElem? (i := 36) rfl))) rfl), rfl, rfl, fun _ => rfl⟩
set_option maxRecDepth 100000 in
theorem f_X11_27 : x_F RX11 27 10 11 (tyX11 11) true true := ⟨RX11, TX11, 30, tyX11, kX11, by decide, (x_gin (List.mem_append_right _ (tb_6 _ (List.mem_of_getElem? (i := 37) rfl))) rfl), rfl, rfl, fun _ => rfl⟩
set_option maxRecDepth 100000 in
theorem f_X11_102 : x_F RX11 102 10 12 (tyX11 12) false true := ⟨RX11, TX11, 30, tyX11, kX11, by decide, (x_gin (List.mem_append_right _ (tb_6 _ (List.mem_of_getElem? (i := 38) rfl))) rfl), rfl, rfl, fun _ => rfl⟩
set_option maxRecDepth 100000 in
theorem f_X11_249 : x_F RX11 249 10 13 (tyX11 13) false true := ⟨RX11, TX11, 30, tyX11, kX11, by decide, (x_gin (List.mem_append_right _ (tb_6 _ (List.mem_of_getElem? (i := 39) rfl))) rfl), rfl, rfl, fun _ => rfl⟩
set_option maxRecDepth 100000 in
theorem f_X11_30 : x_F RX11 30 10 14 (tyX11 14) true true := ⟨RX11, TX11, 30, tyX11, kX11, by decide, (x_gin (List.mem_append_right _ (tb_6 _ (List.mem_of_getElem? (i := 40) rfl))) rfl), rfl, rfl, fun _ => rfl⟩
set_option maxRecDepth 100000 in
theorem f_X11_34 : x_F RX11 34 10 15 (tyX11 15) true true := ⟨RX11, TX11, 30, tyX11, kX11, by decide, (x_gin (List.mem_append_right _ (tb_6 _ (List.mem_of_getElem? (i := 41) rfl))) rfl), rfl, rfl, fun _ => rfl⟩
set_option maxRecDepth 100000 in
theorem f_X11_37 : x_F RX11 37 10 16 (tyX11 16) true true := ⟨RX11, TX11, 30, tyX11, kX11, by decide, (x_gin (List.mem_append_right _ (tb_6 _ (List.mem_of_getElem? (i := 42) rfl))) rfl), rfl, rfl, fun _ => rfl⟩
set_option maxRecDepth 100000 in
theorem f_X11_40 : x_F RX11 40 10 17 (tyX11 17) true true := ⟨RX11, TX11, 30, tyX11, kX11, by decide, (x_gin (List.mem_append_right _ (tb_6 _ (List.mem_of_getElem? (i := 43) rfl))) rfl), rfl, rfl, fun _ => rfl⟩
set_option maxRecDepth 100000 in
theorem f_X11_43 : x_F RX11 43 10 18 (tyX11 18) true true := ⟨RX11, TX11, 30, tyX11, kX11, by decide, (x_gin (List.mem_append_right _ (tb_6 _ (List.mem_of_getElem? (i := 44) rfl))) rfl), rfl, rfl, fun _ => rfl⟩
set_option maxRecDepth 100000 in
theorem f_X11_46 : x_F RX11 46 10 19 (tyX11 19) true true := ⟨RX11, TX11, 30, tyX11, kX11, by decide, (x_gin (List.mem_append_right _ (tb_6 _ (List.mem_of_getElem? (i := 45) rfl))) rfl), rfl, rfl, fun _ => rfl⟩
set_option maxRecDepth 100000 in
theorem f_X11_49 : x_F RX11 49 10 20 (tyX11 20) true true := ⟨RX11, TX11, 30, tyX11, kX11, by decide, (x_gin (List.mem_append_right _ (tb_6 _ (List.mem_of_getElem? (i := 46) rfl))) rfl), rfl, rfl, fun _ => rfl⟩
set_option maxRecDepth 100000 in
theorem f_X11_52 : x_F RX11 52 10 21 (tyX11 21) true true := ⟨RX11, TX11, 30, tyX11, kX11, by decide, (x_gin (List.mem_append_right _ (tb_6 _ (List.mem_of_getElem? (i := 47) rfl))) rfl), rfl, rfl, fun _ => rfl⟩
set_option maxRecDepth 100000 in
theorem f_X11_55 : x_F RX11 55 10 22 (tyX11 22) true true := ⟨RX11, TX11, 30, tyX11, kX11, by decide, (x_gin (List.mem_append_right _ (tb_6 _ (List.mem_of_getElem? (i := 48) rfl))) rfl), rfl, rfl, fun _ => rfl⟩
set_option maxRecDepth 100000 in
theorem f_X11_296 : x_F RX11 296 10 23 (tyX11 23) false true := ⟨RX11, TX11, 30, tyX11, kX11, by decide, (x_gin (List.mem_append_right _ (tb_6 _ (List.mem_of_getElem? (i := 49) rfl))) rfl), rfl, rfl, fun _ => rfl⟩
set_option maxRecDepth 100000 in
theorem f_X11_58 : x_F RX11 58 10 24 (tyX11 24) true true := ⟨RX11, TX11, 30, tyX11, kX11, by decide, (x_gin (List.mem_append_right _ (tb_6 _ (List.mem_of_getElem? (i := 50) rfl))) rfl), rfl, rfl, fun _ => rfl⟩
set_option maxRecDepth 100000 in
theorem f_X11_61 : x_F RX11 61 10 25 (tyX11 25) true true := ⟨RX11, TX11, 30, tyX11, kX11, by decide, (x_gin (List.mem_append_right _ (tb_6 _ (List.mem_of_getElem? (i := 51) rfl))) rfl), rfl, rfl, fun _ => rfl⟩
set_option maxRecDepth 100000 in
theorem f_X11_64 : x_F RX11 64 10 26 (tyX11 26) true true := ⟨RX11, TX11, 30, tyX11, kX11, by decide, (x_gin (List.mem_append_right _ (tb_6 _ (List.mem_of_getElem? (i := 52) rfl))) rfl), rfl, rfl, fun _ => rfl⟩
set_option maxRecDepth 100000 in
theorem f_X11_67 : x_F RX11 67 10 27 (tyX11 27) true true := ⟨RX11, TX11, 30, tyX11, kX11, by decide, (x_gin (List.mem_append_right _ (tb_6 _ (List.mem_of_getElem? (i := 53) rfl))) rfl), rfl, rfl, fun _ => rfl⟩
set_option maxRecDepth 100000 in
theorem f_X11_71 : x_F RX11 71 10 28 (tyX11 28) true true := ⟨RX11, TX11, 30, tyX11, kX11, by decide, (x_gin (List.mem_append_right _ (tb_6 _ (List.mem_of_getElem? (i := 54) rfl))) rfl), rfl, rfl, fun _ => rfl⟩
set_option maxRecDepth 100000 in
theorem f_X11_74 : x_F RX11 74 10 29 (tyX11 29) true true := ⟨RX11, TX11, 30, tyX11, kX11, by decide, (x_gin (List.mem_append_right _ (tb_6 _ (List.mem_of_getElem? (i := 55) rfl))) rfl), rfl, rfl, fun _ => rfl⟩
set_option maxRecDepth 100000 in
theorem m_L_117 : Cond.methodLink RL 117 yX10_init ∈ gT := (x_gin (List.mem_append_right _ (tb_1 _ (List.mem_of_getElem? (i := 31) rfl))) rfl)
set_option maxRecDepth 100000 in
theorem m_X10_22 : Cond.methodLink RX10 22 yX0_init ∈ gT := (x_gin (List.mem_append_right _ (tb_1 _ (List.mem_of_getElem? (i := 101) rfl))) rfl)
set_option maxRecDepth 100000 in
theorem m_X0_11 : Cond.methodLink RX0 11 yX7_init ∈ gT := (x_gin (List.mem_append_right _ (tb_1 _ (List.mem_of_getElem? (i := 107) rfl))) rfl)
set_option maxRecDepth 100000 in
theorem m_X0_53 : Cond.methodLink RX0 53 yX4_init ∈ gT := (x_gin (List.mem_append_right _ (tb_1 _ (List.mem_of_getElem? (i := 129) rfl))) rfl)
set_option maxRecDepth 100000 in
theorem m_X0_56 : Cond.methodLink RX0 56 yX9_init ∈ gT := (x_gin (List.mem_append_right _ (tb_1 _ (List.mem_of_getElem? (i := 139) rfl))) rfl)
set_option maxRecDepth 100000 in
theorem m_X10_32 : Cond.methodLink RX10 32 yX1_init ∈ gT := (x_gin (List.mem_append_right _ (tb_1 _ (List.mem_of_getElem? (i := 225) rfl))) rfl)
set_option maxRecDepth 100000 in
theorem m_X10_41 : Cond.methodLink RX10 41 yX3_init ∈ gT := (x_gin (List.mem_append_right _ (tb_2 _ (List.mem_of_getElem? (i := 50) rfl))) rfl)
set_option maxRecDepth 100000 in
theorem m_L_121 : Cond.methodLink RL 121 yX10_feed ∈ gT := (x_gin (List.mem_append_right _ (tb_2 _ (List.mem_of_getElem? (i := 99) rfl))) rfl)
set_option maxRecDepth 100000 in
theorem m_X10_61 : Cond.methodLink RX10 61 yX10_putNumber ∈ gT := (x_gin (List.mem_append_right _ (tb_2 _ (List.mem_of_getElem? (i := 103) rfl))) rfl)
set_option maxRecDepth 100000 in
theorem m_L_125 : Cond.methodLink RL 125 yX10_end ∈ gT := (x_gin (List.mem_append_right _ (tb_2 _ (List.mem_of_getElem? (i := 107) rfl))) rfl)
set_option maxRecDepth 100000 in
theorem m_L_146 : Cond.methodLink RL 146 yX10_fault ∈ gT := (x_gin (List.mem_append_right _ (tb_2 _ (List.mem_of_getElem? (i := 111) rfl))) rfl)
set_option maxRecDepth 100000 in
theorem m_L_164 : Cond.methodLink RL 164 yX10_torn ∈ gT := (x_gin (List.mem_append_right _ (tb_2 _ (List.mem_of_getElem? (i := 115) rfl))) rfl)
set_option maxRecDepth 100000 in
theorem m_L_235 : Cond.methodLink RL 235 yX10_out ∈ gT := (x_gin (List.mem_append_right _ (tb_2 _ (List.mem_of_getElem? (i := 119) rfl))) rfl)
set_option maxRecDepth 100000 in
theorem m_X10_274 : Cond.methodLink RX10 274 yX3_fewestOutAndIn ∈ gT := (x_gin (List.mem_append_right _ (tb_2 _ (List.mem_of_getElem? (i := 123) rfl))) rfl)
set_option maxRecDepth 100000 in
theorem m_X3_27 : Cond.methodLink RX3 27 yX3_reckonSlacks ∈ gT := (x_gin (List.mem_append_right _ (tb_2 _ (List.mem_of_getElem? (i := 127) rfl))) rfl)
set_option maxRecDepth 100000 in
theorem m_X3_65 : Cond.methodLink RX3 65 yJ6_numberOfTrailingZeros_0f7a4 ∈ gT := (x_gin (List.mem_append_right _ (tb_2 _ (List.mem_of_getElem? (i := 131) rfl))) rfl)
set_option maxRecDepth 100000 in
theorem m_X3_55 : Cond.methodLink RX3 55 yX7_get ∈ gT := (x_gin (List.mem_append_right _ (tb_2 _ (List.mem_of_getElem? (i := 135) rfl))) rfl)
set_option maxRecDepth 100000 in
theorem m_X3_30 : Cond.methodLink RX3 30 yJ7_fill_53178 ∈ gT := (x_gin (List.mem_append_right _ (tb_2 _ (List.mem_of_getElem? (i := 140) rfl))) rfl)
set_option maxRecDepth 100000 in
theorem m_X3_36 : Cond.methodLink RX3 36 yX3_shorten ∈ gT := (x_gin (List.mem_append_right _ (tb_2 _ (List.mem_of_getElem? (i := 143) rfl))) rfl)
set_option maxRecDepth 100000 in
theorem m_X3_74 : Cond.methodLink RX3 74 yX3_secondsBy ∈ gT := (x_gin (List.mem_append_right _ (tb_2 _ (List.mem_of_getElem? (i := 147) rfl))) rfl)
set_option maxRecDepth 100000 in
theorem m_X3_59 : Cond.methodLink RX3 59 yX3_givesWay ∈ gT := (x_gin (List.mem_append_right _ (tb_2 _ (List.mem_of_getElem? (i := 151) rfl))) rfl)
set_option maxRecDepth 100000 in
theorem m_X3_39 : Cond.methodLink RX3 39 yX3_hasAll ∈ gT := (x_gin (List.mem_append_right _ (tb_2 _ (List.mem_of_getElem? (i := 158) rfl))) rfl)
set_option maxRecDepth 100000 in
theorem m_X10_277 : Cond.methodLink RX10 277 yX3_fewestOut ∈ gT := (x_gin (List.mem_append_right _ (tb_2 _ (List.mem_of_getElem? (i := 165) rfl))) rfl)
set_option maxRecDepth 100000 in
theorem m_X3_22 : Cond.methodLink RX3 22 yX3_reckonOut ∈ gT := (x_gin (List.mem_append_right _ (tb_2 _ (List.mem_of_getElem? (i := 169) rfl))) rfl)
set_option maxRecDepth 100000 in
theorem m_L_239 : Cond.methodLink RL 239 yX10_first ∈ gT := (x_gin (List.mem_append_right _ (tb_2 _ (List.mem_of_getElem? (i := 173) rfl))) rfl)
set_option maxRecDepth 100000 in
theorem m_X10_280 : Cond.methodLink RX10 280 yX3_firstToOpen ∈ gT := (x_gin (List.mem_append_right _ (tb_2 _ (List.mem_of_getElem? (i := 177) rfl))) rfl)
set_option maxRecDepth 100000 in
theorem m_L_249 : Cond.methodLink RL 249 yX10_image ∈ gT := (x_gin (List.mem_append_right _ (tb_2 _ (List.mem_of_getElem? (i := 181) rfl))) rfl)
set_option maxRecDepth 100000 in
theorem m_X10_300 : Cond.methodLink RX10 300 yX0_become ∈ gT := (x_gin (List.mem_append_right _ (tb_2 _ (List.mem_of_getElem? (i := 185) rfl))) rfl)
set_option maxRecDepth 100000 in
theorem m_X0_94 : Cond.methodLink RX0 94 yX7_become ∈ gT := (x_gin (List.mem_append_right _ (tb_2 _ (List.mem_of_getElem? (i := 189) rfl))) rfl)
set_option maxRecDepth 100000 in
theorem m_L_253 : Cond.methodLink RL 253 yX10_back ∈ gT := (x_gin (List.mem_append_right _ (tb_2 _ (List.mem_of_getElem? (i := 193) rfl))) rfl)
set_option maxRecDepth 100000 in
theorem m_X10_86 : Cond.methodLink RX10 86 yX1_forget ∈ gT := (x_gin (List.mem_append_right _ (tb_2 _ (List.mem_of_getElem? (i := 197) rfl))) rfl)
set_option maxRecDepth 100000 in
theorem m_X1_38 : Cond.methodLink RX1 38 yJ7_fill_53178 ∈ gT := (x_gin (List.mem_append_right _ (tb_2 _ (List.mem_of_getElem? (i := 201) rfl))) rfl)
set_option maxRecDepth 100000 in
theorem m_L_258 : Cond.methodLink RL 258 yX10_count ∈ gT := (x_gin (List.mem_append_right _ (tb_2 _ (List.mem_of_getElem? (i := 202) rfl))) rfl)
set_option maxRecDepth 100000 in
theorem m_L_130 : Cond.methodLink RL 130 yL_person ∈ gT := (x_gin (List.mem_append_right _ (tb_2 _ (List.mem_of_getElem? (i := 206) rfl))) rfl)
set_option maxRecDepth 100000 in
theorem m_L_7 : Cond.methodLink RL 7 yX10_person ∈ gT := (x_gin (List.mem_append_right _ (tb_2 _ (List.mem_of_getElem? (i := 211) rfl))) rfl)
set_option maxRecDepth 100000 in
theorem m_X10_65 : Cond.methodLink RX10 65 yX10_isBetween ∈ gT := (x_gin (List.mem_append_right _ (tb_2 _ (List.mem_of_getElem? (i := 215) rfl))) rfl)
set_option maxRecDepth 100000 in
theorem m_X10_69 : Cond.methodLink RX10 69 yX10_demand ∈ gT := (x_gin (List.mem_append_right _ (tb_2 _ (List.mem_of_getElem? (i := 218) rfl))) rfl)
set_option maxRecDepth 100000 in
theorem m_X10_77 : Cond.methodLink RX10 77 yX7_hasRoom ∈ gT := (x_gin (List.mem_append_right _ (tb_3 _ (List.mem_of_getElem? (i := 49) rfl))) rfl)
set_option maxRecDepth 100000 in
theorem m_X10_83 : Cond.methodLink RX10 83 yX10_demandRoom ∈ gT := (x_gin (List.mem_append_right _ (tb_3 _ (List.mem_of_getElem? (i := 53) rfl))) rfl)
set_option maxRecDepth 100000 in
theorem m_X10_89 : Cond.methodLink RX10 89 yX7_add ∈ gT := (x_gin (List.mem_append_right _ (tb_3 _ (List.mem_of_getElem? (i := 72) rfl))) rfl)
set_option maxRecDepth 100000 in
theorem m_X7_20 : Cond.methodLink RX7 20 yX7_put ∈ gT := (x_gin (List.mem_append_right _ (tb_3 _ (List.mem_of_getElem? (i := 76) rfl))) rfl)
set_option maxRecDepth 100000 in
theorem m_L_139 : Cond.methodLink RL 139 yL_rule ∈ gT := (x_gin (List.mem_append_right _ (tb_3 _ (List.mem_of_getElem? (i := 80) rfl))) rfl)
set_option maxRecDepth 100000 in
theorem m_L_17 : Cond.methodLink RL 17 yX10_rule ∈ gT := (x_gin (List.mem_append_right _ (tb_3 _ (List.mem_of_getElem? (i := 83) rfl))) rfl)
set_option maxRecDepth 100000 in
theorem m_X10_93 : Cond.methodLink RX10 93 yX2_readLines ∈ gT := (x_gin (List.mem_append_right _ (tb_3 _ (List.mem_of_getElem? (i := 87) rfl))) rfl)
set_option maxRecDepth 100000 in
theorem m_X2_31 : Cond.methodLink RX2 31 yX5_scan ∈ gT := (x_gin (List.mem_append_right _ (tb_3 _ (List.mem_of_getElem? (i := 91) rfl))) rfl)
set_option maxRecDepth 100000 in
theorem m_X5_25 : Cond.methodLink RX5 25 yX5_isLetter ∈ gT := (x_gin (List.mem_append_right _ (tb_3 _ (List.mem_of_getElem? (i := 95) rfl))) rfl)
set_option maxRecDepth 100000 in
theorem m_X5_29 : Cond.methodLink RX5 29 yX8_ofWord ∈ gT := (x_gin (List.mem_append_right _ (tb_3 _ (List.mem_of_getElem? (i := 98) rfl))) rfl)
set_option maxRecDepth 100000 in
theorem m_X8_11 : Cond.methodLink RX8 11 yJ0_length_8abf5 ∈ gT := (x_gin (List.mem_append_right _ (tb_3 _ (List.mem_of_getElem? (i := 102) rfl))) rfl)
set_option maxRecDepth 100000 in
theorem m_J0_335 : Cond.methodLink RJ0 335 yJ0_coder_7d493 ∈ gT := (x_gin (List.mem_append_right _ (tb_3 _ (List.mem_of_getElem? (i := 106) rfl))) rfl)
set_option maxRecDepth 100000 in
theorem m_X8_17 : Cond.methodLink RX8 17 yJ0_charAt_5068e ∈ gT := (x_gin (List.mem_append_right _ (tb_3 _ (List.mem_of_getElem? (i := 112) rfl))) rfl)
set_option maxRecDepth 100000 in
theorem m_J0_492 : Cond.methodLink RJ0 492 yJ0_isLatin1_aae02 ∈ gT := (x_gin (List.mem_append_right _ (tb_3 _ (List.mem_of_getElem? (i := 116) rfl))) rfl)
set_option maxRecDepth 100000 in
theorem m_J0_495 : Cond.methodLink RJ0 495 yJ1_charAt_3b067 ∈ gT := (x_gin (List.mem_append_right _ (tb_3 _ (List.mem_of_getElem? (i := 120) rfl))) rfl)
set_option maxRecDepth 100000 in
theorem m_J1_9 : Cond.methodLink RJ1 9 yJ0_checkIndex_df160 ∈ gT := (x_gin (List.mem_append_right _ (tb_3 _ (List.mem_of_getElem? (i := 123) rfl))) rfl)
set_option maxRecDepth 100000 in
theorem m_J0_1059 : Cond.methodLink RJ0 1059 yJ3_checkIndex_8e157 ∈ gT := (x_gin (List.mem_append_right _ (tb_3 _ (List.mem_of_getElem? (i := 128) rfl))) rfl)
set_option maxRecDepth 100000 in
theorem m_J0_498 : Cond.methodLink RJ0 498 yJ2_charAt_3b067 ∈ gT := (x_gin (List.mem_append_right _ (tb_3 _ (List.mem_of_getElem? (i := 131) rfl))) rfl)
set_option maxRecDepth 100000 in
theorem m_J2_67 : Cond.methodLink RJ2 67 yJ2_checkIndex_2214a ∈ gT := (x_gin (List.mem_append_right _ (tb_3 _ (List.mem_of_getElem? (i := 134) rfl))) rfl)
set_option maxRecDepth 100000 in
theorem m_J2_48 : Cond.methodLink RJ2 48 yJ2_length_9d52b ∈ gT := (x_gin (List.mem_append_right _ (tb_3 _ (List.mem_of_getElem? (i := 137) rfl))) rfl)
set_option maxRecDepth 100000 in
theorem m_J2_414 : Cond.methodLink RJ2 414 yJ0_checkIndex_df160 ∈ gT := (x_gin (List.mem_append_right _ (tb_3 _ (List.mem_of_getElem? (i := 140) rfl))) rfl)
set_option maxRecDepth 100000 in
theorem m_J2_71 : Cond.methodLink RJ2 71 yJ2_getChar_3b067 ∈ gT := (x_gin (List.mem_append_right _ (tb_3 _ (List.mem_of_getElem? (i := 141) rfl))) rfl)
set_option maxRecDepth 100000 in
theorem m_X8_21 : Cond.methodLink RX8 21 yX8_isSame ∈ gT := (x_gin (List.mem_append_right _ (tb_3 _ (List.mem_of_getElem? (i := 150) rfl))) rfl)
set_option maxRecDepth 100000 in
theorem m_X5_35 : Cond.methodLink RX5 35 yX5_put ∈ gT := (x_gin (List.mem_append_right _ (tb_3 _ (List.mem_of_getElem? (i := 153) rfl))) rfl)
set_option maxRecDepth 100000 in
theorem m_X5_39 : Cond.methodLink RX5 39 yX5_isDigit ∈ gT := (x_gin (List.mem_append_right _ (tb_3 _ (List.mem_of_getElem? (i := 157) rfl))) rfl)
set_option maxRecDepth 100000 in
theorem m_X5_42 : Cond.methodLink RX5 42 yX5_numberOf ∈ gT := (x_gin (List.mem_append_right _ (tb_3 _ (List.mem_of_getElem? (i := 160) rfl))) rfl)
set_option maxRecDepth 100000 in
theorem m_X5_45 : Cond.methodLink RX5 45 yX8_ofSign ∈ gT := (x_gin (List.mem_append_right _ (tb_3 _ (List.mem_of_getElem? (i := 163) rfl))) rfl)
set_option maxRecDepth 100000 in
theorem m_X8_27 : Cond.methodLink RX8 27 yJ0_indexOf_0f7a4 ∈ gT := (x_gin (List.mem_append_right _ (tb_3 _ (List.mem_of_getElem? (i := 167) rfl))) rfl)
set_option maxRecDepth 100000 in
theorem m_J0_633 : Cond.methodLink RJ0 633 yJ0_indexOf_7cf53 ∈ gT := (x_gin (List.mem_append_right _ (tb_3 _ (List.mem_of_getElem? (i := 171) rfl))) rfl)
set_option maxRecDepth 100000 in
theorem m_J0_505 : Cond.methodLink RJ0 505 yJ0_length_8abf5 ∈ gT := (x_gin (List.mem_append_right _ (tb_3 _ (List.mem_of_getElem? (i := 175) rfl))) rfl)
set_option maxRecDepth 100000 in
theorem m_J0_637 : Cond.methodLink RJ0 637 yJ1_indexOf_4cfef ∈ gT := (x_gin (List.mem_append_right _ (tb_3 _ (List.mem_of_getElem? (i := 176) rfl))) rfl)
set_option maxRecDepth 100000 in
theorem m_J1_88 : Cond.methodLink RJ1 88 yJ1_canEncode_9a6ad ∈ gT := (x_gin (List.mem_append_right _ (tb_3 _ (List.mem_of_getElem? (i := 179) rfl))) rfl)
set_option maxRecDepth 100000 in
theorem m_J1_92 : Cond.methodLink RJ1 92 yJ9_max_7cf53 ∈ gT := (x_gin (List.mem_append_right _ (tb_3 _ (List.mem_of_getElem? (i := 182) rfl))) rfl)
set_option maxRecDepth 100000 in
theorem m_J1_38 : Cond.methodLink RJ1 38 yJ9_min_7cf53 ∈ gT := (x_gin (List.mem_append_right _ (tb_3 _ (List.mem_of_getElem? (i := 185) rfl))) rfl)
set_option maxRecDepth 100000 in
theorem m_J1_95 : Cond.methodLink RJ1 95 yJ1_indexOfChar_4cfef ∈ gT := (x_gin (List.mem_append_right _ (tb_3 _ (List.mem_of_getElem? (i := 188) rfl))) rfl)
set_option maxRecDepth 100000 in
theorem m_J0_640 : Cond.methodLink RJ0 640 yJ2_indexOf_4cfef ∈ gT := (x_gin (List.mem_append_right _ (tb_3 _ (List.mem_of_getElem? (i := 191) rfl))) rfl)
set_option maxRecDepth 100000 in
theorem m_J2_224 : Cond.methodLink RJ2 224 yJ9_max_7cf53 ∈ gT := (x_gin (List.mem_append_right _ (tb_3 _ (List.mem_of_getElem? (i := 194) rfl))) rfl)
set_option maxRecDepth 100000 in
theorem m_J2_183 : Cond.methodLink RJ2 183 yJ9_min_7cf53 ∈ gT := (x_gin (List.mem_append_right _ (tb_3 _ (List.mem_of_getElem? (i := 195) rfl))) rfl)
set_option maxRecDepth 100000 in
theorem m_J2_228 : Cond.methodLink RJ2 228 yJ2_indexOfChar_4cfef ∈ gT := (x_gin (List.mem_append_right _ (tb_3 _ (List.mem_of_getElem? (i := 197) rfl))) rfl)
set_option maxRecDepth 100000 in
theorem m_J2_96 : Cond.methodLink RJ2 96 yJ2_checkBoundsBeginEnd_d044e ∈ gT := (x_gin (List.mem_append_right _ (tb_3 _ (List.mem_of_getElem? (i := 200) rfl))) rfl)
set_option maxRecDepth 100000 in
theorem m_J2_241 : Cond.methodLink RJ2 241 yJ0_checkBoundsBeginEnd_23922 ∈ gT := (x_gin (List.mem_append_right _ (tb_3 _ (List.mem_of_getElem? (i := 203) rfl))) rfl)
set_option maxRecDepth 100000 in
theorem m_J0_1062 : Cond.methodLink RJ0 1062 yJ3_checkFromToIndex_8c36e ∈ gT := (x_gin (List.mem_append_right _ (tb_3 _ (List.mem_of_getElem? (i := 206) rfl))) rfl)
set_option maxRecDepth 100000 in
theorem m_J2_244 : Cond.methodLink RJ2 244 yJ2_indexOfCharUnsafe_4cfef ∈ gT := (x_gin (List.mem_append_right _ (tb_3 _ (List.mem_of_getElem? (i := 209) rfl))) rfl)
set_option maxRecDepth 100000 in
theorem m_J2_232 : Cond.methodLink RJ2 232 yJ2_indexOfSupplementary_4cfef ∈ gT := (x_gin (List.mem_append_right _ (tb_3 _ (List.mem_of_getElem? (i := 212) rfl))) rfl)
set_option maxRecDepth 100000 in
theorem m_J2_164 : Cond.methodLink RJ2 164 yJ11_isValidCodePoint_9a6ad ∈ gT := (x_gin (List.mem_append_right _ (tb_3 _ (List.mem_of_getElem? (i := 215) rfl))) rfl)
set_option maxRecDepth 100000 in
theorem m_J2_157 : Cond.methodLink RJ2 157 yJ11_highSurrogate_5068e ∈ gT := (x_gin (List.mem_append_right _ (tb_3 _ (List.mem_of_getElem? (i := 218) rfl))) rfl)
set_option maxRecDepth 100000 in
theorem m_J2_161 : Cond.methodLink RJ2 161 yJ11_lowSurrogate_5068e ∈ gT := (x_gin (List.mem_append_right _ (tb_3 _ (List.mem_of_getElem? (i := 222) rfl))) rfl)
set_option maxRecDepth 100000 in
theorem m_X2_35 : Cond.methodLink RX2 35 yX2_startAnew ∈ gT := (x_gin (List.mem_append_right _ (tb_3 _ (List.mem_of_getElem? (i := 226) rfl))) rfl)
set_option maxRecDepth 100000 in
theorem m_X2_38 : Cond.methodLink RX2 38 yX2_token ∈ gT := (x_gin (List.mem_append_right _ (tb_3 _ (List.mem_of_getElem? (i := 230) rfl))) rfl)
set_option maxRecDepth 100000 in
theorem m_X2_42 : Cond.methodLink RX2 42 yX2_readRuleLine ∈ gT := (x_gin (List.mem_append_right _ (tb_3 _ (List.mem_of_getElem? (i := 234) rfl))) rfl)
set_option maxRecDepth 100000 in
theorem m_X2_99 : Cond.methodLink RX2 99 yX2_readPair ∈ gT := (x_gin (List.mem_append_right _ (tb_3 _ (List.mem_of_getElem? (i := 238) rfl))) rfl)
set_option maxRecDepth 100000 in
theorem m_X2_103 : Cond.methodLink RX2 103 yX2_number ∈ gT := (x_gin (List.mem_append_right _ (tb_4 _ (List.mem_of_getElem? (i := 2) rfl))) rfl)
set_option maxRecDepth 100000 in
theorem m_X2_51 : Cond.methodLink RX2 51 yX2_pass ∈ gT := (x_gin (List.mem_append_right _ (tb_4 _ (List.mem_of_getElem? (i := 6) rfl))) rfl)
set_option maxRecDepth 100000 in
theorem m_X2_55 : Cond.methodLink RX2 55 yX2_refuse ∈ gT := (x_gin (List.mem_append_right _ (tb_4 _ (List.mem_of_getElem? (i := 10) rfl))) rfl)
set_option maxRecDepth 100000 in
theorem m_X2_107 : Cond.methodLink RX2 107 yX2_keepLine ∈ gT := (x_gin (List.mem_append_right _ (tb_4 _ (List.mem_of_getElem? (i := 14) rfl))) rfl)
set_option maxRecDepth 100000 in
theorem m_X2_46 : Cond.methodLink RX2 46 yX2_readWayLine ∈ gT := (x_gin (List.mem_append_right _ (tb_4 _ (List.mem_of_getElem? (i := 18) rfl))) rfl)
set_option maxRecDepth 100000 in
theorem m_X2_111 : Cond.methodLink RX2 111 yX2_readCondition ∈ gT := (x_gin (List.mem_append_right _ (tb_4 _ (List.mem_of_getElem? (i := 22) rfl))) rfl)
set_option maxRecDepth 100000 in
theorem m_X2_118 : Cond.methodLink RX2 118 yX2_readAtom ∈ gT := (x_gin (List.mem_append_right _ (tb_4 _ (List.mem_of_getElem? (i := 26) rfl))) rfl)
set_option maxRecDepth 100000 in
theorem m_X2_114 : Cond.methodLink RX2 114 yX2_keepStep ∈ gT := (x_gin (List.mem_append_right _ (tb_4 _ (List.mem_of_getElem? (i := 30) rfl))) rfl)
set_option maxRecDepth 100000 in
theorem m_X2_121 : Cond.methodLink RX2 121 yX2_readComparison ∈ gT := (x_gin (List.mem_append_right _ (tb_4 _ (List.mem_of_getElem? (i := 34) rfl))) rfl)
set_option maxRecDepth 100000 in
theorem m_X2_124 : Cond.methodLink RX2 124 yX2_readSum ∈ gT := (x_gin (List.mem_append_right _ (tb_4 _ (List.mem_of_getElem? (i := 38) rfl))) rfl)
set_option maxRecDepth 100000 in
theorem m_X10_100 : Cond.methodLink RX10 100 yX2_ruleRead ∈ gT := (x_gin (List.mem_append_right _ (tb_4 _ (List.mem_of_getElem? (i := 42) rfl))) rfl)
set_option maxRecDepth 100000 in
theorem m_X2_61 : Cond.methodLink RX2 61 yJ7_copyOf_59c91 ∈ gT := (x_gin (List.mem_append_right _ (tb_4 _ (List.mem_of_getElem? (i := 47) rfl))) rfl)
set_option maxRecDepth 100000 in
theorem m_J7_304 : Cond.methodLink RJ7 304 yJ9_min_7cf53 ∈ gT := (x_gin (List.mem_append_right _ (tb_4 _ (List.mem_of_getElem? (i := 57) rfl))) rfl)
set_option maxRecDepth 100000 in
theorem m_X2_67 : Cond.methodLink RX2 67 yX4_init ∈ gT := (x_gin (List.mem_append_right _ (tb_4 _ (List.mem_of_getElem? (i := 61) rfl))) rfl)
set_option maxRecDepth 100000 in
theorem m_X10_104 : Cond.methodLink RX10 104 yX0_addRule ∈ gT := (x_gin (List.mem_append_right _ (tb_4 _ (List.mem_of_getElem? (i := 62) rfl))) rfl)
set_option maxRecDepth 100000 in
theorem m_L_143 : Cond.methodLink RL 143 yL_way ∈ gT := (x_gin (List.mem_append_right _ (tb_4 _ (List.mem_of_getElem? (i := 66) rfl))) rfl)
set_option maxRecDepth 100000 in
theorem m_L_21 : Cond.methodLink RL 21 yX10_way ∈ gT := (x_gin (List.mem_append_right _ (tb_4 _ (List.mem_of_getElem? (i := 69) rfl))) rfl)
set_option maxRecDepth 100000 in
theorem m_X10_111 : Cond.methodLink RX10 111 yX2_wayRead ∈ gT := (x_gin (List.mem_append_right _ (tb_4 _ (List.mem_of_getElem? (i := 73) rfl))) rfl)
set_option maxRecDepth 100000 in
theorem m_X2_84 : Cond.methodLink RX2 84 yX9_init ∈ gT := (x_gin (List.mem_append_right _ (tb_4 _ (List.mem_of_getElem? (i := 78) rfl))) rfl)
set_option maxRecDepth 100000 in
theorem m_X10_115 : Cond.methodLink RX10 115 yX0_addWay ∈ gT := (x_gin (List.mem_append_right _ (tb_4 _ (List.mem_of_getElem? (i := 79) rfl))) rfl)
set_option maxRecDepth 100000 in
theorem m_L_150 : Cond.methodLink RL 150 yL_thing ∈ gT := (x_gin (List.mem_append_right _ (tb_4 _ (List.mem_of_getElem? (i := 83) rfl))) rfl)
set_option maxRecDepth 100000 in
theorem m_L_24 : Cond.methodLink RL 24 yX10_thing ∈ gT := (x_gin (List.mem_append_right _ (tb_4 _ (List.mem_of_getElem? (i := 86) rfl))) rfl)
set_option maxRecDepth 100000 in
theorem m_L_154 : Cond.methodLink RL 154 yL_look ∈ gT := (x_gin (List.mem_append_right _ (tb_4 _ (List.mem_of_getElem? (i := 90) rfl))) rfl)
set_option maxRecDepth 100000 in
theorem m_L_28 : Cond.methodLink RL 28 yX10_look ∈ gT := (x_gin (List.mem_append_right _ (tb_4 _ (List.mem_of_getElem? (i := 95) rfl))) rfl)
set_option maxRecDepth 100000 in
theorem m_X10_125 : Cond.methodLink RX10 125 yX10_demandRow ∈ gT := (x_gin (List.mem_append_right _ (tb_4 _ (List.mem_of_getElem? (i := 99) rfl))) rfl)
set_option maxRecDepth 100000 in
theorem m_X10_129 : Cond.methodLink RX10 129 yX10_demandWhat ∈ gT := (x_gin (List.mem_append_right _ (tb_4 _ (List.mem_of_getElem? (i := 118) rfl))) rfl)
set_option maxRecDepth 100000 in
theorem m_X10_140 : Cond.methodLink RX10 140 yX6_settle ∈ gT := (x_gin (List.mem_append_right _ (tb_4 _ (List.mem_of_getElem? (i := 137) rfl))) rfl)
set_option maxRecDepth 100000 in
theorem m_X6_37 : Cond.methodLink RX6 37 yJ7_fill_53178 ∈ gT := (x_gin (List.mem_append_right _ (tb_4 _ (List.mem_of_getElem? (i := 141) rfl))) rfl)
set_option maxRecDepth 100000 in
theorem m_X6_43 : Cond.methodLink RX6 43 yX4_lineCount ∈ gT := (x_gin (List.mem_append_right _ (tb_4 _ (List.mem_of_getElem? (i := 142) rfl))) rfl)
set_option maxRecDepth 100000 in
theorem m_X6_52 : Cond.methodLink RX6 52 yX6_settleLine ∈ gT := (x_gin (List.mem_append_right _ (tb_4 _ (List.mem_of_getElem? (i := 146) rfl))) rfl)
set_option maxRecDepth 100000 in
theorem m_X6_58 : Cond.methodLink RX6 58 yX7_get ∈ gT := (x_gin (List.mem_append_right _ (tb_4 _ (List.mem_of_getElem? (i := 150) rfl))) rfl)
set_option maxRecDepth 100000 in
theorem m_X10_149 : Cond.methodLink RX10 149 yX6_litSeconds ∈ gT := (x_gin (List.mem_append_right _ (tb_4 _ (List.mem_of_getElem? (i := 151) rfl))) rfl)
set_option maxRecDepth 100000 in
theorem m_X10_153 : Cond.methodLink RX10 153 yX4_lineCount ∈ gT := (x_gin (List.mem_append_right _ (tb_4 _ (List.mem_of_getElem? (i := 155) rfl))) rfl)
set_option maxRecDepth 100000 in
theorem m_L_157 : Cond.methodLink RL 157 yL_needs ∈ gT := (x_gin (List.mem_append_right _ (tb_4 _ (List.mem_of_getElem? (i := 156) rfl))) rfl)
set_option maxRecDepth 100000 in
theorem m_L_35 : Cond.methodLink RL 35 yX10_needs ∈ gT := (x_gin (List.mem_append_right _ (tb_4 _ (List.mem_of_getElem? (i := 159) rfl))) rfl)
set_option maxRecDepth 100000 in
theorem m_X10_168 : Cond.methodLink RX10 168 yX6_setsThatMeet ∈ gT := (x_gin (List.mem_append_right _ (tb_4 _ (List.mem_of_getElem? (i := 163) rfl))) rfl)
set_option maxRecDepth 100000 in
theorem m_X6_74 : Cond.methodLink RX6 74 yJ9_min_7cf53 ∈ gT := (x_gin (List.mem_append_right _ (tb_4 _ (List.mem_of_getElem? (i := 168) rfl))) rfl)
set_option maxRecDepth 100000 in
theorem m_X6_79 : Cond.methodLink RX6 79 yX6_setsThatCompare ∈ gT := (x_gin (List.mem_append_right _ (tb_4 _ (List.mem_of_getElem? (i := 169) rfl))) rfl)
set_option maxRecDepth 100000 in
theorem m_X6_83 : Cond.methodLink RX6 83 yJ9_max_7cf53 ∈ gT := (x_gin (List.mem_append_right _ (tb_4 _ (List.mem_of_getElem? (i := 174) rfl))) rfl)
set_option maxRecDepth 100000 in
theorem m_X6_86 : Cond.methodLink RX6 86 yX6_isTag ∈ gT := (x_gin (List.mem_append_right _ (tb_4 _ (List.mem_of_getElem? (i := 175) rfl))) rfl)
set_option maxRecDepth 100000 in
theorem m_X6_90 : Cond.methodLink RX6 90 yX6_setsOfTag ∈ gT := (x_gin (List.mem_append_right _ (tb_4 _ (List.mem_of_getElem? (i := 178) rfl))) rfl)
set_option maxRecDepth 100000 in
theorem m_X6_93 : Cond.methodLink RX6 93 yX6_partOf ∈ gT := (x_gin (List.mem_append_right _ (tb_4 _ (List.mem_of_getElem? (i := 185) rfl))) rfl)
set_option maxRecDepth 100000 in
theorem m_X10_172 : Cond.methodLink RX10 172 yX10_hasBit ∈ gT := (x_gin (List.mem_append_right _ (tb_4 _ (List.mem_of_getElem? (i := 189) rfl))) rfl)
set_option maxRecDepth 100000 in
theorem m_L_161 : Cond.methodLink RL 161 yL_note ∈ gT := (x_gin (List.mem_append_right _ (tb_4 _ (List.mem_of_getElem? (i := 190) rfl))) rfl)
set_option maxRecDepth 100000 in
theorem m_L_39 : Cond.methodLink RL 39 yX10_note ∈ gT := (x_gin (List.mem_append_right _ (tb_4 _ (List.mem_of_getElem? (i := 193) rfl))) rfl)
set_option maxRecDepth 100000 in
theorem m_L_168 : Cond.methodLink RL 168 yL_can ∈ gT := (x_gin (List.mem_append_right _ (tb_4 _ (List.mem_of_getElem? (i := 197) rfl))) rfl)
set_option maxRecDepth 100000 in
theorem m_L_42 : Cond.methodLink RL 42 yX10_can ∈ gT := (x_gin (List.mem_append_right _ (tb_4 _ (List.mem_of_getElem? (i := 200) rfl))) rfl)
set_option maxRecDepth 100000 in
theorem m_X10_182 : Cond.methodLink RX10 182 yX1_prepare ∈ gT := (x_gin (List.mem_append_right _ (tb_4 _ (List.mem_of_getElem? (i := 204) rfl))) rfl)
set_option maxRecDepth 100000 in
theorem m_X1_54 : Cond.methodLink RX1 54 yX6_settle ∈ gT := (x_gin (List.mem_append_right _ (tb_4 _ (List.mem_of_getElem? (i := 208) rfl))) rfl)
set_option maxRecDepth 100000 in
theorem m_X1_58 : Cond.methodLink RX1 58 yX1_allowUnseen ∈ gT := (x_gin (List.mem_append_right _ (tb_4 _ (List.mem_of_getElem? (i := 209) rfl))) rfl)
set_option maxRecDepth 100000 in
theorem m_X1_73 : Cond.methodLink RX1 73 yX9_setsItChanges ∈ gT := (x_gin (List.mem_append_right _ (tb_4 _ (List.mem_of_getElem? (i := 215) rfl))) rfl)
set_option maxRecDepth 100000 in
theorem m_X1_82 : Cond.methodLink RX1 82 yX6_setsThatMeet ∈ gT := (x_gin (List.mem_append_right _ (tb_4 _ (List.mem_of_getElem? (i := 222) rfl))) rfl)
set_option maxRecDepth 100000 in
theorem m_X10_186 : Cond.methodLink RX10 186 yX1_bringsAllNotes ∈ gT := (x_gin (List.mem_append_right _ (tb_4 _ (List.mem_of_getElem? (i := 223) rfl))) rfl)
set_option maxRecDepth 100000 in
theorem m_X1_94 : Cond.methodLink RX1 94 yX7_get ∈ gT := (x_gin (List.mem_append_right _ (tb_4 _ (List.mem_of_getElem? (i := 227) rfl))) rfl)
set_option maxRecDepth 100000 in
theorem m_X1_98 : Cond.methodLink RX1 98 yX0_setsFor ∈ gT := (x_gin (List.mem_append_right _ (tb_4 _ (List.mem_of_getElem? (i := 228) rfl))) rfl)
set_option maxRecDepth 100000 in
theorem m_X0_70 : Cond.methodLink RX0 70 yX0_greatestReach ∈ gT := (x_gin (List.mem_append_right _ (tb_4 _ (List.mem_of_getElem? (i := 232) rfl))) rfl)
set_option maxRecDepth 100000 in
theorem m_X0_89 : Cond.methodLink RX0 89 yJ9_max_7cf53 ∈ gT := (x_gin (List.mem_append_right _ (tb_4 _ (List.mem_of_getElem? (i := 237) rfl))) rfl)
set_option maxRecDepth 100000 in
theorem m_X0_73 : Cond.methodLink RX0 73 yX7_get ∈ gT := (x_gin (List.mem_append_right _ (tb_4 _ (List.mem_of_getElem? (i := 238) rfl))) rfl)
set_option maxRecDepth 100000 in
theorem m_X0_77 : Cond.methodLink RX0 77 yJ6_bitCount_0f7a4 ∈ gT := (x_gin (List.mem_append_right _ (tb_4 _ (List.mem_of_getElem? (i := 239) rfl))) rfl)
set_option maxRecDepth 100000 in
theorem m_X1_101 : Cond.methodLink RX1 101 yX1_walk ∈ gT := (x_gin (List.mem_append_right _ (tb_5 _ (List.mem_of_getElem? (i := 5) rfl))) rfl)
set_option maxRecDepth 100000 in
theorem m_X1_109 : Cond.methodLink RX1 109 yX1_withAllTheirParts ∈ gT := (x_gin (List.mem_append_right _ (tb_5 _ (List.mem_of_getElem? (i := 9) rfl))) rfl)
set_option maxRecDepth 100000 in
theorem m_X1_113 : Cond.methodLink RX1 113 yX1_freedBehind ∈ gT := (x_gin (List.mem_append_right _ (tb_5 _ (List.mem_of_getElem? (i := 13) rfl))) rfl)
set_option maxRecDepth 100000 in
theorem m_X1_122 : Cond.methodLink RX1 122 yX9_freed ∈ gT := (x_gin (List.mem_append_right _ (tb_5 _ (List.mem_of_getElem? (i := 17) rfl))) rfl)
set_option maxRecDepth 100000 in
theorem m_L_172 : Cond.methodLink RL 172 yL_fewest ∈ gT := (x_gin (List.mem_append_right _ (tb_5 _ (List.mem_of_getElem? (i := 21) rfl))) rfl)
set_option maxRecDepth 100000 in
theorem m_L_46 : Cond.methodLink RL 46 yX10_fewest ∈ gT := (x_gin (List.mem_append_right _ (tb_5 _ (List.mem_of_getElem? (i := 24) rfl))) rfl)
set_option maxRecDepth 100000 in
theorem m_X10_190 : Cond.methodLink RX10 190 yX0_allWays ∈ gT := (x_gin (List.mem_append_right _ (tb_5 _ (List.mem_of_getElem? (i := 28) rfl))) rfl)
set_option maxRecDepth 100000 in
theorem m_X10_193 : Cond.methodLink RX10 193 yJ6_bitCount_0f7a4 ∈ gT := (x_gin (List.mem_append_right _ (tb_5 _ (List.mem_of_getElem? (i := 33) rfl))) rfl)
set_option maxRecDepth 100000 in
theorem m_L_176 : Cond.methodLink RL 176 yL_earliest ∈ gT := (x_gin (List.mem_append_right _ (tb_5 _ (List.mem_of_getElem? (i := 34) rfl))) rfl)
set_option maxRecDepth 100000 in
theorem m_L_50 : Cond.methodLink RL 50 yX10_earliest ∈ gT := (x_gin (List.mem_append_right _ (tb_5 _ (List.mem_of_getElem? (i := 37) rfl))) rfl)
set_option maxRecDepth 100000 in
theorem m_X10_199 : Cond.methodLink RX10 199 yX1_walk ∈ gT := (x_gin (List.mem_append_right _ (tb_5 _ (List.mem_of_getElem? (i := 41) rfl))) rfl)
set_option maxRecDepth 100000 in
theorem m_X10_202 : Cond.methodLink RX10 202 yX0_setsFor ∈ gT := (x_gin (List.mem_append_right _ (tb_5 _ (List.mem_of_getElem? (i := 42) rfl))) rfl)
set_option maxRecDepth 100000 in
theorem m_X10_206 : Cond.methodLink RX10 206 yX1_firstSecondOf ∈ gT := (x_gin (List.mem_append_right _ (tb_5 _ (List.mem_of_getElem? (i := 43) rfl))) rfl)
set_option maxRecDepth 100000 in
theorem m_L_180 : Cond.methodLink RL 180 yL_may ∈ gT := (x_gin (List.mem_append_right _ (tb_5 _ (List.mem_of_getElem? (i := 47) rfl))) rfl)
set_option maxRecDepth 100000 in
theorem m_L_54 : Cond.methodLink RL 54 yX10_may ∈ gT := (x_gin (List.mem_append_right _ (tb_5 _ (List.mem_of_getElem? (i := 50) rfl))) rfl)
set_option maxRecDepth 100000 in
theorem m_X10_209 : Cond.methodLink RX10 209 yX1_limbsAt ∈ gT := (x_gin (List.mem_append_right _ (tb_5 _ (List.mem_of_getElem? (i := 54) rfl))) rfl)
set_option maxRecDepth 100000 in
theorem m_L_183 : Cond.methodLink RL 183 yL_shut ∈ gT := (x_gin (List.mem_append_right _ (tb_5 _ (List.mem_of_getElem? (i := 58) rfl))) rfl)
set_option maxRecDepth 100000 in
theorem m_L_57 : Cond.methodLink RL 57 yX10_shut ∈ gT := (x_gin (List.mem_append_right _ (tb_5 _ (List.mem_of_getElem? (i := 61) rfl))) rfl)
set_option maxRecDepth 100000 in
theorem m_X10_212 : Cond.methodLink RX10 212 yX1_canEver ∈ gT := (x_gin (List.mem_append_right _ (tb_5 _ (List.mem_of_getElem? (i := 65) rfl))) rfl)
set_option maxRecDepth 100000 in
theorem m_X1_125 : Cond.methodLink RX1 125 yX0_allWays ∈ gT := (x_gin (List.mem_append_right _ (tb_5 _ (List.mem_of_getElem? (i := 69) rfl))) rfl)
set_option maxRecDepth 100000 in
theorem m_X1_128 : Cond.methodLink RX1 128 yX1_prepare ∈ gT := (x_gin (List.mem_append_right _ (tb_5 _ (List.mem_of_getElem? (i := 70) rfl))) rfl)
set_option maxRecDepth 100000 in
theorem m_L_187 : Cond.methodLink RL 187 yL_opens ∈ gT := (x_gin (List.mem_append_right _ (tb_5 _ (List.mem_of_getElem? (i := 71) rfl))) rfl)
set_option maxRecDepth 100000 in
theorem m_L_61 : Cond.methodLink RL 61 yX10_opens ∈ gT := (x_gin (List.mem_append_right _ (tb_5 _ (List.mem_of_getElem? (i := 74) rfl))) rfl)
set_option maxRecDepth 100000 in
theorem m_L_190 : Cond.methodLink RL 190 yL_trap ∈ gT := (x_gin (List.mem_append_right _ (tb_5 _ (List.mem_of_getElem? (i := 78) rfl))) rfl)
set_option maxRecDepth 100000 in
theorem m_L_64 : Cond.methodLink RL 64 yX10_trap ∈ gT := (x_gin (List.mem_append_right _ (tb_5 _ (List.mem_of_getElem? (i := 81) rfl))) rfl)
set_option maxRecDepth 100000 in
theorem m_L_193 : Cond.methodLink RL 193 yL_story ∈ gT := (x_gin (List.mem_append_right _ (tb_5 _ (List.mem_of_getElem? (i := 85) rfl))) rfl)
set_option maxRecDepth 100000 in
theorem m_L_67 : Cond.methodLink RL 67 yX10_story ∈ gT := (x_gin (List.mem_append_right _ (tb_5 _ (List.mem_of_getElem? (i := 88) rfl))) rfl)
set_option maxRecDepth 100000 in
theorem m_L_196 : Cond.methodLink RL 196 yL_night ∈ gT := (x_gin (List.mem_append_right _ (tb_5 _ (List.mem_of_getElem? (i := 92) rfl))) rfl)
set_option maxRecDepth 100000 in
theorem m_L_70 : Cond.methodLink RL 70 yX10_night ∈ gT := (x_gin (List.mem_append_right _ (tb_5 _ (List.mem_of_getElem? (i := 95) rfl))) rfl)
set_option maxRecDepth 100000 in
theorem m_X10_222 : Cond.methodLink RX10 222 yX10_isOfFirst ∈ gT := (x_gin (List.mem_append_right _ (tb_5 _ (List.mem_of_getElem? (i := 99) rfl))) rfl)
set_option maxRecDepth 100000 in
theorem m_X10_329 : Cond.methodLink RX10 329 yX10_firstBits ∈ gT := (x_gin (List.mem_append_right _ (tb_5 _ (List.mem_of_getElem? (i := 102) rfl))) rfl)
set_option maxRecDepth 100000 in
theorem m_L_200 : Cond.methodLink RL 200 yL_odds ∈ gT := (x_gin (List.mem_append_right _ (tb_5 _ (List.mem_of_getElem? (i := 103) rfl))) rfl)
set_option maxRecDepth 100000 in
theorem m_L_74 : Cond.methodLink RL 74 yX10_odds ∈ gT := (x_gin (List.mem_append_right _ (tb_5 _ (List.mem_of_getElem? (i := 106) rfl))) rfl)
set_option maxRecDepth 100000 in
theorem m_X10_228 : Cond.methodLink RX10 228 yX10_reckonOdds ∈ gT := (x_gin (List.mem_append_right _ (tb_5 _ (List.mem_of_getElem? (i := 110) rfl))) rfl)
set_option maxRecDepth 100000 in
theorem m_X10_246 : Cond.methodLink RX10 246 yX7_get ∈ gT := (x_gin (List.mem_append_right _ (tb_5 _ (List.mem_of_getElem? (i := 114) rfl))) rfl)
set_option maxRecDepth 100000 in
theorem m_X10_332 : Cond.methodLink RX10 332 yX10_sharesToOdds ∈ gT := (x_gin (List.mem_append_right _ (tb_5 _ (List.mem_of_getElem? (i := 115) rfl))) rfl)
set_option maxRecDepth 100000 in
theorem m_X10_231 : Cond.methodLink RX10 231 yX10_allFactors ∈ gT := (x_gin (List.mem_append_right _ (tb_5 _ (List.mem_of_getElem? (i := 120) rfl))) rfl)
set_option maxRecDepth 100000 in
theorem m_X10_341 : Cond.methodLink RX10 341 yX10_trapFactors ∈ gT := (x_gin (List.mem_append_right _ (tb_5 _ (List.mem_of_getElem? (i := 127) rfl))) rfl)
set_option maxRecDepth 100000 in
theorem m_X10_235 : Cond.methodLink RX10 235 yX10_springs ∈ gT := (x_gin (List.mem_append_right _ (tb_5 _ (List.mem_of_getElem? (i := 131) rfl))) rfl)
set_option maxRecDepth 100000 in
theorem m_L_203 : Cond.methodLink RL 203 yL_oddsBy ∈ gT := (x_gin (List.mem_append_right _ (tb_5 _ (List.mem_of_getElem? (i := 135) rfl))) rfl)
set_option maxRecDepth 100000 in
theorem m_L_77 : Cond.methodLink RL 77 yX10_oddsBy ∈ gT := (x_gin (List.mem_append_right _ (tb_5 _ (List.mem_of_getElem? (i := 138) rfl))) rfl)
set_option maxRecDepth 100000 in
theorem m_L_206 : Cond.methodLink RL 206 yL_factor ∈ gT := (x_gin (List.mem_append_right _ (tb_5 _ (List.mem_of_getElem? (i := 142) rfl))) rfl)
set_option maxRecDepth 100000 in
theorem m_L_80 : Cond.methodLink RL 80 yX10_factor ∈ gT := (x_gin (List.mem_append_right _ (tb_5 _ (List.mem_of_getElem? (i := 145) rfl))) rfl)
set_option maxRecDepth 100000 in
theorem m_L_209 : Cond.methodLink RL 209 yL_says ∈ gT := (x_gin (List.mem_append_right _ (tb_5 _ (List.mem_of_getElem? (i := 149) rfl))) rfl)
set_option maxRecDepth 100000 in
theorem m_L_84 : Cond.methodLink RL 84 yX10_says ∈ gT := (x_gin (List.mem_append_right _ (tb_5 _ (List.mem_of_getElem? (i := 152) rfl))) rfl)
set_option maxRecDepth 100000 in
theorem m_X10_240 : Cond.methodLink RX10 240 yJ9_abs_067f4 ∈ gT := (x_gin (List.mem_append_right _ (tb_5 _ (List.mem_of_getElem? (i := 156) rfl))) rfl)
set_option maxRecDepth 100000 in
theorem m_L_212 : Cond.methodLink RL 212 yL_with ∈ gT := (x_gin (List.mem_append_right _ (tb_5 _ (List.mem_of_getElem? (i := 159) rfl))) rfl)
set_option maxRecDepth 100000 in
theorem m_L_88 : Cond.methodLink RL 88 yX10_with ∈ gT := (x_gin (List.mem_append_right _ (tb_5 _ (List.mem_of_getElem? (i := 162) rfl))) rfl)
set_option maxRecDepth 100000 in
theorem m_X10_249 : Cond.methodLink RX10 249 yX10_choicesWithAtLeast ∈ gT := (x_gin (List.mem_append_right _ (tb_5 _ (List.mem_of_getElem? (i := 166) rfl))) rfl)
set_option maxRecDepth 100000 in
theorem m_X10_344 : Cond.methodLink RX10 344 yX10_choices ∈ gT := (x_gin (List.mem_append_right _ (tb_5 _ (List.mem_of_getElem? (i := 170) rfl))) rfl)
set_option maxRecDepth 100000 in
theorem m_L_215 : Cond.methodLink RL 215 yL_knew ∈ gT := (x_gin (List.mem_append_right _ (tb_5 _ (List.mem_of_getElem? (i := 173) rfl))) rfl)
set_option maxRecDepth 100000 in
theorem m_L_91 : Cond.methodLink RL 91 yX10_knew ∈ gT := (x_gin (List.mem_append_right _ (tb_5 _ (List.mem_of_getElem? (i := 176) rfl))) rfl)
set_option maxRecDepth 100000 in
theorem m_L_219 : Cond.methodLink RL 219 yL_told ∈ gT := (x_gin (List.mem_append_right _ (tb_5 _ (List.mem_of_getElem? (i := 180) rfl))) rfl)
set_option maxRecDepth 100000 in
theorem m_L_95 : Cond.methodLink RL 95 yX10_told ∈ gT := (x_gin (List.mem_append_right _ (tb_5 _ (List.mem_of_getElem? (i := 183) rfl))) rfl)
set_option maxRecDepth 100000 in
theorem m_L_222 : Cond.methodLink RL 222 yL_knows ∈ gT := (x_gin (List.mem_append_right _ (tb_5 _ (List.mem_of_getElem? (i := 187) rfl))) rfl)
set_option maxRecDepth 100000 in
theorem m_L_98 : Cond.methodLink RL 98 yX10_knows ∈ gT := (x_gin (List.mem_append_right _ (tb_5 _ (List.mem_of_getElem? (i := 190) rfl))) rfl)
set_option maxRecDepth 100000 in
theorem m_X10_259 : Cond.methodLink RX10 259 yX10_knowersOn ∈ gT := (x_gin (List.mem_append_right _ (tb_5 _ (List.mem_of_getElem? (i := 194) rfl))) rfl)
set_option maxRecDepth 100000 in
theorem m_X10_347 : Cond.methodLink RX10 347 yX10_spread ∈ gT := (x_gin (List.mem_append_right _ (tb_5 _ (List.mem_of_getElem? (i := 198) rfl))) rfl)
set_option maxRecDepth 100000 in
theorem m_L_225 : Cond.methodLink RL 225 yL_whence ∈ gT := (x_gin (List.mem_append_right _ (tb_5 _ (List.mem_of_getElem? (i := 202) rfl))) rfl)
set_option maxRecDepth 100000 in
theorem m_L_101 : Cond.methodLink RL 101 yX10_whence ∈ gT := (x_gin (List.mem_append_right _ (tb_5 _ (List.mem_of_getElem? (i := 205) rfl))) rfl)
set_option maxRecDepth 100000 in
theorem m_X10_262 : Cond.methodLink RX10 262 yX10_neededTellers ∈ gT := (x_gin (List.mem_append_right _ (tb_5 _ (List.mem_of_getElem? (i := 209) rfl))) rfl)
set_option maxRecDepth 100000 in
theorem m_X10_265 : Cond.methodLink RX10 265 yX10_sources ∈ gT := (x_gin (List.mem_append_right _ (tb_5 _ (List.mem_of_getElem? (i := 213) rfl))) rfl)
set_option maxRecDepth 100000 in
theorem m_L_228 : Cond.methodLink RL 228 yL_knot ∈ gT := (x_gin (List.mem_append_right _ (tb_5 _ (List.mem_of_getElem? (i := 217) rfl))) rfl)
set_option maxRecDepth 100000 in
theorem m_L_104 : Cond.methodLink RL 104 yX10_knot ∈ gT := (x_gin (List.mem_append_right _ (tb_5 _ (List.mem_of_getElem? (i := 220) rfl))) rfl)
set_option maxRecDepth 100000 in
theorem m_L_232 : Cond.methodLink RL 232 yL_rope ∈ gT := (x_gin (List.mem_append_right _ (tb_5 _ (List.mem_of_getElem? (i := 224) rfl))) rfl)
set_option maxRecDepth 100000 in
theorem m_L_108 : Cond.methodLink RL 108 yX10_rope ∈ gT := (x_gin (List.mem_append_right _ (tb_5 _ (List.mem_of_getElem? (i := 227) rfl))) rfl)
set_option maxRecDepth 100000 in
theorem m_L_243 : Cond.methodLink RL 243 yL_tale ∈ gT := (x_gin (List.mem_append_right _ (tb_5 _ (List.mem_of_getElem? (i := 231) rfl))) rfl)
set_option maxRecDepth 100000 in
theorem m_L_111 : Cond.methodLink RL 111 yX10_tale ∈ gT := (x_gin (List.mem_append_right _ (tb_5 _ (List.mem_of_getElem? (i := 234) rfl))) rfl)
set_option maxRecDepth 100000 in
theorem m_X10_289 : Cond.methodLink RX10 289 yJ9_min_f86c9 ∈ gT := (x_gin (List.mem_append_right _ (tb_6 _ (List.mem_of_getElem? (i := 1) rfl))) rfl)
set_option maxRecDepth 100000 in
theorem m_L_246 : Cond.methodLink RL 246 yL_cold ∈ gT := (x_gin (List.mem_append_right _ (tb_6 _ (List.mem_of_getElem? (i := 4) rfl))) rfl)
set_option maxRecDepth 100000 in
theorem m_L_114 : Cond.methodLink RL 114 yX10_cold ∈ gT := (x_gin (List.mem_append_right _ (tb_6 _ (List.mem_of_getElem? (i := 7) rfl))) rfl)
set_option maxRecDepth 100000 in
theorem m_X10_293 : Cond.methodLink RX10 293 yJ9_abs_0f7a4 ∈ gT := (x_gin (List.mem_append_right _ (tb_6 _ (List.mem_of_getElem? (i := 11) rfl))) rfl)
set_option maxRecDepth 100000 in
theorem m_X10_295 : Cond.methodLink RX10 295 yJ9_min_7cf53 ∈ gT := (x_gin (List.mem_append_right _ (tb_6 _ (List.mem_of_getElem? (i := 14) rfl))) rfl)
set_option maxRecDepth 100000 in
theorem m_X10_297 : Cond.methodLink RX10 297 yJ9_max_7cf53 ∈ gT := (x_gin (List.mem_append_right _ (tb_6 _ (List.mem_of_getElem? (i := 15) rfl))) rfl)
set_option maxRecDepth 100000 in
theorem m_L_136 : Cond.methodLink RL 136 yX11_thrown ∈ gT := (x_gin (List.mem_append_right _ (tb_6 _ (List.mem_of_getElem? (i := 16) rfl))) rfl)
set_option maxRecDepth 100000 in
theorem m_L_120 : Cond.methodLink RL 120 yX11_init ∈ gT := (x_gin (List.mem_append_right _ (tb_6 _ (List.mem_of_getElem? (i := 22) rfl))) rfl)
set_option maxRecDepth 100000 in
theorem m_L_252 : Cond.methodLink RL 252 yX11_image ∈ gT := (x_gin (List.mem_append_right _ (tb_6 _ (List.mem_of_getElem? (i := 118) rfl))) rfl)
set_option maxRecDepth 100000 in
theorem m_L_257 : Cond.methodLink RL 257 yX11_back ∈ gT := (x_gin (List.mem_append_right _ (tb_6 _ (List.mem_of_getElem? (i := 122) rfl))) rfl)
set_option maxRecDepth 100000 in
theorem m_L_135 : Cond.methodLink RL 135 yX11_person ∈ gT := (x_gin (List.mem_append_right _ (tb_6 _ (List.mem_of_getElem? (i := 126) rfl))) rfl)
set_option maxRecDepth 100000 in
theorem m_X11_81 : Cond.methodLink RX11 81 yX11_in ∈ gT := (x_gin (List.mem_append_right _ (tb_6 _ (List.mem_of_getElem? (i := 130) rfl))) rfl)
set_option maxRecDepth 100000 in
theorem m_X11_85 : Cond.methodLink RX11 85 yX11_throwsIf ∈ gT := (x_gin (List.mem_append_right _ (tb_6 _ (List.mem_of_getElem? (i := 133) rfl))) rfl)
set_option maxRecDepth 100000 in
theorem m_X11_89 : Cond.methodLink RX11 89 yX11_puts ∈ gT := (x_gin (List.mem_append_right _ (tb_6 _ (List.mem_of_getElem? (i := 137) rfl))) rfl)
set_option maxRecDepth 100000 in
theorem m_L_153 : Cond.methodLink RL 153 yX11_thing ∈ gT := (x_gin (List.mem_append_right _ (tb_6 _ (List.mem_of_getElem? (i := 141) rfl))) rfl)
set_option maxRecDepth 100000 in
theorem m_L_124 : Cond.methodLink RL 124 yX11_feed ∈ gT := (x_gin (List.mem_append_right _ (tb_6 _ (List.mem_of_getElem? (i := 145) rfl))) rfl)
set_option maxRecDepth 100000 in
theorem m_L_129 : Cond.methodLink RL 129 yX11_end ∈ gT := (x_gin (List.mem_append_right _ (tb_6 _ (List.mem_of_getElem? (i := 149) rfl))) rfl)
set_option maxRecDepth 100000 in
theorem m_L_149 : Cond.methodLink RL 149 yX11_fault ∈ gT := (x_gin (List.mem_append_right _ (tb_6 _ (List.mem_of_getElem? (i := 153) rfl))) rfl)
set_option maxRecDepth 100000 in
theorem m_L_142 : Cond.methodLink RL 142 yX11_rule ∈ gT := (x_gin (List.mem_append_right _ (tb_6 _ (List.mem_of_getElem? (i := 157) rfl))) rfl)
set_option maxRecDepth 100000 in
theorem m_X11_245 : Cond.methodLink RX11 245 yX11_keeps ∈ gT := (x_gin (List.mem_append_right _ (tb_6 _ (List.mem_of_getElem? (i := 161) rfl))) rfl)
set_option maxRecDepth 100000 in
theorem m_X11_238 : Cond.methodLink RX11 238 yX11_uses ∈ gT := (x_gin (List.mem_append_right _ (tb_6 _ (List.mem_of_getElem? (i := 165) rfl))) rfl)
set_option maxRecDepth 100000 in
theorem m_X11_241 : Cond.methodLink RX11 241 yX11_readAll ∈ gT := (x_gin (List.mem_append_right _ (tb_6 _ (List.mem_of_getElem? (i := 169) rfl))) rfl)
set_option maxRecDepth 100000 in
theorem m_X11_112 : Cond.methodLink RX11 112 yX11_blanks ∈ gT := (x_gin (List.mem_append_right _ (tb_6 _ (List.mem_of_getElem? (i := 173) rfl))) rfl)
set_option maxRecDepth 100000 in
theorem m_X11_105 : Cond.methodLink RX11 105 yX11_isAt ∈ gT := (x_gin (List.mem_append_right _ (tb_6 _ (List.mem_of_getElem? (i := 177) rfl))) rfl)
set_option maxRecDepth 100000 in
theorem m_X11_234 : Cond.methodLink RX11 234 yX11_readLine ∈ gT := (x_gin (List.mem_append_right _ (tb_6 _ (List.mem_of_getElem? (i := 181) rfl))) rfl)
set_option maxRecDepth 100000 in
theorem m_X11_125 : Cond.methodLink RX11 125 yX11_letters ∈ gT := (x_gin (List.mem_append_right _ (tb_6 _ (List.mem_of_getElem? (i := 185) rfl))) rfl)
set_option maxRecDepth 100000 in
theorem m_X11_136 : Cond.methodLink RX11 136 yX11_lineAt ∈ gT := (x_gin (List.mem_append_right _ (tb_6 _ (List.mem_of_getElem? (i := 189) rfl))) rfl)
set_option maxRecDepth 100000 in
theorem m_X11_132 : Cond.methodLink RX11 132 yX11_textAt ∈ gT := (x_gin (List.mem_append_right _ (tb_6 _ (List.mem_of_getElem? (i := 192) rfl))) rfl)
set_option maxRecDepth 100000 in
theorem m_X11_228 : Cond.methodLink RX11 228 yX11_readRule ∈ gT := (x_gin (List.mem_append_right _ (tb_6 _ (List.mem_of_getElem? (i := 195) rfl))) rfl)
set_option maxRecDepth 100000 in
theorem m_X11_128 : Cond.methodLink RX11 128 yX11_isWord ∈ gT := (x_gin (List.mem_append_right _ (tb_6 _ (List.mem_of_getElem? (i := 200) rfl))) rfl)
set_option maxRecDepth 100000 in
theorem m_X11_115 : Cond.methodLink RX11 115 yJ0_length_8abf5 ∈ gT := (x_gin (List.mem_append_right _ (tb_6 _ (List.mem_of_getElem? (i := 204) rfl))) rfl)
set_option maxRecDepth 100000 in
theorem m_X11_121 : Cond.methodLink RX11 121 yJ0_charAt_5068e ∈ gT := (x_gin (List.mem_append_right _ (tb_6 _ (List.mem_of_getElem? (i := 205) rfl))) rfl)
set_option maxRecDepth 100000 in
theorem m_X11_140 : Cond.methodLink RX11 140 yX11_number ∈ gT := (x_gin (List.mem_append_right _ (tb_6 _ (List.mem_of_getElem? (i := 209) rfl))) rfl)
set_option maxRecDepth 100000 in
theorem m_X11_211 : Cond.methodLink RX11 211 yX11_tells ∈ gT := (x_gin (List.mem_append_right _ (tb_6 _ (List.mem_of_getElem? (i := 213) rfl))) rfl)
set_option maxRecDepth 100000 in
theorem m_X11_215 : Cond.methodLink RX11 215 yX11_needsWord ∈ gT := (x_gin (List.mem_append_right _ (tb_6 _ (List.mem_of_getElem? (i := 218) rfl))) rfl)
set_option maxRecDepth 100000 in
theorem m_X11_231 : Cond.methodLink RX11 231 yX11_readWay ∈ gT := (x_gin (List.mem_append_right _ (tb_6 _ (List.mem_of_getElem? (i := 223) rfl))) rfl)
set_option maxRecDepth 100000 in
theorem m_X11_181 : Cond.methodLink RX11 181 yX11_readCond ∈ gT := (x_gin (List.mem_append_right _ (tb_6 _ (List.mem_of_getElem? (i := 231) rfl))) rfl)
set_option maxRecDepth 100000 in
theorem m_X11_200 : Cond.methodLink RX11 200 yX11_readAllOf ∈ gT := (x_gin (List.mem_append_right _ (tb_6 _ (List.mem_of_getElem? (i := 235) rfl))) rfl)
set_option maxRecDepth 100000 in
theorem m_X11_189 : Cond.methodLink RX11 189 yX11_readAtom ∈ gT := (x_gin (List.mem_append_right _ (tb_6 _ (List.mem_of_getElem? (i := 239) rfl))) rfl)
set_option maxRecDepth 100000 in
theorem m_X11_163 : Cond.methodLink RX11 163 yX11_sign ∈ gT := (x_gin (List.mem_append_right _ (tb_7 _ (List.mem_of_getElem? (i := 3) rfl))) rfl)
set_option maxRecDepth 100000 in
theorem m_X11_186 : Cond.methodLink RX11 186 yX11_passes ∈ gT := (x_gin (List.mem_append_right _ (tb_7 _ (List.mem_of_getElem? (i := 8) rfl))) rfl)
set_option maxRecDepth 100000 in
theorem m_X11_143 : Cond.methodLink RX11 143 yX11_emits ∈ gT := (x_gin (List.mem_append_right _ (tb_7 _ (List.mem_of_getElem? (i := 12) rfl))) rfl)
set_option maxRecDepth 100000 in
theorem m_X11_192 : Cond.methodLink RX11 192 yX11_tagAt ∈ gT := (x_gin (List.mem_append_right _ (tb_7 _ (List.mem_of_getElem? (i := 16) rfl))) rfl)
set_option maxRecDepth 100000 in
theorem m_X11_155 : Cond.methodLink RX11 155 yX11_emitsOf ∈ gT := (x_gin (List.mem_append_right _ (tb_7 _ (List.mem_of_getElem? (i := 26) rfl))) rfl)
set_option maxRecDepth 100000 in
theorem m_X11_195 : Cond.methodLink RX11 195 yX11_readSum ∈ gT := (x_gin (List.mem_append_right _ (tb_7 _ (List.mem_of_getElem? (i := 30) rfl))) rfl)
set_option maxRecDepth 100000 in
theorem m_X11_159 : Cond.methodLink RX11 159 yX11_readPart ∈ gT := (x_gin (List.mem_append_right _ (tb_7 _ (List.mem_of_getElem? (i := 34) rfl))) rfl)
set_option maxRecDepth 100000 in
theorem m_L_145 : Cond.methodLink RL 145 yX11_way ∈ gT := (x_gin (List.mem_append_right _ (tb_7 _ (List.mem_of_getElem? (i := 44) rfl))) rfl)
set_option maxRecDepth 100000 in
theorem m_L_156 : Cond.methodLink RL 156 yX11_look ∈ gT := (x_gin (List.mem_append_right _ (tb_7 _ (List.mem_of_getElem? (i := 48) rfl))) rfl)
set_option maxRecDepth 100000 in
theorem m_X11_262 : Cond.methodLink RX11 262 yX11_none ∈ gT := (x_gin (List.mem_append_right _ (tb_7 _ (List.mem_of_getElem? (i := 52) rfl))) rfl)
set_option maxRecDepth 100000 in
theorem m_X11_265 : Cond.methodLink RX11 265 yX11_laysOut ∈ gT := (x_gin (List.mem_append_right _ (tb_7 _ (List.mem_of_getElem? (i := 56) rfl))) rfl)
set_option maxRecDepth 100000 in
theorem m_X11_252 : Cond.methodLink RX11 252 yX11_lines ∈ gT := (x_gin (List.mem_append_right _ (tb_7 _ (List.mem_of_getElem? (i := 60) rfl))) rfl)
set_option maxRecDepth 100000 in
theorem m_X11_255 : Cond.methodLink RX11 255 yX11_of ∈ gT := (x_gin (List.mem_append_right _ (tb_7 _ (List.mem_of_getElem? (i := 64) rfl))) rfl)
set_option maxRecDepth 100000 in
theorem m_X11_259 : Cond.methodLink RX11 259 yX11_sortOf ∈ gT := (x_gin (List.mem_append_right _ (tb_7 _ (List.mem_of_getElem? (i := 68) rfl))) rfl)
set_option maxRecDepth 100000 in
theorem m_L_160 : Cond.methodLink RL 160 yX11_needs ∈ gT := (x_gin (List.mem_append_right _ (tb_7 _ (List.mem_of_getElem? (i := 72) rfl))) rfl)
set_option maxRecDepth 100000 in
theorem m_X11_284 : Cond.methodLink RX11 284 yX11_holdsAll ∈ gT := (x_gin (List.mem_append_right _ (tb_7 _ (List.mem_of_getElem? (i := 76) rfl))) rfl)
set_option maxRecDepth 100000 in
theorem m_X11_280 : Cond.methodLink RX11 280 yX11_holdsLine ∈ gT := (x_gin (List.mem_append_right _ (tb_7 _ (List.mem_of_getElem? (i := 80) rfl))) rfl)
set_option maxRecDepth 100000 in
theorem m_X11_276 : Cond.methodLink RX11 276 yX11_asked ∈ gT := (x_gin (List.mem_append_right _ (tb_7 _ (List.mem_of_getElem? (i := 84) rfl))) rfl)
set_option maxRecDepth 100000 in
theorem m_X11_268 : Cond.methodLink RX11 268 yJ6_bitCount_0f7a4 ∈ gT := (x_gin (List.mem_append_right _ (tb_7 _ (List.mem_of_getElem? (i := 88) rfl))) rfl)
set_option maxRecDepth 100000 in
theorem m_X11_273 : Cond.methodLink RX11 273 yX11_ofHolder ∈ gT := (x_gin (List.mem_append_right _ (tb_7 _ (List.mem_of_getElem? (i := 89) rfl))) rfl)
set_option maxRecDepth 100000 in
theorem m_L_163 : Cond.methodLink RL 163 yX11_note ∈ gT := (x_gin (List.mem_append_right _ (tb_7 _ (List.mem_of_getElem? (i := 93) rfl))) rfl)
set_option maxRecDepth 100000 in
theorem m_L_167 : Cond.methodLink RL 167 yX11_torn ∈ gT := (x_gin (List.mem_append_right _ (tb_7 _ (List.mem_of_getElem? (i := 97) rfl))) rfl)
set_option maxRecDepth 100000 in
theorem m_L_171 : Cond.methodLink RL 171 yX11_can ∈ gT := (x_gin (List.mem_append_right _ (tb_7 _ (List.mem_of_getElem? (i := 101) rfl))) rfl)
set_option maxRecDepth 100000 in
theorem m_X11_327 : Cond.methodLink RX11 327 yX11_canBy ∈ gT := (x_gin (List.mem_append_right _ (tb_7 _ (List.mem_of_getElem? (i := 105) rfl))) rfl)
set_option maxRecDepth 100000 in
theorem m_X11_317 : Cond.methodLink RX11 317 yX11_prepares ∈ gT := (x_gin (List.mem_append_right _ (tb_7 _ (List.mem_of_getElem? (i := 109) rfl))) rfl)
set_option maxRecDepth 100000 in
theorem m_X11_299 : Cond.methodLink RX11 299 yX11_at ∈ gT := (x_gin (List.mem_append_right _ (tb_7 _ (List.mem_of_getElem? (i := 113) rfl))) rfl)
set_option maxRecDepth 100000 in
theorem m_X11_302 : Cond.methodLink RX11 302 yX11_runAt ∈ gT := (x_gin (List.mem_append_right _ (tb_7 _ (List.mem_of_getElem? (i := 116) rfl))) rfl)
set_option maxRecDepth 100000 in
theorem m_X11_305 : Cond.methodLink RX11 305 yX11_reachOf ∈ gT := (x_gin (List.mem_append_right _ (tb_7 _ (List.mem_of_getElem? (i := 119) rfl))) rfl)
set_option maxRecDepth 100000 in
theorem m_X11_288 : Cond.methodLink RX11 288 yX11_lastOf ∈ gT := (x_gin (List.mem_append_right _ (tb_7 _ (List.mem_of_getElem? (i := 123) rfl))) rfl)
set_option maxRecDepth 100000 in
theorem m_X11_291 : Cond.methodLink RX11 291 yJ9_max_7cf53 ∈ gT := (x_gin (List.mem_append_right _ (tb_7 _ (List.mem_of_getElem? (i := 127) rfl))) rfl)
set_option maxRecDepth 100000 in
theorem m_X11_308 : Cond.methodLink RX11 308 yX11_canDo ∈ gT := (x_gin (List.mem_append_right _ (tb_7 _ (List.mem_of_getElem? (i := 128) rfl))) rfl)
set_option maxRecDepth 100000 in
theorem m_X11_321 : Cond.methodLink RX11 321 yX11_goesOnwards ∈ gT := (x_gin (List.mem_append_right _ (tb_7 _ (List.mem_of_getElem? (i := 132) rfl))) rfl)
set_option maxRecDepth 100000 in
theorem m_X11_314 : Cond.methodLink RX11 314 yX11_canGo ∈ gT := (x_gin (List.mem_append_right _ (tb_7 _ (List.mem_of_getElem? (i := 136) rfl))) rfl)
set_option maxRecDepth 100000 in
theorem m_X11_311 : Cond.methodLink RX11 311 yX11_freedBy ∈ gT := (x_gin (List.mem_append_right _ (tb_7 _ (List.mem_of_getElem? (i := 140) rfl))) rfl)
set_option maxRecDepth 100000 in
theorem m_L_175 : Cond.methodLink RL 175 yX11_fewest ∈ gT := (x_gin (List.mem_append_right _ (tb_7 _ (List.mem_of_getElem? (i := 144) rfl))) rfl)
set_option maxRecDepth 100000 in
theorem m_L_179 : Cond.methodLink RL 179 yX11_earliest ∈ gT := (x_gin (List.mem_append_right _ (tb_7 _ (List.mem_of_getElem? (i := 148) rfl))) rfl)
set_option maxRecDepth 100000 in
theorem m_X11_330 : Cond.methodLink RX11 330 yX11_meets ∈ gT := (x_gin (List.mem_append_right _ (tb_7 _ (List.mem_of_getElem? (i := 152) rfl))) rfl)
set_option maxRecDepth 100000 in
theorem m_X11_324 : Cond.methodLink RX11 324 yX11_goesBackwards ∈ gT := (x_gin (List.mem_append_right _ (tb_7 _ (List.mem_of_getElem? (i := 156) rfl))) rfl)
set_option maxRecDepth 100000 in
theorem m_X11_334 : Cond.methodLink RX11 334 yX11_earliestOf ∈ gT := (x_gin (List.mem_append_right _ (tb_7 _ (List.mem_of_getElem? (i := 160) rfl))) rfl)
set_option maxRecDepth 100000 in
theorem m_L_182 : Cond.methodLink RL 182 yX11_may ∈ gT := (x_gin (List.mem_append_right _ (tb_7 _ (List.mem_of_getElem? (i := 164) rfl))) rfl)
set_option maxRecDepth 100000 in
theorem m_L_186 : Cond.methodLink RL 186 yX11_shut ∈ gT := (x_gin (List.mem_append_right _ (tb_7 _ (List.mem_of_getElem? (i := 168) rfl))) rfl)
set_option maxRecDepth 100000 in
theorem m_X11_337 : Cond.methodLink RX11 337 yX11_isShut ∈ gT := (x_gin (List.mem_append_right _ (tb_7 _ (List.mem_of_getElem? (i := 172) rfl))) rfl)
set_option maxRecDepth 100000 in
theorem m_L_189 : Cond.methodLink RL 189 yX11_opens ∈ gT := (x_gin (List.mem_append_right _ (tb_7 _ (List.mem_of_getElem? (i := 176) rfl))) rfl)
set_option maxRecDepth 100000 in
theorem m_L_192 : Cond.methodLink RL 192 yX11_trap ∈ gT := (x_gin (List.mem_append_right _ (tb_7 _ (List.mem_of_getElem? (i := 180) rfl))) rfl)
set_option maxRecDepth 100000 in
theorem m_L_195 : Cond.methodLink RL 195 yX11_story ∈ gT := (x_gin (List.mem_append_right _ (tb_7 _ (List.mem_of_getElem? (i := 184) rfl))) rfl)
set_option maxRecDepth 100000 in
theorem m_L_199 : Cond.methodLink RL 199 yX11_night ∈ gT := (x_gin (List.mem_append_right _ (tb_7 _ (List.mem_of_getElem? (i := 188) rfl))) rfl)
set_option maxRecDepth 100000 in
theorem m_X11_340 : Cond.methodLink RX11 340 yX11_hasOthers ∈ gT := (x_gin (List.mem_append_right _ (tb_7 _ (List.mem_of_getElem? (i := 192) rfl))) rfl)
set_option maxRecDepth 100000 in
theorem m_L_202 : Cond.methodLink RL 202 yX11_odds ∈ gT := (x_gin (List.mem_append_right _ (tb_7 _ (List.mem_of_getElem? (i := 196) rfl))) rfl)
set_option maxRecDepth 100000 in
theorem m_X11_365 : Cond.methodLink RX11 365 yX11_forgets ∈ gT := (x_gin (List.mem_append_right _ (tb_7 _ (List.mem_of_getElem? (i := 200) rfl))) rfl)
set_option maxRecDepth 100000 in
theorem m_X11_368 : Cond.methodLink RX11 368 yX11_oddsAfter ∈ gT := (x_gin (List.mem_append_right _ (tb_7 _ (List.mem_of_getElem? (i := 204) rfl))) rfl)
set_option maxRecDepth 100000 in
theorem m_X11_358 : Cond.methodLink RX11 358 yX11_shares ∈ gT := (x_gin (List.mem_append_right _ (tb_7 _ (List.mem_of_getElem? (i := 208) rfl))) rfl)
set_option maxRecDepth 100000 in
theorem m_X11_361 : Cond.methodLink RX11 361 yX11_factorOf ∈ gT := (x_gin (List.mem_append_right _ (tb_7 _ (List.mem_of_getElem? (i := 213) rfl))) rfl)
set_option maxRecDepth 100000 in
theorem m_X11_343 : Cond.methodLink RX11 343 yX11_canBe ∈ gT := (x_gin (List.mem_append_right _ (tb_7 _ (List.mem_of_getElem? (i := 217) rfl))) rfl)
set_option maxRecDepth 100000 in
theorem m_X11_353 : Cond.methodLink RX11 353 yX11_springs ∈ gT := (x_gin (List.mem_append_right _ (tb_7 _ (List.mem_of_getElem? (i := 224) rfl))) rfl)
set_option maxRecDepth 100000 in
theorem m_L_205 : Cond.methodLink RL 205 yX11_oddsBy ∈ gT := (x_gin (List.mem_append_right _ (tb_7 _ (List.mem_of_getElem? (i := 228) rfl))) rfl)
set_option maxRecDepth 100000 in
theorem m_L_208 : Cond.methodLink RL 208 yX11_factor ∈ gT := (x_gin (List.mem_append_right _ (tb_7 _ (List.mem_of_getElem? (i := 232) rfl))) rfl)
set_option maxRecDepth 100000 in
theorem m_L_211 : Cond.methodLink RL 211 yX11_says ∈ gT := (x_gin (List.mem_append_right _ (tb_7 _ (List.mem_of_getElem? (i := 236) rfl))) rfl)
set_option maxRecDepth 100000 in
theorem m_X11_372 : Cond.methodLink RX11 372 yJ9_abs_067f4 ∈ gT := (x_gin (List.mem_append_right _ (tb_8 _ (List.mem_of_getElem? (i := 0) rfl))) rfl)
set_option maxRecDepth 100000 in
theorem m_L_214 : Cond.methodLink RL 214 yX11_with ∈ gT := (x_gin (List.mem_append_right _ (tb_8 _ (List.mem_of_getElem? (i := 1) rfl))) rfl)
set_option maxRecDepth 100000 in
theorem m_X11_376 : Cond.methodLink RX11 376 yX11_choices ∈ gT := (x_gin (List.mem_append_right _ (tb_8 _ (List.mem_of_getElem? (i := 5) rfl))) rfl)
set_option maxRecDepth 100000 in
theorem m_L_218 : Cond.methodLink RL 218 yX11_knew ∈ gT := (x_gin (List.mem_append_right _ (tb_8 _ (List.mem_of_getElem? (i := 8) rfl))) rfl)
set_option maxRecDepth 100000 in
theorem m_L_221 : Cond.methodLink RL 221 yX11_told ∈ gT := (x_gin (List.mem_append_right _ (tb_8 _ (List.mem_of_getElem? (i := 12) rfl))) rfl)
set_option maxRecDepth 100000 in
theorem m_L_224 : Cond.methodLink RL 224 yX11_knows ∈ gT := (x_gin (List.mem_append_right _ (tb_8 _ (List.mem_of_getElem? (i := 16) rfl))) rfl)
set_option maxRecDepth 100000 in
theorem m_X11_379 : Cond.methodLink RX11 379 yX11_knowing ∈ gT := (x_gin (List.mem_append_right _ (tb_8 _ (List.mem_of_getElem? (i := 20) rfl))) rfl)
set_option maxRecDepth 100000 in
theorem m_L_227 : Cond.methodLink RL 227 yX11_whence ∈ gT := (x_gin (List.mem_append_right _ (tb_8 _ (List.mem_of_getElem? (i := 24) rfl))) rfl)
set_option maxRecDepth 100000 in
theorem m_L_231 : Cond.methodLink RL 231 yX11_knot ∈ gT := (x_gin (List.mem_append_right _ (tb_8 _ (List.mem_of_getElem? (i := 28) rfl))) rfl)
set_option maxRecDepth 100000 in
theorem m_L_234 : Cond.methodLink RL 234 yX11_rope ∈ gT := (x_gin (List.mem_append_right _ (tb_8 _ (List.mem_of_getElem? (i := 32) rfl))) rfl)
set_option maxRecDepth 100000 in
theorem m_L_238 : Cond.methodLink RL 238 yX11_out ∈ gT := (x_gin (List.mem_append_right _ (tb_8 _ (List.mem_of_getElem? (i := 36) rfl))) rfl)
set_option maxRecDepth 100000 in
theorem m_X11_389 : Cond.methodLink RX11 389 yX11_spreads ∈ gT := (x_gin (List.mem_append_right _ (tb_8 _ (List.mem_of_getElem? (i := 40) rfl))) rfl)
set_option maxRecDepth 100000 in
theorem m_X11_383 : Cond.methodLink RX11 383 yX11_canTurn ∈ gT := (x_gin (List.mem_append_right _ (tb_8 _ (List.mem_of_getElem? (i := 45) rfl))) rfl)
set_option maxRecDepth 100000 in
theorem m_X11_386 : Cond.methodLink RX11 386 yJ9_min_7cf53 ∈ gT := (x_gin (List.mem_append_right _ (tb_8 _ (List.mem_of_getElem? (i := 49) rfl))) rfl)
set_option maxRecDepth 100000 in
theorem m_X11_392 : Cond.methodLink RX11 392 yX11_leastTo ∈ gT := (x_gin (List.mem_append_right _ (tb_8 _ (List.mem_of_getElem? (i := 50) rfl))) rfl)
set_option maxRecDepth 100000 in
theorem m_L_242 : Cond.methodLink RL 242 yX11_first ∈ gT := (x_gin (List.mem_append_right _ (tb_8 _ (List.mem_of_getElem? (i := 54) rfl))) rfl)
set_option maxRecDepth 100000 in
theorem m_L_245 : Cond.methodLink RL 245 yX11_tale ∈ gT := (x_gin (List.mem_append_right _ (tb_8 _ (List.mem_of_getElem? (i := 58) rfl))) rfl)
set_option maxRecDepth 100000 in
theorem m_X11_401 : Cond.methodLink RX11 401 yJ9_min_f86c9 ∈ gT := (x_gin (List.mem_append_right _ (tb_8 _ (List.mem_of_getElem? (i := 65) rfl))) rfl)
set_option maxRecDepth 100000 in
theorem m_L_248 : Cond.methodLink RL 248 yX11_cold ∈ gT := (x_gin (List.mem_append_right _ (tb_8 _ (List.mem_of_getElem? (i := 66) rfl))) rfl)
set_option maxRecDepth 100000 in
theorem m_X11_404 : Cond.methodLink RX11 404 yJ9_abs_0f7a4 ∈ gT := (x_gin (List.mem_append_right _ (tb_8 _ (List.mem_of_getElem? (i := 70) rfl))) rfl)
set_option maxRecDepth 100000 in
theorem m_L_261 : Cond.methodLink RL 261 yX11_count ∈ gT := (x_gin (List.mem_append_right _ (tb_8 _ (List.mem_of_getElem? (i := 71) rfl))) rfl)
set_option maxRecDepth 100000 in
theorem i_yX10_init : x_YI yX10_init cX10_init 1 0 := ⟨⟨(x_gin (List.mem_append_right _ (tb_1 _ (List.mem_of_getElem? (i := 33) rfl))) rfl), (x_gin (List.mem_append_right _ (tb_1 _ (List.mem_of_getElem? (i := 1) rfl))) rfl), by decide +kernel, by decide⟩, (x_gin (List.mem_append_right _ (tb_1 _ (List.mem_of_getElem? (i := 32) rfl))) rfl), rfl⟩
set_option maxRecDepth 100000 in
theorem i_yX2_init : x_YI yX2_init cX2_init 1 0 := ⟨⟨(x_gin (List.mem_append_right _ (tb_1 _ (List.mem_of_getElem? (i := 41) rfl))) rfl), (x_gin (List.mem_append_right _ (tb_1 _ (List.mem_of_getElem? (i := 2) rfl))) rfl), by decide +kernel, by decide⟩, (x_gin (List.mem_append_right _ (tb_1 _ (List.mem_of_getElem? (i := 40) rfl))) rfl), rfl⟩
set_option maxRecDepth 100000 in
theorem i_yX5_init : x_YI yX5_init cX5_init 1 0 := ⟨⟨(x_gin (List.mem_append_right _ (tb_1 _ (List.mem_of_getElem? (i := 47) rfl))) rfl), (x_gin (List.mem_append_right _ (tb_1 _ (List.mem_of_getElem? (i := 3) rfl))) rfl), by decide +kernel, by decide⟩, (x_gin (List.mem_append_right _ (tb_1 _ (List.mem_of_getElem? (i := 46) rfl))) rfl), rfl⟩
set_option maxRecDepth 100000 in
theorem i_yX0_init : x_YI yX0_init cX0_init 2 0 := ⟨⟨(x_gin (List.mem_append_right _ (tb_1 _ (List.mem_of_getElem? (i := 103) rfl))) rfl), (x_gin (List.mem_append_right _ (tb_1 _ (List.mem_of_getElem? (i := 4) rfl))) rfl), by decide +kernel, by decide⟩, (x_gin (List.mem_append_right _ (tb_1 _ (List.mem_of_getElem? (i := 102) rfl))) rfl), rfl⟩
set_option maxRecDepth 100000 in
theorem i_yX7_init : x_YI yX7_init cX7_init 3 2 := ⟨⟨(x_gin (List.mem_append_right _ (tb_1 _ (List.mem_of_getElem? (i := 109) rfl))) rfl), (x_gin (List.mem_append_right _ (tb_1 _ (List.mem_of_getElem? (i := 5) rfl))) rfl), by decide +kernel, by decide⟩, (x_gin (List.mem_append_right _ (tb_1 _ (List.mem_of_getElem? (i := 108) rfl))) rfl), rfl⟩
set_option maxRecDepth 100000 in
theorem i_yX4_init : x_YI yX4_init cX4_init 2 1 := ⟨⟨(x_gin (List.mem_append_right _ (tb_1 _ (List.mem_of_getElem? (i := 131) rfl))) rfl), (x_gin (List.mem_append_right _ (tb_1 _ (List.mem_of_getElem? (i := 6) rfl))) rfl), by decide +kernel, by decide⟩, (x_gin (List.mem_append_right _ (tb_1 _ (List.mem_of_getElem? (i := 130) rfl))) rfl), rfl⟩
set_option maxRecDepth 100000 in
theorem i_yX9_init : x_YI yX9_init cX9_init 5 4 := ⟨⟨(x_gin (List.mem_append_right _ (tb_1 _ (List.mem_of_getElem? (i := 141) rfl))) rfl), (x_gin (List.mem_append_right _ (tb_1 _ (List.mem_of_getElem? (i := 7) rfl))) rfl), by decide +kernel, by decide⟩, (x_gin (List.mem_append_right _ (tb_1 _ (List.mem_of_getElem? (i := 140) rfl))) rfl), rfl⟩
set_option maxRecDepth 100000 in
theorem i_yX1_init : x_YI yX1_init cX1_init 2 1 := ⟨⟨(x_gin (List.mem_append_right _ (tb_1 _ (List.mem_of_getElem? (i := 227) rfl))) rfl), (x_gin (List.mem_append_right _ (tb_1 _ (List.mem_of_getElem? (i := 8) rfl))) rfl), by decide +kernel, by decide⟩, (x_gin (List.mem_append_right _ (tb_1 _ (List.mem_of_getElem? (i := 226) rfl))) rfl), rfl⟩
set_option maxRecDepth 100000 in
theorem i_yX6_init : x_YI yX6_init cX6_init 1 0 := ⟨⟨(x_gin (List.mem_append_right _ (tb_1 _ (List.mem_of_getElem? (i := 233) rfl))) rfl), (x_gin (List.mem_append_right _ (tb_1 _ (List.mem_of_getElem? (i := 9) rfl))) rfl), by decide +kernel, by decide⟩, (x_gin (List.mem_append_right _ (tb_1 _ (List.mem_of_getElem? (i := 232) rfl))) rfl), rfl⟩
set_option maxRecDepth 100000 in
theorem i_yX3_init : x_YI yX3_init cX3_init 2 1 := ⟨⟨(x_gin (List.mem_append_right _ (tb_2 _ (List.mem_of_getElem? (i := 52) rfl))) rfl), (x_gin (List.mem_append_right _ (tb_1 _ (List.mem_of_getElem? (i := 10) rfl))) rfl), by decide +kernel, by decide⟩, (x_gin (List.mem_append_right _ (tb_2 _ (List.mem_of_getElem? (i := 51) rfl))) rfl), rfl⟩
set_option maxRecDepth 100000 in
theorem v_yX10_feed : x_YV yX10_feed cX10_feed 6 (some .int) 5 := ⟨⟨(x_gin (List.mem_append_right _ (tb_2 _ (List.mem_of_getElem? (i := 102) rfl))) rfl), (x_gin (List.mem_append_right _ (tb_1 _ (List.mem_of_getElem? (i := 1) rfl))) rfl), by decide +kernel, by decide⟩, (x_gin (List.mem_append_right _ (tb_2 _ (List.mem_of_getElem? (i := 100) rfl))) rfl), (x_gin (List.mem_append_right _ (tb_2 _ (List.mem_of_getElem? (i := 101) rfl))) rfl)⟩
set_option maxRecDepth 100000 in
theorem v_yX10_putNumber : x_YV yX10_putNumber cX10_putNumber 3 none 1 := ⟨⟨(x_gin (List.mem_append_right _ (tb_2 _ (List.mem_of_getElem? (i := 106) rfl))) rfl), (x_gin (List.mem_append_right _ (tb_1 _ (List.mem_of_getElem? (i := 1) rfl))) rfl), by decide +kernel, by decide⟩, (x_gin (List.mem_append_right _ (tb_2 _ (List.mem_of_getElem? (i := 105) rfl))) rfl), (x_gin (List.mem_append_left _ (List.mem_of_getElem? (i := 0) rfl)) rfl)⟩
set_option maxRecDepth 100000 in
theorem v_yX10_end : x_YV yX10_end cX10_end 2 (some .boolean) 1 := ⟨⟨(x_gin (List.mem_append_right _ (tb_2 _ (List.mem_of_getElem? (i := 110) rfl))) rfl), (x_gin (List.mem_append_right _ (tb_1 _ (List.mem_of_getElem? (i := 1) rfl))) rfl), by decide +kernel, by decide⟩, (x_gin (List.mem_append_right _ (tb_2 _ (List.mem_of_getElem? (i := 108) rfl))) rfl), (x_gin (List.mem_append_right _ (tb_2 _ (List.mem_of_getElem? (i := 109) rfl))) rfl)⟩
set_option maxRecDepth 100000 in
theorem v_yX10_fault : x_YV yX10_fault cX10_fault 1 (some .int) 0 := ⟨⟨(x_gin (List.mem_append_right _ (tb_2 _ (List.mem_of_getElem? (i := 114) rfl))) rfl), (x_gin (List.mem_append_right _ (tb_1 _ (List.mem_of_getElem? (i := 1) rfl))) rfl), by decide +kernel, by decide⟩, (x_gin (List.mem_append_right _ (tb_2 _ (List.mem_of_getElem? (i := 112) rfl))) rfl), (x_gin (List.mem_append_right _ (tb_2 _ (List.mem_of_getElem? (i := 113) rfl))) rfl)⟩
set_option maxRecDepth 100000 in
theorem v_yX10_torn : x_YV yX10_torn cX10_torn 2 (some .int) 0 := ⟨⟨(x_gin (List.mem_append_right _ (tb_2 _ (List.mem_of_getElem? (i := 118) rfl))) rfl), (x_gin (List.mem_append_right _ (tb_1 _ (List.mem_of_getElem? (i := 1) rfl))) rfl), by decide +kernel, by decide⟩, (x_gin (List.mem_append_right _ (tb_2 _ (List.mem_of_getElem? (i := 116) rfl))) rfl), (x_gin (List.mem_append_right _ (tb_2 _ (List.mem_of_getElem? (i := 117) rfl))) rfl)⟩
set_option maxRecDepth 100000 in
theorem v_yX10_out : x_YV yX10_out cX10_out 3 (some .int) 2 := ⟨⟨(x_gin (List.mem_append_right _ (tb_2 _ (List.mem_of_getElem? (i := 122) rfl))) rfl), (x_gin (List.mem_append_right _ (tb_1 _ (List.mem_of_getElem? (i := 1) rfl))) rfl), by decide +kernel, by decide⟩, (x_gin (List.mem_append_right _ (tb_2 _ (List.mem_of_getElem? (i := 120) rfl))) rfl), (x_gin (List.mem_append_right _ (tb_2 _ (List.mem_of_getElem? (i := 121) rfl))) rfl)⟩
set_option maxRecDepth 100000 in
theorem v_yX3_fewestOutAndIn : x_YV yX3_fewestOutAndIn cX3_fewestOutAndIn 3 (some .int) 1 := ⟨⟨(x_gin (List.mem_append_right _ (tb_2 _ (List.mem_of_getElem? (i := 126) rfl))) rfl), (x_gin (List.mem_append_right _ (tb_1 _ (List.mem_of_getElem? (i := 10) rfl))) rfl), by decide +kernel, by decide⟩, (x_gin (List.mem_append_right _ (tb_2 _ (List.mem_of_getElem? (i := 124) rfl))) rfl), (x_gin (List.mem_append_right _ (tb_2 _ (List.mem_of_getElem? (i := 125) rfl))) rfl)⟩
set_option maxRecDepth 100000 in
theorem v_yX3_reckonSlacks : x_YV yX3_reckonSlacks cX3_reckonSlacks 4 none 0 := ⟨⟨(x_gin (List.mem_append_right _ (tb_2 _ (List.mem_of_getElem? (i := 130) rfl))) rfl), (x_gin (List.mem_append_right _ (tb_1 _ (List.mem_of_getElem? (i := 10) rfl))) rfl), by decide +kernel, by decide⟩, (x_gin (List.mem_append_right _ (tb_2 _ (List.mem_of_getElem? (i := 129) rfl))) rfl), (x_gin (List.mem_append_left _ (List.mem_of_getElem? (i := 1) rfl)) rfl)⟩
set_option maxRecDepth 100000 in
theorem s_yJ6_numberOfTrailingZeros_0f7a4 : x_YS yJ6_numberOfTrailingZeros_0f7a4 cJ6_numberOfTrailingZeros_0f7a4 2 (some .int) 1 := ⟨⟨(x_gin (List.mem_append_right _ (tb_2 _ (List.mem_of_getElem? (i := 133) rfl))) rfl), (x_gin (List.mem_append_right _ (tb_1 _ (List.mem_of_getElem? (i := 28) rfl))) rfl), by decide +kernel, by decide⟩, (x_gin (List.mem_append_right _ (tb_2 _ (List.mem_of_getElem? (i := 132) rfl))) rfl)⟩
set_option maxRecDepth 100000 in
theorem v_yX7_get : x_YV yX7_get cX7_get 4 (some .int) 2 := ⟨⟨(x_gin (List.mem_append_right _ (tb_2 _ (List.mem_of_getElem? (i := 138) rfl))) rfl), (x_gin (List.mem_append_right _ (tb_1 _ (List.mem_of_getElem? (i := 5) rfl))) rfl), by decide +kernel, by decide⟩, (x_gin (List.mem_append_right _ (tb_2 _ (List.mem_of_getElem? (i := 136) rfl))) rfl), (x_gin (List.mem_append_right _ (tb_2 _ (List.mem_of_getElem? (i := 137) rfl))) rfl)⟩
set_option maxRecDepth 100000 in
theorem s_yJ7_fill_53178 : x_YS yJ7_fill_53178 cJ7_fill_53178 4 none 2 := ⟨⟨(x_gin (List.mem_append_right _ (tb_2 _ (List.mem_of_getElem? (i := 142) rfl))) rfl), (x_gin (List.mem_append_right _ (tb_1 _ (List.mem_of_getElem? (i := 17) rfl))) rfl), by decide +kernel, by decide⟩, (x_gin (List.mem_append_right _ (tb_2 _ (List.mem_of_getElem? (i := 141) rfl))) rfl)⟩
set_option maxRecDepth 100000 in
theorem v_yX3_shorten : x_YV yX3_shorten cX3_shorten 6 none 0 := ⟨⟨(x_gin (List.mem_append_right _ (tb_2 _ (List.mem_of_getElem? (i := 146) rfl))) rfl), (x_gin (List.mem_append_right _ (tb_1 _ (List.mem_of_getElem? (i := 10) rfl))) rfl), by decide +kernel, by decide⟩, (x_gin (List.mem_append_right _ (tb_2 _ (List.mem_of_getElem? (i := 145) rfl))) rfl), (x_gin (List.mem_append_left _ (List.mem_of_getElem? (i := 2) rfl)) rfl)⟩
set_option maxRecDepth 100000 in
theorem v_yX3_secondsBy : x_YV yX3_secondsBy cX3_secondsBy 5 (some .int) 2 := ⟨⟨(x_gin (List.mem_append_right _ (tb_2 _ (List.mem_of_getElem? (i := 150) rfl))) rfl), (x_gin (List.mem_append_right _ (tb_1 _ (List.mem_of_getElem? (i := 10) rfl))) rfl), by decide +kernel, by decide⟩, (x_gin (List.mem_append_right _ (tb_2 _ (List.mem_of_getElem? (i := 149) rfl))) rfl), (x_gin (List.mem_append_left _ (List.mem_of_getElem? (i := 3) rfl)) rfl)⟩
set_option maxRecDepth 100000 in
theorem v_yX3_givesWay : x_YV yX3_givesWay cX3_givesWay 3 (some .boolean) 2 := ⟨⟨(x_gin (List.mem_append_right _ (tb_2 _ (List.mem_of_getElem? (i := 154) rfl))) rfl), (x_gin (List.mem_append_right _ (tb_1 _ (List.mem_of_getElem? (i := 10) rfl))) rfl), by decide +kernel, by decide⟩, (x_gin (List.mem_append_right _ (tb_2 _ (List.mem_of_getElem? (i := 153) rfl))) rfl), (x_gin (List.mem_append_left _ (List.mem_of_getElem? (i := 4) rfl)) rfl)⟩
set_option maxRecDepth 100000 in
theorem s_yX10_hasBit : x_YS yX10_hasBit cX10_hasBit 2 (some .boolean) 2 := ⟨⟨(x_gin (List.mem_append_right _ (tb_2 _ (List.mem_of_getElem? (i := 157) rfl))) rfl), (x_gin (List.mem_append_right _ (tb_1 _ (List.mem_of_getElem? (i := 1) rfl))) rfl), by decide +kernel, by decide⟩, (x_gin (List.mem_append_right _ (tb_2 _ (List.mem_of_getElem? (i := 156) rfl))) rfl)⟩
set_option maxRecDepth 100000 in
theorem v_yX3_hasAll : x_YV yX3_hasAll cX3_hasAll 3 (some .boolean) 2 := ⟨⟨(x_gin (List.mem_append_right _ (tb_2 _ (List.mem_of_getElem? (i := 161) rfl))) rfl), (x_gin (List.mem_append_right _ (tb_1 _ (List.mem_of_getElem? (i := 10) rfl))) rfl), by decide +kernel, by decide⟩, (x_gin (List.mem_append_right _ (tb_2 _ (List.mem_of_getElem? (i := 160) rfl))) rfl), (x_gin (List.mem_append_left _ (List.mem_of_getElem? (i := 5) rfl)) rfl)⟩
set_option maxRecDepth 100000 in
theorem s_yX10_firstBits : x_YS yX10_firstBits cX10_firstBits 1 (some .int) 1 := ⟨⟨(x_gin (List.mem_append_right _ (tb_2 _ (List.mem_of_getElem? (i := 164) rfl))) rfl), (x_gin (List.mem_append_right _ (tb_1 _ (List.mem_of_getElem? (i := 1) rfl))) rfl), by decide +kernel, by decide⟩, (x_gin (List.mem_append_right _ (tb_2 _ (List.mem_of_getElem? (i := 163) rfl))) rfl)⟩
set_option maxRecDepth 100000 in
theorem v_yX3_fewestOut : x_YV yX3_fewestOut cX3_fewestOut 2 (some .int) 1 := ⟨⟨(x_gin (List.mem_append_right _ (tb_2 _ (List.mem_of_getElem? (i := 168) rfl))) rfl), (x_gin (List.mem_append_right _ (tb_1 _ (List.mem_of_getElem? (i := 10) rfl))) rfl), by decide +kernel, by decide⟩, (x_gin (List.mem_append_right _ (tb_2 _ (List.mem_of_getElem? (i := 166) rfl))) rfl), (x_gin (List.mem_append_right _ (tb_2 _ (List.mem_of_getElem? (i := 167) rfl))) rfl)⟩
set_option maxRecDepth 100000 in
theorem v_yX3_reckonOut : x_YV yX3_reckonOut cX3_reckonOut 3 none 1 := ⟨⟨(x_gin (List.mem_append_right _ (tb_2 _ (List.mem_of_getElem? (i := 172) rfl))) rfl), (x_gin (List.mem_append_right _ (tb_1 _ (List.mem_of_getElem? (i := 10) rfl))) rfl), by decide +kernel, by decide⟩, (x_gin (List.mem_append_right _ (tb_2 _ (List.mem_of_getElem? (i := 171) rfl))) rfl), (x_gin (List.mem_append_left _ (List.mem_of_getElem? (i := 6) rfl)) rfl)⟩
set_option maxRecDepth 100000 in
theorem v_yX10_first : x_YV yX10_first cX10_first 2 (some .int) 1 := ⟨⟨(x_gin (List.mem_append_right _ (tb_2 _ (List.mem_of_getElem? (i := 176) rfl))) rfl), (x_gin (List.mem_append_right _ (tb_1 _ (List.mem_of_getElem? (i := 1) rfl))) rfl), by decide +kernel, by decide⟩, (x_gin (List.mem_append_right _ (tb_2 _ (List.mem_of_getElem? (i := 174) rfl))) rfl), (x_gin (List.mem_append_right _ (tb_2 _ (List.mem_of_getElem? (i := 175) rfl))) rfl)⟩
set_option maxRecDepth 100000 in
theorem v_yX3_firstToOpen : x_YV yX3_firstToOpen cX3_firstToOpen 4 (some .int) 1 := ⟨⟨(x_gin (List.mem_append_right _ (tb_2 _ (List.mem_of_getElem? (i := 180) rfl))) rfl), (x_gin (List.mem_append_right _ (tb_1 _ (List.mem_of_getElem? (i := 10) rfl))) rfl), by decide +kernel, by decide⟩, (x_gin (List.mem_append_right _ (tb_2 _ (List.mem_of_getElem? (i := 178) rfl))) rfl), (x_gin (List.mem_append_right _ (tb_2 _ (List.mem_of_getElem? (i := 179) rfl))) rfl)⟩
set_option maxRecDepth 100000 in
theorem v_yX10_image : x_YV yX10_image cX10_image 1 none 0 := ⟨⟨(x_gin (List.mem_append_right _ (tb_2 _ (List.mem_of_getElem? (i := 184) rfl))) rfl), (x_gin (List.mem_append_right _ (tb_1 _ (List.mem_of_getElem? (i := 1) rfl))) rfl), by decide +kernel, by decide⟩, (x_gin (List.mem_append_right _ (tb_2 _ (List.mem_of_getElem? (i := 182) rfl))) rfl), (x_gin (List.mem_append_right _ (tb_2 _ (List.mem_of_getElem? (i := 183) rfl))) rfl)⟩
set_option maxRecDepth 100000 in
theorem v_yX0_become : x_YV yX0_become cX0_become 3 none 1 := ⟨⟨(x_gin (List.mem_append_right _ (tb_2 _ (List.mem_of_getElem? (i := 188) rfl))) rfl), (x_gin (List.mem_append_right _ (tb_1 _ (List.mem_of_getElem? (i := 4) rfl))) rfl), by decide +kernel, by decide⟩, (x_gin (List.mem_append_right _ (tb_2 _ (List.mem_of_getElem? (i := 186) rfl))) rfl), (x_gin (List.mem_append_right _ (tb_2 _ (List.mem_of_getElem? (i := 187) rfl))) rfl)⟩
set_option maxRecDepth 100000 in
theorem v_yX7_become : x_YV yX7_become cX7_become 3 none 1 := ⟨⟨(x_gin (List.mem_append_right _ (tb_2 _ (List.mem_of_getElem? (i := 192) rfl))) rfl), (x_gin (List.mem_append_right _ (tb_1 _ (List.mem_of_getElem? (i := 5) rfl))) rfl), by decide +kernel, by decide⟩, (x_gin (List.mem_append_right _ (tb_2 _ (List.mem_of_getElem? (i := 190) rfl))) rfl), (x_gin (List.mem_append_right _ (tb_2 _ (List.mem_of_getElem? (i := 191) rfl))) rfl)⟩
set_option maxRecDepth 100000 in
theorem v_yX10_back : x_YV yX10_back cX10_back 1 (some .boolean) 0 := ⟨⟨(x_gin (List.mem_append_right _ (tb_2 _ (List.mem_of_getElem? (i := 196) rfl))) rfl), (x_gin (List.mem_append_right _ (tb_1 _ (List.mem_of_getElem? (i := 1) rfl))) rfl), by decide +kernel, by decide⟩, (x_gin (List.mem_append_right _ (tb_2 _ (List.mem_of_getElem? (i := 194) rfl))) rfl), (x_gin (List.mem_append_right _ (tb_2 _ (List.mem_of_getElem? (i := 195) rfl))) rfl)⟩
set_option maxRecDepth 100000 in
theorem v_yX1_forget : x_YV yX1_forget cX1_forget 1 none 0 := ⟨⟨(x_gin (List.mem_append_right _ (tb_2 _ (List.mem_of_getElem? (i := 200) rfl))) rfl), (x_gin (List.mem_append_right _ (tb_1 _ (List.mem_of_getElem? (i := 8) rfl))) rfl), by decide +kernel, by decide⟩, (x_gin (List.mem_append_right _ (tb_2 _ (List.mem_of_getElem? (i := 198) rfl))) rfl), (x_gin (List.mem_append_right _ (tb_2 _ (List.mem_of_getElem? (i := 199) rfl))) rfl)⟩
set_option maxRecDepth 100000 in
theorem v_yX10_count : x_YV yX10_count cX10_count 2 (some .int) 1 := ⟨⟨(x_gin (List.mem_append_right _ (tb_2 _ (List.mem_of_getElem? (i := 205) rfl))) rfl), (x_gin (List.mem_append_right _ (tb_1 _ (List.mem_of_getElem? (i := 1) rfl))) rfl), by decide +kernel, by decide⟩, (x_gin (List.mem_append_right _ (tb_2 _ (List.mem_of_getElem? (i := 203) rfl))) rfl), (x_gin (List.mem_append_right _ (tb_2 _ (List.mem_of_getElem? (i := 204) rfl))) rfl)⟩
set_option maxRecDepth 100000 in
theorem v_yX10_person : x_YV yX10_person cX10_person 3 (some .int) 2 := ⟨⟨(x_gin (List.mem_append_right _ (tb_2 _ (List.mem_of_getElem? (i := 214) rfl))) rfl), (x_gin (List.mem_append_right _ (tb_1 _ (List.mem_of_getElem? (i := 1) rfl))) rfl), by decide +kernel, by decide⟩, (x_gin (List.mem_append_right _ (tb_2 _ (List.mem_of_getElem? (i := 212) rfl))) rfl), (x_gin (List.mem_append_right _ (tb_2 _ (List.mem_of_getElem? (i := 213) rfl))) rfl)⟩
set_option maxRecDepth 100000 in
theorem s_yX10_isBetween : x_YS yX10_isBetween cX10_isBetween 3 (some .boolean) 3 := ⟨⟨(x_gin (List.mem_append_right _ (tb_2 _ (List.mem_of_getElem? (i := 217) rfl))) rfl), (x_gin (List.mem_append_right _ (tb_1 _ (List.mem_of_getElem? (i := 1) rfl))) rfl), by decide +kernel, by decide⟩, (x_gin (List.mem_append_right _ (tb_2 _ (List.mem_of_getElem? (i := 216) rfl))) rfl)⟩
set_option maxRecDepth 100000 in
theorem s_yX10_demand : x_YS yX10_demand cX10_demand 1 none 1 := ⟨⟨(x_gin (List.mem_append_right _ (tb_2 _ (List.mem_of_getElem? (i := 220) rfl))) rfl), (x_gin (List.mem_append_right _ (tb_1 _ (List.mem_of_getElem? (i := 1) rfl))) rfl), by decide +kernel, by decide⟩, (x_gin (List.mem_append_right _ (tb_2 _ (List.mem_of_getElem? (i := 219) rfl))) rfl)⟩
set_option maxRecDepth 100000 in
theorem v_yX7_hasRoom : x_YV yX7_hasRoom cX7_hasRoom 1 (some .boolean) 0 := ⟨⟨(x_gin (List.mem_append_right _ (tb_3 _ (List.mem_of_getElem? (i := 52) rfl))) rfl), (x_gin (List.mem_append_right _ (tb_1 _ (List.mem_of_getElem? (i := 5) rfl))) rfl), by decide +kernel, by decide⟩, (x_gin (List.mem_append_right _ (tb_3 _ (List.mem_of_getElem? (i := 50) rfl))) rfl), (x_gin (List.mem_append_right _ (tb_3 _ (List.mem_of_getElem? (i := 51) rfl))) rfl)⟩
set_option maxRecDepth 100000 in
theorem s_yX10_demandRoom : x_YS yX10_demandRoom cX10_demandRoom 1 none 1 := ⟨⟨(x_gin (List.mem_append_right _ (tb_3 _ (List.mem_of_getElem? (i := 55) rfl))) rfl), (x_gin (List.mem_append_right _ (tb_1 _ (List.mem_of_getElem? (i := 1) rfl))) rfl), by decide +kernel, by decide⟩, (x_gin (List.mem_append_right _ (tb_3 _ (List.mem_of_getElem? (i := 54) rfl))) rfl)⟩
set_option maxRecDepth 100000 in
theorem v_yX7_add : x_YV yX7_add cX7_add 6 (some .int) 5 := ⟨⟨(x_gin (List.mem_append_right _ (tb_3 _ (List.mem_of_getElem? (i := 75) rfl))) rfl), (x_gin (List.mem_append_right _ (tb_1 _ (List.mem_of_getElem? (i := 5) rfl))) rfl), by decide +kernel, by decide⟩, (x_gin (List.mem_append_right _ (tb_3 _ (List.mem_of_getElem? (i := 73) rfl))) rfl), (x_gin (List.mem_append_right _ (tb_3 _ (List.mem_of_getElem? (i := 74) rfl))) rfl)⟩
set_option maxRecDepth 100000 in
theorem v_yX7_put : x_YV yX7_put cX7_put 4 none 2 := ⟨⟨(x_gin (List.mem_append_right _ (tb_3 _ (List.mem_of_getElem? (i := 79) rfl))) rfl), (x_gin (List.mem_append_right _ (tb_1 _ (List.mem_of_getElem? (i := 5) rfl))) rfl), by decide +kernel, by decide⟩, (x_gin (List.mem_append_right _ (tb_3 _ (List.mem_of_getElem? (i := 78) rfl))) rfl), (x_gin (List.mem_append_left _ (List.mem_of_getElem? (i := 8) rfl)) rfl)⟩
set_option maxRecDepth 100000 in
theorem v_yX10_rule : x_YV yX10_rule cX10_rule 2 (some .int) 0 := ⟨⟨(x_gin (List.mem_append_right _ (tb_3 _ (List.mem_of_getElem? (i := 86) rfl))) rfl), (x_gin (List.mem_append_right _ (tb_1 _ (List.mem_of_getElem? (i := 1) rfl))) rfl), by decide +kernel, by decide⟩, (x_gin (List.mem_append_right _ (tb_3 _ (List.mem_of_getElem? (i := 84) rfl))) rfl), (x_gin (List.mem_append_right _ (tb_3 _ (List.mem_of_getElem? (i := 85) rfl))) rfl)⟩
set_option maxRecDepth 100000 in
theorem v_yX2_readLines : x_YV yX2_readLines cX2_readLines 6 (some .boolean) 3 := ⟨⟨(x_gin (List.mem_append_right _ (tb_3 _ (List.mem_of_getElem? (i := 90) rfl))) rfl), (x_gin (List.mem_append_right _ (tb_1 _ (List.mem_of_getElem? (i := 2) rfl))) rfl), by decide +kernel, by decide⟩, (x_gin (List.mem_append_right _ (tb_3 _ (List.mem_of_getElem? (i := 88) rfl))) rfl), (x_gin (List.mem_append_right _ (tb_3 _ (List.mem_of_getElem? (i := 89) rfl))) rfl)⟩
set_option maxRecDepth 100000 in
theorem v_yX5_scan : x_YV yX5_scan cX5_scan 5 none 2 := ⟨⟨(x_gin (List.mem_append_right _ (tb_3 _ (List.mem_of_getElem? (i := 94) rfl))) rfl), (x_gin (List.mem_append_right _ (tb_1 _ (List.mem_of_getElem? (i := 3) rfl))) rfl), by decide +kernel, by decide⟩, (x_gin (List.mem_append_right _ (tb_3 _ (List.mem_of_getElem? (i := 92) rfl))) rfl), (x_gin (List.mem_append_right _ (tb_3 _ (List.mem_of_getElem? (i := 93) rfl))) rfl)⟩
set_option maxRecDepth 100000 in
theorem s_yX5_isLetter : x_YS yX5_isLetter cX5_isLetter 1 (some .boolean) 1 := ⟨⟨(x_gin (List.mem_append_right _ (tb_3 _ (List.mem_of_getElem? (i := 97) rfl))) rfl), (x_gin (List.mem_append_right _ (tb_1 _ (List.mem_of_getElem? (i := 3) rfl))) rfl), by decide +kernel, by decide⟩, (x_gin (List.mem_append_right _ (tb_3 _ (List.mem_of_getElem? (i := 96) rfl))) rfl)⟩
set_option maxRecDepth 100000 in
theorem s_yX8_ofWord : x_YS yX8_ofWord cX8_ofWord 6 (some .int) 3 := ⟨⟨(x_gin (List.mem_append_right _ (tb_3 _ (List.mem_of_getElem? (i := 100) rfl))) rfl), (x_gin (List.mem_append_right _ (tb_1 _ (List.mem_of_getElem? (i := 18) rfl))) rfl), by decide +kernel, by decide⟩, (x_gin (List.mem_append_right _ (tb_3 _ (List.mem_of_getElem? (i := 99) rfl))) rfl)⟩
set_option maxRecDepth 100000 in
theorem v_yJ0_length_8abf5 : x_YV yJ0_length_8abf5 cJ0_length_8abf5 1 (some .int) 0 := ⟨⟨(x_gin (List.mem_append_right _ (tb_3 _ (List.mem_of_getElem? (i := 105) rfl))) rfl), (x_gin (List.mem_append_right _ (tb_1 _ (List.mem_of_getElem? (i := 19) rfl))) rfl), by decide +kernel, by decide⟩, (x_gin (List.mem_append_right _ (tb_3 _ (List.mem_of_getElem? (i := 103) rfl))) rfl), (x_gin (List.mem_append_right _ (tb_3 _ (List.mem_of_getElem? (i := 104) rfl))) rfl)⟩
set_option maxRecDepth 100000 in
theorem v_yJ0_coder_7d493 : x_YV yJ0_coder_7d493 cJ0_coder_7d493 1 (some .byte) 0 := ⟨⟨(x_gin (List.mem_append_right _ (tb_3 _ (List.mem_of_getElem? (i := 109) rfl))) rfl), (x_gin (List.mem_append_right _ (tb_1 _ (List.mem_of_getElem? (i := 19) rfl))) rfl), by decide +kernel, by decide⟩, (x_gin (List.mem_append_right _ (tb_3 _ (List.mem_of_getElem? (i := 107) rfl))) rfl), (x_gin (List.mem_append_right _ (tb_3 _ (List.mem_of_getElem? (i := 108) rfl))) rfl)⟩
set_option maxRecDepth 100000 in
theorem v_yJ0_charAt_5068e : x_YV yJ0_charAt_5068e cJ0_charAt_5068e 2 (some .char) 1 := ⟨⟨(x_gin (List.mem_append_right _ (tb_3 _ (List.mem_of_getElem? (i := 115) rfl))) rfl), (x_gin (List.mem_append_right _ (tb_1 _ (List.mem_of_getElem? (i := 19) rfl))) rfl), by decide +kernel, by decide⟩, (x_gin (List.mem_append_right _ (tb_3 _ (List.mem_of_getElem? (i := 113) rfl))) rfl), (x_gin (List.mem_append_right _ (tb_3 _ (List.mem_of_getElem? (i := 114) rfl))) rfl)⟩
set_option maxRecDepth 100000 in
theorem v_yJ0_isLatin1_aae02 : x_YV yJ0_isLatin1_aae02 cJ0_isLatin1_aae02 1 (some .boolean) 0 := ⟨⟨(x_gin (List.mem_append_right _ (tb_3 _ (List.mem_of_getElem? (i := 119) rfl))) rfl), (x_gin (List.mem_append_right _ (tb_1 _ (List.mem_of_getElem? (i := 19) rfl))) rfl), by decide +kernel, by decide⟩, (x_gin (List.mem_append_right _ (tb_3 _ (List.mem_of_getElem? (i := 117) rfl))) rfl), (x_gin (List.mem_append_right _ (tb_3 _ (List.mem_of_getElem? (i := 118) rfl))) rfl)⟩
set_option maxRecDepth 100000 in
theorem s_yJ1_charAt_3b067 : x_YS yJ1_charAt_3b067 cJ1_charAt_3b067 2 (some .char) 2 := ⟨⟨(x_gin (List.mem_append_right _ (tb_3 _ (List.mem_of_getElem? (i := 122) rfl))) rfl), (x_gin (List.mem_append_right _ (tb_1 _ (List.mem_of_getElem? (i := 20) rfl))) rfl), by decide +kernel, by decide⟩, (x_gin (List.mem_append_right _ (tb_3 _ (List.mem_of_getElem? (i := 121) rfl))) rfl)⟩
set_option maxRecDepth 100000 in
theorem s_yJ0_checkIndex_df160 : x_YS yJ0_checkIndex_df160 cJ0_checkIndex_df160 2 none 2 := ⟨⟨(x_gin (List.mem_append_right _ (tb_3 _ (List.mem_of_getElem? (i := 125) rfl))) rfl), (x_gin (List.mem_append_right _ (tb_1 _ (List.mem_of_getElem? (i := 19) rfl))) rfl), by decide +kernel, by decide⟩, (x_gin (List.mem_append_right _ (tb_3 _ (List.mem_of_getElem? (i := 124) rfl))) rfl)⟩
set_option maxRecDepth 100000 in
theorem s_yJ3_checkIndex_8e157 : x_YS yJ3_checkIndex_8e157 cJ3_checkIndex_8e157 3 (some .int) 3 := ⟨⟨(x_gin (List.mem_append_right _ (tb_3 _ (List.mem_of_getElem? (i := 130) rfl))) rfl), (x_gin (List.mem_append_right _ (tb_1 _ (List.mem_of_getElem? (i := 21) rfl))) rfl), by decide +kernel, by decide⟩, (x_gin (List.mem_append_right _ (tb_3 _ (List.mem_of_getElem? (i := 129) rfl))) rfl)⟩
set_option maxRecDepth 100000 in
theorem s_yJ2_charAt_3b067 : x_YS yJ2_charAt_3b067 cJ2_charAt_3b067 2 (some .char) 2 := ⟨⟨(x_gin (List.mem_append_right _ (tb_3 _ (List.mem_of_getElem? (i := 133) rfl))) rfl), (x_gin (List.mem_append_right _ (tb_1 _ (List.mem_of_getElem? (i := 22) rfl))) rfl), by decide +kernel, by decide⟩, (x_gin (List.mem_append_right _ (tb_3 _ (List.mem_of_getElem? (i := 132) rfl))) rfl)⟩
set_option maxRecDepth 100000 in
theorem s_yJ2_checkIndex_2214a : x_YS yJ2_checkIndex_2214a cJ2_checkIndex_2214a 2 none 2 := ⟨⟨(x_gin (List.mem_append_right _ (tb_3 _ (List.mem_of_getElem? (i := 136) rfl))) rfl), (x_gin (List.mem_append_right _ (tb_1 _ (List.mem_of_getElem? (i := 22) rfl))) rfl), by decide +kernel, by decide⟩, (x_gin (List.mem_append_right _ (tb_3 _ (List.mem_of_getElem? (i := 135) rfl))) rfl)⟩
set_option maxRecDepth 100000 in
theorem s_yJ2_length_9d52b : x_YS yJ2_length_9d52b cJ2_length_9d52b 1 (some .int) 1 := ⟨⟨(x_gin (List.mem_append_right _ (tb_3 _ (List.mem_of_getElem? (i := 139) rfl))) rfl), (x_gin (List.mem_append_right _ (tb_1 _ (List.mem_of_getElem? (i := 22) rfl))) rfl), by decide +kernel, by decide⟩, (x_gin (List.mem_append_right _ (tb_3 _ (List.mem_of_getElem? (i := 138) rfl))) rfl)⟩
set_option maxRecDepth 100000 in
theorem s_yJ2_getChar_3b067 : x_YS yJ2_getChar_3b067 cJ2_getChar_3b067 2 (some .char) 2 := ⟨⟨(x_gin (List.mem_append_right _ (tb_3 _ (List.mem_of_getElem? (i := 143) rfl))) rfl), (x_gin (List.mem_append_right _ (tb_1 _ (List.mem_of_getElem? (i := 22) rfl))) rfl), by decide +kernel, by decide⟩, (x_gin (List.mem_append_right _ (tb_3 _ (List.mem_of_getElem? (i := 142) rfl))) rfl)⟩
set_option maxRecDepth 100000 in
theorem s_yX8_isSame : x_YS yX8_isSame cX8_isSame 6 (some .boolean) 5 := ⟨⟨(x_gin (List.mem_append_right _ (tb_3 _ (List.mem_of_getElem? (i := 152) rfl))) rfl), (x_gin (List.mem_append_right _ (tb_1 _ (List.mem_of_getElem? (i := 18) rfl))) rfl), by decide +kernel, by decide⟩, (x_gin (List.mem_append_right _ (tb_3 _ (List.mem_of_getElem? (i := 151) rfl))) rfl)⟩
set_option maxRecDepth 100000 in
theorem v_yX5_put : x_YV yX5_put cX5_put 4 none 3 := ⟨⟨(x_gin (List.mem_append_right _ (tb_3 _ (List.mem_of_getElem? (i := 156) rfl))) rfl), (x_gin (List.mem_append_right _ (tb_1 _ (List.mem_of_getElem? (i := 3) rfl))) rfl), by decide +kernel, by decide⟩, (x_gin (List.mem_append_right _ (tb_3 _ (List.mem_of_getElem? (i := 155) rfl))) rfl), (x_gin (List.mem_append_left _ (List.mem_of_getElem? (i := 9) rfl)) rfl)⟩
set_option maxRecDepth 100000 in
theorem s_yX5_isDigit : x_YS yX5_isDigit cX5_isDigit 1 (some .boolean) 1 := ⟨⟨(x_gin (List.mem_append_right _ (tb_3 _ (List.mem_of_getElem? (i := 159) rfl))) rfl), (x_gin (List.mem_append_right _ (tb_1 _ (List.mem_of_getElem? (i := 3) rfl))) rfl), by decide +kernel, by decide⟩, (x_gin (List.mem_append_right _ (tb_3 _ (List.mem_of_getElem? (i := 158) rfl))) rfl)⟩
set_option maxRecDepth 100000 in
theorem s_yX5_numberOf : x_YS yX5_numberOf cX5_numberOf 5 (some .int) 3 := ⟨⟨(x_gin (List.mem_append_right _ (tb_3 _ (List.mem_of_getElem? (i := 162) rfl))) rfl), (x_gin (List.mem_append_right _ (tb_1 _ (List.mem_of_getElem? (i := 3) rfl))) rfl), by decide +kernel, by decide⟩, (x_gin (List.mem_append_right _ (tb_3 _ (List.mem_of_getElem? (i := 161) rfl))) rfl)⟩
set_option maxRecDepth 100000 in
theorem s_yX8_ofSign : x_YS yX8_ofSign cX8_ofSign 2 (some .int) 1 := ⟨⟨(x_gin (List.mem_append_right _ (tb_3 _ (List.mem_of_getElem? (i := 165) rfl))) rfl), (x_gin (List.mem_append_right _ (tb_1 _ (List.mem_of_getElem? (i := 18) rfl))) rfl), by decide +kernel, by decide⟩, (x_gin (List.mem_append_right _ (tb_3 _ (List.mem_of_getElem? (i := 164) rfl))) rfl)⟩
set_option maxRecDepth 100000 in
theorem v_yJ0_indexOf_0f7a4 : x_YV yJ0_indexOf_0f7a4 cJ0_indexOf_0f7a4 2 (some .int) 1 := ⟨⟨(x_gin (List.mem_append_right _ (tb_3 _ (List.mem_of_getElem? (i := 170) rfl))) rfl), (x_gin (List.mem_append_right _ (tb_1 _ (List.mem_of_getElem? (i := 19) rfl))) rfl), by decide +kernel, by decide⟩, (x_gin (List.mem_append_right _ (tb_3 _ (List.mem_of_getElem? (i := 168) rfl))) rfl), (x_gin (List.mem_append_right _ (tb_3 _ (List.mem_of_getElem? (i := 169) rfl))) rfl)⟩
set_option maxRecDepth 100000 in
theorem v_yJ0_indexOf_7cf53 : x_YV yJ0_indexOf_7cf53 cJ0_indexOf_7cf53 3 (some .int) 2 := ⟨⟨(x_gin (List.mem_append_right _ (tb_3 _ (List.mem_of_getElem? (i := 174) rfl))) rfl), (x_gin (List.mem_append_right _ (tb_1 _ (List.mem_of_getElem? (i := 19) rfl))) rfl), by decide +kernel, by decide⟩, (x_gin (List.mem_append_right _ (tb_3 _ (List.mem_of_getElem? (i := 172) rfl))) rfl), (x_gin (List.mem_append_right _ (tb_3 _ (List.mem_of_getElem? (i := 173) rfl))) rfl)⟩
set_option maxRecDepth 100000 in
theorem s_yJ1_indexOf_4cfef : x_YS yJ1_indexOf_4cfef cJ1_indexOf_4cfef 4 (some .int) 4 := ⟨⟨(x_gin (List.mem_append_right _ (tb_3 _ (List.mem_of_getElem? (i := 178) rfl))) rfl), (x_gin (List.mem_append_right _ (tb_1 _ (List.mem_of_getElem? (i := 20) rfl))) rfl), by decide +kernel, by decide⟩, (x_gin (List.mem_append_right _ (tb_3 _ (List.mem_of_getElem? (i := 177) rfl))) rfl)⟩
set_option maxRecDepth 100000 in
theorem s_yJ1_canEncode_9a6ad : x_YS yJ1_canEncode_9a6ad cJ1_canEncode_9a6ad 1 (some .boolean) 1 := ⟨⟨(x_gin (List.mem_append_right _ (tb_3 _ (List.mem_of_getElem? (i := 181) rfl))) rfl), (x_gin (List.mem_append_right _ (tb_1 _ (List.mem_of_getElem? (i := 20) rfl))) rfl), by decide +kernel, by decide⟩, (x_gin (List.mem_append_right _ (tb_3 _ (List.mem_of_getElem? (i := 180) rfl))) rfl)⟩
set_option maxRecDepth 100000 in
theorem s_yJ9_max_7cf53 : x_YS yJ9_max_7cf53 cJ9_max_7cf53 2 (some .int) 2 := ⟨⟨(x_gin (List.mem_append_right _ (tb_3 _ (List.mem_of_getElem? (i := 184) rfl))) rfl), (x_gin (List.mem_append_right _ (tb_1 _ (List.mem_of_getElem? (i := 23) rfl))) rfl), by decide +kernel, by decide⟩, (x_gin (List.mem_append_right _ (tb_3 _ (List.mem_of_getElem? (i := 183) rfl))) rfl)⟩
set_option maxRecDepth 100000 in
theorem s_yJ9_min_7cf53 : x_YS yJ9_min_7cf53 cJ9_min_7cf53 2 (some .int) 2 := ⟨⟨(x_gin (List.mem_append_right _ (tb_3 _ (List.mem_of_getElem? (i := 187) rfl))) rfl), (x_gin (List.mem_append_right _ (tb_1 _ (List.mem_of_getElem? (i := 23) rfl))) rfl), by decide +kernel, by decide⟩, (x_gin (List.mem_append_right _ (tb_3 _ (List.mem_of_getElem? (i := 186) rfl))) rfl)⟩
set_option maxRecDepth 100000 in
theorem s_yJ1_indexOfChar_4cfef : x_YS yJ1_indexOfChar_4cfef cJ1_indexOfChar_4cfef 6 (some .int) 4 := ⟨⟨(x_gin (List.mem_append_right _ (tb_3 _ (List.mem_of_getElem? (i := 190) rfl))) rfl), (x_gin (List.mem_append_right _ (tb_1 _ (List.mem_of_getElem? (i := 20) rfl))) rfl), by decide +kernel, by decide⟩, (x_gin (List.mem_append_right _ (tb_3 _ (List.mem_of_getElem? (i := 189) rfl))) rfl)⟩
set_option maxRecDepth 100000 in
theorem s_yJ2_indexOf_4cfef : x_YS yJ2_indexOf_4cfef cJ2_indexOf_4cfef 4 (some .int) 4 := ⟨⟨(x_gin (List.mem_append_right _ (tb_3 _ (List.mem_of_getElem? (i := 193) rfl))) rfl), (x_gin (List.mem_append_right _ (tb_1 _ (List.mem_of_getElem? (i := 22) rfl))) rfl), by decide +kernel, by decide⟩, (x_gin (List.mem_append_right _ (tb_3 _ (List.mem_of_getElem? (i := 192) rfl))) rfl)⟩
set_option maxRecDepth 100000 in
theorem s_yJ2_indexOfChar_4cfef : x_YS yJ2_indexOfChar_4cfef cJ2_indexOfChar_4cfef 4 (some .int) 4 := ⟨⟨(x_gin (List.mem_append_right _ (tb_3 _ (List.mem_of_getElem? (i := 199) rfl))) rfl), (x_gin (List.mem_append_right _ (tb_1 _ (List.mem_of_getElem? (i := 22) rfl))) rfl), by decide +kernel, by decide⟩, (x_gin (List.mem_append_right _ (tb_3 _ (List.mem_of_getElem? (i := 198) rfl))) rfl)⟩
set_option maxRecDepth 100000 in
theorem s_yJ2_checkBoundsBeginEnd_d044e : x_YS yJ2_checkBoundsBeginEnd_d044e cJ2_checkBoundsBeginEnd_d044e 3 none 3 := ⟨⟨(x_gin (List.mem_append_right _ (tb_3 _ (List.mem_of_getElem? (i := 202) rfl))) rfl), (x_gin (List.mem_append_right _ (tb_1 _ (List.mem_of_getElem? (i := 22) rfl))) rfl), by decide +kernel, by decide⟩, (x_gin (List.mem_append_right _ (tb_3 _ (List.mem_of_getElem? (i := 201) rfl))) rfl)⟩
set_option maxRecDepth 100000 in
theorem s_yJ0_checkBoundsBeginEnd_23922 : x_YS yJ0_checkBoundsBeginEnd_23922 cJ0_checkBoundsBeginEnd_23922 3 none 3 := ⟨⟨(x_gin (List.mem_append_right _ (tb_3 _ (List.mem_of_getElem? (i := 205) rfl))) rfl), (x_gin (List.mem_append_right _ (tb_1 _ (List.mem_of_getElem? (i := 19) rfl))) rfl), by decide +kernel, by decide⟩, (x_gin (List.mem_append_right _ (tb_3 _ (List.mem_of_getElem? (i := 204) rfl))) rfl)⟩
set_option maxRecDepth 100000 in
theorem s_yJ3_checkFromToIndex_8c36e : x_YS yJ3_checkFromToIndex_8c36e cJ3_checkFromToIndex_8c36e 4 (some .int) 4 := ⟨⟨(x_gin (List.mem_append_right _ (tb_3 _ (List.mem_of_getElem? (i := 208) rfl))) rfl), (x_gin (List.mem_append_right _ (tb_1 _ (List.mem_of_getElem? (i := 21) rfl))) rfl), by decide +kernel, by decide⟩, (x_gin (List.mem_append_right _ (tb_3 _ (List.mem_of_getElem? (i := 207) rfl))) rfl)⟩
set_option maxRecDepth 100000 in
theorem s_yJ2_indexOfCharUnsafe_4cfef : x_YS yJ2_indexOfCharUnsafe_4cfef cJ2_indexOfCharUnsafe_4cfef 5 (some .int) 4 := ⟨⟨(x_gin (List.mem_append_right _ (tb_3 _ (List.mem_of_getElem? (i := 211) rfl))) rfl), (x_gin (List.mem_append_right _ (tb_1 _ (List.mem_of_getElem? (i := 22) rfl))) rfl), by decide +kernel, by decide⟩, (x_gin (List.mem_append_right _ (tb_3 _ (List.mem_of_getElem? (i := 210) rfl))) rfl)⟩
set_option maxRecDepth 100000 in
theorem s_yJ2_indexOfSupplementary_4cfef : x_YS yJ2_indexOfSupplementary_4cfef cJ2_indexOfSupplementary_4cfef 7 (some .int) 4 := ⟨⟨(x_gin (List.mem_append_right _ (tb_3 _ (List.mem_of_getElem? (i := 214) rfl))) rfl), (x_gin (List.mem_append_right _ (tb_1 _ (List.mem_of_getElem? (i := 22) rfl))) rfl), by decide +kernel, by decide⟩, (x_gin (List.mem_append_right _ (tb_3 _ (List.mem_of_getElem? (i := 213) rfl))) rfl)⟩
set_option maxRecDepth 100000 in
theorem s_yJ11_isValidCodePoint_9a6ad : x_YS yJ11_isValidCodePoint_9a6ad cJ11_isValidCodePoint_9a6ad 2 (some .boolean) 1 := ⟨⟨(x_gin (List.mem_append_right _ (tb_3 _ (List.mem_of_getElem? (i := 217) rfl))) rfl), (x_gin (List.mem_append_right _ (tb_1 _ (List.mem_of_getElem? (i := 24) rfl))) rfl), by decide +kernel, by decide⟩, (x_gin (List.mem_append_right _ (tb_3 _ (List.mem_of_getElem? (i := 216) rfl))) rfl)⟩
set_option maxRecDepth 100000 in
theorem s_yJ11_highSurrogate_5068e : x_YS yJ11_highSurrogate_5068e cJ11_highSurrogate_5068e 1 (some .char) 1 := ⟨⟨(x_gin (List.mem_append_right _ (tb_3 _ (List.mem_of_getElem? (i := 220) rfl))) rfl), (x_gin (List.mem_append_right _ (tb_1 _ (List.mem_of_getElem? (i := 24) rfl))) rfl), by decide +kernel, by decide⟩, (x_gin (List.mem_append_right _ (tb_3 _ (List.mem_of_getElem? (i := 219) rfl))) rfl)⟩
set_option maxRecDepth 100000 in
theorem s_yJ11_lowSurrogate_5068e : x_YS yJ11_lowSurrogate_5068e cJ11_lowSurrogate_5068e 1 (some .char) 1 := ⟨⟨(x_gin (List.mem_append_right _ (tb_3 _ (List.mem_of_getElem? (i := 224) rfl))) rfl), (x_gin (List.mem_append_right _ (tb_1 _ (List.mem_of_getElem? (i := 24) rfl))) rfl), by decide +kernel, by decide⟩, (x_gin (List.mem_append_right _ (tb_3 _ (List.mem_of_getElem? (i := 223) rfl))) rfl)⟩
set_option maxRecDepth 100000 in
theorem v_yX2_startAnew : x_YV yX2_startAnew cX2_startAnew 1 none 0 := ⟨⟨(x_gin (List.mem_append_right _ (tb_3 _ (List.mem_of_getElem? (i := 229) rfl))) rfl), (x_gin (List.mem_append_right _ (tb_1 _ (List.mem_of_getElem? (i := 2) rfl))) rfl), by decide +kernel, by decide⟩, (x_gin (List.mem_append_right _ (tb_3 _ (List.mem_of_getElem? (i := 228) rfl))) rfl), (x_gin (List.mem_append_left _ (List.mem_of_getElem? (i := 10) rfl)) rfl)⟩
set_option maxRecDepth 100000 in
theorem v_yX2_token : x_YV yX2_token cX2_token 1 (some .int) 0 := ⟨⟨(x_gin (List.mem_append_right _ (tb_3 _ (List.mem_of_getElem? (i := 233) rfl))) rfl), (x_gin (List.mem_append_right _ (tb_1 _ (List.mem_of_getElem? (i := 2) rfl))) rfl), by decide +kernel, by decide⟩, (x_gin (List.mem_append_right _ (tb_3 _ (List.mem_of_getElem? (i := 232) rfl))) rfl), (x_gin (List.mem_append_left _ (List.mem_of_getElem? (i := 11) rfl)) rfl)⟩
set_option maxRecDepth 100000 in
theorem v_yX2_readRuleLine : x_YV yX2_readRuleLine cX2_readRuleLine 1 (some .boolean) 0 := ⟨⟨(x_gin (List.mem_append_right _ (tb_3 _ (List.mem_of_getElem? (i := 237) rfl))) rfl), (x_gin (List.mem_append_right _ (tb_1 _ (List.mem_of_getElem? (i := 2) rfl))) rfl), by decide +kernel, by decide⟩, (x_gin (List.mem_append_right _ (tb_3 _ (List.mem_of_getElem? (i := 236) rfl))) rfl), (x_gin (List.mem_append_left _ (List.mem_of_getElem? (i := 12) rfl)) rfl)⟩
set_option maxRecDepth 100000 in
theorem v_yX2_readPair : x_YV yX2_readPair cX2_readPair 8 (some .boolean) 5 := ⟨⟨(x_gin (List.mem_append_right _ (tb_4 _ (List.mem_of_getElem? (i := 1) rfl))) rfl), (x_gin (List.mem_append_right _ (tb_1 _ (List.mem_of_getElem? (i := 2) rfl))) rfl), by decide +kernel, by decide⟩, (x_gin (List.mem_append_right _ (tb_4 _ (List.mem_of_getElem? (i := 0) rfl))) rfl), (x_gin (List.mem_append_left _ (List.mem_of_getElem? (i := 13) rfl)) rfl)⟩
set_option maxRecDepth 100000 in
theorem v_yX2_number : x_YV yX2_number cX2_number 4 (some .int) 2 := ⟨⟨(x_gin (List.mem_append_right _ (tb_4 _ (List.mem_of_getElem? (i := 5) rfl))) rfl), (x_gin (List.mem_append_right _ (tb_1 _ (List.mem_of_getElem? (i := 2) rfl))) rfl), by decide +kernel, by decide⟩, (x_gin (List.mem_append_right _ (tb_4 _ (List.mem_of_getElem? (i := 4) rfl))) rfl), (x_gin (List.mem_append_left _ (List.mem_of_getElem? (i := 14) rfl)) rfl)⟩
set_option maxRecDepth 100000 in
theorem v_yX2_pass : x_YV yX2_pass cX2_pass 2 (some .boolean) 1 := ⟨⟨(x_gin (List.mem_append_right _ (tb_4 _ (List.mem_of_getElem? (i := 9) rfl))) rfl), (x_gin (List.mem_append_right _ (tb_1 _ (List.mem_of_getElem? (i := 2) rfl))) rfl), by decide +kernel, by decide⟩, (x_gin (List.mem_append_right _ (tb_4 _ (List.mem_of_getElem? (i := 8) rfl))) rfl), (x_gin (List.mem_append_left _ (List.mem_of_getElem? (i := 15) rfl)) rfl)⟩
set_option maxRecDepth 100000 in
theorem v_yX2_refuse : x_YV yX2_refuse cX2_refuse 1 (some .boolean) 0 := ⟨⟨(x_gin (List.mem_append_right _ (tb_4 _ (List.mem_of_getElem? (i := 13) rfl))) rfl), (x_gin (List.mem_append_right _ (tb_1 _ (List.mem_of_getElem? (i := 2) rfl))) rfl), by decide +kernel, by decide⟩, (x_gin (List.mem_append_right _ (tb_4 _ (List.mem_of_getElem? (i := 12) rfl))) rfl), (x_gin (List.mem_append_left _ (List.mem_of_getElem? (i := 16) rfl)) rfl)⟩
set_option maxRecDepth 100000 in
theorem v_yX2_keepLine : x_YV yX2_keepLine cX2_keepLine 4 (some .boolean) 3 := ⟨⟨(x_gin (List.mem_append_right _ (tb_4 _ (List.mem_of_getElem? (i := 17) rfl))) rfl), (x_gin (List.mem_append_right _ (tb_1 _ (List.mem_of_getElem? (i := 2) rfl))) rfl), by decide +kernel, by decide⟩, (x_gin (List.mem_append_right _ (tb_4 _ (List.mem_of_getElem? (i := 16) rfl))) rfl), (x_gin (List.mem_append_left _ (List.mem_of_getElem? (i := 17) rfl)) rfl)⟩
set_option maxRecDepth 100000 in
theorem v_yX2_readWayLine : x_YV yX2_readWayLine cX2_readWayLine 2 (some .boolean) 0 := ⟨⟨(x_gin (List.mem_append_right _ (tb_4 _ (List.mem_of_getElem? (i := 21) rfl))) rfl), (x_gin (List.mem_append_right _ (tb_1 _ (List.mem_of_getElem? (i := 2) rfl))) rfl), by decide +kernel, by decide⟩, (x_gin (List.mem_append_right _ (tb_4 _ (List.mem_of_getElem? (i := 20) rfl))) rfl), (x_gin (List.mem_append_left _ (List.mem_of_getElem? (i := 18) rfl)) rfl)⟩
set_option maxRecDepth 100000 in
theorem v_yX2_readCondition : x_YV yX2_readCondition cX2_readCondition 6 (some .boolean) 1 := ⟨⟨(x_gin (List.mem_append_right _ (tb_4 _ (List.mem_of_getElem? (i := 25) rfl))) rfl), (x_gin (List.mem_append_right _ (tb_1 _ (List.mem_of_getElem? (i := 2) rfl))) rfl), by decide +kernel, by decide⟩, (x_gin (List.mem_append_right _ (tb_4 _ (List.mem_of_getElem? (i := 24) rfl))) rfl), (x_gin (List.mem_append_left _ (List.mem_of_getElem? (i := 19) rfl)) rfl)⟩
set_option maxRecDepth 100000 in
theorem v_yX2_readAtom : x_YV yX2_readAtom cX2_readAtom 3 (some .boolean) 1 := ⟨⟨(x_gin (List.mem_append_right _ (tb_4 _ (List.mem_of_getElem? (i := 29) rfl))) rfl), (x_gin (List.mem_append_right _ (tb_1 _ (List.mem_of_getElem? (i := 2) rfl))) rfl), by decide +kernel, by decide⟩, (x_gin (List.mem_append_right _ (tb_4 _ (List.mem_of_getElem? (i := 28) rfl))) rfl), (x_gin (List.mem_append_left _ (List.mem_of_getElem? (i := 20) rfl)) rfl)⟩
set_option maxRecDepth 100000 in
theorem v_yX2_keepStep : x_YV yX2_keepStep cX2_keepStep 3 (some .boolean) 2 := ⟨⟨(x_gin (List.mem_append_right _ (tb_4 _ (List.mem_of_getElem? (i := 33) rfl))) rfl), (x_gin (List.mem_append_right _ (tb_1 _ (List.mem_of_getElem? (i := 2) rfl))) rfl), by decide +kernel, by decide⟩, (x_gin (List.mem_append_right _ (tb_4 _ (List.mem_of_getElem? (i := 32) rfl))) rfl), (x_gin (List.mem_append_left _ (List.mem_of_getElem? (i := 21) rfl)) rfl)⟩
set_option maxRecDepth 100000 in
theorem v_yX2_readComparison : x_YV yX2_readComparison cX2_readComparison 2 (some .boolean) 0 := ⟨⟨(x_gin (List.mem_append_right _ (tb_4 _ (List.mem_of_getElem? (i := 37) rfl))) rfl), (x_gin (List.mem_append_right _ (tb_1 _ (List.mem_of_getElem? (i := 2) rfl))) rfl), by decide +kernel, by decide⟩, (x_gin (List.mem_append_right _ (tb_4 _ (List.mem_of_getElem? (i := 36) rfl))) rfl), (x_gin (List.mem_append_left _ (List.mem_of_getElem? (i := 22) rfl)) rfl)⟩
set_option maxRecDepth 100000 in
theorem v_yX2_readSum : x_YV yX2_readSum cX2_readSum 4 (some .boolean) 0 := ⟨⟨(x_gin (List.mem_append_right _ (tb_4 _ (List.mem_of_getElem? (i := 41) rfl))) rfl), (x_gin (List.mem_append_right _ (tb_1 _ (List.mem_of_getElem? (i := 2) rfl))) rfl), by decide +kernel, by decide⟩, (x_gin (List.mem_append_right _ (tb_4 _ (List.mem_of_getElem? (i := 40) rfl))) rfl), (x_gin (List.mem_append_left _ (List.mem_of_getElem? (i := 23) rfl)) rfl)⟩
set_option maxRecDepth 100000 in
theorem v_yX2_ruleRead : x_YV yX2_ruleRead cX2_ruleRead 1 (some (.object "DarkSitting$Rule")) 0 := ⟨⟨(x_gin (List.mem_append_right _ (tb_4 _ (List.mem_of_getElem? (i := 45) rfl))) rfl), (x_gin (List.mem_append_right _ (tb_1 _ (List.mem_of_getElem? (i := 2) rfl))) rfl), by decide +kernel, by decide⟩, (x_gin (List.mem_append_right _ (tb_4 _ (List.mem_of_getElem? (i := 43) rfl))) rfl), (x_gin (List.mem_append_right _ (tb_4 _ (List.mem_of_getElem? (i := 44) rfl))) rfl)⟩
set_option maxRecDepth 100000 in
theorem s_yJ7_copyOf_59c91 : x_YS yJ7_copyOf_59c91 cJ7_copyOf_59c91 3 (some (.array .int)) 2 := ⟨⟨(x_gin (List.mem_append_right _ (tb_4 _ (List.mem_of_getElem? (i := 49) rfl))) rfl), (x_gin (List.mem_append_right _ (tb_1 _ (List.mem_of_getElem? (i := 17) rfl))) rfl), by decide +kernel, by decide⟩, (x_gin (List.mem_append_right _ (tb_4 _ (List.mem_of_getElem? (i := 48) rfl))) rfl)⟩
set_option maxRecDepth 100000 in
theorem v_yX0_addRule : x_YV yX0_addRule cX0_addRule 2 (some .int) 1 := ⟨⟨(x_gin (List.mem_append_right _ (tb_4 _ (List.mem_of_getElem? (i := 65) rfl))) rfl), (x_gin (List.mem_append_right _ (tb_1 _ (List.mem_of_getElem? (i := 4) rfl))) rfl), by decide +kernel, by decide⟩, (x_gin (List.mem_append_right _ (tb_4 _ (List.mem_of_getElem? (i := 63) rfl))) rfl), (x_gin (List.mem_append_right _ (tb_4 _ (List.mem_of_getElem? (i := 64) rfl))) rfl)⟩
set_option maxRecDepth 100000 in
theorem v_yX10_way : x_YV yX10_way cX10_way 2 (some .int) 0 := ⟨⟨(x_gin (List.mem_append_right _ (tb_4 _ (List.mem_of_getElem? (i := 72) rfl))) rfl), (x_gin (List.mem_append_right _ (tb_1 _ (List.mem_of_getElem? (i := 1) rfl))) rfl), by decide +kernel, by decide⟩, (x_gin (List.mem_append_right _ (tb_4 _ (List.mem_of_getElem? (i := 70) rfl))) rfl), (x_gin (List.mem_append_right _ (tb_4 _ (List.mem_of_getElem? (i := 71) rfl))) rfl)⟩
set_option maxRecDepth 100000 in
theorem v_yX2_wayRead : x_YV yX2_wayRead cX2_wayRead 1 (some (.object "DarkSitting$Way")) 0 := ⟨⟨(x_gin (List.mem_append_right _ (tb_4 _ (List.mem_of_getElem? (i := 76) rfl))) rfl), (x_gin (List.mem_append_right _ (tb_1 _ (List.mem_of_getElem? (i := 2) rfl))) rfl), by decide +kernel, by decide⟩, (x_gin (List.mem_append_right _ (tb_4 _ (List.mem_of_getElem? (i := 74) rfl))) rfl), (x_gin (List.mem_append_right _ (tb_4 _ (List.mem_of_getElem? (i := 75) rfl))) rfl)⟩
set_option maxRecDepth 100000 in
theorem v_yX0_addWay : x_YV yX0_addWay cX0_addWay 2 (some .int) 1 := ⟨⟨(x_gin (List.mem_append_right _ (tb_4 _ (List.mem_of_getElem? (i := 82) rfl))) rfl), (x_gin (List.mem_append_right _ (tb_1 _ (List.mem_of_getElem? (i := 4) rfl))) rfl), by decide +kernel, by decide⟩, (x_gin (List.mem_append_right _ (tb_4 _ (List.mem_of_getElem? (i := 80) rfl))) rfl), (x_gin (List.mem_append_right _ (tb_4 _ (List.mem_of_getElem? (i := 81) rfl))) rfl)⟩
set_option maxRecDepth 100000 in
theorem v_yX10_thing : x_YV yX10_thing cX10_thing 4 (some .int) 3 := ⟨⟨(x_gin (List.mem_append_right _ (tb_4 _ (List.mem_of_getElem? (i := 89) rfl))) rfl), (x_gin (List.mem_append_right _ (tb_1 _ (List.mem_of_getElem? (i := 1) rfl))) rfl), by decide +kernel, by decide⟩, (x_gin (List.mem_append_right _ (tb_4 _ (List.mem_of_getElem? (i := 87) rfl))) rfl), (x_gin (List.mem_append_right _ (tb_4 _ (List.mem_of_getElem? (i := 88) rfl))) rfl)⟩
set_option maxRecDepth 100000 in
theorem v_yX10_look : x_YV yX10_look cX10_look 4 (some .int) 2 := ⟨⟨(x_gin (List.mem_append_right _ (tb_4 _ (List.mem_of_getElem? (i := 98) rfl))) rfl), (x_gin (List.mem_append_right _ (tb_1 _ (List.mem_of_getElem? (i := 1) rfl))) rfl), by decide +kernel, by decide⟩, (x_gin (List.mem_append_right _ (tb_4 _ (List.mem_of_getElem? (i := 96) rfl))) rfl), (x_gin (List.mem_append_right _ (tb_4 _ (List.mem_of_getElem? (i := 97) rfl))) rfl)⟩
set_option maxRecDepth 100000 in
theorem s_yX10_demandRow : x_YS yX10_demandRow cX10_demandRow 2 none 2 := ⟨⟨(x_gin (List.mem_append_right _ (tb_4 _ (List.mem_of_getElem? (i := 101) rfl))) rfl), (x_gin (List.mem_append_right _ (tb_1 _ (List.mem_of_getElem? (i := 1) rfl))) rfl), by decide +kernel, by decide⟩, (x_gin (List.mem_append_right _ (tb_4 _ (List.mem_of_getElem? (i := 100) rfl))) rfl)⟩
set_option maxRecDepth 100000 in
theorem s_yX10_demandWhat : x_YS yX10_demandWhat cX10_demandWhat 2 none 2 := ⟨⟨(x_gin (List.mem_append_right _ (tb_4 _ (List.mem_of_getElem? (i := 120) rfl))) rfl), (x_gin (List.mem_append_right _ (tb_1 _ (List.mem_of_getElem? (i := 1) rfl))) rfl), by decide +kernel, by decide⟩, (x_gin (List.mem_append_right _ (tb_4 _ (List.mem_of_getElem? (i := 119) rfl))) rfl)⟩
set_option maxRecDepth 100000 in
theorem v_yX6_settle : x_YV yX6_settle cX6_settle 6 none 3 := ⟨⟨(x_gin (List.mem_append_right _ (tb_4 _ (List.mem_of_getElem? (i := 140) rfl))) rfl), (x_gin (List.mem_append_right _ (tb_1 _ (List.mem_of_getElem? (i := 9) rfl))) rfl), by decide +kernel, by decide⟩, (x_gin (List.mem_append_right _ (tb_4 _ (List.mem_of_getElem? (i := 138) rfl))) rfl), (x_gin (List.mem_append_right _ (tb_4 _ (List.mem_of_getElem? (i := 139) rfl))) rfl)⟩
set_option maxRecDepth 100000 in
theorem v_yX4_lineCount : x_YV yX4_lineCount cX4_lineCount 1 (some .int) 0 := ⟨⟨(x_gin (List.mem_append_right _ (tb_4 _ (List.mem_of_getElem? (i := 145) rfl))) rfl), (x_gin (List.mem_append_right _ (tb_1 _ (List.mem_of_getElem? (i := 6) rfl))) rfl), by decide +kernel, by decide⟩, (x_gin (List.mem_append_right _ (tb_4 _ (List.mem_of_getElem? (i := 143) rfl))) rfl), (x_gin (List.mem_append_right _ (tb_4 _ (List.mem_of_getElem? (i := 144) rfl))) rfl)⟩
set_option maxRecDepth 100000 in
theorem v_yX6_settleLine : x_YV yX6_settleLine cX6_settleLine 6 none 4 := ⟨⟨(x_gin (List.mem_append_right _ (tb_4 _ (List.mem_of_getElem? (i := 149) rfl))) rfl), (x_gin (List.mem_append_right _ (tb_1 _ (List.mem_of_getElem? (i := 9) rfl))) rfl), by decide +kernel, by decide⟩, (x_gin (List.mem_append_right _ (tb_4 _ (List.mem_of_getElem? (i := 148) rfl))) rfl), (x_gin (List.mem_append_left _ (List.mem_of_getElem? (i := 24) rfl)) rfl)⟩
set_option maxRecDepth 100000 in
theorem v_yX6_litSeconds : x_YV yX6_litSeconds cX6_litSeconds 3 (some .int) 0 := ⟨⟨(x_gin (List.mem_append_right _ (tb_4 _ (List.mem_of_getElem? (i := 154) rfl))) rfl), (x_gin (List.mem_append_right _ (tb_1 _ (List.mem_of_getElem? (i := 9) rfl))) rfl), by decide +kernel, by decide⟩, (x_gin (List.mem_append_right _ (tb_4 _ (List.mem_of_getElem? (i := 152) rfl))) rfl), (x_gin (List.mem_append_right _ (tb_4 _ (List.mem_of_getElem? (i := 153) rfl))) rfl)⟩
set_option maxRecDepth 100000 in
theorem v_yX10_needs : x_YV yX10_needs cX10_needs 6 (some .boolean) 5 := ⟨⟨(x_gin (List.mem_append_right _ (tb_4 _ (List.mem_of_getElem? (i := 162) rfl))) rfl), (x_gin (List.mem_append_right _ (tb_1 _ (List.mem_of_getElem? (i := 1) rfl))) rfl), by decide +kernel, by decide⟩, (x_gin (List.mem_append_right _ (tb_4 _ (List.mem_of_getElem? (i := 160) rfl))) rfl), (x_gin (List.mem_append_right _ (tb_4 _ (List.mem_of_getElem? (i := 161) rfl))) rfl)⟩
set_option maxRecDepth 100000 in
theorem v_yX6_setsThatMeet : x_YV yX6_setsThatMeet cX6_setsThatMeet 14 (some .int) 3 := ⟨⟨(x_gin (List.mem_append_right _ (tb_4 _ (List.mem_of_getElem? (i := 166) rfl))) rfl), (x_gin (List.mem_append_right _ (tb_1 _ (List.mem_of_getElem? (i := 9) rfl))) rfl), by decide +kernel, by decide⟩, (x_gin (List.mem_append_right _ (tb_4 _ (List.mem_of_getElem? (i := 164) rfl))) rfl), (x_gin (List.mem_append_right _ (tb_4 _ (List.mem_of_getElem? (i := 165) rfl))) rfl)⟩
set_option maxRecDepth 100000 in
theorem s_yX6_setsThatCompare : x_YS yX6_setsThatCompare cX6_setsThatCompare 7 (some .int) 3 := ⟨⟨(x_gin (List.mem_append_right _ (tb_4 _ (List.mem_of_getElem? (i := 171) rfl))) rfl), (x_gin (List.mem_append_right _ (tb_1 _ (List.mem_of_getElem? (i := 9) rfl))) rfl), by decide +kernel, by decide⟩, (x_gin (List.mem_append_right _ (tb_4 _ (List.mem_of_getElem? (i := 170) rfl))) rfl)⟩
set_option maxRecDepth 100000 in
theorem s_yX6_isTag : x_YS yX6_isTag cX6_isTag 1 (some .boolean) 1 := ⟨⟨(x_gin (List.mem_append_right _ (tb_4 _ (List.mem_of_getElem? (i := 177) rfl))) rfl), (x_gin (List.mem_append_right _ (tb_1 _ (List.mem_of_getElem? (i := 9) rfl))) rfl), by decide +kernel, by decide⟩, (x_gin (List.mem_append_right _ (tb_4 _ (List.mem_of_getElem? (i := 176) rfl))) rfl)⟩
set_option maxRecDepth 100000 in
theorem v_yX6_setsOfTag : x_YV yX6_setsOfTag cX6_setsOfTag 5 (some .int) 3 := ⟨⟨(x_gin (List.mem_append_right _ (tb_4 _ (List.mem_of_getElem? (i := 181) rfl))) rfl), (x_gin (List.mem_append_right _ (tb_1 _ (List.mem_of_getElem? (i := 9) rfl))) rfl), by decide +kernel, by decide⟩, (x_gin (List.mem_append_right _ (tb_4 _ (List.mem_of_getElem? (i := 180) rfl))) rfl), (x_gin (List.mem_append_left _ (List.mem_of_getElem? (i := 25) rfl)) rfl)⟩
set_option maxRecDepth 100000 in
theorem v_yX6_partOf : x_YV yX6_partOf cX6_partOf 4 (some .int) 3 := ⟨⟨(x_gin (List.mem_append_right _ (tb_4 _ (List.mem_of_getElem? (i := 188) rfl))) rfl), (x_gin (List.mem_append_right _ (tb_1 _ (List.mem_of_getElem? (i := 9) rfl))) rfl), by decide +kernel, by decide⟩, (x_gin (List.mem_append_right _ (tb_4 _ (List.mem_of_getElem? (i := 187) rfl))) rfl), (x_gin (List.mem_append_left _ (List.mem_of_getElem? (i := 26) rfl)) rfl)⟩
set_option maxRecDepth 100000 in
theorem v_yX10_note : x_YV yX10_note cX10_note 3 (some .int) 2 := ⟨⟨(x_gin (List.mem_append_right _ (tb_4 _ (List.mem_of_getElem? (i := 196) rfl))) rfl), (x_gin (List.mem_append_right _ (tb_1 _ (List.mem_of_getElem? (i := 1) rfl))) rfl), by decide +kernel, by decide⟩, (x_gin (List.mem_append_right _ (tb_4 _ (List.mem_of_getElem? (i := 194) rfl))) rfl), (x_gin (List.mem_append_right _ (tb_4 _ (List.mem_of_getElem? (i := 195) rfl))) rfl)⟩
set_option maxRecDepth 100000 in
theorem v_yX10_can : x_YV yX10_can cX10_can 4 (some .boolean) 3 := ⟨⟨(x_gin (List.mem_append_right _ (tb_4 _ (List.mem_of_getElem? (i := 203) rfl))) rfl), (x_gin (List.mem_append_right _ (tb_1 _ (List.mem_of_getElem? (i := 1) rfl))) rfl), by decide +kernel, by decide⟩, (x_gin (List.mem_append_right _ (tb_4 _ (List.mem_of_getElem? (i := 201) rfl))) rfl), (x_gin (List.mem_append_right _ (tb_4 _ (List.mem_of_getElem? (i := 202) rfl))) rfl)⟩
set_option maxRecDepth 100000 in
theorem v_yX1_prepare : x_YV yX1_prepare cX1_prepare 10 none 4 := ⟨⟨(x_gin (List.mem_append_right _ (tb_4 _ (List.mem_of_getElem? (i := 207) rfl))) rfl), (x_gin (List.mem_append_right _ (tb_1 _ (List.mem_of_getElem? (i := 8) rfl))) rfl), by decide +kernel, by decide⟩, (x_gin (List.mem_append_right _ (tb_4 _ (List.mem_of_getElem? (i := 205) rfl))) rfl), (x_gin (List.mem_append_right _ (tb_4 _ (List.mem_of_getElem? (i := 206) rfl))) rfl)⟩
set_option maxRecDepth 100000 in
theorem v_yX1_allowUnseen : x_YV yX1_allowUnseen cX1_allowUnseen 3 none 0 := ⟨⟨(x_gin (List.mem_append_right _ (tb_4 _ (List.mem_of_getElem? (i := 212) rfl))) rfl), (x_gin (List.mem_append_right _ (tb_1 _ (List.mem_of_getElem? (i := 8) rfl))) rfl), by decide +kernel, by decide⟩, (x_gin (List.mem_append_right _ (tb_4 _ (List.mem_of_getElem? (i := 211) rfl))) rfl), (x_gin (List.mem_append_left _ (List.mem_of_getElem? (i := 27) rfl)) rfl)⟩
set_option maxRecDepth 100000 in
theorem v_yX9_setsItChanges : x_YV yX9_setsItChanges cX9_setsItChanges 3 (some .int) 0 := ⟨⟨(x_gin (List.mem_append_right _ (tb_4 _ (List.mem_of_getElem? (i := 218) rfl))) rfl), (x_gin (List.mem_append_right _ (tb_1 _ (List.mem_of_getElem? (i := 7) rfl))) rfl), by decide +kernel, by decide⟩, (x_gin (List.mem_append_right _ (tb_4 _ (List.mem_of_getElem? (i := 216) rfl))) rfl), (x_gin (List.mem_append_right _ (tb_4 _ (List.mem_of_getElem? (i := 217) rfl))) rfl)⟩
set_option maxRecDepth 100000 in
theorem v_yX1_bringsAllNotes : x_YV yX1_bringsAllNotes cX1_bringsAllNotes 4 (some .boolean) 1 := ⟨⟨(x_gin (List.mem_append_right _ (tb_4 _ (List.mem_of_getElem? (i := 226) rfl))) rfl), (x_gin (List.mem_append_right _ (tb_1 _ (List.mem_of_getElem? (i := 8) rfl))) rfl), by decide +kernel, by decide⟩, (x_gin (List.mem_append_right _ (tb_4 _ (List.mem_of_getElem? (i := 224) rfl))) rfl), (x_gin (List.mem_append_right _ (tb_4 _ (List.mem_of_getElem? (i := 225) rfl))) rfl)⟩
set_option maxRecDepth 100000 in
theorem v_yX0_setsFor : x_YV yX0_setsFor cX0_setsFor 7 (some .int) 2 := ⟨⟨(x_gin (List.mem_append_right _ (tb_4 _ (List.mem_of_getElem? (i := 231) rfl))) rfl), (x_gin (List.mem_append_right _ (tb_1 _ (List.mem_of_getElem? (i := 4) rfl))) rfl), by decide +kernel, by decide⟩, (x_gin (List.mem_append_right _ (tb_4 _ (List.mem_of_getElem? (i := 229) rfl))) rfl), (x_gin (List.mem_append_right _ (tb_4 _ (List.mem_of_getElem? (i := 230) rfl))) rfl)⟩
set_option maxRecDepth 100000 in
theorem v_yX0_greatestReach : x_YV yX0_greatestReach cX0_greatestReach 4 (some .int) 1 := ⟨⟨(x_gin (List.mem_append_right _ (tb_4 _ (List.mem_of_getElem? (i := 235) rfl))) rfl), (x_gin (List.mem_append_right _ (tb_1 _ (List.mem_of_getElem? (i := 4) rfl))) rfl), by decide +kernel, by decide⟩, (x_gin (List.mem_append_right _ (tb_4 _ (List.mem_of_getElem? (i := 234) rfl))) rfl), (x_gin (List.mem_append_left _ (List.mem_of_getElem? (i := 28) rfl)) rfl)⟩
set_option maxRecDepth 100000 in
theorem s_yJ6_bitCount_0f7a4 : x_YS yJ6_bitCount_0f7a4 cJ6_bitCount_0f7a4 1 (some .int) 1 := ⟨⟨(x_gin (List.mem_append_right _ (tb_5 _ (List.mem_of_getElem? (i := 1) rfl))) rfl), (x_gin (List.mem_append_right _ (tb_1 _ (List.mem_of_getElem? (i := 28) rfl))) rfl), by decide +kernel, by decide⟩, (x_gin (List.mem_append_right _ (tb_5 _ (List.mem_of_getElem? (i := 0) rfl))) rfl)⟩
set_option maxRecDepth 100000 in
theorem v_yX1_walk : x_YV yX1_walk cX1_walk 5 none 1 := ⟨⟨(x_gin (List.mem_append_right _ (tb_5 _ (List.mem_of_getElem? (i := 8) rfl))) rfl), (x_gin (List.mem_append_right _ (tb_1 _ (List.mem_of_getElem? (i := 8) rfl))) rfl), by decide +kernel, by decide⟩, (x_gin (List.mem_append_right _ (tb_5 _ (List.mem_of_getElem? (i := 6) rfl))) rfl), (x_gin (List.mem_append_right _ (tb_5 _ (List.mem_of_getElem? (i := 7) rfl))) rfl)⟩
set_option maxRecDepth 100000 in
theorem s_yX1_withAllTheirParts : x_YS yX1_withAllTheirParts cX1_withAllTheirParts 3 (some .int) 1 := ⟨⟨(x_gin (List.mem_append_right _ (tb_5 _ (List.mem_of_getElem? (i := 11) rfl))) rfl), (x_gin (List.mem_append_right _ (tb_1 _ (List.mem_of_getElem? (i := 8) rfl))) rfl), by decide +kernel, by decide⟩, (x_gin (List.mem_append_right _ (tb_5 _ (List.mem_of_getElem? (i := 10) rfl))) rfl)⟩
set_option maxRecDepth 100000 in
theorem v_yX1_freedBehind : x_YV yX1_freedBehind cX1_freedBehind 8 (some .int) 2 := ⟨⟨(x_gin (List.mem_append_right _ (tb_5 _ (List.mem_of_getElem? (i := 16) rfl))) rfl), (x_gin (List.mem_append_right _ (tb_1 _ (List.mem_of_getElem? (i := 8) rfl))) rfl), by decide +kernel, by decide⟩, (x_gin (List.mem_append_right _ (tb_5 _ (List.mem_of_getElem? (i := 15) rfl))) rfl), (x_gin (List.mem_append_left _ (List.mem_of_getElem? (i := 29) rfl)) rfl)⟩
set_option maxRecDepth 100000 in
theorem v_yX9_freed : x_YV yX9_freed cX9_freed 5 (some .int) 1 := ⟨⟨(x_gin (List.mem_append_right _ (tb_5 _ (List.mem_of_getElem? (i := 20) rfl))) rfl), (x_gin (List.mem_append_right _ (tb_1 _ (List.mem_of_getElem? (i := 7) rfl))) rfl), by decide +kernel, by decide⟩, (x_gin (List.mem_append_right _ (tb_5 _ (List.mem_of_getElem? (i := 18) rfl))) rfl), (x_gin (List.mem_append_right _ (tb_5 _ (List.mem_of_getElem? (i := 19) rfl))) rfl)⟩
set_option maxRecDepth 100000 in
theorem v_yX10_fewest : x_YV yX10_fewest cX10_fewest 6 (some .int) 2 := ⟨⟨(x_gin (List.mem_append_right _ (tb_5 _ (List.mem_of_getElem? (i := 27) rfl))) rfl), (x_gin (List.mem_append_right _ (tb_1 _ (List.mem_of_getElem? (i := 1) rfl))) rfl), by decide +kernel, by decide⟩, (x_gin (List.mem_append_right _ (tb_5 _ (List.mem_of_getElem? (i := 25) rfl))) rfl), (x_gin (List.mem_append_right _ (tb_5 _ (List.mem_of_getElem? (i := 26) rfl))) rfl)⟩
set_option maxRecDepth 100000 in
theorem v_yX0_allWays : x_YV yX0_allWays cX0_allWays 1 (some .int) 0 := ⟨⟨(x_gin (List.mem_append_right _ (tb_5 _ (List.mem_of_getElem? (i := 31) rfl))) rfl), (x_gin (List.mem_append_right _ (tb_1 _ (List.mem_of_getElem? (i := 4) rfl))) rfl), by decide +kernel, by decide⟩, (x_gin (List.mem_append_right _ (tb_5 _ (List.mem_of_getElem? (i := 29) rfl))) rfl), (x_gin (List.mem_append_right _ (tb_5 _ (List.mem_of_getElem? (i := 30) rfl))) rfl)⟩
set_option maxRecDepth 100000 in
theorem v_yX10_earliest : x_YV yX10_earliest cX10_earliest 5 (some .int) 4 := ⟨⟨(x_gin (List.mem_append_right _ (tb_5 _ (List.mem_of_getElem? (i := 40) rfl))) rfl), (x_gin (List.mem_append_right _ (tb_1 _ (List.mem_of_getElem? (i := 1) rfl))) rfl), by decide +kernel, by decide⟩, (x_gin (List.mem_append_right _ (tb_5 _ (List.mem_of_getElem? (i := 38) rfl))) rfl), (x_gin (List.mem_append_right _ (tb_5 _ (List.mem_of_getElem? (i := 39) rfl))) rfl)⟩
set_option maxRecDepth 100000 in
theorem v_yX1_firstSecondOf : x_YV yX1_firstSecondOf cX1_firstSecondOf 3 (some .int) 1 := ⟨⟨(x_gin (List.mem_append_right _ (tb_5 _ (List.mem_of_getElem? (i := 46) rfl))) rfl), (x_gin (List.mem_append_right _ (tb_1 _ (List.mem_of_getElem? (i := 8) rfl))) rfl), by decide +kernel, by decide⟩, (x_gin (List.mem_append_right _ (tb_5 _ (List.mem_of_getElem? (i := 44) rfl))) rfl), (x_gin (List.mem_append_right _ (tb_5 _ (List.mem_of_getElem? (i := 45) rfl))) rfl)⟩
set_option maxRecDepth 100000 in
theorem v_yX10_may : x_YV yX10_may cX10_may 5 (some .int) 4 := ⟨⟨(x_gin (List.mem_append_right _ (tb_5 _ (List.mem_of_getElem? (i := 53) rfl))) rfl), (x_gin (List.mem_append_right _ (tb_1 _ (List.mem_of_getElem? (i := 1) rfl))) rfl), by decide +kernel, by decide⟩, (x_gin (List.mem_append_right _ (tb_5 _ (List.mem_of_getElem? (i := 51) rfl))) rfl), (x_gin (List.mem_append_right _ (tb_5 _ (List.mem_of_getElem? (i := 52) rfl))) rfl)⟩
set_option maxRecDepth 100000 in
theorem v_yX1_limbsAt : x_YV yX1_limbsAt cX1_limbsAt 4 (some .int) 1 := ⟨⟨(x_gin (List.mem_append_right _ (tb_5 _ (List.mem_of_getElem? (i := 57) rfl))) rfl), (x_gin (List.mem_append_right _ (tb_1 _ (List.mem_of_getElem? (i := 8) rfl))) rfl), by decide +kernel, by decide⟩, (x_gin (List.mem_append_right _ (tb_5 _ (List.mem_of_getElem? (i := 55) rfl))) rfl), (x_gin (List.mem_append_right _ (tb_5 _ (List.mem_of_getElem? (i := 56) rfl))) rfl)⟩
set_option maxRecDepth 100000 in
theorem v_yX10_shut : x_YV yX10_shut cX10_shut 4 (some .int) 1 := ⟨⟨(x_gin (List.mem_append_right _ (tb_5 _ (List.mem_of_getElem? (i := 64) rfl))) rfl), (x_gin (List.mem_append_right _ (tb_1 _ (List.mem_of_getElem? (i := 1) rfl))) rfl), by decide +kernel, by decide⟩, (x_gin (List.mem_append_right _ (tb_5 _ (List.mem_of_getElem? (i := 62) rfl))) rfl), (x_gin (List.mem_append_right _ (tb_5 _ (List.mem_of_getElem? (i := 63) rfl))) rfl)⟩
set_option maxRecDepth 100000 in
theorem v_yX1_canEver : x_YV yX1_canEver cX1_canEver 8 (some .boolean) 4 := ⟨⟨(x_gin (List.mem_append_right _ (tb_5 _ (List.mem_of_getElem? (i := 68) rfl))) rfl), (x_gin (List.mem_append_right _ (tb_1 _ (List.mem_of_getElem? (i := 8) rfl))) rfl), by decide +kernel, by decide⟩, (x_gin (List.mem_append_right _ (tb_5 _ (List.mem_of_getElem? (i := 66) rfl))) rfl), (x_gin (List.mem_append_right _ (tb_5 _ (List.mem_of_getElem? (i := 67) rfl))) rfl)⟩
set_option maxRecDepth 100000 in
theorem v_yX10_opens : x_YV yX10_opens cX10_opens 6 (some .int) 2 := ⟨⟨(x_gin (List.mem_append_right _ (tb_5 _ (List.mem_of_getElem? (i := 77) rfl))) rfl), (x_gin (List.mem_append_right _ (tb_1 _ (List.mem_of_getElem? (i := 1) rfl))) rfl), by decide +kernel, by decide⟩, (x_gin (List.mem_append_right _ (tb_5 _ (List.mem_of_getElem? (i := 75) rfl))) rfl), (x_gin (List.mem_append_right _ (tb_5 _ (List.mem_of_getElem? (i := 76) rfl))) rfl)⟩
set_option maxRecDepth 100000 in
theorem v_yX10_trap : x_YV yX10_trap cX10_trap 4 (some .int) 3 := ⟨⟨(x_gin (List.mem_append_right _ (tb_5 _ (List.mem_of_getElem? (i := 84) rfl))) rfl), (x_gin (List.mem_append_right _ (tb_1 _ (List.mem_of_getElem? (i := 1) rfl))) rfl), by decide +kernel, by decide⟩, (x_gin (List.mem_append_right _ (tb_5 _ (List.mem_of_getElem? (i := 82) rfl))) rfl), (x_gin (List.mem_append_right _ (tb_5 _ (List.mem_of_getElem? (i := 83) rfl))) rfl)⟩
set_option maxRecDepth 100000 in
theorem v_yX10_story : x_YV yX10_story cX10_story 4 (some .int) 3 := ⟨⟨(x_gin (List.mem_append_right _ (tb_5 _ (List.mem_of_getElem? (i := 91) rfl))) rfl), (x_gin (List.mem_append_right _ (tb_1 _ (List.mem_of_getElem? (i := 1) rfl))) rfl), by decide +kernel, by decide⟩, (x_gin (List.mem_append_right _ (tb_5 _ (List.mem_of_getElem? (i := 89) rfl))) rfl), (x_gin (List.mem_append_right _ (tb_5 _ (List.mem_of_getElem? (i := 90) rfl))) rfl)⟩
set_option maxRecDepth 100000 in
theorem v_yX10_night : x_YV yX10_night cX10_night 6 (some .int) 5 := ⟨⟨(x_gin (List.mem_append_right _ (tb_5 _ (List.mem_of_getElem? (i := 98) rfl))) rfl), (x_gin (List.mem_append_right _ (tb_1 _ (List.mem_of_getElem? (i := 1) rfl))) rfl), by decide +kernel, by decide⟩, (x_gin (List.mem_append_right _ (tb_5 _ (List.mem_of_getElem? (i := 96) rfl))) rfl), (x_gin (List.mem_append_right _ (tb_5 _ (List.mem_of_getElem? (i := 97) rfl))) rfl)⟩
set_option maxRecDepth 100000 in
theorem s_yX10_isOfFirst : x_YS yX10_isOfFirst cX10_isOfFirst 2 (some .boolean) 2 := ⟨⟨(x_gin (List.mem_append_right _ (tb_5 _ (List.mem_of_getElem? (i := 101) rfl))) rfl), (x_gin (List.mem_append_right _ (tb_1 _ (List.mem_of_getElem? (i := 1) rfl))) rfl), by decide +kernel, by decide⟩, (x_gin (List.mem_append_right _ (tb_5 _ (List.mem_of_getElem? (i := 100) rfl))) rfl)⟩
set_option maxRecDepth 100000 in
theorem v_yX10_odds : x_YV yX10_odds cX10_odds 2 (some .int) 1 := ⟨⟨(x_gin (List.mem_append_right _ (tb_5 _ (List.mem_of_getElem? (i := 109) rfl))) rfl), (x_gin (List.mem_append_right _ (tb_1 _ (List.mem_of_getElem? (i := 1) rfl))) rfl), by decide +kernel, by decide⟩, (x_gin (List.mem_append_right _ (tb_5 _ (List.mem_of_getElem? (i := 107) rfl))) rfl), (x_gin (List.mem_append_right _ (tb_5 _ (List.mem_of_getElem? (i := 108) rfl))) rfl)⟩
set_option maxRecDepth 100000 in
theorem v_yX10_reckonOdds : x_YV yX10_reckonOdds cX10_reckonOdds 4 none 1 := ⟨⟨(x_gin (List.mem_append_right _ (tb_5 _ (List.mem_of_getElem? (i := 113) rfl))) rfl), (x_gin (List.mem_append_right _ (tb_1 _ (List.mem_of_getElem? (i := 1) rfl))) rfl), by decide +kernel, by decide⟩, (x_gin (List.mem_append_right _ (tb_5 _ (List.mem_of_getElem? (i := 112) rfl))) rfl), (x_gin (List.mem_append_left _ (List.mem_of_getElem? (i := 30) rfl)) rfl)⟩
set_option maxRecDepth 100000 in
theorem v_yX10_sharesToOdds : x_YV yX10_sharesToOdds cX10_sharesToOdds 6 none 0 := ⟨⟨(x_gin (List.mem_append_right _ (tb_5 _ (List.mem_of_getElem? (i := 118) rfl))) rfl), (x_gin (List.mem_append_right _ (tb_1 _ (List.mem_of_getElem? (i := 1) rfl))) rfl), by decide +kernel, by decide⟩, (x_gin (List.mem_append_right _ (tb_5 _ (List.mem_of_getElem? (i := 117) rfl))) rfl), (x_gin (List.mem_append_left _ (List.mem_of_getElem? (i := 31) rfl)) rfl)⟩
set_option maxRecDepth 100000 in
theorem v_yX10_allFactors : x_YV yX10_allFactors cX10_allFactors 11 (some .long) 2 := ⟨⟨(x_gin (List.mem_append_right _ (tb_5 _ (List.mem_of_getElem? (i := 123) rfl))) rfl), (x_gin (List.mem_append_right _ (tb_1 _ (List.mem_of_getElem? (i := 1) rfl))) rfl), by decide +kernel, by decide⟩, (x_gin (List.mem_append_right _ (tb_5 _ (List.mem_of_getElem? (i := 122) rfl))) rfl), (x_gin (List.mem_append_left _ (List.mem_of_getElem? (i := 32) rfl)) rfl)⟩
set_option maxRecDepth 100000 in
theorem v_yX10_trapFactors : x_YV yX10_trapFactors cX10_trapFactors 9 (some .long) 2 := ⟨⟨(x_gin (List.mem_append_right _ (tb_5 _ (List.mem_of_getElem? (i := 130) rfl))) rfl), (x_gin (List.mem_append_right _ (tb_1 _ (List.mem_of_getElem? (i := 1) rfl))) rfl), by decide +kernel, by decide⟩, (x_gin (List.mem_append_right _ (tb_5 _ (List.mem_of_getElem? (i := 129) rfl))) rfl), (x_gin (List.mem_append_left _ (List.mem_of_getElem? (i := 33) rfl)) rfl)⟩
set_option maxRecDepth 100000 in
theorem v_yX10_springs : x_YV yX10_springs cX10_springs 4 (some .int) 2 := ⟨⟨(x_gin (List.mem_append_right _ (tb_5 _ (List.mem_of_getElem? (i := 134) rfl))) rfl), (x_gin (List.mem_append_right _ (tb_1 _ (List.mem_of_getElem? (i := 1) rfl))) rfl), by decide +kernel, by decide⟩, (x_gin (List.mem_append_right _ (tb_5 _ (List.mem_of_getElem? (i := 133) rfl))) rfl), (x_gin (List.mem_append_left _ (List.mem_of_getElem? (i := 34) rfl)) rfl)⟩
set_option maxRecDepth 100000 in
theorem v_yX10_oddsBy : x_YV yX10_oddsBy cX10_oddsBy 3 (some .int) 2 := ⟨⟨(x_gin (List.mem_append_right _ (tb_5 _ (List.mem_of_getElem? (i := 141) rfl))) rfl), (x_gin (List.mem_append_right _ (tb_1 _ (List.mem_of_getElem? (i := 1) rfl))) rfl), by decide +kernel, by decide⟩, (x_gin (List.mem_append_right _ (tb_5 _ (List.mem_of_getElem? (i := 139) rfl))) rfl), (x_gin (List.mem_append_right _ (tb_5 _ (List.mem_of_getElem? (i := 140) rfl))) rfl)⟩
set_option maxRecDepth 100000 in
theorem v_yX10_factor : x_YV yX10_factor cX10_factor 3 (some .long) 2 := ⟨⟨(x_gin (List.mem_append_right _ (tb_5 _ (List.mem_of_getElem? (i := 148) rfl))) rfl), (x_gin (List.mem_append_right _ (tb_1 _ (List.mem_of_getElem? (i := 1) rfl))) rfl), by decide +kernel, by decide⟩, (x_gin (List.mem_append_right _ (tb_5 _ (List.mem_of_getElem? (i := 146) rfl))) rfl), (x_gin (List.mem_append_right _ (tb_5 _ (List.mem_of_getElem? (i := 147) rfl))) rfl)⟩
set_option maxRecDepth 100000 in
theorem v_yX10_says : x_YV yX10_says cX10_says 7 (some .long) 1 := ⟨⟨(x_gin (List.mem_append_right _ (tb_5 _ (List.mem_of_getElem? (i := 155) rfl))) rfl), (x_gin (List.mem_append_right _ (tb_1 _ (List.mem_of_getElem? (i := 1) rfl))) rfl), by decide +kernel, by decide⟩, (x_gin (List.mem_append_right _ (tb_5 _ (List.mem_of_getElem? (i := 153) rfl))) rfl), (x_gin (List.mem_append_right _ (tb_5 _ (List.mem_of_getElem? (i := 154) rfl))) rfl)⟩
set_option maxRecDepth 100000 in
theorem s_yJ9_abs_067f4 : x_YS yJ9_abs_067f4 cJ9_abs_067f4 2 (some .long) 1 := ⟨⟨(x_gin (List.mem_append_right _ (tb_5 _ (List.mem_of_getElem? (i := 158) rfl))) rfl), (x_gin (List.mem_append_right _ (tb_1 _ (List.mem_of_getElem? (i := 23) rfl))) rfl), by decide +kernel, by decide⟩, (x_gin (List.mem_append_right _ (tb_5 _ (List.mem_of_getElem? (i := 157) rfl))) rfl)⟩
set_option maxRecDepth 100000 in
theorem v_yX10_with : x_YV yX10_with cX10_with 9 (some .int) 2 := ⟨⟨(x_gin (List.mem_append_right _ (tb_5 _ (List.mem_of_getElem? (i := 165) rfl))) rfl), (x_gin (List.mem_append_right _ (tb_1 _ (List.mem_of_getElem? (i := 1) rfl))) rfl), by decide +kernel, by decide⟩, (x_gin (List.mem_append_right _ (tb_5 _ (List.mem_of_getElem? (i := 163) rfl))) rfl), (x_gin (List.mem_append_right _ (tb_5 _ (List.mem_of_getElem? (i := 164) rfl))) rfl)⟩
set_option maxRecDepth 100000 in
theorem v_yX10_choicesWithAtLeast : x_YV yX10_choicesWithAtLeast cX10_choicesWithAtLeast 7 (some .int) 3 := ⟨⟨(x_gin (List.mem_append_right _ (tb_5 _ (List.mem_of_getElem? (i := 169) rfl))) rfl), (x_gin (List.mem_append_right _ (tb_1 _ (List.mem_of_getElem? (i := 1) rfl))) rfl), by decide +kernel, by decide⟩, (x_gin (List.mem_append_right _ (tb_5 _ (List.mem_of_getElem? (i := 168) rfl))) rfl), (x_gin (List.mem_append_left _ (List.mem_of_getElem? (i := 35) rfl)) rfl)⟩
set_option maxRecDepth 100000 in
theorem s_yX10_choices : x_YS yX10_choices cX10_choices 4 (some .int) 2 := ⟨⟨(x_gin (List.mem_append_right _ (tb_5 _ (List.mem_of_getElem? (i := 172) rfl))) rfl), (x_gin (List.mem_append_right _ (tb_1 _ (List.mem_of_getElem? (i := 1) rfl))) rfl), by decide +kernel, by decide⟩, (x_gin (List.mem_append_right _ (tb_5 _ (List.mem_of_getElem? (i := 171) rfl))) rfl)⟩
set_option maxRecDepth 100000 in
theorem v_yX10_knew : x_YV yX10_knew cX10_knew 2 none 1 := ⟨⟨(x_gin (List.mem_append_right _ (tb_5 _ (List.mem_of_getElem? (i := 179) rfl))) rfl), (x_gin (List.mem_append_right _ (tb_1 _ (List.mem_of_getElem? (i := 1) rfl))) rfl), by decide +kernel, by decide⟩, (x_gin (List.mem_append_right _ (tb_5 _ (List.mem_of_getElem? (i := 177) rfl))) rfl), (x_gin (List.mem_append_right _ (tb_5 _ (List.mem_of_getElem? (i := 178) rfl))) rfl)⟩
set_option maxRecDepth 100000 in
theorem v_yX10_told : x_YV yX10_told cX10_told 4 (some .int) 3 := ⟨⟨(x_gin (List.mem_append_right _ (tb_5 _ (List.mem_of_getElem? (i := 186) rfl))) rfl), (x_gin (List.mem_append_right _ (tb_1 _ (List.mem_of_getElem? (i := 1) rfl))) rfl), by decide +kernel, by decide⟩, (x_gin (List.mem_append_right _ (tb_5 _ (List.mem_of_getElem? (i := 184) rfl))) rfl), (x_gin (List.mem_append_right _ (tb_5 _ (List.mem_of_getElem? (i := 185) rfl))) rfl)⟩
set_option maxRecDepth 100000 in
theorem v_yX10_knows : x_YV yX10_knows cX10_knows 2 (some .int) 1 := ⟨⟨(x_gin (List.mem_append_right _ (tb_5 _ (List.mem_of_getElem? (i := 193) rfl))) rfl), (x_gin (List.mem_append_right _ (tb_1 _ (List.mem_of_getElem? (i := 1) rfl))) rfl), by decide +kernel, by decide⟩, (x_gin (List.mem_append_right _ (tb_5 _ (List.mem_of_getElem? (i := 191) rfl))) rfl), (x_gin (List.mem_append_right _ (tb_5 _ (List.mem_of_getElem? (i := 192) rfl))) rfl)⟩
set_option maxRecDepth 100000 in
theorem v_yX10_knowersOn : x_YV yX10_knowersOn cX10_knowersOn 6 (some .int) 3 := ⟨⟨(x_gin (List.mem_append_right _ (tb_5 _ (List.mem_of_getElem? (i := 197) rfl))) rfl), (x_gin (List.mem_append_right _ (tb_1 _ (List.mem_of_getElem? (i := 1) rfl))) rfl), by decide +kernel, by decide⟩, (x_gin (List.mem_append_right _ (tb_5 _ (List.mem_of_getElem? (i := 196) rfl))) rfl), (x_gin (List.mem_append_left _ (List.mem_of_getElem? (i := 36) rfl)) rfl)⟩
set_option maxRecDepth 100000 in
theorem v_yX10_spread : x_YV yX10_spread cX10_spread 5 none 1 := ⟨⟨(x_gin (List.mem_append_right _ (tb_5 _ (List.mem_of_getElem? (i := 201) rfl))) rfl), (x_gin (List.mem_append_right _ (tb_1 _ (List.mem_of_getElem? (i := 1) rfl))) rfl), by decide +kernel, by decide⟩, (x_gin (List.mem_append_right _ (tb_5 _ (List.mem_of_getElem? (i := 200) rfl))) rfl), (x_gin (List.mem_append_left _ (List.mem_of_getElem? (i := 37) rfl)) rfl)⟩
set_option maxRecDepth 100000 in
theorem v_yX10_whence : x_YV yX10_whence cX10_whence 3 (some .int) 2 := ⟨⟨(x_gin (List.mem_append_right _ (tb_5 _ (List.mem_of_getElem? (i := 208) rfl))) rfl), (x_gin (List.mem_append_right _ (tb_1 _ (List.mem_of_getElem? (i := 1) rfl))) rfl), by decide +kernel, by decide⟩, (x_gin (List.mem_append_right _ (tb_5 _ (List.mem_of_getElem? (i := 206) rfl))) rfl), (x_gin (List.mem_append_right _ (tb_5 _ (List.mem_of_getElem? (i := 207) rfl))) rfl)⟩
set_option maxRecDepth 100000 in
theorem v_yX10_neededTellers : x_YV yX10_neededTellers cX10_neededTellers 4 (some .int) 1 := ⟨⟨(x_gin (List.mem_append_right _ (tb_5 _ (List.mem_of_getElem? (i := 212) rfl))) rfl), (x_gin (List.mem_append_right _ (tb_1 _ (List.mem_of_getElem? (i := 1) rfl))) rfl), by decide +kernel, by decide⟩, (x_gin (List.mem_append_right _ (tb_5 _ (List.mem_of_getElem? (i := 211) rfl))) rfl), (x_gin (List.mem_append_left _ (List.mem_of_getElem? (i := 38) rfl)) rfl)⟩
set_option maxRecDepth 100000 in
theorem v_yX10_sources : x_YV yX10_sources cX10_sources 4 (some .int) 1 := ⟨⟨(x_gin (List.mem_append_right _ (tb_5 _ (List.mem_of_getElem? (i := 216) rfl))) rfl), (x_gin (List.mem_append_right _ (tb_1 _ (List.mem_of_getElem? (i := 1) rfl))) rfl), by decide +kernel, by decide⟩, (x_gin (List.mem_append_right _ (tb_5 _ (List.mem_of_getElem? (i := 215) rfl))) rfl), (x_gin (List.mem_append_left _ (List.mem_of_getElem? (i := 39) rfl)) rfl)⟩
set_option maxRecDepth 100000 in
theorem v_yX10_knot : x_YV yX10_knot cX10_knot 5 (some .int) 4 := ⟨⟨(x_gin (List.mem_append_right _ (tb_5 _ (List.mem_of_getElem? (i := 223) rfl))) rfl), (x_gin (List.mem_append_right _ (tb_1 _ (List.mem_of_getElem? (i := 1) rfl))) rfl), by decide +kernel, by decide⟩, (x_gin (List.mem_append_right _ (tb_5 _ (List.mem_of_getElem? (i := 221) rfl))) rfl), (x_gin (List.mem_append_right _ (tb_5 _ (List.mem_of_getElem? (i := 222) rfl))) rfl)⟩
set_option maxRecDepth 100000 in
theorem v_yX10_rope : x_YV yX10_rope cX10_rope 2 none 1 := ⟨⟨(x_gin (List.mem_append_right _ (tb_5 _ (List.mem_of_getElem? (i := 230) rfl))) rfl), (x_gin (List.mem_append_right _ (tb_1 _ (List.mem_of_getElem? (i := 1) rfl))) rfl), by decide +kernel, by decide⟩, (x_gin (List.mem_append_right _ (tb_5 _ (List.mem_of_getElem? (i := 228) rfl))) rfl), (x_gin (List.mem_append_right _ (tb_5 _ (List.mem_of_getElem? (i := 229) rfl))) rfl)⟩
set_option maxRecDepth 100000 in
theorem v_yX10_tale : x_YV yX10_tale cX10_tale 7 (some .int) 3 := ⟨⟨(x_gin (List.mem_append_right _ (tb_5 _ (List.mem_of_getElem? (i := 237) rfl))) rfl), (x_gin (List.mem_append_right _ (tb_1 _ (List.mem_of_getElem? (i := 1) rfl))) rfl), by decide +kernel, by decide⟩, (x_gin (List.mem_append_right _ (tb_5 _ (List.mem_of_getElem? (i := 235) rfl))) rfl), (x_gin (List.mem_append_right _ (tb_5 _ (List.mem_of_getElem? (i := 236) rfl))) rfl)⟩
set_option maxRecDepth 100000 in
theorem s_yJ9_min_f86c9 : x_YS yJ9_min_f86c9 cJ9_min_f86c9 4 (some .long) 2 := ⟨⟨(x_gin (List.mem_append_right _ (tb_6 _ (List.mem_of_getElem? (i := 3) rfl))) rfl), (x_gin (List.mem_append_right _ (tb_1 _ (List.mem_of_getElem? (i := 23) rfl))) rfl), by decide +kernel, by decide⟩, (x_gin (List.mem_append_right _ (tb_6 _ (List.mem_of_getElem? (i := 2) rfl))) rfl)⟩
set_option maxRecDepth 100000 in
theorem v_yX10_cold : x_YV yX10_cold cX10_cold 7 (some .int) 3 := ⟨⟨(x_gin (List.mem_append_right _ (tb_6 _ (List.mem_of_getElem? (i := 10) rfl))) rfl), (x_gin (List.mem_append_right _ (tb_1 _ (List.mem_of_getElem? (i := 1) rfl))) rfl), by decide +kernel, by decide⟩, (x_gin (List.mem_append_right _ (tb_6 _ (List.mem_of_getElem? (i := 8) rfl))) rfl), (x_gin (List.mem_append_right _ (tb_6 _ (List.mem_of_getElem? (i := 9) rfl))) rfl)⟩
set_option maxRecDepth 100000 in
theorem s_yJ9_abs_0f7a4 : x_YS yJ9_abs_0f7a4 cJ9_abs_0f7a4 1 (some .int) 1 := ⟨⟨(x_gin (List.mem_append_right _ (tb_6 _ (List.mem_of_getElem? (i := 13) rfl))) rfl), (x_gin (List.mem_append_right _ (tb_1 _ (List.mem_of_getElem? (i := 23) rfl))) rfl), by decide +kernel, by decide⟩, (x_gin (List.mem_append_right _ (tb_6 _ (List.mem_of_getElem? (i := 12) rfl))) rfl)⟩
set_option maxRecDepth 100000 in
theorem v_yX11_thrown : x_YV yX11_thrown cX11_thrown 1 (some .int) 0 := ⟨⟨(x_gin (List.mem_append_right _ (tb_6 _ (List.mem_of_getElem? (i := 19) rfl))) rfl), (x_gin (List.mem_append_right _ (tb_1 _ (List.mem_of_getElem? (i := 11) rfl))) rfl), by decide +kernel, by decide⟩, (x_gin (List.mem_append_right _ (tb_6 _ (List.mem_of_getElem? (i := 17) rfl))) rfl), (x_gin (List.mem_append_right _ (tb_6 _ (List.mem_of_getElem? (i := 18) rfl))) rfl)⟩
set_option maxRecDepth 100000 in
theorem i_yX11_init : x_YI yX11_init cX11_init 1 0 := ⟨⟨(x_gin (List.mem_append_right _ (tb_6 _ (List.mem_of_getElem? (i := 24) rfl))) rfl), (x_gin (List.mem_append_right _ (tb_1 _ (List.mem_of_getElem? (i := 11) rfl))) rfl), by decide +kernel, by decide⟩, (x_gin (List.mem_append_right _ (tb_6 _ (List.mem_of_getElem? (i := 23) rfl))) rfl), rfl⟩
set_option maxRecDepth 100000 in
theorem v_yX11_image : x_YV yX11_image cX11_image 2 none 0 := ⟨⟨(x_gin (List.mem_append_right _ (tb_6 _ (List.mem_of_getElem? (i := 121) rfl))) rfl), (x_gin (List.mem_append_right _ (tb_1 _ (List.mem_of_getElem? (i := 11) rfl))) rfl), by decide +kernel, by decide⟩, (x_gin (List.mem_append_right _ (tb_6 _ (List.mem_of_getElem? (i := 119) rfl))) rfl), (x_gin (List.mem_append_right _ (tb_6 _ (List.mem_of_getElem? (i := 120) rfl))) rfl)⟩
set_option maxRecDepth 100000 in
theorem v_yX11_back : x_YV yX11_back cX11_back 2 (some .boolean) 0 := ⟨⟨(x_gin (List.mem_append_right _ (tb_6 _ (List.mem_of_getElem? (i := 125) rfl))) rfl), (x_gin (List.mem_append_right _ (tb_1 _ (List.mem_of_getElem? (i := 11) rfl))) rfl), by decide +kernel, by decide⟩, (x_gin (List.mem_append_right _ (tb_6 _ (List.mem_of_getElem? (i := 123) rfl))) rfl), (x_gin (List.mem_append_right _ (tb_6 _ (List.mem_of_getElem? (i := 124) rfl))) rfl)⟩
set_option maxRecDepth 100000 in
theorem v_yX11_person : x_YV yX11_person cX11_person 3 (some .int) 2 := ⟨⟨(x_gin (List.mem_append_right _ (tb_6 _ (List.mem_of_getElem? (i := 129) rfl))) rfl), (x_gin (List.mem_append_right _ (tb_1 _ (List.mem_of_getElem? (i := 11) rfl))) rfl), by decide +kernel, by decide⟩, (x_gin (List.mem_append_right _ (tb_6 _ (List.mem_of_getElem? (i := 127) rfl))) rfl), (x_gin (List.mem_append_right _ (tb_6 _ (List.mem_of_getElem? (i := 128) rfl))) rfl)⟩
set_option maxRecDepth 100000 in
theorem s_yX11_in : x_YS yX11_in cX11_in 3 (some .boolean) 3 := ⟨⟨(x_gin (List.mem_append_right _ (tb_6 _ (List.mem_of_getElem? (i := 132) rfl))) rfl), (x_gin (List.mem_append_right _ (tb_1 _ (List.mem_of_getElem? (i := 11) rfl))) rfl), by decide +kernel, by decide⟩, (x_gin (List.mem_append_right _ (tb_6 _ (List.mem_of_getElem? (i := 131) rfl))) rfl)⟩
set_option maxRecDepth 100000 in
theorem v_yX11_throwsIf : x_YV yX11_throwsIf cX11_throwsIf 3 (some .boolean) 2 := ⟨⟨(x_gin (List.mem_append_right _ (tb_6 _ (List.mem_of_getElem? (i := 136) rfl))) rfl), (x_gin (List.mem_append_right _ (tb_1 _ (List.mem_of_getElem? (i := 11) rfl))) rfl), by decide +kernel, by decide⟩, (x_gin (List.mem_append_right _ (tb_6 _ (List.mem_of_getElem? (i := 135) rfl))) rfl), (x_gin (List.mem_append_left _ (List.mem_of_getElem? (i := 40) rfl)) rfl)⟩
set_option maxRecDepth 100000 in
theorem v_yX11_puts : x_YV yX11_puts cX11_puts 8 (some .int) 6 := ⟨⟨(x_gin (List.mem_append_right _ (tb_6 _ (List.mem_of_getElem? (i := 140) rfl))) rfl), (x_gin (List.mem_append_right _ (tb_1 _ (List.mem_of_getElem? (i := 11) rfl))) rfl), by decide +kernel, by decide⟩, (x_gin (List.mem_append_right _ (tb_6 _ (List.mem_of_getElem? (i := 139) rfl))) rfl), (x_gin (List.mem_append_left _ (List.mem_of_getElem? (i := 41) rfl)) rfl)⟩
set_option maxRecDepth 100000 in
theorem v_yX11_thing : x_YV yX11_thing cX11_thing 4 (some .int) 3 := ⟨⟨(x_gin (List.mem_append_right _ (tb_6 _ (List.mem_of_getElem? (i := 144) rfl))) rfl), (x_gin (List.mem_append_right _ (tb_1 _ (List.mem_of_getElem? (i := 11) rfl))) rfl), by decide +kernel, by decide⟩, (x_gin (List.mem_append_right _ (tb_6 _ (List.mem_of_getElem? (i := 142) rfl))) rfl), (x_gin (List.mem_append_right _ (tb_6 _ (List.mem_of_getElem? (i := 143) rfl))) rfl)⟩
set_option maxRecDepth 100000 in
theorem v_yX11_feed : x_YV yX11_feed cX11_feed 7 (some .int) 5 := ⟨⟨(x_gin (List.mem_append_right _ (tb_6 _ (List.mem_of_getElem? (i := 148) rfl))) rfl), (x_gin (List.mem_append_right _ (tb_1 _ (List.mem_of_getElem? (i := 11) rfl))) rfl), by decide +kernel, by decide⟩, (x_gin (List.mem_append_right _ (tb_6 _ (List.mem_of_getElem? (i := 146) rfl))) rfl), (x_gin (List.mem_append_right _ (tb_6 _ (List.mem_of_getElem? (i := 147) rfl))) rfl)⟩
set_option maxRecDepth 100000 in
theorem v_yX11_end : x_YV yX11_end cX11_end 2 (some .boolean) 1 := ⟨⟨(x_gin (List.mem_append_right _ (tb_6 _ (List.mem_of_getElem? (i := 152) rfl))) rfl), (x_gin (List.mem_append_right _ (tb_1 _ (List.mem_of_getElem? (i := 11) rfl))) rfl), by decide +kernel, by decide⟩, (x_gin (List.mem_append_right _ (tb_6 _ (List.mem_of_getElem? (i := 150) rfl))) rfl), (x_gin (List.mem_append_right _ (tb_6 _ (List.mem_of_getElem? (i := 151) rfl))) rfl)⟩
set_option maxRecDepth 100000 in
theorem v_yX11_fault : x_YV yX11_fault cX11_fault 1 (some .int) 0 := ⟨⟨(x_gin (List.mem_append_right _ (tb_6 _ (List.mem_of_getElem? (i := 156) rfl))) rfl), (x_gin (List.mem_append_right _ (tb_1 _ (List.mem_of_getElem? (i := 11) rfl))) rfl), by decide +kernel, by decide⟩, (x_gin (List.mem_append_right _ (tb_6 _ (List.mem_of_getElem? (i := 154) rfl))) rfl), (x_gin (List.mem_append_right _ (tb_6 _ (List.mem_of_getElem? (i := 155) rfl))) rfl)⟩
set_option maxRecDepth 100000 in
theorem v_yX11_rule : x_YV yX11_rule cX11_rule 1 (some .int) 0 := ⟨⟨(x_gin (List.mem_append_right _ (tb_6 _ (List.mem_of_getElem? (i := 160) rfl))) rfl), (x_gin (List.mem_append_right _ (tb_1 _ (List.mem_of_getElem? (i := 11) rfl))) rfl), by decide +kernel, by decide⟩, (x_gin (List.mem_append_right _ (tb_6 _ (List.mem_of_getElem? (i := 158) rfl))) rfl), (x_gin (List.mem_append_right _ (tb_6 _ (List.mem_of_getElem? (i := 159) rfl))) rfl)⟩
set_option maxRecDepth 100000 in
theorem v_yX11_keeps : x_YV yX11_keeps cX11_keeps 8 (some .int) 4 := ⟨⟨(x_gin (List.mem_append_right _ (tb_6 _ (List.mem_of_getElem? (i := 164) rfl))) rfl), (x_gin (List.mem_append_right _ (tb_1 _ (List.mem_of_getElem? (i := 11) rfl))) rfl), by decide +kernel, by decide⟩, (x_gin (List.mem_append_right _ (tb_6 _ (List.mem_of_getElem? (i := 163) rfl))) rfl), (x_gin (List.mem_append_left _ (List.mem_of_getElem? (i := 42) rfl)) rfl)⟩
set_option maxRecDepth 100000 in
theorem v_yX11_uses : x_YV yX11_uses cX11_uses 1 none 0 := ⟨⟨(x_gin (List.mem_append_right _ (tb_6 _ (List.mem_of_getElem? (i := 168) rfl))) rfl), (x_gin (List.mem_append_right _ (tb_1 _ (List.mem_of_getElem? (i := 11) rfl))) rfl), by decide +kernel, by decide⟩, (x_gin (List.mem_append_right _ (tb_6 _ (List.mem_of_getElem? (i := 167) rfl))) rfl), (x_gin (List.mem_append_left _ (List.mem_of_getElem? (i := 43) rfl)) rfl)⟩
set_option maxRecDepth 100000 in
theorem v_yX11_readAll : x_YV yX11_readAll cX11_readAll 3 (some .int) 1 := ⟨⟨(x_gin (List.mem_append_right _ (tb_6 _ (List.mem_of_getElem? (i := 172) rfl))) rfl), (x_gin (List.mem_append_right _ (tb_1 _ (List.mem_of_getElem? (i := 11) rfl))) rfl), by decide +kernel, by decide⟩, (x_gin (List.mem_append_right _ (tb_6 _ (List.mem_of_getElem? (i := 171) rfl))) rfl), (x_gin (List.mem_append_left _ (List.mem_of_getElem? (i := 44) rfl)) rfl)⟩
set_option maxRecDepth 100000 in
theorem v_yX11_blanks : x_YV yX11_blanks cX11_blanks 1 none 0 := ⟨⟨(x_gin (List.mem_append_right _ (tb_6 _ (List.mem_of_getElem? (i := 176) rfl))) rfl), (x_gin (List.mem_append_right _ (tb_1 _ (List.mem_of_getElem? (i := 11) rfl))) rfl), by decide +kernel, by decide⟩, (x_gin (List.mem_append_right _ (tb_6 _ (List.mem_of_getElem? (i := 175) rfl))) rfl), (x_gin (List.mem_append_left _ (List.mem_of_getElem? (i := 45) rfl)) rfl)⟩
set_option maxRecDepth 100000 in
theorem v_yX11_isAt : x_YV yX11_isAt cX11_isAt 3 (some .boolean) 2 := ⟨⟨(x_gin (List.mem_append_right _ (tb_6 _ (List.mem_of_getElem? (i := 180) rfl))) rfl), (x_gin (List.mem_append_right _ (tb_1 _ (List.mem_of_getElem? (i := 11) rfl))) rfl), by decide +kernel, by decide⟩, (x_gin (List.mem_append_right _ (tb_6 _ (List.mem_of_getElem? (i := 179) rfl))) rfl), (x_gin (List.mem_append_left _ (List.mem_of_getElem? (i := 46) rfl)) rfl)⟩
set_option maxRecDepth 100000 in
theorem v_yX11_readLine : x_YV yX11_readLine cX11_readLine 5 (some .boolean) 2 := ⟨⟨(x_gin (List.mem_append_right _ (tb_6 _ (List.mem_of_getElem? (i := 184) rfl))) rfl), (x_gin (List.mem_append_right _ (tb_1 _ (List.mem_of_getElem? (i := 11) rfl))) rfl), by decide +kernel, by decide⟩, (x_gin (List.mem_append_right _ (tb_6 _ (List.mem_of_getElem? (i := 183) rfl))) rfl), (x_gin (List.mem_append_left _ (List.mem_of_getElem? (i := 47) rfl)) rfl)⟩
set_option maxRecDepth 100000 in
theorem v_yX11_letters : x_YV yX11_letters cX11_letters 1 none 0 := ⟨⟨(x_gin (List.mem_append_right _ (tb_6 _ (List.mem_of_getElem? (i := 188) rfl))) rfl), (x_gin (List.mem_append_right _ (tb_1 _ (List.mem_of_getElem? (i := 11) rfl))) rfl), by decide +kernel, by decide⟩, (x_gin (List.mem_append_right _ (tb_6 _ (List.mem_of_getElem? (i := 187) rfl))) rfl), (x_gin (List.mem_append_left _ (List.mem_of_getElem? (i := 48) rfl)) rfl)⟩
set_option maxRecDepth 100000 in
theorem s_yX11_lineAt : x_YS yX11_lineAt cX11_lineAt 2 (some .int) 2 := ⟨⟨(x_gin (List.mem_append_right _ (tb_6 _ (List.mem_of_getElem? (i := 191) rfl))) rfl), (x_gin (List.mem_append_right _ (tb_1 _ (List.mem_of_getElem? (i := 11) rfl))) rfl), by decide +kernel, by decide⟩, (x_gin (List.mem_append_right _ (tb_6 _ (List.mem_of_getElem? (i := 190) rfl))) rfl)⟩
set_option maxRecDepth 100000 in
theorem s_yX11_textAt : x_YS yX11_textAt cX11_textAt 1 (some .int) 1 := ⟨⟨(x_gin (List.mem_append_right _ (tb_6 _ (List.mem_of_getElem? (i := 194) rfl))) rfl), (x_gin (List.mem_append_right _ (tb_1 _ (List.mem_of_getElem? (i := 11) rfl))) rfl), by decide +kernel, by decide⟩, (x_gin (List.mem_append_right _ (tb_6 _ (List.mem_of_getElem? (i := 193) rfl))) rfl)⟩
set_option maxRecDepth 100000 in
theorem v_yX11_readRule : x_YV yX11_readRule cX11_readRule 3 (some .boolean) 1 := ⟨⟨(x_gin (List.mem_append_right _ (tb_6 _ (List.mem_of_getElem? (i := 198) rfl))) rfl), (x_gin (List.mem_append_right _ (tb_1 _ (List.mem_of_getElem? (i := 11) rfl))) rfl), by decide +kernel, by decide⟩, (x_gin (List.mem_append_right _ (tb_6 _ (List.mem_of_getElem? (i := 197) rfl))) rfl), (x_gin (List.mem_append_left _ (List.mem_of_getElem? (i := 49) rfl)) rfl)⟩
set_option maxRecDepth 100000 in
theorem v_yX11_isWord : x_YV yX11_isWord cX11_isWord 4 (some .boolean) 1 := ⟨⟨(x_gin (List.mem_append_right _ (tb_6 _ (List.mem_of_getElem? (i := 203) rfl))) rfl), (x_gin (List.mem_append_right _ (tb_1 _ (List.mem_of_getElem? (i := 11) rfl))) rfl), by decide +kernel, by decide⟩, (x_gin (List.mem_append_right _ (tb_6 _ (List.mem_of_getElem? (i := 202) rfl))) rfl), (x_gin (List.mem_append_left _ (List.mem_of_getElem? (i := 50) rfl)) rfl)⟩
set_option maxRecDepth 100000 in
theorem v_yX11_number : x_YV yX11_number cX11_number 4 (some .int) 2 := ⟨⟨(x_gin (List.mem_append_right _ (tb_6 _ (List.mem_of_getElem? (i := 212) rfl))) rfl), (x_gin (List.mem_append_right _ (tb_1 _ (List.mem_of_getElem? (i := 11) rfl))) rfl), by decide +kernel, by decide⟩, (x_gin (List.mem_append_right _ (tb_6 _ (List.mem_of_getElem? (i := 211) rfl))) rfl), (x_gin (List.mem_append_left _ (List.mem_of_getElem? (i := 51) rfl)) rfl)⟩
set_option maxRecDepth 100000 in
theorem v_yX11_tells : x_YV yX11_tells cX11_tells 3 (some .boolean) 2 := ⟨⟨(x_gin (List.mem_append_right _ (tb_6 _ (List.mem_of_getElem? (i := 216) rfl))) rfl), (x_gin (List.mem_append_right _ (tb_1 _ (List.mem_of_getElem? (i := 11) rfl))) rfl), by decide +kernel, by decide⟩, (x_gin (List.mem_append_right _ (tb_6 _ (List.mem_of_getElem? (i := 215) rfl))) rfl), (x_gin (List.mem_append_left _ (List.mem_of_getElem? (i := 52) rfl)) rfl)⟩
set_option maxRecDepth 100000 in
theorem v_yX11_needsWord : x_YV yX11_needsWord cX11_needsWord 2 (some .boolean) 1 := ⟨⟨(x_gin (List.mem_append_right _ (tb_6 _ (List.mem_of_getElem? (i := 221) rfl))) rfl), (x_gin (List.mem_append_right _ (tb_1 _ (List.mem_of_getElem? (i := 11) rfl))) rfl), by decide +kernel, by decide⟩, (x_gin (List.mem_append_right _ (tb_6 _ (List.mem_of_getElem? (i := 220) rfl))) rfl), (x_gin (List.mem_append_left _ (List.mem_of_getElem? (i := 53) rfl)) rfl)⟩
set_option maxRecDepth 100000 in
theorem v_yX11_readWay : x_YV yX11_readWay cX11_readWay 3 (some .boolean) 1 := ⟨⟨(x_gin (List.mem_append_right _ (tb_6 _ (List.mem_of_getElem? (i := 226) rfl))) rfl), (x_gin (List.mem_append_right _ (tb_1 _ (List.mem_of_getElem? (i := 11) rfl))) rfl), by decide +kernel, by decide⟩, (x_gin (List.mem_append_right _ (tb_6 _ (List.mem_of_getElem? (i := 225) rfl))) rfl), (x_gin (List.mem_append_left _ (List.mem_of_getElem? (i := 54) rfl)) rfl)⟩
set_option maxRecDepth 100000 in
theorem v_yX11_readCond : x_YV yX11_readCond cX11_readCond 1 (some .boolean) 0 := ⟨⟨(x_gin (List.mem_append_right _ (tb_6 _ (List.mem_of_getElem? (i := 234) rfl))) rfl), (x_gin (List.mem_append_right _ (tb_1 _ (List.mem_of_getElem? (i := 11) rfl))) rfl), by decide +kernel, by decide⟩, (x_gin (List.mem_append_right _ (tb_6 _ (List.mem_of_getElem? (i := 233) rfl))) rfl), (x_gin (List.mem_append_left _ (List.mem_of_getElem? (i := 55) rfl)) rfl)⟩
set_option maxRecDepth 100000 in
theorem v_yX11_readAllOf : x_YV yX11_readAllOf cX11_readAllOf 1 (some .boolean) 0 := ⟨⟨(x_gin (List.mem_append_right _ (tb_6 _ (List.mem_of_getElem? (i := 238) rfl))) rfl), (x_gin (List.mem_append_right _ (tb_1 _ (List.mem_of_getElem? (i := 11) rfl))) rfl), by decide +kernel, by decide⟩, (x_gin (List.mem_append_right _ (tb_6 _ (List.mem_of_getElem? (i := 237) rfl))) rfl), (x_gin (List.mem_append_left _ (List.mem_of_getElem? (i := 56) rfl)) rfl)⟩
set_option maxRecDepth 100000 in
theorem v_yX11_readAtom : x_YV yX11_readAtom cX11_readAtom 3 (some .boolean) 0 := ⟨⟨(x_gin (List.mem_append_right _ (tb_7 _ (List.mem_of_getElem? (i := 2) rfl))) rfl), (x_gin (List.mem_append_right _ (tb_1 _ (List.mem_of_getElem? (i := 11) rfl))) rfl), by decide +kernel, by decide⟩, (x_gin (List.mem_append_right _ (tb_7 _ (List.mem_of_getElem? (i := 1) rfl))) rfl), (x_gin (List.mem_append_left _ (List.mem_of_getElem? (i := 57) rfl)) rfl)⟩
set_option maxRecDepth 100000 in
theorem v_yX11_sign : x_YV yX11_sign cX11_sign 2 (some .boolean) 1 := ⟨⟨(x_gin (List.mem_append_right _ (tb_7 _ (List.mem_of_getElem? (i := 6) rfl))) rfl), (x_gin (List.mem_append_right _ (tb_1 _ (List.mem_of_getElem? (i := 11) rfl))) rfl), by decide +kernel, by decide⟩, (x_gin (List.mem_append_right _ (tb_7 _ (List.mem_of_getElem? (i := 5) rfl))) rfl), (x_gin (List.mem_append_left _ (List.mem_of_getElem? (i := 58) rfl)) rfl)⟩
set_option maxRecDepth 100000 in
theorem v_yX11_passes : x_YV yX11_passes cX11_passes 2 (some .boolean) 1 := ⟨⟨(x_gin (List.mem_append_right _ (tb_7 _ (List.mem_of_getElem? (i := 11) rfl))) rfl), (x_gin (List.mem_append_right _ (tb_1 _ (List.mem_of_getElem? (i := 11) rfl))) rfl), by decide +kernel, by decide⟩, (x_gin (List.mem_append_right _ (tb_7 _ (List.mem_of_getElem? (i := 10) rfl))) rfl), (x_gin (List.mem_append_left _ (List.mem_of_getElem? (i := 59) rfl)) rfl)⟩
set_option maxRecDepth 100000 in
theorem v_yX11_emits : x_YV yX11_emits cX11_emits 4 none 2 := ⟨⟨(x_gin (List.mem_append_right _ (tb_7 _ (List.mem_of_getElem? (i := 15) rfl))) rfl), (x_gin (List.mem_append_right _ (tb_1 _ (List.mem_of_getElem? (i := 11) rfl))) rfl), by decide +kernel, by decide⟩, (x_gin (List.mem_append_right _ (tb_7 _ (List.mem_of_getElem? (i := 14) rfl))) rfl), (x_gin (List.mem_append_left _ (List.mem_of_getElem? (i := 60) rfl)) rfl)⟩
set_option maxRecDepth 100000 in
theorem v_yX11_tagAt : x_YV yX11_tagAt cX11_tagAt 1 (some .int) 0 := ⟨⟨(x_gin (List.mem_append_right _ (tb_7 _ (List.mem_of_getElem? (i := 19) rfl))) rfl), (x_gin (List.mem_append_right _ (tb_1 _ (List.mem_of_getElem? (i := 11) rfl))) rfl), by decide +kernel, by decide⟩, (x_gin (List.mem_append_right _ (tb_7 _ (List.mem_of_getElem? (i := 18) rfl))) rfl), (x_gin (List.mem_append_left _ (List.mem_of_getElem? (i := 61) rfl)) rfl)⟩
set_option maxRecDepth 100000 in
theorem v_yX11_emitsOf : x_YV yX11_emitsOf cX11_emitsOf 3 (some .boolean) 1 := ⟨⟨(x_gin (List.mem_append_right _ (tb_7 _ (List.mem_of_getElem? (i := 29) rfl))) rfl), (x_gin (List.mem_append_right _ (tb_1 _ (List.mem_of_getElem? (i := 11) rfl))) rfl), by decide +kernel, by decide⟩, (x_gin (List.mem_append_right _ (tb_7 _ (List.mem_of_getElem? (i := 28) rfl))) rfl), (x_gin (List.mem_append_left _ (List.mem_of_getElem? (i := 62) rfl)) rfl)⟩
set_option maxRecDepth 100000 in
theorem v_yX11_readSum : x_YV yX11_readSum cX11_readSum 1 (some .boolean) 0 := ⟨⟨(x_gin (List.mem_append_right _ (tb_7 _ (List.mem_of_getElem? (i := 33) rfl))) rfl), (x_gin (List.mem_append_right _ (tb_1 _ (List.mem_of_getElem? (i := 11) rfl))) rfl), by decide +kernel, by decide⟩, (x_gin (List.mem_append_right _ (tb_7 _ (List.mem_of_getElem? (i := 32) rfl))) rfl), (x_gin (List.mem_append_left _ (List.mem_of_getElem? (i := 63) rfl)) rfl)⟩
set_option maxRecDepth 100000 in
theorem v_yX11_readPart : x_YV yX11_readPart cX11_readPart 2 (some .boolean) 0 := ⟨⟨(x_gin (List.mem_append_right _ (tb_7 _ (List.mem_of_getElem? (i := 37) rfl))) rfl), (x_gin (List.mem_append_right _ (tb_1 _ (List.mem_of_getElem? (i := 11) rfl))) rfl), by decide +kernel, by decide⟩, (x_gin (List.mem_append_right _ (tb_7 _ (List.mem_of_getElem? (i := 36) rfl))) rfl), (x_gin (List.mem_append_left _ (List.mem_of_getElem? (i := 64) rfl)) rfl)⟩
set_option maxRecDepth 100000 in
theorem v_yX11_way : x_YV yX11_way cX11_way 1 (some .int) 0 := ⟨⟨(x_gin (List.mem_append_right _ (tb_7 _ (List.mem_of_getElem? (i := 47) rfl))) rfl), (x_gin (List.mem_append_right _ (tb_1 _ (List.mem_of_getElem? (i := 11) rfl))) rfl), by decide +kernel, by decide⟩, (x_gin (List.mem_append_right _ (tb_7 _ (List.mem_of_getElem? (i := 45) rfl))) rfl), (x_gin (List.mem_append_right _ (tb_7 _ (List.mem_of_getElem? (i := 46) rfl))) rfl)⟩
set_option maxRecDepth 100000 in
theorem v_yX11_look : x_YV yX11_look cX11_look 5 (some .int) 2 := ⟨⟨(x_gin (List.mem_append_right _ (tb_7 _ (List.mem_of_getElem? (i := 51) rfl))) rfl), (x_gin (List.mem_append_right _ (tb_1 _ (List.mem_of_getElem? (i := 11) rfl))) rfl), by decide +kernel, by decide⟩, (x_gin (List.mem_append_right _ (tb_7 _ (List.mem_of_getElem? (i := 49) rfl))) rfl), (x_gin (List.mem_append_right _ (tb_7 _ (List.mem_of_getElem? (i := 50) rfl))) rfl)⟩
set_option maxRecDepth 100000 in
theorem v_yX11_none : x_YV yX11_none cX11_none 3 (some .boolean) 2 := ⟨⟨(x_gin (List.mem_append_right _ (tb_7 _ (List.mem_of_getElem? (i := 55) rfl))) rfl), (x_gin (List.mem_append_right _ (tb_1 _ (List.mem_of_getElem? (i := 11) rfl))) rfl), by decide +kernel, by decide⟩, (x_gin (List.mem_append_right _ (tb_7 _ (List.mem_of_getElem? (i := 54) rfl))) rfl), (x_gin (List.mem_append_left _ (List.mem_of_getElem? (i := 65) rfl)) rfl)⟩
set_option maxRecDepth 100000 in
theorem v_yX11_laysOut : x_YV yX11_laysOut cX11_laysOut 7 none 2 := ⟨⟨(x_gin (List.mem_append_right _ (tb_7 _ (List.mem_of_getElem? (i := 59) rfl))) rfl), (x_gin (List.mem_append_right _ (tb_1 _ (List.mem_of_getElem? (i := 11) rfl))) rfl), by decide +kernel, by decide⟩, (x_gin (List.mem_append_right _ (tb_7 _ (List.mem_of_getElem? (i := 58) rfl))) rfl), (x_gin (List.mem_append_left _ (List.mem_of_getElem? (i := 66) rfl)) rfl)⟩
set_option maxRecDepth 100000 in
theorem v_yX11_lines : x_YV yX11_lines cX11_lines 2 (some .int) 1 := ⟨⟨(x_gin (List.mem_append_right _ (tb_7 _ (List.mem_of_getElem? (i := 63) rfl))) rfl), (x_gin (List.mem_append_right _ (tb_1 _ (List.mem_of_getElem? (i := 11) rfl))) rfl), by decide +kernel, by decide⟩, (x_gin (List.mem_append_right _ (tb_7 _ (List.mem_of_getElem? (i := 62) rfl))) rfl), (x_gin (List.mem_append_left _ (List.mem_of_getElem? (i := 67) rfl)) rfl)⟩
set_option maxRecDepth 100000 in
theorem v_yX11_of : x_YV yX11_of cX11_of 4 (some .int) 3 := ⟨⟨(x_gin (List.mem_append_right _ (tb_7 _ (List.mem_of_getElem? (i := 67) rfl))) rfl), (x_gin (List.mem_append_right _ (tb_1 _ (List.mem_of_getElem? (i := 11) rfl))) rfl), by decide +kernel, by decide⟩, (x_gin (List.mem_append_right _ (tb_7 _ (List.mem_of_getElem? (i := 66) rfl))) rfl), (x_gin (List.mem_append_left _ (List.mem_of_getElem? (i := 68) rfl)) rfl)⟩
set_option maxRecDepth 100000 in
theorem v_yX11_sortOf : x_YV yX11_sortOf cX11_sortOf 3 (some .int) 2 := ⟨⟨(x_gin (List.mem_append_right _ (tb_7 _ (List.mem_of_getElem? (i := 71) rfl))) rfl), (x_gin (List.mem_append_right _ (tb_1 _ (List.mem_of_getElem? (i := 11) rfl))) rfl), by decide +kernel, by decide⟩, (x_gin (List.mem_append_right _ (tb_7 _ (List.mem_of_getElem? (i := 70) rfl))) rfl), (x_gin (List.mem_append_left _ (List.mem_of_getElem? (i := 69) rfl)) rfl)⟩
set_option maxRecDepth 100000 in
theorem v_yX11_needs : x_YV yX11_needs cX11_needs 6 (some .boolean) 5 := ⟨⟨(x_gin (List.mem_append_right _ (tb_7 _ (List.mem_of_getElem? (i := 75) rfl))) rfl), (x_gin (List.mem_append_right _ (tb_1 _ (List.mem_of_getElem? (i := 11) rfl))) rfl), by decide +kernel, by decide⟩, (x_gin (List.mem_append_right _ (tb_7 _ (List.mem_of_getElem? (i := 73) rfl))) rfl), (x_gin (List.mem_append_right _ (tb_7 _ (List.mem_of_getElem? (i := 74) rfl))) rfl)⟩
set_option maxRecDepth 100000 in
theorem v_yX11_holdsAll : x_YV yX11_holdsAll cX11_holdsAll 8 (some .boolean) 4 := ⟨⟨(x_gin (List.mem_append_right _ (tb_7 _ (List.mem_of_getElem? (i := 79) rfl))) rfl), (x_gin (List.mem_append_right _ (tb_1 _ (List.mem_of_getElem? (i := 11) rfl))) rfl), by decide +kernel, by decide⟩, (x_gin (List.mem_append_right _ (tb_7 _ (List.mem_of_getElem? (i := 78) rfl))) rfl), (x_gin (List.mem_append_left _ (List.mem_of_getElem? (i := 70) rfl)) rfl)⟩
set_option maxRecDepth 100000 in
theorem v_yX11_holdsLine : x_YV yX11_holdsLine cX11_holdsLine 12 (some .boolean) 5 := ⟨⟨(x_gin (List.mem_append_right _ (tb_7 _ (List.mem_of_getElem? (i := 83) rfl))) rfl), (x_gin (List.mem_append_right _ (tb_1 _ (List.mem_of_getElem? (i := 11) rfl))) rfl), by decide +kernel, by decide⟩, (x_gin (List.mem_append_right _ (tb_7 _ (List.mem_of_getElem? (i := 82) rfl))) rfl), (x_gin (List.mem_append_left _ (List.mem_of_getElem? (i := 71) rfl)) rfl)⟩
set_option maxRecDepth 100000 in
theorem v_yX11_asked : x_YV yX11_asked cX11_asked 7 (some .int) 5 := ⟨⟨(x_gin (List.mem_append_right _ (tb_7 _ (List.mem_of_getElem? (i := 87) rfl))) rfl), (x_gin (List.mem_append_right _ (tb_1 _ (List.mem_of_getElem? (i := 11) rfl))) rfl), by decide +kernel, by decide⟩, (x_gin (List.mem_append_right _ (tb_7 _ (List.mem_of_getElem? (i := 86) rfl))) rfl), (x_gin (List.mem_append_left _ (List.mem_of_getElem? (i := 72) rfl)) rfl)⟩
set_option maxRecDepth 100000 in
theorem v_yX11_ofHolder : x_YV yX11_ofHolder cX11_ofHolder 3 (some .int) 2 := ⟨⟨(x_gin (List.mem_append_right _ (tb_7 _ (List.mem_of_getElem? (i := 92) rfl))) rfl), (x_gin (List.mem_append_right _ (tb_1 _ (List.mem_of_getElem? (i := 11) rfl))) rfl), by decide +kernel, by decide⟩, (x_gin (List.mem_append_right _ (tb_7 _ (List.mem_of_getElem? (i := 91) rfl))) rfl), (x_gin (List.mem_append_left _ (List.mem_of_getElem? (i := 73) rfl)) rfl)⟩
set_option maxRecDepth 100000 in
theorem v_yX11_note : x_YV yX11_note cX11_note 3 (some .int) 2 := ⟨⟨(x_gin (List.mem_append_right _ (tb_7 _ (List.mem_of_getElem? (i := 96) rfl))) rfl), (x_gin (List.mem_append_right _ (tb_1 _ (List.mem_of_getElem? (i := 11) rfl))) rfl), by decide +kernel, by decide⟩, (x_gin (List.mem_append_right _ (tb_7 _ (List.mem_of_getElem? (i := 94) rfl))) rfl), (x_gin (List.mem_append_right _ (tb_7 _ (List.mem_of_getElem? (i := 95) rfl))) rfl)⟩
set_option maxRecDepth 100000 in
theorem v_yX11_torn : x_YV yX11_torn cX11_torn 2 (some .int) 0 := ⟨⟨(x_gin (List.mem_append_right _ (tb_7 _ (List.mem_of_getElem? (i := 100) rfl))) rfl), (x_gin (List.mem_append_right _ (tb_1 _ (List.mem_of_getElem? (i := 11) rfl))) rfl), by decide +kernel, by decide⟩, (x_gin (List.mem_append_right _ (tb_7 _ (List.mem_of_getElem? (i := 98) rfl))) rfl), (x_gin (List.mem_append_right _ (tb_7 _ (List.mem_of_getElem? (i := 99) rfl))) rfl)⟩
set_option maxRecDepth 100000 in
theorem v_yX11_can : x_YV yX11_can cX11_can 4 (some .boolean) 3 := ⟨⟨(x_gin (List.mem_append_right _ (tb_7 _ (List.mem_of_getElem? (i := 104) rfl))) rfl), (x_gin (List.mem_append_right _ (tb_1 _ (List.mem_of_getElem? (i := 11) rfl))) rfl), by decide +kernel, by decide⟩, (x_gin (List.mem_append_right _ (tb_7 _ (List.mem_of_getElem? (i := 102) rfl))) rfl), (x_gin (List.mem_append_right _ (tb_7 _ (List.mem_of_getElem? (i := 103) rfl))) rfl)⟩
set_option maxRecDepth 100000 in
theorem v_yX11_canBy : x_YV yX11_canBy cX11_canBy 3 (some .boolean) 2 := ⟨⟨(x_gin (List.mem_append_right _ (tb_7 _ (List.mem_of_getElem? (i := 108) rfl))) rfl), (x_gin (List.mem_append_right _ (tb_1 _ (List.mem_of_getElem? (i := 11) rfl))) rfl), by decide +kernel, by decide⟩, (x_gin (List.mem_append_right _ (tb_7 _ (List.mem_of_getElem? (i := 107) rfl))) rfl), (x_gin (List.mem_append_left _ (List.mem_of_getElem? (i := 74) rfl)) rfl)⟩
set_option maxRecDepth 100000 in
theorem v_yX11_prepares : x_YV yX11_prepares cX11_prepares 9 (some .boolean) 3 := ⟨⟨(x_gin (List.mem_append_right _ (tb_7 _ (List.mem_of_getElem? (i := 112) rfl))) rfl), (x_gin (List.mem_append_right _ (tb_1 _ (List.mem_of_getElem? (i := 11) rfl))) rfl), by decide +kernel, by decide⟩, (x_gin (List.mem_append_right _ (tb_7 _ (List.mem_of_getElem? (i := 111) rfl))) rfl), (x_gin (List.mem_append_left _ (List.mem_of_getElem? (i := 75) rfl)) rfl)⟩
set_option maxRecDepth 100000 in
theorem s_yX11_at : x_YS yX11_at cX11_at 2 (some .int) 2 := ⟨⟨(x_gin (List.mem_append_right _ (tb_7 _ (List.mem_of_getElem? (i := 115) rfl))) rfl), (x_gin (List.mem_append_right _ (tb_1 _ (List.mem_of_getElem? (i := 11) rfl))) rfl), by decide +kernel, by decide⟩, (x_gin (List.mem_append_right _ (tb_7 _ (List.mem_of_getElem? (i := 114) rfl))) rfl)⟩
set_option maxRecDepth 100000 in
theorem s_yX11_runAt : x_YS yX11_runAt cX11_runAt 3 (some .int) 3 := ⟨⟨(x_gin (List.mem_append_right _ (tb_7 _ (List.mem_of_getElem? (i := 118) rfl))) rfl), (x_gin (List.mem_append_right _ (tb_1 _ (List.mem_of_getElem? (i := 11) rfl))) rfl), by decide +kernel, by decide⟩, (x_gin (List.mem_append_right _ (tb_7 _ (List.mem_of_getElem? (i := 117) rfl))) rfl)⟩
set_option maxRecDepth 100000 in
theorem v_yX11_reachOf : x_YV yX11_reachOf cX11_reachOf 4 (some .int) 1 := ⟨⟨(x_gin (List.mem_append_right _ (tb_7 _ (List.mem_of_getElem? (i := 122) rfl))) rfl), (x_gin (List.mem_append_right _ (tb_1 _ (List.mem_of_getElem? (i := 11) rfl))) rfl), by decide +kernel, by decide⟩, (x_gin (List.mem_append_right _ (tb_7 _ (List.mem_of_getElem? (i := 121) rfl))) rfl), (x_gin (List.mem_append_left _ (List.mem_of_getElem? (i := 76) rfl)) rfl)⟩
set_option maxRecDepth 100000 in
theorem v_yX11_lastOf : x_YV yX11_lastOf cX11_lastOf 6 (some .int) 3 := ⟨⟨(x_gin (List.mem_append_right _ (tb_7 _ (List.mem_of_getElem? (i := 126) rfl))) rfl), (x_gin (List.mem_append_right _ (tb_1 _ (List.mem_of_getElem? (i := 11) rfl))) rfl), by decide +kernel, by decide⟩, (x_gin (List.mem_append_right _ (tb_7 _ (List.mem_of_getElem? (i := 125) rfl))) rfl), (x_gin (List.mem_append_left _ (List.mem_of_getElem? (i := 77) rfl)) rfl)⟩
set_option maxRecDepth 100000 in
theorem v_yX11_canDo : x_YV yX11_canDo cX11_canDo 5 (some .boolean) 3 := ⟨⟨(x_gin (List.mem_append_right _ (tb_7 _ (List.mem_of_getElem? (i := 131) rfl))) rfl), (x_gin (List.mem_append_right _ (tb_1 _ (List.mem_of_getElem? (i := 11) rfl))) rfl), by decide +kernel, by decide⟩, (x_gin (List.mem_append_right _ (tb_7 _ (List.mem_of_getElem? (i := 130) rfl))) rfl), (x_gin (List.mem_append_left _ (List.mem_of_getElem? (i := 78) rfl)) rfl)⟩
set_option maxRecDepth 100000 in
theorem v_yX11_goesOnwards : x_YV yX11_goesOnwards cX11_goesOnwards 4 none 0 := ⟨⟨(x_gin (List.mem_append_right _ (tb_7 _ (List.mem_of_getElem? (i := 135) rfl))) rfl), (x_gin (List.mem_append_right _ (tb_1 _ (List.mem_of_getElem? (i := 11) rfl))) rfl), by decide +kernel, by decide⟩, (x_gin (List.mem_append_right _ (tb_7 _ (List.mem_of_getElem? (i := 134) rfl))) rfl), (x_gin (List.mem_append_left _ (List.mem_of_getElem? (i := 79) rfl)) rfl)⟩
set_option maxRecDepth 100000 in
theorem v_yX11_canGo : x_YV yX11_canGo cX11_canGo 7 (some .boolean) 3 := ⟨⟨(x_gin (List.mem_append_right _ (tb_7 _ (List.mem_of_getElem? (i := 139) rfl))) rfl), (x_gin (List.mem_append_right _ (tb_1 _ (List.mem_of_getElem? (i := 11) rfl))) rfl), by decide +kernel, by decide⟩, (x_gin (List.mem_append_right _ (tb_7 _ (List.mem_of_getElem? (i := 138) rfl))) rfl), (x_gin (List.mem_append_left _ (List.mem_of_getElem? (i := 80) rfl)) rfl)⟩
set_option maxRecDepth 100000 in
theorem v_yX11_freedBy : x_YV yX11_freedBy cX11_freedBy 4 (some .int) 1 := ⟨⟨(x_gin (List.mem_append_right _ (tb_7 _ (List.mem_of_getElem? (i := 143) rfl))) rfl), (x_gin (List.mem_append_right _ (tb_1 _ (List.mem_of_getElem? (i := 11) rfl))) rfl), by decide +kernel, by decide⟩, (x_gin (List.mem_append_right _ (tb_7 _ (List.mem_of_getElem? (i := 142) rfl))) rfl), (x_gin (List.mem_append_left _ (List.mem_of_getElem? (i := 81) rfl)) rfl)⟩
set_option maxRecDepth 100000 in
theorem v_yX11_fewest : x_YV yX11_fewest cX11_fewest 5 (some .int) 2 := ⟨⟨(x_gin (List.mem_append_right _ (tb_7 _ (List.mem_of_getElem? (i := 147) rfl))) rfl), (x_gin (List.mem_append_right _ (tb_1 _ (List.mem_of_getElem? (i := 11) rfl))) rfl), by decide +kernel, by decide⟩, (x_gin (List.mem_append_right _ (tb_7 _ (List.mem_of_getElem? (i := 145) rfl))) rfl), (x_gin (List.mem_append_right _ (tb_7 _ (List.mem_of_getElem? (i := 146) rfl))) rfl)⟩
set_option maxRecDepth 100000 in
theorem v_yX11_earliest : x_YV yX11_earliest cX11_earliest 5 (some .int) 4 := ⟨⟨(x_gin (List.mem_append_right _ (tb_7 _ (List.mem_of_getElem? (i := 151) rfl))) rfl), (x_gin (List.mem_append_right _ (tb_1 _ (List.mem_of_getElem? (i := 11) rfl))) rfl), by decide +kernel, by decide⟩, (x_gin (List.mem_append_right _ (tb_7 _ (List.mem_of_getElem? (i := 149) rfl))) rfl), (x_gin (List.mem_append_right _ (tb_7 _ (List.mem_of_getElem? (i := 150) rfl))) rfl)⟩
set_option maxRecDepth 100000 in
theorem v_yX11_meets : x_YV yX11_meets cX11_meets 9 none 2 := ⟨⟨(x_gin (List.mem_append_right _ (tb_7 _ (List.mem_of_getElem? (i := 155) rfl))) rfl), (x_gin (List.mem_append_right _ (tb_1 _ (List.mem_of_getElem? (i := 11) rfl))) rfl), by decide +kernel, by decide⟩, (x_gin (List.mem_append_right _ (tb_7 _ (List.mem_of_getElem? (i := 154) rfl))) rfl), (x_gin (List.mem_append_left _ (List.mem_of_getElem? (i := 82) rfl)) rfl)⟩
set_option maxRecDepth 100000 in
theorem v_yX11_goesBackwards : x_YV yX11_goesBackwards cX11_goesBackwards 5 none 0 := ⟨⟨(x_gin (List.mem_append_right _ (tb_7 _ (List.mem_of_getElem? (i := 159) rfl))) rfl), (x_gin (List.mem_append_right _ (tb_1 _ (List.mem_of_getElem? (i := 11) rfl))) rfl), by decide +kernel, by decide⟩, (x_gin (List.mem_append_right _ (tb_7 _ (List.mem_of_getElem? (i := 158) rfl))) rfl), (x_gin (List.mem_append_left _ (List.mem_of_getElem? (i := 83) rfl)) rfl)⟩
set_option maxRecDepth 100000 in
theorem v_yX11_earliestOf : x_YV yX11_earliestOf cX11_earliestOf 5 (some .int) 2 := ⟨⟨(x_gin (List.mem_append_right _ (tb_7 _ (List.mem_of_getElem? (i := 163) rfl))) rfl), (x_gin (List.mem_append_right _ (tb_1 _ (List.mem_of_getElem? (i := 11) rfl))) rfl), by decide +kernel, by decide⟩, (x_gin (List.mem_append_right _ (tb_7 _ (List.mem_of_getElem? (i := 162) rfl))) rfl), (x_gin (List.mem_append_left _ (List.mem_of_getElem? (i := 84) rfl)) rfl)⟩
set_option maxRecDepth 100000 in
theorem v_yX11_may : x_YV yX11_may cX11_may 7 (some .int) 4 := ⟨⟨(x_gin (List.mem_append_right _ (tb_7 _ (List.mem_of_getElem? (i := 167) rfl))) rfl), (x_gin (List.mem_append_right _ (tb_1 _ (List.mem_of_getElem? (i := 11) rfl))) rfl), by decide +kernel, by decide⟩, (x_gin (List.mem_append_right _ (tb_7 _ (List.mem_of_getElem? (i := 165) rfl))) rfl), (x_gin (List.mem_append_right _ (tb_7 _ (List.mem_of_getElem? (i := 166) rfl))) rfl)⟩
set_option maxRecDepth 100000 in
theorem v_yX11_shut : x_YV yX11_shut cX11_shut 4 (some .int) 1 := ⟨⟨(x_gin (List.mem_append_right _ (tb_7 _ (List.mem_of_getElem? (i := 171) rfl))) rfl), (x_gin (List.mem_append_right _ (tb_1 _ (List.mem_of_getElem? (i := 11) rfl))) rfl), by decide +kernel, by decide⟩, (x_gin (List.mem_append_right _ (tb_7 _ (List.mem_of_getElem? (i := 169) rfl))) rfl), (x_gin (List.mem_append_right _ (tb_7 _ (List.mem_of_getElem? (i := 170) rfl))) rfl)⟩
set_option maxRecDepth 100000 in
theorem v_yX11_isShut : x_YV yX11_isShut cX11_isShut 4 (some .boolean) 3 := ⟨⟨(x_gin (List.mem_append_right _ (tb_7 _ (List.mem_of_getElem? (i := 175) rfl))) rfl), (x_gin (List.mem_append_right _ (tb_1 _ (List.mem_of_getElem? (i := 11) rfl))) rfl), by decide +kernel, by decide⟩, (x_gin (List.mem_append_right _ (tb_7 _ (List.mem_of_getElem? (i := 174) rfl))) rfl), (x_gin (List.mem_append_left _ (List.mem_of_getElem? (i := 85) rfl)) rfl)⟩
set_option maxRecDepth 100000 in
theorem v_yX11_opens : x_YV yX11_opens cX11_opens 5 (some .int) 2 := ⟨⟨(x_gin (List.mem_append_right _ (tb_7 _ (List.mem_of_getElem? (i := 179) rfl))) rfl), (x_gin (List.mem_append_right _ (tb_1 _ (List.mem_of_getElem? (i := 11) rfl))) rfl), by decide +kernel, by decide⟩, (x_gin (List.mem_append_right _ (tb_7 _ (List.mem_of_getElem? (i := 177) rfl))) rfl), (x_gin (List.mem_append_right _ (tb_7 _ (List.mem_of_getElem? (i := 178) rfl))) rfl)⟩
set_option maxRecDepth 100000 in
theorem v_yX11_trap : x_YV yX11_trap cX11_trap 4 (some .int) 3 := ⟨⟨(x_gin (List.mem_append_right _ (tb_7 _ (List.mem_of_getElem? (i := 183) rfl))) rfl), (x_gin (List.mem_append_right _ (tb_1 _ (List.mem_of_getElem? (i := 11) rfl))) rfl), by decide +kernel, by decide⟩, (x_gin (List.mem_append_right _ (tb_7 _ (List.mem_of_getElem? (i := 181) rfl))) rfl), (x_gin (List.mem_append_right _ (tb_7 _ (List.mem_of_getElem? (i := 182) rfl))) rfl)⟩
set_option maxRecDepth 100000 in
theorem v_yX11_story : x_YV yX11_story cX11_story 4 (some .int) 3 := ⟨⟨(x_gin (List.mem_append_right _ (tb_7 _ (List.mem_of_getElem? (i := 187) rfl))) rfl), (x_gin (List.mem_append_right _ (tb_1 _ (List.mem_of_getElem? (i := 11) rfl))) rfl), by decide +kernel, by decide⟩, (x_gin (List.mem_append_right _ (tb_7 _ (List.mem_of_getElem? (i := 185) rfl))) rfl), (x_gin (List.mem_append_right _ (tb_7 _ (List.mem_of_getElem? (i := 186) rfl))) rfl)⟩
set_option maxRecDepth 100000 in
theorem v_yX11_night : x_YV yX11_night cX11_night 8 (some .int) 5 := ⟨⟨(x_gin (List.mem_append_right _ (tb_7 _ (List.mem_of_getElem? (i := 191) rfl))) rfl), (x_gin (List.mem_append_right _ (tb_1 _ (List.mem_of_getElem? (i := 11) rfl))) rfl), by decide +kernel, by decide⟩, (x_gin (List.mem_append_right _ (tb_7 _ (List.mem_of_getElem? (i := 189) rfl))) rfl), (x_gin (List.mem_append_right _ (tb_7 _ (List.mem_of_getElem? (i := 190) rfl))) rfl)⟩
set_option maxRecDepth 100000 in
theorem v_yX11_hasOthers : x_YV yX11_hasOthers cX11_hasOthers 3 (some .boolean) 2 := ⟨⟨(x_gin (List.mem_append_right _ (tb_7 _ (List.mem_of_getElem? (i := 195) rfl))) rfl), (x_gin (List.mem_append_right _ (tb_1 _ (List.mem_of_getElem? (i := 11) rfl))) rfl), by decide +kernel, by decide⟩, (x_gin (List.mem_append_right _ (tb_7 _ (List.mem_of_getElem? (i := 194) rfl))) rfl), (x_gin (List.mem_append_left _ (List.mem_of_getElem? (i := 86) rfl)) rfl)⟩
set_option maxRecDepth 100000 in
theorem v_yX11_odds : x_YV yX11_odds cX11_odds 2 (some .int) 1 := ⟨⟨(x_gin (List.mem_append_right _ (tb_7 _ (List.mem_of_getElem? (i := 199) rfl))) rfl), (x_gin (List.mem_append_right _ (tb_1 _ (List.mem_of_getElem? (i := 11) rfl))) rfl), by decide +kernel, by decide⟩, (x_gin (List.mem_append_right _ (tb_7 _ (List.mem_of_getElem? (i := 197) rfl))) rfl), (x_gin (List.mem_append_right _ (tb_7 _ (List.mem_of_getElem? (i := 198) rfl))) rfl)⟩
set_option maxRecDepth 100000 in
theorem v_yX11_forgets : x_YV yX11_forgets cX11_forgets 2 none 0 := ⟨⟨(x_gin (List.mem_append_right _ (tb_7 _ (List.mem_of_getElem? (i := 203) rfl))) rfl), (x_gin (List.mem_append_right _ (tb_1 _ (List.mem_of_getElem? (i := 11) rfl))) rfl), by decide +kernel, by decide⟩, (x_gin (List.mem_append_right _ (tb_7 _ (List.mem_of_getElem? (i := 202) rfl))) rfl), (x_gin (List.mem_append_left _ (List.mem_of_getElem? (i := 87) rfl)) rfl)⟩
set_option maxRecDepth 100000 in
theorem v_yX11_oddsAfter : x_YV yX11_oddsAfter cX11_oddsAfter 4 none 1 := ⟨⟨(x_gin (List.mem_append_right _ (tb_7 _ (List.mem_of_getElem? (i := 207) rfl))) rfl), (x_gin (List.mem_append_right _ (tb_1 _ (List.mem_of_getElem? (i := 11) rfl))) rfl), by decide +kernel, by decide⟩, (x_gin (List.mem_append_right _ (tb_7 _ (List.mem_of_getElem? (i := 206) rfl))) rfl), (x_gin (List.mem_append_left _ (List.mem_of_getElem? (i := 88) rfl)) rfl)⟩
set_option maxRecDepth 100000 in
theorem v_yX11_shares : x_YV yX11_shares cX11_shares 7 none 0 := ⟨⟨(x_gin (List.mem_append_right _ (tb_7 _ (List.mem_of_getElem? (i := 211) rfl))) rfl), (x_gin (List.mem_append_right _ (tb_1 _ (List.mem_of_getElem? (i := 11) rfl))) rfl), by decide +kernel, by decide⟩, (x_gin (List.mem_append_right _ (tb_7 _ (List.mem_of_getElem? (i := 210) rfl))) rfl), (x_gin (List.mem_append_left _ (List.mem_of_getElem? (i := 89) rfl)) rfl)⟩
set_option maxRecDepth 100000 in
theorem v_yX11_factorOf : x_YV yX11_factorOf cX11_factorOf 10 (some .long) 2 := ⟨⟨(x_gin (List.mem_append_right _ (tb_7 _ (List.mem_of_getElem? (i := 216) rfl))) rfl), (x_gin (List.mem_append_right _ (tb_1 _ (List.mem_of_getElem? (i := 11) rfl))) rfl), by decide +kernel, by decide⟩, (x_gin (List.mem_append_right _ (tb_7 _ (List.mem_of_getElem? (i := 215) rfl))) rfl), (x_gin (List.mem_append_left _ (List.mem_of_getElem? (i := 90) rfl)) rfl)⟩
set_option maxRecDepth 100000 in
theorem v_yX11_canBe : x_YV yX11_canBe cX11_canBe 7 (some .int) 3 := ⟨⟨(x_gin (List.mem_append_right _ (tb_7 _ (List.mem_of_getElem? (i := 220) rfl))) rfl), (x_gin (List.mem_append_right _ (tb_1 _ (List.mem_of_getElem? (i := 11) rfl))) rfl), by decide +kernel, by decide⟩, (x_gin (List.mem_append_right _ (tb_7 _ (List.mem_of_getElem? (i := 219) rfl))) rfl), (x_gin (List.mem_append_left _ (List.mem_of_getElem? (i := 91) rfl)) rfl)⟩
set_option maxRecDepth 100000 in
theorem v_yX11_springs : x_YV yX11_springs cX11_springs 3 (some .int) 2 := ⟨⟨(x_gin (List.mem_append_right _ (tb_7 _ (List.mem_of_getElem? (i := 227) rfl))) rfl), (x_gin (List.mem_append_right _ (tb_1 _ (List.mem_of_getElem? (i := 11) rfl))) rfl), by decide +kernel, by decide⟩, (x_gin (List.mem_append_right _ (tb_7 _ (List.mem_of_getElem? (i := 226) rfl))) rfl), (x_gin (List.mem_append_left _ (List.mem_of_getElem? (i := 92) rfl)) rfl)⟩
set_option maxRecDepth 100000 in
theorem v_yX11_oddsBy : x_YV yX11_oddsBy cX11_oddsBy 3 (some .int) 2 := ⟨⟨(x_gin (List.mem_append_right _ (tb_7 _ (List.mem_of_getElem? (i := 231) rfl))) rfl), (x_gin (List.mem_append_right _ (tb_1 _ (List.mem_of_getElem? (i := 11) rfl))) rfl), by decide +kernel, by decide⟩, (x_gin (List.mem_append_right _ (tb_7 _ (List.mem_of_getElem? (i := 229) rfl))) rfl), (x_gin (List.mem_append_right _ (tb_7 _ (List.mem_of_getElem? (i := 230) rfl))) rfl)⟩
set_option maxRecDepth 100000 in
theorem v_yX11_factor : x_YV yX11_factor cX11_factor 3 (some .long) 2 := ⟨⟨(x_gin (List.mem_append_right _ (tb_7 _ (List.mem_of_getElem? (i := 235) rfl))) rfl), (x_gin (List.mem_append_right _ (tb_1 _ (List.mem_of_getElem? (i := 11) rfl))) rfl), by decide +kernel, by decide⟩, (x_gin (List.mem_append_right _ (tb_7 _ (List.mem_of_getElem? (i := 233) rfl))) rfl), (x_gin (List.mem_append_right _ (tb_7 _ (List.mem_of_getElem? (i := 234) rfl))) rfl)⟩
set_option maxRecDepth 100000 in
theorem v_yX11_says : x_YV yX11_says cX11_says 7 (some .long) 1 := ⟨⟨(x_gin (List.mem_append_right _ (tb_7 _ (List.mem_of_getElem? (i := 239) rfl))) rfl), (x_gin (List.mem_append_right _ (tb_1 _ (List.mem_of_getElem? (i := 11) rfl))) rfl), by decide +kernel, by decide⟩, (x_gin (List.mem_append_right _ (tb_7 _ (List.mem_of_getElem? (i := 237) rfl))) rfl), (x_gin (List.mem_append_right _ (tb_7 _ (List.mem_of_getElem? (i := 238) rfl))) rfl)⟩
set_option maxRecDepth 100000 in
theorem v_yX11_with : x_YV yX11_with cX11_with 9 (some .int) 2 := ⟨⟨(x_gin (List.mem_append_right _ (tb_8 _ (List.mem_of_getElem? (i := 4) rfl))) rfl), (x_gin (List.mem_append_right _ (tb_1 _ (List.mem_of_getElem? (i := 11) rfl))) rfl), by decide +kernel, by decide⟩, (x_gin (List.mem_append_right _ (tb_8 _ (List.mem_of_getElem? (i := 2) rfl))) rfl), (x_gin (List.mem_append_right _ (tb_8 _ (List.mem_of_getElem? (i := 3) rfl))) rfl)⟩
set_option maxRecDepth 100000 in
theorem s_yX11_choices : x_YS yX11_choices cX11_choices 4 (some .int) 2 := ⟨⟨(x_gin (List.mem_append_right _ (tb_8 _ (List.mem_of_getElem? (i := 7) rfl))) rfl), (x_gin (List.mem_append_right _ (tb_1 _ (List.mem_of_getElem? (i := 11) rfl))) rfl), by decide +kernel, by decide⟩, (x_gin (List.mem_append_right _ (tb_8 _ (List.mem_of_getElem? (i := 6) rfl))) rfl)⟩
set_option maxRecDepth 100000 in
theorem v_yX11_knew : x_YV yX11_knew cX11_knew 2 none 1 := ⟨⟨(x_gin (List.mem_append_right _ (tb_8 _ (List.mem_of_getElem? (i := 11) rfl))) rfl), (x_gin (List.mem_append_right _ (tb_1 _ (List.mem_of_getElem? (i := 11) rfl))) rfl), by decide +kernel, by decide⟩, (x_gin (List.mem_append_right _ (tb_8 _ (List.mem_of_getElem? (i := 9) rfl))) rfl), (x_gin (List.mem_append_right _ (tb_8 _ (List.mem_of_getElem? (i := 10) rfl))) rfl)⟩
set_option maxRecDepth 100000 in
theorem v_yX11_told : x_YV yX11_told cX11_told 4 (some .int) 3 := ⟨⟨(x_gin (List.mem_append_right _ (tb_8 _ (List.mem_of_getElem? (i := 15) rfl))) rfl), (x_gin (List.mem_append_right _ (tb_1 _ (List.mem_of_getElem? (i := 11) rfl))) rfl), by decide +kernel, by decide⟩, (x_gin (List.mem_append_right _ (tb_8 _ (List.mem_of_getElem? (i := 13) rfl))) rfl), (x_gin (List.mem_append_right _ (tb_8 _ (List.mem_of_getElem? (i := 14) rfl))) rfl)⟩
set_option maxRecDepth 100000 in
theorem v_yX11_knows : x_YV yX11_knows cX11_knows 2 (some .int) 1 := ⟨⟨(x_gin (List.mem_append_right _ (tb_8 _ (List.mem_of_getElem? (i := 19) rfl))) rfl), (x_gin (List.mem_append_right _ (tb_1 _ (List.mem_of_getElem? (i := 11) rfl))) rfl), by decide +kernel, by decide⟩, (x_gin (List.mem_append_right _ (tb_8 _ (List.mem_of_getElem? (i := 17) rfl))) rfl), (x_gin (List.mem_append_right _ (tb_8 _ (List.mem_of_getElem? (i := 18) rfl))) rfl)⟩
set_option maxRecDepth 100000 in
theorem v_yX11_knowing : x_YV yX11_knowing cX11_knowing 9 (some .int) 3 := ⟨⟨(x_gin (List.mem_append_right _ (tb_8 _ (List.mem_of_getElem? (i := 23) rfl))) rfl), (x_gin (List.mem_append_right _ (tb_1 _ (List.mem_of_getElem? (i := 11) rfl))) rfl), by decide +kernel, by decide⟩, (x_gin (List.mem_append_right _ (tb_8 _ (List.mem_of_getElem? (i := 22) rfl))) rfl), (x_gin (List.mem_append_left _ (List.mem_of_getElem? (i := 93) rfl)) rfl)⟩
set_option maxRecDepth 100000 in
theorem v_yX11_whence : x_YV yX11_whence cX11_whence 7 (some .int) 2 := ⟨⟨(x_gin (List.mem_append_right _ (tb_8 _ (List.mem_of_getElem? (i := 27) rfl))) rfl), (x_gin (List.mem_append_right _ (tb_1 _ (List.mem_of_getElem? (i := 11) rfl))) rfl), by decide +kernel, by decide⟩, (x_gin (List.mem_append_right _ (tb_8 _ (List.mem_of_getElem? (i := 25) rfl))) rfl), (x_gin (List.mem_append_right _ (tb_8 _ (List.mem_of_getElem? (i := 26) rfl))) rfl)⟩
set_option maxRecDepth 100000 in
theorem v_yX11_knot : x_YV yX11_knot cX11_knot 6 (some .int) 4 := ⟨⟨(x_gin (List.mem_append_right _ (tb_8 _ (List.mem_of_getElem? (i := 31) rfl))) rfl), (x_gin (List.mem_append_right _ (tb_1 _ (List.mem_of_getElem? (i := 11) rfl))) rfl), by decide +kernel, by decide⟩, (x_gin (List.mem_append_right _ (tb_8 _ (List.mem_of_getElem? (i := 29) rfl))) rfl), (x_gin (List.mem_append_right _ (tb_8 _ (List.mem_of_getElem? (i := 30) rfl))) rfl)⟩
set_option maxRecDepth 100000 in
theorem v_yX11_rope : x_YV yX11_rope cX11_rope 2 none 1 := ⟨⟨(x_gin (List.mem_append_right _ (tb_8 _ (List.mem_of_getElem? (i := 35) rfl))) rfl), (x_gin (List.mem_append_right _ (tb_1 _ (List.mem_of_getElem? (i := 11) rfl))) rfl), by decide +kernel, by decide⟩, (x_gin (List.mem_append_right _ (tb_8 _ (List.mem_of_getElem? (i := 33) rfl))) rfl), (x_gin (List.mem_append_right _ (tb_8 _ (List.mem_of_getElem? (i := 34) rfl))) rfl)⟩
set_option maxRecDepth 100000 in
theorem v_yX11_out : x_YV yX11_out cX11_out 7 (some .int) 2 := ⟨⟨(x_gin (List.mem_append_right _ (tb_8 _ (List.mem_of_getElem? (i := 39) rfl))) rfl), (x_gin (List.mem_append_right _ (tb_1 _ (List.mem_of_getElem? (i := 11) rfl))) rfl), by decide +kernel, by decide⟩, (x_gin (List.mem_append_right _ (tb_8 _ (List.mem_of_getElem? (i := 37) rfl))) rfl), (x_gin (List.mem_append_right _ (tb_8 _ (List.mem_of_getElem? (i := 38) rfl))) rfl)⟩
set_option maxRecDepth 100000 in
theorem v_yX11_spreads : x_YV yX11_spreads cX11_spreads 7 none 1 := ⟨⟨(x_gin (List.mem_append_right _ (tb_8 _ (List.mem_of_getElem? (i := 43) rfl))) rfl), (x_gin (List.mem_append_right _ (tb_1 _ (List.mem_of_getElem? (i := 11) rfl))) rfl), by decide +kernel, by decide⟩, (x_gin (List.mem_append_right _ (tb_8 _ (List.mem_of_getElem? (i := 42) rfl))) rfl), (x_gin (List.mem_append_left _ (List.mem_of_getElem? (i := 94) rfl)) rfl)⟩
set_option maxRecDepth 100000 in
theorem v_yX11_canTurn : x_YV yX11_canTurn cX11_canTurn 5 (some .boolean) 2 := ⟨⟨(x_gin (List.mem_append_right _ (tb_8 _ (List.mem_of_getElem? (i := 48) rfl))) rfl), (x_gin (List.mem_append_right _ (tb_1 _ (List.mem_of_getElem? (i := 11) rfl))) rfl), by decide +kernel, by decide⟩, (x_gin (List.mem_append_right _ (tb_8 _ (List.mem_of_getElem? (i := 47) rfl))) rfl), (x_gin (List.mem_append_left _ (List.mem_of_getElem? (i := 95) rfl)) rfl)⟩
set_option maxRecDepth 100000 in
theorem v_yX11_leastTo : x_YV yX11_leastTo cX11_leastTo 4 (some .int) 1 := ⟨⟨(x_gin (List.mem_append_right _ (tb_8 _ (List.mem_of_getElem? (i := 53) rfl))) rfl), (x_gin (List.mem_append_right _ (tb_1 _ (List.mem_of_getElem? (i := 11) rfl))) rfl), by decide +kernel, by decide⟩, (x_gin (List.mem_append_right _ (tb_8 _ (List.mem_of_getElem? (i := 52) rfl))) rfl), (x_gin (List.mem_append_left _ (List.mem_of_getElem? (i := 96) rfl)) rfl)⟩
set_option maxRecDepth 100000 in
theorem v_yX11_first : x_YV yX11_first cX11_first 5 (some .int) 1 := ⟨⟨(x_gin (List.mem_append_right _ (tb_8 _ (List.mem_of_getElem? (i := 57) rfl))) rfl), (x_gin (List.mem_append_right _ (tb_1 _ (List.mem_of_getElem? (i := 11) rfl))) rfl), by decide +kernel, by decide⟩, (x_gin (List.mem_append_right _ (tb_8 _ (List.mem_of_getElem? (i := 55) rfl))) rfl), (x_gin (List.mem_append_right _ (tb_8 _ (List.mem_of_getElem? (i := 56) rfl))) rfl)⟩
set_option maxRecDepth 100000 in
theorem v_yX11_tale : x_YV yX11_tale cX11_tale 7 (some .int) 3 := ⟨⟨(x_gin (List.mem_append_right _ (tb_8 _ (List.mem_of_getElem? (i := 61) rfl))) rfl), (x_gin (List.mem_append_right _ (tb_1 _ (List.mem_of_getElem? (i := 11) rfl))) rfl), by decide +kernel, by decide⟩, (x_gin (List.mem_append_right _ (tb_8 _ (List.mem_of_getElem? (i := 59) rfl))) rfl), (x_gin (List.mem_append_right _ (tb_8 _ (List.mem_of_getElem? (i := 60) rfl))) rfl)⟩
set_option maxRecDepth 100000 in
theorem v_yX11_cold : x_YV yX11_cold cX11_cold 7 (some .int) 3 := ⟨⟨(x_gin (List.mem_append_right _ (tb_8 _ (List.mem_of_getElem? (i := 69) rfl))) rfl), (x_gin (List.mem_append_right _ (tb_1 _ (List.mem_of_getElem? (i := 11) rfl))) rfl), by decide +kernel, by decide⟩, (x_gin (List.mem_append_right _ (tb_8 _ (List.mem_of_getElem? (i := 67) rfl))) rfl), (x_gin (List.mem_append_right _ (tb_8 _ (List.mem_of_getElem? (i := 68) rfl))) rfl)⟩
set_option maxRecDepth 100000 in
theorem v_yX11_count : x_YV yX11_count cX11_count 2 (some .int) 1 := ⟨⟨(x_gin (List.mem_append_right _ (tb_8 _ (List.mem_of_getElem? (i := 74) rfl))) rfl), (x_gin (List.mem_append_right _ (tb_1 _ (List.mem_of_getElem? (i := 11) rfl))) rfl), by decide +kernel, by decide⟩, (x_gin (List.mem_append_right _ (tb_8 _ (List.mem_of_getElem? (i := 72) rfl))) rfl), (x_gin (List.mem_append_right _ (tb_8 _ (List.mem_of_getElem? (i := 73) rfl))) rfl)⟩
end
