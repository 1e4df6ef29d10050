section
-- ===== PART A: goes FIRST, ahead of the names: the tables' words, and 'selects' of the private methods out of them =====
/-- a private method of a class that the tables say can be made, by its rows of tables_1 -/
def lw_okq (q : MethodName × Nat) : Prop := (q.1.cls ≠ "java/lang/invoke/MethodHandle" ∧ q.1.cls ≠ "java/lang/invoke/VarHandle") ∧ Cond.instantiable q.1.cls q.2 ∈ tables_1 ∧ Cond.privateMethod q.1 ∈ tables_1 ∧ Cond.instanceMethod q.1 ∈ tables_1
theorem lw_p0 : lw_okq (⟨"java/lang/Throwable", "fillInStackTrace", "(I)Ljava/lang/Throwable;"⟩, 6) := ⟨⟨by decide +kernel, by decide +kernel⟩, List.mem_of_getElem? (i := 382) (by decide +kernel), List.mem_of_getElem? (i := 380) (by decide +kernel), List.mem_of_getElem? (i := 381) (by decide +kernel)⟩
theorem lw_p1 : lw_okq (⟨"ScholarsPress", "feedInt", "(I)V"⟩, 21) := ⟨⟨by decide +kernel, by decide +kernel⟩, List.mem_of_getElem? (i := 45) (by decide +kernel), List.mem_of_getElem? (i := 408) (by decide +kernel), List.mem_of_getElem? (i := 409) (by decide +kernel)⟩
theorem lw_p2 : lw_okq (⟨"ScholarsPress", "takeTape", "()I"⟩, 21) := ⟨⟨by decide +kernel, by decide +kernel⟩, List.mem_of_getElem? (i := 45) (by decide +kernel), List.mem_of_getElem? (i := 443) (by decide +kernel), List.mem_of_getElem? (i := 444) (by decide +kernel)⟩
theorem lw_p3 : lw_okq (⟨"ScholarsPress$Font", "readRule", "(LScholarsPress$Signs;)Z"⟩, 8) := ⟨⟨by decide +kernel, by decide +kernel⟩, List.mem_of_getElem? (i := 172) (by decide +kernel), List.mem_of_getElem? (i := 466) (by decide +kernel), List.mem_of_getElem? (i := 467) (by decide +kernel)⟩
theorem lw_p4 : lw_okq (⟨"ScholarsPress$Font", "pairFor", "(III)I"⟩, 8) := ⟨⟨by decide +kernel, by decide +kernel⟩, List.mem_of_getElem? (i := 172) (by decide +kernel), List.mem_of_getElem? (i := 527) (by decide +kernel), List.mem_of_getElem? (i := 528) (by decide +kernel)⟩
theorem lw_p5 : lw_okq (⟨"ScholarsPress$Font", "slotOf", "(I)I"⟩, 8) := ⟨⟨by decide +kernel, by decide +kernel⟩, List.mem_of_getElem? (i := 172) (by decide +kernel), List.mem_of_getElem? (i := 534) (by decide +kernel), List.mem_of_getElem? (i := 535) (by decide +kernel)⟩
theorem lw_p6 : lw_okq (⟨"ScholarsPress$Font", "tellWidth", "(II)V"⟩, 8) := ⟨⟨by decide +kernel, by decide +kernel⟩, List.mem_of_getElem? (i := 172) (by decide +kernel), List.mem_of_getElem? (i := 542) (by decide +kernel), List.mem_of_getElem? (i := 543) (by decide +kernel)⟩
theorem lw_p7 : lw_okq (⟨"ScholarsPress$Hyphens", "readWord", "([BI)Z"⟩, 14) := ⟨⟨by decide +kernel, by decide +kernel⟩, List.mem_of_getElem? (i := 209) (by decide +kernel), List.mem_of_getElem? (i := 576) (by decide +kernel), List.mem_of_getElem? (i := 577) (by decide +kernel)⟩
theorem lw_p8 : lw_okq (⟨"ScholarsPress$Hyphens", "readEnds", "([BI)Z"⟩, 14) := ⟨⟨by decide +kernel, by decide +kernel⟩, List.mem_of_getElem? (i := 209) (by decide +kernel), List.mem_of_getElem? (i := 580) (by decide +kernel), List.mem_of_getElem? (i := 581) (by decide +kernel)⟩
theorem lw_p9 : lw_okq (⟨"ScholarsPress$Hyphens", "readException", "([BI)Z"⟩, 14) := ⟨⟨by decide +kernel, by decide +kernel⟩, List.mem_of_getElem? (i := 209) (by decide +kernel), List.mem_of_getElem? (i := 584) (by decide +kernel), List.mem_of_getElem? (i := 585) (by decide +kernel)⟩
theorem lw_p10 : lw_okq (⟨"ScholarsPress$Hyphens", "keepException", "(II)Z"⟩, 14) := ⟨⟨by decide +kernel, by decide +kernel⟩, List.mem_of_getElem? (i := 209) (by decide +kernel), List.mem_of_getElem? (i := 591) (by decide +kernel), List.mem_of_getElem? (i := 592) (by decide +kernel)⟩
theorem lw_p11 : lw_okq (⟨"ScholarsPress$Hyphens", "exceptionLike", "([BII)I"⟩, 14) := ⟨⟨by decide +kernel, by decide +kernel⟩, List.mem_of_getElem? (i := 209) (by decide +kernel), List.mem_of_getElem? (i := 595) (by decide +kernel), List.mem_of_getElem? (i := 596) (by decide +kernel)⟩
theorem lw_p12 : lw_okq (⟨"ScholarsPress$Hyphens", "readPattern", "([BI)Z"⟩, 14) := ⟨⟨by decide +kernel, by decide +kernel⟩, List.mem_of_getElem? (i := 209) (by decide +kernel), List.mem_of_getElem? (i := 602) (by decide +kernel), List.mem_of_getElem? (i := 603) (by decide +kernel)⟩
theorem lw_p13 : lw_okq (⟨"ScholarsPress$Hyphens", "keepPattern", "(I)Z"⟩, 14) := ⟨⟨by decide +kernel, by decide +kernel⟩, List.mem_of_getElem? (i := 209) (by decide +kernel), List.mem_of_getElem? (i := 865) (by decide +kernel), List.mem_of_getElem? (i := 866) (by decide +kernel)⟩
theorem lw_p14 : lw_okq (⟨"ScholarsPress$Style", "readRule", "(LScholarsPress$Signs;)Z"⟩, 15) := ⟨⟨by decide +kernel, by decide +kernel⟩, List.mem_of_getElem? (i := 101) (by decide +kernel), List.mem_of_getElem? (i := 882) (by decide +kernel), List.mem_of_getElem? (i := 883) (by decide +kernel)⟩
theorem lw_p15 : lw_okq (⟨"ScholarsPress$Style", "readBody", "(LScholarsPress$Signs;Z)Z"⟩, 15) := ⟨⟨by decide +kernel, by decide +kernel⟩, List.mem_of_getElem? (i := 101) (by decide +kernel), List.mem_of_getElem? (i := 889) (by decide +kernel), List.mem_of_getElem? (i := 890) (by decide +kernel)⟩
def lw_privs_1 : List (MethodName × Nat) := [(⟨"java/lang/Throwable", "fillInStackTrace", "(I)Ljava/lang/Throwable;"⟩, 6), (⟨"ScholarsPress", "feedInt", "(I)V"⟩, 21), (⟨"ScholarsPress", "takeTape", "()I"⟩, 21), (⟨"ScholarsPress$Font", "readRule", "(LScholarsPress$Signs;)Z"⟩, 8), (⟨"ScholarsPress$Font", "pairFor", "(III)I"⟩, 8), (⟨"ScholarsPress$Font", "slotOf", "(I)I"⟩, 8), (⟨"ScholarsPress$Font", "tellWidth", "(II)V"⟩, 8), (⟨"ScholarsPress$Hyphens", "readWord", "([BI)Z"⟩, 14), (⟨"ScholarsPress$Hyphens", "readEnds", "([BI)Z"⟩, 14), (⟨"ScholarsPress$Hyphens", "readException", "([BI)Z"⟩, 14), (⟨"ScholarsPress$Hyphens", "keepException", "(II)Z"⟩, 14), (⟨"ScholarsPress$Hyphens", "exceptionLike", "([BII)I"⟩, 14), (⟨"ScholarsPress$Hyphens", "readPattern", "([BI)Z"⟩, 14), (⟨"ScholarsPress$Hyphens", "keepPattern", "(I)Z"⟩, 14), (⟨"ScholarsPress$Style", "readRule", "(LScholarsPress$Signs;)Z"⟩, 15), (⟨"ScholarsPress$Style", "readBody", "(LScholarsPress$Signs;Z)Z"⟩, 15)]
theorem lw_r1 : ∀ q ∈ lw_privs_1, lw_okq q := List.forall_mem_cons.mpr ⟨lw_p0, List.forall_mem_cons.mpr ⟨lw_p1, List.forall_mem_cons.mpr ⟨lw_p2, List.forall_mem_cons.mpr ⟨lw_p3, List.forall_mem_cons.mpr ⟨lw_p4, List.forall_mem_cons.mpr ⟨lw_p5, List.forall_mem_cons.mpr ⟨lw_p6, List.forall_mem_cons.mpr ⟨lw_p7, List.forall_mem_cons.mpr ⟨lw_p8, List.forall_mem_cons.mpr ⟨lw_p9, List.forall_mem_cons.mpr ⟨lw_p10, List.forall_mem_cons.mpr ⟨lw_p11, List.forall_mem_cons.mpr ⟨lw_p12, List.forall_mem_cons.mpr ⟨lw_p13, List.forall_mem_cons.mpr ⟨lw_p14, List.forall_mem_cons.mpr ⟨lw_p15, fun _ h => absurd h List.not_mem_nil⟩⟩⟩⟩⟩⟩⟩⟩⟩⟩⟩⟩⟩⟩⟩⟩
theorem lw_p16 : lw_okq (⟨"ScholarsPress$Style", "readPageValue", "(LScholarsPress$Signs;)Z"⟩, 15) := ⟨⟨by decide +kernel, by decide +kernel⟩, List.mem_of_getElem? (i := 101) (by decide +kernel), List.mem_of_getElem? (i := 897) (by decide +kernel), List.mem_of_getElem? (i := 898) (by decide +kernel)⟩
theorem lw_p17 : lw_okq (⟨"ScholarsPress$Style", "readProperty", "(LScholarsPress$Signs;)Z"⟩, 15) := ⟨⟨by decide +kernel, by decide +kernel⟩, List.mem_of_getElem? (i := 101) (by decide +kernel), List.mem_of_getElem? (i := 907) (by decide +kernel), List.mem_of_getElem? (i := 908) (by decide +kernel)⟩
theorem lw_p18 : lw_okq (⟨"ScholarsPress$Style", "readSize", "(LScholarsPress$Signs;)Z"⟩, 15) := ⟨⟨by decide +kernel, by decide +kernel⟩, List.mem_of_getElem? (i := 101) (by decide +kernel), List.mem_of_getElem? (i := 914) (by decide +kernel), List.mem_of_getElem? (i := 915) (by decide +kernel)⟩
theorem lw_p19 : lw_okq (⟨"ScholarsPress$Style", "readLabel", "(LScholarsPress$Signs;)Z"⟩, 15) := ⟨⟨by decide +kernel, by decide +kernel⟩, List.mem_of_getElem? (i := 101) (by decide +kernel), List.mem_of_getElem? (i := 922) (by decide +kernel), List.mem_of_getElem? (i := 923) (by decide +kernel)⟩
theorem lw_p20 : lw_okq (⟨"ScholarsPress$Style", "counterOf", "(J)I"⟩, 15) := ⟨⟨by decide +kernel, by decide +kernel⟩, List.mem_of_getElem? (i := 101) (by decide +kernel), List.mem_of_getElem? (i := 930) (by decide +kernel), List.mem_of_getElem? (i := 931) (by decide +kernel)⟩
theorem lw_p21 : lw_okq (⟨"ScholarsPress$Style", "readSelector", "(LScholarsPress$Signs;)Z"⟩, 15) := ⟨⟨by decide +kernel, by decide +kernel⟩, List.mem_of_getElem? (i := 101) (by decide +kernel), List.mem_of_getElem? (i := 941) (by decide +kernel), List.mem_of_getElem? (i := 942) (by decide +kernel)⟩
theorem lw_p22 : lw_okq (⟨"ScholarsPress$Style", "readStep", "(LScholarsPress$Signs;IC)Z"⟩, 15) := ⟨⟨by decide +kernel, by decide +kernel⟩, List.mem_of_getElem? (i := 101) (by decide +kernel), List.mem_of_getElem? (i := 945) (by decide +kernel), List.mem_of_getElem? (i := 946) (by decide +kernel)⟩
theorem lw_p23 : lw_okq (⟨"ScholarsPress$Style", "readBracket", "(LScholarsPress$Signs;)Z"⟩, 15) := ⟨⟨by decide +kernel, by decide +kernel⟩, List.mem_of_getElem? (i := 101) (by decide +kernel), List.mem_of_getElem? (i := 949) (by decide +kernel), List.mem_of_getElem? (i := 950) (by decide +kernel)⟩
theorem lw_p24 : lw_okq (⟨"ScholarsPress$Style", "readColon", "(LScholarsPress$Signs;)Z"⟩, 15) := ⟨⟨by decide +kernel, by decide +kernel⟩, List.mem_of_getElem? (i := 101) (by decide +kernel), List.mem_of_getElem? (i := 953) (by decide +kernel), List.mem_of_getElem? (i := 954) (by decide +kernel)⟩
theorem lw_p25 : lw_okq (⟨"ScholarsPress", "makeSpareSource", "()V"⟩, 21) := ⟨⟨by decide +kernel, by decide +kernel⟩, List.mem_of_getElem? (i := 45) (by decide +kernel), List.mem_of_getElem? (i := 965) (by decide +kernel), List.mem_of_getElem? (i := 966) (by decide +kernel)⟩
theorem lw_p26 : lw_okq (⟨"ScholarsPress", "takeSource", "(I)Z"⟩, 21) := ⟨⟨by decide +kernel, by decide +kernel⟩, List.mem_of_getElem? (i := 45) (by decide +kernel), List.mem_of_getElem? (i := 1057) (by decide +kernel), List.mem_of_getElem? (i := 1058) (by decide +kernel)⟩
theorem lw_p27 : lw_okq (⟨"ScholarsPress$Source", "readMark", "()Z"⟩, 20) := ⟨⟨by decide +kernel, by decide +kernel⟩, List.mem_of_getElem? (i := 969) (by decide +kernel), List.mem_of_getElem? (i := 1065) (by decide +kernel), List.mem_of_getElem? (i := 1066) (by decide +kernel)⟩
theorem lw_p28 : lw_okq (⟨"ScholarsPress$Source", "readComment", "()Z"⟩, 20) := ⟨⟨by decide +kernel, by decide +kernel⟩, List.mem_of_getElem? (i := 969) (by decide +kernel), List.mem_of_getElem? (i := 1069) (by decide +kernel), List.mem_of_getElem? (i := 1070) (by decide +kernel)⟩
theorem lw_p29 : lw_okq (⟨"ScholarsPress$Source", "readDefinition", "()Z"⟩, 20) := ⟨⟨by decide +kernel, by decide +kernel⟩, List.mem_of_getElem? (i := 969) (by decide +kernel), List.mem_of_getElem? (i := 1073) (by decide +kernel), List.mem_of_getElem? (i := 1074) (by decide +kernel)⟩
theorem lw_p30 : lw_okq (⟨"ScholarsPress$Source", "readName", "()Z"⟩, 20) := ⟨⟨by decide +kernel, by decide +kernel⟩, List.mem_of_getElem? (i := 969) (by decide +kernel), List.mem_of_getElem? (i := 1077) (by decide +kernel), List.mem_of_getElem? (i := 1078) (by decide +kernel)⟩
theorem lw_p31 : lw_okq (⟨"ScholarsPress$Source", "entityNamed", "()I"⟩, 20) := ⟨⟨by decide +kernel, by decide +kernel⟩, List.mem_of_getElem? (i := 969) (by decide +kernel), List.mem_of_getElem? (i := 1086) (by decide +kernel), List.mem_of_getElem? (i := 1087) (by decide +kernel)⟩
def lw_privs_2 : List (MethodName × Nat) := [(⟨"ScholarsPress$Style", "readPageValue", "(LScholarsPress$Signs;)Z"⟩, 15), (⟨"ScholarsPress$Style", "readProperty", "(LScholarsPress$Signs;)Z"⟩, 15), (⟨"ScholarsPress$Style", "readSize", "(LScholarsPress$Signs;)Z"⟩, 15), (⟨"ScholarsPress$Style", "readLabel", "(LScholarsPress$Signs;)Z"⟩, 15), (⟨"ScholarsPress$Style", "counterOf", "(J)I"⟩, 15), (⟨"ScholarsPress$Style", "readSelector", "(LScholarsPress$Signs;)Z"⟩, 15), (⟨"ScholarsPress$Style", "readStep", "(LScholarsPress$Signs;IC)Z"⟩, 15), (⟨"ScholarsPress$Style", "readBracket", "(LScholarsPress$Signs;)Z"⟩, 15), (⟨"ScholarsPress$Style", "readColon", "(LScholarsPress$Signs;)Z"⟩, 15), (⟨"ScholarsPress", "makeSpareSource", "()V"⟩, 21), (⟨"ScholarsPress", "takeSource", "(I)Z"⟩, 21), (⟨"ScholarsPress$Source", "readMark", "()Z"⟩, 20), (⟨"ScholarsPress$Source", "readComment", "()Z"⟩, 20), (⟨"ScholarsPress$Source", "readDefinition", "()Z"⟩, 20), (⟨"ScholarsPress$Source", "readName", "()Z"⟩, 20), (⟨"ScholarsPress$Source", "entityNamed", "()I"⟩, 20)]
theorem lw_r2 : ∀ q ∈ lw_privs_2, lw_okq q := List.forall_mem_cons.mpr ⟨lw_p16, List.forall_mem_cons.mpr ⟨lw_p17, List.forall_mem_cons.mpr ⟨lw_p18, List.forall_mem_cons.mpr ⟨lw_p19, List.forall_mem_cons.mpr ⟨lw_p20, List.forall_mem_cons.mpr ⟨lw_p21, List.forall_mem_cons.mpr ⟨lw_p22, List.forall_mem_cons.mpr ⟨lw_p23, List.forall_mem_cons.mpr ⟨lw_p24, List.forall_mem_cons.mpr ⟨lw_p25, List.forall_mem_cons.mpr ⟨lw_p26, List.forall_mem_cons.mpr ⟨lw_p27, List.forall_mem_cons.mpr ⟨lw_p28, List.forall_mem_cons.mpr ⟨lw_p29, List.forall_mem_cons.mpr ⟨lw_p30, List.forall_mem_cons.mpr ⟨lw_p31, fun _ h => absurd h List.not_mem_nil⟩⟩⟩⟩⟩⟩⟩⟩⟩⟩⟩⟩⟩⟩⟩⟩
theorem lw_p32 : lw_okq (⟨"ScholarsPress$Source", "skipBlanks", "()Z"⟩, 20) := ⟨⟨by decide +kernel, by decide +kernel⟩, List.mem_of_getElem? (i := 969) (by decide +kernel), List.mem_of_getElem? (i := 1090) (by decide +kernel), List.mem_of_getElem? (i := 1091) (by decide +kernel)⟩
theorem lw_p33 : lw_okq (⟨"ScholarsPress$Source", "readString", "()Z"⟩, 20) := ⟨⟨by decide +kernel, by decide +kernel⟩, List.mem_of_getElem? (i := 969) (by decide +kernel), List.mem_of_getElem? (i := 1095) (by decide +kernel), List.mem_of_getElem? (i := 1096) (by decide +kernel)⟩
theorem lw_p34 : lw_okq (⟨"ScholarsPress$Source", "readCloser", "()Z"⟩, 20) := ⟨⟨by decide +kernel, by decide +kernel⟩, List.mem_of_getElem? (i := 969) (by decide +kernel), List.mem_of_getElem? (i := 1100) (by decide +kernel), List.mem_of_getElem? (i := 1101) (by decide +kernel)⟩
theorem lw_p35 : lw_okq (⟨"ScholarsPress$Source", "readEnd", "()Z"⟩, 20) := ⟨⟨by decide +kernel, by decide +kernel⟩, List.mem_of_getElem? (i := 969) (by decide +kernel), List.mem_of_getElem? (i := 1104) (by decide +kernel), List.mem_of_getElem? (i := 1105) (by decide +kernel)⟩
theorem lw_p36 : lw_okq (⟨"ScholarsPress$Source", "closeElement", "(I)Z"⟩, 20) := ⟨⟨by decide +kernel, by decide +kernel⟩, List.mem_of_getElem? (i := 969) (by decide +kernel), List.mem_of_getElem? (i := 1108) (by decide +kernel), List.mem_of_getElem? (i := 1109) (by decide +kernel)⟩
theorem lw_p37 : lw_okq (⟨"ScholarsPress$Source", "readElement", "()Z"⟩, 20) := ⟨⟨by decide +kernel, by decide +kernel⟩, List.mem_of_getElem? (i := 969) (by decide +kernel), List.mem_of_getElem? (i := 1116) (by decide +kernel), List.mem_of_getElem? (i := 1117) (by decide +kernel)⟩
theorem lw_p38 : lw_okq (⟨"ScholarsPress$Source", "addElement", "(I)I"⟩, 20) := ⟨⟨by decide +kernel, by decide +kernel⟩, List.mem_of_getElem? (i := 969) (by decide +kernel), List.mem_of_getElem? (i := 1120) (by decide +kernel), List.mem_of_getElem? (i := 1121) (by decide +kernel)⟩
theorem lw_p39 : lw_okq (⟨"ScholarsPress$Source", "readField", "(I)Z"⟩, 20) := ⟨⟨by decide +kernel, by decide +kernel⟩, List.mem_of_getElem? (i := 969) (by decide +kernel), List.mem_of_getElem? (i := 1124) (by decide +kernel), List.mem_of_getElem? (i := 1125) (by decide +kernel)⟩
theorem lw_p40 : lw_okq (⟨"ScholarsPress$Source", "readEntity", "()Z"⟩, 20) := ⟨⟨by decide +kernel, by decide +kernel⟩, List.mem_of_getElem? (i := 969) (by decide +kernel), List.mem_of_getElem? (i := 1132) (by decide +kernel), List.mem_of_getElem? (i := 1133) (by decide +kernel)⟩
theorem lw_p41 : lw_okq (⟨"ScholarsPress$Source", "pushText", "(I)V"⟩, 20) := ⟨⟨by decide +kernel, by decide +kernel⟩, List.mem_of_getElem? (i := 969) (by decide +kernel), List.mem_of_getElem? (i := 1136) (by decide +kernel), List.mem_of_getElem? (i := 1137) (by decide +kernel)⟩
theorem lw_p42 : lw_okq (⟨"ScholarsPress", "freshenLooks", "()V"⟩, 21) := ⟨⟨by decide +kernel, by decide +kernel⟩, List.mem_of_getElem? (i := 45) (by decide +kernel), List.mem_of_getElem? (i := 1177) (by decide +kernel), List.mem_of_getElem? (i := 1178) (by decide +kernel)⟩
theorem lw_p43 : lw_okq (⟨"ScholarsPress$Looks", "fitSelector", "(I)V"⟩, 15) := ⟨⟨by decide +kernel, by decide +kernel⟩, List.mem_of_getElem? (i := 1181) (by decide +kernel), List.mem_of_getElem? (i := 1251) (by decide +kernel), List.mem_of_getElem? (i := 1252) (by decide +kernel)⟩
theorem lw_p44 : lw_okq (⟨"ScholarsPress$Looks", "stepFits", "(II)Z"⟩, 15) := ⟨⟨by decide +kernel, by decide +kernel⟩, List.mem_of_getElem? (i := 1181) (by decide +kernel), List.mem_of_getElem? (i := 1256) (by decide +kernel), List.mem_of_getElem? (i := 1257) (by decide +kernel)⟩
theorem lw_p45 : lw_okq (⟨"ScholarsPress$Looks", "conditionFits", "(II)Z"⟩, 15) := ⟨⟨by decide +kernel, by decide +kernel⟩, List.mem_of_getElem? (i := 1181) (by decide +kernel), List.mem_of_getElem? (i := 1260) (by decide +kernel), List.mem_of_getElem? (i := 1261) (by decide +kernel)⟩
theorem lw_p46 : lw_okq (⟨"ScholarsPress$Looks", "tellBody", "(I)V"⟩, 15) := ⟨⟨by decide +kernel, by decide +kernel⟩, List.mem_of_getElem? (i := 1181) (by decide +kernel), List.mem_of_getElem? (i := 1273) (by decide +kernel), List.mem_of_getElem? (i := 1274) (by decide +kernel)⟩
theorem lw_p47 : lw_okq (⟨"ScholarsPress$Looks", "inherit", "()V"⟩, 15) := ⟨⟨by decide +kernel, by decide +kernel⟩, List.mem_of_getElem? (i := 1181) (by decide +kernel), List.mem_of_getElem? (i := 1277) (by decide +kernel), List.mem_of_getElem? (i := 1278) (by decide +kernel)⟩
def lw_privs_3 : List (MethodName × Nat) := [(⟨"ScholarsPress$Source", "skipBlanks", "()Z"⟩, 20), (⟨"ScholarsPress$Source", "readString", "()Z"⟩, 20), (⟨"ScholarsPress$Source", "readCloser", "()Z"⟩, 20), (⟨"ScholarsPress$Source", "readEnd", "()Z"⟩, 20), (⟨"ScholarsPress$Source", "closeElement", "(I)Z"⟩, 20), (⟨"ScholarsPress$Source", "readElement", "()Z"⟩, 20), (⟨"ScholarsPress$Source", "addElement", "(I)I"⟩, 20), (⟨"ScholarsPress$Source", "readField", "(I)Z"⟩, 20), (⟨"ScholarsPress$Source", "readEntity", "()Z"⟩, 20), (⟨"ScholarsPress$Source", "pushText", "(I)V"⟩, 20), (⟨"ScholarsPress", "freshenLooks", "()V"⟩, 21), (⟨"ScholarsPress$Looks", "fitSelector", "(I)V"⟩, 15), (⟨"ScholarsPress$Looks", "stepFits", "(II)Z"⟩, 15), (⟨"ScholarsPress$Looks", "conditionFits", "(II)Z"⟩, 15), (⟨"ScholarsPress$Looks", "tellBody", "(I)V"⟩, 15), (⟨"ScholarsPress$Looks", "inherit", "()V"⟩, 15)]
theorem lw_r3 : ∀ q ∈ lw_privs_3, lw_okq q := List.forall_mem_cons.mpr ⟨lw_p32, List.forall_mem_cons.mpr ⟨lw_p33, List.forall_mem_cons.mpr ⟨lw_p34, List.forall_mem_cons.mpr ⟨lw_p35, List.forall_mem_cons.mpr ⟨lw_p36, List.forall_mem_cons.mpr ⟨lw_p37, List.forall_mem_cons.mpr ⟨lw_p38, List.forall_mem_cons.mpr ⟨lw_p39, List.forall_mem_cons.mpr ⟨lw_p40, List.forall_mem_cons.mpr ⟨lw_p41, List.forall_mem_cons.mpr ⟨lw_p42, List.forall_mem_cons.mpr ⟨lw_p43, List.forall_mem_cons.mpr ⟨lw_p44, List.forall_mem_cons.mpr ⟨lw_p45, List.forall_mem_cons.mpr ⟨lw_p46, List.forall_mem_cons.mpr ⟨lw_p47, fun _ h => absurd h List.not_mem_nil⟩⟩⟩⟩⟩⟩⟩⟩⟩⟩⟩⟩⟩⟩⟩⟩
theorem lw_p48 : lw_okq (⟨"ScholarsPress$Looks", "castPart", "(I)V"⟩, 15) := ⟨⟨by decide +kernel, by decide +kernel⟩, List.mem_of_getElem? (i := 1181) (by decide +kernel), List.mem_of_getElem? (i := 1293) (by decide +kernel), List.mem_of_getElem? (i := 1294) (by decide +kernel)⟩
theorem lw_p49 : lw_okq (⟨"ScholarsPress$Looks", "countValues", "()V"⟩, 15) := ⟨⟨by decide +kernel, by decide +kernel⟩, List.mem_of_getElem? (i := 1181) (by decide +kernel), List.mem_of_getElem? (i := 1311) (by decide +kernel), List.mem_of_getElem? (i := 1312) (by decide +kernel)⟩
theorem lw_p50 : lw_okq (⟨"ScholarsPress$Looks", "makeTitle", "(I)V"⟩, 15) := ⟨⟨by decide +kernel, by decide +kernel⟩, List.mem_of_getElem? (i := 1181) (by decide +kernel), List.mem_of_getElem? (i := 1316) (by decide +kernel), List.mem_of_getElem? (i := 1317) (by decide +kernel)⟩
theorem lw_p51 : lw_okq (⟨"ScholarsPress$Looks", "addLabel", "(II)V"⟩, 15) := ⟨⟨by decide +kernel, by decide +kernel⟩, List.mem_of_getElem? (i := 1181) (by decide +kernel), List.mem_of_getElem? (i := 1320) (by decide +kernel), List.mem_of_getElem? (i := 1321) (by decide +kernel)⟩
theorem lw_p52 : lw_okq (⟨"ScholarsPress$Looks", "addToTitle", "(II)V"⟩, 15) := ⟨⟨by decide +kernel, by decide +kernel⟩, List.mem_of_getElem? (i := 1181) (by decide +kernel), List.mem_of_getElem? (i := 1338) (by decide +kernel), List.mem_of_getElem? (i := 1339) (by decide +kernel)⟩
theorem lw_p53 : lw_okq (⟨"ScholarsPress$Looks", "addCode", "(II)V"⟩, 15) := ⟨⟨by decide +kernel, by decide +kernel⟩, List.mem_of_getElem? (i := 1181) (by decide +kernel), List.mem_of_getElem? (i := 1343) (by decide +kernel), List.mem_of_getElem? (i := 1344) (by decide +kernel)⟩
theorem lw_p54 : lw_okq (⟨"ScholarsPress$Looks", "findTarget", "(I)V"⟩, 15) := ⟨⟨by decide +kernel, by decide +kernel⟩, List.mem_of_getElem? (i := 1181) (by decide +kernel), List.mem_of_getElem? (i := 1351) (by decide +kernel), List.mem_of_getElem? (i := 1352) (by decide +kernel)⟩
theorem lw_p55 : lw_okq (⟨"ScholarsPress$Looks", "elementWithId", "(II)I"⟩, 15) := ⟨⟨by decide +kernel, by decide +kernel⟩, List.mem_of_getElem? (i := 1181) (by decide +kernel), List.mem_of_getElem? (i := 1358) (by decide +kernel), List.mem_of_getElem? (i := 1359) (by decide +kernel)⟩
theorem lw_p56 : lw_okq (⟨"ScholarsPress$Looks", "findEntries", "()V"⟩, 15) := ⟨⟨by decide +kernel, by decide +kernel⟩, List.mem_of_getElem? (i := 1181) (by decide +kernel), List.mem_of_getElem? (i := 1369) (by decide +kernel), List.mem_of_getElem? (i := 1370) (by decide +kernel)⟩
theorem lw_p57 : lw_okq (⟨"ScholarsPress$Looks", "addEntry", "(I)V"⟩, 15) := ⟨⟨by decide +kernel, by decide +kernel⟩, List.mem_of_getElem? (i := 1181) (by decide +kernel), List.mem_of_getElem? (i := 1378) (by decide +kernel), List.mem_of_getElem? (i := 1379) (by decide +kernel)⟩
theorem lw_p58 : lw_okq (⟨"ScholarsPress$Looks", "compareEntries", "(II)I"⟩, 15) := ⟨⟨by decide +kernel, by decide +kernel⟩, List.mem_of_getElem? (i := 1181) (by decide +kernel), List.mem_of_getElem? (i := 1382) (by decide +kernel), List.mem_of_getElem? (i := 1383) (by decide +kernel)⟩
theorem lw_p59 : lw_okq (⟨"ScholarsPress", "makeReady", "()V"⟩, 21) := ⟨⟨by decide +kernel, by decide +kernel⟩, List.mem_of_getElem? (i := 45) (by decide +kernel), List.mem_of_getElem? (i := 1395) (by decide +kernel), List.mem_of_getElem? (i := 1396) (by decide +kernel)⟩
theorem lw_p60 : lw_okq (⟨"ScholarsPress", "playRound", "()I"⟩, 21) := ⟨⟨by decide +kernel, by decide +kernel⟩, List.mem_of_getElem? (i := 45) (by decide +kernel), List.mem_of_getElem? (i := 1755) (by decide +kernel), List.mem_of_getElem? (i := 1756) (by decide +kernel)⟩
theorem lw_p61 : lw_okq (⟨"ScholarsPress$Writer", "moveTo", "(I)V"⟩, 17) := ⟨⟨by decide +kernel, by decide +kernel⟩, List.mem_of_getElem? (i := 1399) (by decide +kernel), List.mem_of_getElem? (i := 1771) (by decide +kernel), List.mem_of_getElem? (i := 1772) (by decide +kernel)⟩
theorem lw_p62 : lw_okq (⟨"ScholarsPress$Writer", "walk", "(II)V"⟩, 17) := ⟨⟨by decide +kernel, by decide +kernel⟩, List.mem_of_getElem? (i := 1399) (by decide +kernel), List.mem_of_getElem? (i := 1777) (by decide +kernel), List.mem_of_getElem? (i := 1778) (by decide +kernel)⟩
theorem lw_p63 : lw_okq (⟨"ScholarsPress$Writer", "leave", "(I)V"⟩, 17) := ⟨⟨by decide +kernel, by decide +kernel⟩, List.mem_of_getElem? (i := 1399) (by decide +kernel), List.mem_of_getElem? (i := 1781) (by decide +kernel), List.mem_of_getElem? (i := 1782) (by decide +kernel)⟩
def lw_privs_4 : List (MethodName × Nat) := [(⟨"ScholarsPress$Looks", "castPart", "(I)V"⟩, 15), (⟨"ScholarsPress$Looks", "countValues", "()V"⟩, 15), (⟨"ScholarsPress$Looks", "makeTitle", "(I)V"⟩, 15), (⟨"ScholarsPress$Looks", "addLabel", "(II)V"⟩, 15), (⟨"ScholarsPress$Looks", "addToTitle", "(II)V"⟩, 15), (⟨"ScholarsPress$Looks", "addCode", "(II)V"⟩, 15), (⟨"ScholarsPress$Looks", "findTarget", "(I)V"⟩, 15), (⟨"ScholarsPress$Looks", "elementWithId", "(II)I"⟩, 15), (⟨"ScholarsPress$Looks", "findEntries", "()V"⟩, 15), (⟨"ScholarsPress$Looks", "addEntry", "(I)V"⟩, 15), (⟨"ScholarsPress$Looks", "compareEntries", "(II)I"⟩, 15), (⟨"ScholarsPress", "makeReady", "()V"⟩, 21), (⟨"ScholarsPress", "playRound", "()I"⟩, 21), (⟨"ScholarsPress$Writer", "moveTo", "(I)V"⟩, 17), (⟨"ScholarsPress$Writer", "walk", "(II)V"⟩, 17), (⟨"ScholarsPress$Writer", "leave", "(I)V"⟩, 17)]
theorem lw_r4 : ∀ q ∈ lw_privs_4, lw_okq q := List.forall_mem_cons.mpr ⟨lw_p48, List.forall_mem_cons.mpr ⟨lw_p49, List.forall_mem_cons.mpr ⟨lw_p50, List.forall_mem_cons.mpr ⟨lw_p51, List.forall_mem_cons.mpr ⟨lw_p52, List.forall_mem_cons.mpr ⟨lw_p53, List.forall_mem_cons.mpr ⟨lw_p54, List.forall_mem_cons.mpr ⟨lw_p55, List.forall_mem_cons.mpr ⟨lw_p56, List.forall_mem_cons.mpr ⟨lw_p57, List.forall_mem_cons.mpr ⟨lw_p58, List.forall_mem_cons.mpr ⟨lw_p59, List.forall_mem_cons.mpr ⟨lw_p60, List.forall_mem_cons.mpr ⟨lw_p61, List.forall_mem_cons.mpr ⟨lw_p62, List.forall_mem_cons.mpr ⟨lw_p63, fun _ h => absurd h List.not_mem_nil⟩⟩⟩⟩⟩⟩⟩⟩⟩⟩⟩⟩⟩⟩⟩⟩
theorem lw_p64 : lw_okq (⟨"ScholarsPress$Writer", "endParagraph", "(I)V"⟩, 17) := ⟨⟨by decide +kernel, by decide +kernel⟩, List.mem_of_getElem? (i := 1399) (by decide +kernel), List.mem_of_getElem? (i := 1786) (by decide +kernel), List.mem_of_getElem? (i := 1787) (by decide +kernel)⟩
theorem lw_p65 : lw_okq (⟨"ScholarsPress$Writer", "widthHere", "(I)I"⟩, 17) := ⟨⟨by decide +kernel, by decide +kernel⟩, List.mem_of_getElem? (i := 1399) (by decide +kernel), List.mem_of_getElem? (i := 1790) (by decide +kernel), List.mem_of_getElem? (i := 1791) (by decide +kernel)⟩
theorem lw_p66 : lw_okq (⟨"ScholarsPress$Writer", "endBlock", "(I)V"⟩, 17) := ⟨⟨by decide +kernel, by decide +kernel⟩, List.mem_of_getElem? (i := 1399) (by decide +kernel), List.mem_of_getElem? (i := 1794) (by decide +kernel), List.mem_of_getElem? (i := 1795) (by decide +kernel)⟩
theorem lw_p67 : lw_okq (⟨"ScholarsPress$Writer", "putReference", "(I)V"⟩, 17) := ⟨⟨by decide +kernel, by decide +kernel⟩, List.mem_of_getElem? (i := 1399) (by decide +kernel), List.mem_of_getElem? (i := 1804) (by decide +kernel), List.mem_of_getElem? (i := 1805) (by decide +kernel)⟩
theorem lw_p68 : lw_okq (⟨"ScholarsPress$Writer", "putNumber", "(III)V"⟩, 17) := ⟨⟨by decide +kernel, by decide +kernel⟩, List.mem_of_getElem? (i := 1399) (by decide +kernel), List.mem_of_getElem? (i := 1808) (by decide +kernel), List.mem_of_getElem? (i := 1809) (by decide +kernel)⟩
theorem lw_p69 : lw_okq (⟨"ScholarsPress$Writer", "put", "(II)V"⟩, 17) := ⟨⟨by decide +kernel, by decide +kernel⟩, List.mem_of_getElem? (i := 1399) (by decide +kernel), List.mem_of_getElem? (i := 1813) (by decide +kernel), List.mem_of_getElem? (i := 1814) (by decide +kernel)⟩
theorem lw_p70 : lw_okq (⟨"ScholarsPress$Writer", "putTitle", "(II)V"⟩, 17) := ⟨⟨by decide +kernel, by decide +kernel⟩, List.mem_of_getElem? (i := 1399) (by decide +kernel), List.mem_of_getElem? (i := 1817) (by decide +kernel), List.mem_of_getElem? (i := 1818) (by decide +kernel)⟩
theorem lw_p71 : lw_okq (⟨"ScholarsPress$Writer", "putWord", "(Ljava/lang/String;I)V"⟩, 17) := ⟨⟨by decide +kernel, by decide +kernel⟩, List.mem_of_getElem? (i := 1399) (by decide +kernel), List.mem_of_getElem? (i := 1824) (by decide +kernel), List.mem_of_getElem? (i := 1825) (by decide +kernel)⟩
theorem lw_p72 : lw_okq (⟨"ScholarsPress$Writer", "callNote", "(I)V"⟩, 17) := ⟨⟨by decide +kernel, by decide +kernel⟩, List.mem_of_getElem? (i := 1399) (by decide +kernel), List.mem_of_getElem? (i := 1830) (by decide +kernel), List.mem_of_getElem? (i := 1831) (by decide +kernel)⟩
theorem lw_p73 : lw_okq (⟨"ScholarsPress$Writer", "putContents", "(I)V"⟩, 17) := ⟨⟨by decide +kernel, by decide +kernel⟩, List.mem_of_getElem? (i := 1399) (by decide +kernel), List.mem_of_getElem? (i := 1838) (by decide +kernel), List.mem_of_getElem? (i := 1839) (by decide +kernel)⟩
theorem lw_p74 : lw_okq (⟨"ScholarsPress$Writer", "beginBlock", "(I)V"⟩, 17) := ⟨⟨by decide +kernel, by decide +kernel⟩, List.mem_of_getElem? (i := 1399) (by decide +kernel), List.mem_of_getElem? (i := 1842) (by decide +kernel), List.mem_of_getElem? (i := 1843) (by decide +kernel)⟩
theorem lw_p75 : lw_okq (⟨"ScholarsPress$Writer", "putIndex", "(I)V"⟩, 17) := ⟨⟨by decide +kernel, by decide +kernel⟩, List.mem_of_getElem? (i := 1399) (by decide +kernel), List.mem_of_getElem? (i := 1846) (by decide +kernel), List.mem_of_getElem? (i := 1847) (by decide +kernel)⟩
theorem lw_p76 : lw_okq (⟨"ScholarsPress$Writer", "putPages", "(II)V"⟩, 17) := ⟨⟨by decide +kernel, by decide +kernel⟩, List.mem_of_getElem? (i := 1399) (by decide +kernel), List.mem_of_getElem? (i := 1852) (by decide +kernel), List.mem_of_getElem? (i := 1853) (by decide +kernel)⟩
theorem lw_p77 : lw_okq (⟨"ScholarsPress$Writer", "enter", "(II)V"⟩, 17) := ⟨⟨by decide +kernel, by decide +kernel⟩, List.mem_of_getElem? (i := 1399) (by decide +kernel), List.mem_of_getElem? (i := 1863) (by decide +kernel), List.mem_of_getElem? (i := 1864) (by decide +kernel)⟩
theorem lw_p78 : lw_okq (⟨"ScholarsPress$Writer", "putLabel", "(I)V"⟩, 17) := ⟨⟨by decide +kernel, by decide +kernel⟩, List.mem_of_getElem? (i := 1399) (by decide +kernel), List.mem_of_getElem? (i := 1867) (by decide +kernel), List.mem_of_getElem? (i := 1868) (by decide +kernel)⟩
theorem lw_p79 : lw_okq (⟨"ScholarsPress$Writer", "putCode", "(I)V"⟩, 17) := ⟨⟨by decide +kernel, by decide +kernel⟩, List.mem_of_getElem? (i := 1399) (by decide +kernel), List.mem_of_getElem? (i := 1873) (by decide +kernel), List.mem_of_getElem? (i := 1874) (by decide +kernel)⟩
def lw_privs_5 : List (MethodName × Nat) := [(⟨"ScholarsPress$Writer", "endParagraph", "(I)V"⟩, 17), (⟨"ScholarsPress$Writer", "widthHere", "(I)I"⟩, 17), (⟨"ScholarsPress$Writer", "endBlock", "(I)V"⟩, 17), (⟨"ScholarsPress$Writer", "putReference", "(I)V"⟩, 17), (⟨"ScholarsPress$Writer", "putNumber", "(III)V"⟩, 17), (⟨"ScholarsPress$Writer", "put", "(II)V"⟩, 17), (⟨"ScholarsPress$Writer", "putTitle", "(II)V"⟩, 17), (⟨"ScholarsPress$Writer", "putWord", "(Ljava/lang/String;I)V"⟩, 17), (⟨"ScholarsPress$Writer", "callNote", "(I)V"⟩, 17), (⟨"ScholarsPress$Writer", "putContents", "(I)V"⟩, 17), (⟨"ScholarsPress$Writer", "beginBlock", "(I)V"⟩, 17), (⟨"ScholarsPress$Writer", "putIndex", "(I)V"⟩, 17), (⟨"ScholarsPress$Writer", "putPages", "(II)V"⟩, 17), (⟨"ScholarsPress$Writer", "enter", "(II)V"⟩, 17), (⟨"ScholarsPress$Writer", "putLabel", "(I)V"⟩, 17), (⟨"ScholarsPress$Writer", "putCode", "(I)V"⟩, 17)]
theorem lw_r5 : ∀ q ∈ lw_privs_5, lw_okq q := List.forall_mem_cons.mpr ⟨lw_p64, List.forall_mem_cons.mpr ⟨lw_p65, List.forall_mem_cons.mpr ⟨lw_p66, List.forall_mem_cons.mpr ⟨lw_p67, List.forall_mem_cons.mpr ⟨lw_p68, List.forall_mem_cons.mpr ⟨lw_p69, List.forall_mem_cons.mpr ⟨lw_p70, List.forall_mem_cons.mpr ⟨lw_p71, List.forall_mem_cons.mpr ⟨lw_p72, List.forall_mem_cons.mpr ⟨lw_p73, List.forall_mem_cons.mpr ⟨lw_p74, List.forall_mem_cons.mpr ⟨lw_p75, List.forall_mem_cons.mpr ⟨lw_p76, List.forall_mem_cons.mpr ⟨lw_p77, List.forall_mem_cons.mpr ⟨lw_p78, List.forall_mem_cons.mpr ⟨lw_p79, fun _ h => absurd h List.not_mem_nil⟩⟩⟩⟩⟩⟩⟩⟩⟩⟩⟩⟩⟩⟩⟩⟩
theorem lw_p80 : lw_okq (⟨"ScholarsPress$Writer", "putLines", "(II)V"⟩, 17) := ⟨⟨by decide +kernel, by decide +kernel⟩, List.mem_of_getElem? (i := 1399) (by decide +kernel), List.mem_of_getElem? (i := 1888) (by decide +kernel), List.mem_of_getElem? (i := 1889) (by decide +kernel)⟩
theorem lw_p81 : lw_okq (⟨"ScholarsPress$Breaker", "markWords", "([BIILScholarsPress$Hyphens;)V"⟩, 16) := ⟨⟨by decide +kernel, by decide +kernel⟩, List.mem_of_getElem? (i := 1461) (by decide +kernel), List.mem_of_getElem? (i := 1906) (by decide +kernel), List.mem_of_getElem? (i := 1907) (by decide +kernel)⟩
theorem lw_p82 : lw_okq (⟨"ScholarsPress$Hyphens", "markFrom", "([BIII[B)V"⟩, 14) := ⟨⟨by decide +kernel, by decide +kernel⟩, List.mem_of_getElem? (i := 209) (by decide +kernel), List.mem_of_getElem? (i := 1916) (by decide +kernel), List.mem_of_getElem? (i := 1917) (by decide +kernel)⟩
theorem lw_p83 : lw_okq (⟨"ScholarsPress$Breaker", "kindAt", "([BII)I"⟩, 16) := ⟨⟨by decide +kernel, by decide +kernel⟩, List.mem_of_getElem? (i := 1461) (by decide +kernel), List.mem_of_getElem? (i := 1923) (by decide +kernel), List.mem_of_getElem? (i := 1924) (by decide +kernel)⟩
theorem lw_p84 : lw_okq (⟨"ScholarsPress$Font", "valueOf", "(III)I"⟩, 8) := ⟨⟨by decide +kernel, by decide +kernel⟩, List.mem_of_getElem? (i := 172) (by decide +kernel), List.mem_of_getElem? (i := 1931) (by decide +kernel), List.mem_of_getElem? (i := 1932) (by decide +kernel)⟩
theorem lw_p85 : lw_okq (⟨"ScholarsPress$Texts", "measureColumns", "(I)I"⟩, 20) := ⟨⟨by decide +kernel, by decide +kernel⟩, List.mem_of_getElem? (i := 1569) (by decide +kernel), List.mem_of_getElem? (i := 1947) (by decide +kernel), List.mem_of_getElem? (i := 1948) (by decide +kernel)⟩
theorem lw_p86 : lw_okq (⟨"ScholarsPress$Texts", "placeCells", "(II)V"⟩, 20) := ⟨⟨by decide +kernel, by decide +kernel⟩, List.mem_of_getElem? (i := 1569) (by decide +kernel), List.mem_of_getElem? (i := 1965) (by decide +kernel), List.mem_of_getElem? (i := 1966) (by decide +kernel)⟩
theorem lw_p87 : lw_okq (⟨"ScholarsPress$Breaker", "findRow", "(LScholarsPress$Texts;II)I"⟩, 16) := ⟨⟨by decide +kernel, by decide +kernel⟩, List.mem_of_getElem? (i := 1461) (by decide +kernel), List.mem_of_getElem? (i := 1973) (by decide +kernel), List.mem_of_getElem? (i := 1974) (by decide +kernel)⟩
theorem lw_p88 : lw_okq (⟨"ScholarsPress$Breaker", "findLeads", "(I)Z"⟩, 16) := ⟨⟨by decide +kernel, by decide +kernel⟩, List.mem_of_getElem? (i := 1461) (by decide +kernel), List.mem_of_getElem? (i := 1981) (by decide +kernel), List.mem_of_getElem? (i := 1982) (by decide +kernel)⟩
theorem lw_p89 : lw_okq (⟨"ScholarsPress$Breaker", "comesFirst", "(II)Z"⟩, 16) := ⟨⟨by decide +kernel, by decide +kernel⟩, List.mem_of_getElem? (i := 1461) (by decide +kernel), List.mem_of_getElem? (i := 1989) (by decide +kernel), List.mem_of_getElem? (i := 1990) (by decide +kernel)⟩
theorem lw_p90 : lw_okq (⟨"ScholarsPress$Breaker", "goOn", "(LScholarsPress$Texts;III)V"⟩, 16) := ⟨⟨by decide +kernel, by decide +kernel⟩, List.mem_of_getElem? (i := 1461) (by decide +kernel), List.mem_of_getElem? (i := 1993) (by decide +kernel), List.mem_of_getElem? (i := 1994) (by decide +kernel)⟩
theorem lw_p91 : lw_okq (⟨"ScholarsPress$Breaker", "weigh", "(II)J"⟩, 16) := ⟨⟨by decide +kernel, by decide +kernel⟩, List.mem_of_getElem? (i := 1461) (by decide +kernel), List.mem_of_getElem? (i := 2011) (by decide +kernel), List.mem_of_getElem? (i := 2012) (by decide +kernel)⟩
theorem lw_p92 : lw_okq (⟨"ScholarsPress$Breaker", "weighFitting", "(JI)V"⟩, 16) := ⟨⟨by decide +kernel, by decide +kernel⟩, List.mem_of_getElem? (i := 1461) (by decide +kernel), List.mem_of_getElem? (i := 2015) (by decide +kernel), List.mem_of_getElem? (i := 2016) (by decide +kernel)⟩
theorem lw_p93 : lw_okq (⟨"ScholarsPress$Breaker", "keepLines", "(LScholarsPress$Texts;II)V"⟩, 16) := ⟨⟨by decide +kernel, by decide +kernel⟩, List.mem_of_getElem? (i := 1461) (by decide +kernel), List.mem_of_getElem? (i := 2033) (by decide +kernel), List.mem_of_getElem? (i := 2034) (by decide +kernel)⟩
theorem lw_p94 : lw_okq (⟨"ScholarsPress$Pages", "addLines", "(LScholarsPress$Looks;I)Z"⟩, 21) := ⟨⟨by decide +kernel, by decide +kernel⟩, List.mem_of_getElem? (i := 1563) (by decide +kernel), List.mem_of_getElem? (i := 2042) (by decide +kernel), List.mem_of_getElem? (i := 2043) (by decide +kernel)⟩
theorem lw_p95 : lw_okq (⟨"ScholarsPress$Pages", "addRow", "(LScholarsPress$Looks;I)Z"⟩, 21) := ⟨⟨by decide +kernel, by decide +kernel⟩, List.mem_of_getElem? (i := 1563) (by decide +kernel), List.mem_of_getElem? (i := 2072) (by decide +kernel), List.mem_of_getElem? (i := 2073) (by decide +kernel)⟩
def lw_privs_6 : List (MethodName × Nat) := [(⟨"ScholarsPress$Writer", "putLines", "(II)V"⟩, 17), (⟨"ScholarsPress$Breaker", "markWords", "([BIILScholarsPress$Hyphens;)V"⟩, 16), (⟨"ScholarsPress$Hyphens", "markFrom", "([BIII[B)V"⟩, 14), (⟨"ScholarsPress$Breaker", "kindAt", "([BII)I"⟩, 16), (⟨"ScholarsPress$Font", "valueOf", "(III)I"⟩, 8), (⟨"ScholarsPress$Texts", "measureColumns", "(I)I"⟩, 20), (⟨"ScholarsPress$Texts", "placeCells", "(II)V"⟩, 20), (⟨"ScholarsPress$Breaker", "findRow", "(LScholarsPress$Texts;II)I"⟩, 16), (⟨"ScholarsPress$Breaker", "findLeads", "(I)Z"⟩, 16), (⟨"ScholarsPress$Breaker", "comesFirst", "(II)Z"⟩, 16), (⟨"ScholarsPress$Breaker", "goOn", "(LScholarsPress$Texts;III)V"⟩, 16), (⟨"ScholarsPress$Breaker", "weigh", "(II)J"⟩, 16), (⟨"ScholarsPress$Breaker", "weighFitting", "(JI)V"⟩, 16), (⟨"ScholarsPress$Breaker", "keepLines", "(LScholarsPress$Texts;II)V"⟩, 16), (⟨"ScholarsPress$Pages", "addLines", "(LScholarsPress$Looks;I)Z"⟩, 21), (⟨"ScholarsPress$Pages", "addRow", "(LScholarsPress$Looks;I)Z"⟩, 21)]
theorem lw_r6 : ∀ q ∈ lw_privs_6, lw_okq q := List.forall_mem_cons.mpr ⟨lw_p80, List.forall_mem_cons.mpr ⟨lw_p81, List.forall_mem_cons.mpr ⟨lw_p82, List.forall_mem_cons.mpr ⟨lw_p83, List.forall_mem_cons.mpr ⟨lw_p84, List.forall_mem_cons.mpr ⟨lw_p85, List.forall_mem_cons.mpr ⟨lw_p86, List.forall_mem_cons.mpr ⟨lw_p87, List.forall_mem_cons.mpr ⟨lw_p88, List.forall_mem_cons.mpr ⟨lw_p89, List.forall_mem_cons.mpr ⟨lw_p90, List.forall_mem_cons.mpr ⟨lw_p91, List.forall_mem_cons.mpr ⟨lw_p92, List.forall_mem_cons.mpr ⟨lw_p93, List.forall_mem_cons.mpr ⟨lw_p94, List.forall_mem_cons.mpr ⟨lw_p95, fun _ h => absurd h List.not_mem_nil⟩⟩⟩⟩⟩⟩⟩⟩⟩⟩⟩⟩⟩⟩⟩⟩
theorem lw_p96 : lw_okq (⟨"ScholarsPress$Pages", "countNoteLines", "()V"⟩, 21) := ⟨⟨by decide +kernel, by decide +kernel⟩, List.mem_of_getElem? (i := 1563) (by decide +kernel), List.mem_of_getElem? (i := 2077) (by decide +kernel), List.mem_of_getElem? (i := 2078) (by decide +kernel)⟩
theorem lw_p97 : lw_okq (⟨"ScholarsPress$Pages", "lineOf", "(I)I"⟩, 21) := ⟨⟨by decide +kernel, by decide +kernel⟩, List.mem_of_getElem? (i := 1563) (by decide +kernel), List.mem_of_getElem? (i := 2095) (by decide +kernel), List.mem_of_getElem? (i := 2096) (by decide +kernel)⟩
theorem lw_p98 : lw_okq (⟨"ScholarsPress$Stacker", "prepare", "(LScholarsPress$Pages;)V"⟩, 13) := ⟨⟨by decide +kernel, by decide +kernel⟩, List.mem_of_getElem? (i := 1516) (by decide +kernel), List.mem_of_getElem? (i := 2108) (by decide +kernel), List.mem_of_getElem? (i := 2109) (by decide +kernel)⟩
theorem lw_p99 : lw_okq (⟨"ScholarsPress$Stacker", "calledBy", "(I)I"⟩, 13) := ⟨⟨by decide +kernel, by decide +kernel⟩, List.mem_of_getElem? (i := 1516) (by decide +kernel), List.mem_of_getElem? (i := 2115) (by decide +kernel), List.mem_of_getElem? (i := 2116) (by decide +kernel)⟩
theorem lw_p100 : lw_okq (⟨"ScholarsPress$Stacker", "arrive", "(IIIIJ)V"⟩, 13) := ⟨⟨by decide +kernel, by decide +kernel⟩, List.mem_of_getElem? (i := 1516) (by decide +kernel), List.mem_of_getElem? (i := 2129) (by decide +kernel), List.mem_of_getElem? (i := 2130) (by decide +kernel)⟩
theorem lw_p101 : lw_okq (⟨"ScholarsPress$Stacker", "comesFirst", "(II)Z"⟩, 13) := ⟨⟨by decide +kernel, by decide +kernel⟩, List.mem_of_getElem? (i := 1516) (by decide +kernel), List.mem_of_getElem? (i := 2133) (by decide +kernel), List.mem_of_getElem? (i := 2134) (by decide +kernel)⟩
theorem lw_p102 : lw_okq (⟨"ScholarsPress$Stacker", "goOn", "(I)V"⟩, 13) := ⟨⟨by decide +kernel, by decide +kernel⟩, List.mem_of_getElem? (i := 1516) (by decide +kernel), List.mem_of_getElem? (i := 2137) (by decide +kernel), List.mem_of_getElem? (i := 2138) (by decide +kernel)⟩
theorem lw_p103 : lw_okq (⟨"ScholarsPress$Stacker", "leastOfNotes", "(III)J"⟩, 13) := ⟨⟨by decide +kernel, by decide +kernel⟩, List.mem_of_getElem? (i := 1516) (by decide +kernel), List.mem_of_getElem? (i := 2142) (by decide +kernel), List.mem_of_getElem? (i := 2143) (by decide +kernel)⟩
theorem lw_p104 : lw_okq (⟨"ScholarsPress$Stacker", "endColumn", "(IIJI)V"⟩, 13) := ⟨⟨by decide +kernel, by decide +kernel⟩, List.mem_of_getElem? (i := 1516) (by decide +kernel), List.mem_of_getElem? (i := 2147) (by decide +kernel), List.mem_of_getElem? (i := 2148) (by decide +kernel)⟩
theorem lw_p105 : lw_okq (⟨"ScholarsPress$Stacker", "bestEnd", "()I"⟩, 13) := ⟨⟨by decide +kernel, by decide +kernel⟩, List.mem_of_getElem? (i := 1516) (by decide +kernel), List.mem_of_getElem? (i := 2158) (by decide +kernel), List.mem_of_getElem? (i := 2159) (by decide +kernel)⟩
theorem lw_p106 : lw_okq (⟨"ScholarsPress$Stacker", "keepColumns", "(I)V"⟩, 13) := ⟨⟨by decide +kernel, by decide +kernel⟩, List.mem_of_getElem? (i := 1516) (by decide +kernel), List.mem_of_getElem? (i := 2162) (by decide +kernel), List.mem_of_getElem? (i := 2163) (by decide +kernel)⟩
theorem lw_p107 : lw_okq (⟨"ScholarsPress$Stacker", "placeRest", "()Z"⟩, 13) := ⟨⟨by decide +kernel, by decide +kernel⟩, List.mem_of_getElem? (i := 1516) (by decide +kernel), List.mem_of_getElem? (i := 2167) (by decide +kernel), List.mem_of_getElem? (i := 2168) (by decide +kernel)⟩
theorem lw_p108 : lw_okq (⟨"ScholarsPress$Pages", "isCounted", "(LScholarsPress$Looks;I)Z"⟩, 21) := ⟨⟨by decide +kernel, by decide +kernel⟩, List.mem_of_getElem? (i := 1563) (by decide +kernel), List.mem_of_getElem? (i := 2181) (by decide +kernel), List.mem_of_getElem? (i := 2182) (by decide +kernel)⟩
theorem lw_p109 : lw_okq (⟨"ScholarsPress$Pages", "findHeads", "(LScholarsPress$Looks;)V"⟩, 21) := ⟨⟨by decide +kernel, by decide +kernel⟩, List.mem_of_getElem? (i := 1563) (by decide +kernel), List.mem_of_getElem? (i := 2189) (by decide +kernel), List.mem_of_getElem? (i := 2190) (by decide +kernel)⟩
theorem lw_p110 : lw_okq (⟨"ScholarsPress$Pages", "targetMoved", "(LScholarsPress$Looks;LScholarsPress$Writer;II)Z"⟩, 21) := ⟨⟨by decide +kernel, by decide +kernel⟩, List.mem_of_getElem? (i := 1563) (by decide +kernel), List.mem_of_getElem? (i := 2201) (by decide +kernel), List.mem_of_getElem? (i := 2202) (by decide +kernel)⟩
theorem lw_p111 : lw_okq (⟨"ScholarsPress$Texts", "sameAs", "(ILScholarsPress$Texts;I)Z"⟩, 20) := ⟨⟨by decide +kernel, by decide +kernel⟩, List.mem_of_getElem? (i := 1569) (by decide +kernel), List.mem_of_getElem? (i := 2252) (by decide +kernel), List.mem_of_getElem? (i := 2253) (by decide +kernel)⟩
def lw_privs_7 : List (MethodName × Nat) := [(⟨"ScholarsPress$Pages", "countNoteLines", "()V"⟩, 21), (⟨"ScholarsPress$Pages", "lineOf", "(I)I"⟩, 21), (⟨"ScholarsPress$Stacker", "prepare", "(LScholarsPress$Pages;)V"⟩, 13), (⟨"ScholarsPress$Stacker", "calledBy", "(I)I"⟩, 13), (⟨"ScholarsPress$Stacker", "arrive", "(IIIIJ)V"⟩, 13), (⟨"ScholarsPress$Stacker", "comesFirst", "(II)Z"⟩, 13), (⟨"ScholarsPress$Stacker", "goOn", "(I)V"⟩, 13), (⟨"ScholarsPress$Stacker", "leastOfNotes", "(III)J"⟩, 13), (⟨"ScholarsPress$Stacker", "endColumn", "(IIJI)V"⟩, 13), (⟨"ScholarsPress$Stacker", "bestEnd", "()I"⟩, 13), (⟨"ScholarsPress$Stacker", "keepColumns", "(I)V"⟩, 13), (⟨"ScholarsPress$Stacker", "placeRest", "()Z"⟩, 13), (⟨"ScholarsPress$Pages", "isCounted", "(LScholarsPress$Looks;I)Z"⟩, 21), (⟨"ScholarsPress$Pages", "findHeads", "(LScholarsPress$Looks;)V"⟩, 21), (⟨"ScholarsPress$Pages", "targetMoved", "(LScholarsPress$Looks;LScholarsPress$Writer;II)Z"⟩, 21), (⟨"ScholarsPress$Texts", "sameAs", "(ILScholarsPress$Texts;I)Z"⟩, 20)]
theorem lw_r7 : ∀ q ∈ lw_privs_7, lw_okq q := List.forall_mem_cons.mpr ⟨lw_p96, List.forall_mem_cons.mpr ⟨lw_p97, List.forall_mem_cons.mpr ⟨lw_p98, List.forall_mem_cons.mpr ⟨lw_p99, List.forall_mem_cons.mpr ⟨lw_p100, List.forall_mem_cons.mpr ⟨lw_p101, List.forall_mem_cons.mpr ⟨lw_p102, List.forall_mem_cons.mpr ⟨lw_p103, List.forall_mem_cons.mpr ⟨lw_p104, List.forall_mem_cons.mpr ⟨lw_p105, List.forall_mem_cons.mpr ⟨lw_p106, List.forall_mem_cons.mpr ⟨lw_p107, List.forall_mem_cons.mpr ⟨lw_p108, List.forall_mem_cons.mpr ⟨lw_p109, List.forall_mem_cons.mpr ⟨lw_p110, List.forall_mem_cons.mpr ⟨lw_p111, fun _ h => absurd h List.not_mem_nil⟩⟩⟩⟩⟩⟩⟩⟩⟩⟩⟩⟩⟩⟩⟩⟩
theorem lw_p112 : lw_okq (⟨"ScholarsPress", "countSource", "(I)I"⟩, 21) := ⟨⟨by decide +kernel, by decide +kernel⟩, List.mem_of_getElem? (i := 45) (by decide +kernel), List.mem_of_getElem? (i := 2276) (by decide +kernel), List.mem_of_getElem? (i := 2277) (by decide +kernel)⟩
theorem lw_p113 : lw_okq (⟨"ScholarsPress$Breaker", "weighLine", "(LScholarsPress$Texts;III)J"⟩, 16) := ⟨⟨by decide +kernel, by decide +kernel⟩, List.mem_of_getElem? (i := 1461) (by decide +kernel), List.mem_of_getElem? (i := 2299) (by decide +kernel), List.mem_of_getElem? (i := 2300) (by decide +kernel)⟩
theorem lw_p114 : lw_okq (⟨"ScholarsPress$Pages", "columnWith", "(II)I"⟩, 21) := ⟨⟨by decide +kernel, by decide +kernel⟩, List.mem_of_getElem? (i := 1563) (by decide +kernel), List.mem_of_getElem? (i := 2396) (by decide +kernel), List.mem_of_getElem? (i := 2397) (by decide +kernel)⟩
theorem lw_p115 : lw_okq (⟨"ScholarsPress$Pages", "noteTop", "(III)I"⟩, 21) := ⟨⟨by decide +kernel, by decide +kernel⟩, List.mem_of_getElem? (i := 1563) (by decide +kernel), List.mem_of_getElem? (i := 2400) (by decide +kernel), List.mem_of_getElem? (i := 2401) (by decide +kernel)⟩
theorem lw_p116 : lw_okq (⟨"ScholarsPress$Pages", "putNumber", "(I)V"⟩, 21) := ⟨⟨by decide +kernel, by decide +kernel⟩, List.mem_of_getElem? (i := 1563) (by decide +kernel), List.mem_of_getElem? (i := 2428) (by decide +kernel), List.mem_of_getElem? (i := 2429) (by decide +kernel)⟩
theorem lw_p117 : lw_okq (⟨"ScholarsPress$Pages", "put", "(I)V"⟩, 21) := ⟨⟨by decide +kernel, by decide +kernel⟩, List.mem_of_getElem? (i := 1563) (by decide +kernel), List.mem_of_getElem? (i := 2432) (by decide +kernel), List.mem_of_getElem? (i := 2433) (by decide +kernel)⟩
theorem lw_p118 : lw_okq (⟨"ScholarsPress$Pages", "printFloats", "(I)V"⟩, 21) := ⟨⟨by decide +kernel, by decide +kernel⟩, List.mem_of_getElem? (i := 1563) (by decide +kernel), List.mem_of_getElem? (i := 2436) (by decide +kernel), List.mem_of_getElem? (i := 2437) (by decide +kernel)⟩
theorem lw_p119 : lw_okq (⟨"ScholarsPress$Pages", "printLines", "(II)V"⟩, 21) := ⟨⟨by decide +kernel, by decide +kernel⟩, List.mem_of_getElem? (i := 1563) (by decide +kernel), List.mem_of_getElem? (i := 2440) (by decide +kernel), List.mem_of_getElem? (i := 2441) (by decide +kernel)⟩
theorem lw_p120 : lw_okq (⟨"ScholarsPress$Pages", "printLine", "(IIII)V"⟩, 21) := ⟨⟨by decide +kernel, by decide +kernel⟩, List.mem_of_getElem? (i := 1563) (by decide +kernel), List.mem_of_getElem? (i := 2444) (by decide +kernel), List.mem_of_getElem? (i := 2445) (by decide +kernel)⟩
theorem lw_p121 : lw_okq (⟨"ScholarsPress$Pages", "printNotes", "(II)V"⟩, 21) := ⟨⟨by decide +kernel, by decide +kernel⟩, List.mem_of_getElem? (i := 1563) (by decide +kernel), List.mem_of_getElem? (i := 2449) (by decide +kernel), List.mem_of_getElem? (i := 2450) (by decide +kernel)⟩
theorem lw_p122 : lw_okq (⟨"ScholarsPressModel", "refuse", "(I)I"⟩, 23) := ⟨⟨by decide +kernel, by decide +kernel⟩, List.mem_of_getElem? (i := 2461) (by decide +kernel), List.mem_of_getElem? (i := 3520) (by decide +kernel), List.mem_of_getElem? (i := 3521) (by decide +kernel)⟩
theorem lw_p123 : lw_okq (⟨"ScholarsPressModel", "four", "(I)V"⟩, 23) := ⟨⟨by decide +kernel, by decide +kernel⟩, List.mem_of_getElem? (i := 2461) (by decide +kernel), List.mem_of_getElem? (i := 3524) (by decide +kernel), List.mem_of_getElem? (i := 3525) (by decide +kernel)⟩
theorem lw_p124 : lw_okq (⟨"ScholarsPressModel$Letters", "one", "()V"⟩, 9) := ⟨⟨by decide +kernel, by decide +kernel⟩, List.mem_of_getElem? (i := 2467) (by decide +kernel), List.mem_of_getElem? (i := 3562) (by decide +kernel), List.mem_of_getElem? (i := 3563) (by decide +kernel)⟩
theorem lw_p125 : lw_okq (⟨"ScholarsPressModel$Letters", "single", "()I"⟩, 9) := ⟨⟨by decide +kernel, by decide +kernel⟩, List.mem_of_getElem? (i := 2467) (by decide +kernel), List.mem_of_getElem? (i := 3577) (by decide +kernel), List.mem_of_getElem? (i := 3578) (by decide +kernel)⟩
theorem lw_p126 : lw_okq (⟨"ScholarsPressModel", "broken", "(II)I"⟩, 23) := ⟨⟨by decide +kernel, by decide +kernel⟩, List.mem_of_getElem? (i := 2461) (by decide +kernel), List.mem_of_getElem? (i := 3634) (by decide +kernel), List.mem_of_getElem? (i := 3635) (by decide +kernel)⟩
theorem lw_p127 : lw_okq (⟨"ScholarsPressModel", "wasRead", "(I)V"⟩, 23) := ⟨⟨by decide +kernel, by decide +kernel⟩, List.mem_of_getElem? (i := 2461) (by decide +kernel), List.mem_of_getElem? (i := 3638) (by decide +kernel), List.mem_of_getElem? (i := 3639) (by decide +kernel)⟩
def lw_privs_8 : List (MethodName × Nat) := [(⟨"ScholarsPress", "countSource", "(I)I"⟩, 21), (⟨"ScholarsPress$Breaker", "weighLine", "(LScholarsPress$Texts;III)J"⟩, 16), (⟨"ScholarsPress$Pages", "columnWith", "(II)I"⟩, 21), (⟨"ScholarsPress$Pages", "noteTop", "(III)I"⟩, 21), (⟨"ScholarsPress$Pages", "putNumber", "(I)V"⟩, 21), (⟨"ScholarsPress$Pages", "put", "(I)V"⟩, 21), (⟨"ScholarsPress$Pages", "printFloats", "(I)V"⟩, 21), (⟨"ScholarsPress$Pages", "printLines", "(II)V"⟩, 21), (⟨"ScholarsPress$Pages", "printLine", "(IIII)V"⟩, 21), (⟨"ScholarsPress$Pages", "printNotes", "(II)V"⟩, 21), (⟨"ScholarsPressModel", "refuse", "(I)I"⟩, 23), (⟨"ScholarsPressModel", "four", "(I)V"⟩, 23), (⟨"ScholarsPressModel$Letters", "one", "()V"⟩, 9), (⟨"ScholarsPressModel$Letters", "single", "()I"⟩, 9), (⟨"ScholarsPressModel", "broken", "(II)I"⟩, 23), (⟨"ScholarsPressModel", "wasRead", "(I)V"⟩, 23)]
theorem lw_r8 : ∀ q ∈ lw_privs_8, lw_okq q := List.forall_mem_cons.mpr ⟨lw_p112, List.forall_mem_cons.mpr ⟨lw_p113, List.forall_mem_cons.mpr ⟨lw_p114, List.forall_mem_cons.mpr ⟨lw_p115, List.forall_mem_cons.mpr ⟨lw_p116, List.forall_mem_cons.mpr ⟨lw_p117, List.forall_mem_cons.mpr ⟨lw_p118, List.forall_mem_cons.mpr ⟨lw_p119, List.forall_mem_cons.mpr ⟨lw_p120, List.forall_mem_cons.mpr ⟨lw_p121, List.forall_mem_cons.mpr ⟨lw_p122, List.forall_mem_cons.mpr ⟨lw_p123, List.forall_mem_cons.mpr ⟨lw_p124, List.forall_mem_cons.mpr ⟨lw_p125, List.forall_mem_cons.mpr ⟨lw_p126, List.forall_mem_cons.mpr ⟨lw_p127, fun _ h => absurd h List.not_mem_nil⟩⟩⟩⟩⟩⟩⟩⟩⟩⟩⟩⟩⟩⟩⟩⟩
theorem lw_p128 : lw_okq (⟨"ScholarsPressModel$Parting", "exception", "([BII)V"⟩, 14) := ⟨⟨by decide +kernel, by decide +kernel⟩, List.mem_of_getElem? (i := 2545) (by decide +kernel), List.mem_of_getElem? (i := 3663) (by decide +kernel), List.mem_of_getElem? (i := 3664) (by decide +kernel)⟩
theorem lw_p129 : lw_okq (⟨"ScholarsPressModel$Parting", "pattern", "([BII)V"⟩, 14) := ⟨⟨by decide +kernel, by decide +kernel⟩, List.mem_of_getElem? (i := 2545) (by decide +kernel), List.mem_of_getElem? (i := 3671) (by decide +kernel), List.mem_of_getElem? (i := 3672) (by decide +kernel)⟩
theorem lw_p130 : lw_okq (⟨"ScholarsPressModel$Style", "pageBody", "()V"⟩, 28) := ⟨⟨by decide +kernel, by decide +kernel⟩, List.mem_of_getElem? (i := 2596) (by decide +kernel), List.mem_of_getElem? (i := 3688) (by decide +kernel), List.mem_of_getElem? (i := 3689) (by decide +kernel)⟩
theorem lw_p131 : lw_okq (⟨"ScholarsPressModel$Style", "word", "(Ljava/lang/String;)I"⟩, 28) := ⟨⟨by decide +kernel, by decide +kernel⟩, List.mem_of_getElem? (i := 2596) (by decide +kernel), List.mem_of_getElem? (i := 3705) (by decide +kernel), List.mem_of_getElem? (i := 3706) (by decide +kernel)⟩
theorem lw_p132 : lw_okq (⟨"ScholarsPressModel$Style", "rule", "()V"⟩, 28) := ⟨⟨by decide +kernel, by decide +kernel⟩, List.mem_of_getElem? (i := 2596) (by decide +kernel), List.mem_of_getElem? (i := 3711) (by decide +kernel), List.mem_of_getElem? (i := 3712) (by decide +kernel)⟩
theorem lw_p133 : lw_okq (⟨"ScholarsPressModel$Style", "selector", "()V"⟩, 28) := ⟨⟨by decide +kernel, by decide +kernel⟩, List.mem_of_getElem? (i := 2596) (by decide +kernel), List.mem_of_getElem? (i := 3715) (by decide +kernel), List.mem_of_getElem? (i := 3716) (by decide +kernel)⟩
theorem lw_p134 : lw_okq (⟨"ScholarsPressModel$Style", "step", "(II)V"⟩, 28) := ⟨⟨by decide +kernel, by decide +kernel⟩, List.mem_of_getElem? (i := 2596) (by decide +kernel), List.mem_of_getElem? (i := 3719) (by decide +kernel), List.mem_of_getElem? (i := 3720) (by decide +kernel)⟩
theorem lw_p135 : lw_okq (⟨"ScholarsPressModel$Style", "bracket", "()V"⟩, 28) := ⟨⟨by decide +kernel, by decide +kernel⟩, List.mem_of_getElem? (i := 2596) (by decide +kernel), List.mem_of_getElem? (i := 3723) (by decide +kernel), List.mem_of_getElem? (i := 3724) (by decide +kernel)⟩
theorem lw_p136 : lw_okq (⟨"ScholarsPressModel$Style", "colon", "()V"⟩, 28) := ⟨⟨by decide +kernel, by decide +kernel⟩, List.mem_of_getElem? (i := 2596) (by decide +kernel), List.mem_of_getElem? (i := 3729) (by decide +kernel), List.mem_of_getElem? (i := 3730) (by decide +kernel)⟩
theorem lw_p137 : lw_okq (⟨"ScholarsPressModel$Style", "body", "()V"⟩, 28) := ⟨⟨by decide +kernel, by decide +kernel⟩, List.mem_of_getElem? (i := 2596) (by decide +kernel), List.mem_of_getElem? (i := 3735) (by decide +kernel), List.mem_of_getElem? (i := 3736) (by decide +kernel)⟩
theorem lw_p138 : lw_okq (⟨"ScholarsPressModel$Style", "valueOf", "(I)I"⟩, 28) := ⟨⟨by decide +kernel, by decide +kernel⟩, List.mem_of_getElem? (i := 2596) (by decide +kernel), List.mem_of_getElem? (i := 3743) (by decide +kernel), List.mem_of_getElem? (i := 3744) (by decide +kernel)⟩
theorem lw_p139 : lw_okq (⟨"ScholarsPressModel$Style", "size", "()I"⟩, 28) := ⟨⟨by decide +kernel, by decide +kernel⟩, List.mem_of_getElem? (i := 2596) (by decide +kernel), List.mem_of_getElem? (i := 3748) (by decide +kernel), List.mem_of_getElem? (i := 3749) (by decide +kernel)⟩
theorem lw_p140 : lw_okq (⟨"ScholarsPressModel$Style", "counter", "()I"⟩, 28) := ⟨⟨by decide +kernel, by decide +kernel⟩, List.mem_of_getElem? (i := 2596) (by decide +kernel), List.mem_of_getElem? (i := 3758) (by decide +kernel), List.mem_of_getElem? (i := 3759) (by decide +kernel)⟩
theorem lw_p141 : lw_okq (⟨"ScholarsPressModel$Source", "byteAt", "(I)I"⟩, 28) := ⟨⟨by decide +kernel, by decide +kernel⟩, List.mem_of_getElem? (i := 2716) (by decide +kernel), List.mem_of_getElem? (i := 3773) (by decide +kernel), List.mem_of_getElem? (i := 3774) (by decide +kernel)⟩
theorem lw_p142 : lw_okq (⟨"ScholarsPressModel$Source", "reference", "()V"⟩, 28) := ⟨⟨by decide +kernel, by decide +kernel⟩, List.mem_of_getElem? (i := 2716) (by decide +kernel), List.mem_of_getElem? (i := 3777) (by decide +kernel), List.mem_of_getElem? (i := 3778) (by decide +kernel)⟩
theorem lw_p143 : lw_okq (⟨"ScholarsPressModel$Source", "nameAt", "(I)I"⟩, 28) := ⟨⟨by decide +kernel, by decide +kernel⟩, List.mem_of_getElem? (i := 2716) (by decide +kernel), List.mem_of_getElem? (i := 3781) (by decide +kernel), List.mem_of_getElem? (i := 3782) (by decide +kernel)⟩
def lw_privs_9 : List (MethodName × Nat) := [(⟨"ScholarsPressModel$Parting", "exception", "([BII)V"⟩, 14), (⟨"ScholarsPressModel$Parting", "pattern", "([BII)V"⟩, 14), (⟨"ScholarsPressModel$Style", "pageBody", "()V"⟩, 28), (⟨"ScholarsPressModel$Style", "word", "(Ljava/lang/String;)I"⟩, 28), (⟨"ScholarsPressModel$Style", "rule", "()V"⟩, 28), (⟨"ScholarsPressModel$Style", "selector", "()V"⟩, 28), (⟨"ScholarsPressModel$Style", "step", "(II)V"⟩, 28), (⟨"ScholarsPressModel$Style", "bracket", "()V"⟩, 28), (⟨"ScholarsPressModel$Style", "colon", "()V"⟩, 28), (⟨"ScholarsPressModel$Style", "body", "()V"⟩, 28), (⟨"ScholarsPressModel$Style", "valueOf", "(I)I"⟩, 28), (⟨"ScholarsPressModel$Style", "size", "()I"⟩, 28), (⟨"ScholarsPressModel$Style", "counter", "()I"⟩, 28), (⟨"ScholarsPressModel$Source", "byteAt", "(I)I"⟩, 28), (⟨"ScholarsPressModel$Source", "reference", "()V"⟩, 28), (⟨"ScholarsPressModel$Source", "nameAt", "(I)I"⟩, 28)]
theorem lw_r9 : ∀ q ∈ lw_privs_9, lw_okq q := List.forall_mem_cons.mpr ⟨lw_p128, List.forall_mem_cons.mpr ⟨lw_p129, List.forall_mem_cons.mpr ⟨lw_p130, List.forall_mem_cons.mpr ⟨lw_p131, List.forall_mem_cons.mpr ⟨lw_p132, List.forall_mem_cons.mpr ⟨lw_p133, List.forall_mem_cons.mpr ⟨lw_p134, List.forall_mem_cons.mpr ⟨lw_p135, List.forall_mem_cons.mpr ⟨lw_p136, List.forall_mem_cons.mpr ⟨lw_p137, List.forall_mem_cons.mpr ⟨lw_p138, List.forall_mem_cons.mpr ⟨lw_p139, List.forall_mem_cons.mpr ⟨lw_p140, List.forall_mem_cons.mpr ⟨lw_p141, List.forall_mem_cons.mpr ⟨lw_p142, List.forall_mem_cons.mpr ⟨lw_p143, fun _ h => absurd h List.not_mem_nil⟩⟩⟩⟩⟩⟩⟩⟩⟩⟩⟩⟩⟩⟩⟩⟩
theorem lw_p144 : lw_okq (⟨"ScholarsPressModel$Source", "find", "(II)I"⟩, 28) := ⟨⟨by decide +kernel, by decide +kernel⟩, List.mem_of_getElem? (i := 2716) (by decide +kernel), List.mem_of_getElem? (i := 3792) (by decide +kernel), List.mem_of_getElem? (i := 3793) (by decide +kernel)⟩
theorem lw_p145 : lw_okq (⟨"ScholarsPressModel$Source", "need", "(II)V"⟩, 28) := ⟨⟨by decide +kernel, by decide +kernel⟩, List.mem_of_getElem? (i := 2716) (by decide +kernel), List.mem_of_getElem? (i := 3797) (by decide +kernel), List.mem_of_getElem? (i := 3798) (by decide +kernel)⟩
theorem lw_p146 : lw_okq (⟨"ScholarsPressModel$Source", "add", "(III)V"⟩, 28) := ⟨⟨by decide +kernel, by decide +kernel⟩, List.mem_of_getElem? (i := 2716) (by decide +kernel), List.mem_of_getElem? (i := 3801) (by decide +kernel), List.mem_of_getElem? (i := 3802) (by decide +kernel)⟩
theorem lw_p147 : lw_okq (⟨"ScholarsPressModel$Source", "tag", "()V"⟩, 28) := ⟨⟨by decide +kernel, by decide +kernel⟩, List.mem_of_getElem? (i := 2716) (by decide +kernel), List.mem_of_getElem? (i := 3805) (by decide +kernel), List.mem_of_getElem? (i := 3806) (by decide +kernel)⟩
theorem lw_p148 : lw_okq (⟨"ScholarsPressModel$Source", "comment", "(I)V"⟩, 28) := ⟨⟨by decide +kernel, by decide +kernel⟩, List.mem_of_getElem? (i := 2716) (by decide +kernel), List.mem_of_getElem? (i := 3809) (by decide +kernel), List.mem_of_getElem? (i := 3810) (by decide +kernel)⟩
theorem lw_p149 : lw_okq (⟨"ScholarsPressModel$Source", "tell", "(I)V"⟩, 28) := ⟨⟨by decide +kernel, by decide +kernel⟩, List.mem_of_getElem? (i := 2716) (by decide +kernel), List.mem_of_getElem? (i := 3813) (by decide +kernel), List.mem_of_getElem? (i := 3814) (by decide +kernel)⟩
theorem lw_p150 : lw_okq (⟨"ScholarsPressModel$Source", "skip", "(I)I"⟩, 28) := ⟨⟨by decide +kernel, by decide +kernel⟩, List.mem_of_getElem? (i := 2716) (by decide +kernel), List.mem_of_getElem? (i := 3817) (by decide +kernel), List.mem_of_getElem? (i := 3818) (by decide +kernel)⟩
theorem lw_p151 : lw_okq (⟨"ScholarsPressModel$Source", "stringAt", "(I)I"⟩, 28) := ⟨⟨by decide +kernel, by decide +kernel⟩, List.mem_of_getElem? (i := 2716) (by decide +kernel), List.mem_of_getElem? (i := 3822) (by decide +kernel), List.mem_of_getElem? (i := 3823) (by decide +kernel)⟩
theorem lw_p152 : lw_okq (⟨"ScholarsPressModel$Source", "close", "(I)V"⟩, 28) := ⟨⟨by decide +kernel, by decide +kernel⟩, List.mem_of_getElem? (i := 2716) (by decide +kernel), List.mem_of_getElem? (i := 3826) (by decide +kernel), List.mem_of_getElem? (i := 3827) (by decide +kernel)⟩
theorem lw_p153 : lw_okq (⟨"ScholarsPressModel$Source", "ended", "(I)V"⟩, 28) := ⟨⟨by decide +kernel, by decide +kernel⟩, List.mem_of_getElem? (i := 2716) (by decide +kernel), List.mem_of_getElem? (i := 3830) (by decide +kernel), List.mem_of_getElem? (i := 3831) (by decide +kernel)⟩
theorem lw_p154 : lw_okq (⟨"ScholarsPressModel$Source", "begin", "(I)V"⟩, 28) := ⟨⟨by decide +kernel, by decide +kernel⟩, List.mem_of_getElem? (i := 2716) (by decide +kernel), List.mem_of_getElem? (i := 3834) (by decide +kernel), List.mem_of_getElem? (i := 3835) (by decide +kernel)⟩
theorem lw_p155 : lw_okq (⟨"ScholarsPressModel$Source", "field", "(II)I"⟩, 28) := ⟨⟨by decide +kernel, by decide +kernel⟩, List.mem_of_getElem? (i := 2716) (by decide +kernel), List.mem_of_getElem? (i := 3838) (by decide +kernel), List.mem_of_getElem? (i := 3839) (by decide +kernel)⟩
theorem lw_p156 : lw_okq (⟨"ScholarsPressModel$Source", "plain", "()V"⟩, 28) := ⟨⟨by decide +kernel, by decide +kernel⟩, List.mem_of_getElem? (i := 2716) (by decide +kernel), List.mem_of_getElem? (i := 3842) (by decide +kernel), List.mem_of_getElem? (i := 3843) (by decide +kernel)⟩
theorem lw_p157 : lw_okq (⟨"ScholarsPressModel", "taken", "()I"⟩, 23) := ⟨⟨by decide +kernel, by decide +kernel⟩, List.mem_of_getElem? (i := 2461) (by decide +kernel), List.mem_of_getElem? (i := 3846) (by decide +kernel), List.mem_of_getElem? (i := 3847) (by decide +kernel)⟩
theorem lw_p158 : lw_okq (⟨"ScholarsPressModel$Tree", "relations", "()V"⟩, 30) := ⟨⟨by decide +kernel, by decide +kernel⟩, List.mem_of_getElem? (i := 2840) (by decide +kernel), List.mem_of_getElem? (i := 3879) (by decide +kernel), List.mem_of_getElem? (i := 3880) (by decide +kernel)⟩
theorem lw_p159 : lw_okq (⟨"ScholarsPressModel$Tree", "apply", "(LScholarsPressModel$Style;I)V"⟩, 30) := ⟨⟨by decide +kernel, by decide +kernel⟩, List.mem_of_getElem? (i := 2840) (by decide +kernel), List.mem_of_getElem? (i := 3883) (by decide +kernel), List.mem_of_getElem? (i := 3884) (by decide +kernel)⟩
def lw_privs_10 : List (MethodName × Nat) := [(⟨"ScholarsPressModel$Source", "find", "(II)I"⟩, 28), (⟨"ScholarsPressModel$Source", "need", "(II)V"⟩, 28), (⟨"ScholarsPressModel$Source", "add", "(III)V"⟩, 28), (⟨"ScholarsPressModel$Source", "tag", "()V"⟩, 28), (⟨"ScholarsPressModel$Source", "comment", "(I)V"⟩, 28), (⟨"ScholarsPressModel$Source", "tell", "(I)V"⟩, 28), (⟨"ScholarsPressModel$Source", "skip", "(I)I"⟩, 28), (⟨"ScholarsPressModel$Source", "stringAt", "(I)I"⟩, 28), (⟨"ScholarsPressModel$Source", "close", "(I)V"⟩, 28), (⟨"ScholarsPressModel$Source", "ended", "(I)V"⟩, 28), (⟨"ScholarsPressModel$Source", "begin", "(I)V"⟩, 28), (⟨"ScholarsPressModel$Source", "field", "(II)I"⟩, 28), (⟨"ScholarsPressModel$Source", "plain", "()V"⟩, 28), (⟨"ScholarsPressModel", "taken", "()I"⟩, 23), (⟨"ScholarsPressModel$Tree", "relations", "()V"⟩, 30), (⟨"ScholarsPressModel$Tree", "apply", "(LScholarsPressModel$Style;I)V"⟩, 30)]
theorem lw_r10 : ∀ q ∈ lw_privs_10, lw_okq q := List.forall_mem_cons.mpr ⟨lw_p144, List.forall_mem_cons.mpr ⟨lw_p145, List.forall_mem_cons.mpr ⟨lw_p146, List.forall_mem_cons.mpr ⟨lw_p147, List.forall_mem_cons.mpr ⟨lw_p148, List.forall_mem_cons.mpr ⟨lw_p149, List.forall_mem_cons.mpr ⟨lw_p150, List.forall_mem_cons.mpr ⟨lw_p151, List.forall_mem_cons.mpr ⟨lw_p152, List.forall_mem_cons.mpr ⟨lw_p153, List.forall_mem_cons.mpr ⟨lw_p154, List.forall_mem_cons.mpr ⟨lw_p155, List.forall_mem_cons.mpr ⟨lw_p156, List.forall_mem_cons.mpr ⟨lw_p157, List.forall_mem_cons.mpr ⟨lw_p158, List.forall_mem_cons.mpr ⟨lw_p159, fun _ h => absurd h List.not_mem_nil⟩⟩⟩⟩⟩⟩⟩⟩⟩⟩⟩⟩⟩⟩⟩⟩
theorem lw_p160 : lw_okq (⟨"ScholarsPressModel$Tree", "linked", "(LScholarsPressModel$Style;IIZ)Z"⟩, 30) := ⟨⟨by decide +kernel, by decide +kernel⟩, List.mem_of_getElem? (i := 2840) (by decide +kernel), List.mem_of_getElem? (i := 3887) (by decide +kernel), List.mem_of_getElem? (i := 3888) (by decide +kernel)⟩
theorem lw_p161 : lw_okq (⟨"ScholarsPressModel$Tree", "fitsStep", "(LScholarsPressModel$Style;II)Z"⟩, 30) := ⟨⟨by decide +kernel, by decide +kernel⟩, List.mem_of_getElem? (i := 2840) (by decide +kernel), List.mem_of_getElem? (i := 3891) (by decide +kernel), List.mem_of_getElem? (i := 3892) (by decide +kernel)⟩
theorem lw_p162 : lw_okq (⟨"ScholarsPressModel$Tree", "inherit", "()V"⟩, 30) := ⟨⟨by decide +kernel, by decide +kernel⟩, List.mem_of_getElem? (i := 2840) (by decide +kernel), List.mem_of_getElem? (i := 3900) (by decide +kernel), List.mem_of_getElem? (i := 3901) (by decide +kernel)⟩
theorem lw_p163 : lw_okq (⟨"ScholarsPressModel$Tree", "flags", "()V"⟩, 30) := ⟨⟨by decide +kernel, by decide +kernel⟩, List.mem_of_getElem? (i := 2840) (by decide +kernel), List.mem_of_getElem? (i := 3916) (by decide +kernel), List.mem_of_getElem? (i := 3917) (by decide +kernel)⟩
theorem lw_p164 : lw_okq (⟨"ScholarsPressModel$Tree", "isMute", "(I)Z"⟩, 30) := ⟨⟨by decide +kernel, by decide +kernel⟩, List.mem_of_getElem? (i := 2840) (by decide +kernel), List.mem_of_getElem? (i := 3924) (by decide +kernel), List.mem_of_getElem? (i := 3925) (by decide +kernel)⟩
theorem lw_p165 : lw_okq (⟨"ScholarsPressModel$Tree", "count", "()V"⟩, 30) := ⟨⟨by decide +kernel, by decide +kernel⟩, List.mem_of_getElem? (i := 2840) (by decide +kernel), List.mem_of_getElem? (i := 3928) (by decide +kernel), List.mem_of_getElem? (i := 3929) (by decide +kernel)⟩
theorem lw_p166 : lw_okq (⟨"ScholarsPressModel$Setting", "findEntries", "()V"⟩, 141) := ⟨⟨by decide +kernel, by decide +kernel⟩, List.mem_of_getElem? (i := 2959) (by decide +kernel), List.mem_of_getElem? (i := 3932) (by decide +kernel), List.mem_of_getElem? (i := 3933) (by decide +kernel)⟩
theorem lw_p167 : lw_okq (⟨"ScholarsPressModel$Tree", "sayLabel", "(I)V"⟩, 30) := ⟨⟨by decide +kernel, by decide +kernel⟩, List.mem_of_getElem? (i := 2840) (by decide +kernel), List.mem_of_getElem? (i := 3946) (by decide +kernel), List.mem_of_getElem? (i := 3947) (by decide +kernel)⟩
theorem lw_p168 : lw_okq (⟨"ScholarsPressModel$Tree", "roman", "(I)I"⟩, 30) := ⟨⟨by decide +kernel, by decide +kernel⟩, List.mem_of_getElem? (i := 2840) (by decide +kernel), List.mem_of_getElem? (i := 3958) (by decide +kernel), List.mem_of_getElem? (i := 3959) (by decide +kernel)⟩
theorem lw_p169 : lw_okq (⟨"ScholarsPressModel$Tree", "put", "(II)I"⟩, 30) := ⟨⟨by decide +kernel, by decide +kernel⟩, List.mem_of_getElem? (i := 2840) (by decide +kernel), List.mem_of_getElem? (i := 3964) (by decide +kernel), List.mem_of_getElem? (i := 3965) (by decide +kernel)⟩
theorem lw_p170 : lw_okq (⟨"ScholarsPressModel$Tree", "letters", "(I)I"⟩, 30) := ⟨⟨by decide +kernel, by decide +kernel⟩, List.mem_of_getElem? (i := 2840) (by decide +kernel), List.mem_of_getElem? (i := 3968) (by decide +kernel), List.mem_of_getElem? (i := 3969) (by decide +kernel)⟩
theorem lw_p171 : lw_okq (⟨"ScholarsPressModel$Tree", "say", "(I)V"⟩, 30) := ⟨⟨by decide +kernel, by decide +kernel⟩, List.mem_of_getElem? (i := 2840) (by decide +kernel), List.mem_of_getElem? (i := 3972) (by decide +kernel), List.mem_of_getElem? (i := 3973) (by decide +kernel)⟩
theorem lw_p172 : lw_okq (⟨"ScholarsPressModel$Setting", "entryLong", "(I)I"⟩, 141) := ⟨⟨by decide +kernel, by decide +kernel⟩, List.mem_of_getElem? (i := 2959) (by decide +kernel), List.mem_of_getElem? (i := 3985) (by decide +kernel), List.mem_of_getElem? (i := 3986) (by decide +kernel)⟩
theorem lw_p173 : lw_okq (⟨"ScholarsPressModel$Setting", "sameEntry", "(II)Z"⟩, 141) := ⟨⟨by decide +kernel, by decide +kernel⟩, List.mem_of_getElem? (i := 2959) (by decide +kernel), List.mem_of_getElem? (i := 3989) (by decide +kernel), List.mem_of_getElem? (i := 3990) (by decide +kernel)⟩
theorem lw_p174 : lw_okq (⟨"ScholarsPressModel$Setting", "entryByte", "(II)I"⟩, 141) := ⟨⟨by decide +kernel, by decide +kernel⟩, List.mem_of_getElem? (i := 2959) (by decide +kernel), List.mem_of_getElem? (i := 3993) (by decide +kernel), List.mem_of_getElem? (i := 3994) (by decide +kernel)⟩
theorem lw_p175 : lw_okq (⟨"ScholarsPressModel$Setting", "isBefore", "(II)Z"⟩, 141) := ⟨⟨by decide +kernel, by decide +kernel⟩, List.mem_of_getElem? (i := 2959) (by decide +kernel), List.mem_of_getElem? (i := 4012) (by decide +kernel), List.mem_of_getElem? (i := 4013) (by decide +kernel)⟩
def lw_privs_11 : List (MethodName × Nat) := [(⟨"ScholarsPressModel$Tree", "linked", "(LScholarsPressModel$Style;IIZ)Z"⟩, 30), (⟨"ScholarsPressModel$Tree", "fitsStep", "(LScholarsPressModel$Style;II)Z"⟩, 30), (⟨"ScholarsPressModel$Tree", "inherit", "()V"⟩, 30), (⟨"ScholarsPressModel$Tree", "flags", "()V"⟩, 30), (⟨"ScholarsPressModel$Tree", "isMute", "(I)Z"⟩, 30), (⟨"ScholarsPressModel$Tree", "count", "()V"⟩, 30), (⟨"ScholarsPressModel$Setting", "findEntries", "()V"⟩, 141), (⟨"ScholarsPressModel$Tree", "sayLabel", "(I)V"⟩, 30), (⟨"ScholarsPressModel$Tree", "roman", "(I)I"⟩, 30), (⟨"ScholarsPressModel$Tree", "put", "(II)I"⟩, 30), (⟨"ScholarsPressModel$Tree", "letters", "(I)I"⟩, 30), (⟨"ScholarsPressModel$Tree", "say", "(I)V"⟩, 30), (⟨"ScholarsPressModel$Setting", "entryLong", "(I)I"⟩, 141), (⟨"ScholarsPressModel$Setting", "sameEntry", "(II)Z"⟩, 141), (⟨"ScholarsPressModel$Setting", "entryByte", "(II)I"⟩, 141), (⟨"ScholarsPressModel$Setting", "isBefore", "(II)Z"⟩, 141)]
theorem lw_r11 : ∀ q ∈ lw_privs_11, lw_okq q := List.forall_mem_cons.mpr ⟨lw_p160, List.forall_mem_cons.mpr ⟨lw_p161, List.forall_mem_cons.mpr ⟨lw_p162, List.forall_mem_cons.mpr ⟨lw_p163, List.forall_mem_cons.mpr ⟨lw_p164, List.forall_mem_cons.mpr ⟨lw_p165, List.forall_mem_cons.mpr ⟨lw_p166, List.forall_mem_cons.mpr ⟨lw_p167, List.forall_mem_cons.mpr ⟨lw_p168, List.forall_mem_cons.mpr ⟨lw_p169, List.forall_mem_cons.mpr ⟨lw_p170, List.forall_mem_cons.mpr ⟨lw_p171, List.forall_mem_cons.mpr ⟨lw_p172, List.forall_mem_cons.mpr ⟨lw_p173, List.forall_mem_cons.mpr ⟨lw_p174, List.forall_mem_cons.mpr ⟨lw_p175, fun _ h => absurd h List.not_mem_nil⟩⟩⟩⟩⟩⟩⟩⟩⟩⟩⟩⟩⟩⟩⟩⟩
theorem lw_p176 : lw_okq (⟨"ScholarsPressModel$Setting", "round", "()V"⟩, 141) := ⟨⟨by decide +kernel, by decide +kernel⟩, List.mem_of_getElem? (i := 2959) (by decide +kernel), List.mem_of_getElem? (i := 4020) (by decide +kernel), List.mem_of_getElem? (i := 4021) (by decide +kernel)⟩
theorem lw_p177 : lw_okq (⟨"ScholarsPressModel$Setting", "build", "()V"⟩, 141) := ⟨⟨by decide +kernel, by decide +kernel⟩, List.mem_of_getElem? (i := 2959) (by decide +kernel), List.mem_of_getElem? (i := 4024) (by decide +kernel), List.mem_of_getElem? (i := 4025) (by decide +kernel)⟩
theorem lw_p178 : lw_okq (⟨"ScholarsPressModel$Setting", "begin", "()V"⟩, 141) := ⟨⟨by decide +kernel, by decide +kernel⟩, List.mem_of_getElem? (i := 2959) (by decide +kernel), List.mem_of_getElem? (i := 4028) (by decide +kernel), List.mem_of_getElem? (i := 4029) (by decide +kernel)⟩
theorem lw_p179 : lw_okq (⟨"ScholarsPressModel$Setting", "opens", "(I)Z"⟩, 141) := ⟨⟨by decide +kernel, by decide +kernel⟩, List.mem_of_getElem? (i := 2959) (by decide +kernel), List.mem_of_getElem? (i := 4032) (by decide +kernel), List.mem_of_getElem? (i := 4033) (by decide +kernel)⟩
theorem lw_p180 : lw_okq (⟨"ScholarsPressModel$Setting", "blockOf", "(I)I"⟩, 141) := ⟨⟨by decide +kernel, by decide +kernel⟩, List.mem_of_getElem? (i := 2959) (by decide +kernel), List.mem_of_getElem? (i := 4036) (by decide +kernel), List.mem_of_getElem? (i := 4037) (by decide +kernel)⟩
theorem lw_p181 : lw_okq (⟨"ScholarsPressModel$Setting", "flowEnds", "(I)V"⟩, 141) := ⟨⟨by decide +kernel, by decide +kernel⟩, List.mem_of_getElem? (i := 2959) (by decide +kernel), List.mem_of_getElem? (i := 4040) (by decide +kernel), List.mem_of_getElem? (i := 4041) (by decide +kernel)⟩
theorem lw_p182 : lw_okq (⟨"ScholarsPressModel$Setting", "leftOf", "(I)I"⟩, 141) := ⟨⟨by decide +kernel, by decide +kernel⟩, List.mem_of_getElem? (i := 2959) (by decide +kernel), List.mem_of_getElem? (i := 4044) (by decide +kernel), List.mem_of_getElem? (i := 4045) (by decide +kernel)⟩
theorem lw_p183 : lw_okq (⟨"ScholarsPressModel$Setting", "widthOf", "(II)J"⟩, 141) := ⟨⟨by decide +kernel, by decide +kernel⟩, List.mem_of_getElem? (i := 2959) (by decide +kernel), List.mem_of_getElem? (i := 4049) (by decide +kernel), List.mem_of_getElem? (i := 4050) (by decide +kernel)⟩
theorem lw_p184 : lw_okq (⟨"ScholarsPressModel$Setting", "ended", "(IIIJ)I"⟩, 141) := ⟨⟨by decide +kernel, by decide +kernel⟩, List.mem_of_getElem? (i := 2959) (by decide +kernel), List.mem_of_getElem? (i := 4054) (by decide +kernel), List.mem_of_getElem? (i := 4055) (by decide +kernel)⟩
theorem lw_p185 : lw_okq (⟨"ScholarsPressModel$Setting", "addFlow", "(II)V"⟩, 141) := ⟨⟨by decide +kernel, by decide +kernel⟩, List.mem_of_getElem? (i := 2959) (by decide +kernel), List.mem_of_getElem? (i := 4058) (by decide +kernel), List.mem_of_getElem? (i := 4059) (by decide +kernel)⟩
theorem lw_p186 : lw_okq (⟨"ScholarsPressModel$Setting", "contents", "(I)V"⟩, 141) := ⟨⟨by decide +kernel, by decide +kernel⟩, List.mem_of_getElem? (i := 2959) (by decide +kernel), List.mem_of_getElem? (i := 4063) (by decide +kernel), List.mem_of_getElem? (i := 4064) (by decide +kernel)⟩
theorem lw_p187 : lw_okq (⟨"ScholarsPressModel$Setting", "emit", "(IIZ)V"⟩, 141) := ⟨⟨by decide +kernel, by decide +kernel⟩, List.mem_of_getElem? (i := 2959) (by decide +kernel), List.mem_of_getElem? (i := 4067) (by decide +kernel), List.mem_of_getElem? (i := 4068) (by decide +kernel)⟩
theorem lw_p188 : lw_okq (⟨"ScholarsPressModel$Setting", "add", "(III)V"⟩, 141) := ⟨⟨by decide +kernel, by decide +kernel⟩, List.mem_of_getElem? (i := 2959) (by decide +kernel), List.mem_of_getElem? (i := 4072) (by decide +kernel), List.mem_of_getElem? (i := 4073) (by decide +kernel)⟩
theorem lw_p189 : lw_okq (⟨"ScholarsPressModel$Setting", "digits", "(IIZ)V"⟩, 141) := ⟨⟨by decide +kernel, by decide +kernel⟩, List.mem_of_getElem? (i := 2959) (by decide +kernel), List.mem_of_getElem? (i := 4076) (by decide +kernel), List.mem_of_getElem? (i := 4077) (by decide +kernel)⟩
theorem lw_p190 : lw_okq (⟨"ScholarsPressModel$Setting", "index", "(I)V"⟩, 141) := ⟨⟨by decide +kernel, by decide +kernel⟩, List.mem_of_getElem? (i := 2959) (by decide +kernel), List.mem_of_getElem? (i := 4085) (by decide +kernel), List.mem_of_getElem? (i := 4086) (by decide +kernel)⟩
theorem lw_p191 : lw_okq (⟨"ScholarsPressModel$Setting", "pagesOf", "(I)I"⟩, 141) := ⟨⟨by decide +kernel, by decide +kernel⟩, List.mem_of_getElem? (i := 2959) (by decide +kernel), List.mem_of_getElem? (i := 4089) (by decide +kernel), List.mem_of_getElem? (i := 4090) (by decide +kernel)⟩
def lw_privs_12 : List (MethodName × Nat) := [(⟨"ScholarsPressModel$Setting", "round", "()V"⟩, 141), (⟨"ScholarsPressModel$Setting", "build", "()V"⟩, 141), (⟨"ScholarsPressModel$Setting", "begin", "()V"⟩, 141), (⟨"ScholarsPressModel$Setting", "opens", "(I)Z"⟩, 141), (⟨"ScholarsPressModel$Setting", "blockOf", "(I)I"⟩, 141), (⟨"ScholarsPressModel$Setting", "flowEnds", "(I)V"⟩, 141), (⟨"ScholarsPressModel$Setting", "leftOf", "(I)I"⟩, 141), (⟨"ScholarsPressModel$Setting", "widthOf", "(II)J"⟩, 141), (⟨"ScholarsPressModel$Setting", "ended", "(IIIJ)I"⟩, 141), (⟨"ScholarsPressModel$Setting", "addFlow", "(II)V"⟩, 141), (⟨"ScholarsPressModel$Setting", "contents", "(I)V"⟩, 141), (⟨"ScholarsPressModel$Setting", "emit", "(IIZ)V"⟩, 141), (⟨"ScholarsPressModel$Setting", "add", "(III)V"⟩, 141), (⟨"ScholarsPressModel$Setting", "digits", "(IIZ)V"⟩, 141), (⟨"ScholarsPressModel$Setting", "index", "(I)V"⟩, 141), (⟨"ScholarsPressModel$Setting", "pagesOf", "(I)I"⟩, 141)]
theorem lw_r12 : ∀ q ∈ lw_privs_12, lw_okq q := List.forall_mem_cons.mpr ⟨lw_p176, List.forall_mem_cons.mpr ⟨lw_p177, List.forall_mem_cons.mpr ⟨lw_p178, List.forall_mem_cons.mpr ⟨lw_p179, List.forall_mem_cons.mpr ⟨lw_p180, List.forall_mem_cons.mpr ⟨lw_p181, List.forall_mem_cons.mpr ⟨lw_p182, List.forall_mem_cons.mpr ⟨lw_p183, List.forall_mem_cons.mpr ⟨lw_p184, List.forall_mem_cons.mpr ⟨lw_p185, List.forall_mem_cons.mpr ⟨lw_p186, List.forall_mem_cons.mpr ⟨lw_p187, List.forall_mem_cons.mpr ⟨lw_p188, List.forall_mem_cons.mpr ⟨lw_p189, List.forall_mem_cons.mpr ⟨lw_p190, List.forall_mem_cons.mpr ⟨lw_p191, fun _ h => absurd h List.not_mem_nil⟩⟩⟩⟩⟩⟩⟩⟩⟩⟩⟩⟩⟩⟩⟩⟩
theorem lw_p192 : lw_okq (⟨"ScholarsPressModel$Setting", "label", "(IZ)V"⟩, 141) := ⟨⟨by decide +kernel, by decide +kernel⟩, List.mem_of_getElem? (i := 2959) (by decide +kernel), List.mem_of_getElem? (i := 4093) (by decide +kernel), List.mem_of_getElem? (i := 4094) (by decide +kernel)⟩
theorem lw_p193 : lw_okq (⟨"ScholarsPressModel$Setting", "reference", "(IZ)V"⟩, 141) := ⟨⟨by decide +kernel, by decide +kernel⟩, List.mem_of_getElem? (i := 2959) (by decide +kernel), List.mem_of_getElem? (i := 4098) (by decide +kernel), List.mem_of_getElem? (i := 4099) (by decide +kernel)⟩
theorem lw_p194 : lw_okq (⟨"ScholarsPressModel$Setting", "target", "(ILjava/lang/String;)I"⟩, 141) := ⟨⟨by decide +kernel, by decide +kernel⟩, List.mem_of_getElem? (i := 2959) (by decide +kernel), List.mem_of_getElem? (i := 4104) (by decide +kernel), List.mem_of_getElem? (i := 4105) (by decide +kernel)⟩
theorem lw_p195 : lw_okq (⟨"ScholarsPressModel$Setting", "unknown", "(IZ)V"⟩, 141) := ⟨⟨by decide +kernel, by decide +kernel⟩, List.mem_of_getElem? (i := 2959) (by decide +kernel), List.mem_of_getElem? (i := 4114) (by decide +kernel), List.mem_of_getElem? (i := 4115) (by decide +kernel)⟩
theorem lw_p196 : lw_okq (⟨"ScholarsPressModel$Setting", "says", "(ILjava/lang/String;)Z"⟩, 141) := ⟨⟨by decide +kernel, by decide +kernel⟩, List.mem_of_getElem? (i := 2959) (by decide +kernel), List.mem_of_getElem? (i := 4119) (by decide +kernel), List.mem_of_getElem? (i := 4120) (by decide +kernel)⟩
theorem lw_p197 : lw_okq (⟨"ScholarsPressModel$Setting", "closes", "(I)V"⟩, 141) := ⟨⟨by decide +kernel, by decide +kernel⟩, List.mem_of_getElem? (i := 2959) (by decide +kernel), List.mem_of_getElem? (i := 4131) (by decide +kernel), List.mem_of_getElem? (i := 4132) (by decide +kernel)⟩
theorem lw_p198 : lw_okq (⟨"ScholarsPressModel$Setting", "text", "(IIZ)V"⟩, 141) := ⟨⟨by decide +kernel, by decide +kernel⟩, List.mem_of_getElem? (i := 2959) (by decide +kernel), List.mem_of_getElem? (i := 4135) (by decide +kernel), List.mem_of_getElem? (i := 4136) (by decide +kernel)⟩
theorem lw_p199 : lw_okq (⟨"ScholarsPressModel$Setting", "note", "(I)V"⟩, 141) := ⟨⟨by decide +kernel, by decide +kernel⟩, List.mem_of_getElem? (i := 2959) (by decide +kernel), List.mem_of_getElem? (i := 4140) (by decide +kernel), List.mem_of_getElem? (i := 4141) (by decide +kernel)⟩
theorem lw_p200 : lw_okq (⟨"ScholarsPressModel$Setting", "part", "(I)V"⟩, 141) := ⟨⟨by decide +kernel, by decide +kernel⟩, List.mem_of_getElem? (i := 2959) (by decide +kernel), List.mem_of_getElem? (i := 4146) (by decide +kernel), List.mem_of_getElem? (i := 4147) (by decide +kernel)⟩
theorem lw_p201 : lw_okq (⟨"ScholarsPressModel$Parting", "greatest", "([BIII)I"⟩, 14) := ⟨⟨by decide +kernel, by decide +kernel⟩, List.mem_of_getElem? (i := 2545) (by decide +kernel), List.mem_of_getElem? (i := 4159) (by decide +kernel), List.mem_of_getElem? (i := 4160) (by decide +kernel)⟩
theorem lw_p202 : lw_okq (⟨"ScholarsPressModel$Setting", "breaksAt", "(IIIII)V"⟩, 141) := ⟨⟨by decide +kernel, by decide +kernel⟩, List.mem_of_getElem? (i := 2959) (by decide +kernel), List.mem_of_getElem? (i := 4166) (by decide +kernel), List.mem_of_getElem? (i := 4167) (by decide +kernel)⟩
theorem lw_p203 : lw_okq (⟨"ScholarsPressModel$Setting", "wide", "(II)J"⟩, 141) := ⟨⟨by decide +kernel, by decide +kernel⟩, List.mem_of_getElem? (i := 2959) (by decide +kernel), List.mem_of_getElem? (i := 4170) (by decide +kernel), List.mem_of_getElem? (i := 4171) (by decide +kernel)⟩
theorem lw_p204 : lw_okq (⟨"ScholarsPressModel$Setting", "breakAt", "(I)I"⟩, 141) := ⟨⟨by decide +kernel, by decide +kernel⟩, List.mem_of_getElem? (i := 2959) (by decide +kernel), List.mem_of_getElem? (i := 4183) (by decide +kernel), List.mem_of_getElem? (i := 4184) (by decide +kernel)⟩
theorem lw_p205 : lw_okq (⟨"ScholarsPressModel$Setting", "tables", "()V"⟩, 141) := ⟨⟨by decide +kernel, by decide +kernel⟩, List.mem_of_getElem? (i := 2959) (by decide +kernel), List.mem_of_getElem? (i := 4187) (by decide +kernel), List.mem_of_getElem? (i := 4188) (by decide +kernel)⟩
theorem lw_p206 : lw_okq (⟨"ScholarsPressModel$Setting", "table", "(I)V"⟩, 141) := ⟨⟨by decide +kernel, by decide +kernel⟩, List.mem_of_getElem? (i := 2959) (by decide +kernel), List.mem_of_getElem? (i := 4191) (by decide +kernel), List.mem_of_getElem? (i := 4192) (by decide +kernel)⟩
theorem lw_p207 : lw_okq (⟨"ScholarsPressModel$Setting", "breakUp", "(I)V"⟩, 141) := ⟨⟨by decide +kernel, by decide +kernel⟩, List.mem_of_getElem? (i := 2959) (by decide +kernel), List.mem_of_getElem? (i := 4195) (by decide +kernel), List.mem_of_getElem? (i := 4196) (by decide +kernel)⟩
def lw_privs_13 : List (MethodName × Nat) := [(⟨"ScholarsPressModel$Setting", "label", "(IZ)V"⟩, 141), (⟨"ScholarsPressModel$Setting", "reference", "(IZ)V"⟩, 141), (⟨"ScholarsPressModel$Setting", "target", "(ILjava/lang/String;)I"⟩, 141), (⟨"ScholarsPressModel$Setting", "unknown", "(IZ)V"⟩, 141), (⟨"ScholarsPressModel$Setting", "says", "(ILjava/lang/String;)Z"⟩, 141), (⟨"ScholarsPressModel$Setting", "closes", "(I)V"⟩, 141), (⟨"ScholarsPressModel$Setting", "text", "(IIZ)V"⟩, 141), (⟨"ScholarsPressModel$Setting", "note", "(I)V"⟩, 141), (⟨"ScholarsPressModel$Setting", "part", "(I)V"⟩, 141), (⟨"ScholarsPressModel$Parting", "greatest", "([BIII)I"⟩, 14), (⟨"ScholarsPressModel$Setting", "breaksAt", "(IIIII)V"⟩, 141), (⟨"ScholarsPressModel$Setting", "wide", "(II)J"⟩, 141), (⟨"ScholarsPressModel$Setting", "breakAt", "(I)I"⟩, 141), (⟨"ScholarsPressModel$Setting", "tables", "()V"⟩, 141), (⟨"ScholarsPressModel$Setting", "table", "(I)V"⟩, 141), (⟨"ScholarsPressModel$Setting", "breakUp", "(I)V"⟩, 141)]
theorem lw_r13 : ∀ q ∈ lw_privs_13, lw_okq q := List.forall_mem_cons.mpr ⟨lw_p192, List.forall_mem_cons.mpr ⟨lw_p193, List.forall_mem_cons.mpr ⟨lw_p194, List.forall_mem_cons.mpr ⟨lw_p195, List.forall_mem_cons.mpr ⟨lw_p196, List.forall_mem_cons.mpr ⟨lw_p197, List.forall_mem_cons.mpr ⟨lw_p198, List.forall_mem_cons.mpr ⟨lw_p199, List.forall_mem_cons.mpr ⟨lw_p200, List.forall_mem_cons.mpr ⟨lw_p201, List.forall_mem_cons.mpr ⟨lw_p202, List.forall_mem_cons.mpr ⟨lw_p203, List.forall_mem_cons.mpr ⟨lw_p204, List.forall_mem_cons.mpr ⟨lw_p205, List.forall_mem_cons.mpr ⟨lw_p206, List.forall_mem_cons.mpr ⟨lw_p207, fun _ h => absurd h List.not_mem_nil⟩⟩⟩⟩⟩⟩⟩⟩⟩⟩⟩⟩⟩⟩⟩⟩
theorem lw_p208 : lw_okq (⟨"ScholarsPressModel$Setting", "sums", "(I)V"⟩, 141) := ⟨⟨by decide +kernel, by decide +kernel⟩, List.mem_of_getElem? (i := 2959) (by decide +kernel), List.mem_of_getElem? (i := 4199) (by decide +kernel), List.mem_of_getElem? (i := 4200) (by decide +kernel)⟩
theorem lw_p209 : lw_okq (⟨"ScholarsPressModel$Setting", "tryAll", "(II)Z"⟩, 141) := ⟨⟨by decide +kernel, by decide +kernel⟩, List.mem_of_getElem? (i := 2959) (by decide +kernel), List.mem_of_getElem? (i := 4205) (by decide +kernel), List.mem_of_getElem? (i := 4206) (by decide +kernel)⟩
theorem lw_p210 : lw_okq (⟨"ScholarsPressModel$Setting", "measure", "(III)V"⟩, 141) := ⟨⟨by decide +kernel, by decide +kernel⟩, List.mem_of_getElem? (i := 2959) (by decide +kernel), List.mem_of_getElem? (i := 4209) (by decide +kernel), List.mem_of_getElem? (i := 4210) (by decide +kernel)⟩
theorem lw_p211 : lw_okq (⟨"ScholarsPressModel$Setting", "typeOf", "(II)I"⟩, 141) := ⟨⟨by decide +kernel, by decide +kernel⟩, List.mem_of_getElem? (i := 2959) (by decide +kernel), List.mem_of_getElem? (i := 4213) (by decide +kernel), List.mem_of_getElem? (i := 4214) (by decide +kernel)⟩
theorem lw_p212 : lw_okq (⟨"ScholarsPressModel$Setting", "lineWidth", "(IZ)J"⟩, 141) := ⟨⟨by decide +kernel, by decide +kernel⟩, List.mem_of_getElem? (i := 2959) (by decide +kernel), List.mem_of_getElem? (i := 4217) (by decide +kernel), List.mem_of_getElem? (i := 4218) (by decide +kernel)⟩
theorem lw_p213 : lw_okq (⟨"ScholarsPressModel$Setting", "isParted", "(II)Z"⟩, 141) := ⟨⟨by decide +kernel, by decide +kernel⟩, List.mem_of_getElem? (i := 2959) (by decide +kernel), List.mem_of_getElem? (i := 4230) (by decide +kernel), List.mem_of_getElem? (i := 4231) (by decide +kernel)⟩
theorem lw_p214 : lw_okq (⟨"ScholarsPressModel$Setting", "isAllowed", "(I)Z"⟩, 141) := ⟨⟨by decide +kernel, by decide +kernel⟩, List.mem_of_getElem? (i := 2959) (by decide +kernel), List.mem_of_getElem? (i := 4236) (by decide +kernel), List.mem_of_getElem? (i := 4237) (by decide +kernel)⟩
theorem lw_p215 : lw_okq (⟨"ScholarsPressModel$Setting", "comesFirst", "(IIII)Z"⟩, 141) := ⟨⟨by decide +kernel, by decide +kernel⟩, List.mem_of_getElem? (i := 2959) (by decide +kernel), List.mem_of_getElem? (i := 4240) (by decide +kernel), List.mem_of_getElem? (i := 4241) (by decide +kernel)⟩
theorem lw_p216 : lw_okq (⟨"ScholarsPressModel$Setting", "flow", "()V"⟩, 141) := ⟨⟨by decide +kernel, by decide +kernel⟩, List.mem_of_getElem? (i := 2959) (by decide +kernel), List.mem_of_getElem? (i := 4244) (by decide +kernel), List.mem_of_getElem? (i := 4245) (by decide +kernel)⟩
theorem lw_p217 : lw_okq (⟨"ScholarsPressModel$Setting", "addLine", "(IIIIIZ)V"⟩, 141) := ⟨⟨by decide +kernel, by decide +kernel⟩, List.mem_of_getElem? (i := 2959) (by decide +kernel), List.mem_of_getElem? (i := 4248) (by decide +kernel), List.mem_of_getElem? (i := 4249) (by decide +kernel)⟩
theorem lw_p218 : lw_okq (⟨"ScholarsPressModel$Setting", "findLines", "()V"⟩, 141) := ⟨⟨by decide +kernel, by decide +kernel⟩, List.mem_of_getElem? (i := 2959) (by decide +kernel), List.mem_of_getElem? (i := 4252) (by decide +kernel), List.mem_of_getElem? (i := 4253) (by decide +kernel)⟩
theorem lw_p219 : lw_okq (⟨"ScholarsPressModel$Setting", "layOut", "()V"⟩, 141) := ⟨⟨by decide +kernel, by decide +kernel⟩, List.mem_of_getElem? (i := 2959) (by decide +kernel), List.mem_of_getElem? (i := 4260) (by decide +kernel), List.mem_of_getElem? (i := 4261) (by decide +kernel)⟩
theorem lw_p220 : lw_okq (⟨"ScholarsPressModel$Setting", "state", "(IIIJI)I"⟩, 141) := ⟨⟨by decide +kernel, by decide +kernel⟩, List.mem_of_getElem? (i := 2959) (by decide +kernel), List.mem_of_getElem? (i := 4264) (by decide +kernel), List.mem_of_getElem? (i := 4265) (by decide +kernel)⟩
theorem lw_p221 : lw_okq (⟨"ScholarsPressModel$Setting", "fits", "(II)Z"⟩, 141) := ⟨⟨by decide +kernel, by decide +kernel⟩, List.mem_of_getElem? (i := 2959) (by decide +kernel), List.mem_of_getElem? (i := 4271) (by decide +kernel), List.mem_of_getElem? (i := 4272) (by decide +kernel)⟩
theorem lw_p222 : lw_okq (⟨"ScholarsPressModel$Setting", "leadOf", "(I)I"⟩, 141) := ⟨⟨by decide +kernel, by decide +kernel⟩, List.mem_of_getElem? (i := 2959) (by decide +kernel), List.mem_of_getElem? (i := 4275) (by decide +kernel), List.mem_of_getElem? (i := 4276) (by decide +kernel)⟩
theorem lw_p223 : lw_okq (⟨"ScholarsPressModel$Setting", "linesOf", "(I)I"⟩, 141) := ⟨⟨by decide +kernel, by decide +kernel⟩, List.mem_of_getElem? (i := 2959) (by decide +kernel), List.mem_of_getElem? (i := 4279) (by decide +kernel), List.mem_of_getElem? (i := 4280) (by decide +kernel)⟩
def lw_privs_14 : List (MethodName × Nat) := [(⟨"ScholarsPressModel$Setting", "sums", "(I)V"⟩, 141), (⟨"ScholarsPressModel$Setting", "tryAll", "(II)Z"⟩, 141), (⟨"ScholarsPressModel$Setting", "measure", "(III)V"⟩, 141), (⟨"ScholarsPressModel$Setting", "typeOf", "(II)I"⟩, 141), (⟨"ScholarsPressModel$Setting", "lineWidth", "(IZ)J"⟩, 141), (⟨"ScholarsPressModel$Setting", "isParted", "(II)Z"⟩, 141), (⟨"ScholarsPressModel$Setting", "isAllowed", "(I)Z"⟩, 141), (⟨"ScholarsPressModel$Setting", "comesFirst", "(IIII)Z"⟩, 141), (⟨"ScholarsPressModel$Setting", "flow", "()V"⟩, 141), (⟨"ScholarsPressModel$Setting", "addLine", "(IIIIIZ)V"⟩, 141), (⟨"ScholarsPressModel$Setting", "findLines", "()V"⟩, 141), (⟨"ScholarsPressModel$Setting", "layOut", "()V"⟩, 141), (⟨"ScholarsPressModel$Setting", "state", "(IIIJI)I"⟩, 141), (⟨"ScholarsPressModel$Setting", "fits", "(II)Z"⟩, 141), (⟨"ScholarsPressModel$Setting", "leadOf", "(I)I"⟩, 141), (⟨"ScholarsPressModel$Setting", "linesOf", "(I)I"⟩, 141)]
theorem lw_r14 : ∀ q ∈ lw_privs_14, lw_okq q := List.forall_mem_cons.mpr ⟨lw_p208, List.forall_mem_cons.mpr ⟨lw_p209, List.forall_mem_cons.mpr ⟨lw_p210, List.forall_mem_cons.mpr ⟨lw_p211, List.forall_mem_cons.mpr ⟨lw_p212, List.forall_mem_cons.mpr ⟨lw_p213, List.forall_mem_cons.mpr ⟨lw_p214, List.forall_mem_cons.mpr ⟨lw_p215, List.forall_mem_cons.mpr ⟨lw_p216, List.forall_mem_cons.mpr ⟨lw_p217, List.forall_mem_cons.mpr ⟨lw_p218, List.forall_mem_cons.mpr ⟨lw_p219, List.forall_mem_cons.mpr ⟨lw_p220, List.forall_mem_cons.mpr ⟨lw_p221, List.forall_mem_cons.mpr ⟨lw_p222, List.forall_mem_cons.mpr ⟨lw_p223, fun _ h => absurd h List.not_mem_nil⟩⟩⟩⟩⟩⟩⟩⟩⟩⟩⟩⟩⟩⟩⟩⟩
theorem lw_p224 : lw_okq (⟨"ScholarsPressModel$Setting", "floatHigh", "(I)J"⟩, 141) := ⟨⟨by decide +kernel, by decide +kernel⟩, List.mem_of_getElem? (i := 2959) (by decide +kernel), List.mem_of_getElem? (i := 4283) (by decide +kernel), List.mem_of_getElem? (i := 4284) (by decide +kernel)⟩
theorem lw_p225 : lw_okq (⟨"ScholarsPressModel$Setting", "relax", "(IIJ)V"⟩, 141) := ⟨⟨by decide +kernel, by decide +kernel⟩, List.mem_of_getElem? (i := 2959) (by decide +kernel), List.mem_of_getElem? (i := 4292) (by decide +kernel), List.mem_of_getElem? (i := 4293) (by decide +kernel)⟩
theorem lw_p226 : lw_okq (⟨"ScholarsPressModel$Setting", "columnsFirst", "(II)Z"⟩, 141) := ⟨⟨by decide +kernel, by decide +kernel⟩, List.mem_of_getElem? (i := 2959) (by decide +kernel), List.mem_of_getElem? (i := 4296) (by decide +kernel), List.mem_of_getElem? (i := 4297) (by decide +kernel)⟩
theorem lw_p227 : lw_okq (⟨"ScholarsPressModel$Setting", "place", "(I)V"⟩, 141) := ⟨⟨by decide +kernel, by decide +kernel⟩, List.mem_of_getElem? (i := 2959) (by decide +kernel), List.mem_of_getElem? (i := 4302) (by decide +kernel), List.mem_of_getElem? (i := 4303) (by decide +kernel)⟩
theorem lw_p228 : lw_okq (⟨"ScholarsPressModel$Setting", "piece", "(III)V"⟩, 141) := ⟨⟨by decide +kernel, by decide +kernel⟩, List.mem_of_getElem? (i := 2959) (by decide +kernel), List.mem_of_getElem? (i := 4306) (by decide +kernel), List.mem_of_getElem? (i := 4307) (by decide +kernel)⟩
theorem lw_p229 : lw_okq (⟨"ScholarsPressModel$Setting", "foot", "(I)V"⟩, 141) := ⟨⟨by decide +kernel, by decide +kernel⟩, List.mem_of_getElem? (i := 2959) (by decide +kernel), List.mem_of_getElem? (i := 4310) (by decide +kernel), List.mem_of_getElem? (i := 4311) (by decide +kernel)⟩
theorem lw_p230 : lw_okq (⟨"ScholarsPressModel$Setting", "next", "()V"⟩, 141) := ⟨⟨by decide +kernel, by decide +kernel⟩, List.mem_of_getElem? (i := 2959) (by decide +kernel), List.mem_of_getElem? (i := 4314) (by decide +kernel), List.mem_of_getElem? (i := 4315) (by decide +kernel)⟩
theorem lw_p231 : lw_okq (⟨"ScholarsPressModel$Setting", "number", "()V"⟩, 141) := ⟨⟨by decide +kernel, by decide +kernel⟩, List.mem_of_getElem? (i := 2959) (by decide +kernel), List.mem_of_getElem? (i := 4318) (by decide +kernel), List.mem_of_getElem? (i := 4319) (by decide +kernel)⟩
theorem lw_p232 : lw_okq (⟨"ScholarsPressModel$Setting", "findWavering", "()V"⟩, 141) := ⟨⟨by decide +kernel, by decide +kernel⟩, List.mem_of_getElem? (i := 2959) (by decide +kernel), List.mem_of_getElem? (i := 4326) (by decide +kernel), List.mem_of_getElem? (i := 4327) (by decide +kernel)⟩
theorem lw_p233 : lw_okq (⟨"ScholarsPressModel$Setting", "samePar", "(ILScholarsPressModel$Setting;I)Z"⟩, 141) := ⟨⟨by decide +kernel, by decide +kernel⟩, List.mem_of_getElem? (i := 2959) (by decide +kernel), List.mem_of_getElem? (i := 4334) (by decide +kernel), List.mem_of_getElem? (i := 4335) (by decide +kernel)⟩
theorem lw_p234 : lw_okq (⟨"ScholarsPressModel", "putNumber", "(J)V"⟩, 23) := ⟨⟨by decide +kernel, by decide +kernel⟩, List.mem_of_getElem? (i := 2461) (by decide +kernel), List.mem_of_getElem? (i := 4406) (by decide +kernel), List.mem_of_getElem? (i := 4407) (by decide +kernel)⟩
theorem lw_p235 : lw_okq (⟨"ScholarsPressModel", "put", "(I)V"⟩, 23) := ⟨⟨by decide +kernel, by decide +kernel⟩, List.mem_of_getElem? (i := 2461) (by decide +kernel), List.mem_of_getElem? (i := 4410) (by decide +kernel), List.mem_of_getElem? (i := 4411) (by decide +kernel)⟩
theorem lw_p236 : lw_okq (⟨"ScholarsPressModel", "putColumn", "(I)V"⟩, 23) := ⟨⟨by decide +kernel, by decide +kernel⟩, List.mem_of_getElem? (i := 2461) (by decide +kernel), List.mem_of_getElem? (i := 4422) (by decide +kernel), List.mem_of_getElem? (i := 4423) (by decide +kernel)⟩
theorem lw_p237 : lw_okq (⟨"ScholarsPressModel", "putRow", "(JJI)V"⟩, 23) := ⟨⟨by decide +kernel, by decide +kernel⟩, List.mem_of_getElem? (i := 2461) (by decide +kernel), List.mem_of_getElem? (i := 4426) (by decide +kernel), List.mem_of_getElem? (i := 4427) (by decide +kernel)⟩
theorem lw_p238 : lw_okq (⟨"ScholarsPressModel", "putLine", "(JJII)V"⟩, 23) := ⟨⟨by decide +kernel, by decide +kernel⟩, List.mem_of_getElem? (i := 2461) (by decide +kernel), List.mem_of_getElem? (i := 4430) (by decide +kernel), List.mem_of_getElem? (i := 4431) (by decide +kernel)⟩
def lw_privs_15 : List (MethodName × Nat) := [(⟨"ScholarsPressModel$Setting", "floatHigh", "(I)J"⟩, 141), (⟨"ScholarsPressModel$Setting", "relax", "(IIJ)V"⟩, 141), (⟨"ScholarsPressModel$Setting", "columnsFirst", "(II)Z"⟩, 141), (⟨"ScholarsPressModel$Setting", "place", "(I)V"⟩, 141), (⟨"ScholarsPressModel$Setting", "piece", "(III)V"⟩, 141), (⟨"ScholarsPressModel$Setting", "foot", "(I)V"⟩, 141), (⟨"ScholarsPressModel$Setting", "next", "()V"⟩, 141), (⟨"ScholarsPressModel$Setting", "number", "()V"⟩, 141), (⟨"ScholarsPressModel$Setting", "findWavering", "()V"⟩, 141), (⟨"ScholarsPressModel$Setting", "samePar", "(ILScholarsPressModel$Setting;I)Z"⟩, 141), (⟨"ScholarsPressModel", "putNumber", "(J)V"⟩, 23), (⟨"ScholarsPressModel", "put", "(I)V"⟩, 23), (⟨"ScholarsPressModel", "putColumn", "(I)V"⟩, 23), (⟨"ScholarsPressModel", "putRow", "(JJI)V"⟩, 23), (⟨"ScholarsPressModel", "putLine", "(JJII)V"⟩, 23)]
theorem lw_r15 : ∀ q ∈ lw_privs_15, lw_okq q := List.forall_mem_cons.mpr ⟨lw_p224, List.forall_mem_cons.mpr ⟨lw_p225, List.forall_mem_cons.mpr ⟨lw_p226, List.forall_mem_cons.mpr ⟨lw_p227, List.forall_mem_cons.mpr ⟨lw_p228, List.forall_mem_cons.mpr ⟨lw_p229, List.forall_mem_cons.mpr ⟨lw_p230, List.forall_mem_cons.mpr ⟨lw_p231, List.forall_mem_cons.mpr ⟨lw_p232, List.forall_mem_cons.mpr ⟨lw_p233, List.forall_mem_cons.mpr ⟨lw_p234, List.forall_mem_cons.mpr ⟨lw_p235, List.forall_mem_cons.mpr ⟨lw_p236, List.forall_mem_cons.mpr ⟨lw_p237, List.forall_mem_cons.mpr ⟨lw_p238, fun _ h => absurd h List.not_mem_nil⟩⟩⟩⟩⟩⟩⟩⟩⟩⟩⟩⟩⟩⟩⟩
def lw_privs : List (MethodName × Nat) := lw_privs_1 ++ (lw_privs_2 ++ (lw_privs_3 ++ (lw_privs_4 ++ (lw_privs_5 ++ (lw_privs_6 ++ (lw_privs_7 ++ (lw_privs_8 ++ (lw_privs_9 ++ (lw_privs_10 ++ (lw_privs_11 ++ (lw_privs_12 ++ (lw_privs_13 ++ (lw_privs_14 ++ (lw_privs_15))))))))))))))
def lw_tbl : List Cond := k2_sels lw_privs ++ tables_1
theorem lw_privs_ok : ∀ q ∈ lw_privs, lw_okq q := by
  show ∀ q ∈ lw_privs_1 ++ (lw_privs_2 ++ (lw_privs_3 ++ (lw_privs_4 ++ (lw_privs_5 ++ (lw_privs_6 ++ (lw_privs_7 ++ (lw_privs_8 ++ (lw_privs_9 ++ (lw_privs_10 ++ (lw_privs_11 ++ (lw_privs_12 ++ (lw_privs_13 ++ (lw_privs_14 ++ (lw_privs_15)))))))))))))), lw_okq q
  exact List.forall_mem_append.mpr ⟨lw_r1, List.forall_mem_append.mpr ⟨lw_r2, List.forall_mem_append.mpr ⟨lw_r3, List.forall_mem_append.mpr ⟨lw_r4, List.forall_mem_append.mpr ⟨lw_r5, List.forall_mem_append.mpr ⟨lw_r6, List.forall_mem_append.mpr ⟨lw_r7, List.forall_mem_append.mpr ⟨lw_r8, List.forall_mem_append.mpr ⟨lw_r9, List.forall_mem_append.mpr ⟨lw_r10, List.forall_mem_append.mpr ⟨lw_r11, List.forall_mem_append.mpr ⟨lw_r12, List.forall_mem_append.mpr ⟨lw_r13, List.forall_mem_append.mpr ⟨lw_r14, lw_r15⟩⟩⟩⟩⟩⟩⟩⟩⟩⟩⟩⟩⟩⟩
-- ===== end of PART A; then your names; then what follows =====
end
section
/-! A THROW AND A CATCH: what a search through a method's table of handlers does where its class isn't resolved yet, and a contract that may end by a throw -/
section TWgo
variable {E : CtlPost} {e : Env} {d : Bool} {acts : List Action} {s : State} {f : JFrame} {a : Addr} {Q : Handler → Pre}
/-- a catch type that is resolved now, and takes the exception -/
theorem tw_go_hit {x : ExceptionTableEntry} {t : List ExceptionTableEntry} {c : ClassId} {cell : Cell} {vm' : Vm} (hx : covers x f.pc = true) (h0 : x.catchType ≠ 0)
    (hg : (Jvm.resolveClass f.method.cls x.catchType).Gives e.toSetting s.vm (.ok c) vm') (hsz : vm'.classes.size ≤ s.vm.classes.size)
    (hcell : s.heap[a]? = some cell) (hobj : ∀ k, cell.vm ≠ .statics k) (hk : ∃ k, vm'.classes[cell.cls]? = some k) (hc : ∃ k, vm'.classes[c]? = some k) (hfit : vm'.assignable cell.cls c = true) :
    wp (findHandler.go f a (x :: t)) Q E e d acts s ↔ Q (.found x.handlerPc) d acts (s.setVm vm') := by
  simp only [covers] at hx
  obtain ⟨ha, ht⟩ := hg.op (op := VmOp.resolveClass f.method.cls x.catchType) rfl
  have hsz' : ((VmOp.resolveClass f.method.cls x.catchType).tables e s.vm).classes.size ≤ s.vm.classes.size := by rw [ht]; exact hsz
  have hcell' : (s.setVm vm').heap[a]? = some cell := hcell
  simp [findHandler.go, hx, h0, ha, ht, hsz, hcell, hobj, hk, hc, hfit, VmOp.dirties, VmOp.acts]
/-- .. and one that doesn't take it: the search goes on -/
theorem tw_go_miss {x : ExceptionTableEntry} {t : List ExceptionTableEntry} {c : ClassId} {cell : Cell} {vm' : Vm} (hx : covers x f.pc = true) (h0 : x.catchType ≠ 0)
    (hg : (Jvm.resolveClass f.method.cls x.catchType).Gives e.toSetting s.vm (.ok c) vm') (hsz : vm'.classes.size ≤ s.vm.classes.size)
    (hcell : s.heap[a]? = some cell) (hobj : ∀ k, cell.vm ≠ .statics k) (hk : ∃ k, vm'.classes[cell.cls]? = some k) (hc : ∃ k, vm'.classes[c]? = some k) (hfit : vm'.assignable cell.cls c = false) :
    wp (findHandler.go f a (x :: t)) Q E e d acts s ↔ wp (findHandler.go f a t) Q E e d acts (s.setVm vm') := by
  simp only [covers] at hx
  obtain ⟨ha, ht⟩ := hg.op (op := VmOp.resolveClass f.method.cls x.catchType) rfl
  have hsz' : ((VmOp.resolveClass f.method.cls x.catchType).tables e s.vm).classes.size ≤ s.vm.classes.size := by rw [ht]; exact hsz
  have hcell' : (s.setVm vm').heap[a]? = some cell := hcell
  simp [findHandler.go, hx, h0, ha, ht, hsz, hcell, hobj, hk, hc, hfit, VmOp.dirties, VmOp.acts]
end TWgo
/-- the search ends at a handler, the tables are vm' then -/
def tw_Finds (e : Env) (s : State) (f : JFrame) (a : Addr) (pc : Nat) (vm' : Vm) : Prop :=
  ∀ (Q : Handler → Pre) (E : CtlPost) (d : Bool) (acts : List Action), wp (findHandler f a) Q E e d acts s ↔ Q (.found pc) d acts (s.setVm vm')
theorem tw_step {e : Env} {s : State} {a : Addr} {f : JFrame} {r : List Frame} {pc : Nat} {vm' : Vm} (hfind : tw_Finds e s f a pc vm') :
    (stepThrowing e s a (.java f :: r)).Is ((s.setVm vm').setFrames (.java { f with pc := pc, stack := [.ref a] } :: r)) [] := by
  simp only [stepThrowing, searchFrame, vmDo]
  generalize hr : Sem.go _ e false [] s = res
  obtain ⟨as, rfl, ha⟩ := Sem.eq_ok_of hr (a := Handler.found pc) (s' := s.setVm vm') (acts' := []) (by simp [hfind _ _ _ _])
  exact ⟨rfl, ha⟩
theorem tw_caught {tb : Tables} {e : Env} {s target : State} {g : JFrame} {c : Code} {below : List Frame} {a : Addr} (h : At s g.method c below) {pc : Nat} {vm' : Vm} (hfind : tw_Finds e ((s.setTop g).pushFrame (.throwing a)) g a pc vm')
    (hrest : Steps tb e below ((s.setVm vm').setTop { g with pc := pc, stack := [.ref a] }) target) :
    Steps tb e below ((s.setTop g).pushFrame (.throwing a)) target := by
  obtain ⟨hgo, hw⟩ := h.throwing a
  refine Steps.head hgo hw ?_
  rw [stepThread_throwing (frames_entered h.top _), (tw_step (s := (s.setTop g).pushFrame (.throwing a)) hfind).1]
  obtain ⟨g₀, hg⟩ := Option.isSome_iff_exists.mp h.top
  obtain ⟨r, hr⟩ := State.topJava?_eq_some.mp hg
  have hr' : (s.setVm vm').frames = .java g₀ :: r := hr
  have e1 : ((((s.setTop g).pushFrame (.throwing a)).setVm vm').setFrames (.java { g with pc := pc, stack := [.ref a] } :: s.frames.tail)) = (s.setVm vm').setTop { g with pc := pc, stack := [.ref a] } := by
    rw [State.setTop_of_frames _ hr', State.pushFrame, State.setTop_of_frames _ hr, State.setFrames_setFrames, hr]
    exact State.setFrames_setFrames (s.setVm vm') _ _
  rw [e1]
  exact hrest
/-- a row of the table that the search passes: it doesn't cover the place, or its class is another one -/
def tw_Pass (s : State) (args : Array Value) (own C : String) (pc : Nat) (x : ExceptionTableEntry) : Prop :=
  covers x pc = false ∨ (covers x pc = true ∧ x.catchType ≠ 0 ∧ ∃ D, (Cond.classLink own x.catchType D).before args s = true ∧ va_Nc C D s)
section TWcatch
variable {p : Program} {l : Launch} {e : Env} {R : Room} {s : State} {m : MethodId} {args : Array Value} {below : List Frame} {meth : Method} {c : Code} {T : State} {locs : List Loc} {cells slots : Nat}
theorem tw_go_pass {own C : String} (hpl : e.platform.magicAccessors = ({} : Platform).magicAccessors) (hown : s.vm.findClass own = some m.cls) {f : JFrame} (hf : f.method = m) {a : Addr} {cell : Cell} (hobj : cell.vm.isStatics = false) (hcls : s.vm.findClass C = some cell.cls) (rest : List ExceptionTableEntry) :
    ∀ (pre : List ExceptionTableEntry) (U : State), s.WarmedH U.vm → U.heap[a]? = some cell → (∀ x ∈ pre, tw_Pass s args own C f.pc x) →
      ∃ vm', s.WarmedH vm' ∧ ∀ (Q : Handler → Pre) (E : CtlPost) (d : Bool) (acts : List Action), wp (findHandler.go f a (pre ++ rest)) Q E e d acts U ↔ wp (findHandler.go f a rest) Q E e d acts (U.setVm vm') := by
  intro pre
  induction pre with
  | nil => intro U hW _ _; exact ⟨U.vm, hW, fun Q E d acts => by rw [State.setVm_self]; rfl⟩
  | cons x t ih =>
    intro U hW hcell hp
    rcases hp x List.mem_cons_self with h | ⟨h, h0, D, hl, hn⟩
    · obtain ⟨vm', hW', k⟩ := ih U hW hcell (fun y hy => hp y (List.mem_cons_of_mem _ hy))
      exact ⟨vm', hW', fun Q E d acts => (Jvm.W.findHandler_go_skip h).trans (k Q E d acts)⟩
    · obtain ⟨cD, hfD, hcl⟩ := Cond.classLink_spec hown hl e.platform hpl
      obtain ⟨hg₁, hwarm₁, -⟩ := State.classEntry (e := e) hW hcl
      obtain ⟨c1, t1, f1, f2, f3⟩ := hn
      cases hcls.symm.trans f1
      cases hfD.symm.trans f2
      obtain ⟨vm', hW', k⟩ := ih (U.setVm (U.vm.noted m.cls x.catchType (.cls cD))) hwarm₁ hcell (fun y hy => hp y (List.mem_cons_of_mem _ hy))
      refine ⟨vm', hW', fun Q E d acts => ?_⟩
      refine (tw_go_miss h h0 (by rw [hf]; exact hg₁) (by simp [Vm.size_noted]) hcell (fun k => VmData.ne_statics_of hobj k) ?_ ?_ ?_).trans (k Q E d acts)
      · obtain ⟨k0, hk0, -⟩ := Vm.findClass_spec hcls
        obtain ⟨k1, hk1, -⟩ := hwarm₁.alike.2.2 _ _ hk0
        exact ⟨k1, hk1⟩
      · obtain ⟨k0, hk0, -⟩ := Vm.findClass_spec hfD
        obtain ⟨k1, hk1, -⟩ := hwarm₁.alike.2.2 _ _ hk0
        exact ⟨k1, hk1⟩
      · rw [hwarm₁.alike.assignable]; exact f3
/-- THE EXCEPTION IS CAUGHT: the rows 'pre' of the table are passed, the row x takes it -/
theorem tw_catch (X : Stand p l e R s m args below meth c T locs cells slots) {own C D : String} (hown : s.vm.findClass own = some m.cls) {g : JFrame} (hg : g.method = m) {a : Addr} {cell : Cell} (hcell : T.heap[a]? = some cell) (hobj : cell.vm.isStatics = false) (hcls : s.vm.findClass C = some cell.cls)
    {pre rest : List ExceptionTableEntry} {x : ExceptionTableEntry} (hsplit : c.exceptionTable.toList = pre ++ x :: rest) (hpre : ∀ y ∈ pre, tw_Pass s args own C g.pc y) (hx : covers x g.pc = true) (h0 : x.catchType ≠ 0)
    (hl : (Cond.classLink own x.catchType D).before args s = true) (hfit : ∀ cD, s.vm.findClass D = some cD → s.vm.assignable cell.cls cD = true) :
    ∃ vm', Stand p l e R s m args below meth c (T.setVm vm') locs cells slots ∧
      ∀ target, Steps p.tables e below ((T.setVm vm').setTop { g with pc := x.handlerPc, stack := [.ref a] }) target → Steps p.tables e below ((T.setTop g).pushFrame (.throwing a)) target := by
  have hpl : e.platform.magicAccessors = ({} : Platform).magicAccessors := by rw [X.admits.platform]
  have hvm : ((T.setTop g).pushFrame (.throwing a)).vm = T.vm := Stand.throwing_vm T g a
  have hhp : ((T.setTop g).pushFrame (.throwing a)).heap = T.heap := Stand.throwing_heap T g a
  obtain ⟨vm1, hW1, k1⟩ := tw_go_pass (e := e) (args := args) hpl hown hg (a := a) hobj hcls (x :: rest) pre ((T.setTop g).pushFrame (.throwing a)) (by rw [hvm]; exact X.warmed) (by rw [hhp]; exact hcell) hpre
  obtain ⟨cD, hfD, hcl⟩ := Cond.classLink_spec hown hl e.platform hpl
  obtain ⟨hg₁, hwarm₁, -⟩ := State.classEntry (e := e) hW1 hcl
  refine ⟨vm1.noted m.cls x.catchType (.cls cD), X.noted hwarm₁, fun target hrest => ?_⟩
  have h : At T g.method c below := by rw [hg]; exact X.here
  refine tw_caught h (vm' := vm1.noted m.cls x.catchType (.cls cD)) ?_ hrest
  intro Q E d acts
  have hm : ((T.setTop g).pushFrame (.throwing a)).vm.method? g.method = some meth := by rw [hvm, hg]; exact X.method'
  rw [Jvm.W.findHandler_eq hm X.code, hsplit, k1]
  refine (tw_go_hit (cell := cell) hx h0 (by rw [hg]; exact hg₁) (by simp [Vm.size_noted]) (by show ((T.setTop g).pushFrame (.throwing a)).heap[a]? = some cell; rw [hhp]; exact hcell) (fun k => VmData.ne_statics_of hobj k) ?_ ?_ ?_).trans ?_
  · obtain ⟨k0, hk0, -⟩ := Vm.findClass_spec hcls
    obtain ⟨k1, hk1, -⟩ := hwarm₁.alike.2.2 _ _ hk0
    exact ⟨k1, hk1⟩
  · obtain ⟨k0, hk0, -⟩ := Vm.findClass_spec hfD
    obtain ⟨k1, hk1, -⟩ := hwarm₁.alike.2.2 _ _ hk0
    exact ⟨k1, hk1⟩
  · rw [hwarm₁.alike.assignable]; exact hfit cD hfD
  · rw [State.setVm_setVm]
end TWcatch
end
section
/-! CONTRACTS THAT MAY END BY A THROW: te_Met, its walk (te_MQ), the four instructions of 'throw new E()', a call that may throw -/
def te_End (st t : State) (L : List Loc) (k n : Nat) : Prop := st.WarmedH t.vm ∧ st.sameButNew ({ t with vm := st.vm } : State) L k n
def te_Met (l : Launch) (y : MethodName) (ws : List Cond) (rm : Room) (Pc : Array Value → State → Prop) (Qc : Array Value → State → Outcome → State → Prop) (mc ms : Nat) (free : Addr → Prop) : Prop :=
  MetFree l y (headSpec ws rm) Pc (fun _ _ _ _ _ => True) (fun a st o t => Qc a st o t ∧ ∃ L, te_End st t L mc ms ∧ ∀ q ∈ L, free q.base)
def te_MQ (below : List Frame) (Qc : Array Value → State → Outcome → State → Prop) (a : Array Value) (s : State) (mc ms : Nat) (free : Addr → Prop) : State → Prop := fun t =>
  ∃ o, t.status = .running ∧ Ended t below o ∧ Qc a s o t ∧ ∃ L, te_End s t L mc ms ∧ ∀ q ∈ L, free q.base
theorem te_tr {l : Launch} {e : Env} (hfl : l.flags = flags0) (ha : l.admits e) : e.platform.stackTraces = false := by
  have h : l.stackTraces = false := by rw [Launch.stackTraces, hfl]; decide +kernel
  rw [ha.platform]; exact h
theorem te_heap {s t : State} {k n : Nat} (h : s.sameButNew ({ t with vm := s.vm } : State) [] k n) : s.heap.size ≤ t.heap.size ∧ ∀ q : Nat, q < s.heap.size → t.heap[q]? = s.heap[q]? := by
  obtain ⟨-, h1, -, -, -, h2⟩ := h
  refine ⟨h1, fun q hq => ?_⟩
  have hc : s.heap[q]? = some (s.heap[q]) := Array.getElem?_eq_getElem hq
  obtain ⟨c', e1, e2, e3, e4⟩ := h2 q _ hc
  have e1' : t.heap[q]? = some c' := e1
  rw [hc, e1']
  have hs : c'.slots = (s.heap[q]).slots := Array.ext_getElem? (fun i => e4 i (by simp))
  rw [e2, hs]
section TEw
variable {p : Program} {l : Launch} {e : Env} {R : Room} {s : State} {m : MethodId} {args : Array Value} {below : List Frame} {meth : Method} {c : Code} {H : Heap} {locs : List Loc} {cells slots : Nat} {Q : State → Prop}
theorem te_of {Qc : Array Value → State → Outcome → State → Prop} {a : Array Value} {mc ms : Nat} {free : Addr → Prop} {g : JFrame} (h : W p l e R s m args below meth c H locs cells slots (MQ below Qc a s mc ms free) g) : W p l e R s m args below meth c H locs cells slots (te_MQ below Qc a s mc ms free) g := by
  intro T hT X
  obtain ⟨t, h1, o, h2, h3, h4, L, h5, h6⟩ := h T hT X
  exact ⟨t, h1, o, h2, h3, h4, L, ⟨h5.2.1, h5.2.2⟩, h6⟩
theorem te_ofW {y : MethodName} {ws ws' : List Cond} {rm : Room} {Pc : Array Value → State → Prop} {Qc : Array Value → State → Outcome → State → Prop} {mc ms : Nat} {free : Addr → Prop} {cc : ByteArray} {maxL : Nat} {ret : Option FieldType}
    (hy : plainName y.cls = true) (hw : ws = Cond.code y cc maxL ret :: ws')
    (body : ∀ p e s m args below meth c s₁, BodyLoose p l y (headSpec ws rm) cc maxL ret e s m args below meth c s₁ → c.maxLocals = maxL → Pc args s →
      W p l e (headSpec ws rm).room s m args below meth c s.heap [] 0 0 (te_MQ below Qc args s mc ms free) (entryFrame m args maxL)) : te_Met l y ws rm Pc Qc mc ms free := by
  refine MetFree.of_bodyS (code := cc) (maxLocals := maxL) (ret := ret) hy ?_ ?_
  · intro args s m h hn
    obtain ⟨meth, c, h1, h2, h3, h4, h5, h6, -, -⟩ := Cond.code_spec hn (atoms_spec (ws := ws) h _ (by rw [hw]; exact List.mem_cons_self))
    exact ⟨meth, c, h1, h2, h3, h4, h5, h6⟩
  · intro p e s m args below meth c s₁ B hml hP _
    have hh0 : s₁.heap = s.heap := by rw [B.state]; rfl
    obtain ⟨t, a1, o, b1, b2, b3⟩ := body p e s m args below meth c s₁ B hml hP s₁ hh0 (Stand.of_body B)
    exact ⟨t, o, a1, b1, b2, b3⟩
/-- what is known behind a throw that nothing was written ahead of -/
def te_Thrown (cls : String) (s : State) (a : Nat) (t : State) : Prop :=
  s.heap.size ≤ a ∧ (∃ ce : Cell, t.heap[a]? = some ce ∧ ce.vm.isStatics = false ∧ s.vm.findClass cls = some ce.cls) ∧ s.heap.size ≤ t.heap.size ∧ (∀ q : Nat, q < s.heap.size → t.heap[q]? = s.heap[q]?) ∧ s.WarmedH t.vm
/-- throw new E(): new, dup, invokespecial, athrow, out of a method without handlers, nothing written before -/
theorem te_throw {cc : ByteArray} {Qc : Array Value → State → Outcome → State → Prop} {free : Addr → Prop} {pc : Nat} {ls : Array Slot} (hexec : p.tables.exec = Jvm.exec) (hb : c.code = cc) (htr : e.platform.stackTraces = false) {own cls : String} {names : List String} {iN ic : Nat} (hown : s.vm.findClass own = some m.cls)
    (hcls : Bundle.fit cls = true) (hnames : ∀ n ∈ names, Bundle.fit n = true) (hW : ∀ w ∈ Bundle.ownAtoms0 own ic cls names, w.before args s = true) (hclink : (Cond.classLink own iN cls).before args s = true) (hinit : (Cond.initialized cls).before args s = true)
    (hh : c.exceptionTable.isEmpty = true) (hml : ls.size = c.maxLocals) (hcells : cells + 1 ≤ R.cells) (hslots : slots + 6 ≤ R.slots) (hfr : names.length + 3 < R.frames) (hlo : 1 + (13 * (names.length + 1) + 41) ≤ R.locals)
    (h0 : decode cc pc = .ok (.new iN, 3)) (h3 : decode cc (pc + 3) = .ok (.dup, 1)) (h4 : decode cc (pc + 4) = .ok (.invokespecial ic, 3)) (h7 : decode cc (pc + 7) = .ok (.athrow, 1)) (hH : s.heap.size ≤ H.size)
    (hq : ∀ (t : State) (a : Nat), te_Thrown cls s a t → Qc args s (.threw a) t) (hlocks : meth.locks = false) :
    W p l e R s m args below meth c H [] cells slots (te_MQ below Qc args s (cells + 1) (slots + 6) free) (F0 m pc ls []) := by
  refine W.newc hexec hb hown hclink (n := 6) (hW (.instantiable cls 6) (by simp [Bundle.ownAtoms0])) hinit rfl h0 hcells hslots (fun cC kC f1 f2 f3 f4 => ?_)
  refine W.eq (g2 := F0 m (pc + 3) ls [.ref H.size]) rfl ?_
  refine lv_dup hexec hb h3 rfl ?_
  intro T hT X
  have hx0 : c.exceptionTable.toList = [] := by
    have h0 : c.exceptionTable.size = 0 := by simpa [Array.isEmpty] using hh
    exact List.eq_nil_of_length_eq_zero (by simpa using h0)
  obtain ⟨U, st, hrun, hend, hwarm, hsame, ce, hce, hoc⟩ := X.ctorThrow0 hexec htr (own := own) (cls := cls) (names := names) (ic := ic) hown hcls hnames hW (fun x hx => by cases hx) (a := H.size) (cX := cC) (kX := kC) f1 f2
    (by rw [hT]; simp) hH (g := F0 m (pc + 3 + 1) ls [.ref H.size, .ref H.size]) rfl hml rfl rfl (rest := []) rfl (by rw [hb]; exact h4) (by rw [hb]; exact h7) (fun x hx => by rw [hx0] at hx; cases hx) hfr (by simpa [JFrame.monitorRoom, Value.category] using hlo) hlocks
  exact ⟨U, st, .threw H.size, hrun, hend, hq U H.size ⟨hH, ⟨ce, hce, by rw [hoc.vm]; rfl, hoc.cls⟩, (te_heap hsame).1, (te_heap hsame).2, hwarm⟩, [], ⟨hwarm, hsame⟩, fun q hq => by cases hq⟩
/-- a callee's contract, at a call: it comes back, or its exception stands over the caller's frame -/
theorem te_back {y : MethodName} {ws : List Cond} {rm : Room} {Pc : Array Value → State → Prop} {Qc : Array Value → State → Outcome → State → Prop} {mc ms : Nat} {free : Addr → Prop} {bytes : ByteArray} {maxL : Nat} {ret : Option FieldType} {len Wd : Nat} {T : State}
    (hM : te_Met l y ws rm Pc Qc mc ms free) (hblind : FrameBlind Pc) (hrc : rm.cells = mc) (hrs : rm.slots = ms) (hframes : rm.frames + 1 ≤ R.frames) (hlocals : Wd + (maxL + 11) + rm.locals ≤ R.locals)
    (hws : ∀ w ∈ ws, ∀ (a' : Array Value) (U : State), s.WarmedH U.vm → w.before a' U = true) (hcode : Cond.code y bytes maxL ret ∈ ws) (hinit : ∀ (a' : Array Value) (U : State), s.WarmedH U.vm → (Cond.initialized y.cls).before a' U = true)
    (X : Stand p l e R s m args below meth c T locs cells slots) {g : JFrame} {ig : Instr} {mk : MethodId} {a : Array Value} (hg : g.method = m) (hsize : g.locals.size = c.maxLocals) (hdg : decode c.code g.pc = .ok (ig, len))
    (hWd : 2 * g.monitorRoom + (g.stack.map fun v => v.category).sum ≤ Wd) (hn : T.methodNamed? y = some mk) (hc1 : cells + mc ≤ R.cells) (hs1 : slots + ms ≤ R.slots) (hp : Pc a T) :
    ∃ (o : Outcome) (t T' : State) (L : List Loc), Qc a (T.calling g mk a) o t ∧ (∀ q ∈ L, free q.base) ∧ T'.heap = t.heap ∧ T'.vm = t.vm ∧ Stand p l e R s m args below meth c T' (locs ++ L) (cells + mc) (slots + ms) ∧
      (∀ v, o = .returned v → Steps p.tables e below (doInvoke e (T.setTop g) [] mk a).1 (T'.setTop { g with pc := g.pc + len, stack := v.toList ++ g.stack })) ∧
      (∀ x, o = .threw x → Steps p.tables e below (doInvoke e (T.setTop g) [] mk a).1 ((T'.setTop g).pushFrame (.throwing x))) := by
  have h2 : (Cond.code y bytes maxL ret).before a T = true := hws _ hcode _ _ X.warmed
  obtain ⟨methY, cY, hmY, hcY, -, hlY, -, -, -, -⟩ := Cond.code_spec hn h2
  obtain ⟨kY, hkY, -⟩ := className_of_methodNamed hn
  have hinitY : kY.init = .initialized := Cond.initialized_spec (findClass_of_methodNamed hn) hkY (hinit a T X.warmed)
  have h : At T g.method c below := by rw [hg]; exact X.here
  have happ : (headSpec ws rm).appliesLoose y e.platform (T.calling g mk a) = true :=
    Spec.appliesLoose_calling (g := g) h hdg hn hkY hinitY
      (X.room_calling (g := g) (R' := (headSpec ws rm).room) hsize hmY hcY hframes (by rw [hlY]; show _ + _ + rm.locals ≤ _; omega) (by rw [show (headSpec ws rm).room.cells = mc from hrc]; exact hc1) (by rw [show (headSpec ws rm).room.slots = ms from hrs]; exact hs1))
      (atoms_intro fun w hw => hws w hw _ _ X.warmed)
  have hfr : (T.setTop g).frames = [.java g] ++ below := by rw [State.frames_setTop' g h.top, X.tail]; rfl
  obtain ⟨o, t, hsteps, -, hend, hq, L, hE, hL⟩ := Steps.callFree hM p X.admits X.cas X.clock (acts := []) hfr happ (hblind _ _ g mk hp) trivial
  have hend' : Ended t (.java g :: below) o := by rw [hfr] at hend; exact hend
  cases o with
  | returned v =>
    obtain ⟨T', X', -, -, ht⟩ := X.outOf hg hdg (mk := mk) (a := a) hend' hE.1 hE.2
    refine ⟨.returned v, t, T', L, hq, hL, ?_, ?_, X', ?_, fun x h => by cases h⟩
    · rw [ht]; simp [State.setTop, State.modifyTopJava]
    · rw [ht]; simp [State.setTop, State.modifyTopJava]
    · intro v' h; cases h; rw [← ht]; exact hsteps
  | threw x =>
    obtain ⟨T', X', -, -, ht⟩ := X.outOfThrown hg (mk := mk) (a := a) hend' hE.1 hE.2
    refine ⟨.threw x, t, T', L, hq, hL, ?_, ?_, X', (fun v h => by cases h), ?_⟩
    · rw [ht]; exact (Stand.throwing_heap T' g x).symm
    · rw [ht]; exact (Stand.throwing_vm T' g x).symm
    · intro x' h; cases h; rw [← ht]; exact hsteps
end TEw
end
section
/-! A CALL THAT MAY THROW, at the caller: te_Run, te_runV; te_Qx: an answer or one of some exceptions; te_calli; te_catch -/
def te_Run (p : Program) (l : Launch) (e : Env) (R : Room) (s : State) (m : MethodId) (args : Array Value) (below : List Frame) (meth : Method) (c : Code) (H : Heap) (locs : List Loc) (cells slots mc ms : Nat) (g : JFrame) (rest : List Value) (Qa : State → Outcome → State → Prop) (free : Addr → Prop) : Prop :=
  ∀ T : State, T.heap = H → Stand p l e R s m args below meth c T locs cells slots → ∃ (o : Outcome) (st₀ t T' : State) (L : List Loc), st₀.heap = H ∧ s.WarmedH st₀.vm ∧ Stand p l e R s m args below meth c T' (locs ++ L) (cells + mc) (slots + ms) ∧ (∀ q ∈ L, free q.base) ∧ T'.heap = t.heap ∧ T'.vm = t.vm ∧ Qa st₀ o t ∧
    (∀ v, o = .returned v → Goes p e below T g T' { g with pc := g.pc + 3, stack := v.toList ++ rest }) ∧
    (∀ x, o = .threw x → ∀ target, Steps p.tables e below ((T'.setTop { g with stack := rest }).pushFrame (.throwing x)) target → Steps p.tables e below (T.setTop g) target)
def te_Qx (ok : Array Value → State → Outcome → State → Prop) (thr : String → Prop) : Array Value → State → Outcome → State → Prop := fun a st o t =>
  (∃ v, o = .returned v ∧ ok a st o t) ∨ ∃ (cls : String) (x : Nat), thr cls ∧ o = .threw x ∧ te_Thrown cls st x t
section TErun
variable {p : Program} {l : Launch} {e : Env} {R : Room} {s : State} {m : MethodId} {args : Array Value} {below : List Frame} {meth : Method} {c : Code} {H H0 : Heap} {locs : List Loc} {cells slots : Nat} {Q : State → Prop}
variable {y : MethodName} {bytes cc : ByteArray} {maxL nL mc ms n index : Nat} {ret : Option FieldType} {ws : List Cond} {rm : Room} {Pc : Array Value → State → Prop} {Qc : Array Value → State → Outcome → State → Prop} {free : Addr → Prop} {Ts : List Cond} {own C : String} {b : Addr} {As rest : List Value} {g : JFrame}
theorem te_runV (S : CallFix p m c cc nL s args Ts own) (hM : te_Met l y ws rm Pc Qc mc ms free) (cw : CallW R s args own C index y bytes maxL ret ws rm mc ms n) (hp : PreV s H C b Pc As)
    (hg : g.method = m) (hn : As.length = n) (hsize : g.locals.size = nL) (hstack : g.stack = As.reverse ++ .ref b :: rest) (hW : 2 * g.monitorRoom + (rest.map fun v => v.category).sum ≤ 8) (hdg : decode cc g.pc = .ok (.invokevirtual index, 3)) (hf : cells + mc ≤ R.cells ∧ slots + ms ≤ R.slots) :
    te_Run p l e R s m args below meth c H locs cells slots mc ms g rest (Qc (Value.ref b :: As).toArray) free := by
  obtain ⟨⟨hrc, hrs, hfr, hlo, hws, hcw, hcode, hini, hy, hlen, hl⟩, hin, hse⟩ := cw
  obtain ⟨hx, hb, hml, ho, -⟩ := S
  obtain ⟨hbl, ⟨cellB, hcB, hoB, hclB⟩, hPc⟩ := hp
  intro T hT X
  obtain ⟨mk, methM, hnamed, hmethM, hstM, habM⟩ := Cond.instanceMethod_spec hin
  obtain ⟨methM', cM, hmethM', -, -, -, -, -, -, hsigM⟩ := Cond.code_spec hnamed hcode
  cases hmethM.symm.trans hmethM'
  obtain ⟨c2, r2, m2, q1, q2, q3, q4, kP, hkP, hkPi⟩ := Cond.selects_spec hse
  cases hclB.symm.trans q1
  cases (State.methodFound?_of_named hnamed hy).symm.trans q2
  cases hnamed.symm.trans q3
  have hselP : selectMethod e.platform s.vm cellB.cls mk = .method mk := by rw [Launch.admits_selectMethod X.admits]; exact q4
  have hdg' : decode c.code g.pc = .ok (.invokevirtual index, 3) := by rw [hb]; exact hdg
  obtain ⟨vm₁, X₁, hstep₁⟩ := X.invokevirtual hx ho hl hnamed hmethM hstM hkP hkPi hy (a := b) (cell := cellB) (by rw [hT]; exact hcB)
    (fun z h => by rw [h] at hoB; cases hoB) hselP hmethM habM hkP hkPi (g := g) hg (argsL := As) (rest := rest) (hn.trans (hlen _ hsigM)) hstack hdg'
  obtain ⟨o, t, T', L, hq, hL, e1, e2, X', kr, kt⟩ := te_back (Wd := 8) (len := 3) (bytes := bytes) (maxL := maxL) (ret := ret) hM hbl hrc hrs hfr hlo hws hcw (fun a' U hW => word_at hW (Or.inl (by first | rfl | simp [Cond.onTables, Cond.keeps, Cond.steady])) hini)
    X₁ (g := { g with stack := rest }) (mk := mk) (a := (Value.ref b :: As).toArray) hg (hsize.trans hml.symm) hdg' hW (X₁.named hnamed) hf.1 hf.2 (hPc (T.setVm vm₁) hT X₁.warmed)
  refine ⟨o, (T.setVm vm₁).calling { g with stack := rest } mk (Value.ref b :: As).toArray, t, T', L, hT, X₁.warmed, X', hL, e1, e2, hq, ?_, ?_⟩
  · intro v hv target h
    exact hstep₁ _ fun acts => by rw [doInvoke_state]; exact (kr v hv).trans h
  · intro x hx target h
    exact hstep₁ _ fun acts => by rw [doInvoke_state]; exact (kt x hx).trans h
variable {A0 A1 : Nat → Prop} {pc : Nat} {ls : Array Slot} {st0 : List Value} {a : Array Value}
theorem te_calli {S : Type} {post : Int32 → S → Prop} {B : S → State → Prop} {thr : String → Prop} (hr : te_Run p l e R s m args below meth c H locs cells slots mc ms (F0 m pc ls st0) rest (te_Qx (va_Qi post B A1) thr a) free) (hS : va_S A0 H0 H locs) (hA : ∀ q, q < H.size → A1 q → A0 q) (hf : ∀ q, free q → A0 q)
    (kk : ∀ (r : Int32) (u : S) (t : State) (H1 : Heap) (locs1 : List Loc), t.heap = H1 → s.vm.Alike t.vm → post r u → B u t → H.size ≤ H1.size → (∀ q : Nat, q < H.size → ¬ A1 q → H1[q]? = H[q]?) → va_S A0 H0 H1 locs1 → W p l e R s m args below meth c H1 locs1 (cells + mc) (slots + ms) Q (F0 m (pc + 3) ls (.int r :: rest)))
    (kx : ∀ (cls : String) (x : Nat) (H1 : Heap) (locs1 : List Loc), thr cls → H.size ≤ x → (∃ ce : Cell, H1[x]? = some ce ∧ ce.vm.isStatics = false ∧ s.vm.findClass cls = some ce.cls) → H.size ≤ H1.size → (∀ q : Nat, q < H.size → H1[q]? = H[q]?) → va_S A0 H0 H1 locs1 →
      ∀ T' : State, T'.heap = H1 → Stand p l e R s m args below meth c T' locs1 (cells + mc) (slots + ms) → ∃ t2, Steps p.tables e below ((T'.setTop (F0 m pc ls rest)).pushFrame (.throwing x)) t2 ∧ Q t2) :
    W p l e R s m args below meth c H locs cells slots Q (F0 m pc ls st0) := by
  intro T hT X
  obtain ⟨o, st₀, t, T', L, h0, hw0, X', hL, e1, e2, hq, kr, kt⟩ := hr T hT X
  have hlocs : ∀ q ∈ locs ++ L, A0 q.base := fun q hq => by
    rcases List.mem_append.mp hq with h | h
    · exact hS.2.2 q h
    · exact hf _ (hL q h)
  rcases hq with ⟨v, hv, hok⟩ | ⟨cls, x, ht, hv, hx⟩
  · obtain ⟨⟨r, u, hv2, hp, hb⟩, hz, hk⟩ := hok
    rw [h0] at hz hk
    have hv3 := hv2
    obtain ⟨t2, a1, b1⟩ := kk r u t T'.heap (locs ++ L) e1.symm (by rw [← e2]; exact X'.warmed.alike) hp hb (by rw [e1]; exact hz) (fun q h1 h2 => by rw [e1]; exact hk q h1 h2)
      ⟨Nat.le_trans hS.1 (by rw [e1]; exact hz), fun q h1 h2 => by rw [e1, hk q (Nat.lt_of_lt_of_le h1 hS.1) (fun z => h2 (hA q (Nat.lt_of_lt_of_le h1 hS.1) z))]; exact hS.2.1 q h1 h2, hlocs⟩ T' rfl X'
    exact ⟨t2, kr _ hv3 t2 a1, b1⟩
  · obtain ⟨g1, ⟨ce, g2, g3, g4⟩, g5, g6, g7⟩ := hx
    rw [h0] at g1 g5 g6
    have hfc : s.vm.findClass cls = some ce.cls := by rw [← hw0.alike.findClass]; exact g4
    obtain ⟨t2, a1, b1⟩ := kx cls x T'.heap (locs ++ L) ht g1 ⟨ce, by rw [e1]; exact g2, g3, hfc⟩ (by rw [e1]; exact g5) (fun q h => by rw [e1]; exact g6 q h)
      ⟨Nat.le_trans hS.1 (by rw [e1]; exact g5), fun q h1 h2 => by rw [e1, g6 q (Nat.lt_of_lt_of_le h1 hS.1)]; exact hS.2.1 q h1 h2, hlocs⟩ T' rfl X'
    exact ⟨t2, kt x hv t2 a1, b1⟩
theorem te_calll {S : Type} {post : Int64 → S → Prop} {B : S → State → Prop} {thr : String → Prop} (hr : te_Run p l e R s m args below meth c H locs cells slots mc ms (F0 m pc ls st0) rest (te_Qx (va_Ql post B A1) thr a) free) (hS : va_S A0 H0 H locs) (hA : ∀ q, q < H.size → A1 q → A0 q) (hf : ∀ q, free q → A0 q)
    (kk : ∀ (r : Int64) (u : S) (t : State) (H1 : Heap) (locs1 : List Loc), t.heap = H1 → s.vm.Alike t.vm → post r u → B u t → H.size ≤ H1.size → (∀ q : Nat, q < H.size → ¬ A1 q → H1[q]? = H[q]?) → va_S A0 H0 H1 locs1 → W p l e R s m args below meth c H1 locs1 (cells + mc) (slots + ms) Q (F0 m (pc + 3) ls (.long r :: rest)))
    (kx : ∀ (cls : String) (x : Nat) (H1 : Heap) (locs1 : List Loc), thr cls → H.size ≤ x → (∃ ce : Cell, H1[x]? = some ce ∧ ce.vm.isStatics = false ∧ s.vm.findClass cls = some ce.cls) → H.size ≤ H1.size → (∀ q : Nat, q < H.size → H1[q]? = H[q]?) → va_S A0 H0 H1 locs1 →
      ∀ T' : State, T'.heap = H1 → Stand p l e R s m args below meth c T' locs1 (cells + mc) (slots + ms) → ∃ t2, Steps p.tables e below ((T'.setTop (F0 m pc ls rest)).pushFrame (.throwing x)) t2 ∧ Q t2) :
    W p l e R s m args below meth c H locs cells slots Q (F0 m pc ls st0) := by
  intro T hT X
  obtain ⟨o, st₀, t, T', L, h0, hw0, X', hL, e1, e2, hq, kr, kt⟩ := hr T hT X
  have hlocs : ∀ q ∈ locs ++ L, A0 q.base := fun q hq => by
    rcases List.mem_append.mp hq with h | h
    · exact hS.2.2 q h
    · exact hf _ (hL q h)
  rcases hq with ⟨v, hv, hok⟩ | ⟨cls, x, ht, hv, hx⟩
  · obtain ⟨⟨r, u, hv2, hp, hb⟩, hz, hk⟩ := hok
    rw [h0] at hz hk
    have hv3 := hv2
    obtain ⟨t2, a1, b1⟩ := kk r u t T'.heap (locs ++ L) e1.symm (by rw [← e2]; exact X'.warmed.alike) hp hb (by rw [e1]; exact hz) (fun q h1 h2 => by rw [e1]; exact hk q h1 h2)
      ⟨Nat.le_trans hS.1 (by rw [e1]; exact hz), fun q h1 h2 => by rw [e1, hk q (Nat.lt_of_lt_of_le h1 hS.1) (fun z => h2 (hA q (Nat.lt_of_lt_of_le h1 hS.1) z))]; exact hS.2.1 q h1 h2, hlocs⟩ T' rfl X'
    exact ⟨t2, kr _ hv3 t2 a1, b1⟩
  · obtain ⟨g1, ⟨ce, g2, g3, g4⟩, g5, g6, g7⟩ := hx
    rw [h0] at g1 g5 g6
    have hfc : s.vm.findClass cls = some ce.cls := by rw [← hw0.alike.findClass]; exact g4
    obtain ⟨t2, a1, b1⟩ := kx cls x T'.heap (locs ++ L) ht g1 ⟨ce, by rw [e1]; exact g2, g3, hfc⟩ (by rw [e1]; exact g5) (fun q h => by rw [e1]; exact g6 q h)
      ⟨Nat.le_trans hS.1 (by rw [e1]; exact g5), fun q h1 h2 => by rw [e1, g6 q (Nat.lt_of_lt_of_le h1 hS.1)]; exact hS.2.1 q h1 h2, hlocs⟩ T' rfl X'
    exact ⟨t2, kt x hv t2 a1, b1⟩
/-- the handler takes it: the walk goes on there -/
theorem te_catch {cls D : String} {x hpc : Nat} {H1 : Heap} {locs1 : List Loc} {pre tl : List ExceptionTableEntry} {en : ExceptionTableEntry} (hown : s.vm.findClass own = some m.cls) (hce : ∃ ce : Cell, H1[x]? = some ce ∧ ce.vm.isStatics = false ∧ s.vm.findClass cls = some ce.cls)
    (hsplit : c.exceptionTable.toList = pre ++ en :: tl) (hpre : ∀ y ∈ pre, tw_Pass s args own cls pc y) (hx : covers en pc = true) (h0 : en.catchType ≠ 0) (hpcs : en.handlerPc = hpc)
    (hl : (Cond.classLink own en.catchType D).before args s = true) (hfit : ∀ cC cD, s.vm.findClass cls = some cC → s.vm.findClass D = some cD → s.vm.assignable cC cD = true)
    (kk : W p l e R s m args below meth c H1 locs1 cells slots Q (F0 m hpc ls [.ref x])) :
    ∀ T' : State, T'.heap = H1 → Stand p l e R s m args below meth c T' locs1 cells slots → ∃ t2, Steps p.tables e below ((T'.setTop (F0 m pc ls rest)).pushFrame (.throwing x)) t2 ∧ Q t2 := by
  intro T' hT X
  obtain ⟨ce, c1, c2, c3⟩ := hce
  obtain ⟨vm', X', st⟩ := tw_catch X hown (g := F0 m pc ls rest) rfl (a := x) (cell := ce) (by rw [hT]; exact c1) c2 c3 hsplit hpre hx h0 hl (fun cD h => hfit _ _ c3 h)
  obtain ⟨t, a1, b1⟩ := kk (T'.setVm vm') hT X'
  subst hpcs
  exact ⟨t, st t a1, b1⟩
end TErun
end
section
/-! THE TABLES' WORDS, ALL AT ONCE: those that stay when the tables grow warmer (kd), as one list (tt) and one premise (tb) -/
def kd (w : Cond) : Bool := match w with
  | .arrayClass _ => true
  | .methodLinkNest .. => true
  | .fieldLinkNest .. => true
  | w => w.onTables && w.keepsCast
theorem kd_warm {w : Cond} (hk : kd w = true) {args a' : Array Value} {s U : State} (hW : s.WarmedH U.vm) (h : w.before args s = true) : w.before a' U = true := by
  have std : ∀ w : Cond, (w.onTables && w.keepsCast) = true → w.before args s = true → w.before a' U = true := by
    intro w hk h
    simp only [Bool.and_eq_true] at hk
    have h1 : w.before args (s.setVm U.vm) = true := Cond.before_shiftedCast (State.Shifted.of_warmed hW) w hk.2 h
    exact va_tabs hk.1 (rfl : (s.setVm U.vm).vm = U.vm) h1
  cases w
  case arrayClass ty => exact word_at hW (Or.inr ⟨ty, rfl⟩) h
  case methodLinkNest a i x b => exact va_Nw.use rfl (va_Nw.warmM hW (va_Nw.of rfl h))
  case fieldLinkNest a i b n d x => exact va_Nw.use rfl (va_Nw.warmF hW (va_Nw.of rfl h))
  all_goals exact std _ hk h
def tt : List Cond := lw_tbl.filter kd
/-- all words of the tables hold -/
def tb (U : State) : Prop := ∀ w ∈ tt, w.before #[] U = true
theorem tt_mem {w : Cond} (i : Nat) (h : lw_tbl[i]? = some w) (hk : kd w = true) : w ∈ tt := List.mem_filter.mpr ⟨List.mem_of_getElem? h, hk⟩
theorem tt_kd {w : Cond} (h : w ∈ tt) : kd w = true := (List.mem_filter.mp h).2
theorem tb.hts {U : State} (h : tb U) {args : Array Value} : ∀ w ∈ tt, w.before args U = true := fun w hw => kd_warm (tt_kd hw) (State.WarmedH.refl U) (h w hw)
theorem tb.warm {s U : State} (h : tb s) (hW : s.WarmedH U.vm) : tb U := fun w hw => kd_warm (tt_kd hw) hW (h w hw)
theorem tb.calling {U : State} {g : JFrame} {mk : MethodId} {a : Array Value} (h : tb U) : tb (U.calling g mk a) := h.warm (State.WarmedH.refl U)
theorem tb.of {args : Array Value} {s : State} (h : ∀ w ∈ lw_tbl, w.before args s = true) : tb s := fun w hw => kd_warm (tt_kd hw) (State.WarmedH.refl s) (h w (List.mem_filter.mp hw).1)
/-- words by their places in lw_tbl -/
theorem tt_in {ws : List Cond} (ps : List Nat) (hp : ws = ps.filterMap (fun i => lw_tbl[i]?)) (hk : ws.all kd = true) : ∀ w ∈ ws, w ∈ tt := by
  intro w hw
  have hk1 := List.all_eq_true.mp hk w hw
  rw [hp] at hw
  obtain ⟨i, -, hi⟩ := List.mem_filterMap.mp hw
  exact tt_mem i hi hk1
theorem tt_good {ws : List Cond} (hm : ∀ w ∈ ws, w ∈ tt) (h : ws.all goodWord = true) : GoodIn tt ws := fun w hw => ⟨hm w hw, good_of_word (List.all_eq_true.mp h w hw)⟩
/-- a virtual call's five words -/
theorem tt_V {own C : String} {idx : Nat} {y : MethodName} {b : ByteArray} {n : Nat} {r : Option FieldType} (h1 : Cond.methodLink own idx y ∈ tt) (h2 : Cond.instanceMethod y ∈ tt) (h3 : Cond.selects C y y ∈ tt) (h4 : Cond.initialized C ∈ tt) (h5 : Cond.code y b n r ∈ tt) : GoodIn tt (wsV own idx C y [Cond.code y b n r]) := by
  refine tt_good (fun w hw => ?_) rfl
  simp only [wsV, List.cons_append, List.nil_append, List.mem_cons, List.not_mem_nil, or_false] at hw
  rcases hw with rfl | rfl | rfl | rfl | rfl <;> assumption
/-- a static call's four -/
theorem tt_S {own : String} {idx : Nat} {y : MethodName} {b : ByteArray} {n : Nat} {r : Option FieldType} (h1 : Cond.methodLink own idx y ∈ tt) (h2 : Cond.static y ∈ tt) (h3 : Cond.initialized own ∈ tt) (h4 : Cond.code y b n r ∈ tt) : GoodIn tt (wsS own idx y [Cond.code y b n r]) := by
  refine tt_good (fun w hw => ?_) rfl
  simp only [wsS, List.cons_append, List.nil_append, List.mem_cons, List.not_mem_nil, or_false] at hw
  rcases hw with rfl | rfl | rfl | rfl <;> assumption
theorem tt_1 {w : Cond} (h : w ∈ tt) (hg : goodWord w = true) : GoodIn tt [w] := tt_good (fun x hx => by rw [List.mem_singleton.mp hx]; exact h) (by simp [hg])
end
section
/-! WORDS OF A THROW: those on statics (they stay where the old cells stay), and the lists of each exception -/
def te_Base (s0 U : State) : Prop := s0.vm.Alike U.vm ∧ ∀ q : Nat, q < s0.heap.size → U.heap[q]? = s0.heap[q]?
theorem te_ls {s0 U : State} {args args' : Array Value} {O n d : String} (hB : te_Base s0 U) (h : (Cond.laysStatic O n d).before args s0 = true) : (Cond.laysStatic O n d).before args' U = true := by
  have h1 := Cond.laysStatic_setVm hB.1 h
  obtain ⟨c, k, i, f, a, cell, hc, hi, hst, ha, hcell, hs, hcls, hlt, hty⟩ := Cond.laysStatic_spec h1
  have hcell0 : s0.heap[a]? = some cell := hcell
  have hcell' : U.heap[a]? = some cell := by rw [hB.2 a (Array.getElem?_eq_some_iff.mp hcell0).1]; exact hcell0
  exact Cond.laysStatic_of (s := U) hc hi hst ha hcell' hs hcls hlt hty
theorem te_rf {s0 U : State} {args args' : Array Value} {O n d : String} (hB : te_Base s0 U) (hl : (Cond.laysStatic O n d).before args s0 = true) (h : (Cond.isRef (.static O n d)).before args s0 = true) : (Cond.isRef (.static O n d)).before args' U = true := by
  obtain ⟨c, k, i, f, a, cell, hc, hi, hst, ha, hcell, hs, -, -, -⟩ := Cond.laysStatic_spec hl
  obtain ⟨u, hu⟩ := Cond.staticRefV hi hst ha hcell hs h
  obtain ⟨k', hi', he⟩ := State.fieldFound?_setVm hB.1 hi
  have hi2 : U.fieldFound? O n d = some (c, k', i, f) := hi'
  have ha2 : k'.statics = some a := by rw [he]; exact ha
  have hcell' : U.heap[a]? = some cell := by rw [hB.2 a (Array.getElem?_eq_some_iff.mp hcell).1]; exact hcell
  have ev : (Term.static O n d).eval args' U none [] U = some u.v := by simp [Term.eval, State.fieldNamed?, hi2, hst, ha2, hcell', hs, hu]
  obtain ⟨v, hv⟩ := u
  have ev : (Term.static O n d).eval args' U none [] U = some v := ev
  simp only [Cond.before, Cond.holds, Cond.value, ev]
  cases v <;> first | rfl | cases hv
def te_us : Cond := .isRef (.static Bundle.tN "UNASSIGNED_STACK" Bundle.steD)
def te_ss : Cond := .isRef (.static Bundle.tN "SUPPRESSED_SENTINEL" Bundle.listD)
def te_lu : Cond := .laysStatic Bundle.tN "UNASSIGNED_STACK" Bundle.steD
def te_lss : Cond := .laysStatic Bundle.tN "SUPPRESSED_SENTINEL" Bundle.listD
/-- what the start says of Throwable's two statics -/
def te_S0 (s0 : State) : Prop := te_us.before #[] s0 = true ∧ te_ss.before #[] s0 = true ∧ te_lu.before #[] s0 = true ∧ te_lss.before #[] s0 = true
def te_heapW : Cond → Bool
  | .isRef _ => true
  | .laysStatic .. => true
  | _ => false
theorem te_own {s0 U : State} {args : Array Value} {own cls : String} {ic : Nat} {names : List String} (hS : te_S0 s0) (hB : te_Base s0 U) (hb : tb U) (h1 : ∀ w ∈ (Bundle.ownAtoms0 own ic cls names).filter (fun w => !te_heapW w), w ∈ tt)
    (h2 : (Bundle.ownAtoms0 own ic cls names).filter te_heapW = [te_lu, te_lss, te_us, te_ss]) : ∀ w ∈ Bundle.ownAtoms0 own ic cls names, w.before args U = true := by
  intro w hw
  by_cases hx : te_heapW w = true
  · have hm : w ∈ (Bundle.ownAtoms0 own ic cls names).filter te_heapW := List.mem_filter.mpr ⟨hw, hx⟩
    rw [h2] at hm
    simp only [List.mem_cons, List.not_mem_nil, or_false] at hm
    obtain ⟨q1, q2, q3, q4⟩ := hS
    rcases hm with rfl | rfl | rfl | rfl
    · exact te_ls hB q3
    · exact te_ls hB q4
    · exact te_rf hB q3 q1
    · exact te_rf hB q4 q2
  · exact hb.hts w (h1 w (List.mem_filter.mpr ⟨hw, by simp [hx]⟩))
theorem te_Base.refl (s : State) : te_Base s s := ⟨Vm.Alike.refl s.vm, fun _ _ => rfl⟩
def x_IAE : String := "java/lang/IllegalArgumentException"
abbrev ic_IAE : Nat := 57
abbrev iN_IAE : Nat := 55
theorem xf_IAE : Bundle.fit x_IAE = true := by decide +kernel
theorem xo_IAE : ∀ w ∈ (Bundle.ownAtoms0 "ScholarsPress" 57 x_IAE ["java/lang/RuntimeException", "java/lang/Exception"]).filter (fun w => !te_heapW w), w ∈ tt := tt_in [255, 598, 607, 617, 620, 622, 599, 600, 289, 290, 601, 606, 618, 635, 588, 636, 590, 637, 592, 602, 604, 594, 668, 669, 670, 627, 579, 627, 628, 629, 630, 581, 630, 631, 632, 599, 583, 667, 659, 660, 661, 613, 662, 663, 664, 665, 597, 596, 666] (by decide +kernel) (by decide +kernel)
theorem xh_IAE : (Bundle.ownAtoms0 "ScholarsPress" 57 x_IAE ["java/lang/RuntimeException", "java/lang/Exception"]).filter te_heapW = [te_lu, te_lss, te_us, te_ss] := by decide +kernel
theorem xl_IAE : Cond.classLink "ScholarsPress" 55 x_IAE ∈ tt := tt_mem 658 (by decide +kernel) (by decide +kernel)
theorem xi_IAE : Cond.initialized x_IAE ∈ tt := tt_mem 259 (by decide +kernel) (by decide +kernel)
def x_ISE : String := "java/lang/IllegalStateException"
abbrev ic_ISE : Nat := 146
abbrev iN_ISE : Nat := 144
theorem xf_ISE : Bundle.fit x_ISE = true := by decide +kernel
theorem xo_ISE : ∀ w ∈ (Bundle.ownAtoms0 "ScholarsPress" 146 x_ISE ["java/lang/RuntimeException", "java/lang/Exception"]).filter (fun w => !te_heapW w), w ∈ tt := tt_in [255, 598, 607, 617, 620, 622, 599, 600, 289, 290, 601, 606, 618, 635, 588, 636, 590, 637, 592, 602, 604, 594, 1402, 1403, 1404, 627, 579, 627, 628, 629, 630, 581, 630, 631, 632, 599, 583, 1401, 1393, 1394, 1395, 614, 1396, 1397, 1398, 1399, 597, 596, 1400] (by decide +kernel) (by decide +kernel)
theorem xh_ISE : (Bundle.ownAtoms0 "ScholarsPress" 146 x_ISE ["java/lang/RuntimeException", "java/lang/Exception"]).filter te_heapW = [te_lu, te_lss, te_us, te_ss] := by decide +kernel
theorem xl_ISE : Cond.classLink "ScholarsPress" 144 x_ISE ∈ tt := tt_mem 1392 (by decide +kernel) (by decide +kernel)
theorem xi_ISE : Cond.initialized x_ISE ∈ tt := tt_mem 273 (by decide +kernel) (by decide +kernel)
def x_IOB : String := "java/lang/IndexOutOfBoundsException"
abbrev ic_IOB : Nat := 50
abbrev iN_IOB : Nat := 48
theorem xf_IOB : Bundle.fit x_IOB = true := by decide +kernel
theorem xo_IOB : ∀ w ∈ (Bundle.ownAtoms0 "ScholarsPress" 50 x_IOB ["java/lang/RuntimeException", "java/lang/Exception"]).filter (fun w => !te_heapW w), w ∈ tt := tt_in [255, 598, 607, 617, 620, 622, 599, 600, 289, 290, 601, 606, 618, 635, 588, 636, 590, 637, 592, 602, 604, 594, 624, 625, 626, 627, 579, 627, 628, 629, 630, 581, 630, 631, 632, 599, 583, 623, 577, 578, 585, 586, 587, 589, 591, 593, 597, 596, 595] (by decide +kernel) (by decide +kernel)
theorem xh_IOB : (Bundle.ownAtoms0 "ScholarsPress" 50 x_IOB ["java/lang/RuntimeException", "java/lang/Exception"]).filter te_heapW = [te_lu, te_lss, te_us, te_ss] := by decide +kernel
theorem xl_IOB : Cond.classLink "ScholarsPress" 48 x_IOB ∈ tt := tt_mem 576 (by decide +kernel) (by decide +kernel)
theorem xi_IOB : Cond.initialized x_IOB ∈ tt := tt_mem 258 (by decide +kernel) (by decide +kernel)
theorem xn : ∀ n ∈ ["java/lang/RuntimeException", "java/lang/Exception"], Bundle.fit n = true := by decide +kernel
end
