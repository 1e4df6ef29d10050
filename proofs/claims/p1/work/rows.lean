section
-- ===== PART A: goes FIRST, ahead of the names: the tables' words, and 'selects' of the private methods out of them =====
/-- a private method of a class that the tables say can be made, by its rows of tables_1 -/
def lw_okq (q : MethodName × Nat) : Prop := (q.1.cls ≠ "java/lang/invoke/MethodHandle" ∧ q.1.cls ≠ "java/lang/invoke/VarHandle") ∧ Cond.instantiable q.1.cls q.2 ∈ tables_1 ∧ Cond.privateMethod q.1 ∈ tables_1 ∧ Cond.instanceMethod q.1 ∈ tables_1
theorem lw_p0 : lw_okq (⟨"java/lang/Throwable", "fillInStackTrace", "(I)Ljava/lang/Throwable;"⟩, 6) := ⟨⟨by decide +kernel, by decide +kernel⟩, List.mem_of_getElem? (i := 382) (by decide +kernel), List.mem_of_getElem? (i := 380) (by decide +kernel), List.mem_of_getElem? (i := 381) (by decide +kernel)⟩
theorem lw_p1 : lw_okq (⟨"ScholarsPress", "feedInt", "(I)V"⟩, 21) := ⟨⟨by decide +kernel, by decide +kernel⟩, List.mem_of_getElem? (i := 45) (by decide +kernel), List.mem_of_getElem? (i := 408) (by decide +kernel), List.mem_of_getElem? (i := 409) (by decide +kernel)⟩
theorem lw_p2 : lw_okq (⟨"ScholarsPress", "takeTape", "()I"⟩, 21) := ⟨⟨by decide +kernel, by decide +kernel⟩, List.mem_of_getElem? (i := 45) (by decide +kernel), List.mem_of_getElem? (i := 443) (by decide +kernel), List.mem_of_getElem? (i := 444) (by decide +kernel)⟩
theorem lw_p3 : lw_okq (⟨"ScholarsPress$Font", "readRule", "(LScholarsPress$Signs;)Z"⟩, 8) := ⟨⟨by decide +kernel, by decide +kernel⟩, List.mem_of_getElem? (i := 172) (by decide +kernel), List.mem_of_getElem? (i := 466) (by decide +kernel), List.mem_of_getElem? (i := 467) (by decide +kernel)⟩
theorem lw_p4 : lw_okq (⟨"ScholarsPress$Font", "pairFor", "(III)I"⟩, 8) := ⟨⟨by decide +kernel, by decide +kernel⟩, List.mem_of_getElem? (i := 172) (by decide +kernel), List.mem_of_getElem? (i := 527) (by decide +kernel), List.mem_of_getElem? (i := 528) (by decide +kernel)⟩
theorem lw_p5 : lw_okq (⟨"ScholarsPress$Font", "slotOf", "(I)I"⟩, 8) := ⟨⟨by decide +kernel, by decide +kernel⟩, List.mem_of_getElem? (i := 172) (by decide +kernel), List.mem_of_getElem? (i := 534) (by decide +kernel), List.mem_of_getElem? (i := 535) (by decide +kernel)⟩
theorem lw_p6 : lw_okq (⟨"ScholarsPress$Font", "tellWidth", "(II)V"⟩, 8) := ⟨⟨by decide +kernel, by decide +kernel⟩, List.mem_of_getElem? (i := 172) (by decide +kernel), List.mem_of_getElem? (i := 542) (by decide +kernel), List.mem_of_getElem? (i := 543) (by decide +kernel)⟩
theorem lw_p7 : lw_okq (⟨"ScholarsPress$Hyphens", "readWord", "([BI)Z"⟩, 14) := ⟨⟨by decide +kernel, by decide +kernel⟩, List.mem_of_getElem? (i := 209) (by decide +kernel), List.mem_of_getElem? (i := 576) (by decide +kernel), List.mem_of_getElem? (i := 577) (by decide +kernel)⟩
theorem lw_p8 : lw_okq (⟨"ScholarsPress$Hyphens", "readEnds", "([BI)Z"⟩, 14) := ⟨⟨by decide +kernel, by decide +kernel⟩, List.mem_of_getElem? (i := 209) (by decide +kernel), List.mem_of_getElem? (i := 580) (by decide +kernel), List.mem_of_getElem? (i := 581) (by decide +kernel)⟩
theorem lw_p9 : lw_okq (⟨"ScholarsPress$Hyphens", "readException", "([BI)Z"⟩, 14) := ⟨⟨by decide +kernel, by decide +kernel⟩, List.mem_of_getElem? (i := 209) (by decide +kernel), List.mem_of_getElem? (i := 584) (by decide +kernel), List.mem_of_getElem? (i := 585) (by decide +kernel)⟩
theorem lw_p10 : lw_okq (⟨"ScholarsPress$Hyphens", "keepException", "(II)Z"⟩, 14) := ⟨⟨by decide +kernel, by decide +kernel⟩, List.mem_of_getElem? (i := 209) (by decide +kernel), List.mem_of_getElem? (i := 591) (by decide +kernel), List.mem_of_getElem? (i := 592) (by decide +kernel)⟩
theorem lw_p11 : lw_okq (⟨"ScholarsPress$Hyphens", "exceptionLike", "([BII)I"⟩, 14) := ⟨⟨by decide +kernel, by decide +kernel⟩, List.mem_of_getElem? (i := 209) (by decide +kernel), List.mem_of_getElem? (i := 595) (by decide +kernel), List.mem_of_getElem? (i := 596) (by decide +kernel)⟩
theorem lw_p12 : lw_okq (⟨"ScholarsPress$Hyphens", "readPattern", "([BI)Z"⟩, 14) := ⟨⟨by decide +kernel, by decide +kernel⟩, List.mem_of_getElem? (i := 209) (by decide +kernel), List.mem_of_getElem? (i := 602) (by decide +kernel), List.mem_of_getElem? (i := 603) (by decide +kernel)⟩
theorem lw_p13 : lw_okq (⟨"ScholarsPress$Hyphens", "keepPattern", "(I)Z"⟩, 14) := ⟨⟨by decide +kernel, by decide +kernel⟩, List.mem_of_getElem? (i := 209) (by decide +kernel), List.mem_of_getElem? (i := 865) (by decide +kernel), List.mem_of_getElem? (i := 866) (by decide +kernel)⟩
theorem lw_p14 : lw_okq (⟨"ScholarsPress$Style", "readRule", "(LScholarsPress$Signs;)Z"⟩, 15) := ⟨⟨by decide +kernel, by decide +kernel⟩, List.mem_of_getElem? (i := 101) (by decide +kernel), List.mem_of_getElem? (i := 882) (by decide +kernel), List.mem_of_getElem? (i := 883) (by decide +kernel)⟩
theorem lw_p15 : lw_okq (⟨"ScholarsPress$Style", "readBody", "(LScholarsPress$Signs;Z)Z"⟩, 15) := ⟨⟨by decide +kernel, by decide +kernel⟩, List.mem_of_getElem? (i := 101) (by decide +kernel), List.mem_of_getElem? (i := 889) (by decide +kernel), List.mem_of_getElem? (i := 890) (by decide +kernel)⟩
def lw_privs_1 : List (MethodName × Nat) := [(⟨"java/lang/Throwable", "fillInStackTrace", "(I)Ljava/lang/Throwable;"⟩, 6), (⟨"ScholarsPress", "feedInt", "(I)V"⟩, 21), (⟨"ScholarsPress", "takeTape", "()I"⟩, 21), (⟨"ScholarsPress$Font", "readRule", "(LScholarsPress$Signs;)Z"⟩, 8), (⟨"ScholarsPress$Font", "pairFor", "(III)I"⟩, 8), (⟨"ScholarsPress$Font", "slotOf", "(I)I"⟩, 8), (⟨"ScholarsPress$Font", "tellWidth", "(II)V"⟩, 8), (⟨"ScholarsPress$Hyphens", "readWord", "([BI)Z"⟩, 14), (⟨"ScholarsPress$Hyphens", "readEnds", "([BI)Z"⟩, 14), (⟨"ScholarsPress$Hyphens", "readException", "([BI)Z"⟩, 14), (⟨"ScholarsPress$Hyphens", "keepException", "(II)Z"⟩, 14), (⟨"ScholarsPress$Hyphens", "exceptionLike", "([BII)I"⟩, 14), (⟨"ScholarsPress$Hyphens", "readPattern", "([BI)Z"⟩, 14), (⟨"ScholarsPress$Hyphens", "keepPattern", "(I)Z"⟩, 14), (⟨"ScholarsPress$Style", "readRule", "(LScholarsPress$Signs;)Z"⟩, 15), (⟨"ScholarsPress$Style", "readBody", "(LScholarsPress$Signs;Z)Z"⟩, 15)]
theorem lw_r1 : ∀ q ∈ lw_privs_1, lw_okq q := List.forall_mem_cons.mpr ⟨lw_p0, List.forall_mem_cons.mpr ⟨lw_p1, List.forall_mem_cons.mpr ⟨lw_p2, List.forall_mem_cons.mpr ⟨lw_p3, List.forall_mem_cons.mpr ⟨lw_p4, List.forall_mem_cons.mpr ⟨lw_p5, List.forall_mem_cons.mpr ⟨lw_p6, List.forall_mem_cons.mpr ⟨lw_p7, List.forall_mem_cons.mpr ⟨lw_p8, List.forall_mem_cons.mpr ⟨lw_p9, List.forall_mem_cons.mpr ⟨lw_p10, List.forall_mem_cons.mpr ⟨lw_p11, List.forall_mem_cons.mpr ⟨lw_p12, List.forall_mem_cons.mpr ⟨lw_p13, List.forall_mem_cons.mpr ⟨lw_p14, List.forall_mem_cons.mpr ⟨lw_p15, fun _ h => absurd h List.not_mem_nil⟩⟩⟩⟩⟩⟩⟩⟩⟩⟩⟩⟩⟩⟩⟩⟩
theorem lw_p16 : lw_okq (⟨"ScholarsPress$Style", "readPageValue", "(LScholarsPress$Signs;)Z"⟩, 15) := ⟨⟨by decide +kernel, by decide +kernel⟩, List.mem_of_getElem? (i := 101) (by decide +kernel), List.mem_of_getElem? (i := 897) (by decide +kernel), List.mem_of_getElem? (i := 898) (by decide +kernel)⟩
theorem lw_p17 : lw_okq (⟨"ScholarsPress$Style", "readProperty", "(LScholarsPress$Signs;)Z"⟩, 15) := ⟨⟨by decide +kernel, by decide +kernel⟩, List.mem_of_getElem? (i := 101) (by decide +kernel), List.mem_of_getElem? (i := 907) (by decide +kernel), List.mem_of_getElem? (i := 908) (by decide +kernel)⟩
theorem lw_p18 : lw_okq (⟨"ScholarsPress$Style", "readSize", "(LScholarsPress$Signs;)Z"⟩, 15) := ⟨⟨by decide +kernel, by decide +kernel⟩, List.mem_of_getElem? (i := 101) (by decide +kernel), List.mem_of_getElem? (i := 914) (by decide +kernel), List.mem_of_getElem? (i := 915) (by decide +kernel)⟩
theorem lw_p19 : lw_okq (⟨"ScholarsPress$Style", "readLabel", "(LScholarsPress$Signs;)Z"⟩, 15) := ⟨⟨by decide +kernel, by decide +kernel⟩, List.mem_of_getElem? (i := 101) (by decide +kernel), List.mem_of_getElem? (i := 922) (by decide +kernel), List.mem_of_getElem? (i := 923) (by decide +kernel)⟩
theorem lw_p20 : lw_okq (⟨"ScholarsPress$Style", "counterOf", "(J)I"⟩, 15) := ⟨⟨by decide +kernel, by decide +kernel⟩, List.mem_of_getElem? (i := 101) (by decide +kernel), List.mem_of_getElem? (i := 930) (by decide +kernel), List.mem_of_getElem? (i := 931) (by decide +kernel)⟩
theorem lw_p21 : lw_okq (⟨"ScholarsPress$Style", "readSelector", "(LScholarsPress$Signs;)Z"⟩, 15) := ⟨⟨by decide +kernel, by decide +kernel⟩, List.mem_of_getElem? (i := 101) (by decide +kernel), List.mem_of_getElem? (i := 941) (by decide +kernel), List.mem_of_getElem? (i := 942) (by decide +kernel)⟩
theorem lw_p22 : lw_okq (⟨"ScholarsPress$Style", "readStep", "(LScholarsPress$Signs;IC)Z"⟩, 15) := ⟨⟨by decide +kernel, by decide +kernel⟩, List.mem_of_getElem? (i := 101) (by decide +kernel), List.mem_of_getElem? (i := 945) (by decide +kernel), List.mem_of_getElem? (i := 946) (by decide +kernel)⟩
theorem lw_p23 : lw_okq (⟨"ScholarsPress$Style", "readBracket", "(LScholarsPress$Signs;)Z"⟩, 15) := ⟨⟨by decide +kernel, by decide +kernel⟩, List.mem_of_getElem? (i := 101) (by decide +kernel), List.mem_of_getElem? (i := 949) (by decide +kernel), List.mem_of_getElem? (i := 950) (by decide +kernel)⟩
theorem lw_p24 : lw_okq (⟨"ScholarsPress$Style", "readColon", "(LScholarsPress$Signs;)Z"⟩, 15) := ⟨⟨by decide +kernel, by decide +kernel⟩, List.mem_of_getElem? (i := 101) (by decide +kernel), List.mem_of_getElem? (i := 953) (by decide +kernel), List.mem_of_getElem? (i := 954) (by decide +kernel)⟩
theorem lw_p25 : lw_okq (⟨"ScholarsPress", "makeSpareSource", "()V"⟩, 21) := ⟨⟨by decide +kernel, by decide +kernel⟩, List.mem_of_getElem? (i := 45) (by decide +kernel), List.mem_of_getElem? (i := 965) (by decide +kernel), List.mem_of_getElem? (i := 966) (by decide +kernel)⟩
theorem lw_p26 : lw_okq (⟨"ScholarsPress", "takeSource", "(I)Z"⟩, 21) := ⟨⟨by decide +kernel, by decide +kernel⟩, List.mem_of_getElem? (i := 45) (by decide +kernel), List.mem_of_getElem? (i := 1057) (by decide +kernel), List.mem_of_getElem? (i := 1058) (by decide +kernel)⟩
theorem lw_p27 : lw_okq (⟨"ScholarsPress$Source", "readMark", "()Z"⟩, 20) := ⟨⟨by decide +kernel, by decide +kernel⟩, List.mem_of_getElem? (i := 969) (by decide +kernel), List.mem_of_getElem? (i := 1065) (by decide +kernel), List.mem_of_getElem? (i := 1066) (by decide +kernel)⟩
theorem lw_p28 : lw_okq (⟨"ScholarsPress$Source", "readComment", "()Z"⟩, 20) := ⟨⟨by decide +kernel, by decide +kernel⟩, List.mem_of_getElem? (i := 969) (by decide +kernel), List.mem_of_getElem? (i := 1069) (by decide +kernel), List.mem_of_getElem? (i := 1070) (by decide +kernel)⟩
theorem lw_p29 : lw_okq (⟨"ScholarsPress$Source", "readDefinition", "()Z"⟩, 20) := ⟨⟨by decide +kernel, by decide +kernel⟩, List.mem_of_getElem? (i := 969) (by decide +kernel), List.mem_of_getElem? (i := 1073) (by decide +kernel), List.mem_of_getElem? (i := 1074) (by decide +kernel)⟩
theorem lw_p30 : lw_okq (⟨"ScholarsPress$Source", "readName", "()Z"⟩, 20) := ⟨⟨by decide +kernel, by decide +kernel⟩, List.mem_of_getElem? (i := 969) (by decide +kernel), List.mem_of_getElem? (i := 1077) (by decide +kernel), List.mem_of_getElem? (i := 1078) (by decide +kernel)⟩
theorem lw_p31 : lw_okq (⟨"ScholarsPress$Source", "entityNamed", "()I"⟩, 20) := ⟨⟨by decide +kernel, by decide +kernel⟩, List.mem_of_getElem? (i := 969) (by decide +kernel), List.mem_of_getElem? (i := 1086) (by decide +kernel), List.mem_of_getElem? (i := 1087) (by decide +kernel)⟩
def lw_privs_2 : List (MethodName × Nat) := [(⟨"ScholarsPress$Style", "readPageValue", "(LScholarsPress$Signs;)Z"⟩, 15), (⟨"ScholarsPress$Style", "readProperty", "(LScholarsPress$Signs;)Z"⟩, 15), (⟨"ScholarsPress$Style", "readSize", "(LScholarsPress$Signs;)Z"⟩, 15), (⟨"ScholarsPress$Style", "readLabel", "(LScholarsPress$Signs;)Z"⟩, 15), (⟨"ScholarsPress$Style", "counterOf", "(J)I"⟩, 15), (⟨"ScholarsPress$Style", "readSelector", "(LScholarsPress$Signs;)Z"⟩, 15), (⟨"ScholarsPress$Style", "readStep", "(LScholarsPress$Signs;IC)Z"⟩, 15), (⟨"ScholarsPress$Style", "readBracket", "(LScholarsPress$Signs;)Z"⟩, 15), (⟨"ScholarsPress$Style", "readColon", "(LScholarsPress$Signs;)Z"⟩, 15), (⟨"ScholarsPress", "makeSpareSource", "()V"⟩, 21), (⟨"ScholarsPress", "takeSource", "(I)Z"⟩, 21), (⟨"ScholarsPress$Source", "readMark", "()Z"⟩, 20), (⟨"ScholarsPress$Source", "readComment", "()Z"⟩, 20), (⟨"ScholarsPress$Source", "readDefinition", "()Z"⟩, 20), (⟨"ScholarsPress$Source", "readName", "()Z"⟩, 20), (⟨"ScholarsPress$Source", "entityNamed", "()I"⟩, 20)]
theorem lw_r2 : ∀ q ∈ lw_privs_2, lw_okq q := List.forall_mem_cons.mpr ⟨lw_p16, List.forall_mem_cons.mpr ⟨lw_p17, List.forall_mem_cons.mpr ⟨lw_p18, List.forall_mem_cons.mpr ⟨lw_p19, List.forall_mem_cons.mpr ⟨lw_p20, List.forall_mem_cons.mpr ⟨lw_p21, List.forall_mem_cons.mpr ⟨lw_p22, List.forall_mem_cons.mpr ⟨lw_p23, List.forall_mem_cons.mpr ⟨lw_p24, List.forall_mem_cons.mpr ⟨lw_p25, List.forall_mem_cons.mpr ⟨lw_p26, List.forall_mem_cons.mpr ⟨lw_p27, List.forall_mem_cons.mpr ⟨lw_p28, List.forall_mem_cons.mpr ⟨lw_p29, List.forall_mem_cons.mpr ⟨lw_p30, List.forall_mem_cons.mpr ⟨lw_p31, fun _ h => absurd h List.not_mem_nil⟩⟩⟩⟩⟩⟩⟩⟩⟩⟩⟩⟩⟩⟩⟩⟩
theorem lw_p32 : lw_okq (⟨"ScholarsPress$Source", "skipBlanks", "()Z"⟩, 20) := ⟨⟨by decide +kernel, by decide +kernel⟩, List.mem_of_getElem? (i := 969) (by decide +kernel), List.mem_of_getElem? (i := 1090) (by decide +kernel), List.mem_of_getElem? (i := 1091) (by decide +kernel)⟩
theorem lw_p33 : lw_okq (⟨"ScholarsPress$Source", "readString", "()Z"⟩, 20) := ⟨⟨by decide +kernel, by decide +kernel⟩, List.mem_of_getElem? (i := 969) (by decide +kernel), List.mem_of_getElem? (i := 1095) (by decide +kernel), List.mem_of_getElem? (i := 1096) (by decide +kernel)⟩
theorem lw_p34 : lw_okq (⟨"ScholarsPress$Source", "readCloser", "()Z"⟩, 20) := ⟨⟨by decide +kernel, by decide +kernel⟩, List.mem_of_getElem? (i := 969) (by decide +kernel), List.mem_of_getElem? (i := 1100) (by decide +kernel), List.mem_of_getElem? (i := 1101) (by decide +kernel)⟩
theorem lw_p35 : lw_okq (⟨"ScholarsPress$Source", "readEnd", "()Z"⟩, 20) := ⟨⟨by decide +kernel, by decide +kernel⟩, List.mem_of_getElem? (i := 969) (by decide +kernel), List.mem_of_getElem? (i := 1104) (by decide +kernel), List.mem_of_getElem? (i := 1105) (by decide +kernel)⟩
theorem lw_p36 : lw_okq (⟨"ScholarsPress$Source", "closeElement", "(I)Z"⟩, 20) := ⟨⟨by decide +kernel, by decide +kernel⟩, List.mem_of_getElem? (i := 969) (by decide +kernel), List.mem_of_getElem? (i := 1108) (by decide +kernel), List.mem_of_getElem? (i := 1109) (by decide +kernel)⟩
theorem lw_p37 : lw_okq (⟨"ScholarsPress$Source", "readElement", "()Z"⟩, 20) := ⟨⟨by decide +kernel, by decide +kernel⟩, List.mem_of_getElem? (i := 969) (by decide +kernel), List.mem_of_getElem? (i := 1116) (by decide +kernel), List.mem_of_getElem? (i := 1117) (by decide +kernel)⟩
theorem lw_p38 : lw_okq (⟨"ScholarsPress$Source", "addElement", "(I)I"⟩, 20) := ⟨⟨by decide +kernel, by decide +kernel⟩, List.mem_of_getElem? (i := 969) (by decide +kernel), List.mem_of_getElem? (i := 1120) (by decide +kernel), List.mem_of_getElem? (i := 1121) (by decide +kernel)⟩
theorem lw_p39 : lw_okq (⟨"ScholarsPress$Source", "readField", "(I)Z"⟩, 20) := ⟨⟨by decide +kernel, by decide +kernel⟩, List.mem_of_getElem? (i := 969) (by decide +kernel), List.mem_of_getElem? (i := 1124) (by decide +kernel), List.mem_of_getElem? (i := 1125) (by decide +kernel)⟩
theorem lw_p40 : lw_okq (⟨"ScholarsPress$Source", "readEntity", "()Z"⟩, 20) := ⟨⟨by decide +kernel, by decide +kernel⟩, List.mem_of_getElem? (i := 969) (by decide +kernel), List.mem_of_getElem? (i := 1132) (by decide +kernel), List.mem_of_getElem? (i := 1133) (by decide +kernel)⟩
theorem lw_p41 : lw_okq (⟨"ScholarsPress$Source", "pushText", "(I)V"⟩, 20) := ⟨⟨by decide +kernel, by decide +kernel⟩, List.mem_of_getElem? (i := 969) (by decide +kernel), List.mem_of_getElem? (i := 1136) (by decide +kernel), List.mem_of_getElem? (i := 1137) (by decide +kernel)⟩
theorem lw_p42 : lw_okq (⟨"ScholarsPress", "freshenLooks", "()V"⟩, 21) := ⟨⟨by decide +kernel, by decide +kernel⟩, List.mem_of_getElem? (i := 45) (by decide +kernel), List.mem_of_getElem? (i := 1177) (by decide +kernel), List.mem_of_getElem? (i := 1178) (by decide +kernel)⟩
theorem lw_p43 : lw_okq (⟨"ScholarsPress$Looks", "fitSelector", "(I)V"⟩, 15) := ⟨⟨by decide +kernel, by decide +kernel⟩, List.mem_of_getElem? (i := 1181) (by decide +kernel), List.mem_of_getElem? (i := 1251) (by decide +kernel), List.mem_of_getElem? (i := 1252) (by decide +kernel)⟩
theorem lw_p44 : lw_okq (⟨"ScholarsPress$Looks", "stepFits", "(II)Z"⟩, 15) := ⟨⟨by decide +kernel, by decide +kernel⟩, List.mem_of_getElem? (i := 1181) (by decide +kernel), List.mem_of_getElem? (i := 1256) (by decide +kernel), List.mem_of_getElem? (i := 1257) (by decide +kernel)⟩
theorem lw_p45 : lw_okq (⟨"ScholarsPress$Looks", "conditionFits", "(II)Z"⟩, 15) := ⟨⟨by decide +kernel, by decide +kernel⟩, List.mem_of_getElem? (i := 1181) (by decide +kernel), List.mem_of_getElem? (i := 1260) (by decide +kernel), List.mem_of_getElem? (i := 1261) (by decide +kernel)⟩
theorem lw_p46 : lw_okq (⟨"ScholarsPress$Looks", "tellBody", "(I)V"⟩, 15) := ⟨⟨by decide +kernel, by decide +kernel⟩, List.mem_of_getElem? (i := 1181) (by decide +kernel), List.mem_of_getElem? (i := 1273) (by decide +kernel), List.mem_of_getElem? (i := 1274) (by decide +kernel)⟩
theorem lw_p47 : lw_okq (⟨"ScholarsPress$Looks", "inherit", "()V"⟩, 15) := ⟨⟨by decide +kernel, by decide +kernel⟩, List.mem_of_getElem? (i := 1181) (by decide +kernel), List.mem_of_getElem? (i := 1277) (by decide +kernel), List.mem_of_getElem? (i := 1278) (by decide +kernel)⟩
def lw_privs_3 : List (MethodName × Nat) := [(⟨"ScholarsPress$Source", "skipBlanks", "()Z"⟩, 20), (⟨"ScholarsPress$Source", "readString", "()Z"⟩, 20), (⟨"ScholarsPress$Source", "readCloser", "()Z"⟩, 20), (⟨"ScholarsPress$Source", "readEnd", "()Z"⟩, 20), (⟨"ScholarsPress$Source", "closeElement", "(I)Z"⟩, 20), (⟨"ScholarsPress$Source", "readElement", "()Z"⟩, 20), (⟨"ScholarsPress$Source", "addElement", "(I)I"⟩, 20), (⟨"ScholarsPress$Source", "readField", "(I)Z"⟩, 20), (⟨"ScholarsPress$Source", "readEntity", "()Z"⟩, 20), (⟨"ScholarsPress$Source", "pushText", "(I)V"⟩, 20), (⟨"ScholarsPress", "freshenLooks", "()V"⟩, 21), (⟨"ScholarsPress$Looks", "fitSelector", "(I)V"⟩, 15), (⟨"ScholarsPress$Looks", "stepFits", "(II)Z"⟩, 15), (⟨"ScholarsPress$Looks", "conditionFits", "(II)Z"⟩, 15), (⟨"ScholarsPress$Looks", "tellBody", "(I)V"⟩, 15), (⟨"ScholarsPress$Looks", "inherit", "()V"⟩, 15)]
theorem lw_r3 : ∀ q ∈ lw_privs_3, lw_okq q := List.forall_mem_cons.mpr ⟨lw_p32, List.forall_mem_cons.mpr ⟨lw_p33, List.forall_mem_cons.mpr ⟨lw_p34, List.forall_mem_cons.mpr ⟨lw_p35, List.forall_mem_cons.mpr ⟨lw_p36, List.forall_mem_cons.mpr ⟨lw_p37, List.forall_mem_cons.mpr ⟨lw_p38, List.forall_mem_cons.mpr ⟨lw_p39, List.forall_mem_cons.mpr ⟨lw_p40, List.forall_mem_cons.mpr ⟨lw_p41, List.forall_mem_cons.mpr ⟨lw_p42, List.forall_mem_cons.mpr ⟨lw_p43, List.forall_mem_cons.mpr ⟨lw_p44, List.forall_mem_cons.mpr ⟨lw_p45, List.forall_mem_cons.mpr ⟨lw_p46, List.forall_mem_cons.mpr ⟨lw_p47, fun _ h => absurd h List.not_mem_nil⟩⟩⟩⟩⟩⟩⟩⟩⟩⟩⟩⟩⟩⟩⟩⟩
theorem lw_p48 : lw_okq (⟨"ScholarsPress$Looks", "castPart", "(I)V"⟩, 15) := ⟨⟨by decide +kernel, by decide +kernel⟩, List.mem_of_getElem? (i := 1181) (by decide +kernel), List.mem_of_getElem? (i := 1293) (by decide +kernel), List.mem_of_getElem? (i := 1294) (by decide +kernel)⟩
theorem lw_p49 : lw_okq (⟨"ScholarsPress$Looks", "countValues", "()V"⟩, 15) := ⟨⟨by decide +kernel, by decide +kernel⟩, List.mem_of_getElem? (i := 1181) (by decide +kernel), List.mem_of_getElem? (i := 1311) (by decide +kernel), List.mem_of_getElem? (i := 1312) (by decide +kernel)⟩
theorem lw_p50 : lw_okq (⟨"ScholarsPress$Looks", "makeTitle", "(I)V"⟩, 15) := ⟨⟨by decide +kernel, by decide +kernel⟩, List.mem_of_getElem? (i := 1181) (by decide +kernel), List.mem_of_getElem? (i := 1316) (by decide +kernel), List.mem_of_getElem? (i := 1317) (by decide +kernel)⟩
theorem lw_p51 : lw_okq (⟨"ScholarsPress$Looks", "addLabel", "(II)V"⟩, 15) := ⟨⟨by decide +kernel, by decide +kernel⟩, List.mem_of_getElem? (i := 1181) (by decide +kernel), List.mem_of_getElem? (i := 1320) (by decide +kernel), List.mem_of_getElem? (i := 1321) (by decide +kernel)⟩
theorem lw_p52 : lw_okq (⟨"ScholarsPress$Looks", "addToTitle", "(II)V"⟩, 15) := ⟨⟨by decide +kernel, by decide +kernel⟩, List.mem_of_getElem? (i := 1181) (by decide +kernel), List.mem_of_getElem? (i := 1338) (by decide +kernel), List.mem_of_getElem? (i := 1339) (by decide +kernel)⟩
theorem lw_p53 : lw_okq (⟨"ScholarsPress$Looks", "addCode", "(II)V"⟩, 15) := ⟨⟨by decide +kernel, by decide +kernel⟩, List.mem_of_getElem? (i := 1181) (by decide +kernel), List.mem_of_getElem? (i := 1343) (by decide +kernel), List.mem_of_getElem? (i := 1344) (by decide +kernel)⟩
theorem lw_p54 : lw_okq (⟨"ScholarsPress$Looks", "findTarget", "(I)V"⟩, 15) := ⟨⟨by decide +kernel, by decide +kernel⟩, List.mem_of_getElem? (i := 1181) (by decide +kernel), List.mem_of_getElem? (i := 1351) (by decide +kernel), List.mem_of_getElem? (i := 1352) (by decide +kernel)⟩
theorem lw_p55 : lw_okq (⟨"ScholarsPress$Looks", "elementWithId", "(II)I"⟩, 15) := ⟨⟨by decide +kernel, by decide +kernel⟩, List.mem_of_getElem? (i := 1181) (by decide +kernel), List.mem_of_getElem? (i := 1358) (by decide +kernel), List.mem_of_getElem? (i := 1359) (by decide +kernel)⟩
theorem lw_p56 : lw_okq (⟨"ScholarsPress$Looks", "findEntries", "()V"⟩, 15) := ⟨⟨by decide +kernel, by decide +kernel⟩, List.mem_of_getElem? (i := 1181) (by decide +kernel), List.mem_of_getElem? (i := 1369) (by decide +kernel), List.mem_of_getElem? (i := 1370) (by decide +kernel)⟩
theorem lw_p57 : lw_okq (⟨"ScholarsPress$Looks", "addEntry", "(I)V"⟩, 15) := ⟨⟨by decide +kernel, by decide +kernel⟩, List.mem_of_getElem? (i := 1181) (by decide +kernel), List.mem_of_getElem? (i := 1378) (by decide +kernel), List.mem_of_getElem? (i := 1379) (by decide +kernel)⟩
theorem lw_p58 : lw_okq (⟨"ScholarsPress$Looks", "compareEntries", "(II)I"⟩, 15) := ⟨⟨by decide +kernel, by decide +kernel⟩, List.mem_of_getElem? (i := 1181) (by decide +kernel), List.mem_of_getElem? (i := 1382) (by decide +kernel), List.mem_of_getElem? (i := 1383) (by decide +kernel)⟩
theorem lw_p59 : lw_okq (⟨"ScholarsPress", "makeReady", "()V"⟩, 21) := ⟨⟨by decide +kernel, by decide +kernel⟩, List.mem_of_getElem? (i := 45) (by decide +kernel), List.mem_of_getElem? (i := 1395) (by decide +kernel), List.mem_of_getElem? (i := 1396) (by decide +kernel)⟩
theorem lw_p60 : lw_okq (⟨"ScholarsPress", "playRound", "()I"⟩, 21) := ⟨⟨by decide +kernel, by decide +kernel⟩, List.mem_of_getElem? (i := 45) (by decide +kernel), List.mem_of_getElem? (i := 1755) (by decide +kernel), List.mem_of_getElem? (i := 1756) (by decide +kernel)⟩
theorem lw_p61 : lw_okq (⟨"ScholarsPress$Writer", "moveTo", "(I)V"⟩, 17) := ⟨⟨by decide +kernel, by decide +kernel⟩, List.mem_of_getElem? (i := 1399) (by decide +kernel), List.mem_of_getElem? (i := 1771) (by decide +kernel), List.mem_of_getElem? (i := 1772) (by decide +kernel)⟩
theorem lw_p62 : lw_okq (⟨"ScholarsPress$Writer", "walk", "(II)V"⟩, 17) := ⟨⟨by decide +kernel, by decide +kernel⟩, List.mem_of_getElem? (i := 1399) (by decide +kernel), List.mem_of_getElem? (i := 1777) (by decide +kernel), List.mem_of_getElem? (i := 1778) (by decide +kernel)⟩
theorem lw_p63 : lw_okq (⟨"ScholarsPress$Writer", "leave", "(I)V"⟩, 17) := ⟨⟨by decide +kernel, by decide +kernel⟩, List.mem_of_getElem? (i := 1399) (by decide +kernel), List.mem_of_getElem? (i := 1781) (by decide +kernel), List.mem_of_getElem? (i := 1782) (by decide +kernel)⟩
def lw_privs_4 : List (MethodName × Nat) := [(⟨"ScholarsPress$Looks", "castPart", "(I)V"⟩, 15), (⟨"ScholarsPress$Looks", "countValues", "()V"⟩, 15), (⟨"ScholarsPress$Looks", "makeTitle", "(I)V"⟩, 15), (⟨"ScholarsPress$Looks", "addLabel", "(II)V"⟩, 15), (⟨"ScholarsPress$Looks", "addToTitle", "(II)V"⟩, 15), (⟨"ScholarsPress$Looks", "addCode", "(II)V"⟩, 15), (⟨"ScholarsPress$Looks", "findTarget", "(I)V"⟩, 15), (⟨"ScholarsPress$Looks", "elementWithId", "(II)I"⟩, 15), (⟨"ScholarsPress$Looks", "findEntries", "()V"⟩, 15), (⟨"ScholarsPress$Looks", "addEntry", "(I)V"⟩, 15), (⟨"ScholarsPress$Looks", "compareEntries", "(II)I"⟩, 15), (⟨"ScholarsPress", "makeReady", "()V"⟩, 21), (⟨"ScholarsPress", "playRound", "()I"⟩, 21), (⟨"ScholarsPress$Writer", "moveTo", "(I)V"⟩, 17), (⟨"ScholarsPress$Writer", "walk", "(II)V"⟩, 17), (⟨"ScholarsPress$Writer", "leave", "(I)V"⟩, 17)]
theorem lw_r4 : ∀ q ∈ lw_privs_4, lw_okq q := List.forall_mem_cons.mpr ⟨lw_p48, List.forall_mem_cons.mpr ⟨lw_p49, List.forall_mem_cons.mpr ⟨lw_p50, List.forall_mem_cons.mpr ⟨lw_p51, List.forall_mem_cons.mpr ⟨lw_p52, List.forall_mem_cons.mpr ⟨lw_p53, List.forall_mem_cons.mpr ⟨lw_p54, List.forall_mem_cons.mpr ⟨lw_p55, List.forall_mem_cons.mpr ⟨lw_p56, List.forall_mem_cons.mpr ⟨lw_p57, List.forall_mem_cons.mpr ⟨lw_p58, List.forall_mem_cons.mpr ⟨lw_p59, List.forall_mem_cons.mpr ⟨lw_p60, List.forall_mem_cons.mpr ⟨lw_p61, List.forall_mem_cons.mpr ⟨lw_p62, List.forall_mem_cons.mpr ⟨lw_p63, fun _ h => absurd h List.not_mem_nil⟩⟩⟩⟩⟩⟩⟩⟩⟩⟩⟩⟩⟩⟩⟩⟩
theorem lw_p64 : lw_okq (⟨"ScholarsPress$Writer", "endParagraph", "(I)V"⟩, 17) := ⟨⟨by decide +kernel, by decide +kernel⟩, List.mem_of_getElem? (i := 1399) (by decide +kernel), List.mem_of_getElem? (i := 1786) (by decide +kernel), List.mem_of_getElem? (i := 1787) (by decide +kernel)⟩
theorem lw_p65 : lw_okq (⟨"ScholarsPress$Writer", "widthHere", "(I)I"⟩, 17) := ⟨⟨by decide +kernel, by decide +kernel⟩, List.mem_of_getElem? (i := 1399) (by decide +kernel), List.mem_of_getElem? (i := 1790) (by decide +kernel), List.mem_of_getElem? (i := 1791) (by decide +kernel)⟩
theorem lw_p66 : lw_okq (⟨"ScholarsPress$Writer", "endBlock", "(I)V"⟩, 17) := ⟨⟨by decide +kernel, by decide +kernel⟩, List.mem_of_getElem? (i := 1399) (by decide +kernel), List.mem_of_getElem? (i := 1794) (by decide +kernel), List.mem_of_getElem? (i := 1795) (by decide +kernel)⟩
theorem lw_p67 : lw_okq (⟨"ScholarsPress$Writer", "putReference", "(I)V"⟩, 17) := ⟨⟨by decide +kernel, by decide +kernel⟩, List.mem_of_getElem? (i := 1399) (by decide +kernel), List.mem_of_getElem? (i := 1804) (by decide +kernel), List.mem_of_getElem? (i := 1805) (by decide +kernel)⟩
theorem lw_p68 : lw_okq (⟨"ScholarsPress$Writer", "putNumber", "(III)V"⟩, 17) := ⟨⟨by decide +kernel, by decide +kernel⟩, List.mem_of_getElem? (i := 1399) (by decide +kernel), List.mem_of_getElem? (i := 1808) (by decide +kernel), List.mem_of_getElem? (i := 1809) (by decide +kernel)⟩
theorem lw_p69 : lw_okq (⟨"ScholarsPress$Writer", "put", "(II)V"⟩, 17) := ⟨⟨by decide +kernel, by decide +kernel⟩, List.mem_of_getElem? (i := 1399) (by decide +kernel), List.mem_of_getElem? (i := 1813) (by decide +kernel), List.mem_of_getElem? (i := 1814) (by decide +kernel)⟩
theorem lw_p70 : lw_okq (⟨"ScholarsPress$Writer", "putTitle", "(II)V"⟩, 17) := ⟨⟨by decide +kernel, by decide +kernel⟩, List.mem_of_getElem? (i := 1399) (by decide +kernel), List.mem_of_getElem? (i := 1817) (by decide +kernel), List.mem_of_getElem? (i := 1818) (by decide +kernel)⟩
theorem lw_p71 : lw_okq (⟨"ScholarsPress$Writer", "putWord", "(Ljava/lang/String;I)V"⟩, 17) := ⟨⟨by decide +kernel, by decide +kernel⟩, List.mem_of_getElem? (i := 1399) (by decide +kernel), List.mem_of_getElem? (i := 1824) (by decide +kernel), List.mem_of_getElem? (i := 1825) (by decide +kernel)⟩
theorem lw_p72 : lw_okq (⟨"ScholarsPress$Writer", "callNote", "(I)V"⟩, 17) := ⟨⟨by decide +kernel, by decide +kernel⟩, List.mem_of_getElem? (i := 1399) (by decide +kernel), List.mem_of_getElem? (i := 1830) (by decide +kernel), List.mem_of_getElem? (i := 1831) (by decide +kernel)⟩
theorem lw_p73 : lw_okq (⟨"ScholarsPress$Writer", "putContents", "(I)V"⟩, 17) := ⟨⟨by decide +kernel, by decide +kernel⟩, List.mem_of_getElem? (i := 1399) (by decide +kernel), List.mem_of_getElem? (i := 1838) (by decide +kernel), List.mem_of_getElem? (i := 1839) (by decide +kernel)⟩
theorem lw_p74 : lw_okq (⟨"ScholarsPress$Writer", "beginBlock", "(I)V"⟩, 17) := ⟨⟨by decide +kernel, by decide +kernel⟩, List.mem_of_getElem? (i := 1399) (by decide +kernel), List.mem_of_getElem? (i := 1842) (by decide +kernel), List.mem_of_getElem? (i := 1843) (by decide +kernel)⟩
theorem lw_p75 : lw_okq (⟨"ScholarsPress$Writer", "putIndex", "(I)V"⟩, 17) := ⟨⟨by decide +kernel, by decide +kernel⟩, List.mem_of_getElem? (i := 1399) (by decide +kernel), List.mem_of_getElem? (i := 1846) (by decide +kernel), List.mem_of_getElem? (i := 1847) (by decide +kernel)⟩
theorem lw_p76 : lw_okq (⟨"ScholarsPress$Writer", "putPages", "(II)V"⟩, 17) := ⟨⟨by decide +kernel, by decide +kernel⟩, List.mem_of_getElem? (i := 1399) (by decide +kernel), List.mem_of_getElem? (i := 1852) (by decide +kernel), List.mem_of_getElem? (i := 1853) (by decide +kernel)⟩
theorem lw_p77 : lw_okq (⟨"ScholarsPress$Writer", "enter", "(II)V"⟩, 17) := ⟨⟨by decide +kernel, by decide +kernel⟩, List.mem_of_getElem? (i := 1399) (by decide +kernel), List.mem_of_getElem? (i := 1863) (by decide +kernel), List.mem_of_getElem? (i := 1864) (by decide +kernel)⟩
theorem lw_p78 : lw_okq (⟨"ScholarsPress$Writer", "putLabel", "(I)V"⟩, 17) := ⟨⟨by decide +kernel, by decide +kernel⟩, List.mem_of_getElem? (i := 1399) (by decide +kernel), List.mem_of_getElem? (i := 1867) (by decide +kernel), List.mem_of_getElem? (i := 1868) (by decide +kernel)⟩
theorem lw_p79 : lw_okq (⟨"ScholarsPress$Writer", "putCode", "(I)V"⟩, 17) := ⟨⟨by decide +kernel, by decide +kernel⟩, List.mem_of_getElem? (i := 1399) (by decide +kernel), List.mem_of_getElem? (i := 1873) (by decide +kernel), List.mem_of_getElem? (i := 1874) (by decide +kernel)⟩
def lw_privs_5 : List (MethodName × Nat) := [(⟨"ScholarsPress$Writer", "endParagraph", "(I)V"⟩, 17), (⟨"ScholarsPress$Writer", "widthHere", "(I)I"⟩, 17), (⟨"ScholarsPress$Writer", "endBlock", "(I)V"⟩, 17), (⟨"ScholarsPress$Writer", "putReference", "(I)V"⟩, 17), (⟨"ScholarsPress$Writer", "putNumber", "(III)V"⟩, 17), (⟨"ScholarsPress$Writer", "put", "(II)V"⟩, 17), (⟨"ScholarsPress$Writer", "putTitle", "(II)V"⟩, 17), (⟨"ScholarsPress$Writer", "putWord", "(Ljava/lang/String;I)V"⟩, 17), (⟨"ScholarsPress$Writer", "callNote", "(I)V"⟩, 17), (⟨"ScholarsPress$Writer", "putContents", "(I)V"⟩, 17), (⟨"ScholarsPress$Writer", "beginBlock", "(I)V"⟩, 17), (⟨"ScholarsPress$Writer", "putIndex", "(I)V"⟩, 17), (⟨"ScholarsPress$Writer", "putPages", "(II)V"⟩, 17), (⟨"ScholarsPress$Writer", "enter", "(II)V"⟩, 17), (⟨"ScholarsPress$Writer", "putLabel", "(I)V"⟩, 17), (⟨"ScholarsPress$Writer", "putCode", "(I)V"⟩, 17)]
theorem lw_r5 : ∀ q ∈ lw_privs_5, lw_okq q := List.forall_mem_cons.mpr ⟨lw_p64, List.forall_mem_cons.mpr ⟨lw_p65, List.forall_mem_cons.mpr ⟨lw_p66, List.forall_mem_cons.mpr ⟨lw_p67, List.forall_mem_cons.mpr ⟨lw_p68, List.forall_mem_cons.mpr ⟨lw_p69, List.forall_mem_cons.mpr ⟨lw_p70, List.forall_mem_cons.mpr ⟨lw_p71, List.forall_mem_cons.mpr ⟨lw_p72, List.forall_mem_cons.mpr ⟨lw_p73, List.forall_mem_cons.mpr ⟨lw_p74, List.forall_mem_cons.mpr ⟨lw_p75, List.forall_mem_cons.mpr ⟨lw_p76, List.forall_mem_cons.mpr ⟨lw_p77, List.forall_mem_cons.mpr ⟨lw_p78, List.forall_mem_cons.mpr ⟨lw_p79, fun _ h => absurd h List.not_mem_nil⟩⟩⟩⟩⟩⟩⟩⟩⟩⟩⟩⟩⟩⟩⟩⟩
theorem lw_p80 : lw_okq (⟨"ScholarsPress$Writer", "putLines", "(II)V"⟩, 17) := ⟨⟨by decide +kernel, by decide +kernel⟩, List.mem_of_getElem? (i := 1399) (by decide +kernel), List.mem_of_getElem? (i := 1888) (by decide +kernel), List.mem_of_getElem? (i := 1889) (by decide +kernel)⟩
theorem lw_p81 : lw_okq (⟨"ScholarsPress$Breaker", "markWords", "([BIILScholarsPress$Hyphens;)V"⟩, 16) := ⟨⟨by decide +kernel, by decide +kernel⟩, List.mem_of_getElem? (i := 1461) (by decide +kernel), List.mem_of_getElem? (i := 1906) (by decide +kernel), List.mem_of_getElem? (i := 1907) (by decide +kernel)⟩
theorem lw_p82 : lw_okq (⟨"ScholarsPress$Hyphens", "markFrom", "([BIII[B)V"⟩, 14) := ⟨⟨by decide +kernel, by decide +kernel⟩, List.mem_of_getElem? (i := 209) (by decide +kernel), List.mem_of_getElem? (i := 1916) (by decide +kernel), List.mem_of_getElem? (i := 1917) (by decide +kernel)⟩
theorem lw_p83 : lw_okq (⟨"ScholarsPress$Breaker", "kindAt", "([BII)I"⟩, 16) := ⟨⟨by decide +kernel, by decide +kernel⟩, List.mem_of_getElem? (i := 1461) (by decide +kernel), List.mem_of_getElem? (i := 1923) (by decide +kernel), List.mem_of_getElem? (i := 1924) (by decide +kernel)⟩
theorem lw_p84 : lw_okq (⟨"ScholarsPress$Font", "valueOf", "(III)I"⟩, 8) := ⟨⟨by decide +kernel, by decide +kernel⟩, List.mem_of_getElem? (i := 172) (by decide +kernel), List.mem_of_getElem? (i := 1931) (by decide +kernel), List.mem_of_getElem? (i := 1932) (by decide +kernel)⟩
theorem lw_p85 : lw_okq (⟨"ScholarsPress$Texts", "measureColumns", "(I)I"⟩, 20) := ⟨⟨by decide +kernel, by decide +kernel⟩, List.mem_of_getElem? (i := 1569) (by decide +kernel), List.mem_of_getElem? (i := 1947) (by decide +kernel), List.mem_of_getElem? (i := 1948) (by decide +kernel)⟩
theorem lw_p86 : lw_okq (⟨"ScholarsPress$Texts", "placeCells", "(II)V"⟩, 20) := ⟨⟨by decide +kernel, by decide +kernel⟩, List.mem_of_getElem? (i := 1569) (by decide +kernel), List.mem_of_getElem? (i := 1965) (by decide +kernel), List.mem_of_getElem? (i := 1966) (by decide +kernel)⟩
theorem lw_p87 : lw_okq (⟨"ScholarsPress$Breaker", "findRow", "(LScholarsPress$Texts;II)I"⟩, 16) := ⟨⟨by decide +kernel, by decide +kernel⟩, List.mem_of_getElem? (i := 1461) (by decide +kernel), List.mem_of_getElem? (i := 1973) (by decide +kernel), List.mem_of_getElem? (i := 1974) (by decide +kernel)⟩
theorem lw_p88 : lw_okq (⟨"ScholarsPress$Breaker", "findLeads", "(I)Z"⟩, 16) := ⟨⟨by decide +kernel, by decide +kernel⟩, List.mem_of_getElem? (i := 1461) (by decide +kernel), List.mem_of_getElem? (i := 1981) (by decide +kernel), List.mem_of_getElem? (i := 1982) (by decide +kernel)⟩
theorem lw_p89 : lw_okq (⟨"ScholarsPress$Breaker", "comesFirst", "(II)Z"⟩, 16) := ⟨⟨by decide +kernel, by decide +kernel⟩, List.mem_of_getElem? (i := 1461) (by decide +kernel), List.mem_of_getElem? (i := 1989) (by decide +kernel), List.mem_of_getElem? (i := 1990) (by decide +kernel)⟩
theorem lw_p90 : lw_okq (⟨"ScholarsPress$Breaker", "goOn", "(LScholarsPress$Texts;III)V"⟩, 16) := ⟨⟨by decide +kernel, by decide +kernel⟩, List.mem_of_getElem? (i := 1461) (by decide +kernel), List.mem_of_getElem? (i := 1993) (by decide +kernel), List.mem_of_getElem? (i := 1994) (by decide +kernel)⟩
theorem lw_p91 : lw_okq (⟨"ScholarsPress$Breaker", "weigh", "(II)J"⟩, 16) := ⟨⟨by decide +kernel, by decide +kernel⟩, List.mem_of_getElem? (i := 1461) (by decide +kernel), List.mem_of_getElem? (i := 2011) (by decide +kernel), List.mem_of_getElem? (i := 2012) (by decide +kernel)⟩
theorem lw_p92 : lw_okq (⟨"ScholarsPress$Breaker", "weighFitting", "(JI)V"⟩, 16) := ⟨⟨by decide +kernel, by decide +kernel⟩, List.mem_of_getElem? (i := 1461) (by decide +kernel), List.mem_of_getElem? (i := 2015) (by decide +kernel), List.mem_of_getElem? (i := 2016) (by decide +kernel)⟩
theorem lw_p93 : lw_okq (⟨"ScholarsPress$Breaker", "keepLines", "(LScholarsPress$Texts;II)V"⟩, 16) := ⟨⟨by decide +kernel, by decide +kernel⟩, List.mem_of_getElem? (i := 1461) (by decide +kernel), List.mem_of_getElem? (i := 2033) (by decide +kernel), List.mem_of_getElem? (i := 2034) (by decide +kernel)⟩
theorem lw_p94 : lw_okq (⟨"ScholarsPress$Pages", "addLines", "(LScholarsPress$Looks;I)Z"⟩, 21) := ⟨⟨by decide +kernel, by decide +kernel⟩, List.mem_of_getElem? (i := 1563) (by decide +kernel), List.mem_of_getElem? (i := 2042) (by decide +kernel), List.mem_of_getElem? (i := 2043) (by decide +kernel)⟩
theorem lw_p95 : lw_okq (⟨"ScholarsPress$Pages", "addRow", "(LScholarsPress$Looks;I)Z"⟩, 21) := ⟨⟨by decide +kernel, by decide +kernel⟩, List.mem_of_getElem? (i := 1563) (by decide +kernel), List.mem_of_getElem? (i := 2072) (by decide +kernel), List.mem_of_getElem? (i := 2073) (by decide +kernel)⟩
def lw_privs_6 : List (MethodName × Nat) := [(⟨"ScholarsPress$Writer", "putLines", "(II)V"⟩, 17), (⟨"ScholarsPress$Breaker", "markWords", "([BIILScholarsPress$Hyphens;)V"⟩, 16), (⟨"ScholarsPress$Hyphens", "markFrom", "([BIII[B)V"⟩, 14), (⟨"ScholarsPress$Breaker", "kindAt", "([BII)I"⟩, 16), (⟨"ScholarsPress$Font", "valueOf", "(III)I"⟩, 8), (⟨"ScholarsPress$Texts", "measureColumns", "(I)I"⟩, 20), (⟨"ScholarsPress$Texts", "placeCells", "(II)V"⟩, 20), (⟨"ScholarsPress$Breaker", "findRow", "(LScholarsPress$Texts;II)I"⟩, 16), (⟨"ScholarsPress$Breaker", "findLeads", "(I)Z"⟩, 16), (⟨"ScholarsPress$Breaker", "comesFirst", "(II)Z"⟩, 16), (⟨"ScholarsPress$Breaker", "goOn", "(LScholarsPress$Texts;III)V"⟩, 16), (⟨"ScholarsPress$Breaker", "weigh", "(II)J"⟩, 16), (⟨"ScholarsPress$Breaker", "weighFitting", "(JI)V"⟩, 16), (⟨"ScholarsPress$Breaker", "keepLines", "(LScholarsPress$Texts;II)V"⟩, 16), (⟨"ScholarsPress$Pages", "addLines", "(LScholarsPress$Looks;I)Z"⟩, 21), (⟨"ScholarsPress$Pages", "addRow", "(LScholarsPress$Looks;I)Z"⟩, 21)]
theorem lw_r6 : ∀ q ∈ lw_privs_6, lw_okq q := List.forall_mem_cons.mpr ⟨lw_p80, List.forall_mem_cons.mpr ⟨lw_p81, List.forall_mem_cons.mpr ⟨lw_p82, List.forall_mem_cons.mpr ⟨lw_p83, List.forall_mem_cons.mpr ⟨lw_p84, List.forall_mem_cons.mpr ⟨lw_p85, List.forall_mem_cons.mpr ⟨lw_p86, List.forall_mem_cons.mpr ⟨lw_p87, List.forall_mem_cons.mpr ⟨lw_p88, List.forall_mem_cons.mpr ⟨lw_p89, List.forall_mem_cons.mpr ⟨lw_p90, List.forall_mem_cons.mpr ⟨lw_p91, List.forall_mem_cons.mpr ⟨lw_p92, List.forall_mem_cons.mpr ⟨lw_p93, List.forall_mem_cons.mpr ⟨lw_p94, List.forall_mem_cons.mpr ⟨lw_p95, fun _ h => absurd h List.not_mem_nil⟩⟩⟩⟩⟩⟩⟩⟩⟩⟩⟩⟩⟩⟩⟩⟩
theorem lw_p96 : lw_okq (⟨"ScholarsPress$Pages", "countNoteLines", "()V"⟩, 21) := ⟨⟨by decide +kernel, by decide +kernel⟩, List.mem_of_getElem? (i := 1563) (by decide +kernel), List.mem_of_getElem? (i := 2077) (by decide +kernel), List.mem_of_getElem? (i := 2078) (by decide +kernel)⟩
theorem lw_p97 : lw_okq (⟨"ScholarsPress$Pages", "lineOf", "(I)I"⟩, 21) := ⟨⟨by decide +kernel, by decide +kernel⟩, List.mem_of_getElem? (i := 1563) (by decide +kernel), List.mem_of_getElem? (i := 2095) (by decide +kernel), List.mem_of_getElem? (i := 2096) (by decide +kernel)⟩
theorem lw_p98 : lw_okq (⟨"ScholarsPress$Stacker", "prepare", "(LScholarsPress$Pages;)V"⟩, 13) := ⟨⟨by decide +kernel, by decide +kernel⟩, List.mem_of_getElem? (i := 1516) (by decide +kernel), List.mem_of_getElem? (i := 2108) (by decide +kernel), List.mem_of_getElem? (i := 2109) (by decide +kernel)⟩
theorem lw_p99 : lw_okq (⟨"ScholarsPress$Stacker", "calledBy", "(I)I"⟩, 13) := ⟨⟨by decide +kernel, by decide +kernel⟩, List.mem_of_getElem? (i := 1516) (by decide +kernel), List.mem_of_getElem? (i := 2115) (by decide +kernel), List.mem_of_getElem? (i := 2116) (by decide +kernel)⟩
theorem lw_p100 : lw_okq (⟨"ScholarsPress$Stacker", "arrive", "(IIIIJ)V"⟩, 13) := ⟨⟨by decide +kernel, by decide +kernel⟩, List.mem_of_getElem? (i := 1516) (by decide +kernel), List.mem_of_getElem? (i := 2129) (by decide +kernel), List.mem_of_getElem? (i := 2130) (by decide +kernel)⟩
theorem lw_p101 : lw_okq (⟨"ScholarsPress$Stacker", "comesFirst", "(II)Z"⟩, 13) := ⟨⟨by decide +kernel, by decide +kernel⟩, List.mem_of_getElem? (i := 1516) (by decide +kernel), List.mem_of_getElem? (i := 2133) (by decide +kernel), List.mem_of_getElem? (i := 2134) (by decide +kernel)⟩
theorem lw_p102 : lw_okq (⟨"ScholarsPress$Stacker", "goOn", "(I)V"⟩, 13) := ⟨⟨by decide +kernel, by decide +kernel⟩, List.mem_of_getElem? (i := 1516) (by decide +kernel), List.mem_of_getElem? (i := 2137) (by decide +kernel), List.mem_of_getElem? (i := 2138) (by decide +kernel)⟩
theorem lw_p103 : lw_okq (⟨"ScholarsPress$Stacker", "leastOfNotes", "(III)J"⟩, 13) := ⟨⟨by decide +kernel, by decide +kernel⟩, List.mem_of_getElem? (i := 1516) (by decide +kernel), List.mem_of_getElem? (i := 2142) (by decide +kernel), List.mem_of_getElem? (i := 2143) (by decide +kernel)⟩
theorem lw_p104 : lw_okq (⟨"ScholarsPress$Stacker", "endColumn", "(IIJI)V"⟩, 13) := ⟨⟨by decide +kernel, by decide +kernel⟩, List.mem_of_getElem? (i := 1516) (by decide +kernel), List.mem_of_getElem? (i := 2147) (by decide +kernel), List.mem_of_getElem? (i := 2148) (by decide +kernel)⟩
theorem lw_p105 : lw_okq (⟨"ScholarsPress$Stacker", "bestEnd", "()I"⟩, 13) := ⟨⟨by decide +kernel, by decide +kernel⟩, List.mem_of_getElem? (i := 1516) (by decide +kernel), List.mem_of_getElem? (i := 2158) (by decide +kernel), List.mem_of_getElem? (i := 2159) (by decide +kernel)⟩
theorem lw_p106 : lw_okq (⟨"ScholarsPress$Stacker", "keepColumns", "(I)V"⟩, 13) := ⟨⟨by decide +kernel, by decide +kernel⟩, List.mem_of_getElem? (i := 1516) (by decide +kernel), List.mem_of_getElem? (i := 2162) (by decide +kernel), List.mem_of_getElem? (i := 2163) (by decide +kernel)⟩
theorem lw_p107 : lw_okq (⟨"ScholarsPress$Stacker", "placeRest", "()Z"⟩, 13) := ⟨⟨by decide +kernel, by decide +kernel⟩, List.mem_of_getElem? (i := 1516) (by decide +kernel), List.mem_of_getElem? (i := 2167) (by decide +kernel), List.mem_of_getElem? (i := 2168) (by decide +kernel)⟩
theorem lw_p108 : lw_okq (⟨"ScholarsPress$Pages", "isCounted", "(LScholarsPress$Looks;I)Z"⟩, 21) := ⟨⟨by decide +kernel, by decide +kernel⟩, List.mem_of_getElem? (i := 1563) (by decide +kernel), List.mem_of_getElem? (i := 2181) (by decide +kernel), List.mem_of_getElem? (i := 2182) (by decide +kernel)⟩
theorem lw_p109 : lw_okq (⟨"ScholarsPress$Pages", "findHeads", "(LScholarsPress$Looks;)V"⟩, 21) := ⟨⟨by decide +kernel, by decide +kernel⟩, List.mem_of_getElem? (i := 1563) (by decide +kernel), List.mem_of_getElem? (i := 2189) (by decide +kernel), List.mem_of_getElem? (i := 2190) (by decide +kernel)⟩
theorem lw_p110 : lw_okq (⟨"ScholarsPress$Pages", "targetMoved", "(LScholarsPress$Looks;LScholarsPress$Writer;II)Z"⟩, 21) := ⟨⟨by decide +kernel, by decide +kernel⟩, List.mem_of_getElem? (i := 1563) (by decide +kernel), List.mem_of_getElem? (i := 2201) (by decide +kernel), List.mem_of_getElem? (i := 2202) (by decide +kernel)⟩
theorem lw_p111 : lw_okq (⟨"ScholarsPress$Texts", "sameAs", "(ILScholarsPress$Texts;I)Z"⟩, 20) := ⟨⟨by decide +kernel, by decide +kernel⟩, List.mem_of_getElem? (i := 1569) (by decide +kernel), List.mem_of_getElem? (i := 2252) (by decide +kernel), List.mem_of_getElem? (i := 2253) (by decide +kernel)⟩
def lw_privs_7 : List (MethodName × Nat) := [(⟨"ScholarsPress$Pages", "countNoteLines", "()V"⟩, 21), (⟨"ScholarsPress$Pages", "lineOf", "(I)I"⟩, 21), (⟨"ScholarsPress$Stacker", "prepare", "(LScholarsPress$Pages;)V"⟩, 13), (⟨"ScholarsPress$Stacker", "calledBy", "(I)I"⟩, 13), (⟨"ScholarsPress$Stacker", "arrive", "(IIIIJ)V"⟩, 13), (⟨"ScholarsPress$Stacker", "comesFirst", "(II)Z"⟩, 13), (⟨"ScholarsPress$Stacker", "goOn", "(I)V"⟩, 13), (⟨"ScholarsPress$Stacker", "leastOfNotes", "(III)J"⟩, 13), (⟨"ScholarsPress$Stacker", "endColumn", "(IIJI)V"⟩, 13), (⟨"ScholarsPress$Stacker", "bestEnd", "()I"⟩, 13), (⟨"ScholarsPress$Stacker", "keepColumns", "(I)V"⟩, 13), (⟨"ScholarsPress$Stacker", "placeRest", "()Z"⟩, 13), (⟨"ScholarsPress$Pages", "isCounted", "(LScholarsPress$Looks;I)Z"⟩, 21), (⟨"ScholarsPress$Pages", "findHeads", "(LScholarsPress$Looks;)V"⟩, 21), (⟨"ScholarsPress$Pages", "targetMoved", "(LScholarsPress$Looks;LScholarsPress$Writer;II)Z"⟩, 21), (⟨"ScholarsPress$Texts", "sameAs", "(ILScholarsPress$Texts;I)Z"⟩, 20)]
theorem lw_r7 : ∀ q ∈ lw_privs_7, lw_okq q := List.forall_mem_cons.mpr ⟨lw_p96, List.forall_mem_cons.mpr ⟨lw_p97, List.forall_mem_cons.mpr ⟨lw_p98, List.forall_mem_cons.mpr ⟨lw_p99, List.forall_mem_cons.mpr ⟨lw_p100, List.forall_mem_cons.mpr ⟨lw_p101, List.forall_mem_cons.mpr ⟨lw_p102, List.forall_mem_cons.mpr ⟨lw_p103, List.forall_mem_cons.mpr ⟨lw_p104, List.forall_mem_cons.mpr ⟨lw_p105, List.forall_mem_cons.mpr ⟨lw_p106, List.forall_mem_cons.mpr ⟨lw_p107, List.forall_mem_cons.mpr ⟨lw_p108, List.forall_mem_cons.mpr ⟨lw_p109, List.forall_mem_cons.mpr ⟨lw_p110, List.forall_mem_cons.mpr ⟨lw_p111, fun _ h => absurd h List.not_mem_nil⟩⟩⟩⟩⟩⟩⟩⟩⟩⟩⟩⟩⟩⟩⟩⟩
theorem lw_p112 : lw_okq (⟨"ScholarsPress", "countSource", "(I)I"⟩, 21) := ⟨⟨by decide +kernel, by decide +kernel⟩, List.mem_of_getElem? (i := 45) (by decide +kernel), List.mem_of_getElem? (i := 2276) (by decide +kernel), List.mem_of_getElem? (i := 2277) (by decide +kernel)⟩
theorem lw_p113 : lw_okq (⟨"ScholarsPress$Breaker", "weighLine", "(LScholarsPress$Texts;III)J"⟩, 16) := ⟨⟨by decide +kernel, by decide +kernel⟩, List.mem_of_getElem? (i := 1461) (by decide +kernel), List.mem_of_getElem? (i := 2299) (by decide +kernel), List.mem_of_getElem? (i := 2300) (by decide +kernel)⟩
theorem lw_p114 : lw_okq (⟨"ScholarsPress$Pages", "columnWith", "(II)I"⟩, 21) := ⟨⟨by decide +kernel, by decide +kernel⟩, List.mem_of_getElem? (i := 1563) (by decide +kernel), List.mem_of_getElem? (i := 2396) (by decide +kernel), List.mem_of_getElem? (i := 2397) (by decide +kernel)⟩
theorem lw_p115 : lw_okq (⟨"ScholarsPress$Pages", "noteTop", "(III)I"⟩, 21) := ⟨⟨by decide +kernel, by decide +kernel⟩, List.mem_of_getElem? (i := 1563) (by decide +kernel), List.mem_of_getElem? (i := 2400) (by decide +kernel), List.mem_of_getElem? (i := 2401) (by decide +kernel)⟩
theorem lw_p116 : lw_okq (⟨"ScholarsPress$Pages", "putNumber", "(I)V"⟩, 21) := ⟨⟨by decide +kernel, by decide +kernel⟩, List.mem_of_getElem? (i := 1563) (by decide +kernel), List.mem_of_getElem? (i := 2428) (by decide +kernel), List.mem_of_getElem? (i := 2429) (by decide +kernel)⟩
theorem lw_p117 : lw_okq (⟨"ScholarsPress$Pages", "put", "(I)V"⟩, 21) := ⟨⟨by decide +kernel, by decide +kernel⟩, List.mem_of_getElem? (i := 1563) (by decide +kernel), List.mem_of_getElem? (i := 2432) (by decide +kernel), List.mem_of_getElem? (i := 2433) (by decide +kernel)⟩
theorem lw_p118 : lw_okq (⟨"ScholarsPress$Pages", "printFloats", "(I)V"⟩, 21) := ⟨⟨by decide +kernel, by decide +kernel⟩, List.mem_of_getElem? (i := 1563) (by decide +kernel), List.mem_of_getElem? (i := 2436) (by decide +kernel), List.mem_of_getElem? (i := 2437) (by decide +kernel)⟩
theorem lw_p119 : lw_okq (⟨"ScholarsPress$Pages", "printLines", "(II)V"⟩, 21) := ⟨⟨by decide +kernel, by decide +kernel⟩, List.mem_of_getElem? (i := 1563) (by decide +kernel), List.mem_of_getElem? (i := 2440) (by decide +kernel), List.mem_of_getElem? (i := 2441) (by decide +kernel)⟩
theorem lw_p120 : lw_okq (⟨"ScholarsPress$Pages", "printLine", "(IIII)V"⟩, 21) := ⟨⟨by decide +kernel, by decide +kernel⟩, List.mem_of_getElem? (i := 1563) (by decide +kernel), List.mem_of_getElem? (i := 2444) (by decide +kernel), List.mem_of_getElem? (i := 2445) (by decide +kernel)⟩
theorem lw_p121 : lw_okq (⟨"ScholarsPress$Pages", "printNotes", "(II)V"⟩, 21) := ⟨⟨by decide +kernel, by decide +kernel⟩, List.mem_of_getElem? (i := 1563) (by decide +kernel), List.mem_of_getElem? (i := 2449) (by decide +kernel), List.mem_of_getElem? (i := 2450) (by decide +kernel)⟩
theorem lw_p122 : lw_okq (⟨"ScholarsPressModel", "refuse", "(I)I"⟩, 23) := ⟨⟨by decide +kernel, by decide +kernel⟩, List.mem_of_getElem? (i := 2461) (by decide +kernel), List.mem_of_getElem? (i := 3520) (by decide +kernel), List.mem_of_getElem? (i := 3521) (by decide +kernel)⟩
theorem lw_p123 : lw_okq (⟨"ScholarsPressModel", "four", "(I)V"⟩, 23) := ⟨⟨by decide +kernel, by decide +kernel⟩, List.mem_of_getElem? (i := 2461) (by decide +kernel), List.mem_of_getElem? (i := 3524) (by decide +kernel), List.mem_of_getElem? (i := 3525) (by decide +kernel)⟩
theorem lw_p124 : lw_okq (⟨"ScholarsPressModel$Letters", "one", "()V"⟩, 9) := ⟨⟨by decide +kernel, by decide +kernel⟩, List.mem_of_getElem? (i := 2467) (by decide +kernel), List.mem_of_getElem? (i := 3562) (by decide +kernel), List.mem_of_getElem? (i := 3563) (by decide +kernel)⟩
theorem lw_p125 : lw_okq (⟨"ScholarsPressModel$Letters", "single", "()I"⟩, 9) := ⟨⟨by decide +kernel, by decide +kernel⟩, List.mem_of_getElem? (i := 2467) (by decide +kernel), List.mem_of_getElem? (i := 3577) (by decide +kernel), List.mem_of_getElem? (i := 3578) (by decide +kernel)⟩
theorem lw_p126 : lw_okq (⟨"ScholarsPressModel", "broken", "(II)I"⟩, 23) := ⟨⟨by decide +kernel, by decide +kernel⟩, List.mem_of_getElem? (i := 2461) (by decide +kernel), List.mem_of_getElem? (i := 3634) (by decide +kernel), List.mem_of_getElem? (i := 3635) (by decide +kernel)⟩
theorem lw_p127 : lw_okq (⟨"ScholarsPressModel", "wasRead", "(I)V"⟩, 23) := ⟨⟨by decide +kernel, by decide +kernel⟩, List.mem_of_getElem? (i := 2461) (by decide +kernel), List.mem_of_getElem? (i := 3638) (by decide +kernel), List.mem_of_getElem? (i := 3639) (by decide +kernel)⟩
def lw_privs_8 : List (MethodName × Nat) := [(⟨"ScholarsPress", "countSource", "(I)I"⟩, 21), (⟨"ScholarsPress$Breaker", "weighLine", "(LScholarsPress$Texts;III)J"⟩, 16), (⟨"ScholarsPress$Pages", "columnWith", "(II)I"⟩, 21), (⟨"ScholarsPress$Pages", "noteTop", "(III)I"⟩, 21), (⟨"ScholarsPress$Pages", "putNumber", "(I)V"⟩, 21), (⟨"ScholarsPress$Pages", "put", "(I)V"⟩, 21), (⟨"ScholarsPress$Pages", "printFloats", "(I)V"⟩, 21), (⟨"ScholarsPress$Pages", "printLines", "(II)V"⟩, 21), (⟨"ScholarsPress$Pages", "printLine", "(IIII)V"⟩, 21), (⟨"ScholarsPress$Pages", "printNotes", "(II)V"⟩, 21), (⟨"ScholarsPressModel", "refuse", "(I)I"⟩, 23), (⟨"ScholarsPressModel", "four", "(I)V"⟩, 23), (⟨"ScholarsPressModel$Letters", "one", "()V"⟩, 9), (⟨"ScholarsPressModel$Letters", "single", "()I"⟩, 9), (⟨"ScholarsPressModel", "broken", "(II)I"⟩, 23), (⟨"ScholarsPressModel", "wasRead", "(I)V"⟩, 23)]
theorem lw_r8 : ∀ q ∈ lw_privs_8, lw_okq q := List.forall_mem_cons.mpr ⟨lw_p112, List.forall_mem_cons.mpr ⟨lw_p113, List.forall_mem_cons.mpr ⟨lw_p114, List.forall_mem_cons.mpr ⟨lw_p115, List.forall_mem_cons.mpr ⟨lw_p116, List.forall_mem_cons.mpr ⟨lw_p117, List.forall_mem_cons.mpr ⟨lw_p118, List.forall_mem_cons.mpr ⟨lw_p119, List.forall_mem_cons.mpr ⟨lw_p120, List.forall_mem_cons.mpr ⟨lw_p121, List.forall_mem_cons.mpr ⟨lw_p122, List.forall_mem_cons.mpr ⟨lw_p123, List.forall_mem_cons.mpr ⟨lw_p124, List.forall_mem_cons.mpr ⟨lw_p125, List.forall_mem_cons.mpr ⟨lw_p126, List.forall_mem_cons.mpr ⟨lw_p127, fun _ h => absurd h List.not_mem_nil⟩⟩⟩⟩⟩⟩⟩⟩⟩⟩⟩⟩⟩⟩⟩⟩
theorem lw_p128 : lw_okq (⟨"ScholarsPressModel$Parting", "exception", "([BII)V"⟩, 14) := ⟨⟨by decide +kernel, by decide +kernel⟩, List.mem_of_getElem? (i := 2545) (by decide +kernel), List.mem_of_getElem? (i := 3663) (by decide +kernel), List.mem_of_getElem? (i := 3664) (by decide +kernel)⟩
theorem lw_p129 : lw_okq (⟨"ScholarsPressModel$Parting", "pattern", "([BII)V"⟩, 14) := ⟨⟨by decide +kernel, by decide +kernel⟩, List.mem_of_getElem? (i := 2545) (by decide +kernel), List.mem_of_getElem? (i := 3671) (by decide +kernel), List.mem_of_getElem? (i := 3672) (by decide +kernel)⟩
theorem lw_p130 : lw_okq (⟨"ScholarsPressModel$Style", "pageBody", "()V"⟩, 28) := ⟨⟨by decide +kernel, by decide +kernel⟩, List.mem_of_getElem? (i := 2596) (by decide +kernel), List.mem_of_getElem? (i := 3688) (by decide +kernel), List.mem_of_getElem? (i := 3689) (by decide +kernel)⟩
theorem lw_p131 : lw_okq (⟨"ScholarsPressModel$Style", "word", "(Ljava/lang/String;)I"⟩, 28) := ⟨⟨by decide +kernel, by decide +kernel⟩, List.mem_of_getElem? (i := 2596) (by decide +kernel), List.mem_of_getElem? (i := 3705) (by decide +kernel), List.mem_of_getElem? (i := 3706) (by decide +kernel)⟩
theorem lw_p132 : lw_okq (⟨"ScholarsPressModel$Style", "rule", "()V"⟩, 28) := ⟨⟨by decide +kernel, by decide +kernel⟩, List.mem_of_getElem? (i := 2596) (by decide +kernel), List.mem_of_getElem? (i := 3711) (by decide +kernel), List.mem_of_getElem? (i := 3712) (by decide +kernel)⟩
theorem lw_p133 : lw_okq (⟨"ScholarsPressModel$Style", "selector", "()V"⟩, 28) := ⟨⟨by decide +kernel, by decide +kernel⟩, List.mem_of_getElem? (i := 2596) (by decide +kernel), List.mem_of_getElem? (i := 3715) (by decide +kernel), List.mem_of_getElem? (i := 3716) (by decide +kernel)⟩
theorem lw_p134 : lw_okq (⟨"ScholarsPressModel$Style", "step", "(II)V"⟩, 28) := ⟨⟨by decide +kernel, by decide +kernel⟩, List.mem_of_getElem? (i := 2596) (by decide +kernel), List.mem_of_getElem? (i := 3719) (by decide +kernel), List.mem_of_getElem? (i := 3720) (by decide +kernel)⟩
theorem lw_p135 : lw_okq (⟨"ScholarsPressModel$Style", "bracket", "()V"⟩, 28) := ⟨⟨by decide +kernel, by decide +kernel⟩, List.mem_of_getElem? (i := 2596) (by decide +kernel), List.mem_of_getElem? (i := 3723) (by decide +kernel), List.mem_of_getElem? (i := 3724) (by decide +kernel)⟩
theorem lw_p136 : lw_okq (⟨"ScholarsPressModel$Style", "colon", "()V"⟩, 28) := ⟨⟨by decide +kernel, by decide +kernel⟩, List.mem_of_getElem? (i := 2596) (by decide +kernel), List.mem_of_getElem? (i := 3729) (by decide +kernel), List.mem_of_getElem? (i := 3730) (by decide +kernel)⟩
theorem lw_p137 : lw_okq (⟨"ScholarsPressModel$Style", "body", "()V"⟩, 28) := ⟨⟨by decide +kernel, by decide +kernel⟩, List.mem_of_getElem? (i := 2596) (by decide +kernel), List.mem_of_getElem? (i := 3735) (by decide +kernel), List.mem_of_getElem? (i := 3736) (by decide +kernel)⟩
theorem lw_p138 : lw_okq (⟨"ScholarsPressModel$Style", "valueOf", "(I)I"⟩, 28) := ⟨⟨by decide +kernel, by decide +kernel⟩, List.mem_of_getElem? (i := 2596) (by decide +kernel), List.mem_of_getElem? (i := 3743) (by decide +kernel), List.mem_of_getElem? (i := 3744) (by decide +kernel)⟩
theorem lw_p139 : lw_okq (⟨"ScholarsPressModel$Style", "size", "()I"⟩, 28) := ⟨⟨by decide +kernel, by decide +kernel⟩, List.mem_of_getElem? (i := 2596) (by decide +kernel), List.mem_of_getElem? (i := 3748) (by decide +kernel), List.mem_of_getElem? (i := 3749) (by decide +kernel)⟩
theorem lw_p140 : lw_okq (⟨"ScholarsPressModel$Style", "counter", "()I"⟩, 28) := ⟨⟨by decide +kernel, by decide +kernel⟩, List.mem_of_getElem? (i := 2596) (by decide +kernel), List.mem_of_getElem? (i := 3758) (by decide +kernel), List.mem_of_getElem? (i := 3759) (by decide +kernel)⟩
theorem lw_p141 : lw_okq (⟨"ScholarsPressModel$Source", "byteAt", "(I)I"⟩, 28) := ⟨⟨by decide +kernel, by decide +kernel⟩, List.mem_of_getElem? (i := 2716) (by decide +kernel), List.mem_of_getElem? (i := 3773) (by decide +kernel), List.mem_of_getElem? (i := 3774) (by decide +kernel)⟩
theorem lw_p142 : lw_okq (⟨"ScholarsPressModel$Source", "reference", "()V"⟩, 28) := ⟨⟨by decide +kernel, by decide +kernel⟩, List.mem_of_getElem? (i := 2716) (by decide +kernel), List.mem_of_getElem? (i := 3777) (by decide +kernel), List.mem_of_getElem? (i := 3778) (by decide +kernel)⟩
theorem lw_p143 : lw_okq (⟨"ScholarsPressModel$Source", "nameAt", "(I)I"⟩, 28) := ⟨⟨by decide +kernel, by decide +kernel⟩, List.mem_of_getElem? (i := 2716) (by decide +kernel), List.mem_of_getElem? (i := 3781) (by decide +kernel), List.mem_of_getElem? (i := 3782) (by decide +kernel)⟩
def lw_privs_9 : List (MethodName × Nat) := [(⟨"ScholarsPressModel$Parting", "exception", "([BII)V"⟩, 14), (⟨"ScholarsPressModel$Parting", "pattern", "([BII)V"⟩, 14), (⟨"ScholarsPressModel$Style", "pageBody", "()V"⟩, 28), (⟨"ScholarsPressModel$Style", "word", "(Ljava/lang/String;)I"⟩, 28), (⟨"ScholarsPressModel$Style", "rule", "()V"⟩, 28), (⟨"ScholarsPressModel$Style", "selector", "()V"⟩, 28), (⟨"ScholarsPressModel$Style", "step", "(II)V"⟩, 28), (⟨"ScholarsPressModel$Style", "bracket", "()V"⟩, 28), (⟨"ScholarsPressModel$Style", "colon", "()V"⟩, 28), (⟨"ScholarsPressModel$Style", "body", "()V"⟩, 28), (⟨"ScholarsPressModel$Style", "valueOf", "(I)I"⟩, 28), (⟨"ScholarsPressModel$Style", "size", "()I"⟩, 28), (⟨"ScholarsPressModel$Style", "counter", "()I"⟩, 28), (⟨"ScholarsPressModel$Source", "byteAt", "(I)I"⟩, 28), (⟨"ScholarsPressModel$Source", "reference", "()V"⟩, 28), (⟨"ScholarsPressModel$Source", "nameAt", "(I)I"⟩, 28)]
theorem lw_r9 : ∀ q ∈ lw_privs_9, lw_okq q := List.forall_mem_cons.mpr ⟨lw_p128, List.forall_mem_cons.mpr ⟨lw_p129, List.forall_mem_cons.mpr ⟨lw_p130, List.forall_mem_cons.mpr ⟨lw_p131, List.forall_mem_cons.mpr ⟨lw_p132, List.forall_mem_cons.mpr ⟨lw_p133, List.forall_mem_cons.mpr ⟨lw_p134, List.forall_mem_cons.mpr ⟨lw_p135, List.forall_mem_cons.mpr ⟨lw_p136, List.forall_mem_cons.mpr ⟨lw_p137, List.forall_mem_cons.mpr ⟨lw_p138, List.forall_mem_cons.mpr ⟨lw_p139, List.forall_mem_cons.mpr ⟨lw_p140, List.forall_mem_cons.mpr ⟨lw_p141, List.forall_mem_cons.mpr ⟨lw_p142, List.forall_mem_cons.mpr ⟨lw_p143, fun _ h => absurd h List.not_mem_nil⟩⟩⟩⟩⟩⟩⟩⟩⟩⟩⟩⟩⟩⟩⟩⟩
theorem lw_p144 : lw_okq (⟨"ScholarsPressModel$Source", "find", "(II)I"⟩, 28) := ⟨⟨by decide +kernel, by decide +kernel⟩, List.mem_of_getElem? (i := 2716) (by decide +kernel), List.mem_of_getElem? (i := 3792) (by decide +kernel), List.mem_of_getElem? (i := 3793) (by decide +kernel)⟩
theorem lw_p145 : lw_okq (⟨"ScholarsPressModel$Source", "need", "(II)V"⟩, 28) := ⟨⟨by decide +kernel, by decide +kernel⟩, List.mem_of_getElem? (i := 2716) (by decide +kernel), List.mem_of_getElem? (i := 3797) (by decide +kernel), List.mem_of_getElem? (i := 3798) (by decide +kernel)⟩
theorem lw_p146 : lw_okq (⟨"ScholarsPressModel$Source", "add", "(III)V"⟩, 28) := ⟨⟨by decide +kernel, by decide +kernel⟩, List.mem_of_getElem? (i := 2716) (by decide +kernel), List.mem_of_getElem? (i := 3801) (by decide +kernel), List.mem_of_getElem? (i := 3802) (by decide +kernel)⟩
theorem lw_p147 : lw_okq (⟨"ScholarsPressModel$Source", "tag", "()V"⟩, 28) := ⟨⟨by decide +kernel, by decide +kernel⟩, List.mem_of_getElem? (i := 2716) (by decide +kernel), List.mem_of_getElem? (i := 3805) (by decide +kernel), List.mem_of_getElem? (i := 3806) (by decide +kernel)⟩
theorem lw_p148 : lw_okq (⟨"ScholarsPressModel$Source", "comment", "(I)V"⟩, 28) := ⟨⟨by decide +kernel, by decide +kernel⟩, List.mem_of_getElem? (i := 2716) (by decide +kernel), List.mem_of_getElem? (i := 3809) (by decide +kernel), List.mem_of_getElem? (i := 3810) (by decide +kernel)⟩
theorem lw_p149 : lw_okq (⟨"ScholarsPressModel$Source", "tell", "(I)V"⟩, 28) := ⟨⟨by decide +kernel, by decide +kernel⟩, List.mem_of_getElem? (i := 2716) (by decide +kernel), List.mem_of_getElem? (i := 3813) (by decide +kernel), List.mem_of_getElem? (i := 3814) (by decide +kernel)⟩
theorem lw_p150 : lw_okq (⟨"ScholarsPressModel$Source", "skip", "(I)I"⟩, 28) := ⟨⟨by decide +kernel, by decide +kernel⟩, List.mem_of_getElem? (i := 2716) (by decide +kernel), List.mem_of_getElem? (i := 3817) (by decide +kernel), List.mem_of_getElem? (i := 3818) (by decide +kernel)⟩
theorem lw_p151 : lw_okq (⟨"ScholarsPressModel$Source", "stringAt", "(I)I"⟩, 28) := ⟨⟨by decide +kernel, by decide +kernel⟩, List.mem_of_getElem? (i := 2716) (by decide +kernel), List.mem_of_getElem? (i := 3822) (by decide +kernel), List.mem_of_getElem? (i := 3823) (by decide +kernel)⟩
theorem lw_p152 : lw_okq (⟨"ScholarsPressModel$Source", "close", "(I)V"⟩, 28) := ⟨⟨by decide +kernel, by decide +kernel⟩, List.mem_of_getElem? (i := 2716) (by decide +kernel), List.mem_of_getElem? (i := 3826) (by decide +kernel), List.mem_of_getElem? (i := 3827) (by decide +kernel)⟩
theorem lw_p153 : lw_okq (⟨"ScholarsPressModel$Source", "ended", "(I)V"⟩, 28) := ⟨⟨by decide +kernel, by decide +kernel⟩, List.mem_of_getElem? (i := 2716) (by decide +kernel), List.mem_of_getElem? (i := 3830) (by decide +kernel), List.mem_of_getElem? (i := 3831) (by decide +kernel)⟩
theorem lw_p154 : lw_okq (⟨"ScholarsPressModel$Source", "begin", "(I)V"⟩, 28) := ⟨⟨by decide +kernel, by decide +kernel⟩, List.mem_of_getElem? (i := 2716) (by decide +kernel), List.mem_of_getElem? (i := 3834) (by decide +kernel), List.mem_of_getElem? (i := 3835) (by decide +kernel)⟩
theorem lw_p155 : lw_okq (⟨"ScholarsPressModel$Source", "field", "(II)I"⟩, 28) := ⟨⟨by decide +kernel, by decide +kernel⟩, List.mem_of_getElem? (i := 2716) (by decide +kernel), List.mem_of_getElem? (i := 3838) (by decide +kernel), List.mem_of_getElem? (i := 3839) (by decide +kernel)⟩
theorem lw_p156 : lw_okq (⟨"ScholarsPressModel$Source", "plain", "()V"⟩, 28) := ⟨⟨by decide +kernel, by decide +kernel⟩, List.mem_of_getElem? (i := 2716) (by decide +kernel), List.mem_of_getElem? (i := 3842) (by decide +kernel), List.mem_of_getElem? (i := 3843) (by decide +kernel)⟩
theorem lw_p157 : lw_okq (⟨"ScholarsPressModel", "taken", "()I"⟩, 23) := ⟨⟨by decide +kernel, by decide +kernel⟩, List.mem_of_getElem? (i := 2461) (by decide +kernel), List.mem_of_getElem? (i := 3846) (by decide +kernel), List.mem_of_getElem? (i := 3847) (by decide +kernel)⟩
theorem lw_p158 : lw_okq (⟨"ScholarsPressModel$Tree", "relations", "()V"⟩, 30) := ⟨⟨by decide +kernel, by decide +kernel⟩, List.mem_of_getElem? (i := 2840) (by decide +kernel), List.mem_of_getElem? (i := 3879) (by decide +kernel), List.mem_of_getElem? (i := 3880) (by decide +kernel)⟩
theorem lw_p159 : lw_okq (⟨"ScholarsPressModel$Tree", "apply", "(LScholarsPressModel$Style;I)V"⟩, 30) := ⟨⟨by decide +kernel, by decide +kernel⟩, List.mem_of_getElem? (i := 2840) (by decide +kernel), List.mem_of_getElem? (i := 3883) (by decide +kernel), List.mem_of_getElem? (i := 3884) (by decide +kernel)⟩
def lw_privs_10 : List (MethodName × Nat) := [(⟨"ScholarsPressModel$Source", "find", "(II)I"⟩, 28), (⟨"ScholarsPressModel$Source", "need", "(II)V"⟩, 28), (⟨"ScholarsPressModel$Source", "add", "(III)V"⟩, 28), (⟨"ScholarsPressModel$Source", "tag", "()V"⟩, 28), (⟨"ScholarsPressModel$Source", "comment", "(I)V"⟩, 28), (⟨"ScholarsPressModel$Source", "tell", "(I)V"⟩, 28), (⟨"ScholarsPressModel$Source", "skip", "(I)I"⟩, 28), (⟨"ScholarsPressModel$Source", "stringAt", "(I)I"⟩, 28), (⟨"ScholarsPressModel$Source", "close", "(I)V"⟩, 28), (⟨"ScholarsPressModel$Source", "ended", "(I)V"⟩, 28), (⟨"ScholarsPressModel$Source", "begin", "(I)V"⟩, 28), (⟨"ScholarsPressModel$Source", "field", "(II)I"⟩, 28), (⟨"ScholarsPressModel$Source", "plain", "()V"⟩, 28), (⟨"ScholarsPressModel", "taken", "()I"⟩, 23), (⟨"ScholarsPressModel$Tree", "relations", "()V"⟩, 30), (⟨"ScholarsPressModel$Tree", "apply", "(LScholarsPressModel$Style;I)V"⟩, 30)]
theorem lw_r10 : ∀ q ∈ lw_privs_10, lw_okq q := List.forall_mem_cons.mpr ⟨lw_p144, List.forall_mem_cons.mpr ⟨lw_p145, List.forall_mem_cons.mpr ⟨lw_p146, List.forall_mem_cons.mpr ⟨lw_p147, List.forall_mem_cons.mpr ⟨lw_p148, List.forall_mem_cons.mpr ⟨lw_p149, List.forall_mem_cons.mpr ⟨lw_p150, List.forall_mem_cons.mpr ⟨lw_p151, List.forall_mem_cons.mpr ⟨lw_p152, List.forall_mem_cons.mpr ⟨lw_p153, List.forall_mem_cons.mpr ⟨lw_p154, List.forall_mem_cons.mpr ⟨lw_p155, List.forall_mem_cons.mpr ⟨lw_p156, List.forall_mem_cons.mpr ⟨lw_p157, List.forall_mem_cons.mpr ⟨lw_p158, List.forall_mem_cons.mpr ⟨lw_p159, fun _ h => absurd h List.not_mem_nil⟩⟩⟩⟩⟩⟩⟩⟩⟩⟩⟩⟩⟩⟩⟩⟩
theorem lw_p160 : lw_okq (⟨"ScholarsPressModel$Tree", "linked", "(LScholarsPressModel$Style;IIZ)Z"⟩, 30) := ⟨⟨by decide +kernel, by decide +kernel⟩, List.mem_of_getElem? (i := 2840) (by decide +kernel), List.mem_of_getElem? (i := 3887) (by decide +kernel), List.mem_of_getElem? (i := 3888) (by decide +kernel)⟩
theorem lw_p161 : lw_okq (⟨"ScholarsPressModel$Tree", "fitsStep", "(LScholarsPressModel$Style;II)Z"⟩, 30) := ⟨⟨by decide +kernel, by decide +kernel⟩, List.mem_of_getElem? (i := 2840) (by decide +kernel), List.mem_of_getElem? (i := 3891) (by decide +kernel), List.mem_of_getElem? (i := 3892) (by decide +kernel)⟩
theorem lw_p162 : lw_okq (⟨"ScholarsPressModel$Tree", "inherit", "()V"⟩, 30) := ⟨⟨by decide +kernel, by decide +kernel⟩, List.mem_of_getElem? (i := 2840) (by decide +kernel), List.mem_of_getElem? (i := 3900) (by decide +kernel), List.mem_of_getElem? (i := 3901) (by decide +kernel)⟩
theorem lw_p163 : lw_okq (⟨"ScholarsPressModel$Tree", "flags", "()V"⟩, 30) := ⟨⟨by decide +kernel, by decide +kernel⟩, List.mem_of_getElem? (i := 2840) (by decide +kernel), List.mem_of_getElem? (i := 3916) (by decide +kernel), List.mem_of_getElem? (i := 3917) (by decide +kernel)⟩
theorem lw_p164 : lw_okq (⟨"ScholarsPressModel$Tree", "isMute", "(I)Z"⟩, 30) := ⟨⟨by decide +kernel, by decide +kernel⟩, List.mem_of_getElem? (i := 2840) (by decide +kernel), List.mem_of_getElem? (i := 3924) (by decide +kernel), List.mem_of_getElem? (i := 3925) (by decide +kernel)⟩
theorem lw_p165 : lw_okq (⟨"ScholarsPressModel$Tree", "count", "()V"⟩, 30) := ⟨⟨by decide +kernel, by decide +kernel⟩, List.mem_of_getElem? (i := 2840) (by decide +kernel), List.mem_of_getElem? (i := 3928) (by decide +kernel), List.mem_of_getElem? (i := 3929) (by decide +kernel)⟩
theorem lw_p166 : lw_okq (⟨"ScholarsPressModel$Setting", "findEntries", "()V"⟩, 141) := ⟨⟨by decide +kernel, by decide +kernel⟩, List.mem_of_getElem? (i := 2959) (by decide +kernel), List.mem_of_getElem? (i := 3932) (by decide +kernel), List.mem_of_getElem? (i := 3933) (by decide +kernel)⟩
theorem lw_p167 : lw_okq (⟨"ScholarsPressModel$Tree", "sayLabel", "(I)V"⟩, 30) := ⟨⟨by decide +kernel, by decide +kernel⟩, List.mem_of_getElem? (i := 2840) (by decide +kernel), List.mem_of_getElem? (i := 3946) (by decide +kernel), List.mem_of_getElem? (i := 3947) (by decide +kernel)⟩
theorem lw_p168 : lw_okq (⟨"ScholarsPressModel$Tree", "roman", "(I)I"⟩, 30) := ⟨⟨by decide +kernel, by decide +kernel⟩, List.mem_of_getElem? (i := 2840) (by decide +kernel), List.mem_of_getElem? (i := 3958) (by decide +kernel), List.mem_of_getElem? (i := 3959) (by decide +kernel)⟩
theorem lw_p169 : lw_okq (⟨"ScholarsPressModel$Tree", "put", "(II)I"⟩, 30) := ⟨⟨by decide +kernel, by decide +kernel⟩, List.mem_of_getElem? (i := 2840) (by decide +kernel), List.mem_of_getElem? (i := 3964) (by decide +kernel), List.mem_of_getElem? (i := 3965) (by decide +kernel)⟩
theorem lw_p170 : lw_okq (⟨"ScholarsPressModel$Tree", "letters", "(I)I"⟩, 30) := ⟨⟨by decide +kernel, by decide +kernel⟩, List.mem_of_getElem? (i := 2840) (by decide +kernel), List.mem_of_getElem? (i := 3968) (by decide +kernel), List.mem_of_getElem? (i := 3969) (by decide +kernel)⟩
theorem lw_p171 : lw_okq (⟨"ScholarsPressModel$Tree", "say", "(I)V"⟩, 30) := ⟨⟨by decide +kernel, by decide +kernel⟩, List.mem_of_getElem? (i := 2840) (by decide +kernel), List.mem_of_getElem? (i := 3972) (by decide +kernel), List.mem_of_getElem? (i := 3973) (by decide +kernel)⟩
theorem lw_p172 : lw_okq (⟨"ScholarsPressModel$Setting", "entryLong", "(I)I"⟩, 141) := ⟨⟨by decide +kernel, by decide +kernel⟩, List.mem_of_getElem? (i := 2959) (by decide +kernel), List.mem_of_getElem? (i := 3985) (by decide +kernel), List.mem_of_getElem? (i := 3986) (by decide +kernel)⟩
theorem lw_p173 : lw_okq (⟨"ScholarsPressModel$Setting", "sameEntry", "(II)Z"⟩, 141) := ⟨⟨by decide +kernel, by decide +kernel⟩, List.mem_of_getElem? (i := 2959) (by decide +kernel), List.mem_of_getElem? (i := 3989) (by decide +kernel), List.mem_of_getElem? (i := 3990) (by decide +kernel)⟩
theorem lw_p174 : lw_okq (⟨"ScholarsPressModel$Setting", "entryByte", "(II)I"⟩, 141) := ⟨⟨by decide +kernel, by decide +kernel⟩, List.mem_of_getElem? (i := 2959) (by decide +kernel), List.mem_of_getElem? (i := 3993) (by decide +kernel), List.mem_of_getElem? (i := 3994) (by decide +kernel)⟩
theorem lw_p175 : lw_okq (⟨"ScholarsPressModel$Setting", "isBefore", "(II)Z"⟩, 141) := ⟨⟨by decide +kernel, by decide +kernel⟩, List.mem_of_getElem? (i := 2959) (by decide +kernel), List.mem_of_getElem? (i := 4012) (by decide +kernel), List.mem_of_getElem? (i := 4013) (by decide +kernel)⟩
def lw_privs_11 : List (MethodName × Nat) := [(⟨"ScholarsPressModel$Tree", "linked", "(LScholarsPressModel$Style;IIZ)Z"⟩, 30), (⟨"ScholarsPressModel$Tree", "fitsStep", "(LScholarsPressModel$Style;II)Z"⟩, 30), (⟨"ScholarsPressModel$Tree", "inherit", "()V"⟩, 30), (⟨"ScholarsPressModel$Tree", "flags", "()V"⟩, 30), (⟨"ScholarsPressModel$Tree", "isMute", "(I)Z"⟩, 30), (⟨"ScholarsPressModel$Tree", "count", "()V"⟩, 30), (⟨"ScholarsPressModel$Setting", "findEntries", "()V"⟩, 141), (⟨"ScholarsPressModel$Tree", "sayLabel", "(I)V"⟩, 30), (⟨"ScholarsPressModel$Tree", "roman", "(I)I"⟩, 30), (⟨"ScholarsPressModel$Tree", "put", "(II)I"⟩, 30), (⟨"ScholarsPressModel$Tree", "letters", "(I)I"⟩, 30), (⟨"ScholarsPressModel$Tree", "say", "(I)V"⟩, 30), (⟨"ScholarsPressModel$Setting", "entryLong", "(I)I"⟩, 141), (⟨"ScholarsPressModel$Setting", "sameEntry", "(II)Z"⟩, 141), (⟨"ScholarsPressModel$Setting", "entryByte", "(II)I"⟩, 141), (⟨"ScholarsPressModel$Setting", "isBefore", "(II)Z"⟩, 141)]
theorem lw_r11 : ∀ q ∈ lw_privs_11, lw_okq q := List.forall_mem_cons.mpr ⟨lw_p160, List.forall_mem_cons.mpr ⟨lw_p161, List.forall_mem_cons.mpr ⟨lw_p162, List.forall_mem_cons.mpr ⟨lw_p163, List.forall_mem_cons.mpr ⟨lw_p164, List.forall_mem_cons.mpr ⟨lw_p165, List.forall_mem_cons.mpr ⟨lw_p166, List.forall_mem_cons.mpr ⟨lw_p167, List.forall_mem_cons.mpr ⟨lw_p168, List.forall_mem_cons.mpr ⟨lw_p169, List.forall_mem_cons.mpr ⟨lw_p170, List.forall_mem_cons.mpr ⟨lw_p171, List.forall_mem_cons.mpr ⟨lw_p172, List.forall_mem_cons.mpr ⟨lw_p173, List.forall_mem_cons.mpr ⟨lw_p174, List.forall_mem_cons.mpr ⟨lw_p175, fun _ h => absurd h List.not_mem_nil⟩⟩⟩⟩⟩⟩⟩⟩⟩⟩⟩⟩⟩⟩⟩⟩
theorem lw_p176 : lw_okq (⟨"ScholarsPressModel$Setting", "round", "()V"⟩, 141) := ⟨⟨by decide +kernel, by decide +kernel⟩, List.mem_of_getElem? (i := 2959) (by decide +kernel), List.mem_of_getElem? (i := 4020) (by decide +kernel), List.mem_of_getElem? (i := 4021) (by decide +kernel)⟩
theorem lw_p177 : lw_okq (⟨"ScholarsPressModel$Setting", "build", "()V"⟩, 141) := ⟨⟨by decide +kernel, by decide +kernel⟩, List.mem_of_getElem? (i := 2959) (by decide +kernel), List.mem_of_getElem? (i := 4024) (by decide +kernel), List.mem_of_getElem? (i := 4025) (by decide +kernel)⟩
theorem lw_p178 : lw_okq (⟨"ScholarsPressModel$Setting", "begin", "()V"⟩, 141) := ⟨⟨by decide +kernel, by decide +kernel⟩, List.mem_of_getElem? (i := 2959) (by decide +kernel), List.mem_of_getElem? (i := 4028) (by decide +kernel), List.mem_of_getElem? (i := 4029) (by decide +kernel)⟩
theorem lw_p179 : lw_okq (⟨"ScholarsPressModel$Setting", "opens", "(I)Z"⟩, 141) := ⟨⟨by decide +kernel, by decide +kernel⟩, List.mem_of_getElem? (i := 2959) (by decide +kernel), List.mem_of_getElem? (i := 4032) (by decide +kernel), List.mem_of_getElem? (i := 4033) (by decide +kernel)⟩
theorem lw_p180 : lw_okq (⟨"ScholarsPressModel$Setting", "blockOf", "(I)I"⟩, 141) := ⟨⟨by decide +kernel, by decide +kernel⟩, List.mem_of_getElem? (i := 2959) (by decide +kernel), List.mem_of_getElem? (i := 4036) (by decide +kernel), List.mem_of_getElem? (i := 4037) (by decide +kernel)⟩
theorem lw_p181 : lw_okq (⟨"ScholarsPressModel$Setting", "flowEnds", "(I)V"⟩, 141) := ⟨⟨by decide +kernel, by decide +kernel⟩, List.mem_of_getElem? (i := 2959) (by decide +kernel), List.mem_of_getElem? (i := 4040) (by decide +kernel), List.mem_of_getElem? (i := 4041) (by decide +kernel)⟩
theorem lw_p182 : lw_okq (⟨"ScholarsPressModel$Setting", "leftOf", "(I)I"⟩, 141) := ⟨⟨by decide +kernel, by decide +kernel⟩, List.mem_of_getElem? (i := 2959) (by decide +kernel), List.mem_of_getElem? (i := 4044) (by decide +kernel), List.mem_of_getElem? (i := 4045) (by decide +kernel)⟩
theorem lw_p183 : lw_okq (⟨"ScholarsPressModel$Setting", "widthOf", "(II)J"⟩, 141) := ⟨⟨by decide +kernel, by decide +kernel⟩, List.mem_of_getElem? (i := 2959) (by decide +kernel), List.mem_of_getElem? (i := 4049) (by decide +kernel), List.mem_of_getElem? (i := 4050) (by decide +kernel)⟩
theorem lw_p184 : lw_okq (⟨"ScholarsPressModel$Setting", "ended", "(IIIJ)I"⟩, 141) := ⟨⟨by decide +kernel, by decide +kernel⟩, List.mem_of_getElem? (i := 2959) (by decide +kernel), List.mem_of_getElem? (i := 4054) (by decide +kernel), List.mem_of_getElem? (i := 4055) (by decide +kernel)⟩
theorem lw_p185 : lw_okq (⟨"ScholarsPressModel$Setting", "addFlow", "(II)V"⟩, 141) := ⟨⟨by decide +kernel, by decide +kernel⟩, List.mem_of_getElem? (i := 2959) (by decide +kernel), List.mem_of_getElem? (i := 4058) (by decide +kernel), List.mem_of_getElem? (i := 4059) (by decide +kernel)⟩
theorem lw_p186 : lw_okq (⟨"ScholarsPressModel$Setting", "contents", "(I)V"⟩, 141) := ⟨⟨by decide +kernel, by decide +kernel⟩, List.mem_of_getElem? (i := 2959) (by decide +kernel), List.mem_of_getElem? (i := 4063) (by decide +kernel), List.mem_of_getElem? (i := 4064) (by decide +kernel)⟩
theorem lw_p187 : lw_okq (⟨"ScholarsPressModel$Setting", "emit", "(IIZ)V"⟩, 141) := ⟨⟨by decide +kernel, by decide +kernel⟩, List.mem_of_getElem? (i := 2959) (by decide +kernel), List.mem_of_getElem? (i := 4067) (by decide +kernel), List.mem_of_getElem? (i := 4068) (by decide +kernel)⟩
theorem lw_p188 : lw_okq (⟨"ScholarsPressModel$Setting", "add", "(III)V"⟩, 141) := ⟨⟨by decide +kernel, by decide +kernel⟩, List.mem_of_getElem? (i := 2959) (by decide +kernel), List.mem_of_getElem? (i := 4072) (by decide +kernel), List.mem_of_getElem? (i := 4073) (by decide +kernel)⟩
theorem lw_p189 : lw_okq (⟨"ScholarsPressModel$Setting", "digits", "(IIZ)V"⟩, 141) := ⟨⟨by decide +kernel, by decide +kernel⟩, List.mem_of_getElem? (i := 2959) (by decide +kernel), List.mem_of_getElem? (i := 4076) (by decide +kernel), List.mem_of_getElem? (i := 4077) (by decide +kernel)⟩
theorem lw_p190 : lw_okq (⟨"ScholarsPressModel$Setting", "index", "(I)V"⟩, 141) := ⟨⟨by decide +kernel, by decide +kernel⟩, List.mem_of_getElem? (i := 2959) (by decide +kernel), List.mem_of_getElem? (i := 4085) (by decide +kernel), List.mem_of_getElem? (i := 4086) (by decide +kernel)⟩
theorem lw_p191 : lw_okq (⟨"ScholarsPressModel$Setting", "pagesOf", "(I)I"⟩, 141) := ⟨⟨by decide +kernel, by decide +kernel⟩, List.mem_of_getElem? (i := 2959) (by decide +kernel), List.mem_of_getElem? (i := 4089) (by decide +kernel), List.mem_of_getElem? (i := 4090) (by decide +kernel)⟩
def lw_privs_12 : List (MethodName × Nat) := [(⟨"ScholarsPressModel$Setting", "round", "()V"⟩, 141), (⟨"ScholarsPressModel$Setting", "build", "()V"⟩, 141), (⟨"ScholarsPressModel$Setting", "begin", "()V"⟩, 141), (⟨"ScholarsPressModel$Setting", "opens", "(I)Z"⟩, 141), (⟨"ScholarsPressModel$Setting", "blockOf", "(I)I"⟩, 141), (⟨"ScholarsPressModel$Setting", "flowEnds", "(I)V"⟩, 141), (⟨"ScholarsPressModel$Setting", "leftOf", "(I)I"⟩, 141), (⟨"ScholarsPressModel$Setting", "widthOf", "(II)J"⟩, 141), (⟨"ScholarsPressModel$Setting", "ended", "(IIIJ)I"⟩, 141), (⟨"ScholarsPressModel$Setting", "addFlow", "(II)V"⟩, 141), (⟨"ScholarsPressModel$Setting", "contents", "(I)V"⟩, 141), (⟨"ScholarsPressModel$Setting", "emit", "(IIZ)V"⟩, 141), (⟨"ScholarsPressModel$Setting", "add", "(III)V"⟩, 141), (⟨"ScholarsPressModel$Setting", "digits", "(IIZ)V"⟩, 141), (⟨"ScholarsPressModel$Setting", "index", "(I)V"⟩, 141), (⟨"ScholarsPressModel$Setting", "pagesOf", "(I)I"⟩, 141)]
theorem lw_r12 : ∀ q ∈ lw_privs_12, lw_okq q := List.forall_mem_cons.mpr ⟨lw_p176, List.forall_mem_cons.mpr ⟨lw_p177, List.forall_mem_cons.mpr ⟨lw_p178, List.forall_mem_cons.mpr ⟨lw_p179, List.forall_mem_cons.mpr ⟨lw_p180, List.forall_mem_cons.mpr ⟨lw_p181, List.forall_mem_cons.mpr ⟨lw_p182, List.forall_mem_cons.mpr ⟨lw_p183, List.forall_mem_cons.mpr ⟨lw_p184, List.forall_mem_cons.mpr ⟨lw_p185, List.forall_mem_cons.mpr ⟨lw_p186, List.forall_mem_cons.mpr ⟨lw_p187, List.forall_mem_cons.mpr ⟨lw_p188, List.forall_mem_cons.mpr ⟨lw_p189, List.forall_mem_cons.mpr ⟨lw_p190, List.forall_mem_cons.mpr ⟨lw_p191, fun _ h => absurd h List.not_mem_nil⟩⟩⟩⟩⟩⟩⟩⟩⟩⟩⟩⟩⟩⟩⟩⟩
theorem lw_p192 : lw_okq (⟨"ScholarsPressModel$Setting", "label", "(IZ)V"⟩, 141) := ⟨⟨by decide +kernel, by decide +kernel⟩, List.mem_of_getElem? (i := 2959) (by decide +kernel), List.mem_of_getElem? (i := 4093) (by decide +kernel), List.mem_of_getElem? (i := 4094) (by decide +kernel)⟩
theorem lw_p193 : lw_okq (⟨"ScholarsPressModel$Setting", "reference", "(IZ)V"⟩, 141) := ⟨⟨by decide +kernel, by decide +kernel⟩, List.mem_of_getElem? (i := 2959) (by decide +kernel), List.mem_of_getElem? (i := 4098) (by decide +kernel), List.mem_of_getElem? (i := 4099) (by decide +kernel)⟩
theorem lw_p194 : lw_okq (⟨"ScholarsPressModel$Setting", "target", "(ILjava/lang/String;)I"⟩, 141) := ⟨⟨by decide +kernel, by decide +kernel⟩, List.mem_of_getElem? (i := 2959) (by decide +kernel), List.mem_of_getElem? (i := 4104) (by decide +kernel), List.mem_of_getElem? (i := 4105) (by decide +kernel)⟩
theorem lw_p195 : lw_okq (⟨"ScholarsPressModel$Setting", "unknown", "(IZ)V"⟩, 141) := ⟨⟨by decide +kernel, by decide +kernel⟩, List.mem_of_getElem? (i := 2959) (by decide +kernel), List.mem_of_getElem? (i := 4114) (by decide +kernel), List.mem_of_getElem? (i := 4115) (by decide +kernel)⟩
theorem lw_p196 : lw_okq (⟨"ScholarsPressModel$Setting", "says", "(ILjava/lang/String;)Z"⟩, 141) := ⟨⟨by decide +kernel, by decide +kernel⟩, List.mem_of_getElem? (i := 2959) (by decide +kernel), List.mem_of_getElem? (i := 4119) (by decide +kernel), List.mem_of_getElem? (i := 4120) (by decide +kernel)⟩
theorem lw_p197 : lw_okq (⟨"ScholarsPressModel$Setting", "closes", "(I)V"⟩, 141) := ⟨⟨by decide +kernel, by decide +kernel⟩, List.mem_of_getElem? (i := 2959) (by decide +kernel), List.mem_of_getElem? (i := 4131) (by decide +kernel), List.mem_of_getElem? (i := 4132) (by decide +kernel)⟩
theorem lw_p198 : lw_okq (⟨"ScholarsPressModel$Setting", "text", "(IIZ)V"⟩, 141) := ⟨⟨by decide +kernel, by decide +kernel⟩, List.mem_of_getElem? (i := 2959) (by decide +kernel), List.mem_of_getElem? (i := 4135) (by decide +kernel), List.mem_of_getElem? (i := 4136) (by decide +kernel)⟩
theorem lw_p199 : lw_okq (⟨"ScholarsPressModel$Setting", "note", "(I)V"⟩, 141) := ⟨⟨by decide +kernel, by decide +kernel⟩, List.mem_of_getElem? (i := 2959) (by decide +kernel), List.mem_of_getElem? (i := 4140) (by decide +kernel), List.mem_of_getElem? (i := 4141) (by decide +kernel)⟩
theorem lw_p200 : lw_okq (⟨"ScholarsPressModel$Setting", "part", "(I)V"⟩, 141) := ⟨⟨by decide +kernel, by decide +kernel⟩, List.mem_of_getElem? (i := 2959) (by decide +kernel), List.mem_of_getElem? (i := 4146) (by decide +kernel), List.mem_of_getElem? (i := 4147) (by decide +kernel)⟩
theorem lw_p201 : lw_okq (⟨"ScholarsPressModel$Parting", "greatest", "([BIII)I"⟩, 14) := ⟨⟨by decide +kernel, by decide +kernel⟩, List.mem_of_getElem? (i := 2545) (by decide +kernel), List.mem_of_getElem? (i := 4159) (by decide +kernel), List.mem_of_getElem? (i := 4160) (by decide +kernel)⟩
theorem lw_p202 : lw_okq (⟨"ScholarsPressModel$Setting", "breaksAt", "(IIIII)V"⟩, 141) := ⟨⟨by decide +kernel, by decide +kernel⟩, List.mem_of_getElem? (i := 2959) (by decide +kernel), List.mem_of_getElem? (i := 4166) (by decide +kernel), List.mem_of_getElem? (i := 4167) (by decide +kernel)⟩
theorem lw_p203 : lw_okq (⟨"ScholarsPressModel$Setting", "wide", "(II)J"⟩, 141) := ⟨⟨by decide +kernel, by decide +kernel⟩, List.mem_of_getElem? (i := 2959) (by decide +kernel), List.mem_of_getElem? (i := 4170) (by decide +kernel), List.mem_of_getElem? (i := 4171) (by decide +kernel)⟩
theorem lw_p204 : lw_okq (⟨"ScholarsPressModel$Setting", "breakAt", "(I)I"⟩, 141) := ⟨⟨by decide +kernel, by decide +kernel⟩, List.mem_of_getElem? (i := 2959) (by decide +kernel), List.mem_of_getElem? (i := 4183) (by decide +kernel), List.mem_of_getElem? (i := 4184) (by decide +kernel)⟩
theorem lw_p205 : lw_okq (⟨"ScholarsPressModel$Setting", "tables", "()V"⟩, 141) := ⟨⟨by decide +kernel, by decide +kernel⟩, List.mem_of_getElem? (i := 2959) (by decide +kernel), List.mem_of_getElem? (i := 4187) (by decide +kernel), List.mem_of_getElem? (i := 4188) (by decide +kernel)⟩
theorem lw_p206 : lw_okq (⟨"ScholarsPressModel$Setting", "table", "(I)V"⟩, 141) := ⟨⟨by decide +kernel, by decide +kernel⟩, List.mem_of_getElem? (i := 2959) (by decide +kernel), List.mem_of_getElem? (i := 4191) (by decide +kernel), List.mem_of_getElem? (i := 4192) (by decide +kernel)⟩
theorem lw_p207 : lw_okq (⟨"ScholarsPressModel$Setting", "breakUp", "(I)V"⟩, 141) := ⟨⟨by decide +kernel, by decide +kernel⟩, List.mem_of_getElem? (i := 2959) (by decide +kernel), List.mem_of_getElem? (i := 4195) (by decide +kernel), List.mem_of_getElem? (i := 4196) (by decide +kernel)⟩
def lw_privs_13 : List (MethodName × Nat) := [(⟨"ScholarsPressModel$Setting", "label", "(IZ)V"⟩, 141), (⟨"ScholarsPressModel$Setting", "reference", "(IZ)V"⟩, 141), (⟨"ScholarsPressModel$Setting", "target", "(ILjava/lang/String;)I"⟩, 141), (⟨"ScholarsPressModel$Setting", "unknown", "(IZ)V"⟩, 141), (⟨"ScholarsPressModel$Setting", "says", "(ILjava/lang/String;)Z"⟩, 141), (⟨"ScholarsPressModel$Setting", "closes", "(I)V"⟩, 141), (⟨"ScholarsPressModel$Setting", "text", "(IIZ)V"⟩, 141), (⟨"ScholarsPressModel$Setting", "note", "(I)V"⟩, 141), (⟨"ScholarsPressModel$Setting", "part", "(I)V"⟩, 141), (⟨"ScholarsPressModel$Parting", "greatest", "([BIII)I"⟩, 14), (⟨"ScholarsPressModel$Setting", "breaksAt", "(IIIII)V"⟩, 141), (⟨"ScholarsPressModel$Setting", "wide", "(II)J"⟩, 141), (⟨"ScholarsPressModel$Setting", "breakAt", "(I)I"⟩, 141), (⟨"ScholarsPressModel$Setting", "tables", "()V"⟩, 141), (⟨"ScholarsPressModel$Setting", "table", "(I)V"⟩, 141), (⟨"ScholarsPressModel$Setting", "breakUp", "(I)V"⟩, 141)]
theorem lw_r13 : ∀ q ∈ lw_privs_13, lw_okq q := List.forall_mem_cons.mpr ⟨lw_p192, List.forall_mem_cons.mpr ⟨lw_p193, List.forall_mem_cons.mpr ⟨lw_p194, List.forall_mem_cons.mpr ⟨lw_p195, List.forall_mem_cons.mpr ⟨lw_p196, List.forall_mem_cons.mpr ⟨lw_p197, List.forall_mem_cons.mpr ⟨lw_p198, List.forall_mem_cons.mpr ⟨lw_p199, List.forall_mem_cons.mpr ⟨lw_p200, List.forall_mem_cons.mpr ⟨lw_p201, List.forall_mem_cons.mpr ⟨lw_p202, List.forall_mem_cons.mpr ⟨lw_p203, List.forall_mem_cons.mpr ⟨lw_p204, List.forall_mem_cons.mpr ⟨lw_p205, List.forall_mem_cons.mpr ⟨lw_p206, List.forall_mem_cons.mpr ⟨lw_p207, fun _ h => absurd h List.not_mem_nil⟩⟩⟩⟩⟩⟩⟩⟩⟩⟩⟩⟩⟩⟩⟩⟩
theorem lw_p208 : lw_okq (⟨"ScholarsPressModel$Setting", "sums", "(I)V"⟩, 141) := ⟨⟨by decide +kernel, by decide +kernel⟩, List.mem_of_getElem? (i := 2959) (by decide +kernel), List.mem_of_getElem? (i := 4199) (by decide +kernel), List.mem_of_getElem? (i := 4200) (by decide +kernel)⟩
theorem lw_p209 : lw_okq (⟨"ScholarsPressModel$Setting", "tryAll", "(II)Z"⟩, 141) := ⟨⟨by decide +kernel, by decide +kernel⟩, List.mem_of_getElem? (i := 2959) (by decide +kernel), List.mem_of_getElem? (i := 4205) (by decide +kernel), List.mem_of_getElem? (i := 4206) (by decide +kernel)⟩
theorem lw_p210 : lw_okq (⟨"ScholarsPressModel$Setting", "measure", "(III)V"⟩, 141) := ⟨⟨by decide +kernel, by decide +kernel⟩, List.mem_of_getElem? (i := 2959) (by decide +kernel), List.mem_of_getElem? (i := 4209) (by decide +kernel), List.mem_of_getElem? (i := 4210) (by decide +kernel)⟩
theorem lw_p211 : lw_okq (⟨"ScholarsPressModel$Setting", "typeOf", "(II)I"⟩, 141) := ⟨⟨by decide +kernel, by decide +kernel⟩, List.mem_of_getElem? (i := 2959) (by decide +kernel), List.mem_of_getElem? (i := 4213) (by decide +kernel), List.mem_of_getElem? (i := 4214) (by decide +kernel)⟩
theorem lw_p212 : lw_okq (⟨"ScholarsPressModel$Setting", "lineWidth", "(IZ)J"⟩, 141) := ⟨⟨by decide +kernel, by decide +kernel⟩, List.mem_of_getElem? (i := 2959) (by decide +kernel), List.mem_of_getElem? (i := 4217) (by decide +kernel), List.mem_of_getElem? (i := 4218) (by decide +kernel)⟩
theorem lw_p213 : lw_okq (⟨"ScholarsPressModel$Setting", "isParted", "(II)Z"⟩, 141) := ⟨⟨by decide +kernel, by decide +kernel⟩, List.mem_of_getElem? (i := 2959) (by decide +kernel), List.mem_of_getElem? (i := 4230) (by decide +kernel), List.mem_of_getElem? (i := 4231) (by decide +kernel)⟩
theorem lw_p214 : lw_okq (⟨"ScholarsPressModel$Setting", "isAllowed", "(I)Z"⟩, 141) := ⟨⟨by decide +kernel, by decide +kernel⟩, List.mem_of_getElem? (i := 2959) (by decide +kernel), List.mem_of_getElem? (i := 4236) (by decide +kernel), List.mem_of_getElem? (i := 4237) (by decide +kernel)⟩
theorem lw_p215 : lw_okq (⟨"ScholarsPressModel$Setting", "comesFirst", "(IIII)Z"⟩, 141) := ⟨⟨by decide +kernel, by decide +kernel⟩, List.mem_of_getElem? (i := 2959) (by decide +kernel), List.mem_of_getElem? (i := 4240) (by decide +kernel), List.mem_of_getElem? (i := 4241) (by decide +kernel)⟩
theorem lw_p216 : lw_okq (⟨"ScholarsPressModel$Setting", "flow", "()V"⟩, 141) := ⟨⟨by decide +kernel, by decide +kernel⟩, List.mem_of_getElem? (i := 2959) (by decide +kernel), List.mem_of_getElem? (i := 4244) (by decide +kernel), List.mem_of_getElem? (i := 4245) (by decide +kernel)⟩
theorem lw_p217 : lw_okq (⟨"ScholarsPressModel$Setting", "addLine", "(IIIIIZ)V"⟩, 141) := ⟨⟨by decide +kernel, by decide +kernel⟩, List.mem_of_getElem? (i := 2959) (by decide +kernel), List.mem_of_getElem? (i := 4248) (by decide +kernel), List.mem_of_getElem? (i := 4249) (by decide +kernel)⟩
theorem lw_p218 : lw_okq (⟨"ScholarsPressModel$Setting", "findLines", "()V"⟩, 141) := ⟨⟨by decide +kernel, by decide +kernel⟩, List.mem_of_getElem? (i := 2959) (by decide +kernel), List.mem_of_getElem? (i := 4252) (by decide +kernel), List.mem_of_getElem? (i := 4253) (by decide +kernel)⟩
theorem lw_p219 : lw_okq (⟨"ScholarsPressModel$Setting", "layOut", "()V"⟩, 141) := ⟨⟨by decide +kernel, by decide +kernel⟩, List.mem_of_getElem? (i := 2959) (by decide +kernel), List.mem_of_getElem? (i := 4260) (by decide +kernel), List.mem_of_getElem? (i := 4261) (by decide +kernel)⟩
theorem lw_p220 : lw_okq (⟨"ScholarsPressModel$Setting", "state", "(IIIJI)I"⟩, 141) := ⟨⟨by decide +kernel, by decide +kernel⟩, List.mem_of_getElem? (i := 2959) (by decide +kernel), List.mem_of_getElem? (i := 4264) (by decide +kernel), List.mem_of_getElem? (i := 4265) (by decide +kernel)⟩
theorem lw_p221 : lw_okq (⟨"ScholarsPressModel$Setting", "fits", "(II)Z"⟩, 141) := ⟨⟨by decide +kernel, by decide +kernel⟩, List.mem_of_getElem? (i := 2959) (by decide +kernel), List.mem_of_getElem? (i := 4271) (by decide +kernel), List.mem_of_getElem? (i := 4272) (by decide +kernel)⟩
theorem lw_p222 : lw_okq (⟨"ScholarsPressModel$Setting", "leadOf", "(I)I"⟩, 141) := ⟨⟨by decide +kernel, by decide +kernel⟩, List.mem_of_getElem? (i := 2959) (by decide +kernel), List.mem_of_getElem? (i := 4275) (by decide +kernel), List.mem_of_getElem? (i := 4276) (by decide +kernel)⟩
theorem lw_p223 : lw_okq (⟨"ScholarsPressModel$Setting", "linesOf", "(I)I"⟩, 141) := ⟨⟨by decide +kernel, by decide +kernel⟩, List.mem_of_getElem? (i := 2959) (by decide +kernel), List.mem_of_getElem? (i := 4279) (by decide +kernel), List.mem_of_getElem? (i := 4280) (by decide +kernel)⟩
def lw_privs_14 : List (MethodName × Nat) := [(⟨"ScholarsPressModel$Setting", "sums", "(I)V"⟩, 141), (⟨"ScholarsPressModel$Setting", "tryAll", "(II)Z"⟩, 141), (⟨"ScholarsPressModel$Setting", "measure", "(III)V"⟩, 141), (⟨"ScholarsPressModel$Setting", "typeOf", "(II)I"⟩, 141), (⟨"ScholarsPressModel$Setting", "lineWidth", "(IZ)J"⟩, 141), (⟨"ScholarsPressModel$Setting", "isParted", "(II)Z"⟩, 141), (⟨"ScholarsPressModel$Setting", "isAllowed", "(I)Z"⟩, 141), (⟨"ScholarsPressModel$Setting", "comesFirst", "(IIII)Z"⟩, 141), (⟨"ScholarsPressModel$Setting", "flow", "()V"⟩, 141), (⟨"ScholarsPressModel$Setting", "addLine", "(IIIIIZ)V"⟩, 141), (⟨"ScholarsPressModel$Setting", "findLines", "()V"⟩, 141), (⟨"ScholarsPressModel$Setting", "layOut", "()V"⟩, 141), (⟨"ScholarsPressModel$Setting", "state", "(IIIJI)I"⟩, 141), (⟨"ScholarsPressModel$Setting", "fits", "(II)Z"⟩, 141), (⟨"ScholarsPressModel$Setting", "leadOf", "(I)I"⟩, 141), (⟨"ScholarsPressModel$Setting", "linesOf", "(I)I"⟩, 141)]
theorem lw_r14 : ∀ q ∈ lw_privs_14, lw_okq q := List.forall_mem_cons.mpr ⟨lw_p208, List.forall_mem_cons.mpr ⟨lw_p209, List.forall_mem_cons.mpr ⟨lw_p210, List.forall_mem_cons.mpr ⟨lw_p211, List.forall_mem_cons.mpr ⟨lw_p212, List.forall_mem_cons.mpr ⟨lw_p213, List.forall_mem_cons.mpr ⟨lw_p214, List.forall_mem_cons.mpr ⟨lw_p215, List.forall_mem_cons.mpr ⟨lw_p216, List.forall_mem_cons.mpr ⟨lw_p217, List.forall_mem_cons.mpr ⟨lw_p218, List.forall_mem_cons.mpr ⟨lw_p219, List.forall_mem_cons.mpr ⟨lw_p220, List.forall_mem_cons.mpr ⟨lw_p221, List.forall_mem_cons.mpr ⟨lw_p222, List.forall_mem_cons.mpr ⟨lw_p223, fun _ h => absurd h List.not_mem_nil⟩⟩⟩⟩⟩⟩⟩⟩⟩⟩⟩⟩⟩⟩⟩⟩
theorem lw_p224 : lw_okq (⟨"ScholarsPressModel$Setting", "floatHigh", "(I)J"⟩, 141) := ⟨⟨by decide +kernel, by decide +kernel⟩, List.mem_of_getElem? (i := 2959) (by decide +kernel), List.mem_of_getElem? (i := 4283) (by decide +kernel), List.mem_of_getElem? (i := 4284) (by decide +kernel)⟩
theorem lw_p225 : lw_okq (⟨"ScholarsPressModel$Setting", "relax", "(IIJ)V"⟩, 141) := ⟨⟨by decide +kernel, by decide +kernel⟩, List.mem_of_getElem? (i := 2959) (by decide +kernel), List.mem_of_getElem? (i := 4292) (by decide +kernel), List.mem_of_getElem? (i := 4293) (by decide +kernel)⟩
theorem lw_p226 : lw_okq (⟨"ScholarsPressModel$Setting", "columnsFirst", "(II)Z"⟩, 141) := ⟨⟨by decide +kernel, by decide +kernel⟩, List.mem_of_getElem? (i := 2959) (by decide +kernel), List.mem_of_getElem? (i := 4296) (by decide +kernel), List.mem_of_getElem? (i := 4297) (by decide +kernel)⟩
theorem lw_p227 : lw_okq (⟨"ScholarsPressModel$Setting", "place", "(I)V"⟩, 141) := ⟨⟨by decide +kernel, by decide +kernel⟩, List.mem_of_getElem? (i := 2959) (by decide +kernel), List.mem_of_getElem? (i := 4302) (by decide +kernel), List.mem_of_getElem? (i := 4303) (by decide +kernel)⟩
theorem lw_p228 : lw_okq (⟨"ScholarsPressModel$Setting", "piece", "(III)V"⟩, 141) := ⟨⟨by decide +kernel, by decide +kernel⟩, List.mem_of_getElem? (i := 2959) (by decide +kernel), List.mem_of_getElem? (i := 4306) (by decide +kernel), List.mem_of_getElem? (i := 4307) (by decide +kernel)⟩
theorem lw_p229 : lw_okq (⟨"ScholarsPressModel$Setting", "foot", "(I)V"⟩, 141) := ⟨⟨by decide +kernel, by decide +kernel⟩, List.mem_of_getElem? (i := 2959) (by decide +kernel), List.mem_of_getElem? (i := 4310) (by decide +kernel), List.mem_of_getElem? (i := 4311) (by decide +kernel)⟩
theorem lw_p230 : lw_okq (⟨"ScholarsPressModel$Setting", "next", "()V"⟩, 141) := ⟨⟨by decide +kernel, by decide +kernel⟩, List.mem_of_getElem? (i := 2959) (by decide +kernel), List.mem_of_getElem? (i := 4314) (by decide +kernel), List.mem_of_getElem? (i := 4315) (by decide +kernel)⟩
theorem lw_p231 : lw_okq (⟨"ScholarsPressModel$Setting", "number", "()V"⟩, 141) := ⟨⟨by decide +kernel, by decide +kernel⟩, List.mem_of_getElem? (i := 2959) (by decide +kernel), List.mem_of_getElem? (i := 4318) (by decide +kernel), List.mem_of_getElem? (i := 4319) (by decide +kernel)⟩
theorem lw_p232 : lw_okq (⟨"ScholarsPressModel$Setting", "findWavering", "()V"⟩, 141) := ⟨⟨by decide +kernel, by decide +kernel⟩, List.mem_of_getElem? (i := 2959) (by decide +kernel), List.mem_of_getElem? (i := 4326) (by decide +kernel), List.mem_of_getElem? (i := 4327) (by decide +kernel)⟩
theorem lw_p233 : lw_okq (⟨"ScholarsPressModel$Setting", "samePar", "(ILScholarsPressModel$Setting;I)Z"⟩, 141) := ⟨⟨by decide +kernel, by decide +kernel⟩, List.mem_of_getElem? (i := 2959) (by decide +kernel), List.mem_of_getElem? (i := 4334) (by decide +kernel), List.mem_of_getElem? (i := 4335) (by decide +kernel)⟩
theorem lw_p234 : lw_okq (⟨"ScholarsPressModel", "putNumber", "(J)V"⟩, 23) := ⟨⟨by decide +kernel, by decide +kernel⟩, List.mem_of_getElem? (i := 2461) (by decide +kernel), List.mem_of_getElem? (i := 4406) (by decide +kernel), List.mem_of_getElem? (i := 4407) (by decide +kernel)⟩
theorem lw_p235 : lw_okq (⟨"ScholarsPressModel", "put", "(I)V"⟩, 23) := ⟨⟨by decide +kernel, by decide +kernel⟩, List.mem_of_getElem? (i := 2461) (by decide +kernel), List.mem_of_getElem? (i := 4410) (by decide +kernel), List.mem_of_getElem? (i := 4411) (by decide +kernel)⟩
theorem lw_p236 : lw_okq (⟨"ScholarsPressModel", "putColumn", "(I)V"⟩, 23) := ⟨⟨by decide +kernel, by decide +kernel⟩, List.mem_of_getElem? (i := 2461) (by decide +kernel), List.mem_of_getElem? (i := 4422) (by decide +kernel), List.mem_of_getElem? (i := 4423) (by decide +kernel)⟩
theorem lw_p237 : lw_okq (⟨"ScholarsPressModel", "putRow", "(JJI)V"⟩, 23) := ⟨⟨by decide +kernel, by decide +kernel⟩, List.mem_of_getElem? (i := 2461) (by decide +kernel), List.mem_of_getElem? (i := 4426) (by decide +kernel), List.mem_of_getElem? (i := 4427) (by decide +kernel)⟩
theorem lw_p238 : lw_okq (⟨"ScholarsPressModel", "putLine", "(JJII)V"⟩, 23) := ⟨⟨by decide +kernel, by decide +kernel⟩, List.mem_of_getElem? (i := 2461) (by decide +kernel), List.mem_of_getElem? (i := 4430) (by decide +kernel), List.mem_of_getElem? (i := 4431) (by decide +kernel)⟩
def lw_privs_15 : List (MethodName × Nat) := [(⟨"ScholarsPressModel$Setting", "floatHigh", "(I)J"⟩, 141), (⟨"ScholarsPressModel$Setting", "relax", "(IIJ)V"⟩, 141), (⟨"ScholarsPressModel$Setting", "columnsFirst", "(II)Z"⟩, 141), (⟨"ScholarsPressModel$Setting", "place", "(I)V"⟩, 141), (⟨"ScholarsPressModel$Setting", "piece", "(III)V"⟩, 141), (⟨"ScholarsPressModel$Setting", "foot", "(I)V"⟩, 141), (⟨"ScholarsPressModel$Setting", "next", "()V"⟩, 141), (⟨"ScholarsPressModel$Setting", "number", "()V"⟩, 141), (⟨"ScholarsPressModel$Setting", "findWavering", "()V"⟩, 141), (⟨"ScholarsPressModel$Setting", "samePar", "(ILScholarsPressModel$Setting;I)Z"⟩, 141), (⟨"ScholarsPressModel", "putNumber", "(J)V"⟩, 23), (⟨"ScholarsPressModel", "put", "(I)V"⟩, 23), (⟨"ScholarsPressModel", "putColumn", "(I)V"⟩, 23), (⟨"ScholarsPressModel", "putRow", "(JJI)V"⟩, 23), (⟨"ScholarsPressModel", "putLine", "(JJII)V"⟩, 23)]
theorem lw_r15 : ∀ q ∈ lw_privs_15, lw_okq q := List.forall_mem_cons.mpr ⟨lw_p224, List.forall_mem_cons.mpr ⟨lw_p225, List.forall_mem_cons.mpr ⟨lw_p226, List.forall_mem_cons.mpr ⟨lw_p227, List.forall_mem_cons.mpr ⟨lw_p228, List.forall_mem_cons.mpr ⟨lw_p229, List.forall_mem_cons.mpr ⟨lw_p230, List.forall_mem_cons.mpr ⟨lw_p231, List.forall_mem_cons.mpr ⟨lw_p232, List.forall_mem_cons.mpr ⟨lw_p233, List.forall_mem_cons.mpr ⟨lw_p234, List.forall_mem_cons.mpr ⟨lw_p235, List.forall_mem_cons.mpr ⟨lw_p236, List.forall_mem_cons.mpr ⟨lw_p237, List.forall_mem_cons.mpr ⟨lw_p238, fun _ h => absurd h List.not_mem_nil⟩⟩⟩⟩⟩⟩⟩⟩⟩⟩⟩⟩⟩⟩⟩
def lw_privs : List (MethodName × Nat) := lw_privs_1 ++ (lw_privs_2 ++ (lw_privs_3 ++ (lw_privs_4 ++ (lw_privs_5 ++ (lw_privs_6 ++ (lw_privs_7 ++ (lw_privs_8 ++ (lw_privs_9 ++ (lw_privs_10 ++ (lw_privs_11 ++ (lw_privs_12 ++ (lw_privs_13 ++ (lw_privs_14 ++ (lw_privs_15))))))))))))))
def lw_tbl : List Cond := k2_sels lw_privs ++ tables_1
theorem lw_privs_ok : ∀ q ∈ lw_privs, lw_okq q := by
  show ∀ q ∈ lw_privs_1 ++ (lw_privs_2 ++ (lw_privs_3 ++ (lw_privs_4 ++ (lw_privs_5 ++ (lw_privs_6 ++ (lw_privs_7 ++ (lw_privs_8 ++ (lw_privs_9 ++ (lw_privs_10 ++ (lw_privs_11 ++ (lw_privs_12 ++ (lw_privs_13 ++ (lw_privs_14 ++ (lw_privs_15)))))))))))))), lw_okq q
  exact List.forall_mem_append.mpr ⟨lw_r1, List.forall_mem_append.mpr ⟨lw_r2, List.forall_mem_append.mpr ⟨lw_r3, List.forall_mem_append.mpr ⟨lw_r4, List.forall_mem_append.mpr ⟨lw_r5, List.forall_mem_append.mpr ⟨lw_r6, List.forall_mem_append.mpr ⟨lw_r7, List.forall_mem_append.mpr ⟨lw_r8, List.forall_mem_append.mpr ⟨lw_r9, List.forall_mem_append.mpr ⟨lw_r10, List.forall_mem_append.mpr ⟨lw_r11, List.forall_mem_append.mpr ⟨lw_r12, List.forall_mem_append.mpr ⟨lw_r13, List.forall_mem_append.mpr ⟨lw_r14, lw_r15⟩⟩⟩⟩⟩⟩⟩⟩⟩⟩⟩⟩⟩⟩
-- ===== end of PART A; then your names; then what follows =====
end
section
/-! A THROW AND A CATCH: what a search through a method's table of handlers does where its class isn't resolved yet, and a contract that may end by a throw -/
section TWgo
variable {E : CtlPost} {e : Env} {d : Bool} {acts : List Action} {s : State} {f : JFrame} {a : Addr} {Q : Handler → Pre}
/-- a catch type that is resolved now, and takes the exception -/
theorem tw_go_hit {x : ExceptionTableEntry} {t : List ExceptionTableEntry} {c : ClassId} {cell : Cell} {vm' : Vm} (hx : covers x f.pc = true) (h0 : x.catchType ≠ 0)
    (hg : (Jvm.resolveClass f.method.cls x.catchType).Gives e.toSetting s.vm (.ok c) vm') (hsz : vm'.classes.size ≤ s.vm.classes.size)
    (hcell : s.heap[a]? = some cell) (hobj : ∀ k, cell.vm ≠ .statics k) (hk : ∃ k, vm'.classes[cell.cls]? = some k) (hc : ∃ k, vm'.classes[c]? = some k) (hfit : vm'.assignable cell.cls c = true) :
    wp (findHandler.go f a (x :: t)) Q E e d acts s ↔ Q (.found x.handlerPc) d acts (s.setVm vm') := by
  simp only [covers] at hx
  obtain ⟨ha, ht⟩ := hg.op (op := VmOp.resolveClass f.method.cls x.catchType) rfl
  have hsz' : ((VmOp.resolveClass f.method.cls x.catchType).tables e s.vm).classes.size ≤ s.vm.classes.size := by rw [ht]; exact hsz
  have hcell' : (s.setVm vm').heap[a]? = some cell := hcell
  simp [findHandler.go, hx, h0, ha, ht, hsz, hcell, hobj, hk, hc, hfit, VmOp.dirties, VmOp.acts]
/-- .. and one that doesn't take it: the search goes on -/
theorem tw_go_miss {x : ExceptionTableEntry} {t : List ExceptionTableEntry} {c : ClassId} {cell : Cell} {vm' : Vm} (hx : covers x f.pc = true) (h0 : x.catchType ≠ 0)
    (hg : (Jvm.resolveClass f.method.cls x.catchType).Gives e.toSetting s.vm (.ok c) vm') (hsz : vm'.classes.size ≤ s.vm.classes.size)
    (hcell : s.heap[a]? = some cell) (hobj : ∀ k, cell.vm ≠ .statics k) (hk : ∃ k, vm'.classes[cell.cls]? = some k) (hc : ∃ k, vm'.classes[c]? = some k) (hfit : vm'.assignable cell.cls c = false) :
    wp (findHandler.go f a (x :: t)) Q E e d acts s ↔ wp (findHandler.go f a t) Q E e d acts (s.setVm vm') := by
  simp only [covers] at hx
  obtain ⟨ha, ht⟩ := hg.op (op := VmOp.resolveClass f.method.cls x.catchType) rfl
  have hsz' : ((VmOp.resolveClass f.method.cls x.catchType).tables e s.vm).classes.size ≤ s.vm.classes.size := by rw [ht]; exact hsz
  have hcell' : (s.setVm vm').heap[a]? = some cell := hcell
  simp [findHandler.go, hx, h0, ha, ht, hsz, hcell, hobj, hk, hc, hfit, VmOp.dirties, VmOp.acts]
end TWgo
/-- the search ends at a handler, the tables are vm' then -/
def tw_Finds (e : Env) (s : State) (f : JFrame) (a : Addr) (pc : Nat) (vm' : Vm) : Prop :=
  ∀ (Q : Handler → Pre) (E : CtlPost) (d : Bool) (acts : List Action), wp (findHandler f a) Q E e d acts s ↔ Q (.found pc) d acts (s.setVm vm')
theorem tw_step {e : Env} {s : State} {a : Addr} {f : JFrame} {r : List Frame} {pc : Nat} {vm' : Vm} (hfind : tw_Finds e s f a pc vm') :
    (stepThrowing e s a (.java f :: r)).Is ((s.setVm vm').setFrames (.java { f with pc := pc, stack := [.ref a] } :: r)) [] := by
  simp only [stepThrowing, searchFrame, vmDo]
  generalize hr : Sem.go _ e false [] s = res
  obtain ⟨as, rfl, ha⟩ := Sem.eq_ok_of hr (a := Handler.found pc) (s' := s.setVm vm') (acts' := []) (by simp [hfind _ _ _ _])
  exact ⟨rfl, ha⟩
theorem tw_caught {tb : Tables} {e : Env} {s target : State} {g : JFrame} {c : Code} {below : List Frame} {a : Addr} (h : At s g.method c below) {pc : Nat} {vm' : Vm} (hfind : tw_Finds e ((s.setTop g).pushFrame (.throwing a)) g a pc vm')
    (hrest : Steps tb e below ((s.setVm vm').setTop { g with pc := pc, stack := [.ref a] }) target) :
    Steps tb e below ((s.setTop g).pushFrame (.throwing a)) target := by
  obtain ⟨hgo, hw⟩ := h.throwing a
  refine Steps.head hgo hw ?_
  rw [stepThread_throwing (frames_entered h.top _), (tw_step (s := (s.setTop g).pushFrame (.throwing a)) hfind).1]
  obtain ⟨g₀, hg⟩ := Option.isSome_iff_exists.mp h.top
  obtain ⟨r, hr⟩ := State.topJava?_eq_some.mp hg
  have hr' : (s.setVm vm').frames = .java g₀ :: r := hr
  have e1 : ((((s.setTop g).pushFrame (.throwing a)).setVm vm').setFrames (.java { g with pc := pc, stack := [.ref a] } :: s.frames.tail)) = (s.setVm vm').setTop { g with pc := pc, stack := [.ref a] } := by
    rw [State.setTop_of_frames _ hr', State.pushFrame, State.setTop_of_frames _ hr, State.setFrames_setFrames, hr]
    exact State.setFrames_setFrames (s.setVm vm') _ _
  rw [e1]
  exact hrest
/-- a row of the table that the search passes: it doesn't cover the place, or its class is another one -/
def tw_Pass (s : State) (args : Array Value) (own C : String) (pc : Nat) (x : ExceptionTableEntry) : Prop :=
  covers x pc = false ∨ (covers x pc = true ∧ x.catchType ≠ 0 ∧ ∃ D, (Cond.classLink own x.catchType D).before args s = true ∧ va_Nc C D s)
section TWcatch
variable {p : Program} {l : Launch} {e : Env} {R : Room} {s : State} {m : MethodId} {args : Array Value} {below : List Frame} {meth : Method} {c : Code} {T : State} {locs : List Loc} {cells slots : Nat}
theorem tw_go_pass {own C : String} (hpl : e.platform.magicAccessors = ({} : Platform).magicAccessors) (hown : s.vm.findClass own = some m.cls) {f : JFrame} (hf : f.method = m) {a : Addr} {cell : Cell} (hobj : cell.vm.isStatics = false) (hcls : s.vm.findClass C = some cell.cls) (rest : List ExceptionTableEntry) :
    ∀ (pre : List ExceptionTableEntry) (U : State), s.WarmedH U.vm → U.heap[a]? = some cell → (∀ x ∈ pre, tw_Pass s args own C f.pc x) →
      ∃ vm', s.WarmedH vm' ∧ ∀ (Q : Handler → Pre) (E : CtlPost) (d : Bool) (acts : List Action), wp (findHandler.go f a (pre ++ rest)) Q E e d acts U ↔ wp (findHandler.go f a rest) Q E e d acts (U.setVm vm') := by
  intro pre
  induction pre with
  | nil => intro U hW _ _; exact ⟨U.vm, hW, fun Q E d acts => by rw [State.setVm_self]; rfl⟩
  | cons x t ih =>
    intro U hW hcell hp
    rcases hp x List.mem_cons_self with h | ⟨h, h0, D, hl, hn⟩
    · obtain ⟨vm', hW', k⟩ := ih U hW hcell (fun y hy => hp y (List.mem_cons_of_mem _ hy))
      exact ⟨vm', hW', fun Q E d acts => (Jvm.W.findHandler_go_skip h).trans (k Q E d acts)⟩
    · obtain ⟨cD, hfD, hcl⟩ := Cond.classLink_spec hown hl e.platform hpl
      obtain ⟨hg₁, hwarm₁, -⟩ := State.classEntry (e := e) hW hcl
      obtain ⟨c1, t1, f1, f2, f3⟩ := hn
      cases hcls.symm.trans f1
      cases hfD.symm.trans f2
      obtain ⟨vm', hW', k⟩ := ih (U.setVm (U.vm.noted m.cls x.catchType (.cls cD))) hwarm₁ hcell (fun y hy => hp y (List.mem_cons_of_mem _ hy))
      refine ⟨vm', hW', fun Q E d acts => ?_⟩
      refine (tw_go_miss h h0 (by rw [hf]; exact hg₁) (by simp [Vm.size_noted]) hcell (fun k => VmData.ne_statics_of hobj k) ?_ ?_ ?_).trans (k Q E d acts)
      · obtain ⟨k0, hk0, -⟩ := Vm.findClass_spec hcls
        obtain ⟨k1, hk1, -⟩ := hwarm₁.alike.2.2 _ _ hk0
        exact ⟨k1, hk1⟩
      · obtain ⟨k0, hk0, -⟩ := Vm.findClass_spec hfD
        obtain ⟨k1, hk1, -⟩ := hwarm₁.alike.2.2 _ _ hk0
        exact ⟨k1, hk1⟩
      · rw [hwarm₁.alike.assignable]; exact f3
/-- THE EXCEPTION IS CAUGHT: the rows 'pre' of the table are passed, the row x takes it -/
theorem tw_catch (X : Stand p l e R s m args below meth c T locs cells slots) {own C D : String} (hown : s.vm.findClass own = some m.cls) {g : JFrame} (hg : g.method = m) {a : Addr} {cell : Cell} (hcell : T.heap[a]? = some cell) (hobj : cell.vm.isStatics = false) (hcls : s.vm.findClass C = some cell.cls)
    {pre rest : List ExceptionTableEntry} {x : ExceptionTableEntry} (hsplit : c.exceptionTable.toList = pre ++ x :: rest) (hpre : ∀ y ∈ pre, tw_Pass s args own C g.pc y) (hx : covers x g.pc = true) (h0 : x.catchType ≠ 0)
    (hl : (Cond.classLink own x.catchType D).before args s = true) (hfit : ∀ cD, s.vm.findClass D = some cD → s.vm.assignable cell.cls cD = true) :
    ∃ vm', Stand p l e R s m args below meth c (T.setVm vm') locs cells slots ∧
      ∀ target, Steps p.tables e below ((T.setVm vm').setTop { g with pc := x.handlerPc, stack := [.ref a] }) target → Steps p.tables e below ((T.setTop g).pushFrame (.throwing a)) target := by
  have hpl : e.platform.magicAccessors = ({} : Platform).magicAccessors := by rw [X.admits.platform]
  have hvm : ((T.setTop g).pushFrame (.throwing a)).vm = T.vm := Stand.throwing_vm T g a
  have hhp : ((T.setTop g).pushFrame (.throwing a)).heap = T.heap := Stand.throwing_heap T g a
  obtain ⟨vm1, hW1, k1⟩ := tw_go_pass (e := e) (args := args) hpl hown hg (a := a) hobj hcls (x :: rest) pre ((T.setTop g).pushFrame (.throwing a)) (by rw [hvm]; exact X.warmed) (by rw [hhp]; exact hcell) hpre
  obtain ⟨cD, hfD, hcl⟩ := Cond.classLink_spec hown hl e.platform hpl
  obtain ⟨hg₁, hwarm₁, -⟩ := State.classEntry (e := e) hW1 hcl
  refine ⟨vm1.noted m.cls x.catchType (.cls cD), X.noted hwarm₁, fun target hrest => ?_⟩
  have h : At T g.method c below := by rw [hg]; exact X.here
  refine tw_caught h (vm' := vm1.noted m.cls x.catchType (.cls cD)) ?_ hrest
  intro Q E d acts
  have hm : ((T.setTop g).pushFrame (.throwing a)).vm.method? g.method = some meth := by rw [hvm, hg]; exact X.method'
  rw [Jvm.W.findHandler_eq hm X.code, hsplit, k1]
  refine (tw_go_hit (cell := cell) hx h0 (by rw [hg]; exact hg₁) (by simp [Vm.size_noted]) (by show ((T.setTop g).pushFrame (.throwing a)).heap[a]? = some cell; rw [hhp]; exact hcell) (fun k => VmData.ne_statics_of hobj k) ?_ ?_ ?_).trans ?_
  · obtain ⟨k0, hk0, -⟩ := Vm.findClass_spec hcls
    obtain ⟨k1, hk1, -⟩ := hwarm₁.alike.2.2 _ _ hk0
    exact ⟨k1, hk1⟩
  · obtain ⟨k0, hk0, -⟩ := Vm.findClass_spec hfD
    obtain ⟨k1, hk1, -⟩ := hwarm₁.alike.2.2 _ _ hk0
    exact ⟨k1, hk1⟩
  · rw [hwarm₁.alike.assignable]; exact hfit cD hfD
  · rw [State.setVm_setVm]
end TWcatch
end
section
/-! CONTRACTS THAT MAY END BY A THROW: te_Met, its walk (te_MQ), the four instructions of 'throw new E()', a call that may throw -/
def te_End (st t : State) (L : List Loc) (k n : Nat) : Prop := st.WarmedH t.vm ∧ st.sameButNew ({ t with vm := st.vm } : State) L k n
def te_Met (l : Launch) (y : MethodName) (ws : List Cond) (rm : Room) (Pc : Array Value → State → Prop) (Qc : Array Value → State → Outcome → State → Prop) (mc ms : Nat) (free : Addr → Prop) : Prop :=
  MetFree l y (headSpec ws rm) Pc (fun _ _ _ _ _ => True) (fun a st o t => Qc a st o t ∧ ∃ L, te_End st t L mc ms ∧ ∀ q ∈ L, free q.base)
def te_MQ (below : List Frame) (Qc : Array Value → State → Outcome → State → Prop) (a : Array Value) (s : State) (mc ms : Nat) (free : Addr → Prop) : State → Prop := fun t =>
  ∃ o, t.status = .running ∧ Ended t below o ∧ Qc a s o t ∧ ∃ L, te_End s t L mc ms ∧ ∀ q ∈ L, free q.base
theorem te_tr {l : Launch} {e : Env} (hfl : l.flags = flags0) (ha : l.admits e) : e.platform.stackTraces = false := by
  have h : l.stackTraces = false := by rw [Launch.stackTraces, hfl]; decide +kernel
  rw [ha.platform]; exact h
theorem te_heap {s t : State} {k n : Nat} (h : s.sameButNew ({ t with vm := s.vm } : State) [] k n) : s.heap.size ≤ t.heap.size ∧ ∀ q : Nat, q < s.heap.size → t.heap[q]? = s.heap[q]? := by
  obtain ⟨-, h1, -, -, -, h2⟩ := h
  refine ⟨h1, fun q hq => ?_⟩
  have hc : s.heap[q]? = some (s.heap[q]) := Array.getElem?_eq_getElem hq
  obtain ⟨c', e1, e2, e3, e4⟩ := h2 q _ hc
  have e1' : t.heap[q]? = some c' := e1
  rw [hc, e1']
  have hs : c'.slots = (s.heap[q]).slots := Array.ext_getElem? (fun i => e4 i (by simp))
  rw [e2, hs]
section TEw
variable {p : Program} {l : Launch} {e : Env} {R : Room} {s : State} {m : MethodId} {args : Array Value} {below : List Frame} {meth : Method} {c : Code} {H : Heap} {locs : List Loc} {cells slots : Nat} {Q : State → Prop}
theorem te_of {Qc : Array Value → State → Outcome → State → Prop} {a : Array Value} {mc ms : Nat} {free : Addr → Prop} {g : JFrame} (h : W p l e R s m args below meth c H locs cells slots (MQ below Qc a s mc ms free) g) : W p l e R s m args below meth c H locs cells slots (te_MQ below Qc a s mc ms free) g := by
  intro T hT X
  obtain ⟨t, h1, o, h2, h3, h4, L, h5, h6⟩ := h T hT X
  exact ⟨t, h1, o, h2, h3, h4, L, ⟨h5.2.1, h5.2.2⟩, h6⟩
theorem te_ofW {y : MethodName} {ws ws' : List Cond} {rm : Room} {Pc : Array Value → State → Prop} {Qc : Array Value → State → Outcome → State → Prop} {mc ms : Nat} {free : Addr → Prop} {cc : ByteArray} {maxL : Nat} {ret : Option FieldType}
    (hy : plainName y.cls = true) (hw : ws = Cond.code y cc maxL ret :: ws')
    (body : ∀ p e s m args below meth c s₁, BodyLoose p l y (headSpec ws rm) cc maxL ret e s m args below meth c s₁ → c.maxLocals = maxL → Pc args s →
      W p l e (headSpec ws rm).room s m args below meth c s.heap [] 0 0 (te_MQ below Qc args s mc ms free) (entryFrame m args maxL)) : te_Met l y ws rm Pc Qc mc ms free := by
  refine MetFree.of_bodyS (code := cc) (maxLocals := maxL) (ret := ret) hy ?_ ?_
  · intro args s m h hn
    obtain ⟨meth, c, h1, h2, h3, h4, h5, h6, -, -⟩ := Cond.code_spec hn (atoms_spec (ws := ws) h _ (by rw [hw]; exact List.mem_cons_self))
    exact ⟨meth, c, h1, h2, h3, h4, h5, h6⟩
  · intro p e s m args below meth c s₁ B hml hP _
    have hh0 : s₁.heap = s.heap := by rw [B.state]; rfl
    obtain ⟨t, a1, o, b1, b2, b3⟩ := body p e s m args below meth c s₁ B hml hP s₁ hh0 (Stand.of_body B)
    exact ⟨t, o, a1, b1, b2, b3⟩
/-- what is known behind a throw that nothing was written ahead of -/
def te_Thrown (cls : String) (s : State) (a : Nat) (t : State) : Prop :=
  s.heap.size ≤ a ∧ (∃ ce : Cell, t.heap[a]? = some ce ∧ ce.vm.isStatics = false ∧ s.vm.findClass cls = some ce.cls) ∧ s.heap.size ≤ t.heap.size ∧ (∀ q : Nat, q < s.heap.size → t.heap[q]? = s.heap[q]?) ∧ s.WarmedH t.vm
/-- throw new E(): new, dup, invokespecial, athrow, out of a method without handlers, nothing written before -/
theorem te_throw {cc : ByteArray} {Qc : Array Value → State → Outcome → State → Prop} {free : Addr → Prop} {pc : Nat} {ls : Array Slot} (hexec : p.tables.exec = Jvm.exec) (hb : c.code = cc) (htr : e.platform.stackTraces = false) {own cls : String} {names : List String} {iN ic : Nat} (hown : s.vm.findClass own = some m.cls)
    (hcls : Bundle.fit cls = true) (hnames : ∀ n ∈ names, Bundle.fit n = true) (hW : ∀ w ∈ Bundle.ownAtoms0 own ic cls names, w.before args s = true) (hclink : (Cond.classLink own iN cls).before args s = true) (hinit : (Cond.initialized cls).before args s = true)
    (hh : c.exceptionTable.isEmpty = true) (hml : ls.size = c.maxLocals) (hcells : cells + 1 ≤ R.cells) (hslots : slots + 6 ≤ R.slots) (hfr : names.length + 3 < R.frames) (hlo : 1 + (13 * (names.length + 1) + 41) ≤ R.locals)
    (h0 : decode cc pc = .ok (.new iN, 3)) (h3 : decode cc (pc + 3) = .ok (.dup, 1)) (h4 : decode cc (pc + 4) = .ok (.invokespecial ic, 3)) (h7 : decode cc (pc + 7) = .ok (.athrow, 1)) (hH : s.heap.size ≤ H.size)
    (hq : ∀ (t : State) (a : Nat), te_Thrown cls s a t → Qc args s (.threw a) t) (hlocks : meth.locks = false) :
    W p l e R s m args below meth c H [] cells slots (te_MQ below Qc args s (cells + 1) (slots + 6) free) (F0 m pc ls []) := by
  refine W.newc hexec hb hown hclink (n := 6) (hW (.instantiable cls 6) (by simp [Bundle.ownAtoms0])) hinit rfl h0 hcells hslots (fun cC kC f1 f2 f3 f4 => ?_)
  refine W.eq (g2 := F0 m (pc + 3) ls [.ref H.size]) rfl ?_
  refine lv_dup hexec hb h3 rfl ?_
  intro T hT X
  have hx0 : c.exceptionTable.toList = [] := by
    have h0 : c.exceptionTable.size = 0 := by simpa [Array.isEmpty] using hh
    exact List.eq_nil_of_length_eq_zero (by simpa using h0)
  obtain ⟨U, st, hrun, hend, hwarm, hsame, ce, hce, hoc⟩ := X.ctorThrow0 hexec htr (own := own) (cls := cls) (names := names) (ic := ic) hown hcls hnames hW (fun x hx => by cases hx) (a := H.size) (cX := cC) (kX := kC) f1 f2
    (by rw [hT]; simp) hH (g := F0 m (pc + 3 + 1) ls [.ref H.size, .ref H.size]) rfl hml rfl rfl (rest := []) rfl (by rw [hb]; exact h4) (by rw [hb]; exact h7) (fun x hx => by rw [hx0] at hx; cases hx) hfr (by simpa [JFrame.monitorRoom, Value.category] using hlo) hlocks
  exact ⟨U, st, .threw H.size, hrun, hend, hq U H.size ⟨hH, ⟨ce, hce, by rw [hoc.vm]; rfl, hoc.cls⟩, (te_heap hsame).1, (te_heap hsame).2, hwarm⟩, [], ⟨hwarm, hsame⟩, fun q hq => by cases hq⟩
/-- a callee's contract, at a call: it comes back, or its exception stands over the caller's frame -/
theorem te_back {y : MethodName} {ws : List Cond} {rm : Room} {Pc : Array Value → State → Prop} {Qc : Array Value → State → Outcome → State → Prop} {mc ms : Nat} {free : Addr → Prop} {bytes : ByteArray} {maxL : Nat} {ret : Option FieldType} {len Wd : Nat} {T : State}
    (hM : te_Met l y ws rm Pc Qc mc ms free) (hblind : FrameBlind Pc) (hrc : rm.cells = mc) (hrs : rm.slots = ms) (hframes : rm.frames + 1 ≤ R.frames) (hlocals : Wd + (maxL + 11) + rm.locals ≤ R.locals)
    (hws : ∀ w ∈ ws, ∀ (a' : Array Value) (U : State), s.WarmedH U.vm → w.before a' U = true) (hcode : Cond.code y bytes maxL ret ∈ ws) (hinit : ∀ (a' : Array Value) (U : State), s.WarmedH U.vm → (Cond.initialized y.cls).before a' U = true)
    (X : Stand p l e R s m args below meth c T locs cells slots) {g : JFrame} {ig : Instr} {mk : MethodId} {a : Array Value} (hg : g.method = m) (hsize : g.locals.size = c.maxLocals) (hdg : decode c.code g.pc = .ok (ig, len))
    (hWd : 2 * g.monitorRoom + (g.stack.map fun v => v.category).sum ≤ Wd) (hn : T.methodNamed? y = some mk) (hc1 : cells + mc ≤ R.cells) (hs1 : slots + ms ≤ R.slots) (hp : Pc a T) :
    ∃ (o : Outcome) (t T' : State) (L : List Loc), Qc a (T.calling g mk a) o t ∧ (∀ q ∈ L, free q.base) ∧ T'.heap = t.heap ∧ T'.vm = t.vm ∧ Stand p l e R s m args below meth c T' (locs ++ L) (cells + mc) (slots + ms) ∧
      (∀ v, o = .returned v → Steps p.tables e below (doInvoke e (T.setTop g) [] mk a).1 (T'.setTop { g with pc := g.pc + len, stack := v.toList ++ g.stack })) ∧
      (∀ x, o = .threw x → Steps p.tables e below (doInvoke e (T.setTop g) [] mk a).1 ((T'.setTop g).pushFrame (.throwing x))) := by
  have h2 : (Cond.code y bytes maxL ret).before a T = true := hws _ hcode _ _ X.warmed
  obtain ⟨methY, cY, hmY, hcY, -, hlY, -, -, -, -⟩ := Cond.code_spec hn h2
  obtain ⟨kY, hkY, -⟩ := className_of_methodNamed hn
  have hinitY : kY.init = .initialized := Cond.initialized_spec (findClass_of_methodNamed hn) hkY (hinit a T X.warmed)
  have h : At T g.method c below := by rw [hg]; exact X.here
  have happ : (headSpec ws rm).appliesLoose y e.platform (T.calling g mk a) = true :=
    Spec.appliesLoose_calling (g := g) h hdg hn hkY hinitY
      (X.room_calling (g := g) (R' := (headSpec ws rm).room) hsize hmY hcY hframes (by rw [hlY]; show _ + _ + rm.locals ≤ _; omega) (by rw [show (headSpec ws rm).room.cells = mc from hrc]; exact hc1) (by rw [show (headSpec ws rm).room.slots = ms from hrs]; exact hs1))
      (atoms_intro fun w hw => hws w hw _ _ X.warmed)
  have hfr : (T.setTop g).frames = [.java g] ++ below := by rw [State.frames_setTop' g h.top, X.tail]; rfl
  obtain ⟨o, t, hsteps, -, hend, hq, L, hE, hL⟩ := Steps.callFree hM p X.admits X.cas X.clock (acts := []) hfr happ (hblind _ _ g mk hp) trivial
  have hend' : Ended t (.java g :: below) o := by rw [hfr] at hend; exact hend
  cases o with
  | returned v =>
    obtain ⟨T', X', -, -, ht⟩ := X.outOf hg hdg (mk := mk) (a := a) hend' hE.1 hE.2
    refine ⟨.returned v, t, T', L, hq, hL, ?_, ?_, X', ?_, fun x h => by cases h⟩
    · rw [ht]; simp [State.setTop, State.modifyTopJava]
    · rw [ht]; simp [State.setTop, State.modifyTopJava]
    · intro v' h; cases h; rw [← ht]; exact hsteps
  | threw x =>
    obtain ⟨T', X', -, -, ht⟩ := X.outOfThrown hg (mk := mk) (a := a) hend' hE.1 hE.2
    refine ⟨.threw x, t, T', L, hq, hL, ?_, ?_, X', (fun v h => by cases h), ?_⟩
    · rw [ht]; exact (Stand.throwing_heap T' g x).symm
    · rw [ht]; exact (Stand.throwing_vm T' g x).symm
    · intro x' h; cases h; rw [← ht]; exact hsteps
end TEw
end
section
/-! A CALL THAT MAY THROW, at the caller: te_Run, te_runV; te_Qx: an answer or one of some exceptions; te_calli; te_catch -/
def te_Run (p : Program) (l : Launch) (e : Env) (R : Room) (s : State) (m : MethodId) (args : Array Value) (below : List Frame) (meth : Method) (c : Code) (H : Heap) (locs : List Loc) (cells slots mc ms : Nat) (g : JFrame) (rest : List Value) (Qa : State → Outcome → State → Prop) (free : Addr → Prop) : Prop :=
  ∀ T : State, T.heap = H → Stand p l e R s m args below meth c T locs cells slots → ∃ (o : Outcome) (st₀ t T' : State) (L : List Loc), st₀.heap = H ∧ s.WarmedH st₀.vm ∧ Stand p l e R s m args below meth c T' (locs ++ L) (cells + mc) (slots + ms) ∧ (∀ q ∈ L, free q.base) ∧ T'.heap = t.heap ∧ T'.vm = t.vm ∧ Qa st₀ o t ∧
    (∀ v, o = .returned v → Goes p e below T g T' { g with pc := g.pc + 3, stack := v.toList ++ rest }) ∧
    (∀ x, o = .threw x → ∀ target, Steps p.tables e below ((T'.setTop { g with stack := rest }).pushFrame (.throwing x)) target → Steps p.tables e below (T.setTop g) target)
def te_Qx (ok : Array Value → State → Outcome → State → Prop) (thr : String → Prop) : Array Value → State → Outcome → State → Prop := fun a st o t =>
  (∃ v, o = .returned v ∧ ok a st o t) ∨ ∃ (cls : String) (x : Nat), thr cls ∧ o = .threw x ∧ te_Thrown cls st x t
section TErun
variable {p : Program} {l : Launch} {e : Env} {R : Room} {s : State} {m : MethodId} {args : Array Value} {below : List Frame} {meth : Method} {c : Code} {H H0 : Heap} {locs : List Loc} {cells slots : Nat} {Q : State → Prop}
variable {y : MethodName} {bytes cc : ByteArray} {maxL nL mc ms n index : Nat} {ret : Option FieldType} {ws : List Cond} {rm : Room} {Pc : Array Value → State → Prop} {Qc : Array Value → State → Outcome → State → Prop} {free : Addr → Prop} {Ts : List Cond} {own C : String} {b : Addr} {As rest : List Value} {g : JFrame}
theorem te_runV (S : CallFix p m c cc nL s args Ts own) (hM : te_Met l y ws rm Pc Qc mc ms free) (cw : CallW R s args own C index y bytes maxL ret ws rm mc ms n) (hp : PreV s H C b Pc As)
    (hg : g.method = m) (hn : As.length = n) (hsize : g.locals.size = nL) (hstack : g.stack = As.reverse ++ .ref b :: rest) (hW : 2 * g.monitorRoom + (rest.map fun v => v.category).sum ≤ 8) (hdg : decode cc g.pc = .ok (.invokevirtual index, 3)) (hf : cells + mc ≤ R.cells ∧ slots + ms ≤ R.slots) :
    te_Run p l e R s m args below meth c H locs cells slots mc ms g rest (Qc (Value.ref b :: As).toArray) free := by
  obtain ⟨⟨hrc, hrs, hfr, hlo, hws, hcw, hcode, hini, hy, hlen, hl⟩, hin, hse⟩ := cw
  obtain ⟨hx, hb, hml, ho, -⟩ := S
  obtain ⟨hbl, ⟨cellB, hcB, hoB, hclB⟩, hPc⟩ := hp
  intro T hT X
  obtain ⟨mk, methM, hnamed, hmethM, hstM, habM⟩ := Cond.instanceMethod_spec hin
  obtain ⟨methM', cM, hmethM', -, -, -, -, -, -, hsigM⟩ := Cond.code_spec hnamed hcode
  cases hmethM.symm.trans hmethM'
  obtain ⟨c2, r2, m2, q1, q2, q3, q4, kP, hkP, hkPi⟩ := Cond.selects_spec hse
  cases hclB.symm.trans q1
  cases (State.methodFound?_of_named hnamed hy).symm.trans q2
  cases hnamed.symm.trans q3
  have hselP : selectMethod e.platform s.vm cellB.cls mk = .method mk := by rw [Launch.admits_selectMethod X.admits]; exact q4
  have hdg' : decode c.code g.pc = .ok (.invokevirtual index, 3) := by rw [hb]; exact hdg
  obtain ⟨vm₁, X₁, hstep₁⟩ := X.invokevirtual hx ho hl hnamed hmethM hstM hkP hkPi hy (a := b) (cell := cellB) (by rw [hT]; exact hcB)
    (fun z h => by rw [h] at hoB; cases hoB) hselP hmethM habM hkP hkPi (g := g) hg (argsL := As) (rest := rest) (hn.trans (hlen _ hsigM)) hstack hdg'
  obtain ⟨o, t, T', L, hq, hL, e1, e2, X', kr, kt⟩ := te_back (Wd := 8) (len := 3) (bytes := bytes) (maxL := maxL) (ret := ret) hM hbl hrc hrs hfr hlo hws hcw (fun a' U hW => word_at hW (Or.inl (by first | rfl | simp [Cond.onTables, Cond.keeps, Cond.steady])) hini)
    X₁ (g := { g with stack := rest }) (mk := mk) (a := (Value.ref b :: As).toArray) hg (hsize.trans hml.symm) hdg' hW (X₁.named hnamed) hf.1 hf.2 (hPc (T.setVm vm₁) hT X₁.warmed)
  refine ⟨o, (T.setVm vm₁).calling { g with stack := rest } mk (Value.ref b :: As).toArray, t, T', L, hT, X₁.warmed, X', hL, e1, e2, hq, ?_, ?_⟩
  · intro v hv target h
    exact hstep₁ _ fun acts => by rw [doInvoke_state]; exact (kr v hv).trans h
  · intro x hx target h
    exact hstep₁ _ fun acts => by rw [doInvoke_state]; exact (kt x hx).trans h
variable {A0 A1 : Nat → Prop} {pc : Nat} {ls : Array Slot} {st0 : List Value} {a : Array Value}
theorem te_calli {S : Type} {post : Int32 → S → Prop} {B : S → State → Prop} {thr : String → Prop} (hr : te_Run p l e R s m args below meth c H locs cells slots mc ms (F0 m pc ls st0) rest (te_Qx (va_Qi post B A1) thr a) free) (hS : va_S A0 H0 H locs) (hA : ∀ q, q < H.size → A1 q → A0 q) (hf : ∀ q, free q → A0 q)
    (kk : ∀ (r : Int32) (u : S) (t : State) (H1 : Heap) (locs1 : List Loc), t.heap = H1 → s.vm.Alike t.vm → post r u → B u t → H.size ≤ H1.size → (∀ q : Nat, q < H.size → ¬ A1 q → H1[q]? = H[q]?) → va_S A0 H0 H1 locs1 → W p l e R s m args below meth c H1 locs1 (cells + mc) (slots + ms) Q (F0 m (pc + 3) ls (.int r :: rest)))
    (kx : ∀ (cls : String) (x : Nat) (H1 : Heap) (locs1 : List Loc), thr cls → H.size ≤ x → (∃ ce : Cell, H1[x]? = some ce ∧ ce.vm.isStatics = false ∧ s.vm.findClass cls = some ce.cls) → H.size ≤ H1.size → (∀ q : Nat, q < H.size → H1[q]? = H[q]?) → va_S A0 H0 H1 locs1 →
      ∀ T' : State, T'.heap = H1 → Stand p l e R s m args below meth c T' locs1 (cells + mc) (slots + ms) → ∃ t2, Steps p.tables e below ((T'.setTop (F0 m pc ls rest)).pushFrame (.throwing x)) t2 ∧ Q t2) :
    W p l e R s m args below meth c H locs cells slots Q (F0 m pc ls st0) := by
  intro T hT X
  obtain ⟨o, st₀, t, T', L, h0, hw0, X', hL, e1, e2, hq, kr, kt⟩ := hr T hT X
  have hlocs : ∀ q ∈ locs ++ L, A0 q.base := fun q hq => by
    rcases List.mem_append.mp hq with h | h
    · exact hS.2.2 q h
    · exact hf _ (hL q h)
  rcases hq with ⟨v, hv, hok⟩ | ⟨cls, x, ht, hv, hx⟩
  · obtain ⟨⟨r, u, hv2, hp, hb⟩, hz, hk⟩ := hok
    rw [h0] at hz hk
    have hv3 := hv2
    obtain ⟨t2, a1, b1⟩ := kk r u t T'.heap (locs ++ L) e1.symm (by rw [← e2]; exact X'.warmed.alike) hp hb (by rw [e1]; exact hz) (fun q h1 h2 => by rw [e1]; exact hk q h1 h2)
      ⟨Nat.le_trans hS.1 (by rw [e1]; exact hz), fun q h1 h2 => by rw [e1, hk q (Nat.lt_of_lt_of_le h1 hS.1) (fun z => h2 (hA q (Nat.lt_of_lt_of_le h1 hS.1) z))]; exact hS.2.1 q h1 h2, hlocs⟩ T' rfl X'
    exact ⟨t2, kr _ hv3 t2 a1, b1⟩
  · obtain ⟨g1, ⟨ce, g2, g3, g4⟩, g5, g6, g7⟩ := hx
    rw [h0] at g1 g5 g6
    have hfc : s.vm.findClass cls = some ce.cls := by rw [← hw0.alike.findClass]; exact g4
    obtain ⟨t2, a1, b1⟩ := kx cls x T'.heap (locs ++ L) ht g1 ⟨ce, by rw [e1]; exact g2, g3, hfc⟩ (by rw [e1]; exact g5) (fun q h => by rw [e1]; exact g6 q h)
      ⟨Nat.le_trans hS.1 (by rw [e1]; exact g5), fun q h1 h2 => by rw [e1, g6 q (Nat.lt_of_lt_of_le h1 hS.1)]; exact hS.2.1 q h1 h2, hlocs⟩ T' rfl X'
    exact ⟨t2, kt x hv t2 a1, b1⟩
theorem te_calll {S : Type} {post : Int64 → S → Prop} {B : S → State → Prop} {thr : String → Prop} (hr : te_Run p l e R s m args below meth c H locs cells slots mc ms (F0 m pc ls st0) rest (te_Qx (va_Ql post B A1) thr a) free) (hS : va_S A0 H0 H locs) (hA : ∀ q, q < H.size → A1 q → A0 q) (hf : ∀ q, free q → A0 q)
    (kk : ∀ (r : Int64) (u : S) (t : State) (H1 : Heap) (locs1 : List Loc), t.heap = H1 → s.vm.Alike t.vm → post r u → B u t → H.size ≤ H1.size → (∀ q : Nat, q < H.size → ¬ A1 q → H1[q]? = H[q]?) → va_S A0 H0 H1 locs1 → W p l e R s m args below meth c H1 locs1 (cells + mc) (slots + ms) Q (F0 m (pc + 3) ls (.long r :: rest)))
    (kx : ∀ (cls : String) (x : Nat) (H1 : Heap) (locs1 : List Loc), thr cls → H.size ≤ x → (∃ ce : Cell, H1[x]? = some ce ∧ ce.vm.isStatics = false ∧ s.vm.findClass cls = some ce.cls) → H.size ≤ H1.size → (∀ q : Nat, q < H.size → H1[q]? = H[q]?) → va_S A0 H0 H1 locs1 →
      ∀ T' : State, T'.heap = H1 → Stand p l e R s m args below meth c T' locs1 (cells + mc) (slots + ms) → ∃ t2, Steps p.tables e below ((T'.setTop (F0 m pc ls rest)).pushFrame (.throwing x)) t2 ∧ Q t2) :
    W p l e R s m args below meth c H locs cells slots Q (F0 m pc ls st0) := by
  intro T hT X
  obtain ⟨o, st₀, t, T', L, h0, hw0, X', hL, e1, e2, hq, kr, kt⟩ := hr T hT X
  have hlocs : ∀ q ∈ locs ++ L, A0 q.base := fun q hq => by
    rcases List.mem_append.mp hq with h | h
    · exact hS.2.2 q h
    · exact hf _ (hL q h)
  rcases hq with ⟨v, hv, hok⟩ | ⟨cls, x, ht, hv, hx⟩
  · obtain ⟨⟨r, u, hv2, hp, hb⟩, hz, hk⟩ := hok
    rw [h0] at hz hk
    have hv3 := hv2
    obtain ⟨t2, a1, b1⟩ := kk r u t T'.heap (locs ++ L) e1.symm (by rw [← e2]; exact X'.warmed.alike) hp hb (by rw [e1]; exact hz) (fun q h1 h2 => by rw [e1]; exact hk q h1 h2)
      ⟨Nat.le_trans hS.1 (by rw [e1]; exact hz), fun q h1 h2 => by rw [e1, hk q (Nat.lt_of_lt_of_le h1 hS.1) (fun z => h2 (hA q (Nat.lt_of_lt_of_le h1 hS.1) z))]; exact hS.2.1 q h1 h2, hlocs⟩ T' rfl X'
    exact ⟨t2, kr _ hv3 t2 a1, b1⟩
  · obtain ⟨g1, ⟨ce, g2, g3, g4⟩, g5, g6, g7⟩ := hx
    rw [h0] at g1 g5 g6
    have hfc : s.vm.findClass cls = some ce.cls := by rw [← hw0.alike.findClass]; exact g4
    obtain ⟨t2, a1, b1⟩ := kx cls x T'.heap (locs ++ L) ht g1 ⟨ce, by rw [e1]; exact g2, g3, hfc⟩ (by rw [e1]; exact g5) (fun q h => by rw [e1]; exact g6 q h)
      ⟨Nat.le_trans hS.1 (by rw [e1]; exact g5), fun q h1 h2 => by rw [e1, g6 q (Nat.lt_of_lt_of_le h1 hS.1)]; exact hS.2.1 q h1 h2, hlocs⟩ T' rfl X'
    exact ⟨t2, kt x hv t2 a1, b1⟩
/-- the handler takes it: the walk goes on there -/
theorem te_catch {cls D : String} {x hpc : Nat} {H1 : Heap} {locs1 : List Loc} {pre tl : List ExceptionTableEntry} {en : ExceptionTableEntry} (hown : s.vm.findClass own = some m.cls) (hce : ∃ ce : Cell, H1[x]? = some ce ∧ ce.vm.isStatics = false ∧ s.vm.findClass cls = some ce.cls)
    (hsplit : c.exceptionTable.toList = pre ++ en :: tl) (hpre : ∀ y ∈ pre, tw_Pass s args own cls pc y) (hx : covers en pc = true) (h0 : en.catchType ≠ 0) (hpcs : en.handlerPc = hpc)
    (hl : (Cond.classLink own en.catchType D).before args s = true) (hfit : ∀ cC cD, s.vm.findClass cls = some cC → s.vm.findClass D = some cD → s.vm.assignable cC cD = true)
    (kk : W p l e R s m args below meth c H1 locs1 cells slots Q (F0 m hpc ls [.ref x])) :
    ∀ T' : State, T'.heap = H1 → Stand p l e R s m args below meth c T' locs1 cells slots → ∃ t2, Steps p.tables e below ((T'.setTop (F0 m pc ls rest)).pushFrame (.throwing x)) t2 ∧ Q t2 := by
  intro T' hT X
  obtain ⟨ce, c1, c2, c3⟩ := hce
  obtain ⟨vm', X', st⟩ := tw_catch X hown (g := F0 m pc ls rest) rfl (a := x) (cell := ce) (by rw [hT]; exact c1) c2 c3 hsplit hpre hx h0 hl (fun cD h => hfit _ _ c3 h)
  obtain ⟨t, a1, b1⟩ := kk (T'.setVm vm') hT X'
  subst hpcs
  exact ⟨t, st t a1, b1⟩
end TErun
end
section
/-! THE TABLES' WORDS, ALL AT ONCE: those that stay when the tables grow warmer (kd), as one list (tt) and one premise (tb) -/
def kd (w : Cond) : Bool := match w with
  | .arrayClass _ => true
  | .methodLinkNest .. => true
  | .fieldLinkNest .. => true
  | w => w.onTables && w.keepsCast
theorem kd_warm {w : Cond} (hk : kd w = true) {args a' : Array Value} {s U : State} (hW : s.WarmedH U.vm) (h : w.before args s = true) : w.before a' U = true := by
  have std : ∀ w : Cond, (w.onTables && w.keepsCast) = true → w.before args s = true → w.before a' U = true := by
    intro w hk h
    simp only [Bool.and_eq_true] at hk
    have h1 : w.before args (s.setVm U.vm) = true := Cond.before_shiftedCast (State.Shifted.of_warmed hW) w hk.2 h
    exact va_tabs hk.1 (rfl : (s.setVm U.vm).vm = U.vm) h1
  cases w
  case arrayClass ty => exact word_at hW (Or.inr ⟨ty, rfl⟩) h
  case methodLinkNest a i x b => exact va_Nw.use rfl (va_Nw.warmM hW (va_Nw.of rfl h))
  case fieldLinkNest a i b n d x => exact va_Nw.use rfl (va_Nw.warmF hW (va_Nw.of rfl h))
  all_goals exact std _ hk h
def tt : List Cond := lw_tbl.filter kd
/-- all words of the tables hold -/
def tb (U : State) : Prop := ∀ w ∈ tt, w.before #[] U = true
theorem tt_mem {w : Cond} (i : Nat) (h : lw_tbl[i]? = some w) (hk : kd w = true) : w ∈ tt := List.mem_filter.mpr ⟨List.mem_of_getElem? h, hk⟩
theorem tt_kd {w : Cond} (h : w ∈ tt) : kd w = true := (List.mem_filter.mp h).2
theorem tb.hts {U : State} (h : tb U) {args : Array Value} : ∀ w ∈ tt, w.before args U = true := fun w hw => kd_warm (tt_kd hw) (State.WarmedH.refl U) (h w hw)
theorem tb.warm {s U : State} (h : tb s) (hW : s.WarmedH U.vm) : tb U := fun w hw => kd_warm (tt_kd hw) hW (h w hw)
theorem tb.calling {U : State} {g : JFrame} {mk : MethodId} {a : Array Value} (h : tb U) : tb (U.calling g mk a) := h.warm (State.WarmedH.refl U)
theorem tb.of {args : Array Value} {s : State} (h : ∀ w ∈ lw_tbl, w.before args s = true) : tb s := fun w hw => kd_warm (tt_kd hw) (State.WarmedH.refl s) (h w (List.mem_filter.mp hw).1)
/-- words by their places in lw_tbl -/
theorem tt_in {ws : List Cond} (ps : List Nat) (hp : ws = ps.filterMap (fun i => lw_tbl[i]?)) (hk : ws.all kd = true) : ∀ w ∈ ws, w ∈ tt := by
  intro w hw
  have hk1 := List.all_eq_true.mp hk w hw
  rw [hp] at hw
  obtain ⟨i, -, hi⟩ := List.mem_filterMap.mp hw
  exact tt_mem i hi hk1
theorem tt_good {ws : List Cond} (hm : ∀ w ∈ ws, w ∈ tt) (h : ws.all goodWord = true) : GoodIn tt ws := fun w hw => ⟨hm w hw, good_of_word (List.all_eq_true.mp h w hw)⟩
/-- a virtual call's five words -/
theorem tt_V {own C : String} {idx : Nat} {y : MethodName} {b : ByteArray} {n : Nat} {r : Option FieldType} (h1 : Cond.methodLink own idx y ∈ tt) (h2 : Cond.instanceMethod y ∈ tt) (h3 : Cond.selects C y y ∈ tt) (h4 : Cond.initialized C ∈ tt) (h5 : Cond.code y b n r ∈ tt) : GoodIn tt (wsV own idx C y [Cond.code y b n r]) := by
  refine tt_good (fun w hw => ?_) rfl
  simp only [wsV, List.cons_append, List.nil_append, List.mem_cons, List.not_mem_nil, or_false] at hw
  rcases hw with rfl | rfl | rfl | rfl | rfl <;> assumption
/-- a static call's four -/
theorem tt_S {own : String} {idx : Nat} {y : MethodName} {b : ByteArray} {n : Nat} {r : Option FieldType} (h1 : Cond.methodLink own idx y ∈ tt) (h2 : Cond.static y ∈ tt) (h3 : Cond.initialized own ∈ tt) (h4 : Cond.code y b n r ∈ tt) : GoodIn tt (wsS own idx y [Cond.code y b n r]) := by
  refine tt_good (fun w hw => ?_) rfl
  simp only [wsS, List.cons_append, List.nil_append, List.mem_cons, List.not_mem_nil, or_false] at hw
  rcases hw with rfl | rfl | rfl | rfl <;> assumption
theorem tt_1 {w : Cond} (h : w ∈ tt) (hg : goodWord w = true) : GoodIn tt [w] := tt_good (fun x hx => by rw [List.mem_singleton.mp hx]; exact h) (by simp [hg])
end
section
/-! WORDS OF A THROW: those on statics (they stay where the old cells stay), and the lists of each exception -/
def te_Base (s0 U : State) : Prop := s0.vm.Alike U.vm ∧ ∀ q : Nat, q < s0.heap.size → U.heap[q]? = s0.heap[q]?
theorem te_ls {s0 U : State} {args args' : Array Value} {O n d : String} (hB : te_Base s0 U) (h : (Cond.laysStatic O n d).before args s0 = true) : (Cond.laysStatic O n d).before args' U = true := by
  have h1 := Cond.laysStatic_setVm hB.1 h
  obtain ⟨c, k, i, f, a, cell, hc, hi, hst, ha, hcell, hs, hcls, hlt, hty⟩ := Cond.laysStatic_spec h1
  have hcell0 : s0.heap[a]? = some cell := hcell
  have hcell' : U.heap[a]? = some cell := by rw [hB.2 a (Array.getElem?_eq_some_iff.mp hcell0).1]; exact hcell0
  exact Cond.laysStatic_of (s := U) hc hi hst ha hcell' hs hcls hlt hty
theorem te_rf {s0 U : State} {args args' : Array Value} {O n d : String} (hB : te_Base s0 U) (hl : (Cond.laysStatic O n d).before args s0 = true) (h : (Cond.isRef (.static O n d)).before args s0 = true) : (Cond.isRef (.static O n d)).before args' U = true := by
  obtain ⟨c, k, i, f, a, cell, hc, hi, hst, ha, hcell, hs, -, -, -⟩ := Cond.laysStatic_spec hl
  obtain ⟨u, hu⟩ := Cond.staticRefV hi hst ha hcell hs h
  obtain ⟨k', hi', he⟩ := State.fieldFound?_setVm hB.1 hi
  have hi2 : U.fieldFound? O n d = some (c, k', i, f) := hi'
  have ha2 : k'.statics = some a := by rw [he]; exact ha
  have hcell' : U.heap[a]? = some cell := by rw [hB.2 a (Array.getElem?_eq_some_iff.mp hcell).1]; exact hcell
  have ev : (Term.static O n d).eval args' U none [] U = some u.v := by simp [Term.eval, State.fieldNamed?, hi2, hst, ha2, hcell', hs, hu]
  obtain ⟨v, hv⟩ := u
  have ev : (Term.static O n d).eval args' U none [] U = some v := ev
  simp only [Cond.before, Cond.holds, Cond.value, ev]
  cases v <;> first | rfl | cases hv
def te_us : Cond := .isRef (.static Bundle.tN "UNASSIGNED_STACK" Bundle.steD)
def te_ss : Cond := .isRef (.static Bundle.tN "SUPPRESSED_SENTINEL" Bundle.listD)
def te_lu : Cond := .laysStatic Bundle.tN "UNASSIGNED_STACK" Bundle.steD
def te_lss : Cond := .laysStatic Bundle.tN "SUPPRESSED_SENTINEL" Bundle.listD
/-- what the start says of Throwable's two statics -/
def te_S0 (s0 : State) : Prop := te_us.before #[] s0 = true ∧ te_ss.before #[] s0 = true ∧ te_lu.before #[] s0 = true ∧ te_lss.before #[] s0 = true
def te_heapW : Cond → Bool
  | .isRef _ => true
  | .laysStatic .. => true
  | _ => false
theorem te_own {s0 U : State} {args : Array Value} {own cls : String} {ic : Nat} {names : List String} (hS : te_S0 s0) (hB : te_Base s0 U) (hb : tb U) (h1 : ∀ w ∈ (Bundle.ownAtoms0 own ic cls names).filter (fun w => !te_heapW w), w ∈ tt)
    (h2 : (Bundle.ownAtoms0 own ic cls names).filter te_heapW = [te_lu, te_lss, te_us, te_ss]) : ∀ w ∈ Bundle.ownAtoms0 own ic cls names, w.before args U = true := by
  intro w hw
  by_cases hx : te_heapW w = true
  · have hm : w ∈ (Bundle.ownAtoms0 own ic cls names).filter te_heapW := List.mem_filter.mpr ⟨hw, hx⟩
    rw [h2] at hm
    simp only [List.mem_cons, List.not_mem_nil, or_false] at hm
    obtain ⟨q1, q2, q3, q4⟩ := hS
    rcases hm with rfl | rfl | rfl | rfl
    · exact te_ls hB q3
    · exact te_ls hB q4
    · exact te_rf hB q3 q1
    · exact te_rf hB q4 q2
  · exact hb.hts w (h1 w (List.mem_filter.mpr ⟨hw, by simp [hx]⟩))
theorem te_Base.refl (s : State) : te_Base s s := ⟨Vm.Alike.refl s.vm, fun _ _ => rfl⟩
def x_IAE : String := "java/lang/IllegalArgumentException"
abbrev ic_IAE : Nat := 57
abbrev iN_IAE : Nat := 55
theorem xf_IAE : Bundle.fit x_IAE = true := by decide +kernel
theorem xo_IAE : ∀ w ∈ (Bundle.ownAtoms0 "ScholarsPress" 57 x_IAE ["java/lang/RuntimeException", "java/lang/Exception"]).filter (fun w => !te_heapW w), w ∈ tt := tt_in [255, 598, 607, 617, 620, 622, 599, 600, 289, 290, 601, 606, 618, 635, 588, 636, 590, 637, 592, 602, 604, 594, 668, 669, 670, 627, 579, 627, 628, 629, 630, 581, 630, 631, 632, 599, 583, 667, 659, 660, 661, 613, 662, 663, 664, 665, 597, 596, 666] (by decide +kernel) (by decide +kernel)
theorem xh_IAE : (Bundle.ownAtoms0 "ScholarsPress" 57 x_IAE ["java/lang/RuntimeException", "java/lang/Exception"]).filter te_heapW = [te_lu, te_lss, te_us, te_ss] := by decide +kernel
theorem xl_IAE : Cond.classLink "ScholarsPress" 55 x_IAE ∈ tt := tt_mem 658 (by decide +kernel) (by decide +kernel)
theorem xi_IAE : Cond.initialized x_IAE ∈ tt := tt_mem 259 (by decide +kernel) (by decide +kernel)
def x_ISE : String := "java/lang/IllegalStateException"
abbrev ic_ISE : Nat := 146
abbrev iN_ISE : Nat := 144
theorem xf_ISE : Bundle.fit x_ISE = true := by decide +kernel
theorem xo_ISE : ∀ w ∈ (Bundle.ownAtoms0 "ScholarsPress" 146 x_ISE ["java/lang/RuntimeException", "java/lang/Exception"]).filter (fun w => !te_heapW w), w ∈ tt := tt_in [255, 598, 607, 617, 620, 622, 599, 600, 289, 290, 601, 606, 618, 635, 588, 636, 590, 637, 592, 602, 604, 594, 1402, 1403, 1404, 627, 579, 627, 628, 629, 630, 581, 630, 631, 632, 599, 583, 1401, 1393, 1394, 1395, 614, 1396, 1397, 1398, 1399, 597, 596, 1400] (by decide +kernel) (by decide +kernel)
theorem xh_ISE : (Bundle.ownAtoms0 "ScholarsPress" 146 x_ISE ["java/lang/RuntimeException", "java/lang/Exception"]).filter te_heapW = [te_lu, te_lss, te_us, te_ss] := by decide +kernel
theorem xl_ISE : Cond.classLink "ScholarsPress" 144 x_ISE ∈ tt := tt_mem 1392 (by decide +kernel) (by decide +kernel)
theorem xi_ISE : Cond.initialized x_ISE ∈ tt := tt_mem 273 (by decide +kernel) (by decide +kernel)
def x_IOB : String := "java/lang/IndexOutOfBoundsException"
abbrev ic_IOB : Nat := 50
abbrev iN_IOB : Nat := 48
theorem xf_IOB : Bundle.fit x_IOB = true := by decide +kernel
theorem xo_IOB : ∀ w ∈ (Bundle.ownAtoms0 "ScholarsPress" 50 x_IOB ["java/lang/RuntimeException", "java/lang/Exception"]).filter (fun w => !te_heapW w), w ∈ tt := tt_in [255, 598, 607, 617, 620, 622, 599, 600, 289, 290, 601, 606, 618, 635, 588, 636, 590, 637, 592, 602, 604, 594, 624, 625, 626, 627, 579, 627, 628, 629, 630, 581, 630, 631, 632, 599, 583, 623, 577, 578, 585, 586, 587, 589, 591, 593, 597, 596, 595] (by decide +kernel) (by decide +kernel)
theorem xh_IOB : (Bundle.ownAtoms0 "ScholarsPress" 50 x_IOB ["java/lang/RuntimeException", "java/lang/Exception"]).filter te_heapW = [te_lu, te_lss, te_us, te_ss] := by decide +kernel
theorem xl_IOB : Cond.classLink "ScholarsPress" 48 x_IOB ∈ tt := tt_mem 576 (by decide +kernel) (by decide +kernel)
theorem xi_IOB : Cond.initialized x_IOB ∈ tt := tt_mem 258 (by decide +kernel) (by decide +kernel)
theorem xn : ∀ n ∈ ["java/lang/RuntimeException", "java/lang/Exception"], Bundle.fit n = true := by decide +kernel
end
section
def F_SP : u_T := fun k => match k with
  | 0 => ("ScholarsPress", "tape", "[B", true)
  | 1 => ("ScholarsPress", "tapeLength", "I", false)
  | 2 => ("ScholarsPress", "brokenAt", "I", false)
  | 3 => ("ScholarsPress", "signs", "LScholarsPress$Signs;", true)
  | 4 => ("ScholarsPress", "sourceNow", "LScholarsPress$Source;", false)
  | 5 => ("ScholarsPress", "sourceSpare", "LScholarsPress$Source;", false)
  | 6 => ("ScholarsPress", "styleNow", "LScholarsPress$Style;", false)
  | 7 => ("ScholarsPress", "styleSpare", "LScholarsPress$Style;", false)
  | 8 => ("ScholarsPress", "fontNow", "LScholarsPress$Font;", false)
  | 9 => ("ScholarsPress", "fontSpare", "LScholarsPress$Font;", false)
  | 10 => ("ScholarsPress", "hyphensNow", "LScholarsPress$Hyphens;", false)
  | 11 => ("ScholarsPress", "hyphensSpare", "LScholarsPress$Hyphens;", false)
  | 12 => ("ScholarsPress", "looks", "LScholarsPress$Looks;", false)
  | 13 => ("ScholarsPress", "looksFresh", "Z", false)
  | 14 => ("ScholarsPress", "pagesNow", "LScholarsPress$Pages;", false)
  | 15 => ("ScholarsPress", "pagesSpare", "LScholarsPress$Pages;", false)
  | 16 => ("ScholarsPress", "writer", "LScholarsPress$Writer;", false)
  | 17 => ("ScholarsPress", "breaker", "LScholarsPress$Breaker;", false)
  | 18 => ("ScholarsPress", "stacker", "LScholarsPress$Stacker;", false)
  | 19 => ("ScholarsPress", "out", "[B", false)
  | _ => ("ScholarsPress", "outLength", "I", false)
def t_SP : Nat → FieldType := fun k => match k with
  | 0 => .array .byte
  | 1 => .int
  | 2 => .int
  | 3 => .object "ScholarsPress$Signs"
  | 4 => .object "ScholarsPress$Source"
  | 5 => .object "ScholarsPress$Source"
  | 6 => .object "ScholarsPress$Style"
  | 7 => .object "ScholarsPress$Style"
  | 8 => .object "ScholarsPress$Font"
  | 9 => .object "ScholarsPress$Font"
  | 10 => .object "ScholarsPress$Hyphens"
  | 11 => .object "ScholarsPress$Hyphens"
  | 12 => .object "ScholarsPress$Looks"
  | 13 => .boolean
  | 14 => .object "ScholarsPress$Pages"
  | 15 => .object "ScholarsPress$Pages"
  | 16 => .object "ScholarsPress$Writer"
  | 17 => .object "ScholarsPress$Breaker"
  | 18 => .object "ScholarsPress$Stacker"
  | 19 => .array .byte
  | _ => .int
theorem n_SP : ∀ a, a < 21 → ∀ b, b < 21 → a ≠ b → (F_SP a).2.1 ≠ (F_SP b).2.1 := by decide +kernel
theorem t_SP_ok : ∀ k, k < 21 → parseFieldDescriptor (F_SP k).2.2.1 = some (t_SP k) := by decide +kernel
theorem in_SP : ∀ w ∈ u_ws "ScholarsPress" F_SP 21, w ∈ tt := tt_in [521, 523, 525, 527, 529, 531, 533, 535, 537, 539, 541, 543, 545, 547, 549, 551, 553, 555, 557, 559, 561] (by decide +kernel) (by decide +kernel)
def F_PSigns : u_T := fun k => match k with
  | 0 => ("ScholarsPress$Signs", "text", "[B", false)
  | 1 => ("ScholarsPress$Signs", "length", "I", false)
  | 2 => ("ScholarsPress$Signs", "at", "I", false)
  | 3 => ("ScholarsPress$Signs", "kind", "I", false)
  | 4 => ("ScholarsPress$Signs", "start", "I", false)
  | 5 => ("ScholarsPress$Signs", "stop", "I", false)
  | 6 => ("ScholarsPress$Signs", "number", "I", false)
  | _ => ("ScholarsPress$Signs", "name", "J", false)
def t_PSigns : Nat → FieldType := fun k => match k with
  | 0 => .array .byte
  | 1 => .int
  | 2 => .int
  | 3 => .int
  | 4 => .int
  | 5 => .int
  | 6 => .int
  | _ => .long
theorem n_PSigns : ∀ a, a < 8 → ∀ b, b < 8 → a ≠ b → (F_PSigns a).2.1 ≠ (F_PSigns b).2.1 := by decide +kernel
theorem t_PSigns_ok : ∀ k, k < 8 → parseFieldDescriptor (F_PSigns k).2.2.1 = some (t_PSigns k) := by decide +kernel
theorem in_PSigns : ∀ w ∈ u_ws "ScholarsPress$Signs" F_PSigns 8, w ∈ tt := tt_in [321, 323, 325, 327, 329, 331, 333, 335] (by decide +kernel) (by decide +kernel)
def F_PStyle : u_T := fun k => match k with
  | 0 => ("ScholarsPress$Style", "text", "[B", true)
  | 1 => ("ScholarsPress$Style", "page", "[I", true)
  | 2 => ("ScholarsPress$Style", "selectors", "I", false)
  | 3 => ("ScholarsPress$Style", "selector", "[I", true)
  | 4 => ("ScholarsPress$Style", "steps", "I", false)
  | 5 => ("ScholarsPress$Style", "stepNames", "[J", true)
  | 6 => ("ScholarsPress$Style", "step", "[I", true)
  | 7 => ("ScholarsPress$Style", "conditions", "I", false)
  | 8 => ("ScholarsPress$Style", "conditionNames", "[J", true)
  | 9 => ("ScholarsPress$Style", "condition", "[I", true)
  | 10 => ("ScholarsPress$Style", "told", "I", false)
  | 11 => ("ScholarsPress$Style", "toldProperty", "[I", true)
  | 12 => ("ScholarsPress$Style", "toldValue", "[I", true)
  | 13 => ("ScholarsPress$Style", "counters", "I", false)
  | _ => ("ScholarsPress$Style", "counterNames", "[J", true)
def t_PStyle : Nat → FieldType := fun k => match k with
  | 0 => .array .byte
  | 1 => .array .int
  | 2 => .int
  | 3 => .array .int
  | 4 => .int
  | 5 => .array .long
  | 6 => .array .int
  | 7 => .int
  | 8 => .array .long
  | 9 => .array .int
  | 10 => .int
  | 11 => .array .int
  | 12 => .array .int
  | 13 => .int
  | _ => .array .long
theorem n_PStyle : ∀ a, a < 15 → ∀ b, b < 15 → a ≠ b → (F_PStyle a).2.1 ≠ (F_PStyle b).2.1 := by decide +kernel
theorem t_PStyle_ok : ∀ k, k < 15 → parseFieldDescriptor (F_PStyle k).2.2.1 = some (t_PStyle k) := by decide +kernel
theorem in_PStyle : ∀ w ∈ u_ws "ScholarsPress$Style" F_PStyle 15, w ∈ tt := tt_in [377, 379, 381, 383, 385, 387, 389, 391, 393, 395, 397, 399, 401, 403, 405] (by decide +kernel) (by decide +kernel)
def F_PFont : u_T := fun k => match k with
  | 0 => ("ScholarsPress$Font", "widths", "[I", true)
  | 1 => ("ScholarsPress$Font", "told", "[Z", true)
  | 2 => ("ScholarsPress$Font", "widthsTold", "I", false)
  | 3 => ("ScholarsPress$Font", "keys", "[I", true)
  | 4 => ("ScholarsPress$Font", "values", "[I", true)
  | 5 => ("ScholarsPress$Font", "slots", "[I", true)
  | 6 => ("ScholarsPress$Font", "pairs", "I", false)
  | _ => ("ScholarsPress$Font", "kerns", "I", false)
def t_PFont : Nat → FieldType := fun k => match k with
  | 0 => .array .int
  | 1 => .array .boolean
  | 2 => .int
  | 3 => .array .int
  | 4 => .array .int
  | 5 => .array .int
  | 6 => .int
  | _ => .int
theorem n_PFont : ∀ a, a < 8 → ∀ b, b < 8 → a ≠ b → (F_PFont a).2.1 ≠ (F_PFont b).2.1 := by decide +kernel
theorem t_PFont_ok : ∀ k, k < 8 → parseFieldDescriptor (F_PFont k).2.2.1 = some (t_PFont k) := by decide +kernel
theorem in_PFont : ∀ w ∈ u_ws "ScholarsPress$Font" F_PFont 8, w ∈ tt := tt_in [429, 431, 433, 435, 437, 439, 441, 443] (by decide +kernel) (by decide +kernel)
def F_PHyphens : u_T := fun k => match k with
  | 0 => ("ScholarsPress$Hyphens", "at", "I", false)
  | 1 => ("ScholarsPress$Hyphens", "ahead", "I", false)
  | 2 => ("ScholarsPress$Hyphens", "behind", "I", false)
  | 3 => ("ScholarsPress$Hyphens", "endsDue", "Z", false)
  | 4 => ("ScholarsPress$Hyphens", "patterns", "I", false)
  | 5 => ("ScholarsPress$Hyphens", "signs", "[B", true)
  | 6 => ("ScholarsPress$Hyphens", "digits", "[B", true)
  | 7 => ("ScholarsPress$Hyphens", "sizes", "[I", true)
  | 8 => ("ScholarsPress$Hyphens", "links", "[I", true)
  | 9 => ("ScholarsPress$Hyphens", "heads", "[I", true)
  | 10 => ("ScholarsPress$Hyphens", "exceptions", "I", false)
  | 11 => ("ScholarsPress$Hyphens", "letters", "[B", true)
  | 12 => ("ScholarsPress$Hyphens", "lengths", "[I", true)
  | _ => ("ScholarsPress$Hyphens", "places", "[I", true)
def t_PHyphens : Nat → FieldType := fun k => match k with
  | 0 => .int
  | 1 => .int
  | 2 => .int
  | 3 => .boolean
  | 4 => .int
  | 5 => .array .byte
  | 6 => .array .byte
  | 7 => .array .int
  | 8 => .array .int
  | 9 => .array .int
  | 10 => .int
  | 11 => .array .byte
  | 12 => .array .int
  | _ => .array .int
theorem n_PHyphens : ∀ a, a < 14 → ∀ b, b < 14 → a ≠ b → (F_PHyphens a).2.1 ≠ (F_PHyphens b).2.1 := by decide +kernel
theorem t_PHyphens_ok : ∀ k, k < 14 → parseFieldDescriptor (F_PHyphens k).2.2.1 = some (t_PHyphens k) := by decide +kernel
theorem in_PHyphens : ∀ w ∈ u_ws "ScholarsPress$Hyphens" F_PHyphens 14, w ∈ tt := tt_in [471, 473, 475, 477, 479, 481, 483, 485, 487, 489, 491, 493, 495, 497] (by decide +kernel) (by decide +kernel)
def F_PSource : u_T := fun k => match k with
  | 0 => ("ScholarsPress$Source", "text", "[B", true)
  | 1 => ("ScholarsPress$Source", "length", "I", false)
  | 2 => ("ScholarsPress$Source", "stream", "[I", true)
  | 3 => ("ScholarsPress$Source", "streamLength", "I", false)
  | 4 => ("ScholarsPress$Source", "elements", "I", false)
  | 5 => ("ScholarsPress$Source", "names", "[J", true)
  | 6 => ("ScholarsPress$Source", "facts", "[I", true)
  | 7 => ("ScholarsPress$Source", "fields", "I", false)
  | 8 => ("ScholarsPress$Source", "fieldNames", "[J", true)
  | 9 => ("ScholarsPress$Source", "fieldSpans", "[I", true)
  | 10 => ("ScholarsPress$Source", "entities", "I", false)
  | 11 => ("ScholarsPress$Source", "entityNames", "[J", true)
  | 12 => ("ScholarsPress$Source", "entitySpans", "[I", true)
  | 13 => ("ScholarsPress$Source", "at", "I", false)
  | 14 => ("ScholarsPress$Source", "open", "I", false)
  | 15 => ("ScholarsPress$Source", "depth", "I", false)
  | 16 => ("ScholarsPress$Source", "lastTop", "I", false)
  | 17 => ("ScholarsPress$Source", "name", "J", false)
  | 18 => ("ScholarsPress$Source", "signAt", "I", false)
  | _ => ("ScholarsPress$Source", "signStop", "I", false)
def t_PSource : Nat → FieldType := fun k => match k with
  | 0 => .array .byte
  | 1 => .int
  | 2 => .array .int
  | 3 => .int
  | 4 => .int
  | 5 => .array .long
  | 6 => .array .int
  | 7 => .int
  | 8 => .array .long
  | 9 => .array .int
  | 10 => .int
  | 11 => .array .long
  | 12 => .array .int
  | 13 => .int
  | 14 => .int
  | 15 => .int
  | 16 => .int
  | 17 => .long
  | 18 => .int
  | _ => .int
theorem n_PSource : ∀ a, a < 20 → ∀ b, b < 20 → a ≠ b → (F_PSource a).2.1 ≠ (F_PSource b).2.1 := by decide +kernel
theorem t_PSource_ok : ∀ k, k < 20 → parseFieldDescriptor (F_PSource k).2.2.1 = some (t_PSource k) := by decide +kernel
theorem in_PSource : ∀ w ∈ u_ws "ScholarsPress$Source" F_PSource 20, w ∈ tt := tt_in [1253, 1255, 1257, 1259, 1261, 1263, 1265, 1267, 1269, 1271, 1273, 1275, 1277, 1279, 1281, 1283, 1285, 1287, 1289, 1291] (by decide +kernel) (by decide +kernel)
def F_SM : u_T := fun k => match k with
  | 0 => ("ScholarsPressModel", "thrown", "I", false)
  | 1 => ("ScholarsPressModel", "place", "I", false)
  | 2 => ("ScholarsPressModel", "tape", "[B", true)
  | 3 => ("ScholarsPressModel", "taped", "I", false)
  | 4 => ("ScholarsPressModel", "letters", "LScholarsPressModel$Letters;", false)
  | 5 => ("ScholarsPressModel", "letters2", "LScholarsPressModel$Letters;", false)
  | 6 => ("ScholarsPressModel", "parting", "LScholarsPressModel$Parting;", false)
  | 7 => ("ScholarsPressModel", "parting2", "LScholarsPressModel$Parting;", false)
  | 8 => ("ScholarsPressModel", "style", "LScholarsPressModel$Style;", false)
  | 9 => ("ScholarsPressModel", "style2", "LScholarsPressModel$Style;", false)
  | 10 => ("ScholarsPressModel", "source", "LScholarsPressModel$Source;", false)
  | 11 => ("ScholarsPressModel", "source2", "LScholarsPressModel$Source;", false)
  | 12 => ("ScholarsPressModel", "joined", "[B", true)
  | 13 => ("ScholarsPressModel", "tree", "LScholarsPressModel$Tree;", true)
  | 14 => ("ScholarsPressModel", "treeIs", "Z", false)
  | 15 => ("ScholarsPressModel", "setting", "LScholarsPressModel$Setting;", false)
  | 16 => ("ScholarsPressModel", "other", "LScholarsPressModel$Setting;", false)
  | 17 => ("ScholarsPressModel", "isSet", "Z", false)
  | 18 => ("ScholarsPressModel", "out", "[B", false)
  | 19 => ("ScholarsPressModel", "outLong", "I", false)
  | 20 => ("ScholarsPressModel", "made", "[B", false)
  | 21 => ("ScholarsPressModel", "madeLong", "I", false)
  | _ => ("ScholarsPressModel", "chosen", "[I", true)
def t_SM : Nat → FieldType := fun k => match k with
  | 0 => .int
  | 1 => .int
  | 2 => .array .byte
  | 3 => .int
  | 4 => .object "ScholarsPressModel$Letters"
  | 5 => .object "ScholarsPressModel$Letters"
  | 6 => .object "ScholarsPressModel$Parting"
  | 7 => .object "ScholarsPressModel$Parting"
  | 8 => .object "ScholarsPressModel$Style"
  | 9 => .object "ScholarsPressModel$Style"
  | 10 => .object "ScholarsPressModel$Source"
  | 11 => .object "ScholarsPressModel$Source"
  | 12 => .array .byte
  | 13 => .object "ScholarsPressModel$Tree"
  | 14 => .boolean
  | 15 => .object "ScholarsPressModel$Setting"
  | 16 => .object "ScholarsPressModel$Setting"
  | 17 => .boolean
  | 18 => .array .byte
  | 19 => .int
  | 20 => .array .byte
  | 21 => .int
  | _ => .array .int
theorem n_SM : ∀ a, a < 23 → ∀ b, b < 23 → a ≠ b → (F_SM a).2.1 ≠ (F_SM b).2.1 := by decide +kernel
theorem t_SM_ok : ∀ k, k < 23 → parseFieldDescriptor (F_SM k).2.2.1 = some (t_SM k) := by decide +kernel
theorem in_SM : ∀ w ∈ u_ws "ScholarsPressModel" F_SM 23, w ∈ tt := tt_in [3703, 3705, 3707, 3709, 3711, 3713, 3715, 3717, 3719, 3721, 3723, 3725, 3727, 3729, 3731, 3733, 3735, 3737, 3739, 3741, 3743, 3745, 3747] (by decide +kernel) (by decide +kernel)
def F_MLetters : u_T := fun k => match k with
  | 0 => ("ScholarsPressModel$Letters", "width", "[I", true)
  | 1 => ("ScholarsPressModel$Letters", "told", "[Z", true)
  | 2 => ("ScholarsPressModel$Letters", "kerns", "I", false)
  | 3 => ("ScholarsPressModel$Letters", "joins", "I", false)
  | 4 => ("ScholarsPressModel$Letters", "kernOf", "[I", true)
  | 5 => ("ScholarsPressModel$Letters", "kern", "[I", true)
  | 6 => ("ScholarsPressModel$Letters", "joinOf", "[I", true)
  | 7 => ("ScholarsPressModel$Letters", "join", "[I", true)
  | _ => ("ScholarsPressModel$Letters", "signs", "LScholarsPressModel$Signs;", true)
def t_MLetters : Nat → FieldType := fun k => match k with
  | 0 => .array .int
  | 1 => .array .boolean
  | 2 => .int
  | 3 => .int
  | 4 => .array .int
  | 5 => .array .int
  | 6 => .array .int
  | 7 => .array .int
  | _ => .object "ScholarsPressModel$Signs"
theorem n_MLetters : ∀ a, a < 9 → ∀ b, b < 9 → a ≠ b → (F_MLetters a).2.1 ≠ (F_MLetters b).2.1 := by decide +kernel
theorem t_MLetters_ok : ∀ k, k < 9 → parseFieldDescriptor (F_MLetters k).2.2.1 = some (t_MLetters k) := by decide +kernel
theorem in_MLetters : ∀ w ∈ u_ws "ScholarsPressModel$Letters" F_MLetters 9, w ∈ tt := tt_in [2764, 2766, 2768, 2770, 2772, 2774, 2776, 2778, 2780] (by decide +kernel) (by decide +kernel)
def F_MSigns : u_T := fun k => match k with
  | 0 => ("ScholarsPressModel$Signs", "text", "[B", false)
  | 1 => ("ScholarsPressModel$Signs", "length", "I", false)
  | 2 => ("ScholarsPressModel$Signs", "at", "I", false)
  | 3 => ("ScholarsPressModel$Signs", "kind", "I", false)
  | 4 => ("ScholarsPressModel$Signs", "from", "I", false)
  | 5 => ("ScholarsPressModel$Signs", "to", "I", false)
  | 6 => ("ScholarsPressModel$Signs", "number", "I", false)
  | _ => ("ScholarsPressModel$Signs", "byteOf", "I", false)
def t_MSigns : Nat → FieldType := fun k => match k with
  | 0 => .array .byte
  | 1 => .int
  | 2 => .int
  | 3 => .int
  | 4 => .int
  | 5 => .int
  | 6 => .int
  | _ => .int
theorem n_MSigns : ∀ a, a < 8 → ∀ b, b < 8 → a ≠ b → (F_MSigns a).2.1 ≠ (F_MSigns b).2.1 := by decide +kernel
theorem t_MSigns_ok : ∀ k, k < 8 → parseFieldDescriptor (F_MSigns k).2.2.1 = some (t_MSigns k) := by decide +kernel
theorem in_MSigns : ∀ w ∈ u_ws "ScholarsPressModel$Signs" F_MSigns 8, w ∈ tt := tt_in [2733, 2735, 2737, 2739, 2741, 2743, 2745, 2747] (by decide +kernel) (by decide +kernel)
def F_MParting : u_T := fun k => match k with
  | 0 => ("ScholarsPressModel$Parting", "ahead", "I", false)
  | 1 => ("ScholarsPressModel$Parting", "behind", "I", false)
  | 2 => ("ScholarsPressModel$Parting", "patterns", "I", false)
  | 3 => ("ScholarsPressModel$Parting", "exceptions", "I", false)
  | 4 => ("ScholarsPressModel$Parting", "sign", "[B", true)
  | 5 => ("ScholarsPressModel$Parting", "signs", "[I", true)
  | 6 => ("ScholarsPressModel$Parting", "digit", "[B", true)
  | 7 => ("ScholarsPressModel$Parting", "letter", "[B", true)
  | 8 => ("ScholarsPressModel$Parting", "long_", "[I", true)
  | 9 => ("ScholarsPressModel$Parting", "mark", "[Z", true)
  | 10 => ("ScholarsPressModel$Parting", "nowSign", "[B", true)
  | 11 => ("ScholarsPressModel$Parting", "nowDigit", "[B", true)
  | 12 => ("ScholarsPressModel$Parting", "nowLong", "I", false)
  | _ => ("ScholarsPressModel$Parting", "nowMark", "[Z", true)
def t_MParting : Nat → FieldType := fun k => match k with
  | 0 => .int
  | 1 => .int
  | 2 => .int
  | 3 => .int
  | 4 => .array .byte
  | 5 => .array .int
  | 6 => .array .byte
  | 7 => .array .byte
  | 8 => .array .int
  | 9 => .array .boolean
  | 10 => .array .byte
  | 11 => .array .byte
  | 12 => .int
  | _ => .array .boolean
theorem n_MParting : ∀ a, a < 14 → ∀ b, b < 14 → a ≠ b → (F_MParting a).2.1 ≠ (F_MParting b).2.1 := by decide +kernel
theorem t_MParting_ok : ∀ k, k < 14 → parseFieldDescriptor (F_MParting k).2.2.1 = some (t_MParting k) := by decide +kernel
theorem in_MParting : ∀ w ∈ u_ws "ScholarsPressModel$Parting" F_MParting 14, w ∈ tt := tt_in [2805, 2807, 2809, 2811, 2813, 2815, 2817, 2819, 2821, 2823, 2825, 2827, 2829, 2831] (by decide +kernel) (by decide +kernel)
def F_MStyle : u_T := fun k => match k with
  | 0 => ("ScholarsPressModel$Style", "text", "[B", true)
  | 1 => ("ScholarsPressModel$Style", "signs", "LScholarsPressModel$Signs;", true)
  | 2 => ("ScholarsPressModel$Style", "page", "[I", true)
  | 3 => ("ScholarsPressModel$Style", "selectors", "I", false)
  | 4 => ("ScholarsPressModel$Style", "steps", "I", false)
  | 5 => ("ScholarsPressModel$Style", "tests", "I", false)
  | 6 => ("ScholarsPressModel$Style", "bodies", "I", false)
  | 7 => ("ScholarsPressModel$Style", "props", "I", false)
  | 8 => ("ScholarsPressModel$Style", "counters", "I", false)
  | 9 => ("ScholarsPressModel$Style", "selectorFrom", "[I", true)
  | 10 => ("ScholarsPressModel$Style", "selectorBody", "[I", true)
  | 11 => ("ScholarsPressModel$Style", "stepName", "[I", true)
  | 12 => ("ScholarsPressModel$Style", "stepEnd", "[I", true)
  | 13 => ("ScholarsPressModel$Style", "stepLink", "[I", true)
  | 14 => ("ScholarsPressModel$Style", "stepTests", "[I", true)
  | 15 => ("ScholarsPressModel$Style", "test", "[I", true)
  | 16 => ("ScholarsPressModel$Style", "testName", "[I", true)
  | 17 => ("ScholarsPressModel$Style", "testEnd", "[I", true)
  | 18 => ("ScholarsPressModel$Style", "testText", "[I", true)
  | 19 => ("ScholarsPressModel$Style", "testTextEnd", "[I", true)
  | 20 => ("ScholarsPressModel$Style", "testNumber", "[I", true)
  | 21 => ("ScholarsPressModel$Style", "bodyFrom", "[I", true)
  | 22 => ("ScholarsPressModel$Style", "prop", "[I", true)
  | 23 => ("ScholarsPressModel$Style", "value", "[I", true)
  | 24 => ("ScholarsPressModel$Style", "label", "[I", true)
  | 25 => ("ScholarsPressModel$Style", "labelEnd", "[I", true)
  | 26 => ("ScholarsPressModel$Style", "counter", "[I", true)
  | _ => ("ScholarsPressModel$Style", "counterEnd", "[I", true)
def t_MStyle : Nat → FieldType := fun k => match k with
  | 0 => .array .byte
  | 1 => .object "ScholarsPressModel$Signs"
  | 2 => .array .int
  | 3 => .int
  | 4 => .int
  | 5 => .int
  | 6 => .int
  | 7 => .int
  | 8 => .int
  | 9 => .array .int
  | 10 => .array .int
  | 11 => .array .int
  | 12 => .array .int
  | 13 => .array .int
  | 14 => .array .int
  | 15 => .array .int
  | 16 => .array .int
  | 17 => .array .int
  | 18 => .array .int
  | 19 => .array .int
  | 20 => .array .int
  | 21 => .array .int
  | 22 => .array .int
  | 23 => .array .int
  | 24 => .array .int
  | 25 => .array .int
  | 26 => .array .int
  | _ => .array .int
theorem n_MStyle : ∀ a, a < 28 → ∀ b, b < 28 → a ≠ b → (F_MStyle a).2.1 ≠ (F_MStyle b).2.1 := by decide +kernel
theorem t_MStyle_ok : ∀ k, k < 28 → parseFieldDescriptor (F_MStyle k).2.2.1 = some (t_MStyle k) := by decide +kernel
theorem in_MStyle : ∀ w ∈ u_ws "ScholarsPressModel$Style" F_MStyle 28, w ∈ tt := tt_in [2897, 2899, 2901, 2903, 2905, 2907, 2909, 2911, 2913, 2915, 2917, 2919, 2921, 2923, 2925, 2927, 2929, 2931, 2933, 2935, 2937, 2939, 2941, 2943, 2945, 2947, 2949, 2951] (by decide +kernel) (by decide +kernel)
def F_MSource : u_T := fun k => match k with
  | 0 => ("ScholarsPressModel$Source", "text", "[B", true)
  | 1 => ("ScholarsPressModel$Source", "length", "I", false)
  | 2 => ("ScholarsPressModel$Source", "items", "I", false)
  | 3 => ("ScholarsPressModel$Source", "elements", "I", false)
  | 4 => ("ScholarsPressModel$Source", "entities", "I", false)
  | 5 => ("ScholarsPressModel$Source", "there", "Z", false)
  | 6 => ("ScholarsPressModel$Source", "item", "[I", true)
  | 7 => ("ScholarsPressModel$Source", "itemA", "[I", true)
  | 8 => ("ScholarsPressModel$Source", "itemB", "[I", true)
  | 9 => ("ScholarsPressModel$Source", "from", "[I", true)
  | 10 => ("ScholarsPressModel$Source", "to", "[I", true)
  | 11 => ("ScholarsPressModel$Source", "parent", "[I", true)
  | 12 => ("ScholarsPressModel$Source", "name", "[I", true)
  | 13 => ("ScholarsPressModel$Source", "nameEnd", "[I", true)
  | 14 => ("ScholarsPressModel$Source", "fields", "[I", true)
  | 15 => ("ScholarsPressModel$Source", "begin", "[I", true)
  | 16 => ("ScholarsPressModel$Source", "end", "[I", true)
  | 17 => ("ScholarsPressModel$Source", "field", "[I", true)
  | 18 => ("ScholarsPressModel$Source", "fieldEnd", "[I", true)
  | 19 => ("ScholarsPressModel$Source", "string", "[I", true)
  | 20 => ("ScholarsPressModel$Source", "stringEnd", "[I", true)
  | 21 => ("ScholarsPressModel$Source", "entity", "[I", true)
  | 22 => ("ScholarsPressModel$Source", "entityEnd", "[I", true)
  | 23 => ("ScholarsPressModel$Source", "entityText", "[I", true)
  | 24 => ("ScholarsPressModel$Source", "entityTextEnd", "[I", true)
  | 25 => ("ScholarsPressModel$Source", "at", "I", false)
  | 26 => ("ScholarsPressModel$Source", "open", "I", false)
  | _ => ("ScholarsPressModel$Source", "depth", "I", false)
def t_MSource : Nat → FieldType := fun k => match k with
  | 0 => .array .byte
  | 1 => .int
  | 2 => .int
  | 3 => .int
  | 4 => .int
  | 5 => .boolean
  | 6 => .array .int
  | 7 => .array .int
  | 8 => .array .int
  | 9 => .array .int
  | 10 => .array .int
  | 11 => .array .int
  | 12 => .array .int
  | 13 => .array .int
  | 14 => .array .int
  | 15 => .array .int
  | 16 => .array .int
  | 17 => .array .int
  | 18 => .array .int
  | 19 => .array .int
  | 20 => .array .int
  | 21 => .array .int
  | 22 => .array .int
  | 23 => .array .int
  | 24 => .array .int
  | 25 => .int
  | 26 => .int
  | _ => .int
theorem n_MSource : ∀ a, a < 28 → ∀ b, b < 28 → a ≠ b → (F_MSource a).2.1 ≠ (F_MSource b).2.1 := by decide +kernel
theorem t_MSource_ok : ∀ k, k < 28 → parseFieldDescriptor (F_MSource k).2.2.1 = some (t_MSource k) := by decide +kernel
theorem in_MSource : ∀ w ∈ u_ws "ScholarsPressModel$Source" F_MSource 28, w ∈ tt := tt_in [3021, 3023, 3025, 3027, 3029, 3031, 3033, 3035, 3037, 3039, 3041, 3043, 3045, 3047, 3049, 3051, 3053, 3055, 3057, 3059, 3061, 3063, 3065, 3067, 3069, 3071, 3073, 3075] (by decide +kernel) (by decide +kernel)
def F_MTree : u_T := fun k => match k with
  | 0 => ("ScholarsPressModel$Tree", "s", "LScholarsPressModel$Source;", true)
  | 1 => ("ScholarsPressModel$Tree", "styleText", "[B", true)
  | 2 => ("ScholarsPressModel$Tree", "page", "[I", true)
  | 3 => ("ScholarsPressModel$Tree", "prop", "[I", true)
  | 4 => ("ScholarsPressModel$Tree", "label", "[I", true)
  | 5 => ("ScholarsPressModel$Tree", "labelEnd", "[I", true)
  | 6 => ("ScholarsPressModel$Tree", "value", "[I", true)
  | 7 => ("ScholarsPressModel$Tree", "cellsIn", "[I", true)
  | 8 => ("ScholarsPressModel$Tree", "cellNo", "[I", true)
  | 9 => ("ScholarsPressModel$Tree", "shown", "[Z", true)
  | 10 => ("ScholarsPressModel$Tree", "inFlow", "[Z", true)
  | 11 => ("ScholarsPressModel$Tree", "note", "[Z", true)
  | 12 => ("ScholarsPressModel$Tree", "block", "[Z", true)
  | 13 => ("ScholarsPressModel$Tree", "table", "[Z", true)
  | 14 => ("ScholarsPressModel$Tree", "row", "[Z", true)
  | 15 => ("ScholarsPressModel$Tree", "cell", "[Z", true)
  | 16 => ("ScholarsPressModel$Tree", "weight", "[I", true)
  | 17 => ("ScholarsPressModel$Tree", "fits", "[Z", true)
  | 18 => ("ScholarsPressModel$Tree", "before", "[Z", true)
  | 19 => ("ScholarsPressModel$Tree", "older", "[I", true)
  | 20 => ("ScholarsPressModel$Tree", "place", "[I", true)
  | 21 => ("ScholarsPressModel$Tree", "many", "[I", true)
  | 22 => ("ScholarsPressModel$Tree", "latest", "[I", true)
  | 23 => ("ScholarsPressModel$Tree", "filled", "[Z", true)
  | 24 => ("ScholarsPressModel$Tree", "counts", "[I", true)
  | 25 => ("ScholarsPressModel$Tree", "digits", "[B", true)
  | 26 => ("ScholarsPressModel$Tree", "worth", "[I", true)
  | 27 => ("ScholarsPressModel$Tree", "title", "[B", false)
  | 28 => ("ScholarsPressModel$Tree", "titleLong", "I", false)
  | _ => ("ScholarsPressModel$Tree", "titleBlank", "Z", false)
def t_MTree : Nat → FieldType := fun k => match k with
  | 0 => .object "ScholarsPressModel$Source"
  | 1 => .array .byte
  | 2 => .array .int
  | 3 => .array .int
  | 4 => .array .int
  | 5 => .array .int
  | 6 => .array .int
  | 7 => .array .int
  | 8 => .array .int
  | 9 => .array .boolean
  | 10 => .array .boolean
  | 11 => .array .boolean
  | 12 => .array .boolean
  | 13 => .array .boolean
  | 14 => .array .boolean
  | 15 => .array .boolean
  | 16 => .array .int
  | 17 => .array .boolean
  | 18 => .array .boolean
  | 19 => .array .int
  | 20 => .array .int
  | 21 => .array .int
  | 22 => .array .int
  | 23 => .array .boolean
  | 24 => .array .int
  | 25 => .array .byte
  | 26 => .array .int
  | 27 => .array .byte
  | 28 => .int
  | _ => .boolean
theorem n_MTree : ∀ a, a < 30 → ∀ b, b < 30 → a ≠ b → (F_MTree a).2.1 ≠ (F_MTree b).2.1 := by decide +kernel
theorem t_MTree_ok : ∀ k, k < 30 → parseFieldDescriptor (F_MTree k).2.2.1 = some (t_MTree k) := by decide +kernel
theorem in_MTree : ∀ w ∈ u_ws "ScholarsPressModel$Tree" F_MTree 30, w ∈ tt := tt_in [3136, 3138, 3140, 3142, 3144, 3146, 3148, 3150, 3152, 3154, 3156, 3158, 3160, 3162, 3164, 3166, 3168, 3170, 3172, 3174, 3176, 3178, 3180, 3182, 3184, 3186, 3188, 3190, 3192, 3194] (by decide +kernel) (by decide +kernel)
def F_MSetting : u_T := fun k => match k with
  | 0 => ("ScholarsPressModel$Setting", "tree", "LScholarsPressModel$Tree;", true)
  | 1 => ("ScholarsPressModel$Setting", "s", "LScholarsPressModel$Source;", false)
  | 2 => ("ScholarsPressModel$Setting", "letters", "LScholarsPressModel$Letters;", false)
  | 3 => ("ScholarsPressModel$Setting", "parting", "LScholarsPressModel$Parting;", false)
  | 4 => ("ScholarsPressModel$Setting", "bytes", "I", false)
  | 5 => ("ScholarsPressModel$Setting", "b", "[B", true)
  | 6 => ("ScholarsPressModel$Setting", "size", "[I", true)
  | 7 => ("ScholarsPressModel$Setting", "seq", "[I", true)
  | 8 => ("ScholarsPressModel$Setting", "seqs", "I", false)
  | 9 => ("ScholarsPressModel$Setting", "paragraphs", "I", false)
  | 10 => ("ScholarsPressModel$Setting", "from", "[I", true)
  | 11 => ("ScholarsPressModel$Setting", "to", "[I", true)
  | 12 => ("ScholarsPressModel$Setting", "owner", "[I", true)
  | 13 => ("ScholarsPressModel$Setting", "kind", "[I", true)
  | 14 => ("ScholarsPressModel$Setting", "left", "[I", true)
  | 15 => ("ScholarsPressModel$Setting", "breaks", "[I", true)
  | 16 => ("ScholarsPressModel$Setting", "breakAt", "[I", true)
  | 17 => ("ScholarsPressModel$Setting", "lines", "[I", true)
  | 18 => ("ScholarsPressModel$Setting", "lineAt", "[I", true)
  | 19 => ("ScholarsPressModel$Setting", "told", "[I", true)
  | 20 => ("ScholarsPressModel$Setting", "indent", "[I", true)
  | 21 => ("ScholarsPressModel$Setting", "width", "[J", true)
  | 22 => ("ScholarsPressModel$Setting", "cost", "[J", true)
  | 23 => ("ScholarsPressModel$Setting", "type", "[I", true)
  | 24 => ("ScholarsPressModel$Setting", "pos", "[I", true)
  | 25 => ("ScholarsPressModel$Setting", "part", "[J", true)
  | 26 => ("ScholarsPressModel$Setting", "glue", "[J", true)
  | 27 => ("ScholarsPressModel$Setting", "hyph", "[J", true)
  | 28 => ("ScholarsPressModel$Setting", "lineEnd", "[I", true)
  | 29 => ("ScholarsPressModel$Setting", "ratio", "[I", true)
  | 30 => ("ScholarsPressModel$Setting", "flows", "I", false)
  | 31 => ("ScholarsPressModel$Setting", "flowKind", "[I", true)
  | 32 => ("ScholarsPressModel$Setting", "flowOf", "[I", true)
  | 33 => ("ScholarsPressModel$Setting", "flowGap", "[I", true)
  | 34 => ("ScholarsPressModel$Setting", "cellOf", "[I", true)
  | 35 => ("ScholarsPressModel$Setting", "rowHeight", "[I", true)
  | 36 => ("ScholarsPressModel$Setting", "tableLeft", "[I", true)
  | 37 => ("ScholarsPressModel$Setting", "tableColumns", "[I", true)
  | 38 => ("ScholarsPressModel$Setting", "rowHas", "[Z", true)
  | 39 => ("ScholarsPressModel$Setting", "columnWidth", "[J", true)
  | 40 => ("ScholarsPressModel$Setting", "least", "[J", true)
  | 41 => ("ScholarsPressModel$Setting", "wish", "[J", true)
  | 42 => ("ScholarsPressModel$Setting", "count", "I", false)
  | 43 => ("ScholarsPressModel$Setting", "linePar", "[I", true)
  | 44 => ("ScholarsPressModel$Setting", "lineNo", "[I", true)
  | 45 => ("ScholarsPressModel$Setting", "lineRow", "[I", true)
  | 46 => ("ScholarsPressModel$Setting", "lineHeight", "[I", true)
  | 47 => ("ScholarsPressModel$Setting", "lineGap", "[I", true)
  | 48 => ("ScholarsPressModel$Setting", "lineNumber", "[I", true)
  | 49 => ("ScholarsPressModel$Setting", "lineColumn", "[I", true)
  | 50 => ("ScholarsPressModel$Setting", "lineFlow", "[I", true)
  | 51 => ("ScholarsPressModel$Setting", "mayEnd", "[Z", true)
  | 52 => ("ScholarsPressModel$Setting", "lineTop", "[J", true)
  | 53 => ("ScholarsPressModel$Setting", "notes", "I", false)
  | 54 => ("ScholarsPressModel$Setting", "floats", "I", false)
  | 55 => ("ScholarsPressModel$Setting", "noteOf", "[I", true)
  | 56 => ("ScholarsPressModel$Setting", "noteLine", "[I", true)
  | 57 => ("ScholarsPressModel$Setting", "notePar", "[I", true)
  | 58 => ("ScholarsPressModel$Setting", "noteColumn", "[I", true)
  | 59 => ("ScholarsPressModel$Setting", "noteFirst", "[I", true)
  | 60 => ("ScholarsPressModel$Setting", "floatOf", "[I", true)
  | 61 => ("ScholarsPressModel$Setting", "floatLine", "[I", true)
  | 62 => ("ScholarsPressModel$Setting", "floatColumn", "[I", true)
  | 63 => ("ScholarsPressModel$Setting", "noteTop", "[J", true)
  | 64 => ("ScholarsPressModel$Setting", "floatTop", "[J", true)
  | 65 => ("ScholarsPressModel$Setting", "noteNumber", "[I", true)
  | 66 => ("ScholarsPressModel$Setting", "entries", "I", false)
  | 67 => ("ScholarsPressModel$Setting", "entryFrom", "[I", true)
  | 68 => ("ScholarsPressModel$Setting", "entryTo", "[I", true)
  | 69 => ("ScholarsPressModel$Setting", "termEntry", "[I", true)
  | 70 => ("ScholarsPressModel$Setting", "entryOrder", "[I", true)
  | 71 => ("ScholarsPressModel$Setting", "entryTitle", "[Z", true)
  | 72 => ("ScholarsPressModel$Setting", "titles", "[B", true)
  | 73 => ("ScholarsPressModel$Setting", "titled", "I", false)
  | 74 => ("ScholarsPressModel$Setting", "pages", "[I", true)
  | 75 => ("ScholarsPressModel$Setting", "seqBegin", "[I", true)
  | 76 => ("ScholarsPressModel$Setting", "seqEnd", "[I", true)
  | 77 => ("ScholarsPressModel$Setting", "beginLine", "[I", true)
  | 78 => ("ScholarsPressModel$Setting", "endLine", "[I", true)
  | 79 => ("ScholarsPressModel$Setting", "lineOfSeq", "[I", true)
  | 80 => ("ScholarsPressModel$Setting", "page", "[I", true)
  | 81 => ("ScholarsPressModel$Setting", "first", "[I", true)
  | 82 => ("ScholarsPressModel$Setting", "last", "[I", true)
  | 83 => ("ScholarsPressModel$Setting", "newPage", "[I", true)
  | 84 => ("ScholarsPressModel$Setting", "newFirst", "[I", true)
  | 85 => ("ScholarsPressModel$Setting", "newLast", "[I", true)
  | 86 => ("ScholarsPressModel$Setting", "use", "[I", true)
  | 87 => ("ScholarsPressModel$Setting", "useOf", "[I", true)
  | 88 => ("ScholarsPressModel$Setting", "pieces", "I", false)
  | 89 => ("ScholarsPressModel$Setting", "pieceNote", "[I", true)
  | 90 => ("ScholarsPressModel$Setting", "pieceFrom", "[I", true)
  | 91 => ("ScholarsPressModel$Setting", "pieceTo", "[I", true)
  | 92 => ("ScholarsPressModel$Setting", "pieceColumn", "[I", true)
  | 93 => ("ScholarsPressModel$Setting", "pieceTop", "[J", true)
  | 94 => ("ScholarsPressModel$Setting", "columns", "I", false)
  | 95 => ("ScholarsPressModel$Setting", "pagesInAll", "I", false)
  | 96 => ("ScholarsPressModel$Setting", "wavering", "I", false)
  | 97 => ("ScholarsPressModel$Setting", "fresh", "I", false)
  | 98 => ("ScholarsPressModel$Setting", "rounds", "I", false)
  | 99 => ("ScholarsPressModel$Setting", "wavers", "[Z", true)
  | 100 => ("ScholarsPressModel$Setting", "parFrom", "I", false)
  | 101 => ("ScholarsPressModel$Setting", "blankSize", "I", false)
  | 102 => ("ScholarsPressModel$Setting", "marks", "[Z", true)
  | 103 => ("ScholarsPressModel$Setting", "gap", "I", false)
  | 104 => ("ScholarsPressModel$Setting", "sumPart", "[J", true)
  | 105 => ("ScholarsPressModel$Setting", "sumGlue", "[J", true)
  | 106 => ("ScholarsPressModel$Setting", "sumStretch", "[J", true)
  | 107 => ("ScholarsPressModel$Setting", "sumShrink", "[J", true)
  | 108 => ("ScholarsPressModel$Setting", "best", "[J", true)
  | 109 => ("ScholarsPressModel$Setting", "reached", "[Z", true)
  | 110 => ("ScholarsPressModel$Setting", "bestFrom", "[I", true)
  | 111 => ("ScholarsPressModel$Setting", "bestClass", "[I", true)
  | 112 => ("ScholarsPressModel$Setting", "n", "J", false)
  | 113 => ("ScholarsPressModel$Setting", "l", "J", false)
  | 114 => ("ScholarsPressModel$Setting", "a", "J", false)
  | 115 => ("ScholarsPressModel$Setting", "z", "J", false)
  | 116 => ("ScholarsPressModel$Setting", "itsCost", "J", false)
  | 117 => ("ScholarsPressModel$Setting", "\x72", "I", false)
  | 118 => ("ScholarsPressModel$Setting", "bad", "I", false)
  | 119 => ("ScholarsPressModel$Setting", "itsClass", "I", false)
  | 120 => ("ScholarsPressModel$Setting", "tooLong", "Z", false)
  | 121 => ("ScholarsPressModel$Setting", "parLine", "[I", true)
  | 122 => ("ScholarsPressModel$Setting", "high", "[J", true)
  | 123 => ("ScholarsPressModel$Setting", "notesTo", "[I", true)
  | 124 => ("ScholarsPressModel$Setting", "floatsTo", "[I", true)
  | 125 => ("ScholarsPressModel$Setting", "head", "[I", true)
  | 126 => ("ScholarsPressModel$Setting", "states", "I", false)
  | 127 => ("ScholarsPressModel$Setting", "stateLine", "[I", false)
  | 128 => ("ScholarsPressModel$Setting", "stateFloat", "[I", false)
  | 129 => ("ScholarsPressModel$Setting", "stateRest", "[I", false)
  | 130 => ("ScholarsPressModel$Setting", "statePrev", "[I", false)
  | 131 => ("ScholarsPressModel$Setting", "stateNext", "[I", false)
  | 132 => ("ScholarsPressModel$Setting", "stateCost", "[J", false)
  | 133 => ("ScholarsPressModel$Setting", "toFloat", "I", false)
  | 134 => ("ScholarsPressModel$Setting", "toRest", "I", false)
  | 135 => ("ScholarsPressModel$Setting", "placedRest", "I", false)
  | 136 => ("ScholarsPressModel$Setting", "placedLast", "I", false)
  | 137 => ("ScholarsPressModel$Setting", "filled", "J", false)
  | 138 => ("ScholarsPressModel$Setting", "way", "[I", true)
  | 139 => ("ScholarsPressModel$Setting", "spans", "[Z", true)
  | _ => ("ScholarsPressModel$Setting", "newSpans", "[Z", true)
def t_MSetting : Nat → FieldType := fun k => match k with
  | 0 => .object "ScholarsPressModel$Tree"
  | 1 => .object "ScholarsPressModel$Source"
  | 2 => .object "ScholarsPressModel$Letters"
  | 3 => .object "ScholarsPressModel$Parting"
  | 4 => .int
  | 5 => .array .byte
  | 6 => .array .int
  | 7 => .array .int
  | 8 => .int
  | 9 => .int
  | 10 => .array .int
  | 11 => .array .int
  | 12 => .array .int
  | 13 => .array .int
  | 14 => .array .int
  | 15 => .array .int
  | 16 => .array .int
  | 17 => .array .int
  | 18 => .array .int
  | 19 => .array .int
  | 20 => .array .int
  | 21 => .array .long
  | 22 => .array .long
  | 23 => .array .int
  | 24 => .array .int
  | 25 => .array .long
  | 26 => .array .long
  | 27 => .array .long
  | 28 => .array .int
  | 29 => .array .int
  | 30 => .int
  | 31 => .array .int
  | 32 => .array .int
  | 33 => .array .int
  | 34 => .array .int
  | 35 => .array .int
  | 36 => .array .int
  | 37 => .array .int
  | 38 => .array .boolean
  | 39 => .array .long
  | 40 => .array .long
  | 41 => .array .long
  | 42 => .int
  | 43 => .array .int
  | 44 => .array .int
  | 45 => .array .int
  | 46 => .array .int
  | 47 => .array .int
  | 48 => .array .int
  | 49 => .array .int
  | 50 => .array .int
  | 51 => .array .boolean
  | 52 => .array .long
  | 53 => .int
  | 54 => .int
  | 55 => .array .int
  | 56 => .array .int
  | 57 => .array .int
  | 58 => .array .int
  | 59 => .array .int
  | 60 => .array .int
  | 61 => .array .int
  | 62 => .array .int
  | 63 => .array .long
  | 64 => .array .long
  | 65 => .array .int
  | 66 => .int
  | 67 => .array .int
  | 68 => .array .int
  | 69 => .array .int
  | 70 => .array .int
  | 71 => .array .boolean
  | 72 => .array .byte
  | 73 => .int
  | 74 => .array .int
  | 75 => .array .int
  | 76 => .array .int
  | 77 => .array .int
  | 78 => .array .int
  | 79 => .array .int
  | 80 => .array .int
  | 81 => .array .int
  | 82 => .array .int
  | 83 => .array .int
  | 84 => .array .int
  | 85 => .array .int
  | 86 => .array .int
  | 87 => .array .int
  | 88 => .int
  | 89 => .array .int
  | 90 => .array .int
  | 91 => .array .int
  | 92 => .array .int
  | 93 => .array .long
  | 94 => .int
  | 95 => .int
  | 96 => .int
  | 97 => .int
  | 98 => .int
  | 99 => .array .boolean
  | 100 => .int
  | 101 => .int
  | 102 => .array .boolean
  | 103 => .int
  | 104 => .array .long
  | 105 => .array .long
  | 106 => .array .long
  | 107 => .array .long
  | 108 => .array .long
  | 109 => .array .boolean
  | 110 => .array .int
  | 111 => .array .int
  | 112 => .long
  | 113 => .long
  | 114 => .long
  | 115 => .long
  | 116 => .long
  | 117 => .int
  | 118 => .int
  | 119 => .int
  | 120 => .boolean
  | 121 => .array .int
  | 122 => .array .long
  | 123 => .array .int
  | 124 => .array .int
  | 125 => .array .int
  | 126 => .int
  | 127 => .array .int
  | 128 => .array .int
  | 129 => .array .int
  | 130 => .array .int
  | 131 => .array .int
  | 132 => .array .long
  | 133 => .int
  | 134 => .int
  | 135 => .int
  | 136 => .int
  | 137 => .long
  | 138 => .array .int
  | 139 => .array .boolean
  | _ => .array .boolean
theorem n_MSetting : ∀ a, a < 141 → ∀ b, b < 141 → a ≠ b → (F_MSetting a).2.1 ≠ (F_MSetting b).2.1 := by decide +kernel
theorem t_MSetting_ok : ∀ k, k < 141 → parseFieldDescriptor (F_MSetting k).2.2.1 = some (t_MSetting k) := by decide +kernel
theorem in_MSetting : ∀ w ∈ u_ws "ScholarsPressModel$Setting" F_MSetting 141, w ∈ tt := tt_in [3397, 3399, 3401, 3403, 3405, 3407, 3409, 3411, 3413, 3415, 3417, 3419, 3421, 3423, 3425, 3427, 3429, 3431, 3433, 3435, 3437, 3439, 3441, 3443, 3445, 3447, 3449, 3451, 3453, 3455, 3457, 3459, 3461, 3463, 3465, 3467, 3469, 3471, 3473, 3475, 3477, 3479, 3481, 3483, 3485, 3487, 3489, 3491, 3493, 3495, 3497, 3499, 3501, 3503, 3505, 3507, 3509, 3511, 3513, 3515, 3517, 3519, 3521, 3523, 3525, 3527, 3529, 3531, 3533, 3535, 3537, 3539, 3541, 3543, 3545, 3547, 3549, 3551, 3553, 3555, 3557, 3559, 3561, 3563, 3565, 3567, 3569, 3571, 3573, 3575, 3577, 3579, 3581, 3583, 3585, 3587, 3589, 3591, 3593, 3595, 3597, 3599, 3601, 3603, 3605, 3607, 3609, 3611, 3613, 3615, 3617, 3619, 3621, 3623, 3625, 3627, 3629, 3631, 3633, 3635, 3637, 3639, 3641, 3643, 3645, 3647, 3649, 3651, 3653, 3655, 3657, 3659, 3661, 3663, 3665, 3667, 3669, 3671, 3673, 3675, 3677] (by decide +kernel) (by decide +kernel)
abbrev classes : List vw_C := [("ScholarsPress", F_SP, 21), ("ScholarsPress$Signs", F_PSigns, 8), ("ScholarsPress$Style", F_PStyle, 15), ("ScholarsPress$Font", F_PFont, 8), ("ScholarsPress$Hyphens", F_PHyphens, 14), ("ScholarsPress$Source", F_PSource, 20), ("ScholarsPressModel", F_SM, 23), ("ScholarsPressModel$Letters", F_MLetters, 9), ("ScholarsPressModel$Signs", F_MSigns, 8), ("ScholarsPressModel$Parting", F_MParting, 14), ("ScholarsPressModel$Style", F_MStyle, 28), ("ScholarsPressModel$Source", F_MSource, 28), ("ScholarsPressModel$Tree", F_MTree, 30), ("ScholarsPressModel$Setting", F_MSetting, 141)]
end
section
abbrev b_SP_count : ByteArray := prog_1_method_12_code
abbrev y_SP_count : MethodName := ⟨"ScholarsPress", "count", "(I)I"⟩
abbrev w_SP_count : Cond := .code y_SP_count b_SP_count 2 (some .int)
theorem kw_SP_count : w_SP_count ∈ tt := tt_mem 2513 (by decide +kernel) (by decide +kernel)
abbrev b_SP_set : ByteArray := prog_1_method_10_code
abbrev y_SP_set : MethodName := ⟨"ScholarsPress", "set", "(I)I"⟩
abbrev w_SP_set : Cond := .code y_SP_set b_SP_set 6 (some .int)
theorem kw_SP_set : w_SP_set ∈ tt := tt_mem 1414 (by decide +kernel) (by decide +kernel)
abbrev b_SP_element : ByteArray := prog_1_method_11_code
abbrev y_SP_element : MethodName := ⟨"ScholarsPress", "element", "(II)I"⟩
abbrev w_SP_element : Cond := .code y_SP_element b_SP_element 4 (some .int)
theorem kw_SP_element : w_SP_element ∈ tt := tt_mem 2500 (by decide +kernel) (by decide +kernel)
abbrev b_SP_line : ByteArray := prog_1_method_13_code
abbrev y_SP_line : MethodName := ⟨"ScholarsPress", "line", "(II)I"⟩
abbrev w_SP_line : Cond := .code y_SP_line b_SP_line 6 (some .int)
theorem kw_SP_line : w_SP_line ∈ tt := tt_mem 2528 (by decide +kernel) (by decide +kernel)
abbrev b_SP_spot : ByteArray := prog_1_method_14_code
abbrev y_SP_spot : MethodName := ⟨"ScholarsPress", "spot", "(II)J"⟩
abbrev w_SP_spot : Cond := .code y_SP_spot b_SP_spot 5 (some .long)
theorem kw_SP_spot : w_SP_spot ∈ tt := tt_mem 2553 (by decide +kernel) (by decide +kernel)
abbrev b_SP_paragraph : ByteArray := prog_1_method_15_code
abbrev y_SP_paragraph : MethodName := ⟨"ScholarsPress", "paragraph", "(II)J"⟩
abbrev w_SP_paragraph : Cond := .code y_SP_paragraph b_SP_paragraph 4 (some .long)
theorem kw_SP_paragraph : w_SP_paragraph ∈ tt := tt_mem 2572 (by decide +kernel) (by decide +kernel)
abbrev b_SP_judge : ByteArray := prog_1_method_16_code
abbrev y_SP_judge : MethodName := ⟨"ScholarsPress", "judge", "(I)J"⟩
abbrev w_SP_judge : Cond := .code y_SP_judge b_SP_judge 3 (some .long)
theorem kw_SP_judge : w_SP_judge ∈ tt := tt_mem 2580 (by decide +kernel) (by decide +kernel)
abbrev b_SP_where : ByteArray := prog_1_method_17_code
abbrev y_SP_where : MethodName := ⟨"ScholarsPress", "where", "(I)I"⟩
abbrev w_SP_where : Cond := .code y_SP_where b_SP_where 4 (some .int)
theorem kw_SP_where : w_SP_where ∈ tt := tt_mem 2598 (by decide +kernel) (by decide +kernel)
abbrev b_SP_note : ByteArray := prog_1_method_18_code
abbrev y_SP_note : MethodName := ⟨"ScholarsPress", "note", "(II)I"⟩
abbrev w_SP_note : Cond := .code y_SP_note b_SP_note 4 (some .int)
theorem kw_SP_note : w_SP_note ∈ tt := tt_mem 2629 (by decide +kernel) (by decide +kernel)
abbrev b_SP_wavering : ByteArray := prog_1_method_19_code
abbrev y_SP_wavering : MethodName := ⟨"ScholarsPress", "wavering", "(I)I"⟩
abbrev w_SP_wavering : Cond := .code y_SP_wavering b_SP_wavering 2 (some .int)
theorem kw_SP_wavering : w_SP_wavering ∈ tt := tt_mem 2654 (by decide +kernel) (by decide +kernel)
abbrev b_SP_print : ByteArray := prog_1_method_20_code
abbrev y_SP_print : MethodName := ⟨"ScholarsPress", "print", "(I)I"⟩
abbrev w_SP_print : Cond := .code y_SP_print b_SP_print 3 (some .int)
theorem kw_SP_print : w_SP_print ∈ tt := tt_mem 2661 (by decide +kernel) (by decide +kernel)
abbrev b_SP_word : ByteArray := prog_1_method_21_code
abbrev y_SP_word : MethodName := ⟨"ScholarsPress", "word", "(I)J"⟩
abbrev w_SP_word : Cond := .code y_SP_word b_SP_word 5 (some .long)
theorem kw_SP_word : w_SP_word ∈ tt := tt_mem 2698 (by decide +kernel) (by decide +kernel)
abbrev b_SP_change : ByteArray := prog_1_method_8_code
abbrev y_SP_change : MethodName := ⟨"ScholarsPress", "change", "(II)I"⟩
abbrev w_SP_change : Cond := .code y_SP_change b_SP_change 6 (some .int)
theorem kw_SP_change : w_SP_change ∈ tt := tt_mem 1391 (by decide +kernel) (by decide +kernel)
abbrev b_SP_end : ByteArray := prog_1_method_3_code
abbrev y_SP_end : MethodName := ⟨"ScholarsPress", "end", "(I)I"⟩
abbrev w_SP_end : Cond := .code y_SP_end b_SP_end 2 (some .int)
theorem kw_SP_end : w_SP_end ∈ tt := tt_mem 657 (by decide +kernel) (by decide +kernel)
theorem k_501 : Cond.fieldLink "ScholarsPress" 45 "ScholarsPress" "tapeLength" "I" ∈ tt := tt_mem 501 (by decide +kernel) (by decide +kernel)
theorem k_504 : Cond.fieldLink "ScholarsPress" 135 "ScholarsPress" "sourceNow" "LScholarsPress$Source;" ∈ tt := tt_mem 504 (by decide +kernel) (by decide +kernel)
theorem k_514 : Cond.fieldLink "ScholarsPress" 172 "ScholarsPress" "pagesNow" "LScholarsPress$Pages;" ∈ tt := tt_mem 514 (by decide +kernel) (by decide +kernel)
theorem k_520 : Cond.fieldLink "ScholarsPress" 293 "ScholarsPress" "outLength" "I" ∈ tt := tt_mem 520 (by decide +kernel) (by decide +kernel)
theorem d_SP_change_0 : decode b_SP_change 0 = .ok (.iload_n 1, 1) := by decide +kernel
theorem d_SP_change_1 : decode b_SP_change 1 = .ok (.ifCond .lt 26, 3) := by decide +kernel
theorem d_SP_change_4 : decode b_SP_change 4 = .ok (.iload_n 2, 1) := by decide +kernel
theorem d_SP_change_5 : decode b_SP_change 5 = .ok (.iload_n 1, 1) := by decide +kernel
theorem d_SP_change_6 : decode b_SP_change 6 = .ok (.if_icmp .lt 21, 3) := by decide +kernel
theorem d_SP_change_9 : decode b_SP_change 9 = .ok (.aload_n 0, 1) := by decide +kernel
theorem d_SP_change_10 : decode b_SP_change 10 = .ok (.getfield 135, 3) := by decide +kernel
theorem d_SP_change_13 : decode b_SP_change 13 = .ok (.ifnull 22, 3) := by decide +kernel
theorem d_SP_change_27 : decode b_SP_change 27 = .ok (.new iN_IAE, 3) := by decide +kernel
theorem d_SP_change_30 : decode b_SP_change 30 = .ok (.dup, 1) := by decide +kernel
theorem d_SP_change_31 : decode b_SP_change 31 = .ok (.invokespecial ic_IAE, 3) := by decide +kernel
theorem d_SP_change_34 : decode b_SP_change 34 = .ok (.athrow, 1) := by decide +kernel
theorem d_SP_change_35 : decode b_SP_change 35 = .ok (.aload_n 0, 1) := by decide +kernel
theorem d_SP_change_36 : decode b_SP_change 36 = .ok (.getfield 135, 3) := by decide +kernel
theorem d_SP_change_39 : decode b_SP_change 39 = .ok (.ifnonnull 11, 3) := by decide +kernel
theorem d_SP_change_42 : decode b_SP_change 42 = .ok (.new iN_ISE, 3) := by decide +kernel
theorem d_SP_change_45 : decode b_SP_change 45 = .ok (.dup, 1) := by decide +kernel
theorem d_SP_change_46 : decode b_SP_change 46 = .ok (.invokespecial ic_ISE, 3) := by decide +kernel
theorem d_SP_change_49 : decode b_SP_change 49 = .ok (.athrow, 1) := by decide +kernel
theorem d_SP_count_0 : decode b_SP_count 0 = .ok (.iload_n 1, 1) := by decide +kernel
theorem d_SP_count_1 : decode b_SP_count 1 = .ok (.ifCond .lt 9, 3) := by decide +kernel
theorem d_SP_count_4 : decode b_SP_count 4 = .ok (.iload_n 1, 1) := by decide +kernel
theorem d_SP_count_5 : decode b_SP_count 5 = .ok (.bipush 11, 2) := by decide +kernel
theorem d_SP_count_7 : decode b_SP_count 7 = .ok (.if_icmp .le 11, 3) := by decide +kernel
theorem d_SP_count_10 : decode b_SP_count 10 = .ok (.new iN_IAE, 3) := by decide +kernel
theorem d_SP_count_13 : decode b_SP_count 13 = .ok (.dup, 1) := by decide +kernel
theorem d_SP_count_14 : decode b_SP_count 14 = .ok (.invokespecial ic_IAE, 3) := by decide +kernel
theorem d_SP_count_17 : decode b_SP_count 17 = .ok (.athrow, 1) := by decide +kernel
theorem d_SP_count_18 : decode b_SP_count 18 = .ok (.iload_n 1, 1) := by decide +kernel
theorem d_SP_count_19 : decode b_SP_count 19 = .ok (.iconst 2, 1) := by decide +kernel
theorem d_SP_count_20 : decode b_SP_count 20 = .ok (.if_icmp .gt 20, 3) := by decide +kernel
theorem d_SP_count_23 : decode b_SP_count 23 = .ok (.aload_n 0, 1) := by decide +kernel
theorem d_SP_count_24 : decode b_SP_count 24 = .ok (.getfield 135, 3) := by decide +kernel
theorem d_SP_count_27 : decode b_SP_count 27 = .ok (.ifnonnull 7, 3) := by decide +kernel
theorem d_SP_count_30 : decode b_SP_count 30 = .ok (.iconst 0, 1) := by decide +kernel
theorem d_SP_count_31 : decode b_SP_count 31 = .ok (.goto 8, 3) := by decide +kernel
theorem d_SP_count_39 : decode b_SP_count 39 = .ok (.ireturn, 1) := by decide +kernel
theorem d_SP_count_40 : decode b_SP_count 40 = .ok (.aload_n 0, 1) := by decide +kernel
theorem d_SP_count_41 : decode b_SP_count 41 = .ok (.getfield 172, 3) := by decide +kernel
theorem d_SP_count_44 : decode b_SP_count 44 = .ok (.ifnonnull 7, 3) := by decide +kernel
theorem d_SP_count_47 : decode b_SP_count 47 = .ok (.iconst 0, 1) := by decide +kernel
theorem d_SP_count_48 : decode b_SP_count 48 = .ok (.goto 11, 3) := by decide +kernel
theorem d_SP_count_59 : decode b_SP_count 59 = .ok (.ireturn, 1) := by decide +kernel
theorem d_SP_element_0 : decode b_SP_element 0 = .ok (.iload_n 2, 1) := by decide +kernel
theorem d_SP_element_1 : decode b_SP_element 1 = .ok (.ifCond .lt 9, 3) := by decide +kernel
theorem d_SP_element_4 : decode b_SP_element 4 = .ok (.iload_n 2, 1) := by decide +kernel
theorem d_SP_element_5 : decode b_SP_element 5 = .ok (.bipush 7, 2) := by decide +kernel
theorem d_SP_element_7 : decode b_SP_element 7 = .ok (.if_icmp .le 15, 3) := by decide +kernel
theorem d_SP_element_10 : decode b_SP_element 10 = .ok (.iload_n 2, 1) := by decide +kernel
theorem d_SP_element_11 : decode b_SP_element 11 = .ok (.bipush 20, 2) := by decide +kernel
theorem d_SP_element_13 : decode b_SP_element 13 = .ok (.if_icmp .lt 13, 3) := by decide +kernel
theorem d_SP_element_16 : decode b_SP_element 16 = .ok (.iload_n 2, 1) := by decide +kernel
theorem d_SP_element_17 : decode b_SP_element 17 = .ok (.bipush 41, 2) := by decide +kernel
theorem d_SP_element_19 : decode b_SP_element 19 = .ok (.if_icmp .gt 7, 3) := by decide +kernel
theorem d_SP_element_22 : decode b_SP_element 22 = .ok (.iconst 1, 1) := by decide +kernel
theorem d_SP_element_23 : decode b_SP_element 23 = .ok (.goto 4, 3) := by decide +kernel
theorem d_SP_element_26 : decode b_SP_element 26 = .ok (.iconst 0, 1) := by decide +kernel
theorem d_SP_element_27 : decode b_SP_element 27 = .ok (.istore_n 3, 1) := by decide +kernel
theorem d_SP_element_28 : decode b_SP_element 28 = .ok (.iload_n 3, 1) := by decide +kernel
theorem d_SP_element_29 : decode b_SP_element 29 = .ok (.ifCond .eq 25, 3) := by decide +kernel
theorem d_SP_element_32 : decode b_SP_element 32 = .ok (.iload_n 1, 1) := by decide +kernel
theorem d_SP_element_33 : decode b_SP_element 33 = .ok (.ifCond .lt 21, 3) := by decide +kernel
theorem d_SP_element_36 : decode b_SP_element 36 = .ok (.aload_n 0, 1) := by decide +kernel
theorem d_SP_element_37 : decode b_SP_element 37 = .ok (.getfield 135, 3) := by decide +kernel
theorem d_SP_element_40 : decode b_SP_element 40 = .ok (.ifnull 22, 3) := by decide +kernel
theorem d_SP_element_54 : decode b_SP_element 54 = .ok (.new iN_IAE, 3) := by decide +kernel
theorem d_SP_element_57 : decode b_SP_element 57 = .ok (.dup, 1) := by decide +kernel
theorem d_SP_element_58 : decode b_SP_element 58 = .ok (.invokespecial ic_IAE, 3) := by decide +kernel
theorem d_SP_element_61 : decode b_SP_element 61 = .ok (.athrow, 1) := by decide +kernel
theorem d_SP_element_62 : decode b_SP_element 62 = .ok (.aload_n 0, 1) := by decide +kernel
theorem d_SP_element_63 : decode b_SP_element 63 = .ok (.getfield 135, 3) := by decide +kernel
theorem d_SP_element_66 : decode b_SP_element 66 = .ok (.ifnonnull 11, 3) := by decide +kernel
theorem d_SP_element_69 : decode b_SP_element 69 = .ok (.new iN_ISE, 3) := by decide +kernel
theorem d_SP_element_72 : decode b_SP_element 72 = .ok (.dup, 1) := by decide +kernel
theorem d_SP_element_73 : decode b_SP_element 73 = .ok (.invokespecial ic_ISE, 3) := by decide +kernel
theorem d_SP_element_76 : decode b_SP_element 76 = .ok (.athrow, 1) := by decide +kernel
theorem d_SP_end_0 : decode b_SP_end 0 = .ok (.iload_n 1, 1) := by decide +kernel
theorem d_SP_end_1 : decode b_SP_end 1 = .ok (.ifCond .lt 11, 3) := by decide +kernel
theorem d_SP_end_4 : decode b_SP_end 4 = .ok (.iload_n 1, 1) := by decide +kernel
theorem d_SP_end_5 : decode b_SP_end 5 = .ok (.aload_n 0, 1) := by decide +kernel
theorem d_SP_end_6 : decode b_SP_end 6 = .ok (.getfield 45, 3) := by decide +kernel
theorem d_SP_end_9 : decode b_SP_end 9 = .ok (.if_icmp .le 11, 3) := by decide +kernel
theorem d_SP_end_12 : decode b_SP_end 12 = .ok (.new iN_IAE, 3) := by decide +kernel
theorem d_SP_end_15 : decode b_SP_end 15 = .ok (.dup, 1) := by decide +kernel
theorem d_SP_end_16 : decode b_SP_end 16 = .ok (.invokespecial ic_IAE, 3) := by decide +kernel
theorem d_SP_end_19 : decode b_SP_end 19 = .ok (.athrow, 1) := by decide +kernel
theorem d_SP_end_20 : decode b_SP_end 20 = .ok (.aload_n 0, 1) := by decide +kernel
theorem d_SP_end_21 : decode b_SP_end 21 = .ok (.iload_n 1, 1) := by decide +kernel
theorem d_SP_end_22 : decode b_SP_end 22 = .ok (.putfield 45, 3) := by decide +kernel
theorem d_SP_end_25 : decode b_SP_end 25 = .ok (.iload_n 1, 1) := by decide +kernel
theorem d_SP_end_26 : decode b_SP_end 26 = .ok (.ireturn, 1) := by decide +kernel
theorem d_SP_judge_0 : decode b_SP_judge 0 = .ok (.aload_n 0, 1) := by decide +kernel
theorem d_SP_judge_1 : decode b_SP_judge 1 = .ok (.getfield 172, 3) := by decide +kernel
theorem d_SP_judge_4 : decode b_SP_judge 4 = .ok (.ifnonnull 11, 3) := by decide +kernel
theorem d_SP_judge_7 : decode b_SP_judge 7 = .ok (.new iN_ISE, 3) := by decide +kernel
theorem d_SP_judge_10 : decode b_SP_judge 10 = .ok (.dup, 1) := by decide +kernel
theorem d_SP_judge_11 : decode b_SP_judge 11 = .ok (.invokespecial ic_ISE, 3) := by decide +kernel
theorem d_SP_judge_14 : decode b_SP_judge 14 = .ok (.athrow, 1) := by decide +kernel
theorem d_SP_line_0 : decode b_SP_line 0 = .ok (.iload_n 2, 1) := by decide +kernel
theorem d_SP_line_1 : decode b_SP_line 1 = .ok (.ifCond .lt 9, 3) := by decide +kernel
theorem d_SP_line_4 : decode b_SP_line 4 = .ok (.iload_n 2, 1) := by decide +kernel
theorem d_SP_line_5 : decode b_SP_line 5 = .ok (.bipush 6, 2) := by decide +kernel
theorem d_SP_line_7 : decode b_SP_line 7 = .ok (.if_icmp .le 11, 3) := by decide +kernel
theorem d_SP_line_10 : decode b_SP_line 10 = .ok (.new iN_IAE, 3) := by decide +kernel
theorem d_SP_line_13 : decode b_SP_line 13 = .ok (.dup, 1) := by decide +kernel
theorem d_SP_line_14 : decode b_SP_line 14 = .ok (.invokespecial ic_IAE, 3) := by decide +kernel
theorem d_SP_line_17 : decode b_SP_line 17 = .ok (.athrow, 1) := by decide +kernel
theorem d_SP_line_18 : decode b_SP_line 18 = .ok (.aload_n 0, 1) := by decide +kernel
theorem d_SP_line_19 : decode b_SP_line 19 = .ok (.getfield 172, 3) := by decide +kernel
theorem d_SP_line_22 : decode b_SP_line 22 = .ok (.ifnonnull 11, 3) := by decide +kernel
theorem d_SP_line_25 : decode b_SP_line 25 = .ok (.new iN_ISE, 3) := by decide +kernel
theorem d_SP_line_28 : decode b_SP_line 28 = .ok (.dup, 1) := by decide +kernel
theorem d_SP_line_29 : decode b_SP_line 29 = .ok (.invokespecial ic_ISE, 3) := by decide +kernel
theorem d_SP_line_32 : decode b_SP_line 32 = .ok (.athrow, 1) := by decide +kernel
theorem d_SP_note_0 : decode b_SP_note 0 = .ok (.iload_n 2, 1) := by decide +kernel
theorem d_SP_note_1 : decode b_SP_note 1 = .ok (.ifCond .lt 12, 3) := by decide +kernel
theorem d_SP_note_4 : decode b_SP_note 4 = .ok (.iload_n 2, 1) := by decide +kernel
theorem d_SP_note_5 : decode b_SP_note 5 = .ok (.iconst 5, 1) := by decide +kernel
theorem d_SP_note_6 : decode b_SP_note 6 = .ok (.if_icmp .gt 7, 3) := by decide +kernel
theorem d_SP_note_9 : decode b_SP_note 9 = .ok (.iconst 1, 1) := by decide +kernel
theorem d_SP_note_10 : decode b_SP_note 10 = .ok (.goto 4, 3) := by decide +kernel
theorem d_SP_note_13 : decode b_SP_note 13 = .ok (.iconst 0, 1) := by decide +kernel
theorem d_SP_note_14 : decode b_SP_note 14 = .ok (.istore_n 3, 1) := by decide +kernel
theorem d_SP_note_15 : decode b_SP_note 15 = .ok (.iload_n 3, 1) := by decide +kernel
theorem d_SP_note_16 : decode b_SP_note 16 = .ok (.ifCond .ne 23, 3) := by decide +kernel
theorem d_SP_note_19 : decode b_SP_note 19 = .ok (.iload_n 2, 1) := by decide +kernel
theorem d_SP_note_20 : decode b_SP_note 20 = .ok (.bipush 10, 2) := by decide +kernel
theorem d_SP_note_22 : decode b_SP_note 22 = .ok (.if_icmp .lt 9, 3) := by decide +kernel
theorem d_SP_note_25 : decode b_SP_note 25 = .ok (.iload_n 2, 1) := by decide +kernel
theorem d_SP_note_26 : decode b_SP_note 26 = .ok (.bipush 13, 2) := by decide +kernel
theorem d_SP_note_28 : decode b_SP_note 28 = .ok (.if_icmp .le 11, 3) := by decide +kernel
theorem d_SP_note_31 : decode b_SP_note 31 = .ok (.new iN_IAE, 3) := by decide +kernel
theorem d_SP_note_34 : decode b_SP_note 34 = .ok (.dup, 1) := by decide +kernel
theorem d_SP_note_35 : decode b_SP_note 35 = .ok (.invokespecial ic_IAE, 3) := by decide +kernel
theorem d_SP_note_38 : decode b_SP_note 38 = .ok (.athrow, 1) := by decide +kernel
theorem d_SP_note_39 : decode b_SP_note 39 = .ok (.aload_n 0, 1) := by decide +kernel
theorem d_SP_note_40 : decode b_SP_note 40 = .ok (.getfield 172, 3) := by decide +kernel
theorem d_SP_note_43 : decode b_SP_note 43 = .ok (.ifnonnull 11, 3) := by decide +kernel
theorem d_SP_note_46 : decode b_SP_note 46 = .ok (.new iN_ISE, 3) := by decide +kernel
theorem d_SP_note_49 : decode b_SP_note 49 = .ok (.dup, 1) := by decide +kernel
theorem d_SP_note_50 : decode b_SP_note 50 = .ok (.invokespecial ic_ISE, 3) := by decide +kernel
theorem d_SP_note_53 : decode b_SP_note 53 = .ok (.athrow, 1) := by decide +kernel
theorem d_SP_paragraph_0 : decode b_SP_paragraph 0 = .ok (.iload_n 2, 1) := by decide +kernel
theorem d_SP_paragraph_1 : decode b_SP_paragraph 1 = .ok (.ifCond .lt 9, 3) := by decide +kernel
theorem d_SP_paragraph_4 : decode b_SP_paragraph 4 = .ok (.iload_n 2, 1) := by decide +kernel
theorem d_SP_paragraph_5 : decode b_SP_paragraph 5 = .ok (.bipush 6, 2) := by decide +kernel
theorem d_SP_paragraph_7 : decode b_SP_paragraph 7 = .ok (.if_icmp .le 11, 3) := by decide +kernel
theorem d_SP_paragraph_10 : decode b_SP_paragraph 10 = .ok (.new iN_IAE, 3) := by decide +kernel
theorem d_SP_paragraph_13 : decode b_SP_paragraph 13 = .ok (.dup, 1) := by decide +kernel
theorem d_SP_paragraph_14 : decode b_SP_paragraph 14 = .ok (.invokespecial ic_IAE, 3) := by decide +kernel
theorem d_SP_paragraph_17 : decode b_SP_paragraph 17 = .ok (.athrow, 1) := by decide +kernel
theorem d_SP_paragraph_18 : decode b_SP_paragraph 18 = .ok (.aload_n 0, 1) := by decide +kernel
theorem d_SP_paragraph_19 : decode b_SP_paragraph 19 = .ok (.getfield 172, 3) := by decide +kernel
theorem d_SP_paragraph_22 : decode b_SP_paragraph 22 = .ok (.ifnonnull 11, 3) := by decide +kernel
theorem d_SP_paragraph_25 : decode b_SP_paragraph 25 = .ok (.new iN_ISE, 3) := by decide +kernel
theorem d_SP_paragraph_28 : decode b_SP_paragraph 28 = .ok (.dup, 1) := by decide +kernel
theorem d_SP_paragraph_29 : decode b_SP_paragraph 29 = .ok (.invokespecial ic_ISE, 3) := by decide +kernel
theorem d_SP_paragraph_32 : decode b_SP_paragraph 32 = .ok (.athrow, 1) := by decide +kernel
theorem d_SP_print_0 : decode b_SP_print 0 = .ok (.aload_n 0, 1) := by decide +kernel
theorem d_SP_print_1 : decode b_SP_print 1 = .ok (.getfield 172, 3) := by decide +kernel
theorem d_SP_print_4 : decode b_SP_print 4 = .ok (.ifnonnull 11, 3) := by decide +kernel
theorem d_SP_print_7 : decode b_SP_print 7 = .ok (.new iN_ISE, 3) := by decide +kernel
theorem d_SP_print_10 : decode b_SP_print 10 = .ok (.dup, 1) := by decide +kernel
theorem d_SP_print_11 : decode b_SP_print 11 = .ok (.invokespecial ic_ISE, 3) := by decide +kernel
theorem d_SP_print_14 : decode b_SP_print 14 = .ok (.athrow, 1) := by decide +kernel
theorem d_SP_set_0 : decode b_SP_set 0 = .ok (.iload_n 1, 1) := by decide +kernel
theorem d_SP_set_1 : decode b_SP_set 1 = .ok (.iconst 1, 1) := by decide +kernel
theorem d_SP_set_2 : decode b_SP_set 2 = .ok (.if_icmp .lt 9, 3) := by decide +kernel
theorem d_SP_set_5 : decode b_SP_set 5 = .ok (.iload_n 1, 1) := by decide +kernel
theorem d_SP_set_6 : decode b_SP_set 6 = .ok (.bipush 9, 2) := by decide +kernel
theorem d_SP_set_8 : decode b_SP_set 8 = .ok (.if_icmp .le 11, 3) := by decide +kernel
theorem d_SP_set_11 : decode b_SP_set 11 = .ok (.new iN_IAE, 3) := by decide +kernel
theorem d_SP_set_14 : decode b_SP_set 14 = .ok (.dup, 1) := by decide +kernel
theorem d_SP_set_15 : decode b_SP_set 15 = .ok (.invokespecial ic_IAE, 3) := by decide +kernel
theorem d_SP_set_18 : decode b_SP_set 18 = .ok (.athrow, 1) := by decide +kernel
theorem d_SP_set_19 : decode b_SP_set 19 = .ok (.aload_n 0, 1) := by decide +kernel
theorem d_SP_set_20 : decode b_SP_set 20 = .ok (.getfield 135, 3) := by decide +kernel
theorem d_SP_set_23 : decode b_SP_set 23 = .ok (.ifnonnull 11, 3) := by decide +kernel
theorem d_SP_set_26 : decode b_SP_set 26 = .ok (.new iN_ISE, 3) := by decide +kernel
theorem d_SP_set_29 : decode b_SP_set 29 = .ok (.dup, 1) := by decide +kernel
theorem d_SP_set_30 : decode b_SP_set 30 = .ok (.invokespecial ic_ISE, 3) := by decide +kernel
theorem d_SP_set_33 : decode b_SP_set 33 = .ok (.athrow, 1) := by decide +kernel
theorem d_SP_spot_0 : decode b_SP_spot 0 = .ok (.aload_n 0, 1) := by decide +kernel
theorem d_SP_spot_1 : decode b_SP_spot 1 = .ok (.getfield 172, 3) := by decide +kernel
theorem d_SP_spot_4 : decode b_SP_spot 4 = .ok (.ifnonnull 11, 3) := by decide +kernel
theorem d_SP_spot_7 : decode b_SP_spot 7 = .ok (.new iN_ISE, 3) := by decide +kernel
theorem d_SP_spot_10 : decode b_SP_spot 10 = .ok (.dup, 1) := by decide +kernel
theorem d_SP_spot_11 : decode b_SP_spot 11 = .ok (.invokespecial ic_ISE, 3) := by decide +kernel
theorem d_SP_spot_14 : decode b_SP_spot 14 = .ok (.athrow, 1) := by decide +kernel
theorem d_SP_wavering_0 : decode b_SP_wavering 0 = .ok (.aload_n 0, 1) := by decide +kernel
theorem d_SP_wavering_1 : decode b_SP_wavering 1 = .ok (.getfield 172, 3) := by decide +kernel
theorem d_SP_wavering_4 : decode b_SP_wavering 4 = .ok (.ifnonnull 11, 3) := by decide +kernel
theorem d_SP_wavering_7 : decode b_SP_wavering 7 = .ok (.new iN_ISE, 3) := by decide +kernel
theorem d_SP_wavering_10 : decode b_SP_wavering 10 = .ok (.dup, 1) := by decide +kernel
theorem d_SP_wavering_11 : decode b_SP_wavering 11 = .ok (.invokespecial ic_ISE, 3) := by decide +kernel
theorem d_SP_wavering_14 : decode b_SP_wavering 14 = .ok (.athrow, 1) := by decide +kernel
theorem d_SP_where_0 : decode b_SP_where 0 = .ok (.iload_n 1, 1) := by decide +kernel
theorem d_SP_where_1 : decode b_SP_where 1 = .ok (.ifCond .lt 8, 3) := by decide +kernel
theorem d_SP_where_4 : decode b_SP_where 4 = .ok (.iload_n 1, 1) := by decide +kernel
theorem d_SP_where_5 : decode b_SP_where 5 = .ok (.iconst 5, 1) := by decide +kernel
theorem d_SP_where_6 : decode b_SP_where 6 = .ok (.if_icmp .le 11, 3) := by decide +kernel
theorem d_SP_where_9 : decode b_SP_where 9 = .ok (.new iN_IAE, 3) := by decide +kernel
theorem d_SP_where_12 : decode b_SP_where 12 = .ok (.dup, 1) := by decide +kernel
theorem d_SP_where_13 : decode b_SP_where 13 = .ok (.invokespecial ic_IAE, 3) := by decide +kernel
theorem d_SP_where_16 : decode b_SP_where 16 = .ok (.athrow, 1) := by decide +kernel
theorem d_SP_where_17 : decode b_SP_where 17 = .ok (.aload_n 0, 1) := by decide +kernel
theorem d_SP_where_18 : decode b_SP_where 18 = .ok (.getfield 172, 3) := by decide +kernel
theorem d_SP_where_21 : decode b_SP_where 21 = .ok (.ifnonnull 11, 3) := by decide +kernel
theorem d_SP_where_24 : decode b_SP_where 24 = .ok (.new iN_ISE, 3) := by decide +kernel
theorem d_SP_where_27 : decode b_SP_where 27 = .ok (.dup, 1) := by decide +kernel
theorem d_SP_where_28 : decode b_SP_where 28 = .ok (.invokespecial ic_ISE, 3) := by decide +kernel
theorem d_SP_where_31 : decode b_SP_where 31 = .ok (.athrow, 1) := by decide +kernel
theorem d_SP_word_0 : decode b_SP_word 0 = .ok (.iload_n 1, 1) := by decide +kernel
theorem d_SP_word_1 : decode b_SP_word 1 = .ok (.ifCond .lt 11, 3) := by decide +kernel
theorem d_SP_word_4 : decode b_SP_word 4 = .ok (.iload_n 1, 1) := by decide +kernel
theorem d_SP_word_5 : decode b_SP_word 5 = .ok (.aload_n 0, 1) := by decide +kernel
theorem d_SP_word_6 : decode b_SP_word 6 = .ok (.getfield 293, 3) := by decide +kernel
theorem d_SP_word_9 : decode b_SP_word 9 = .ok (.if_icmp .lt 11, 3) := by decide +kernel
theorem d_SP_word_12 : decode b_SP_word 12 = .ok (.new iN_IOB, 3) := by decide +kernel
theorem d_SP_word_15 : decode b_SP_word 15 = .ok (.dup, 1) := by decide +kernel
theorem d_SP_word_16 : decode b_SP_word 16 = .ok (.invokespecial ic_IOB, 3) := by decide +kernel
theorem d_SP_word_19 : decode b_SP_word 19 = .ok (.athrow, 1) := by decide +kernel
end
section
theorem z_0 : (0 : Int32).toInt = 0 := by decide
theorem z_1 : (1 : Int32).toInt = 1 := by decide
theorem z_5 : (5 : Int32).toInt = 5 := by decide
theorem z_6 : (6 : Int32).toInt = 6 := by decide
theorem z_7 : (7 : Int32).toInt = 7 := by decide
theorem z_9 : (9 : Int32).toInt = 9 := by decide
theorem z_10 : (10 : Int32).toInt = 10 := by decide
theorem z_11 : (11 : Int32).toInt = 11 := by decide
theorem z_13 : (13 : Int32).toInt = 13 := by decide
theorem z_20 : (20 : Int32).toInt = 20 := by decide
theorem z_41 : (41 : Int32).toInt = 41 := by decide
set_option maxHeartbeats 4000000 in
set_option maxRecDepth 100000 in
/-- count on a fresh object -/
theorem c_SP_count {l : Launch} (hfl : l.flags = flags0) {s0 : State} (hS0 : te_S0 s0) (dC : Nat → ClassId) (dI : Nat → Nat → Nat) (x tp sg st ft hy : Nat) (w : Int32) (sz : Nat) : te_Met l y_SP_count [w_SP_count] ({ frames := 6, cells := 1, slots := 6, locals := 200 }) (va_Pc [.ref x, .int w] (fun U => U.heap.size = sz ∧ tb U ∧ te_Base s0 U ∧ va_P (dC, dI) classes [(x, .inr (0, [.ref tp, .int 0, .int ((-1)), .ref sg, .null, .null, .ref st, .null, .ref ft, .null, .ref hy, .null, .null, .int 0, .null, .null, .null, .null, .null, .null, .int 0]))] U.heap ∧ va_K (dC, dI) classes [] U ∧ va_D (fun _ => True) [(x, .inr (0, [.ref tp, .int 0, .int ((-1)), .ref sg, .null, .null, .ref st, .null, .ref ft, .null, .ref hy, .null, .null, .int 0, .null, .null, .null, .null, .null, .null, .int 0]))])) (te_Qx (va_Qi (fun (r : Int32) (_ : Unit) => r = 0 ∧ (0 ≤ w.toInt ∧ w.toInt ≤ 11)) (fun _ _ => True) (va_A [(x, .inr (0, [.ref tp, .int 0, .int ((-1)), .ref sg, .null, .null, .ref st, .null, .ref ft, .null, .ref hy, .null, .null, .int 0, .null, .null, .null, .null, .null, .null, .int 0]))] sz)) (fun cls => cls = x_IAE ∧ ¬ (0 ≤ w.toInt ∧ w.toInt ≤ 11))) 1 6 (va_A [(x, .inr (0, [.ref tp, .int 0, .int ((-1)), .ref sg, .null, .null, .ref st, .null, .ref ft, .null, .ref hy, .null, .null, .int 0, .null, .null, .null, .null, .null, .null, .int 0]))] sz) := by
  refine te_ofW (cc := b_SP_count) (maxL := 2) (ret := (some .int)) (by decide) rfl ?_
  intro p e s m args below meth c s₁ B hml hv
  obtain ⟨rfl, hsz, hb0, hB0, hP, hK, hD0⟩ := hv
  have hx := B.exec
  have hb := B.bytes
  have hr := B.returns
  have hw0 := atoms_spec (ws := [w_SP_count]) B.pre
  have hts : ∀ wq ∈ tt, wq.before ([.ref x, .int w] : List Value).toArray s = true := hb0.hts
  have hown : s.vm.findClass "ScholarsPress" = some m.cls := findClass_of_methodNamed B.named
  have hlocks := B.notSynchronized
  subst hsz
  have hD := hD0.self (sz := s.heap.size)
  generalize hAe : va_A [(x, .inr (0, [.ref tp, .int 0, .int ((-1)), .ref sg, .null, .null, .ref st, .null, .ref ft, .null, .ref hy, .null, .null, .int 0, .null, .null, .null, .null, .null, .null, .int 0]))] s.heap.size = A at hD ⊢
  have hA : ∀ q : Nat, s.heap.size ≤ q → A q := fun q h => by rw [← hAe]; exact Or.inr h
  have hS : va_S A s.heap s.heap [] := va_S.rf
  have hP : va_P (dC, dI) classes [(x, .inr (0, [.ref tp, .int 0, .int ((-1)), .ref sg, .null, .null, .ref st, .null, .ref ft, .null, .ref hy, .null, .null, .int 0, .null, .null, .null, .null, .null, .null, .int 0]))] s.heap := hP
  have hl := lv_entry ([.ref x, .int w]) (n := 2) (Nat.le_of_ble_eq_true rfl)
  rw [lg_entry_eq]
  generalize (lg_sl ([.ref x, .int w]) ++ List.replicate (2 - (lg_sl ([.ref x, .int w])).length) Slot.unset).toArray = ls at hl ⊢
  have hl : lv_has ls 2 [(0, .ref x), (1, .int w)] := hl
  refine lv_iload_n hx hb d_SP_count_0 rfl (lv_at hl 1 rfl) ?_
  refine lv_if_lt (tgt := 10) hx hb d_SP_count_1 (by decide) (fun c_1 => ?_) (fun c_1 => ?_)
  · exact te_throw hx hb (te_tr hfl B.admits) (own := "ScholarsPress") (cls := x_IAE) (names := ["java/lang/RuntimeException", "java/lang/Exception"]) (iN := iN_IAE) (ic := ic_IAE) hown xf_IAE xn (te_own hS0 hB0 hb0 xo_IAE xh_IAE) (hts _ xl_IAE) (hts _ xi_IAE) (BodyLoose.noHandlers B (hw0 _ List.mem_cons_self)) (hl.1.trans hml.symm) (Nat.le_of_ble_eq_true rfl) (Nat.le_of_ble_eq_true rfl) (Nat.lt_of_sub_pos (by decide)) (Nat.le_of_ble_eq_true rfl) d_SP_count_10 d_SP_count_13 d_SP_count_14 d_SP_count_17 (Nat.le_refl _) (fun t a h => Or.inr ⟨x_IAE, a, ⟨rfl, by simp only [Int32.lt_iff_toInt_lt, Int32.le_iff_toInt_le, z_0, z_1, z_5, z_6, z_7, z_9, z_10, z_11, z_13, z_20, z_41] at c_1 ⊢; omega⟩, rfl, h⟩) hlocks
  · refine lv_iload_n hx hb d_SP_count_4 rfl (lv_at hl 1 rfl) ?_
    refine lv_bipush (v := 11) hx hb d_SP_count_5 (by decide) ?_
    refine lv_icmp_le (tgt := 18) hx hb d_SP_count_7 (by decide) (fun c_2 => ?_) (fun c_2 => ?_)
    · refine lv_iload_n hx hb d_SP_count_18 rfl (lv_at hl 1 rfl) ?_
      refine lv_iconst (v := 2) hx hb d_SP_count_19 (by decide) ?_
      refine lv_icmp_gt (tgt := 40) hx hb d_SP_count_20 (by decide) (fun c_3 => ?_) (fun c_3 => ?_)
      · refine lv_aload_n hx hb d_SP_count_40 rfl (lv_at hl 0 rfl) ?_
        refine va_get (D := (dC, dI)) (ci := 0) (v := .null) (C := "ScholarsPress") (T := F_SP) (N := 21) hx hb hts in_SP hown hK hP 0 rfl rfl 14 (by decide) (hts (.fieldLink "ScholarsPress" 172 "ScholarsPress" "pagesNow" "LScholarsPress$Pages;") k_514) (fun _ h9 => h9) rfl d_SP_count_41 ?_
        refine lv_ifnonnullN hx hb d_SP_count_44 ?_
        refine lv_iconst (v := 0) hx hb d_SP_count_47 (by decide) ?_
        refine lv_goto (tgt := 59) hx hb d_SP_count_48 (by decide) ?_
        refine W.widen (k := 1) (n := 6) (by decide) (by decide) ?_
        exact te_of (W.iret (v := 0) hx hb hr (fun t ht hW => Or.inl ⟨_, rfl, ⟨0, (), rfl, ⟨rfl, by simp only [Int32.lt_iff_toInt_lt, Int32.le_iff_toInt_le, z_0, z_1, z_5, z_6, z_7, z_9, z_10, z_11, z_13, z_20, z_41] at c_1 c_2 c_3 ⊢; omega⟩, trivial⟩, hS.F ht⟩) hS.2.2 d_SP_count_59)
      · refine lv_aload_n hx hb d_SP_count_23 rfl (lv_at hl 0 rfl) ?_
        refine va_get (D := (dC, dI)) (ci := 0) (v := .null) (C := "ScholarsPress") (T := F_SP) (N := 21) hx hb hts in_SP hown hK hP 0 rfl rfl 4 (by decide) (hts (.fieldLink "ScholarsPress" 135 "ScholarsPress" "sourceNow" "LScholarsPress$Source;") k_504) (fun _ h9 => h9) rfl d_SP_count_24 ?_
        refine lv_ifnonnullN hx hb d_SP_count_27 ?_
        refine lv_iconst (v := 0) hx hb d_SP_count_30 (by decide) ?_
        refine lv_goto (tgt := 39) hx hb d_SP_count_31 (by decide) ?_
        refine W.widen (k := 1) (n := 6) (by decide) (by decide) ?_
        exact te_of (W.iret (v := 0) hx hb hr (fun t ht hW => Or.inl ⟨_, rfl, ⟨0, (), rfl, ⟨rfl, by simp only [Int32.lt_iff_toInt_lt, Int32.le_iff_toInt_le, z_0, z_1, z_5, z_6, z_7, z_9, z_10, z_11, z_13, z_20, z_41] at c_1 c_2 c_3 ⊢; omega⟩, trivial⟩, hS.F ht⟩) hS.2.2 d_SP_count_39)
    · exact te_throw hx hb (te_tr hfl B.admits) (own := "ScholarsPress") (cls := x_IAE) (names := ["java/lang/RuntimeException", "java/lang/Exception"]) (iN := iN_IAE) (ic := ic_IAE) hown xf_IAE xn (te_own hS0 hB0 hb0 xo_IAE xh_IAE) (hts _ xl_IAE) (hts _ xi_IAE) (BodyLoose.noHandlers B (hw0 _ List.mem_cons_self)) (hl.1.trans hml.symm) (Nat.le_of_ble_eq_true rfl) (Nat.le_of_ble_eq_true rfl) (Nat.lt_of_sub_pos (by decide)) (Nat.le_of_ble_eq_true rfl) d_SP_count_10 d_SP_count_13 d_SP_count_14 d_SP_count_17 (Nat.le_refl _) (fun t a h => Or.inr ⟨x_IAE, a, ⟨rfl, by simp only [Int32.lt_iff_toInt_lt, Int32.le_iff_toInt_le, z_0, z_1, z_5, z_6, z_7, z_9, z_10, z_11, z_13, z_20, z_41] at c_1 c_2 ⊢; omega⟩, rfl, h⟩) hlocks
set_option maxHeartbeats 4000000 in
set_option maxRecDepth 100000 in
/-- set: there is no SOURCE -/
theorem c_SP_set {l : Launch} (hfl : l.flags = flags0) {s0 : State} (hS0 : te_S0 s0) (dC : Nat → ClassId) (dI : Nat → Nat → Nat) (x tp sg st ft hy : Nat) (n : Int32) (sz : Nat) : te_Met l y_SP_set [w_SP_set] ({ frames := 6, cells := 1, slots := 6, locals := 200 }) (va_Pc [.ref x, .int n] (fun U => U.heap.size = sz ∧ tb U ∧ te_Base s0 U ∧ va_P (dC, dI) classes [(x, .inr (0, [.ref tp, .int 0, .int ((-1)), .ref sg, .null, .null, .ref st, .null, .ref ft, .null, .ref hy, .null, .null, .int 0, .null, .null, .null, .null, .null, .null, .int 0]))] U.heap ∧ va_K (dC, dI) classes [] U ∧ va_D (fun _ => True) [(x, .inr (0, [.ref tp, .int 0, .int ((-1)), .ref sg, .null, .null, .ref st, .null, .ref ft, .null, .ref hy, .null, .null, .int 0, .null, .null, .null, .null, .null, .null, .int 0]))])) (te_Qx (va_Qi (fun (r : Int32) (_ : Unit) => False) (fun _ _ => True) (va_A [(x, .inr (0, [.ref tp, .int 0, .int ((-1)), .ref sg, .null, .null, .ref st, .null, .ref ft, .null, .ref hy, .null, .null, .int 0, .null, .null, .null, .null, .null, .null, .int 0]))] sz)) (fun cls => (cls = x_IAE ∧ ¬ (1 ≤ n.toInt ∧ n.toInt ≤ 9)) ∨ (cls = x_ISE ∧ (1 ≤ n.toInt ∧ n.toInt ≤ 9)))) 1 6 (va_A [(x, .inr (0, [.ref tp, .int 0, .int ((-1)), .ref sg, .null, .null, .ref st, .null, .ref ft, .null, .ref hy, .null, .null, .int 0, .null, .null, .null, .null, .null, .null, .int 0]))] sz) := by
  refine te_ofW (cc := b_SP_set) (maxL := 6) (ret := (some .int)) (by decide) rfl ?_
  intro p e s m args below meth c s₁ B hml hv
  obtain ⟨rfl, hsz, hb0, hB0, hP, hK, hD0⟩ := hv
  have hx := B.exec
  have hb := B.bytes
  have hr := B.returns
  have hw0 := atoms_spec (ws := [w_SP_set]) B.pre
  have hts : ∀ wq ∈ tt, wq.before ([.ref x, .int n] : List Value).toArray s = true := hb0.hts
  have hown : s.vm.findClass "ScholarsPress" = some m.cls := findClass_of_methodNamed B.named
  have hlocks := B.notSynchronized
  subst hsz
  have hD := hD0.self (sz := s.heap.size)
  generalize hAe : va_A [(x, .inr (0, [.ref tp, .int 0, .int ((-1)), .ref sg, .null, .null, .ref st, .null, .ref ft, .null, .ref hy, .null, .null, .int 0, .null, .null, .null, .null, .null, .null, .int 0]))] s.heap.size = A at hD ⊢
  have hA : ∀ q : Nat, s.heap.size ≤ q → A q := fun q h => by rw [← hAe]; exact Or.inr h
  have hS : va_S A s.heap s.heap [] := va_S.rf
  have hP : va_P (dC, dI) classes [(x, .inr (0, [.ref tp, .int 0, .int ((-1)), .ref sg, .null, .null, .ref st, .null, .ref ft, .null, .ref hy, .null, .null, .int 0, .null, .null, .null, .null, .null, .null, .int 0]))] s.heap := hP
  have hl := lv_entry ([.ref x, .int n]) (n := 6) (Nat.le_of_ble_eq_true rfl)
  rw [lg_entry_eq]
  generalize (lg_sl ([.ref x, .int n]) ++ List.replicate (6 - (lg_sl ([.ref x, .int n])).length) Slot.unset).toArray = ls at hl ⊢
  have hl : lv_has ls 6 [(0, .ref x), (1, .int n)] := hl
  refine lv_iload_n hx hb d_SP_set_0 rfl (lv_at hl 1 rfl) ?_
  refine lv_iconst (v := 1) hx hb d_SP_set_1 (by decide) ?_
  refine lv_icmp_lt (tgt := 11) hx hb d_SP_set_2 (by decide) (fun c_1 => ?_) (fun c_1 => ?_)
  · exact te_throw hx hb (te_tr hfl B.admits) (own := "ScholarsPress") (cls := x_IAE) (names := ["java/lang/RuntimeException", "java/lang/Exception"]) (iN := iN_IAE) (ic := ic_IAE) hown xf_IAE xn (te_own hS0 hB0 hb0 xo_IAE xh_IAE) (hts _ xl_IAE) (hts _ xi_IAE) (BodyLoose.noHandlers B (hw0 _ List.mem_cons_self)) (hl.1.trans hml.symm) (Nat.le_of_ble_eq_true rfl) (Nat.le_of_ble_eq_true rfl) (Nat.lt_of_sub_pos (by decide)) (Nat.le_of_ble_eq_true rfl) d_SP_set_11 d_SP_set_14 d_SP_set_15 d_SP_set_18 (Nat.le_refl _) (fun t a h => Or.inr ⟨x_IAE, a, Or.inl ⟨rfl, by simp only [Int32.lt_iff_toInt_lt, Int32.le_iff_toInt_le, z_0, z_1, z_5, z_6, z_7, z_9, z_10, z_11, z_13, z_20, z_41] at c_1 ⊢; omega⟩, rfl, h⟩) hlocks
  · refine lv_iload_n hx hb d_SP_set_5 rfl (lv_at hl 1 rfl) ?_
    refine lv_bipush (v := 9) hx hb d_SP_set_6 (by decide) ?_
    refine lv_icmp_le (tgt := 19) hx hb d_SP_set_8 (by decide) (fun c_2 => ?_) (fun c_2 => ?_)
    · refine lv_aload_n hx hb d_SP_set_19 rfl (lv_at hl 0 rfl) ?_
      refine va_get (D := (dC, dI)) (ci := 0) (v := .null) (C := "ScholarsPress") (T := F_SP) (N := 21) hx hb hts in_SP hown hK hP 0 rfl rfl 4 (by decide) (hts (.fieldLink "ScholarsPress" 135 "ScholarsPress" "sourceNow" "LScholarsPress$Source;") k_504) (fun _ h9 => h9) rfl d_SP_set_20 ?_
      refine lv_ifnonnullN hx hb d_SP_set_23 ?_
      exact te_throw hx hb (te_tr hfl B.admits) (own := "ScholarsPress") (cls := x_ISE) (names := ["java/lang/RuntimeException", "java/lang/Exception"]) (iN := iN_ISE) (ic := ic_ISE) hown xf_ISE xn (te_own hS0 hB0 hb0 xo_ISE xh_ISE) (hts _ xl_ISE) (hts _ xi_ISE) (BodyLoose.noHandlers B (hw0 _ List.mem_cons_self)) (hl.1.trans hml.symm) (Nat.le_of_ble_eq_true rfl) (Nat.le_of_ble_eq_true rfl) (Nat.lt_of_sub_pos (by decide)) (Nat.le_of_ble_eq_true rfl) d_SP_set_26 d_SP_set_29 d_SP_set_30 d_SP_set_33 (Nat.le_refl _) (fun t a h => Or.inr ⟨x_ISE, a, Or.inr (⟨rfl, by simp only [Int32.lt_iff_toInt_lt, Int32.le_iff_toInt_le, z_0, z_1, z_5, z_6, z_7, z_9, z_10, z_11, z_13, z_20, z_41] at c_1 c_2 ⊢; omega⟩), rfl, h⟩) hlocks
    · exact te_throw hx hb (te_tr hfl B.admits) (own := "ScholarsPress") (cls := x_IAE) (names := ["java/lang/RuntimeException", "java/lang/Exception"]) (iN := iN_IAE) (ic := ic_IAE) hown xf_IAE xn (te_own hS0 hB0 hb0 xo_IAE xh_IAE) (hts _ xl_IAE) (hts _ xi_IAE) (BodyLoose.noHandlers B (hw0 _ List.mem_cons_self)) (hl.1.trans hml.symm) (Nat.le_of_ble_eq_true rfl) (Nat.le_of_ble_eq_true rfl) (Nat.lt_of_sub_pos (by decide)) (Nat.le_of_ble_eq_true rfl) d_SP_set_11 d_SP_set_14 d_SP_set_15 d_SP_set_18 (Nat.le_refl _) (fun t a h => Or.inr ⟨x_IAE, a, Or.inl ⟨rfl, by simp only [Int32.lt_iff_toInt_lt, Int32.le_iff_toInt_le, z_0, z_1, z_5, z_6, z_7, z_9, z_10, z_11, z_13, z_20, z_41] at c_1 c_2 ⊢; omega⟩, rfl, h⟩) hlocks
set_option maxHeartbeats 4000000 in
set_option maxRecDepth 100000 in
/-- element: there is no SOURCE -/
theorem c_SP_element {l : Launch} (hfl : l.flags = flags0) {s0 : State} (hS0 : te_S0 s0) (dC : Nat → ClassId) (dI : Nat → Nat → Nat) (x tp sg st ft hy : Nat) (a w : Int32) (sz : Nat) : te_Met l y_SP_element [w_SP_element] ({ frames := 6, cells := 1, slots := 6, locals := 200 }) (va_Pc [.ref x, .int a, .int w] (fun U => U.heap.size = sz ∧ tb U ∧ te_Base s0 U ∧ va_P (dC, dI) classes [(x, .inr (0, [.ref tp, .int 0, .int ((-1)), .ref sg, .null, .null, .ref st, .null, .ref ft, .null, .ref hy, .null, .null, .int 0, .null, .null, .null, .null, .null, .null, .int 0]))] U.heap ∧ va_K (dC, dI) classes [] U ∧ va_D (fun _ => True) [(x, .inr (0, [.ref tp, .int 0, .int ((-1)), .ref sg, .null, .null, .ref st, .null, .ref ft, .null, .ref hy, .null, .null, .int 0, .null, .null, .null, .null, .null, .null, .int 0]))])) (te_Qx (va_Qi (fun (r : Int32) (_ : Unit) => False) (fun _ _ => True) (va_A [(x, .inr (0, [.ref tp, .int 0, .int ((-1)), .ref sg, .null, .null, .ref st, .null, .ref ft, .null, .ref hy, .null, .null, .int 0, .null, .null, .null, .null, .null, .null, .int 0]))] sz)) (fun cls => (cls = x_IAE ∧ ¬ (0 ≤ a.toInt ∧ ((0 ≤ w.toInt ∧ w.toInt ≤ 7) ∨ (20 ≤ w.toInt ∧ w.toInt ≤ 41)))) ∨ (cls = x_ISE ∧ (0 ≤ a.toInt ∧ ((0 ≤ w.toInt ∧ w.toInt ≤ 7) ∨ (20 ≤ w.toInt ∧ w.toInt ≤ 41)))))) 1 6 (va_A [(x, .inr (0, [.ref tp, .int 0, .int ((-1)), .ref sg, .null, .null, .ref st, .null, .ref ft, .null, .ref hy, .null, .null, .int 0, .null, .null, .null, .null, .null, .null, .int 0]))] sz) := by
  refine te_ofW (cc := b_SP_element) (maxL := 4) (ret := (some .int)) (by decide) rfl ?_
  intro p e s m args below meth c s₁ B hml hv
  obtain ⟨rfl, hsz, hb0, hB0, hP, hK, hD0⟩ := hv
  have hx := B.exec
  have hb := B.bytes
  have hr := B.returns
  have hw0 := atoms_spec (ws := [w_SP_element]) B.pre
  have hts : ∀ wq ∈ tt, wq.before ([.ref x, .int a, .int w] : List Value).toArray s = true := hb0.hts
  have hown : s.vm.findClass "ScholarsPress" = some m.cls := findClass_of_methodNamed B.named
  have hlocks := B.notSynchronized
  subst hsz
  have hD := hD0.self (sz := s.heap.size)
  generalize hAe : va_A [(x, .inr (0, [.ref tp, .int 0, .int ((-1)), .ref sg, .null, .null, .ref st, .null, .ref ft, .null, .ref hy, .null, .null, .int 0, .null, .null, .null, .null, .null, .null, .int 0]))] s.heap.size = A at hD ⊢
  have hA : ∀ q : Nat, s.heap.size ≤ q → A q := fun q h => by rw [← hAe]; exact Or.inr h
  have hS : va_S A s.heap s.heap [] := va_S.rf
  have hP : va_P (dC, dI) classes [(x, .inr (0, [.ref tp, .int 0, .int ((-1)), .ref sg, .null, .null, .ref st, .null, .ref ft, .null, .ref hy, .null, .null, .int 0, .null, .null, .null, .null, .null, .null, .int 0]))] s.heap := hP
  have hl := lv_entry ([.ref x, .int a, .int w]) (n := 4) (Nat.le_of_ble_eq_true rfl)
  rw [lg_entry_eq]
  generalize (lg_sl ([.ref x, .int a, .int w]) ++ List.replicate (4 - (lg_sl ([.ref x, .int a, .int w])).length) Slot.unset).toArray = ls at hl ⊢
  have hl : lv_has ls 4 [(0, .ref x), (1, .int a), (2, .int w)] := hl
  refine lv_iload_n hx hb d_SP_element_0 rfl (lv_at hl 2 rfl) ?_
  refine lv_if_lt (tgt := 10) hx hb d_SP_element_1 (by decide) (fun c_1 => ?_) (fun c_1 => ?_)
  · refine lv_iload_n hx hb d_SP_element_10 rfl (lv_at hl 2 rfl) ?_
    refine lv_bipush (v := 20) hx hb d_SP_element_11 (by decide) ?_
    refine lv_icmp_lt (tgt := 26) hx hb d_SP_element_13 (by decide) (fun c_2 => ?_) (fun c_2 => ?_)
    · refine lv_iconst (v := 0) hx hb d_SP_element_26 (by decide) ?_
      refine lv_istore_n (lv' := [(3, .int 0), (0, .ref x), (1, .int a), (2, .int w)]) hx hb d_SP_element_27 rfl hl (by decide) rfl (fun ls hl => ?_)
      refine lv_iload_n hx hb d_SP_element_28 rfl (lv_at hl 0 rfl) ?_
      refine lv_if_eq (tgt := 54) hx hb d_SP_element_29 (by decide) (fun c_3 => ?_) (fun c_3 => ?_)
      · exact te_throw hx hb (te_tr hfl B.admits) (own := "ScholarsPress") (cls := x_IAE) (names := ["java/lang/RuntimeException", "java/lang/Exception"]) (iN := iN_IAE) (ic := ic_IAE) hown xf_IAE xn (te_own hS0 hB0 hb0 xo_IAE xh_IAE) (hts _ xl_IAE) (hts _ xi_IAE) (BodyLoose.noHandlers B (hw0 _ List.mem_cons_self)) (hl.1.trans hml.symm) (Nat.le_of_ble_eq_true rfl) (Nat.le_of_ble_eq_true rfl) (Nat.lt_of_sub_pos (by decide)) (Nat.le_of_ble_eq_true rfl) d_SP_element_54 d_SP_element_57 d_SP_element_58 d_SP_element_61 (Nat.le_refl _) (fun t a h => Or.inr ⟨x_IAE, a, Or.inl ⟨rfl, by simp only [Int32.lt_iff_toInt_lt, Int32.le_iff_toInt_le, z_0, z_1, z_5, z_6, z_7, z_9, z_10, z_11, z_13, z_20, z_41] at c_1 c_2 ⊢; omega⟩, rfl, h⟩) hlocks
      · exact absurd c_3 (by decide)
    · refine lv_iload_n hx hb d_SP_element_16 rfl (lv_at hl 2 rfl) ?_
      refine lv_bipush (v := 41) hx hb d_SP_element_17 (by decide) ?_
      refine lv_icmp_gt (tgt := 26) hx hb d_SP_element_19 (by decide) (fun c_4 => ?_) (fun c_4 => ?_)
      · refine lv_iconst (v := 0) hx hb d_SP_element_26 (by decide) ?_
        refine lv_istore_n (lv' := [(3, .int 0), (0, .ref x), (1, .int a), (2, .int w)]) hx hb d_SP_element_27 rfl hl (by decide) rfl (fun ls hl => ?_)
        refine lv_iload_n hx hb d_SP_element_28 rfl (lv_at hl 0 rfl) ?_
        refine lv_if_eq (tgt := 54) hx hb d_SP_element_29 (by decide) (fun c_5 => ?_) (fun c_5 => ?_)
        · exact te_throw hx hb (te_tr hfl B.admits) (own := "ScholarsPress") (cls := x_IAE) (names := ["java/lang/RuntimeException", "java/lang/Exception"]) (iN := iN_IAE) (ic := ic_IAE) hown xf_IAE xn (te_own hS0 hB0 hb0 xo_IAE xh_IAE) (hts _ xl_IAE) (hts _ xi_IAE) (BodyLoose.noHandlers B (hw0 _ List.mem_cons_self)) (hl.1.trans hml.symm) (Nat.le_of_ble_eq_true rfl) (Nat.le_of_ble_eq_true rfl) (Nat.lt_of_sub_pos (by decide)) (Nat.le_of_ble_eq_true rfl) d_SP_element_54 d_SP_element_57 d_SP_element_58 d_SP_element_61 (Nat.le_refl _) (fun t a h => Or.inr ⟨x_IAE, a, Or.inl ⟨rfl, by simp only [Int32.lt_iff_toInt_lt, Int32.le_iff_toInt_le, z_0, z_1, z_5, z_6, z_7, z_9, z_10, z_11, z_13, z_20, z_41] at c_1 c_2 c_4 ⊢; omega⟩, rfl, h⟩) hlocks
        · exact absurd c_5 (by decide)
      · refine lv_iconst (v := 1) hx hb d_SP_element_22 (by decide) ?_
        refine lv_goto (tgt := 27) hx hb d_SP_element_23 (by decide) ?_
        refine lv_istore_n (lv' := [(3, .int 1), (0, .ref x), (1, .int a), (2, .int w)]) hx hb d_SP_element_27 rfl hl (by decide) rfl (fun ls hl => ?_)
        refine lv_iload_n hx hb d_SP_element_28 rfl (lv_at hl 0 rfl) ?_
        refine lv_if_eq (tgt := 54) hx hb d_SP_element_29 (by decide) (fun c_6 => ?_) (fun c_6 => ?_)
        · exact absurd c_6 (by decide)
        · refine lv_iload_n hx hb d_SP_element_32 rfl (lv_at hl 2 rfl) ?_
          refine lv_if_lt (tgt := 54) hx hb d_SP_element_33 (by decide) (fun c_7 => ?_) (fun c_7 => ?_)
          · exact te_throw hx hb (te_tr hfl B.admits) (own := "ScholarsPress") (cls := x_IAE) (names := ["java/lang/RuntimeException", "java/lang/Exception"]) (iN := iN_IAE) (ic := ic_IAE) hown xf_IAE xn (te_own hS0 hB0 hb0 xo_IAE xh_IAE) (hts _ xl_IAE) (hts _ xi_IAE) (BodyLoose.noHandlers B (hw0 _ List.mem_cons_self)) (hl.1.trans hml.symm) (Nat.le_of_ble_eq_true rfl) (Nat.le_of_ble_eq_true rfl) (Nat.lt_of_sub_pos (by decide)) (Nat.le_of_ble_eq_true rfl) d_SP_element_54 d_SP_element_57 d_SP_element_58 d_SP_element_61 (Nat.le_refl _) (fun t a h => Or.inr ⟨x_IAE, a, Or.inl ⟨rfl, by simp only [Int32.lt_iff_toInt_lt, Int32.le_iff_toInt_le, z_0, z_1, z_5, z_6, z_7, z_9, z_10, z_11, z_13, z_20, z_41] at c_1 c_2 c_4 c_7 ⊢; omega⟩, rfl, h⟩) hlocks
          · refine lv_aload_n hx hb d_SP_element_36 rfl (lv_at hl 1 rfl) ?_
            refine va_get (D := (dC, dI)) (ci := 0) (v := .null) (C := "ScholarsPress") (T := F_SP) (N := 21) hx hb hts in_SP hown hK hP 0 rfl rfl 4 (by decide) (hts (.fieldLink "ScholarsPress" 135 "ScholarsPress" "sourceNow" "LScholarsPress$Source;") k_504) (fun _ h9 => h9) rfl d_SP_element_37 ?_
            refine lv_ifnullN (tgt := 62) hx hb d_SP_element_40 (by decide) ?_
            refine lv_aload_n hx hb d_SP_element_62 rfl (lv_at hl 1 rfl) ?_
            refine va_get (D := (dC, dI)) (ci := 0) (v := .null) (C := "ScholarsPress") (T := F_SP) (N := 21) hx hb hts in_SP hown hK hP 0 rfl rfl 4 (by decide) (hts (.fieldLink "ScholarsPress" 135 "ScholarsPress" "sourceNow" "LScholarsPress$Source;") k_504) (fun _ h9 => h9) rfl d_SP_element_63 ?_
            refine lv_ifnonnullN hx hb d_SP_element_66 ?_
            exact te_throw hx hb (te_tr hfl B.admits) (own := "ScholarsPress") (cls := x_ISE) (names := ["java/lang/RuntimeException", "java/lang/Exception"]) (iN := iN_ISE) (ic := ic_ISE) hown xf_ISE xn (te_own hS0 hB0 hb0 xo_ISE xh_ISE) (hts _ xl_ISE) (hts _ xi_ISE) (BodyLoose.noHandlers B (hw0 _ List.mem_cons_self)) (hl.1.trans hml.symm) (Nat.le_of_ble_eq_true rfl) (Nat.le_of_ble_eq_true rfl) (Nat.lt_of_sub_pos (by decide)) (Nat.le_of_ble_eq_true rfl) d_SP_element_69 d_SP_element_72 d_SP_element_73 d_SP_element_76 (Nat.le_refl _) (fun t a h => Or.inr ⟨x_ISE, a, Or.inr (⟨rfl, by simp only [Int32.lt_iff_toInt_lt, Int32.le_iff_toInt_le, z_0, z_1, z_5, z_6, z_7, z_9, z_10, z_11, z_13, z_20, z_41] at c_1 c_2 c_4 c_7 ⊢; omega⟩), rfl, h⟩) hlocks
  · refine lv_iload_n hx hb d_SP_element_4 rfl (lv_at hl 2 rfl) ?_
    refine lv_bipush (v := 7) hx hb d_SP_element_5 (by decide) ?_
    refine lv_icmp_le (tgt := 22) hx hb d_SP_element_7 (by decide) (fun c_8 => ?_) (fun c_8 => ?_)
    · refine lv_iconst (v := 1) hx hb d_SP_element_22 (by decide) ?_
      refine lv_goto (tgt := 27) hx hb d_SP_element_23 (by decide) ?_
      refine lv_istore_n (lv' := [(3, .int 1), (0, .ref x), (1, .int a), (2, .int w)]) hx hb d_SP_element_27 rfl hl (by decide) rfl (fun ls hl => ?_)
      refine lv_iload_n hx hb d_SP_element_28 rfl (lv_at hl 0 rfl) ?_
      refine lv_if_eq (tgt := 54) hx hb d_SP_element_29 (by decide) (fun c_9 => ?_) (fun c_9 => ?_)
      · exact absurd c_9 (by decide)
      · refine lv_iload_n hx hb d_SP_element_32 rfl (lv_at hl 2 rfl) ?_
        refine lv_if_lt (tgt := 54) hx hb d_SP_element_33 (by decide) (fun c_10 => ?_) (fun c_10 => ?_)
        · exact te_throw hx hb (te_tr hfl B.admits) (own := "ScholarsPress") (cls := x_IAE) (names := ["java/lang/RuntimeException", "java/lang/Exception"]) (iN := iN_IAE) (ic := ic_IAE) hown xf_IAE xn (te_own hS0 hB0 hb0 xo_IAE xh_IAE) (hts _ xl_IAE) (hts _ xi_IAE) (BodyLoose.noHandlers B (hw0 _ List.mem_cons_self)) (hl.1.trans hml.symm) (Nat.le_of_ble_eq_true rfl) (Nat.le_of_ble_eq_true rfl) (Nat.lt_of_sub_pos (by decide)) (Nat.le_of_ble_eq_true rfl) d_SP_element_54 d_SP_element_57 d_SP_element_58 d_SP_element_61 (Nat.le_refl _) (fun t a h => Or.inr ⟨x_IAE, a, Or.inl ⟨rfl, by simp only [Int32.lt_iff_toInt_lt, Int32.le_iff_toInt_le, z_0, z_1, z_5, z_6, z_7, z_9, z_10, z_11, z_13, z_20, z_41] at c_1 c_8 c_10 ⊢; omega⟩, rfl, h⟩) hlocks
        · refine lv_aload_n hx hb d_SP_element_36 rfl (lv_at hl 1 rfl) ?_
          refine va_get (D := (dC, dI)) (ci := 0) (v := .null) (C := "ScholarsPress") (T := F_SP) (N := 21) hx hb hts in_SP hown hK hP 0 rfl rfl 4 (by decide) (hts (.fieldLink "ScholarsPress" 135 "ScholarsPress" "sourceNow" "LScholarsPress$Source;") k_504) (fun _ h9 => h9) rfl d_SP_element_37 ?_
          refine lv_ifnullN (tgt := 62) hx hb d_SP_element_40 (by decide) ?_
          refine lv_aload_n hx hb d_SP_element_62 rfl (lv_at hl 1 rfl) ?_
          refine va_get (D := (dC, dI)) (ci := 0) (v := .null) (C := "ScholarsPress") (T := F_SP) (N := 21) hx hb hts in_SP hown hK hP 0 rfl rfl 4 (by decide) (hts (.fieldLink "ScholarsPress" 135 "ScholarsPress" "sourceNow" "LScholarsPress$Source;") k_504) (fun _ h9 => h9) rfl d_SP_element_63 ?_
          refine lv_ifnonnullN hx hb d_SP_element_66 ?_
          exact te_throw hx hb (te_tr hfl B.admits) (own := "ScholarsPress") (cls := x_ISE) (names := ["java/lang/RuntimeException", "java/lang/Exception"]) (iN := iN_ISE) (ic := ic_ISE) hown xf_ISE xn (te_own hS0 hB0 hb0 xo_ISE xh_ISE) (hts _ xl_ISE) (hts _ xi_ISE) (BodyLoose.noHandlers B (hw0 _ List.mem_cons_self)) (hl.1.trans hml.symm) (Nat.le_of_ble_eq_true rfl) (Nat.le_of_ble_eq_true rfl) (Nat.lt_of_sub_pos (by decide)) (Nat.le_of_ble_eq_true rfl) d_SP_element_69 d_SP_element_72 d_SP_element_73 d_SP_element_76 (Nat.le_refl _) (fun t a h => Or.inr ⟨x_ISE, a, Or.inr (⟨rfl, by simp only [Int32.lt_iff_toInt_lt, Int32.le_iff_toInt_le, z_0, z_1, z_5, z_6, z_7, z_9, z_10, z_11, z_13, z_20, z_41] at c_1 c_8 c_10 ⊢; omega⟩), rfl, h⟩) hlocks
    · refine lv_iload_n hx hb d_SP_element_10 rfl (lv_at hl 2 rfl) ?_
      refine lv_bipush (v := 20) hx hb d_SP_element_11 (by decide) ?_
      refine lv_icmp_lt (tgt := 26) hx hb d_SP_element_13 (by decide) (fun c_11 => ?_) (fun c_11 => ?_)
      · refine lv_iconst (v := 0) hx hb d_SP_element_26 (by decide) ?_
        refine lv_istore_n (lv' := [(3, .int 0), (0, .ref x), (1, .int a), (2, .int w)]) hx hb d_SP_element_27 rfl hl (by decide) rfl (fun ls hl => ?_)
        refine lv_iload_n hx hb d_SP_element_28 rfl (lv_at hl 0 rfl) ?_
        refine lv_if_eq (tgt := 54) hx hb d_SP_element_29 (by decide) (fun c_12 => ?_) (fun c_12 => ?_)
        · exact te_throw hx hb (te_tr hfl B.admits) (own := "ScholarsPress") (cls := x_IAE) (names := ["java/lang/RuntimeException", "java/lang/Exception"]) (iN := iN_IAE) (ic := ic_IAE) hown xf_IAE xn (te_own hS0 hB0 hb0 xo_IAE xh_IAE) (hts _ xl_IAE) (hts _ xi_IAE) (BodyLoose.noHandlers B (hw0 _ List.mem_cons_self)) (hl.1.trans hml.symm) (Nat.le_of_ble_eq_true rfl) (Nat.le_of_ble_eq_true rfl) (Nat.lt_of_sub_pos (by decide)) (Nat.le_of_ble_eq_true rfl) d_SP_element_54 d_SP_element_57 d_SP_element_58 d_SP_element_61 (Nat.le_refl _) (fun t a h => Or.inr ⟨x_IAE, a, Or.inl ⟨rfl, by simp only [Int32.lt_iff_toInt_lt, Int32.le_iff_toInt_le, z_0, z_1, z_5, z_6, z_7, z_9, z_10, z_11, z_13, z_20, z_41] at c_1 c_8 c_11 ⊢; omega⟩, rfl, h⟩) hlocks
        · exact absurd c_12 (by decide)
      · refine lv_iload_n hx hb d_SP_element_16 rfl (lv_at hl 2 rfl) ?_
        refine lv_bipush (v := 41) hx hb d_SP_element_17 (by decide) ?_
        refine lv_icmp_gt (tgt := 26) hx hb d_SP_element_19 (by decide) (fun c_13 => ?_) (fun c_13 => ?_)
        · refine lv_iconst (v := 0) hx hb d_SP_element_26 (by decide) ?_
          refine lv_istore_n (lv' := [(3, .int 0), (0, .ref x), (1, .int a), (2, .int w)]) hx hb d_SP_element_27 rfl hl (by decide) rfl (fun ls hl => ?_)
          refine lv_iload_n hx hb d_SP_element_28 rfl (lv_at hl 0 rfl) ?_
          refine lv_if_eq (tgt := 54) hx hb d_SP_element_29 (by decide) (fun c_14 => ?_) (fun c_14 => ?_)
          · exact te_throw hx hb (te_tr hfl B.admits) (own := "ScholarsPress") (cls := x_IAE) (names := ["java/lang/RuntimeException", "java/lang/Exception"]) (iN := iN_IAE) (ic := ic_IAE) hown xf_IAE xn (te_own hS0 hB0 hb0 xo_IAE xh_IAE) (hts _ xl_IAE) (hts _ xi_IAE) (BodyLoose.noHandlers B (hw0 _ List.mem_cons_self)) (hl.1.trans hml.symm) (Nat.le_of_ble_eq_true rfl) (Nat.le_of_ble_eq_true rfl) (Nat.lt_of_sub_pos (by decide)) (Nat.le_of_ble_eq_true rfl) d_SP_element_54 d_SP_element_57 d_SP_element_58 d_SP_element_61 (Nat.le_refl _) (fun t a h => Or.inr ⟨x_IAE, a, Or.inl ⟨rfl, by simp only [Int32.lt_iff_toInt_lt, Int32.le_iff_toInt_le, z_0, z_1, z_5, z_6, z_7, z_9, z_10, z_11, z_13, z_20, z_41] at c_1 c_8 c_11 c_13 ⊢; omega⟩, rfl, h⟩) hlocks
          · exact absurd c_14 (by decide)
        · refine lv_iconst (v := 1) hx hb d_SP_element_22 (by decide) ?_
          refine lv_goto (tgt := 27) hx hb d_SP_element_23 (by decide) ?_
          refine lv_istore_n (lv' := [(3, .int 1), (0, .ref x), (1, .int a), (2, .int w)]) hx hb d_SP_element_27 rfl hl (by decide) rfl (fun ls hl => ?_)
          refine lv_iload_n hx hb d_SP_element_28 rfl (lv_at hl 0 rfl) ?_
          refine lv_if_eq (tgt := 54) hx hb d_SP_element_29 (by decide) (fun c_15 => ?_) (fun c_15 => ?_)
          · exact absurd c_15 (by decide)
          · refine lv_iload_n hx hb d_SP_element_32 rfl (lv_at hl 2 rfl) ?_
            refine lv_if_lt (tgt := 54) hx hb d_SP_element_33 (by decide) (fun c_16 => ?_) (fun c_16 => ?_)
            · exact te_throw hx hb (te_tr hfl B.admits) (own := "ScholarsPress") (cls := x_IAE) (names := ["java/lang/RuntimeException", "java/lang/Exception"]) (iN := iN_IAE) (ic := ic_IAE) hown xf_IAE xn (te_own hS0 hB0 hb0 xo_IAE xh_IAE) (hts _ xl_IAE) (hts _ xi_IAE) (BodyLoose.noHandlers B (hw0 _ List.mem_cons_self)) (hl.1.trans hml.symm) (Nat.le_of_ble_eq_true rfl) (Nat.le_of_ble_eq_true rfl) (Nat.lt_of_sub_pos (by decide)) (Nat.le_of_ble_eq_true rfl) d_SP_element_54 d_SP_element_57 d_SP_element_58 d_SP_element_61 (Nat.le_refl _) (fun t a h => Or.inr ⟨x_IAE, a, Or.inl ⟨rfl, by simp only [Int32.lt_iff_toInt_lt, Int32.le_iff_toInt_le, z_0, z_1, z_5, z_6, z_7, z_9, z_10, z_11, z_13, z_20, z_41] at c_1 c_8 c_11 c_13 c_16 ⊢; omega⟩, rfl, h⟩) hlocks
            · refine lv_aload_n hx hb d_SP_element_36 rfl (lv_at hl 1 rfl) ?_
              refine va_get (D := (dC, dI)) (ci := 0) (v := .null) (C := "ScholarsPress") (T := F_SP) (N := 21) hx hb hts in_SP hown hK hP 0 rfl rfl 4 (by decide) (hts (.fieldLink "ScholarsPress" 135 "ScholarsPress" "sourceNow" "LScholarsPress$Source;") k_504) (fun _ h9 => h9) rfl d_SP_element_37 ?_
              refine lv_ifnullN (tgt := 62) hx hb d_SP_element_40 (by decide) ?_
              refine lv_aload_n hx hb d_SP_element_62 rfl (lv_at hl 1 rfl) ?_
              refine va_get (D := (dC, dI)) (ci := 0) (v := .null) (C := "ScholarsPress") (T := F_SP) (N := 21) hx hb hts in_SP hown hK hP 0 rfl rfl 4 (by decide) (hts (.fieldLink "ScholarsPress" 135 "ScholarsPress" "sourceNow" "LScholarsPress$Source;") k_504) (fun _ h9 => h9) rfl d_SP_element_63 ?_
              refine lv_ifnonnullN hx hb d_SP_element_66 ?_
              exact te_throw hx hb (te_tr hfl B.admits) (own := "ScholarsPress") (cls := x_ISE) (names := ["java/lang/RuntimeException", "java/lang/Exception"]) (iN := iN_ISE) (ic := ic_ISE) hown xf_ISE xn (te_own hS0 hB0 hb0 xo_ISE xh_ISE) (hts _ xl_ISE) (hts _ xi_ISE) (BodyLoose.noHandlers B (hw0 _ List.mem_cons_self)) (hl.1.trans hml.symm) (Nat.le_of_ble_eq_true rfl) (Nat.le_of_ble_eq_true rfl) (Nat.lt_of_sub_pos (by decide)) (Nat.le_of_ble_eq_true rfl) d_SP_element_69 d_SP_element_72 d_SP_element_73 d_SP_element_76 (Nat.le_refl _) (fun t a h => Or.inr ⟨x_ISE, a, Or.inr (⟨rfl, by simp only [Int32.lt_iff_toInt_lt, Int32.le_iff_toInt_le, z_0, z_1, z_5, z_6, z_7, z_9, z_10, z_11, z_13, z_20, z_41] at c_1 c_8 c_11 c_13 c_16 ⊢; omega⟩), rfl, h⟩) hlocks
set_option maxHeartbeats 4000000 in
set_option maxRecDepth 100000 in
/-- line: nothing is SET -/
theorem c_SP_line {l : Launch} (hfl : l.flags = flags0) {s0 : State} (hS0 : te_S0 s0) (dC : Nat → ClassId) (dI : Nat → Nat → Nat) (x tp sg st ft hy : Nat) (a w : Int32) (sz : Nat) : te_Met l y_SP_line [w_SP_line] ({ frames := 6, cells := 1, slots := 6, locals := 200 }) (va_Pc [.ref x, .int a, .int w] (fun U => U.heap.size = sz ∧ tb U ∧ te_Base s0 U ∧ va_P (dC, dI) classes [(x, .inr (0, [.ref tp, .int 0, .int ((-1)), .ref sg, .null, .null, .ref st, .null, .ref ft, .null, .ref hy, .null, .null, .int 0, .null, .null, .null, .null, .null, .null, .int 0]))] U.heap ∧ va_K (dC, dI) classes [] U ∧ va_D (fun _ => True) [(x, .inr (0, [.ref tp, .int 0, .int ((-1)), .ref sg, .null, .null, .ref st, .null, .ref ft, .null, .ref hy, .null, .null, .int 0, .null, .null, .null, .null, .null, .null, .int 0]))])) (te_Qx (va_Qi (fun (r : Int32) (_ : Unit) => False) (fun _ _ => True) (va_A [(x, .inr (0, [.ref tp, .int 0, .int ((-1)), .ref sg, .null, .null, .ref st, .null, .ref ft, .null, .ref hy, .null, .null, .int 0, .null, .null, .null, .null, .null, .null, .int 0]))] sz)) (fun cls => (cls = x_IAE ∧ ¬ (0 ≤ w.toInt ∧ w.toInt ≤ 6)) ∨ (cls = x_ISE ∧ (0 ≤ w.toInt ∧ w.toInt ≤ 6)))) 1 6 (va_A [(x, .inr (0, [.ref tp, .int 0, .int ((-1)), .ref sg, .null, .null, .ref st, .null, .ref ft, .null, .ref hy, .null, .null, .int 0, .null, .null, .null, .null, .null, .null, .int 0]))] sz) := by
  refine te_ofW (cc := b_SP_line) (maxL := 6) (ret := (some .int)) (by decide) rfl ?_
  intro p e s m args below meth c s₁ B hml hv
  obtain ⟨rfl, hsz, hb0, hB0, hP, hK, hD0⟩ := hv
  have hx := B.exec
  have hb := B.bytes
  have hr := B.returns
  have hw0 := atoms_spec (ws := [w_SP_line]) B.pre
  have hts : ∀ wq ∈ tt, wq.before ([.ref x, .int a, .int w] : List Value).toArray s = true := hb0.hts
  have hown : s.vm.findClass "ScholarsPress" = some m.cls := findClass_of_methodNamed B.named
  have hlocks := B.notSynchronized
  subst hsz
  have hD := hD0.self (sz := s.heap.size)
  generalize hAe : va_A [(x, .inr (0, [.ref tp, .int 0, .int ((-1)), .ref sg, .null, .null, .ref st, .null, .ref ft, .null, .ref hy, .null, .null, .int 0, .null, .null, .null, .null, .null, .null, .int 0]))] s.heap.size = A at hD ⊢
  have hA : ∀ q : Nat, s.heap.size ≤ q → A q := fun q h => by rw [← hAe]; exact Or.inr h
  have hS : va_S A s.heap s.heap [] := va_S.rf
  have hP : va_P (dC, dI) classes [(x, .inr (0, [.ref tp, .int 0, .int ((-1)), .ref sg, .null, .null, .ref st, .null, .ref ft, .null, .ref hy, .null, .null, .int 0, .null, .null, .null, .null, .null, .null, .int 0]))] s.heap := hP
  have hl := lv_entry ([.ref x, .int a, .int w]) (n := 6) (Nat.le_of_ble_eq_true rfl)
  rw [lg_entry_eq]
  generalize (lg_sl ([.ref x, .int a, .int w]) ++ List.replicate (6 - (lg_sl ([.ref x, .int a, .int w])).length) Slot.unset).toArray = ls at hl ⊢
  have hl : lv_has ls 6 [(0, .ref x), (1, .int a), (2, .int w)] := hl
  refine lv_iload_n hx hb d_SP_line_0 rfl (lv_at hl 2 rfl) ?_
  refine lv_if_lt (tgt := 10) hx hb d_SP_line_1 (by decide) (fun c_1 => ?_) (fun c_1 => ?_)
  · exact te_throw hx hb (te_tr hfl B.admits) (own := "ScholarsPress") (cls := x_IAE) (names := ["java/lang/RuntimeException", "java/lang/Exception"]) (iN := iN_IAE) (ic := ic_IAE) hown xf_IAE xn (te_own hS0 hB0 hb0 xo_IAE xh_IAE) (hts _ xl_IAE) (hts _ xi_IAE) (BodyLoose.noHandlers B (hw0 _ List.mem_cons_self)) (hl.1.trans hml.symm) (Nat.le_of_ble_eq_true rfl) (Nat.le_of_ble_eq_true rfl) (Nat.lt_of_sub_pos (by decide)) (Nat.le_of_ble_eq_true rfl) d_SP_line_10 d_SP_line_13 d_SP_line_14 d_SP_line_17 (Nat.le_refl _) (fun t a h => Or.inr ⟨x_IAE, a, Or.inl ⟨rfl, by simp only [Int32.lt_iff_toInt_lt, Int32.le_iff_toInt_le, z_0, z_1, z_5, z_6, z_7, z_9, z_10, z_11, z_13, z_20, z_41] at c_1 ⊢; omega⟩, rfl, h⟩) hlocks
  · refine lv_iload_n hx hb d_SP_line_4 rfl (lv_at hl 2 rfl) ?_
    refine lv_bipush (v := 6) hx hb d_SP_line_5 (by decide) ?_
    refine lv_icmp_le (tgt := 18) hx hb d_SP_line_7 (by decide) (fun c_2 => ?_) (fun c_2 => ?_)
    · refine lv_aload_n hx hb d_SP_line_18 rfl (lv_at hl 0 rfl) ?_
      refine va_get (D := (dC, dI)) (ci := 0) (v := .null) (C := "ScholarsPress") (T := F_SP) (N := 21) hx hb hts in_SP hown hK hP 0 rfl rfl 14 (by decide) (hts (.fieldLink "ScholarsPress" 172 "ScholarsPress" "pagesNow" "LScholarsPress$Pages;") k_514) (fun _ h9 => h9) rfl d_SP_line_19 ?_
      refine lv_ifnonnullN hx hb d_SP_line_22 ?_
      exact te_throw hx hb (te_tr hfl B.admits) (own := "ScholarsPress") (cls := x_ISE) (names := ["java/lang/RuntimeException", "java/lang/Exception"]) (iN := iN_ISE) (ic := ic_ISE) hown xf_ISE xn (te_own hS0 hB0 hb0 xo_ISE xh_ISE) (hts _ xl_ISE) (hts _ xi_ISE) (BodyLoose.noHandlers B (hw0 _ List.mem_cons_self)) (hl.1.trans hml.symm) (Nat.le_of_ble_eq_true rfl) (Nat.le_of_ble_eq_true rfl) (Nat.lt_of_sub_pos (by decide)) (Nat.le_of_ble_eq_true rfl) d_SP_line_25 d_SP_line_28 d_SP_line_29 d_SP_line_32 (Nat.le_refl _) (fun t a h => Or.inr ⟨x_ISE, a, Or.inr (⟨rfl, by simp only [Int32.lt_iff_toInt_lt, Int32.le_iff_toInt_le, z_0, z_1, z_5, z_6, z_7, z_9, z_10, z_11, z_13, z_20, z_41] at c_1 c_2 ⊢; omega⟩), rfl, h⟩) hlocks
    · exact te_throw hx hb (te_tr hfl B.admits) (own := "ScholarsPress") (cls := x_IAE) (names := ["java/lang/RuntimeException", "java/lang/Exception"]) (iN := iN_IAE) (ic := ic_IAE) hown xf_IAE xn (te_own hS0 hB0 hb0 xo_IAE xh_IAE) (hts _ xl_IAE) (hts _ xi_IAE) (BodyLoose.noHandlers B (hw0 _ List.mem_cons_self)) (hl.1.trans hml.symm) (Nat.le_of_ble_eq_true rfl) (Nat.le_of_ble_eq_true rfl) (Nat.lt_of_sub_pos (by decide)) (Nat.le_of_ble_eq_true rfl) d_SP_line_10 d_SP_line_13 d_SP_line_14 d_SP_line_17 (Nat.le_refl _) (fun t a h => Or.inr ⟨x_IAE, a, Or.inl ⟨rfl, by simp only [Int32.lt_iff_toInt_lt, Int32.le_iff_toInt_le, z_0, z_1, z_5, z_6, z_7, z_9, z_10, z_11, z_13, z_20, z_41] at c_1 c_2 ⊢; omega⟩, rfl, h⟩) hlocks
set_option maxHeartbeats 4000000 in
set_option maxRecDepth 100000 in
/-- spot: nothing is SET -/
theorem c_SP_spot {l : Launch} (hfl : l.flags = flags0) {s0 : State} (hS0 : te_S0 s0) (dC : Nat → ClassId) (dI : Nat → Nat → Nat) (x tp sg st ft hy : Nat) (a w : Int32) (sz : Nat) : te_Met l y_SP_spot [w_SP_spot] ({ frames := 6, cells := 1, slots := 6, locals := 200 }) (va_Pc [.ref x, .int a, .int w] (fun U => U.heap.size = sz ∧ tb U ∧ te_Base s0 U ∧ va_P (dC, dI) classes [(x, .inr (0, [.ref tp, .int 0, .int ((-1)), .ref sg, .null, .null, .ref st, .null, .ref ft, .null, .ref hy, .null, .null, .int 0, .null, .null, .null, .null, .null, .null, .int 0]))] U.heap ∧ va_K (dC, dI) classes [] U ∧ va_D (fun _ => True) [(x, .inr (0, [.ref tp, .int 0, .int ((-1)), .ref sg, .null, .null, .ref st, .null, .ref ft, .null, .ref hy, .null, .null, .int 0, .null, .null, .null, .null, .null, .null, .int 0]))])) (te_Qx (va_Ql (fun (r : Int64) (_ : Unit) => False) (fun _ _ => True) (va_A [(x, .inr (0, [.ref tp, .int 0, .int ((-1)), .ref sg, .null, .null, .ref st, .null, .ref ft, .null, .ref hy, .null, .null, .int 0, .null, .null, .null, .null, .null, .null, .int 0]))] sz)) (fun cls => cls = x_ISE ∧ True)) 1 6 (va_A [(x, .inr (0, [.ref tp, .int 0, .int ((-1)), .ref sg, .null, .null, .ref st, .null, .ref ft, .null, .ref hy, .null, .null, .int 0, .null, .null, .null, .null, .null, .null, .int 0]))] sz) := by
  refine te_ofW (cc := b_SP_spot) (maxL := 5) (ret := (some .long)) (by decide) rfl ?_
  intro p e s m args below meth c s₁ B hml hv
  obtain ⟨rfl, hsz, hb0, hB0, hP, hK, hD0⟩ := hv
  have hx := B.exec
  have hb := B.bytes
  have hr := B.returns
  have hw0 := atoms_spec (ws := [w_SP_spot]) B.pre
  have hts : ∀ wq ∈ tt, wq.before ([.ref x, .int a, .int w] : List Value).toArray s = true := hb0.hts
  have hown : s.vm.findClass "ScholarsPress" = some m.cls := findClass_of_methodNamed B.named
  have hlocks := B.notSynchronized
  subst hsz
  have hD := hD0.self (sz := s.heap.size)
  generalize hAe : va_A [(x, .inr (0, [.ref tp, .int 0, .int ((-1)), .ref sg, .null, .null, .ref st, .null, .ref ft, .null, .ref hy, .null, .null, .int 0, .null, .null, .null, .null, .null, .null, .int 0]))] s.heap.size = A at hD ⊢
  have hA : ∀ q : Nat, s.heap.size ≤ q → A q := fun q h => by rw [← hAe]; exact Or.inr h
  have hS : va_S A s.heap s.heap [] := va_S.rf
  have hP : va_P (dC, dI) classes [(x, .inr (0, [.ref tp, .int 0, .int ((-1)), .ref sg, .null, .null, .ref st, .null, .ref ft, .null, .ref hy, .null, .null, .int 0, .null, .null, .null, .null, .null, .null, .int 0]))] s.heap := hP
  have hl := lv_entry ([.ref x, .int a, .int w]) (n := 5) (Nat.le_of_ble_eq_true rfl)
  rw [lg_entry_eq]
  generalize (lg_sl ([.ref x, .int a, .int w]) ++ List.replicate (5 - (lg_sl ([.ref x, .int a, .int w])).length) Slot.unset).toArray = ls at hl ⊢
  have hl : lv_has ls 5 [(0, .ref x), (1, .int a), (2, .int w)] := hl
  refine lv_aload_n hx hb d_SP_spot_0 rfl (lv_at hl 0 rfl) ?_
  refine va_get (D := (dC, dI)) (ci := 0) (v := .null) (C := "ScholarsPress") (T := F_SP) (N := 21) hx hb hts in_SP hown hK hP 0 rfl rfl 14 (by decide) (hts (.fieldLink "ScholarsPress" 172 "ScholarsPress" "pagesNow" "LScholarsPress$Pages;") k_514) (fun _ h9 => h9) rfl d_SP_spot_1 ?_
  refine lv_ifnonnullN hx hb d_SP_spot_4 ?_
  exact te_throw hx hb (te_tr hfl B.admits) (own := "ScholarsPress") (cls := x_ISE) (names := ["java/lang/RuntimeException", "java/lang/Exception"]) (iN := iN_ISE) (ic := ic_ISE) hown xf_ISE xn (te_own hS0 hB0 hb0 xo_ISE xh_ISE) (hts _ xl_ISE) (hts _ xi_ISE) (BodyLoose.noHandlers B (hw0 _ List.mem_cons_self)) (hl.1.trans hml.symm) (Nat.le_of_ble_eq_true rfl) (Nat.le_of_ble_eq_true rfl) (Nat.lt_of_sub_pos (by decide)) (Nat.le_of_ble_eq_true rfl) d_SP_spot_7 d_SP_spot_10 d_SP_spot_11 d_SP_spot_14 (Nat.le_refl _) (fun t a h => Or.inr ⟨x_ISE, a, ⟨rfl, trivial⟩, rfl, h⟩) hlocks
set_option maxHeartbeats 4000000 in
set_option maxRecDepth 100000 in
/-- paragraph: nothing is SET -/
theorem c_SP_paragraph {l : Launch} (hfl : l.flags = flags0) {s0 : State} (hS0 : te_S0 s0) (dC : Nat → ClassId) (dI : Nat → Nat → Nat) (x tp sg st ft hy : Nat) (a w : Int32) (sz : Nat) : te_Met l y_SP_paragraph [w_SP_paragraph] ({ frames := 6, cells := 1, slots := 6, locals := 200 }) (va_Pc [.ref x, .int a, .int w] (fun U => U.heap.size = sz ∧ tb U ∧ te_Base s0 U ∧ va_P (dC, dI) classes [(x, .inr (0, [.ref tp, .int 0, .int ((-1)), .ref sg, .null, .null, .ref st, .null, .ref ft, .null, .ref hy, .null, .null, .int 0, .null, .null, .null, .null, .null, .null, .int 0]))] U.heap ∧ va_K (dC, dI) classes [] U ∧ va_D (fun _ => True) [(x, .inr (0, [.ref tp, .int 0, .int ((-1)), .ref sg, .null, .null, .ref st, .null, .ref ft, .null, .ref hy, .null, .null, .int 0, .null, .null, .null, .null, .null, .null, .int 0]))])) (te_Qx (va_Ql (fun (r : Int64) (_ : Unit) => False) (fun _ _ => True) (va_A [(x, .inr (0, [.ref tp, .int 0, .int ((-1)), .ref sg, .null, .null, .ref st, .null, .ref ft, .null, .ref hy, .null, .null, .int 0, .null, .null, .null, .null, .null, .null, .int 0]))] sz)) (fun cls => (cls = x_IAE ∧ ¬ (0 ≤ w.toInt ∧ w.toInt ≤ 6)) ∨ (cls = x_ISE ∧ (0 ≤ w.toInt ∧ w.toInt ≤ 6)))) 1 6 (va_A [(x, .inr (0, [.ref tp, .int 0, .int ((-1)), .ref sg, .null, .null, .ref st, .null, .ref ft, .null, .ref hy, .null, .null, .int 0, .null, .null, .null, .null, .null, .null, .int 0]))] sz) := by
  refine te_ofW (cc := b_SP_paragraph) (maxL := 4) (ret := (some .long)) (by decide) rfl ?_
  intro p e s m args below meth c s₁ B hml hv
  obtain ⟨rfl, hsz, hb0, hB0, hP, hK, hD0⟩ := hv
  have hx := B.exec
  have hb := B.bytes
  have hr := B.returns
  have hw0 := atoms_spec (ws := [w_SP_paragraph]) B.pre
  have hts : ∀ wq ∈ tt, wq.before ([.ref x, .int a, .int w] : List Value).toArray s = true := hb0.hts
  have hown : s.vm.findClass "ScholarsPress" = some m.cls := findClass_of_methodNamed B.named
  have hlocks := B.notSynchronized
  subst hsz
  have hD := hD0.self (sz := s.heap.size)
  generalize hAe : va_A [(x, .inr (0, [.ref tp, .int 0, .int ((-1)), .ref sg, .null, .null, .ref st, .null, .ref ft, .null, .ref hy, .null, .null, .int 0, .null, .null, .null, .null, .null, .null, .int 0]))] s.heap.size = A at hD ⊢
  have hA : ∀ q : Nat, s.heap.size ≤ q → A q := fun q h => by rw [← hAe]; exact Or.inr h
  have hS : va_S A s.heap s.heap [] := va_S.rf
  have hP : va_P (dC, dI) classes [(x, .inr (0, [.ref tp, .int 0, .int ((-1)), .ref sg, .null, .null, .ref st, .null, .ref ft, .null, .ref hy, .null, .null, .int 0, .null, .null, .null, .null, .null, .null, .int 0]))] s.heap := hP
  have hl := lv_entry ([.ref x, .int a, .int w]) (n := 4) (Nat.le_of_ble_eq_true rfl)
  rw [lg_entry_eq]
  generalize (lg_sl ([.ref x, .int a, .int w]) ++ List.replicate (4 - (lg_sl ([.ref x, .int a, .int w])).length) Slot.unset).toArray = ls at hl ⊢
  have hl : lv_has ls 4 [(0, .ref x), (1, .int a), (2, .int w)] := hl
  refine lv_iload_n hx hb d_SP_paragraph_0 rfl (lv_at hl 2 rfl) ?_
  refine lv_if_lt (tgt := 10) hx hb d_SP_paragraph_1 (by decide) (fun c_1 => ?_) (fun c_1 => ?_)
  · exact te_throw hx hb (te_tr hfl B.admits) (own := "ScholarsPress") (cls := x_IAE) (names := ["java/lang/RuntimeException", "java/lang/Exception"]) (iN := iN_IAE) (ic := ic_IAE) hown xf_IAE xn (te_own hS0 hB0 hb0 xo_IAE xh_IAE) (hts _ xl_IAE) (hts _ xi_IAE) (BodyLoose.noHandlers B (hw0 _ List.mem_cons_self)) (hl.1.trans hml.symm) (Nat.le_of_ble_eq_true rfl) (Nat.le_of_ble_eq_true rfl) (Nat.lt_of_sub_pos (by decide)) (Nat.le_of_ble_eq_true rfl) d_SP_paragraph_10 d_SP_paragraph_13 d_SP_paragraph_14 d_SP_paragraph_17 (Nat.le_refl _) (fun t a h => Or.inr ⟨x_IAE, a, Or.inl ⟨rfl, by simp only [Int32.lt_iff_toInt_lt, Int32.le_iff_toInt_le, z_0, z_1, z_5, z_6, z_7, z_9, z_10, z_11, z_13, z_20, z_41] at c_1 ⊢; omega⟩, rfl, h⟩) hlocks
  · refine lv_iload_n hx hb d_SP_paragraph_4 rfl (lv_at hl 2 rfl) ?_
    refine lv_bipush (v := 6) hx hb d_SP_paragraph_5 (by decide) ?_
    refine lv_icmp_le (tgt := 18) hx hb d_SP_paragraph_7 (by decide) (fun c_2 => ?_) (fun c_2 => ?_)
    · refine lv_aload_n hx hb d_SP_paragraph_18 rfl (lv_at hl 0 rfl) ?_
      refine va_get (D := (dC, dI)) (ci := 0) (v := .null) (C := "ScholarsPress") (T := F_SP) (N := 21) hx hb hts in_SP hown hK hP 0 rfl rfl 14 (by decide) (hts (.fieldLink "ScholarsPress" 172 "ScholarsPress" "pagesNow" "LScholarsPress$Pages;") k_514) (fun _ h9 => h9) rfl d_SP_paragraph_19 ?_
      refine lv_ifnonnullN hx hb d_SP_paragraph_22 ?_
      exact te_throw hx hb (te_tr hfl B.admits) (own := "ScholarsPress") (cls := x_ISE) (names := ["java/lang/RuntimeException", "java/lang/Exception"]) (iN := iN_ISE) (ic := ic_ISE) hown xf_ISE xn (te_own hS0 hB0 hb0 xo_ISE xh_ISE) (hts _ xl_ISE) (hts _ xi_ISE) (BodyLoose.noHandlers B (hw0 _ List.mem_cons_self)) (hl.1.trans hml.symm) (Nat.le_of_ble_eq_true rfl) (Nat.le_of_ble_eq_true rfl) (Nat.lt_of_sub_pos (by decide)) (Nat.le_of_ble_eq_true rfl) d_SP_paragraph_25 d_SP_paragraph_28 d_SP_paragraph_29 d_SP_paragraph_32 (Nat.le_refl _) (fun t a h => Or.inr ⟨x_ISE, a, Or.inr (⟨rfl, by simp only [Int32.lt_iff_toInt_lt, Int32.le_iff_toInt_le, z_0, z_1, z_5, z_6, z_7, z_9, z_10, z_11, z_13, z_20, z_41] at c_1 c_2 ⊢; omega⟩), rfl, h⟩) hlocks
    · exact te_throw hx hb (te_tr hfl B.admits) (own := "ScholarsPress") (cls := x_IAE) (names := ["java/lang/RuntimeException", "java/lang/Exception"]) (iN := iN_IAE) (ic := ic_IAE) hown xf_IAE xn (te_own hS0 hB0 hb0 xo_IAE xh_IAE) (hts _ xl_IAE) (hts _ xi_IAE) (BodyLoose.noHandlers B (hw0 _ List.mem_cons_self)) (hl.1.trans hml.symm) (Nat.le_of_ble_eq_true rfl) (Nat.le_of_ble_eq_true rfl) (Nat.lt_of_sub_pos (by decide)) (Nat.le_of_ble_eq_true rfl) d_SP_paragraph_10 d_SP_paragraph_13 d_SP_paragraph_14 d_SP_paragraph_17 (Nat.le_refl _) (fun t a h => Or.inr ⟨x_IAE, a, Or.inl ⟨rfl, by simp only [Int32.lt_iff_toInt_lt, Int32.le_iff_toInt_le, z_0, z_1, z_5, z_6, z_7, z_9, z_10, z_11, z_13, z_20, z_41] at c_1 c_2 ⊢; omega⟩, rfl, h⟩) hlocks
set_option maxHeartbeats 4000000 in
set_option maxRecDepth 100000 in
/-- judge: nothing is SET -/
theorem c_SP_judge {l : Launch} (hfl : l.flags = flags0) {s0 : State} (hS0 : te_S0 s0) (dC : Nat → ClassId) (dI : Nat → Nat → Nat) (x tp sg st ft hy : Nat) (a : Int32) (sz : Nat) : te_Met l y_SP_judge [w_SP_judge] ({ frames := 6, cells := 1, slots := 6, locals := 200 }) (va_Pc [.ref x, .int a] (fun U => U.heap.size = sz ∧ tb U ∧ te_Base s0 U ∧ va_P (dC, dI) classes [(x, .inr (0, [.ref tp, .int 0, .int ((-1)), .ref sg, .null, .null, .ref st, .null, .ref ft, .null, .ref hy, .null, .null, .int 0, .null, .null, .null, .null, .null, .null, .int 0]))] U.heap ∧ va_K (dC, dI) classes [] U ∧ va_D (fun _ => True) [(x, .inr (0, [.ref tp, .int 0, .int ((-1)), .ref sg, .null, .null, .ref st, .null, .ref ft, .null, .ref hy, .null, .null, .int 0, .null, .null, .null, .null, .null, .null, .int 0]))])) (te_Qx (va_Ql (fun (r : Int64) (_ : Unit) => False) (fun _ _ => True) (va_A [(x, .inr (0, [.ref tp, .int 0, .int ((-1)), .ref sg, .null, .null, .ref st, .null, .ref ft, .null, .ref hy, .null, .null, .int 0, .null, .null, .null, .null, .null, .null, .int 0]))] sz)) (fun cls => cls = x_ISE ∧ True)) 1 6 (va_A [(x, .inr (0, [.ref tp, .int 0, .int ((-1)), .ref sg, .null, .null, .ref st, .null, .ref ft, .null, .ref hy, .null, .null, .int 0, .null, .null, .null, .null, .null, .null, .int 0]))] sz) := by
  refine te_ofW (cc := b_SP_judge) (maxL := 3) (ret := (some .long)) (by decide) rfl ?_
  intro p e s m args below meth c s₁ B hml hv
  obtain ⟨rfl, hsz, hb0, hB0, hP, hK, hD0⟩ := hv
  have hx := B.exec
  have hb := B.bytes
  have hr := B.returns
  have hw0 := atoms_spec (ws := [w_SP_judge]) B.pre
  have hts : ∀ wq ∈ tt, wq.before ([.ref x, .int a] : List Value).toArray s = true := hb0.hts
  have hown : s.vm.findClass "ScholarsPress" = some m.cls := findClass_of_methodNamed B.named
  have hlocks := B.notSynchronized
  subst hsz
  have hD := hD0.self (sz := s.heap.size)
  generalize hAe : va_A [(x, .inr (0, [.ref tp, .int 0, .int ((-1)), .ref sg, .null, .null, .ref st, .null, .ref ft, .null, .ref hy, .null, .null, .int 0, .null, .null, .null, .null, .null, .null, .int 0]))] s.heap.size = A at hD ⊢
  have hA : ∀ q : Nat, s.heap.size ≤ q → A q := fun q h => by rw [← hAe]; exact Or.inr h
  have hS : va_S A s.heap s.heap [] := va_S.rf
  have hP : va_P (dC, dI) classes [(x, .inr (0, [.ref tp, .int 0, .int ((-1)), .ref sg, .null, .null, .ref st, .null, .ref ft, .null, .ref hy, .null, .null, .int 0, .null, .null, .null, .null, .null, .null, .int 0]))] s.heap := hP
  have hl := lv_entry ([.ref x, .int a]) (n := 3) (Nat.le_of_ble_eq_true rfl)
  rw [lg_entry_eq]
  generalize (lg_sl ([.ref x, .int a]) ++ List.replicate (3 - (lg_sl ([.ref x, .int a])).length) Slot.unset).toArray = ls at hl ⊢
  have hl : lv_has ls 3 [(0, .ref x), (1, .int a)] := hl
  refine lv_aload_n hx hb d_SP_judge_0 rfl (lv_at hl 0 rfl) ?_
  refine va_get (D := (dC, dI)) (ci := 0) (v := .null) (C := "ScholarsPress") (T := F_SP) (N := 21) hx hb hts in_SP hown hK hP 0 rfl rfl 14 (by decide) (hts (.fieldLink "ScholarsPress" 172 "ScholarsPress" "pagesNow" "LScholarsPress$Pages;") k_514) (fun _ h9 => h9) rfl d_SP_judge_1 ?_
  refine lv_ifnonnullN hx hb d_SP_judge_4 ?_
  exact te_throw hx hb (te_tr hfl B.admits) (own := "ScholarsPress") (cls := x_ISE) (names := ["java/lang/RuntimeException", "java/lang/Exception"]) (iN := iN_ISE) (ic := ic_ISE) hown xf_ISE xn (te_own hS0 hB0 hb0 xo_ISE xh_ISE) (hts _ xl_ISE) (hts _ xi_ISE) (BodyLoose.noHandlers B (hw0 _ List.mem_cons_self)) (hl.1.trans hml.symm) (Nat.le_of_ble_eq_true rfl) (Nat.le_of_ble_eq_true rfl) (Nat.lt_of_sub_pos (by decide)) (Nat.le_of_ble_eq_true rfl) d_SP_judge_7 d_SP_judge_10 d_SP_judge_11 d_SP_judge_14 (Nat.le_refl _) (fun t a h => Or.inr ⟨x_ISE, a, ⟨rfl, trivial⟩, rfl, h⟩) hlocks
set_option maxHeartbeats 4000000 in
set_option maxRecDepth 100000 in
/-- where: nothing is SET -/
theorem c_SP_where {l : Launch} (hfl : l.flags = flags0) {s0 : State} (hS0 : te_S0 s0) (dC : Nat → ClassId) (dI : Nat → Nat → Nat) (x tp sg st ft hy : Nat) (w : Int32) (sz : Nat) : te_Met l y_SP_where [w_SP_where] ({ frames := 6, cells := 1, slots := 6, locals := 200 }) (va_Pc [.ref x, .int w] (fun U => U.heap.size = sz ∧ tb U ∧ te_Base s0 U ∧ va_P (dC, dI) classes [(x, .inr (0, [.ref tp, .int 0, .int ((-1)), .ref sg, .null, .null, .ref st, .null, .ref ft, .null, .ref hy, .null, .null, .int 0, .null, .null, .null, .null, .null, .null, .int 0]))] U.heap ∧ va_K (dC, dI) classes [] U ∧ va_D (fun _ => True) [(x, .inr (0, [.ref tp, .int 0, .int ((-1)), .ref sg, .null, .null, .ref st, .null, .ref ft, .null, .ref hy, .null, .null, .int 0, .null, .null, .null, .null, .null, .null, .int 0]))])) (te_Qx (va_Qi (fun (r : Int32) (_ : Unit) => False) (fun _ _ => True) (va_A [(x, .inr (0, [.ref tp, .int 0, .int ((-1)), .ref sg, .null, .null, .ref st, .null, .ref ft, .null, .ref hy, .null, .null, .int 0, .null, .null, .null, .null, .null, .null, .int 0]))] sz)) (fun cls => (cls = x_IAE ∧ ¬ (0 ≤ w.toInt ∧ w.toInt ≤ 5)) ∨ (cls = x_ISE ∧ (0 ≤ w.toInt ∧ w.toInt ≤ 5)))) 1 6 (va_A [(x, .inr (0, [.ref tp, .int 0, .int ((-1)), .ref sg, .null, .null, .ref st, .null, .ref ft, .null, .ref hy, .null, .null, .int 0, .null, .null, .null, .null, .null, .null, .int 0]))] sz) := by
  refine te_ofW (cc := b_SP_where) (maxL := 4) (ret := (some .int)) (by decide) rfl ?_
  intro p e s m args below meth c s₁ B hml hv
  obtain ⟨rfl, hsz, hb0, hB0, hP, hK, hD0⟩ := hv
  have hx := B.exec
  have hb := B.bytes
  have hr := B.returns
  have hw0 := atoms_spec (ws := [w_SP_where]) B.pre
  have hts : ∀ wq ∈ tt, wq.before ([.ref x, .int w] : List Value).toArray s = true := hb0.hts
  have hown : s.vm.findClass "ScholarsPress" = some m.cls := findClass_of_methodNamed B.named
  have hlocks := B.notSynchronized
  subst hsz
  have hD := hD0.self (sz := s.heap.size)
  generalize hAe : va_A [(x, .inr (0, [.ref tp, .int 0, .int ((-1)), .ref sg, .null, .null, .ref st, .null, .ref ft, .null, .ref hy, .null, .null, .int 0, .null, .null, .null, .null, .null, .null, .int 0]))] s.heap.size = A at hD ⊢
  have hA : ∀ q : Nat, s.heap.size ≤ q → A q := fun q h => by rw [← hAe]; exact Or.inr h
  have hS : va_S A s.heap s.heap [] := va_S.rf
  have hP : va_P (dC, dI) classes [(x, .inr (0, [.ref tp, .int 0, .int ((-1)), .ref sg, .null, .null, .ref st, .null, .ref ft, .null, .ref hy, .null, .null, .int 0, .null, .null, .null, .null, .null, .null, .int 0]))] s.heap := hP
  have hl := lv_entry ([.ref x, .int w]) (n := 4) (Nat.le_of_ble_eq_true rfl)
  rw [lg_entry_eq]
  generalize (lg_sl ([.ref x, .int w]) ++ List.replicate (4 - (lg_sl ([.ref x, .int w])).length) Slot.unset).toArray = ls at hl ⊢
  have hl : lv_has ls 4 [(0, .ref x), (1, .int w)] := hl
  refine lv_iload_n hx hb d_SP_where_0 rfl (lv_at hl 1 rfl) ?_
  refine lv_if_lt (tgt := 9) hx hb d_SP_where_1 (by decide) (fun c_1 => ?_) (fun c_1 => ?_)
  · exact te_throw hx hb (te_tr hfl B.admits) (own := "ScholarsPress") (cls := x_IAE) (names := ["java/lang/RuntimeException", "java/lang/Exception"]) (iN := iN_IAE) (ic := ic_IAE) hown xf_IAE xn (te_own hS0 hB0 hb0 xo_IAE xh_IAE) (hts _ xl_IAE) (hts _ xi_IAE) (BodyLoose.noHandlers B (hw0 _ List.mem_cons_self)) (hl.1.trans hml.symm) (Nat.le_of_ble_eq_true rfl) (Nat.le_of_ble_eq_true rfl) (Nat.lt_of_sub_pos (by decide)) (Nat.le_of_ble_eq_true rfl) d_SP_where_9 d_SP_where_12 d_SP_where_13 d_SP_where_16 (Nat.le_refl _) (fun t a h => Or.inr ⟨x_IAE, a, Or.inl ⟨rfl, by simp only [Int32.lt_iff_toInt_lt, Int32.le_iff_toInt_le, z_0, z_1, z_5, z_6, z_7, z_9, z_10, z_11, z_13, z_20, z_41] at c_1 ⊢; omega⟩, rfl, h⟩) hlocks
  · refine lv_iload_n hx hb d_SP_where_4 rfl (lv_at hl 1 rfl) ?_
    refine lv_iconst (v := 5) hx hb d_SP_where_5 (by decide) ?_
    refine lv_icmp_le (tgt := 17) hx hb d_SP_where_6 (by decide) (fun c_2 => ?_) (fun c_2 => ?_)
    · refine lv_aload_n hx hb d_SP_where_17 rfl (lv_at hl 0 rfl) ?_
      refine va_get (D := (dC, dI)) (ci := 0) (v := .null) (C := "ScholarsPress") (T := F_SP) (N := 21) hx hb hts in_SP hown hK hP 0 rfl rfl 14 (by decide) (hts (.fieldLink "ScholarsPress" 172 "ScholarsPress" "pagesNow" "LScholarsPress$Pages;") k_514) (fun _ h9 => h9) rfl d_SP_where_18 ?_
      refine lv_ifnonnullN hx hb d_SP_where_21 ?_
      exact te_throw hx hb (te_tr hfl B.admits) (own := "ScholarsPress") (cls := x_ISE) (names := ["java/lang/RuntimeException", "java/lang/Exception"]) (iN := iN_ISE) (ic := ic_ISE) hown xf_ISE xn (te_own hS0 hB0 hb0 xo_ISE xh_ISE) (hts _ xl_ISE) (hts _ xi_ISE) (BodyLoose.noHandlers B (hw0 _ List.mem_cons_self)) (hl.1.trans hml.symm) (Nat.le_of_ble_eq_true rfl) (Nat.le_of_ble_eq_true rfl) (Nat.lt_of_sub_pos (by decide)) (Nat.le_of_ble_eq_true rfl) d_SP_where_24 d_SP_where_27 d_SP_where_28 d_SP_where_31 (Nat.le_refl _) (fun t a h => Or.inr ⟨x_ISE, a, Or.inr (⟨rfl, by simp only [Int32.lt_iff_toInt_lt, Int32.le_iff_toInt_le, z_0, z_1, z_5, z_6, z_7, z_9, z_10, z_11, z_13, z_20, z_41] at c_1 c_2 ⊢; omega⟩), rfl, h⟩) hlocks
    · exact te_throw hx hb (te_tr hfl B.admits) (own := "ScholarsPress") (cls := x_IAE) (names := ["java/lang/RuntimeException", "java/lang/Exception"]) (iN := iN_IAE) (ic := ic_IAE) hown xf_IAE xn (te_own hS0 hB0 hb0 xo_IAE xh_IAE) (hts _ xl_IAE) (hts _ xi_IAE) (BodyLoose.noHandlers B (hw0 _ List.mem_cons_self)) (hl.1.trans hml.symm) (Nat.le_of_ble_eq_true rfl) (Nat.le_of_ble_eq_true rfl) (Nat.lt_of_sub_pos (by decide)) (Nat.le_of_ble_eq_true rfl) d_SP_where_9 d_SP_where_12 d_SP_where_13 d_SP_where_16 (Nat.le_refl _) (fun t a h => Or.inr ⟨x_IAE, a, Or.inl ⟨rfl, by simp only [Int32.lt_iff_toInt_lt, Int32.le_iff_toInt_le, z_0, z_1, z_5, z_6, z_7, z_9, z_10, z_11, z_13, z_20, z_41] at c_1 c_2 ⊢; omega⟩, rfl, h⟩) hlocks
set_option maxHeartbeats 4000000 in
set_option maxRecDepth 100000 in
/-- note: nothing is SET -/
theorem c_SP_note {l : Launch} (hfl : l.flags = flags0) {s0 : State} (hS0 : te_S0 s0) (dC : Nat → ClassId) (dI : Nat → Nat → Nat) (x tp sg st ft hy : Nat) (a w : Int32) (sz : Nat) : te_Met l y_SP_note [w_SP_note] ({ frames := 6, cells := 1, slots := 6, locals := 200 }) (va_Pc [.ref x, .int a, .int w] (fun U => U.heap.size = sz ∧ tb U ∧ te_Base s0 U ∧ va_P (dC, dI) classes [(x, .inr (0, [.ref tp, .int 0, .int ((-1)), .ref sg, .null, .null, .ref st, .null, .ref ft, .null, .ref hy, .null, .null, .int 0, .null, .null, .null, .null, .null, .null, .int 0]))] U.heap ∧ va_K (dC, dI) classes [] U ∧ va_D (fun _ => True) [(x, .inr (0, [.ref tp, .int 0, .int ((-1)), .ref sg, .null, .null, .ref st, .null, .ref ft, .null, .ref hy, .null, .null, .int 0, .null, .null, .null, .null, .null, .null, .int 0]))])) (te_Qx (va_Qi (fun (r : Int32) (_ : Unit) => False) (fun _ _ => True) (va_A [(x, .inr (0, [.ref tp, .int 0, .int ((-1)), .ref sg, .null, .null, .ref st, .null, .ref ft, .null, .ref hy, .null, .null, .int 0, .null, .null, .null, .null, .null, .null, .int 0]))] sz)) (fun cls => (cls = x_IAE ∧ ¬ ((0 ≤ w.toInt ∧ w.toInt ≤ 5) ∨ (10 ≤ w.toInt ∧ w.toInt ≤ 13))) ∨ (cls = x_ISE ∧ ((0 ≤ w.toInt ∧ w.toInt ≤ 5) ∨ (10 ≤ w.toInt ∧ w.toInt ≤ 13))))) 1 6 (va_A [(x, .inr (0, [.ref tp, .int 0, .int ((-1)), .ref sg, .null, .null, .ref st, .null, .ref ft, .null, .ref hy, .null, .null, .int 0, .null, .null, .null, .null, .null, .null, .int 0]))] sz) := by
  refine te_ofW (cc := b_SP_note) (maxL := 4) (ret := (some .int)) (by decide) rfl ?_
  intro p e s m args below meth c s₁ B hml hv
  obtain ⟨rfl, hsz, hb0, hB0, hP, hK, hD0⟩ := hv
  have hx := B.exec
  have hb := B.bytes
  have hr := B.returns
  have hw0 := atoms_spec (ws := [w_SP_note]) B.pre
  have hts : ∀ wq ∈ tt, wq.before ([.ref x, .int a, .int w] : List Value).toArray s = true := hb0.hts
  have hown : s.vm.findClass "ScholarsPress" = some m.cls := findClass_of_methodNamed B.named
  have hlocks := B.notSynchronized
  subst hsz
  have hD := hD0.self (sz := s.heap.size)
  generalize hAe : va_A [(x, .inr (0, [.ref tp, .int 0, .int ((-1)), .ref sg, .null, .null, .ref st, .null, .ref ft, .null, .ref hy, .null, .null, .int 0, .null, .null, .null, .null, .null, .null, .int 0]))] s.heap.size = A at hD ⊢
  have hA : ∀ q : Nat, s.heap.size ≤ q → A q := fun q h => by rw [← hAe]; exact Or.inr h
  have hS : va_S A s.heap s.heap [] := va_S.rf
  have hP : va_P (dC, dI) classes [(x, .inr (0, [.ref tp, .int 0, .int ((-1)), .ref sg, .null, .null, .ref st, .null, .ref ft, .null, .ref hy, .null, .null, .int 0, .null, .null, .null, .null, .null, .null, .int 0]))] s.heap := hP
  have hl := lv_entry ([.ref x, .int a, .int w]) (n := 4) (Nat.le_of_ble_eq_true rfl)
  rw [lg_entry_eq]
  generalize (lg_sl ([.ref x, .int a, .int w]) ++ List.replicate (4 - (lg_sl ([.ref x, .int a, .int w])).length) Slot.unset).toArray = ls at hl ⊢
  have hl : lv_has ls 4 [(0, .ref x), (1, .int a), (2, .int w)] := hl
  refine lv_iload_n hx hb d_SP_note_0 rfl (lv_at hl 2 rfl) ?_
  refine lv_if_lt (tgt := 13) hx hb d_SP_note_1 (by decide) (fun c_1 => ?_) (fun c_1 => ?_)
  · refine lv_iconst (v := 0) hx hb d_SP_note_13 (by decide) ?_
    refine lv_istore_n (lv' := [(3, .int 0), (0, .ref x), (1, .int a), (2, .int w)]) hx hb d_SP_note_14 rfl hl (by decide) rfl (fun ls hl => ?_)
    refine lv_iload_n hx hb d_SP_note_15 rfl (lv_at hl 0 rfl) ?_
    refine lv_if_ne (tgt := 39) hx hb d_SP_note_16 (by decide) (fun c_2 => ?_) (fun c_2 => ?_)
    · exact absurd c_2 (by decide)
    · refine lv_iload_n hx hb d_SP_note_19 rfl (lv_at hl 3 rfl) ?_
      refine lv_bipush (v := 10) hx hb d_SP_note_20 (by decide) ?_
      refine lv_icmp_lt (tgt := 31) hx hb d_SP_note_22 (by decide) (fun c_3 => ?_) (fun c_3 => ?_)
      · exact te_throw hx hb (te_tr hfl B.admits) (own := "ScholarsPress") (cls := x_IAE) (names := ["java/lang/RuntimeException", "java/lang/Exception"]) (iN := iN_IAE) (ic := ic_IAE) hown xf_IAE xn (te_own hS0 hB0 hb0 xo_IAE xh_IAE) (hts _ xl_IAE) (hts _ xi_IAE) (BodyLoose.noHandlers B (hw0 _ List.mem_cons_self)) (hl.1.trans hml.symm) (Nat.le_of_ble_eq_true rfl) (Nat.le_of_ble_eq_true rfl) (Nat.lt_of_sub_pos (by decide)) (Nat.le_of_ble_eq_true rfl) d_SP_note_31 d_SP_note_34 d_SP_note_35 d_SP_note_38 (Nat.le_refl _) (fun t a h => Or.inr ⟨x_IAE, a, Or.inl ⟨rfl, by simp only [Int32.lt_iff_toInt_lt, Int32.le_iff_toInt_le, z_0, z_1, z_5, z_6, z_7, z_9, z_10, z_11, z_13, z_20, z_41] at c_1 c_3 ⊢; omega⟩, rfl, h⟩) hlocks
      · refine lv_iload_n hx hb d_SP_note_25 rfl (lv_at hl 3 rfl) ?_
        refine lv_bipush (v := 13) hx hb d_SP_note_26 (by decide) ?_
        refine lv_icmp_le (tgt := 39) hx hb d_SP_note_28 (by decide) (fun c_4 => ?_) (fun c_4 => ?_)
        · refine lv_aload_n hx hb d_SP_note_39 rfl (lv_at hl 1 rfl) ?_
          refine va_get (D := (dC, dI)) (ci := 0) (v := .null) (C := "ScholarsPress") (T := F_SP) (N := 21) hx hb hts in_SP hown hK hP 0 rfl rfl 14 (by decide) (hts (.fieldLink "ScholarsPress" 172 "ScholarsPress" "pagesNow" "LScholarsPress$Pages;") k_514) (fun _ h9 => h9) rfl d_SP_note_40 ?_
          refine lv_ifnonnullN hx hb d_SP_note_43 ?_
          exact te_throw hx hb (te_tr hfl B.admits) (own := "ScholarsPress") (cls := x_ISE) (names := ["java/lang/RuntimeException", "java/lang/Exception"]) (iN := iN_ISE) (ic := ic_ISE) hown xf_ISE xn (te_own hS0 hB0 hb0 xo_ISE xh_ISE) (hts _ xl_ISE) (hts _ xi_ISE) (BodyLoose.noHandlers B (hw0 _ List.mem_cons_self)) (hl.1.trans hml.symm) (Nat.le_of_ble_eq_true rfl) (Nat.le_of_ble_eq_true rfl) (Nat.lt_of_sub_pos (by decide)) (Nat.le_of_ble_eq_true rfl) d_SP_note_46 d_SP_note_49 d_SP_note_50 d_SP_note_53 (Nat.le_refl _) (fun t a h => Or.inr ⟨x_ISE, a, Or.inr (⟨rfl, by simp only [Int32.lt_iff_toInt_lt, Int32.le_iff_toInt_le, z_0, z_1, z_5, z_6, z_7, z_9, z_10, z_11, z_13, z_20, z_41] at c_1 c_3 c_4 ⊢; omega⟩), rfl, h⟩) hlocks
        · exact te_throw hx hb (te_tr hfl B.admits) (own := "ScholarsPress") (cls := x_IAE) (names := ["java/lang/RuntimeException", "java/lang/Exception"]) (iN := iN_IAE) (ic := ic_IAE) hown xf_IAE xn (te_own hS0 hB0 hb0 xo_IAE xh_IAE) (hts _ xl_IAE) (hts _ xi_IAE) (BodyLoose.noHandlers B (hw0 _ List.mem_cons_self)) (hl.1.trans hml.symm) (Nat.le_of_ble_eq_true rfl) (Nat.le_of_ble_eq_true rfl) (Nat.lt_of_sub_pos (by decide)) (Nat.le_of_ble_eq_true rfl) d_SP_note_31 d_SP_note_34 d_SP_note_35 d_SP_note_38 (Nat.le_refl _) (fun t a h => Or.inr ⟨x_IAE, a, Or.inl ⟨rfl, by simp only [Int32.lt_iff_toInt_lt, Int32.le_iff_toInt_le, z_0, z_1, z_5, z_6, z_7, z_9, z_10, z_11, z_13, z_20, z_41] at c_1 c_3 c_4 ⊢; omega⟩, rfl, h⟩) hlocks
  · refine lv_iload_n hx hb d_SP_note_4 rfl (lv_at hl 2 rfl) ?_
    refine lv_iconst (v := 5) hx hb d_SP_note_5 (by decide) ?_
    refine lv_icmp_gt (tgt := 13) hx hb d_SP_note_6 (by decide) (fun c_5 => ?_) (fun c_5 => ?_)
    · refine lv_iconst (v := 0) hx hb d_SP_note_13 (by decide) ?_
      refine lv_istore_n (lv' := [(3, .int 0), (0, .ref x), (1, .int a), (2, .int w)]) hx hb d_SP_note_14 rfl hl (by decide) rfl (fun ls hl => ?_)
      refine lv_iload_n hx hb d_SP_note_15 rfl (lv_at hl 0 rfl) ?_
      refine lv_if_ne (tgt := 39) hx hb d_SP_note_16 (by decide) (fun c_6 => ?_) (fun c_6 => ?_)
      · exact absurd c_6 (by decide)
      · refine lv_iload_n hx hb d_SP_note_19 rfl (lv_at hl 3 rfl) ?_
        refine lv_bipush (v := 10) hx hb d_SP_note_20 (by decide) ?_
        refine lv_icmp_lt (tgt := 31) hx hb d_SP_note_22 (by decide) (fun c_7 => ?_) (fun c_7 => ?_)
        · exact te_throw hx hb (te_tr hfl B.admits) (own := "ScholarsPress") (cls := x_IAE) (names := ["java/lang/RuntimeException", "java/lang/Exception"]) (iN := iN_IAE) (ic := ic_IAE) hown xf_IAE xn (te_own hS0 hB0 hb0 xo_IAE xh_IAE) (hts _ xl_IAE) (hts _ xi_IAE) (BodyLoose.noHandlers B (hw0 _ List.mem_cons_self)) (hl.1.trans hml.symm) (Nat.le_of_ble_eq_true rfl) (Nat.le_of_ble_eq_true rfl) (Nat.lt_of_sub_pos (by decide)) (Nat.le_of_ble_eq_true rfl) d_SP_note_31 d_SP_note_34 d_SP_note_35 d_SP_note_38 (Nat.le_refl _) (fun t a h => Or.inr ⟨x_IAE, a, Or.inl ⟨rfl, by simp only [Int32.lt_iff_toInt_lt, Int32.le_iff_toInt_le, z_0, z_1, z_5, z_6, z_7, z_9, z_10, z_11, z_13, z_20, z_41] at c_1 c_5 c_7 ⊢; omega⟩, rfl, h⟩) hlocks
        · refine lv_iload_n hx hb d_SP_note_25 rfl (lv_at hl 3 rfl) ?_
          refine lv_bipush (v := 13) hx hb d_SP_note_26 (by decide) ?_
          refine lv_icmp_le (tgt := 39) hx hb d_SP_note_28 (by decide) (fun c_8 => ?_) (fun c_8 => ?_)
          · refine lv_aload_n hx hb d_SP_note_39 rfl (lv_at hl 1 rfl) ?_
            refine va_get (D := (dC, dI)) (ci := 0) (v := .null) (C := "ScholarsPress") (T := F_SP) (N := 21) hx hb hts in_SP hown hK hP 0 rfl rfl 14 (by decide) (hts (.fieldLink "ScholarsPress" 172 "ScholarsPress" "pagesNow" "LScholarsPress$Pages;") k_514) (fun _ h9 => h9) rfl d_SP_note_40 ?_
            refine lv_ifnonnullN hx hb d_SP_note_43 ?_
            exact te_throw hx hb (te_tr hfl B.admits) (own := "ScholarsPress") (cls := x_ISE) (names := ["java/lang/RuntimeException", "java/lang/Exception"]) (iN := iN_ISE) (ic := ic_ISE) hown xf_ISE xn (te_own hS0 hB0 hb0 xo_ISE xh_ISE) (hts _ xl_ISE) (hts _ xi_ISE) (BodyLoose.noHandlers B (hw0 _ List.mem_cons_self)) (hl.1.trans hml.symm) (Nat.le_of_ble_eq_true rfl) (Nat.le_of_ble_eq_true rfl) (Nat.lt_of_sub_pos (by decide)) (Nat.le_of_ble_eq_true rfl) d_SP_note_46 d_SP_note_49 d_SP_note_50 d_SP_note_53 (Nat.le_refl _) (fun t a h => Or.inr ⟨x_ISE, a, Or.inr (⟨rfl, by simp only [Int32.lt_iff_toInt_lt, Int32.le_iff_toInt_le, z_0, z_1, z_5, z_6, z_7, z_9, z_10, z_11, z_13, z_20, z_41] at c_1 c_5 c_7 c_8 ⊢; omega⟩), rfl, h⟩) hlocks
          · exact te_throw hx hb (te_tr hfl B.admits) (own := "ScholarsPress") (cls := x_IAE) (names := ["java/lang/RuntimeException", "java/lang/Exception"]) (iN := iN_IAE) (ic := ic_IAE) hown xf_IAE xn (te_own hS0 hB0 hb0 xo_IAE xh_IAE) (hts _ xl_IAE) (hts _ xi_IAE) (BodyLoose.noHandlers B (hw0 _ List.mem_cons_self)) (hl.1.trans hml.symm) (Nat.le_of_ble_eq_true rfl) (Nat.le_of_ble_eq_true rfl) (Nat.lt_of_sub_pos (by decide)) (Nat.le_of_ble_eq_true rfl) d_SP_note_31 d_SP_note_34 d_SP_note_35 d_SP_note_38 (Nat.le_refl _) (fun t a h => Or.inr ⟨x_IAE, a, Or.inl ⟨rfl, by simp only [Int32.lt_iff_toInt_lt, Int32.le_iff_toInt_le, z_0, z_1, z_5, z_6, z_7, z_9, z_10, z_11, z_13, z_20, z_41] at c_1 c_5 c_7 c_8 ⊢; omega⟩, rfl, h⟩) hlocks
    · refine lv_iconst (v := 1) hx hb d_SP_note_9 (by decide) ?_
      refine lv_goto (tgt := 14) hx hb d_SP_note_10 (by decide) ?_
      refine lv_istore_n (lv' := [(3, .int 1), (0, .ref x), (1, .int a), (2, .int w)]) hx hb d_SP_note_14 rfl hl (by decide) rfl (fun ls hl => ?_)
      refine lv_iload_n hx hb d_SP_note_15 rfl (lv_at hl 0 rfl) ?_
      refine lv_if_ne (tgt := 39) hx hb d_SP_note_16 (by decide) (fun c_9 => ?_) (fun c_9 => ?_)
      · refine lv_aload_n hx hb d_SP_note_39 rfl (lv_at hl 1 rfl) ?_
        refine va_get (D := (dC, dI)) (ci := 0) (v := .null) (C := "ScholarsPress") (T := F_SP) (N := 21) hx hb hts in_SP hown hK hP 0 rfl rfl 14 (by decide) (hts (.fieldLink "ScholarsPress" 172 "ScholarsPress" "pagesNow" "LScholarsPress$Pages;") k_514) (fun _ h9 => h9) rfl d_SP_note_40 ?_
        refine lv_ifnonnullN hx hb d_SP_note_43 ?_
        exact te_throw hx hb (te_tr hfl B.admits) (own := "ScholarsPress") (cls := x_ISE) (names := ["java/lang/RuntimeException", "java/lang/Exception"]) (iN := iN_ISE) (ic := ic_ISE) hown xf_ISE xn (te_own hS0 hB0 hb0 xo_ISE xh_ISE) (hts _ xl_ISE) (hts _ xi_ISE) (BodyLoose.noHandlers B (hw0 _ List.mem_cons_self)) (hl.1.trans hml.symm) (Nat.le_of_ble_eq_true rfl) (Nat.le_of_ble_eq_true rfl) (Nat.lt_of_sub_pos (by decide)) (Nat.le_of_ble_eq_true rfl) d_SP_note_46 d_SP_note_49 d_SP_note_50 d_SP_note_53 (Nat.le_refl _) (fun t a h => Or.inr ⟨x_ISE, a, Or.inr (⟨rfl, by simp only [Int32.lt_iff_toInt_lt, Int32.le_iff_toInt_le, z_0, z_1, z_5, z_6, z_7, z_9, z_10, z_11, z_13, z_20, z_41] at c_1 c_5 ⊢; omega⟩), rfl, h⟩) hlocks
      · exact absurd c_9 (by decide)
set_option maxHeartbeats 4000000 in
set_option maxRecDepth 100000 in
/-- wavering: nothing is SET -/
theorem c_SP_wavering {l : Launch} (hfl : l.flags = flags0) {s0 : State} (hS0 : te_S0 s0) (dC : Nat → ClassId) (dI : Nat → Nat → Nat) (x tp sg st ft hy : Nat) (a : Int32) (sz : Nat) : te_Met l y_SP_wavering [w_SP_wavering] ({ frames := 6, cells := 1, slots := 6, locals := 200 }) (va_Pc [.ref x, .int a] (fun U => U.heap.size = sz ∧ tb U ∧ te_Base s0 U ∧ va_P (dC, dI) classes [(x, .inr (0, [.ref tp, .int 0, .int ((-1)), .ref sg, .null, .null, .ref st, .null, .ref ft, .null, .ref hy, .null, .null, .int 0, .null, .null, .null, .null, .null, .null, .int 0]))] U.heap ∧ va_K (dC, dI) classes [] U ∧ va_D (fun _ => True) [(x, .inr (0, [.ref tp, .int 0, .int ((-1)), .ref sg, .null, .null, .ref st, .null, .ref ft, .null, .ref hy, .null, .null, .int 0, .null, .null, .null, .null, .null, .null, .int 0]))])) (te_Qx (va_Qi (fun (r : Int32) (_ : Unit) => False) (fun _ _ => True) (va_A [(x, .inr (0, [.ref tp, .int 0, .int ((-1)), .ref sg, .null, .null, .ref st, .null, .ref ft, .null, .ref hy, .null, .null, .int 0, .null, .null, .null, .null, .null, .null, .int 0]))] sz)) (fun cls => cls = x_ISE ∧ True)) 1 6 (va_A [(x, .inr (0, [.ref tp, .int 0, .int ((-1)), .ref sg, .null, .null, .ref st, .null, .ref ft, .null, .ref hy, .null, .null, .int 0, .null, .null, .null, .null, .null, .null, .int 0]))] sz) := by
  refine te_ofW (cc := b_SP_wavering) (maxL := 2) (ret := (some .int)) (by decide) rfl ?_
  intro p e s m args below meth c s₁ B hml hv
  obtain ⟨rfl, hsz, hb0, hB0, hP, hK, hD0⟩ := hv
  have hx := B.exec
  have hb := B.bytes
  have hr := B.returns
  have hw0 := atoms_spec (ws := [w_SP_wavering]) B.pre
  have hts : ∀ wq ∈ tt, wq.before ([.ref x, .int a] : List Value).toArray s = true := hb0.hts
  have hown : s.vm.findClass "ScholarsPress" = some m.cls := findClass_of_methodNamed B.named
  have hlocks := B.notSynchronized
  subst hsz
  have hD := hD0.self (sz := s.heap.size)
  generalize hAe : va_A [(x, .inr (0, [.ref tp, .int 0, .int ((-1)), .ref sg, .null, .null, .ref st, .null, .ref ft, .null, .ref hy, .null, .null, .int 0, .null, .null, .null, .null, .null, .null, .int 0]))] s.heap.size = A at hD ⊢
  have hA : ∀ q : Nat, s.heap.size ≤ q → A q := fun q h => by rw [← hAe]; exact Or.inr h
  have hS : va_S A s.heap s.heap [] := va_S.rf
  have hP : va_P (dC, dI) classes [(x, .inr (0, [.ref tp, .int 0, .int ((-1)), .ref sg, .null, .null, .ref st, .null, .ref ft, .null, .ref hy, .null, .null, .int 0, .null, .null, .null, .null, .null, .null, .int 0]))] s.heap := hP
  have hl := lv_entry ([.ref x, .int a]) (n := 2) (Nat.le_of_ble_eq_true rfl)
  rw [lg_entry_eq]
  generalize (lg_sl ([.ref x, .int a]) ++ List.replicate (2 - (lg_sl ([.ref x, .int a])).length) Slot.unset).toArray = ls at hl ⊢
  have hl : lv_has ls 2 [(0, .ref x), (1, .int a)] := hl
  refine lv_aload_n hx hb d_SP_wavering_0 rfl (lv_at hl 0 rfl) ?_
  refine va_get (D := (dC, dI)) (ci := 0) (v := .null) (C := "ScholarsPress") (T := F_SP) (N := 21) hx hb hts in_SP hown hK hP 0 rfl rfl 14 (by decide) (hts (.fieldLink "ScholarsPress" 172 "ScholarsPress" "pagesNow" "LScholarsPress$Pages;") k_514) (fun _ h9 => h9) rfl d_SP_wavering_1 ?_
  refine lv_ifnonnullN hx hb d_SP_wavering_4 ?_
  exact te_throw hx hb (te_tr hfl B.admits) (own := "ScholarsPress") (cls := x_ISE) (names := ["java/lang/RuntimeException", "java/lang/Exception"]) (iN := iN_ISE) (ic := ic_ISE) hown xf_ISE xn (te_own hS0 hB0 hb0 xo_ISE xh_ISE) (hts _ xl_ISE) (hts _ xi_ISE) (BodyLoose.noHandlers B (hw0 _ List.mem_cons_self)) (hl.1.trans hml.symm) (Nat.le_of_ble_eq_true rfl) (Nat.le_of_ble_eq_true rfl) (Nat.lt_of_sub_pos (by decide)) (Nat.le_of_ble_eq_true rfl) d_SP_wavering_7 d_SP_wavering_10 d_SP_wavering_11 d_SP_wavering_14 (Nat.le_refl _) (fun t a h => Or.inr ⟨x_ISE, a, ⟨rfl, trivial⟩, rfl, h⟩) hlocks
set_option maxHeartbeats 4000000 in
set_option maxRecDepth 100000 in
/-- print: nothing is SET -/
theorem c_SP_print {l : Launch} (hfl : l.flags = flags0) {s0 : State} (hS0 : te_S0 s0) (dC : Nat → ClassId) (dI : Nat → Nat → Nat) (x tp sg st ft hy : Nat) (a : Int32) (sz : Nat) : te_Met l y_SP_print [w_SP_print] ({ frames := 6, cells := 1, slots := 6, locals := 200 }) (va_Pc [.ref x, .int a] (fun U => U.heap.size = sz ∧ tb U ∧ te_Base s0 U ∧ va_P (dC, dI) classes [(x, .inr (0, [.ref tp, .int 0, .int ((-1)), .ref sg, .null, .null, .ref st, .null, .ref ft, .null, .ref hy, .null, .null, .int 0, .null, .null, .null, .null, .null, .null, .int 0]))] U.heap ∧ va_K (dC, dI) classes [] U ∧ va_D (fun _ => True) [(x, .inr (0, [.ref tp, .int 0, .int ((-1)), .ref sg, .null, .null, .ref st, .null, .ref ft, .null, .ref hy, .null, .null, .int 0, .null, .null, .null, .null, .null, .null, .int 0]))])) (te_Qx (va_Qi (fun (r : Int32) (_ : Unit) => False) (fun _ _ => True) (va_A [(x, .inr (0, [.ref tp, .int 0, .int ((-1)), .ref sg, .null, .null, .ref st, .null, .ref ft, .null, .ref hy, .null, .null, .int 0, .null, .null, .null, .null, .null, .null, .int 0]))] sz)) (fun cls => cls = x_ISE ∧ True)) 1 6 (va_A [(x, .inr (0, [.ref tp, .int 0, .int ((-1)), .ref sg, .null, .null, .ref st, .null, .ref ft, .null, .ref hy, .null, .null, .int 0, .null, .null, .null, .null, .null, .null, .int 0]))] sz) := by
  refine te_ofW (cc := b_SP_print) (maxL := 3) (ret := (some .int)) (by decide) rfl ?_
  intro p e s m args below meth c s₁ B hml hv
  obtain ⟨rfl, hsz, hb0, hB0, hP, hK, hD0⟩ := hv
  have hx := B.exec
  have hb := B.bytes
  have hr := B.returns
  have hw0 := atoms_spec (ws := [w_SP_print]) B.pre
  have hts : ∀ wq ∈ tt, wq.before ([.ref x, .int a] : List Value).toArray s = true := hb0.hts
  have hown : s.vm.findClass "ScholarsPress" = some m.cls := findClass_of_methodNamed B.named
  have hlocks := B.notSynchronized
  subst hsz
  have hD := hD0.self (sz := s.heap.size)
  generalize hAe : va_A [(x, .inr (0, [.ref tp, .int 0, .int ((-1)), .ref sg, .null, .null, .ref st, .null, .ref ft, .null, .ref hy, .null, .null, .int 0, .null, .null, .null, .null, .null, .null, .int 0]))] s.heap.size = A at hD ⊢
  have hA : ∀ q : Nat, s.heap.size ≤ q → A q := fun q h => by rw [← hAe]; exact Or.inr h
  have hS : va_S A s.heap s.heap [] := va_S.rf
  have hP : va_P (dC, dI) classes [(x, .inr (0, [.ref tp, .int 0, .int ((-1)), .ref sg, .null, .null, .ref st, .null, .ref ft, .null, .ref hy, .null, .null, .int 0, .null, .null, .null, .null, .null, .null, .int 0]))] s.heap := hP
  have hl := lv_entry ([.ref x, .int a]) (n := 3) (Nat.le_of_ble_eq_true rfl)
  rw [lg_entry_eq]
  generalize (lg_sl ([.ref x, .int a]) ++ List.replicate (3 - (lg_sl ([.ref x, .int a])).length) Slot.unset).toArray = ls at hl ⊢
  have hl : lv_has ls 3 [(0, .ref x), (1, .int a)] := hl
  refine lv_aload_n hx hb d_SP_print_0 rfl (lv_at hl 0 rfl) ?_
  refine va_get (D := (dC, dI)) (ci := 0) (v := .null) (C := "ScholarsPress") (T := F_SP) (N := 21) hx hb hts in_SP hown hK hP 0 rfl rfl 14 (by decide) (hts (.fieldLink "ScholarsPress" 172 "ScholarsPress" "pagesNow" "LScholarsPress$Pages;") k_514) (fun _ h9 => h9) rfl d_SP_print_1 ?_
  refine lv_ifnonnullN hx hb d_SP_print_4 ?_
  exact te_throw hx hb (te_tr hfl B.admits) (own := "ScholarsPress") (cls := x_ISE) (names := ["java/lang/RuntimeException", "java/lang/Exception"]) (iN := iN_ISE) (ic := ic_ISE) hown xf_ISE xn (te_own hS0 hB0 hb0 xo_ISE xh_ISE) (hts _ xl_ISE) (hts _ xi_ISE) (BodyLoose.noHandlers B (hw0 _ List.mem_cons_self)) (hl.1.trans hml.symm) (Nat.le_of_ble_eq_true rfl) (Nat.le_of_ble_eq_true rfl) (Nat.lt_of_sub_pos (by decide)) (Nat.le_of_ble_eq_true rfl) d_SP_print_7 d_SP_print_10 d_SP_print_11 d_SP_print_14 (Nat.le_refl _) (fun t a h => Or.inr ⟨x_ISE, a, ⟨rfl, trivial⟩, rfl, h⟩) hlocks
set_option maxHeartbeats 4000000 in
set_option maxRecDepth 100000 in
/-- word: OUT is empty -/
theorem c_SP_word {l : Launch} (hfl : l.flags = flags0) {s0 : State} (hS0 : te_S0 s0) (dC : Nat → ClassId) (dI : Nat → Nat → Nat) (x tp sg st ft hy : Nat) (a : Int32) (sz : Nat) : te_Met l y_SP_word [w_SP_word] ({ frames := 6, cells := 1, slots := 6, locals := 200 }) (va_Pc [.ref x, .int a] (fun U => U.heap.size = sz ∧ tb U ∧ te_Base s0 U ∧ va_P (dC, dI) classes [(x, .inr (0, [.ref tp, .int 0, .int ((-1)), .ref sg, .null, .null, .ref st, .null, .ref ft, .null, .ref hy, .null, .null, .int 0, .null, .null, .null, .null, .null, .null, .int 0]))] U.heap ∧ va_K (dC, dI) classes [] U ∧ va_D (fun _ => True) [(x, .inr (0, [.ref tp, .int 0, .int ((-1)), .ref sg, .null, .null, .ref st, .null, .ref ft, .null, .ref hy, .null, .null, .int 0, .null, .null, .null, .null, .null, .null, .int 0]))])) (te_Qx (va_Ql (fun (r : Int64) (_ : Unit) => False) (fun _ _ => True) (va_A [(x, .inr (0, [.ref tp, .int 0, .int ((-1)), .ref sg, .null, .null, .ref st, .null, .ref ft, .null, .ref hy, .null, .null, .int 0, .null, .null, .null, .null, .null, .null, .int 0]))] sz)) (fun cls => cls = x_IOB ∧ True)) 1 6 (va_A [(x, .inr (0, [.ref tp, .int 0, .int ((-1)), .ref sg, .null, .null, .ref st, .null, .ref ft, .null, .ref hy, .null, .null, .int 0, .null, .null, .null, .null, .null, .null, .int 0]))] sz) := by
  refine te_ofW (cc := b_SP_word) (maxL := 5) (ret := (some .long)) (by decide) rfl ?_
  intro p e s m args below meth c s₁ B hml hv
  obtain ⟨rfl, hsz, hb0, hB0, hP, hK, hD0⟩ := hv
  have hx := B.exec
  have hb := B.bytes
  have hr := B.returns
  have hw0 := atoms_spec (ws := [w_SP_word]) B.pre
  have hts : ∀ wq ∈ tt, wq.before ([.ref x, .int a] : List Value).toArray s = true := hb0.hts
  have hown : s.vm.findClass "ScholarsPress" = some m.cls := findClass_of_methodNamed B.named
  have hlocks := B.notSynchronized
  subst hsz
  have hD := hD0.self (sz := s.heap.size)
  generalize hAe : va_A [(x, .inr (0, [.ref tp, .int 0, .int ((-1)), .ref sg, .null, .null, .ref st, .null, .ref ft, .null, .ref hy, .null, .null, .int 0, .null, .null, .null, .null, .null, .null, .int 0]))] s.heap.size = A at hD ⊢
  have hA : ∀ q : Nat, s.heap.size ≤ q → A q := fun q h => by rw [← hAe]; exact Or.inr h
  have hS : va_S A s.heap s.heap [] := va_S.rf
  have hP : va_P (dC, dI) classes [(x, .inr (0, [.ref tp, .int 0, .int ((-1)), .ref sg, .null, .null, .ref st, .null, .ref ft, .null, .ref hy, .null, .null, .int 0, .null, .null, .null, .null, .null, .null, .int 0]))] s.heap := hP
  have hl := lv_entry ([.ref x, .int a]) (n := 5) (Nat.le_of_ble_eq_true rfl)
  rw [lg_entry_eq]
  generalize (lg_sl ([.ref x, .int a]) ++ List.replicate (5 - (lg_sl ([.ref x, .int a])).length) Slot.unset).toArray = ls at hl ⊢
  have hl : lv_has ls 5 [(0, .ref x), (1, .int a)] := hl
  refine lv_iload_n hx hb d_SP_word_0 rfl (lv_at hl 1 rfl) ?_
  refine lv_if_lt (tgt := 12) hx hb d_SP_word_1 (by decide) (fun c_1 => ?_) (fun c_1 => ?_)
  · exact te_throw hx hb (te_tr hfl B.admits) (own := "ScholarsPress") (cls := x_IOB) (names := ["java/lang/RuntimeException", "java/lang/Exception"]) (iN := iN_IOB) (ic := ic_IOB) hown xf_IOB xn (te_own hS0 hB0 hb0 xo_IOB xh_IOB) (hts _ xl_IOB) (hts _ xi_IOB) (BodyLoose.noHandlers B (hw0 _ List.mem_cons_self)) (hl.1.trans hml.symm) (Nat.le_of_ble_eq_true rfl) (Nat.le_of_ble_eq_true rfl) (Nat.lt_of_sub_pos (by decide)) (Nat.le_of_ble_eq_true rfl) d_SP_word_12 d_SP_word_15 d_SP_word_16 d_SP_word_19 (Nat.le_refl _) (fun t a h => Or.inr ⟨x_IOB, a, ⟨rfl, trivial⟩, rfl, h⟩) hlocks
  · refine lv_iload_n hx hb d_SP_word_4 rfl (lv_at hl 1 rfl) ?_
    refine lv_aload_n hx hb d_SP_word_5 rfl (lv_at hl 0 rfl) ?_
    refine va_get (D := (dC, dI)) (ci := 0) (v := .int 0) (C := "ScholarsPress") (T := F_SP) (N := 21) hx hb hts in_SP hown hK hP 0 rfl rfl 20 (by decide) (hts (.fieldLink "ScholarsPress" 293 "ScholarsPress" "outLength" "I") k_520) (fun _ h9 => h9) rfl d_SP_word_6 ?_
    refine lv_icmp_lt (tgt := 20) hx hb d_SP_word_9 (by decide) (fun c_2 => ?_) (fun c_2 => ?_)
    · exfalso; simp only [Int32.lt_iff_toInt_lt, Int32.le_iff_toInt_le, z_0, z_1, z_5, z_6, z_7, z_9, z_10, z_11, z_13, z_20, z_41] at c_1 c_2; omega
    · exact te_throw hx hb (te_tr hfl B.admits) (own := "ScholarsPress") (cls := x_IOB) (names := ["java/lang/RuntimeException", "java/lang/Exception"]) (iN := iN_IOB) (ic := ic_IOB) hown xf_IOB xn (te_own hS0 hB0 hb0 xo_IOB xh_IOB) (hts _ xl_IOB) (hts _ xi_IOB) (BodyLoose.noHandlers B (hw0 _ List.mem_cons_self)) (hl.1.trans hml.symm) (Nat.le_of_ble_eq_true rfl) (Nat.le_of_ble_eq_true rfl) (Nat.lt_of_sub_pos (by decide)) (Nat.le_of_ble_eq_true rfl) d_SP_word_12 d_SP_word_15 d_SP_word_16 d_SP_word_19 (Nat.le_refl _) (fun t a h => Or.inr ⟨x_IOB, a, ⟨rfl, trivial⟩, rfl, h⟩) hlocks
set_option maxHeartbeats 4000000 in
set_option maxRecDepth 100000 in
/-- change: there is no SOURCE -/
theorem c_SP_change {l : Launch} (hfl : l.flags = flags0) {s0 : State} (hS0 : te_S0 s0) (dC : Nat → ClassId) (dI : Nat → Nat → Nat) (x tp sg st ft hy : Nat) (a b : Int32) (sz : Nat) : te_Met l y_SP_change [w_SP_change] ({ frames := 6, cells := 1, slots := 6, locals := 200 }) (va_Pc [.ref x, .int a, .int b] (fun U => U.heap.size = sz ∧ tb U ∧ te_Base s0 U ∧ va_P (dC, dI) classes [(x, .inr (0, [.ref tp, .int 0, .int ((-1)), .ref sg, .null, .null, .ref st, .null, .ref ft, .null, .ref hy, .null, .null, .int 0, .null, .null, .null, .null, .null, .null, .int 0]))] U.heap ∧ va_K (dC, dI) classes [] U ∧ va_D (fun _ => True) [(x, .inr (0, [.ref tp, .int 0, .int ((-1)), .ref sg, .null, .null, .ref st, .null, .ref ft, .null, .ref hy, .null, .null, .int 0, .null, .null, .null, .null, .null, .null, .int 0]))])) (te_Qx (va_Qi (fun (r : Int32) (_ : Unit) => False) (fun _ _ => True) (va_A [(x, .inr (0, [.ref tp, .int 0, .int ((-1)), .ref sg, .null, .null, .ref st, .null, .ref ft, .null, .ref hy, .null, .null, .int 0, .null, .null, .null, .null, .null, .null, .int 0]))] sz)) (fun cls => (cls = x_IAE ∧ ¬ (0 ≤ a.toInt ∧ a.toInt ≤ b.toInt)) ∨ (cls = x_ISE ∧ (0 ≤ a.toInt ∧ a.toInt ≤ b.toInt)))) 1 6 (va_A [(x, .inr (0, [.ref tp, .int 0, .int ((-1)), .ref sg, .null, .null, .ref st, .null, .ref ft, .null, .ref hy, .null, .null, .int 0, .null, .null, .null, .null, .null, .null, .int 0]))] sz) := by
  refine te_ofW (cc := b_SP_change) (maxL := 6) (ret := (some .int)) (by decide) rfl ?_
  intro p e s m args below meth c s₁ B hml hv
  obtain ⟨rfl, hsz, hb0, hB0, hP, hK, hD0⟩ := hv
  have hx := B.exec
  have hb := B.bytes
  have hr := B.returns
  have hw0 := atoms_spec (ws := [w_SP_change]) B.pre
  have hts : ∀ wq ∈ tt, wq.before ([.ref x, .int a, .int b] : List Value).toArray s = true := hb0.hts
  have hown : s.vm.findClass "ScholarsPress" = some m.cls := findClass_of_methodNamed B.named
  have hlocks := B.notSynchronized
  subst hsz
  have hD := hD0.self (sz := s.heap.size)
  generalize hAe : va_A [(x, .inr (0, [.ref tp, .int 0, .int ((-1)), .ref sg, .null, .null, .ref st, .null, .ref ft, .null, .ref hy, .null, .null, .int 0, .null, .null, .null, .null, .null, .null, .int 0]))] s.heap.size = A at hD ⊢
  have hA : ∀ q : Nat, s.heap.size ≤ q → A q := fun q h => by rw [← hAe]; exact Or.inr h
  have hS : va_S A s.heap s.heap [] := va_S.rf
  have hP : va_P (dC, dI) classes [(x, .inr (0, [.ref tp, .int 0, .int ((-1)), .ref sg, .null, .null, .ref st, .null, .ref ft, .null, .ref hy, .null, .null, .int 0, .null, .null, .null, .null, .null, .null, .int 0]))] s.heap := hP
  have hl := lv_entry ([.ref x, .int a, .int b]) (n := 6) (Nat.le_of_ble_eq_true rfl)
  rw [lg_entry_eq]
  generalize (lg_sl ([.ref x, .int a, .int b]) ++ List.replicate (6 - (lg_sl ([.ref x, .int a, .int b])).length) Slot.unset).toArray = ls at hl ⊢
  have hl : lv_has ls 6 [(0, .ref x), (1, .int a), (2, .int b)] := hl
  refine lv_iload_n hx hb d_SP_change_0 rfl (lv_at hl 1 rfl) ?_
  refine lv_if_lt (tgt := 27) hx hb d_SP_change_1 (by decide) (fun c_1 => ?_) (fun c_1 => ?_)
  · exact te_throw hx hb (te_tr hfl B.admits) (own := "ScholarsPress") (cls := x_IAE) (names := ["java/lang/RuntimeException", "java/lang/Exception"]) (iN := iN_IAE) (ic := ic_IAE) hown xf_IAE xn (te_own hS0 hB0 hb0 xo_IAE xh_IAE) (hts _ xl_IAE) (hts _ xi_IAE) (BodyLoose.noHandlers B (hw0 _ List.mem_cons_self)) (hl.1.trans hml.symm) (Nat.le_of_ble_eq_true rfl) (Nat.le_of_ble_eq_true rfl) (Nat.lt_of_sub_pos (by decide)) (Nat.le_of_ble_eq_true rfl) d_SP_change_27 d_SP_change_30 d_SP_change_31 d_SP_change_34 (Nat.le_refl _) (fun t a h => Or.inr ⟨x_IAE, a, Or.inl ⟨rfl, by simp only [Int32.lt_iff_toInt_lt, Int32.le_iff_toInt_le, z_0, z_1, z_5, z_6, z_7, z_9, z_10, z_11, z_13, z_20, z_41] at c_1 ⊢; omega⟩, rfl, h⟩) hlocks
  · refine lv_iload_n hx hb d_SP_change_4 rfl (lv_at hl 2 rfl) ?_
    refine lv_iload_n hx hb d_SP_change_5 rfl (lv_at hl 1 rfl) ?_
    refine lv_icmp_lt (tgt := 27) hx hb d_SP_change_6 (by decide) (fun c_2 => ?_) (fun c_2 => ?_)
    · exact te_throw hx hb (te_tr hfl B.admits) (own := "ScholarsPress") (cls := x_IAE) (names := ["java/lang/RuntimeException", "java/lang/Exception"]) (iN := iN_IAE) (ic := ic_IAE) hown xf_IAE xn (te_own hS0 hB0 hb0 xo_IAE xh_IAE) (hts _ xl_IAE) (hts _ xi_IAE) (BodyLoose.noHandlers B (hw0 _ List.mem_cons_self)) (hl.1.trans hml.symm) (Nat.le_of_ble_eq_true rfl) (Nat.le_of_ble_eq_true rfl) (Nat.lt_of_sub_pos (by decide)) (Nat.le_of_ble_eq_true rfl) d_SP_change_27 d_SP_change_30 d_SP_change_31 d_SP_change_34 (Nat.le_refl _) (fun t a h => Or.inr ⟨x_IAE, a, Or.inl ⟨rfl, by simp only [Int32.lt_iff_toInt_lt, Int32.le_iff_toInt_le, z_0, z_1, z_5, z_6, z_7, z_9, z_10, z_11, z_13, z_20, z_41] at c_1 c_2 ⊢; omega⟩, rfl, h⟩) hlocks
    · refine lv_aload_n hx hb d_SP_change_9 rfl (lv_at hl 0 rfl) ?_
      refine va_get (D := (dC, dI)) (ci := 0) (v := .null) (C := "ScholarsPress") (T := F_SP) (N := 21) hx hb hts in_SP hown hK hP 0 rfl rfl 4 (by decide) (hts (.fieldLink "ScholarsPress" 135 "ScholarsPress" "sourceNow" "LScholarsPress$Source;") k_504) (fun _ h9 => h9) rfl d_SP_change_10 ?_
      refine lv_ifnullN (tgt := 35) hx hb d_SP_change_13 (by decide) ?_
      refine lv_aload_n hx hb d_SP_change_35 rfl (lv_at hl 0 rfl) ?_
      refine va_get (D := (dC, dI)) (ci := 0) (v := .null) (C := "ScholarsPress") (T := F_SP) (N := 21) hx hb hts in_SP hown hK hP 0 rfl rfl 4 (by decide) (hts (.fieldLink "ScholarsPress" 135 "ScholarsPress" "sourceNow" "LScholarsPress$Source;") k_504) (fun _ h9 => h9) rfl d_SP_change_36 ?_
      refine lv_ifnonnullN hx hb d_SP_change_39 ?_
      exact te_throw hx hb (te_tr hfl B.admits) (own := "ScholarsPress") (cls := x_ISE) (names := ["java/lang/RuntimeException", "java/lang/Exception"]) (iN := iN_ISE) (ic := ic_ISE) hown xf_ISE xn (te_own hS0 hB0 hb0 xo_ISE xh_ISE) (hts _ xl_ISE) (hts _ xi_ISE) (BodyLoose.noHandlers B (hw0 _ List.mem_cons_self)) (hl.1.trans hml.symm) (Nat.le_of_ble_eq_true rfl) (Nat.le_of_ble_eq_true rfl) (Nat.lt_of_sub_pos (by decide)) (Nat.le_of_ble_eq_true rfl) d_SP_change_42 d_SP_change_45 d_SP_change_46 d_SP_change_49 (Nat.le_refl _) (fun t a h => Or.inr ⟨x_ISE, a, Or.inr (⟨rfl, by simp only [Int32.lt_iff_toInt_lt, Int32.le_iff_toInt_le, z_0, z_1, z_5, z_6, z_7, z_9, z_10, z_11, z_13, z_20, z_41] at c_1 c_2 ⊢; omega⟩), rfl, h⟩) hlocks
set_option maxHeartbeats 4000000 in
set_option maxRecDepth 100000 in
/-- end: the TAPE is empty -/
theorem c_SP_end {l : Launch} (hfl : l.flags = flags0) {s0 : State} (hS0 : te_S0 s0) (dC : Nat → ClassId) (dI : Nat → Nat → Nat) (x tp sg st ft hy : Nat) (n : Int32) (sz : Nat) : te_Met l y_SP_end [w_SP_end] ({ frames := 6, cells := 1, slots := 6, locals := 200 }) (va_Pc [.ref x, .int n] (fun U => U.heap.size = sz ∧ tb U ∧ te_Base s0 U ∧ va_P (dC, dI) classes [(x, .inr (0, [.ref tp, .int 0, .int ((-1)), .ref sg, .null, .null, .ref st, .null, .ref ft, .null, .ref hy, .null, .null, .int 0, .null, .null, .null, .null, .null, .null, .int 0]))] U.heap ∧ va_K (dC, dI) classes [] U ∧ va_D (fun _ => True) [(x, .inr (0, [.ref tp, .int 0, .int ((-1)), .ref sg, .null, .null, .ref st, .null, .ref ft, .null, .ref hy, .null, .null, .int 0, .null, .null, .null, .null, .null, .null, .int 0]))])) (te_Qx (va_Qi (fun (r : Int32) (_ : Unit) => r = n ∧ n.toInt = 0) (fun _ _ => True) (va_A [(x, .inr (0, [.ref tp, .int 0, .int ((-1)), .ref sg, .null, .null, .ref st, .null, .ref ft, .null, .ref hy, .null, .null, .int 0, .null, .null, .null, .null, .null, .null, .int 0]))] sz)) (fun cls => cls = x_IAE ∧ ¬ n.toInt = 0)) 1 6 (va_A [(x, .inr (0, [.ref tp, .int 0, .int ((-1)), .ref sg, .null, .null, .ref st, .null, .ref ft, .null, .ref hy, .null, .null, .int 0, .null, .null, .null, .null, .null, .null, .int 0]))] sz) := by
  refine te_ofW (cc := b_SP_end) (maxL := 2) (ret := (some .int)) (by decide) rfl ?_
  intro p e s m args below meth c s₁ B hml hv
  obtain ⟨rfl, hsz, hb0, hB0, hP, hK, hD0⟩ := hv
  have hx := B.exec
  have hb := B.bytes
  have hr := B.returns
  have hw0 := atoms_spec (ws := [w_SP_end]) B.pre
  have hts : ∀ wq ∈ tt, wq.before ([.ref x, .int n] : List Value).toArray s = true := hb0.hts
  have hown : s.vm.findClass "ScholarsPress" = some m.cls := findClass_of_methodNamed B.named
  have hlocks := B.notSynchronized
  subst hsz
  have hD := hD0.self (sz := s.heap.size)
  generalize hAe : va_A [(x, .inr (0, [.ref tp, .int 0, .int ((-1)), .ref sg, .null, .null, .ref st, .null, .ref ft, .null, .ref hy, .null, .null, .int 0, .null, .null, .null, .null, .null, .null, .int 0]))] s.heap.size = A at hD ⊢
  have hA : ∀ q : Nat, s.heap.size ≤ q → A q := fun q h => by rw [← hAe]; exact Or.inr h
  have hS : va_S A s.heap s.heap [] := va_S.rf
  have hP : va_P (dC, dI) classes [(x, .inr (0, [.ref tp, .int 0, .int ((-1)), .ref sg, .null, .null, .ref st, .null, .ref ft, .null, .ref hy, .null, .null, .int 0, .null, .null, .null, .null, .null, .null, .int 0]))] s.heap := hP
  have hl := lv_entry ([.ref x, .int n]) (n := 2) (Nat.le_of_ble_eq_true rfl)
  rw [lg_entry_eq]
  generalize (lg_sl ([.ref x, .int n]) ++ List.replicate (2 - (lg_sl ([.ref x, .int n])).length) Slot.unset).toArray = ls at hl ⊢
  have hl : lv_has ls 2 [(0, .ref x), (1, .int n)] := hl
  refine lv_iload_n hx hb d_SP_end_0 rfl (lv_at hl 1 rfl) ?_
  refine lv_if_lt (tgt := 12) hx hb d_SP_end_1 (by decide) (fun c_1 => ?_) (fun c_1 => ?_)
  · exact te_throw hx hb (te_tr hfl B.admits) (own := "ScholarsPress") (cls := x_IAE) (names := ["java/lang/RuntimeException", "java/lang/Exception"]) (iN := iN_IAE) (ic := ic_IAE) hown xf_IAE xn (te_own hS0 hB0 hb0 xo_IAE xh_IAE) (hts _ xl_IAE) (hts _ xi_IAE) (BodyLoose.noHandlers B (hw0 _ List.mem_cons_self)) (hl.1.trans hml.symm) (Nat.le_of_ble_eq_true rfl) (Nat.le_of_ble_eq_true rfl) (Nat.lt_of_sub_pos (by decide)) (Nat.le_of_ble_eq_true rfl) d_SP_end_12 d_SP_end_15 d_SP_end_16 d_SP_end_19 (Nat.le_refl _) (fun t a h => Or.inr ⟨x_IAE, a, ⟨rfl, by simp only [Int32.lt_iff_toInt_lt, Int32.le_iff_toInt_le, z_0, z_1, z_5, z_6, z_7, z_9, z_10, z_11, z_13, z_20, z_41] at c_1 ⊢; omega⟩, rfl, h⟩) hlocks
  · refine lv_iload_n hx hb d_SP_end_4 rfl (lv_at hl 1 rfl) ?_
    refine lv_aload_n hx hb d_SP_end_5 rfl (lv_at hl 0 rfl) ?_
    refine va_get (D := (dC, dI)) (ci := 0) (v := .int 0) (C := "ScholarsPress") (T := F_SP) (N := 21) hx hb hts in_SP hown hK hP 0 rfl rfl 1 (by decide) (hts (.fieldLink "ScholarsPress" 45 "ScholarsPress" "tapeLength" "I") k_501) (fun _ h9 => h9) rfl d_SP_end_6 ?_
    refine lv_icmp_le (tgt := 20) hx hb d_SP_end_9 (by decide) (fun c_2 => ?_) (fun c_2 => ?_)
    · refine lv_aload_n hx hb d_SP_end_20 rfl (lv_at hl 0 rfl) ?_
      refine lv_iload_n hx hb d_SP_end_21 rfl (lv_at hl 1 rfl) ?_
      refine va_put (D := (dC, dI)) (ci := 0) (v := .int n) (ty := .int) (C := "ScholarsPress") (T := F_SP) (N := 21) hx hb hts in_SP t_SP t_SP_ok n_SP hown hK hP hD hS 0 rfl rfl 1 (by decide) (hts (.fieldLink "ScholarsPress" 45 "ScholarsPress" "tapeLength" "I") k_501) (fun _ h9 => h9) rfl (by decide +kernel) rfl rfl (Nat.le_of_ble_eq_true rfl) d_SP_end_22 (fun H locs hP hD hS => ?_)
      have hP : va_P (dC, dI) classes [(x, .inr (0, [.ref tp, .int n, .int ((-1)), .ref sg, .null, .null, .ref st, .null, .ref ft, .null, .ref hy, .null, .null, .int 0, .null, .null, .null, .null, .null, .null, .int 0]))] H := hP
      have hD : va_D A [(x, .inr (0, [.ref tp, .int n, .int ((-1)), .ref sg, .null, .null, .ref st, .null, .ref ft, .null, .ref hy, .null, .null, .int 0, .null, .null, .null, .null, .null, .null, .int 0]))] := hD
      refine lv_iload_n hx hb d_SP_end_25 rfl (lv_at hl 1 rfl) ?_
      refine W.widen (k := 1) (n := 6) (by decide) (by decide) ?_
      exact te_of (W.iret (v := n) hx hb hr (fun t ht hW => Or.inl ⟨_, rfl, ⟨n, (), rfl, ⟨rfl, by simp only [Int32.lt_iff_toInt_lt, Int32.le_iff_toInt_le, z_0, z_1, z_5, z_6, z_7, z_9, z_10, z_11, z_13, z_20, z_41] at c_1 c_2 ⊢; omega⟩, trivial⟩, hS.F ht⟩) hS.2.2 d_SP_end_26)
    · exact te_throw hx hb (te_tr hfl B.admits) (own := "ScholarsPress") (cls := x_IAE) (names := ["java/lang/RuntimeException", "java/lang/Exception"]) (iN := iN_IAE) (ic := ic_IAE) hown xf_IAE xn (te_own hS0 hB0 hb0 xo_IAE xh_IAE) (hts _ xl_IAE) (hts _ xi_IAE) (BodyLoose.noHandlers B (hw0 _ List.mem_cons_self)) (hl.1.trans hml.symm) (Nat.le_of_ble_eq_true rfl) (Nat.le_of_ble_eq_true rfl) (Nat.lt_of_sub_pos (by decide)) (Nat.le_of_ble_eq_true rfl) d_SP_end_12 d_SP_end_15 d_SP_end_16 d_SP_end_19 (Nat.le_refl _) (fun t a h => Or.inr ⟨x_IAE, a, ⟨rfl, by simp only [Int32.lt_iff_toInt_lt, Int32.le_iff_toInt_le, z_0, z_1, z_5, z_6, z_7, z_9, z_10, z_11, z_13, z_20, z_41] at c_1 c_2 ⊢; omega⟩, rfl, h⟩) hlocks
end
section
/-! CALLS IN ONE ROW: pr, a method's start; bw, the world behind it; vi_i, vi_l, vi_v: the callee's cells cut out and put back -/
def pr (sz : Nat) (D : va_G) (ws : va_W) (tys : List (ClassId × FieldType)) (U : State) : Prop := U.heap.size = sz ∧ tb U ∧ va_P D classes ws U.heap ∧ va_K D classes tys U ∧ va_D (fun _ => True) ws
def bw {S : Type} (D : va_G) (A : Nat → Prop) (w1 : S → va_W) (t1 : S → List (ClassId × FieldType)) (u : S) (t : State) : Prop := va_P D classes (w1 u) t.heap ∧ va_K D classes (t1 u) t ∧ va_D A (w1 u)
theorem pr_blind {av : List Value} {sz : Nat} {D : va_G} {ws : va_W} {tys : List (ClassId × FieldType)} : FrameBlind (va_Pc av (pr sz D ws tys)) := by
  intro a U g mk h
  obtain ⟨h0, h1, h2, h3, h4, h5⟩ := h
  exact ⟨h0, h1, h2.calling, h3, va_K.moved (u := U) (U := U.calling g mk a) (Vm.Alike.refl U.vm) h4, h5⟩
theorem pr_pre {av : List Value} {D : va_G} {ws : va_W} {tys : List (ClassId × FieldType)} {s : State} {H : Heap} {A : Nat → Prop} (hb : tb s) (hP : va_P D classes ws H) (hK : va_K D classes tys s) (hD : va_D A ws) : ∀ U : State, U.heap = H → s.WarmedH U.vm → va_Pc av (pr H.size D ws tys) av.toArray U := by
  intro U hU hW
  exact ⟨rfl, by rw [hU], hb.warm hW, by rw [hU]; exact hP, va_K.moved hW.alike hK, hD.weaken (fun _ _ _ _ => trivial)⟩
section VI
variable {p : Program} {l : Launch} {e : Env} {R : Room} {s : State} {m : MethodId} {args : Array Value} {below : List Frame} {meth : Method} {c : Code} {H : Heap} {locs : List Loc} {cells slots mc ms : Nat} {Q : State → Prop} {A : Nat → Prop} {pc : Nat} {ls : Array Slot} {rest st0 : List Value} {a : Array Value} {D : va_G} {ws wc wr : va_W} {tys : List (ClassId × FieldType)} {S : Type} {w1 : S → va_W} {t1 : S → List (ClassId × FieldType)}
theorem vi_i {post : Int32 → S → Prop} (hr : va_Run p l e R s m args below meth c H locs cells slots mc ms (F0 m pc ls st0) rest (va_Qi post (bw D (va_A wc H.size) w1 t1) (va_A wc H.size) a) (va_A wc H.size)) (hP : va_P D classes ws H) (hD : va_D A ws) (hK : va_K D classes tys s) (hS : va_S A s.heap H locs) (hA : ∀ q, s.heap.size ≤ q → A q)
    (isC isR : List Nat) (hC : isC.map (fun i => ws[i]?) = wc.map some) (hR : isR.map (fun i => ws[i]?) = wr.map some) (hn : va_nd isR = true) (hdis : ∀ i ∈ isR, i ∉ isC)
    (kk : ∀ (r : Int32) (u : S) (H1 : Heap) (locs1 : List Loc), post r u → va_P D classes (wr ++ w1 u) H1 → va_K D classes (tys ++ t1 u) s → va_D A (wr ++ w1 u) → va_S A s.heap H1 locs1 → W p l e R s m args below meth c H1 locs1 (cells + mc) (slots + ms) Q (F0 m (pc + 3) ls (.int r :: rest))) : W p l e R s m args below meth c H locs cells slots Q (F0 m pc ls st0) := by
  have hFc := va_free (wc := wc) hD hS hA isC hC
  refine va_calli hr hS (fun q _ h => hFc q h) hFc (fun r u t H1 locs1 ht hvm hw hB hz1 hk1 hS1 => ?_)
  obtain ⟨hP1, hK1, hD1⟩ := hB
  rw [ht] at hP1
  have hK1 := va_K.moved hvm.symm hK1
  obtain ⟨hP2, hD2⟩ := va_join (wr := wr) (w1 := w1 u) hP hD isC isR hC hR hn hdis hk1 hFc hP1 hD1
  exact kk r u H1 locs1 hw hP2 (hK.app hK1) hD2 hS1
theorem vi_l {post : Int64 → S → Prop} (hr : va_Run p l e R s m args below meth c H locs cells slots mc ms (F0 m pc ls st0) rest (va_Ql post (bw D (va_A wc H.size) w1 t1) (va_A wc H.size) a) (va_A wc H.size)) (hP : va_P D classes ws H) (hD : va_D A ws) (hK : va_K D classes tys s) (hS : va_S A s.heap H locs) (hA : ∀ q, s.heap.size ≤ q → A q)
    (isC isR : List Nat) (hC : isC.map (fun i => ws[i]?) = wc.map some) (hR : isR.map (fun i => ws[i]?) = wr.map some) (hn : va_nd isR = true) (hdis : ∀ i ∈ isR, i ∉ isC)
    (kk : ∀ (r : Int64) (u : S) (H1 : Heap) (locs1 : List Loc), post r u → va_P D classes (wr ++ w1 u) H1 → va_K D classes (tys ++ t1 u) s → va_D A (wr ++ w1 u) → va_S A s.heap H1 locs1 → W p l e R s m args below meth c H1 locs1 (cells + mc) (slots + ms) Q (F0 m (pc + 3) ls (.long r :: rest))) : W p l e R s m args below meth c H locs cells slots Q (F0 m pc ls st0) := by
  have hFc := va_free (wc := wc) hD hS hA isC hC
  refine va_calll hr hS (fun q _ h => hFc q h) hFc (fun r u t H1 locs1 ht hvm hw hB hz1 hk1 hS1 => ?_)
  obtain ⟨hP1, hK1, hD1⟩ := hB
  rw [ht] at hP1
  have hK1 := va_K.moved hvm.symm hK1
  obtain ⟨hP2, hD2⟩ := va_join (wr := wr) (w1 := w1 u) hP hD isC isR hC hR hn hdis hk1 hFc hP1 hD1
  exact kk r u H1 locs1 hw hP2 (hK.app hK1) hD2 hS1
theorem vi_v {post : S → Prop} (hr : va_Run p l e R s m args below meth c H locs cells slots mc ms (F0 m pc ls st0) rest (va_Qv post (bw D (va_A wc H.size) w1 t1) (va_A wc H.size) a) (va_A wc H.size)) (hP : va_P D classes ws H) (hD : va_D A ws) (hK : va_K D classes tys s) (hS : va_S A s.heap H locs) (hA : ∀ q, s.heap.size ≤ q → A q)
    (isC isR : List Nat) (hC : isC.map (fun i => ws[i]?) = wc.map some) (hR : isR.map (fun i => ws[i]?) = wr.map some) (hn : va_nd isR = true) (hdis : ∀ i ∈ isR, i ∉ isC)
    (kk : ∀ (u : S) (H1 : Heap) (locs1 : List Loc), post u → va_P D classes (wr ++ w1 u) H1 → va_K D classes (tys ++ t1 u) s → va_D A (wr ++ w1 u) → va_S A s.heap H1 locs1 → W p l e R s m args below meth c H1 locs1 (cells + mc) (slots + ms) Q (F0 m (pc + 3) ls rest)) : W p l e R s m args below meth c H locs cells slots Q (F0 m pc ls st0) := by
  have hFc := va_free (wc := wc) hD hS hA isC hC
  refine va_callv hr hS (fun q _ h => hFc q h) hFc (fun u t H1 locs1 ht hvm hw hB hz1 hk1 hS1 => ?_)
  obtain ⟨hP1, hK1, hD1⟩ := hB
  rw [ht] at hP1
  have hK1 := va_K.moved hvm.symm hK1
  obtain ⟨hP2, hD2⟩ := va_join (wr := wr) (w1 := w1 u) hP hD isC isR hC hR hn hdis hk1 hFc hP1 hD1
  exact kk u H1 locs1 hw hP2 (hK.app hK1) hD2 hS1
end VI
/-- in(v, low, high), as a number -/
def in_v (v lo hi : Int32) : Int32 := if lo.toInt ≤ v.toInt ∧ v.toInt ≤ hi.toInt then 1 else 0
theorem in_0 {v lo hi : Int32} : in_v v lo hi = 0 ↔ ¬ (lo.toInt ≤ v.toInt ∧ v.toInt ≤ hi.toInt) := by
  unfold in_v
  split <;> rename_i h
  · exact ⟨fun q => absurd q (by decide), fun q => absurd h q⟩
  · exact ⟨fun _ => h, fun _ => rfl⟩
theorem tt_S2 {own : String} {idx : Nat} {y : MethodName} {b : ByteArray} {n : Nat} {r : Option FieldType} (h1 : Cond.methodLink own idx y ∈ tt) (h2 : Cond.static y ∈ tt) (h3 : Cond.initialized y.cls ∈ tt) (h4 : Cond.code y b n r ∈ tt) : GoodIn tt (va_wsS own idx y [Cond.code y b n r]) := by
  refine tt_good (fun w hw => ?_) rfl
  simp only [va_wsS, List.cons_append, List.nil_append, List.mem_cons, List.not_mem_nil, or_false] at hw
  rcases hw with rfl | rfl | rfl | rfl <;> assumption
end
section
abbrev b_SM_thrown : ByteArray := prog_14_method_2_code
abbrev y_SM_thrown : MethodName := ⟨"ScholarsPressModel", "thrown", "()I"⟩
abbrev w_SM_thrown : Cond := .code y_SM_thrown b_SM_thrown 1 (some .int)
theorem kw_SM_thrown : w_SM_thrown ∈ tt := tt_mem 3753 (by decide +kernel) (by decide +kernel)
abbrev b_SM_refuse : ByteArray := prog_14_method_3_code
abbrev y_SM_refuse : MethodName := ⟨"ScholarsPressModel", "refuse", "(I)I"⟩
abbrev w_SM_refuse : Cond := .code y_SM_refuse b_SM_refuse 2 (some .int)
theorem kw_SM_refuse : w_SM_refuse ∈ tt := tt_mem 3761 (by decide +kernel) (by decide +kernel)
abbrev b_SM_in : ByteArray := prog_14_method_4_code
abbrev y_SM_in : MethodName := ⟨"ScholarsPressModel", "in", "(III)Z"⟩
abbrev w_SM_in : Cond := .code y_SM_in b_SM_in 3 (some .boolean)
theorem kw_SM_in : w_SM_in ∈ tt := tt_mem 4104 (by decide +kernel) (by decide +kernel)
abbrev b_SM_set : ByteArray := prog_14_method_24_code
abbrev y_SM_set : MethodName := ⟨"ScholarsPressModel", "set", "(I)I"⟩
abbrev w_SM_set : Cond := .codeWith y_SM_set b_SM_set 4 (some .int) [(32, 57, 60, 170), (32, 57, 67, 172)]
theorem kw_SM_set : w_SM_set ∈ tt := tt_mem 4099 (by decide +kernel) (by decide +kernel)
abbrev b_SM_element : ByteArray := prog_14_method_25_code
abbrev y_SM_element : MethodName := ⟨"ScholarsPressModel", "element", "(II)I"⟩
abbrev w_SM_element : Cond := .code y_SM_element b_SM_element 3 (some .int)
theorem kw_SM_element : w_SM_element ∈ tt := tt_mem 4579 (by decide +kernel) (by decide +kernel)
abbrev b_SM_line : ByteArray := prog_14_method_27_code
abbrev y_SM_line : MethodName := ⟨"ScholarsPressModel", "line", "(II)I"⟩
abbrev w_SM_line : Cond := .code y_SM_line b_SM_line 5 (some .int)
theorem kw_SM_line : w_SM_line ∈ tt := tt_mem 4590 (by decide +kernel) (by decide +kernel)
abbrev b_SM_change : ByteArray := prog_14_method_22_code
abbrev y_SM_change : MethodName := ⟨"ScholarsPressModel", "change", "(II)I"⟩
abbrev w_SM_change : Cond := .codeWith y_SM_change b_SM_change 5 (some .int) [(196, 208, 211, 122)]
theorem kw_SM_change : w_SM_change ∈ tt := tt_mem 4091 (by decide +kernel) (by decide +kernel)
abbrev b_SM_where : ByteArray := prog_14_method_31_code
abbrev y_SM_where : MethodName := ⟨"ScholarsPressModel", "where", "(I)I"⟩
abbrev w_SM_where : Cond := .code y_SM_where b_SM_where 3 (some .int)
theorem kw_SM_where : w_SM_where ∈ tt := tt_mem 4630 (by decide +kernel) (by decide +kernel)
abbrev b_SM_note : ByteArray := prog_14_method_32_code
abbrev y_SM_note : MethodName := ⟨"ScholarsPressModel", "note", "(II)I"⟩
abbrev w_SM_note : Cond := .code y_SM_note b_SM_note 4 (some .int)
theorem kw_SM_note : w_SM_note ∈ tt := tt_mem 4635 (by decide +kernel) (by decide +kernel)
abbrev b_SM_wavering : ByteArray := prog_14_method_33_code
abbrev y_SM_wavering : MethodName := ⟨"ScholarsPressModel", "wavering", "(I)I"⟩
abbrev w_SM_wavering : Cond := .code y_SM_wavering b_SM_wavering 4 (some .int)
theorem kw_SM_wavering : w_SM_wavering ∈ tt := tt_mem 4639 (by decide +kernel) (by decide +kernel)
abbrev b_SM_print : ByteArray := prog_14_method_39_code
abbrev y_SM_print : MethodName := ⟨"ScholarsPressModel", "print", "(I)I"⟩
abbrev w_SM_print : Cond := .code y_SM_print b_SM_print 5 (some .int)
theorem kw_SM_print : w_SM_print ∈ tt := tt_mem 4643 (by decide +kernel) (by decide +kernel)
abbrev b_SM_spot : ByteArray := prog_14_method_28_code
abbrev y_SM_spot : MethodName := ⟨"ScholarsPressModel", "spot", "(II)J"⟩
abbrev w_SM_spot : Cond := .code y_SM_spot b_SM_spot 5 (some .long)
theorem kw_SM_spot : w_SM_spot ∈ tt := tt_mem 4602 (by decide +kernel) (by decide +kernel)
abbrev b_SM_paragraph : ByteArray := prog_14_method_29_code
abbrev y_SM_paragraph : MethodName := ⟨"ScholarsPressModel", "paragraph", "(II)J"⟩
abbrev w_SM_paragraph : Cond := .code y_SM_paragraph b_SM_paragraph 3 (some .long)
theorem kw_SM_paragraph : w_SM_paragraph ∈ tt := tt_mem 4616 (by decide +kernel) (by decide +kernel)
abbrev b_SM_judge : ByteArray := prog_14_method_30_code
abbrev y_SM_judge : MethodName := ⟨"ScholarsPressModel", "judge", "(I)J"⟩
abbrev w_SM_judge : Cond := .code y_SM_judge b_SM_judge 7 (some .long)
theorem kw_SM_judge : w_SM_judge ∈ tt := tt_mem 4620 (by decide +kernel) (by decide +kernel)
abbrev b_SM_word : ByteArray := prog_14_method_40_code
abbrev y_SM_word : MethodName := ⟨"ScholarsPressModel", "word", "(I)J"⟩
abbrev w_SM_word : Cond := .code y_SM_word b_SM_word 5 (some .long)
theorem kw_SM_word : w_SM_word ∈ tt := tt_mem 4682 (by decide +kernel) (by decide +kernel)
abbrev b_SM_place : ByteArray := prog_14_method_23_code
abbrev y_SM_place : MethodName := ⟨"ScholarsPressModel", "place", "()I"⟩
abbrev w_SM_place : Cond := .code y_SM_place b_SM_place 1 (some .int)
theorem kw_SM_place : w_SM_place ∈ tt := tt_mem 4095 (by decide +kernel) (by decide +kernel)
abbrev b_SP_place : ByteArray := prog_1_method_9_code
abbrev y_SP_place : MethodName := ⟨"ScholarsPress", "place", "()I"⟩
abbrev w_SP_place : Cond := .code y_SP_place b_SP_place 1 (some .int)
theorem kw_SP_place : w_SP_place ∈ tt := tt_mem 567 (by decide +kernel) (by decide +kernel)
abbrev b_SM_end : ByteArray := prog_14_method_14_code
abbrev y_SM_end : MethodName := ⟨"ScholarsPressModel", "end", "(I)I"⟩
abbrev w_SM_end : Cond := .code y_SM_end b_SM_end 2 (some .int)
theorem kw_SM_end : w_SM_end ∈ tt := tt_mem 3769 (by decide +kernel) (by decide +kernel)
abbrev b_SM_count : ByteArray := prog_14_method_26_code
abbrev y_SM_count : MethodName := ⟨"ScholarsPressModel", "count", "(I)I"⟩
abbrev w_SM_count : Cond := .code y_SM_count b_SM_count 2 (some .int)
theorem kw_SM_count : w_SM_count ∈ tt := tt_mem 4586 (by decide +kernel) (by decide +kernel)
theorem k_122 : Cond.selects "ScholarsPressModel" ⟨"ScholarsPressModel", "refuse", "(I)I"⟩ ⟨"ScholarsPressModel", "refuse", "(I)I"⟩ ∈ tt := tt_mem 122 (by decide +kernel) (by decide +kernel)
theorem k_247 : Cond.initialized "ScholarsPressModel" ∈ tt := tt_mem 247 (by decide +kernel) (by decide +kernel)
theorem k_502 : Cond.fieldLink "ScholarsPress" 13 "ScholarsPress" "brokenAt" "I" ∈ tt := tt_mem 502 (by decide +kernel) (by decide +kernel)
theorem k_2976 : Cond.fieldLink "ScholarsPressModel" 154 "ScholarsPressModel$Source" "there" "Z" ∈ tt := tt_mem 2976 (by decide +kernel) (by decide +kernel)
theorem k_3680 : Cond.fieldLink "ScholarsPressModel" 87 "ScholarsPressModel" "thrown" "I" ∈ tt := tt_mem 3680 (by decide +kernel) (by decide +kernel)
theorem k_3681 : Cond.fieldLink "ScholarsPressModel" 7 "ScholarsPressModel" "place" "I" ∈ tt := tt_mem 3681 (by decide +kernel) (by decide +kernel)
theorem k_3683 : Cond.fieldLink "ScholarsPressModel" 104 "ScholarsPressModel" "taped" "I" ∈ tt := tt_mem 3683 (by decide +kernel) (by decide +kernel)
theorem k_3690 : Cond.fieldLink "ScholarsPressModel" 50 "ScholarsPressModel" "source" "LScholarsPressModel$Source;" ∈ tt := tt_mem 3690 (by decide +kernel) (by decide +kernel)
theorem k_3697 : Cond.fieldLink "ScholarsPressModel" 174 "ScholarsPressModel" "isSet" "Z" ∈ tt := tt_mem 3697 (by decide +kernel) (by decide +kernel)
theorem k_3699 : Cond.fieldLink "ScholarsPressModel" 442 "ScholarsPressModel" "outLong" "I" ∈ tt := tt_mem 3699 (by decide +kernel) (by decide +kernel)
theorem k_3758 : Cond.methodLink "ScholarsPressModel" 107 ⟨"ScholarsPressModel", "refuse", "(I)I"⟩ ∈ tt := tt_mem 3758 (by decide +kernel) (by decide +kernel)
theorem k_3760 : Cond.instanceMethod ⟨"ScholarsPressModel", "refuse", "(I)I"⟩ ∈ tt := tt_mem 3760 (by decide +kernel) (by decide +kernel)
theorem k_4102 : Cond.methodLink "ScholarsPressModel" 162 ⟨"ScholarsPressModel", "in", "(III)Z"⟩ ∈ tt := tt_mem 4102 (by decide +kernel) (by decide +kernel)
theorem k_4103 : Cond.static ⟨"ScholarsPressModel", "in", "(III)Z"⟩ ∈ tt := tt_mem 4103 (by decide +kernel) (by decide +kernel)
theorem d_SM_change_0 : decode b_SM_change 0 = .ok (.iload_n 1, 1) := by decide +kernel
theorem d_SM_change_1 : decode b_SM_change 1 = .ok (.ifCond .lt 29, 3) := by decide +kernel
theorem d_SM_change_4 : decode b_SM_change 4 = .ok (.iload_n 1, 1) := by decide +kernel
theorem d_SM_change_5 : decode b_SM_change 5 = .ok (.iload_n 2, 1) := by decide +kernel
theorem d_SM_change_6 : decode b_SM_change 6 = .ok (.if_icmp .gt 24, 3) := by decide +kernel
theorem d_SM_change_9 : decode b_SM_change 9 = .ok (.aload_n 0, 1) := by decide +kernel
theorem d_SM_change_10 : decode b_SM_change 10 = .ok (.getfield 50, 3) := by decide +kernel
theorem d_SM_change_13 : decode b_SM_change 13 = .ok (.getfield 154, 3) := by decide +kernel
theorem d_SM_change_16 : decode b_SM_change 16 = .ok (.ifCond .eq 20, 3) := by decide +kernel
theorem d_SM_change_30 : decode b_SM_change 30 = .ok (.aload_n 0, 1) := by decide +kernel
theorem d_SM_change_31 : decode b_SM_change 31 = .ok (.iconst 1, 1) := by decide +kernel
theorem d_SM_change_32 : decode b_SM_change 32 = .ok (.invokevirtual 107, 3) := by decide +kernel
theorem d_SM_change_35 : decode b_SM_change 35 = .ok (.ireturn, 1) := by decide +kernel
theorem d_SM_change_36 : decode b_SM_change 36 = .ok (.aload_n 0, 1) := by decide +kernel
theorem d_SM_change_37 : decode b_SM_change 37 = .ok (.getfield 50, 3) := by decide +kernel
theorem d_SM_change_40 : decode b_SM_change 40 = .ok (.getfield 154, 3) := by decide +kernel
theorem d_SM_change_43 : decode b_SM_change 43 = .ok (.ifCond .ne 9, 3) := by decide +kernel
theorem d_SM_change_46 : decode b_SM_change 46 = .ok (.aload_n 0, 1) := by decide +kernel
theorem d_SM_change_47 : decode b_SM_change 47 = .ok (.iconst 2, 1) := by decide +kernel
theorem d_SM_change_48 : decode b_SM_change 48 = .ok (.invokevirtual 107, 3) := by decide +kernel
theorem d_SM_change_51 : decode b_SM_change 51 = .ok (.ireturn, 1) := by decide +kernel
theorem d_SM_count_0 : decode b_SM_count 0 = .ok (.iload_n 1, 1) := by decide +kernel
theorem d_SM_count_1 : decode b_SM_count 1 = .ok (.iconst 0, 1) := by decide +kernel
theorem d_SM_count_2 : decode b_SM_count 2 = .ok (.bipush 11, 2) := by decide +kernel
theorem d_SM_count_4 : decode b_SM_count 4 = .ok (.invokestatic 162, 3) := by decide +kernel
theorem d_SM_count_7 : decode b_SM_count 7 = .ok (.ifCond .ne 9, 3) := by decide +kernel
theorem d_SM_count_10 : decode b_SM_count 10 = .ok (.aload_n 0, 1) := by decide +kernel
theorem d_SM_count_11 : decode b_SM_count 11 = .ok (.iconst 1, 1) := by decide +kernel
theorem d_SM_count_12 : decode b_SM_count 12 = .ok (.invokevirtual 107, 3) := by decide +kernel
theorem d_SM_count_15 : decode b_SM_count 15 = .ok (.ireturn, 1) := by decide +kernel
theorem d_SM_count_16 : decode b_SM_count 16 = .ok (.aload_n 0, 1) := by decide +kernel
theorem d_SM_count_17 : decode b_SM_count 17 = .ok (.iconst 0, 1) := by decide +kernel
theorem d_SM_count_18 : decode b_SM_count 18 = .ok (.putfield 87, 3) := by decide +kernel
theorem d_SM_count_21 : decode b_SM_count 21 = .ok (.iload_n 1, 1) := by decide +kernel
theorem d_SM_count_22 : decode b_SM_count 22 = .ok (.tableswitch 92 0 2 #[26, 48, 70], 26) := by decide +kernel
theorem d_SM_count_48 : decode b_SM_count 48 = .ok (.aload_n 0, 1) := by decide +kernel
theorem d_SM_count_49 : decode b_SM_count 49 = .ok (.getfield 50, 3) := by decide +kernel
theorem d_SM_count_52 : decode b_SM_count 52 = .ok (.getfield 154, 3) := by decide +kernel
theorem d_SM_count_55 : decode b_SM_count 55 = .ok (.ifCond .eq 13, 3) := by decide +kernel
theorem d_SM_count_68 : decode b_SM_count 68 = .ok (.iconst 0, 1) := by decide +kernel
theorem d_SM_count_69 : decode b_SM_count 69 = .ok (.ireturn, 1) := by decide +kernel
theorem d_SM_count_70 : decode b_SM_count 70 = .ok (.aload_n 0, 1) := by decide +kernel
theorem d_SM_count_71 : decode b_SM_count 71 = .ok (.getfield 50, 3) := by decide +kernel
theorem d_SM_count_74 : decode b_SM_count 74 = .ok (.getfield 154, 3) := by decide +kernel
theorem d_SM_count_77 : decode b_SM_count 77 = .ok (.ifCond .eq 13, 3) := by decide +kernel
theorem d_SM_count_90 : decode b_SM_count 90 = .ok (.iconst 0, 1) := by decide +kernel
theorem d_SM_count_91 : decode b_SM_count 91 = .ok (.ireturn, 1) := by decide +kernel
theorem d_SM_count_92 : decode b_SM_count 92 = .ok (.aload_n 0, 1) := by decide +kernel
theorem d_SM_count_93 : decode b_SM_count 93 = .ok (.getfield 50, 3) := by decide +kernel
theorem d_SM_count_96 : decode b_SM_count 96 = .ok (.getfield 154, 3) := by decide +kernel
theorem d_SM_count_99 : decode b_SM_count 99 = .ok (.ifCond .eq 13, 3) := by decide +kernel
theorem d_SM_count_112 : decode b_SM_count 112 = .ok (.iconst 0, 1) := by decide +kernel
theorem d_SM_count_113 : decode b_SM_count 113 = .ok (.ireturn, 1) := by decide +kernel
theorem d_SM_count_114 : decode b_SM_count 114 = .ok (.aload_n 0, 1) := by decide +kernel
theorem d_SM_count_115 : decode b_SM_count 115 = .ok (.getfield 174, 3) := by decide +kernel
theorem d_SM_count_118 : decode b_SM_count 118 = .ok (.ifCond .ne 5, 3) := by decide +kernel
theorem d_SM_count_121 : decode b_SM_count 121 = .ok (.iconst 0, 1) := by decide +kernel
theorem d_SM_count_122 : decode b_SM_count 122 = .ok (.ireturn, 1) := by decide +kernel
theorem d_SM_element_0 : decode b_SM_element 0 = .ok (.iload_n 1, 1) := by decide +kernel
theorem d_SM_element_1 : decode b_SM_element 1 = .ok (.ifCond .lt 45, 3) := by decide +kernel
theorem d_SM_element_4 : decode b_SM_element 4 = .ok (.aload_n 0, 1) := by decide +kernel
theorem d_SM_element_5 : decode b_SM_element 5 = .ok (.getfield 50, 3) := by decide +kernel
theorem d_SM_element_8 : decode b_SM_element 8 = .ok (.getfield 154, 3) := by decide +kernel
theorem d_SM_element_11 : decode b_SM_element 11 = .ok (.ifCond .eq 14, 3) := by decide +kernel
theorem d_SM_element_25 : decode b_SM_element 25 = .ok (.iload_n 2, 1) := by decide +kernel
theorem d_SM_element_26 : decode b_SM_element 26 = .ok (.iconst 0, 1) := by decide +kernel
theorem d_SM_element_27 : decode b_SM_element 27 = .ok (.bipush 7, 2) := by decide +kernel
theorem d_SM_element_29 : decode b_SM_element 29 = .ok (.invokestatic 162, 3) := by decide +kernel
theorem d_SM_element_32 : decode b_SM_element 32 = .ok (.ifCond .ne 20, 3) := by decide +kernel
theorem d_SM_element_35 : decode b_SM_element 35 = .ok (.iload_n 2, 1) := by decide +kernel
theorem d_SM_element_36 : decode b_SM_element 36 = .ok (.bipush 20, 2) := by decide +kernel
theorem d_SM_element_38 : decode b_SM_element 38 = .ok (.bipush 41, 2) := by decide +kernel
theorem d_SM_element_40 : decode b_SM_element 40 = .ok (.invokestatic 162, 3) := by decide +kernel
theorem d_SM_element_43 : decode b_SM_element 43 = .ok (.ifCond .ne 9, 3) := by decide +kernel
theorem d_SM_element_46 : decode b_SM_element 46 = .ok (.aload_n 0, 1) := by decide +kernel
theorem d_SM_element_47 : decode b_SM_element 47 = .ok (.iconst 1, 1) := by decide +kernel
theorem d_SM_element_48 : decode b_SM_element 48 = .ok (.invokevirtual 107, 3) := by decide +kernel
theorem d_SM_element_51 : decode b_SM_element 51 = .ok (.ireturn, 1) := by decide +kernel
theorem d_SM_element_52 : decode b_SM_element 52 = .ok (.aload_n 0, 1) := by decide +kernel
theorem d_SM_element_53 : decode b_SM_element 53 = .ok (.getfield 50, 3) := by decide +kernel
theorem d_SM_element_56 : decode b_SM_element 56 = .ok (.getfield 154, 3) := by decide +kernel
theorem d_SM_element_59 : decode b_SM_element 59 = .ok (.ifCond .ne 9, 3) := by decide +kernel
theorem d_SM_element_62 : decode b_SM_element 62 = .ok (.aload_n 0, 1) := by decide +kernel
theorem d_SM_element_63 : decode b_SM_element 63 = .ok (.iconst 2, 1) := by decide +kernel
theorem d_SM_element_64 : decode b_SM_element 64 = .ok (.invokevirtual 107, 3) := by decide +kernel
theorem d_SM_element_67 : decode b_SM_element 67 = .ok (.ireturn, 1) := by decide +kernel
theorem d_SM_end_0 : decode b_SM_end 0 = .ok (.iload_n 1, 1) := by decide +kernel
theorem d_SM_end_1 : decode b_SM_end 1 = .ok (.ifCond .lt 11, 3) := by decide +kernel
theorem d_SM_end_4 : decode b_SM_end 4 = .ok (.iload_n 1, 1) := by decide +kernel
theorem d_SM_end_5 : decode b_SM_end 5 = .ok (.aload_n 0, 1) := by decide +kernel
theorem d_SM_end_6 : decode b_SM_end 6 = .ok (.getfield 104, 3) := by decide +kernel
theorem d_SM_end_9 : decode b_SM_end 9 = .ok (.if_icmp .le 9, 3) := by decide +kernel
theorem d_SM_end_12 : decode b_SM_end 12 = .ok (.aload_n 0, 1) := by decide +kernel
theorem d_SM_end_13 : decode b_SM_end 13 = .ok (.iconst 1, 1) := by decide +kernel
theorem d_SM_end_14 : decode b_SM_end 14 = .ok (.invokevirtual 107, 3) := by decide +kernel
theorem d_SM_end_17 : decode b_SM_end 17 = .ok (.ireturn, 1) := by decide +kernel
theorem d_SM_end_18 : decode b_SM_end 18 = .ok (.aload_n 0, 1) := by decide +kernel
theorem d_SM_end_19 : decode b_SM_end 19 = .ok (.iconst 0, 1) := by decide +kernel
theorem d_SM_end_20 : decode b_SM_end 20 = .ok (.putfield 87, 3) := by decide +kernel
theorem d_SM_end_23 : decode b_SM_end 23 = .ok (.aload_n 0, 1) := by decide +kernel
theorem d_SM_end_24 : decode b_SM_end 24 = .ok (.iload_n 1, 1) := by decide +kernel
theorem d_SM_end_25 : decode b_SM_end 25 = .ok (.putfield 104, 3) := by decide +kernel
theorem d_SM_end_28 : decode b_SM_end 28 = .ok (.iload_n 1, 1) := by decide +kernel
theorem d_SM_end_29 : decode b_SM_end 29 = .ok (.ireturn, 1) := by decide +kernel
theorem d_SM_in_0 : decode b_SM_in 0 = .ok (.iload_n 0, 1) := by decide +kernel
theorem d_SM_in_1 : decode b_SM_in 1 = .ok (.iload_n 1, 1) := by decide +kernel
theorem d_SM_in_2 : decode b_SM_in 2 = .ok (.if_icmp .lt 12, 3) := by decide +kernel
theorem d_SM_in_5 : decode b_SM_in 5 = .ok (.iload_n 0, 1) := by decide +kernel
theorem d_SM_in_6 : decode b_SM_in 6 = .ok (.iload_n 2, 1) := by decide +kernel
theorem d_SM_in_7 : decode b_SM_in 7 = .ok (.if_icmp .gt 7, 3) := by decide +kernel
theorem d_SM_in_10 : decode b_SM_in 10 = .ok (.iconst 1, 1) := by decide +kernel
theorem d_SM_in_11 : decode b_SM_in 11 = .ok (.goto 4, 3) := by decide +kernel
theorem d_SM_in_14 : decode b_SM_in 14 = .ok (.iconst 0, 1) := by decide +kernel
theorem d_SM_in_15 : decode b_SM_in 15 = .ok (.ireturn, 1) := by decide +kernel
theorem d_SM_judge_0 : decode b_SM_judge 0 = .ok (.aload_n 0, 1) := by decide +kernel
theorem d_SM_judge_1 : decode b_SM_judge 1 = .ok (.getfield 174, 3) := by decide +kernel
theorem d_SM_judge_4 : decode b_SM_judge 4 = .ok (.ifCond .ne 10, 3) := by decide +kernel
theorem d_SM_judge_7 : decode b_SM_judge 7 = .ok (.aload_n 0, 1) := by decide +kernel
theorem d_SM_judge_8 : decode b_SM_judge 8 = .ok (.iconst 1, 1) := by decide +kernel
theorem d_SM_judge_9 : decode b_SM_judge 9 = .ok (.invokevirtual 107, 3) := by decide +kernel
theorem d_SM_judge_12 : decode b_SM_judge 12 = .ok (.i2l, 1) := by decide +kernel
theorem d_SM_judge_13 : decode b_SM_judge 13 = .ok (.lreturn, 1) := by decide +kernel
theorem d_SM_line_0 : decode b_SM_line 0 = .ok (.iload_n 2, 1) := by decide +kernel
theorem d_SM_line_1 : decode b_SM_line 1 = .ok (.iconst 0, 1) := by decide +kernel
theorem d_SM_line_2 : decode b_SM_line 2 = .ok (.bipush 6, 2) := by decide +kernel
theorem d_SM_line_4 : decode b_SM_line 4 = .ok (.invokestatic 162, 3) := by decide +kernel
theorem d_SM_line_7 : decode b_SM_line 7 = .ok (.ifCond .ne 9, 3) := by decide +kernel
theorem d_SM_line_10 : decode b_SM_line 10 = .ok (.aload_n 0, 1) := by decide +kernel
theorem d_SM_line_11 : decode b_SM_line 11 = .ok (.iconst 1, 1) := by decide +kernel
theorem d_SM_line_12 : decode b_SM_line 12 = .ok (.invokevirtual 107, 3) := by decide +kernel
theorem d_SM_line_15 : decode b_SM_line 15 = .ok (.ireturn, 1) := by decide +kernel
theorem d_SM_line_16 : decode b_SM_line 16 = .ok (.aload_n 0, 1) := by decide +kernel
theorem d_SM_line_17 : decode b_SM_line 17 = .ok (.getfield 174, 3) := by decide +kernel
theorem d_SM_line_20 : decode b_SM_line 20 = .ok (.ifCond .ne 9, 3) := by decide +kernel
theorem d_SM_line_23 : decode b_SM_line 23 = .ok (.aload_n 0, 1) := by decide +kernel
theorem d_SM_line_24 : decode b_SM_line 24 = .ok (.iconst 2, 1) := by decide +kernel
theorem d_SM_line_25 : decode b_SM_line 25 = .ok (.invokevirtual 107, 3) := by decide +kernel
theorem d_SM_line_28 : decode b_SM_line 28 = .ok (.ireturn, 1) := by decide +kernel
theorem d_SM_note_0 : decode b_SM_note 0 = .ok (.iload_n 2, 1) := by decide +kernel
theorem d_SM_note_1 : decode b_SM_note 1 = .ok (.iconst 0, 1) := by decide +kernel
theorem d_SM_note_2 : decode b_SM_note 2 = .ok (.iconst 5, 1) := by decide +kernel
theorem d_SM_note_3 : decode b_SM_note 3 = .ok (.invokestatic 162, 3) := by decide +kernel
theorem d_SM_note_6 : decode b_SM_note 6 = .ok (.ifCond .ne 20, 3) := by decide +kernel
theorem d_SM_note_9 : decode b_SM_note 9 = .ok (.iload_n 2, 1) := by decide +kernel
theorem d_SM_note_10 : decode b_SM_note 10 = .ok (.bipush 10, 2) := by decide +kernel
theorem d_SM_note_12 : decode b_SM_note 12 = .ok (.bipush 13, 2) := by decide +kernel
theorem d_SM_note_14 : decode b_SM_note 14 = .ok (.invokestatic 162, 3) := by decide +kernel
theorem d_SM_note_17 : decode b_SM_note 17 = .ok (.ifCond .ne 9, 3) := by decide +kernel
theorem d_SM_note_20 : decode b_SM_note 20 = .ok (.aload_n 0, 1) := by decide +kernel
theorem d_SM_note_21 : decode b_SM_note 21 = .ok (.iconst 1, 1) := by decide +kernel
theorem d_SM_note_22 : decode b_SM_note 22 = .ok (.invokevirtual 107, 3) := by decide +kernel
theorem d_SM_note_25 : decode b_SM_note 25 = .ok (.ireturn, 1) := by decide +kernel
theorem d_SM_note_26 : decode b_SM_note 26 = .ok (.aload_n 0, 1) := by decide +kernel
theorem d_SM_note_27 : decode b_SM_note 27 = .ok (.getfield 174, 3) := by decide +kernel
theorem d_SM_note_30 : decode b_SM_note 30 = .ok (.ifCond .ne 9, 3) := by decide +kernel
theorem d_SM_note_33 : decode b_SM_note 33 = .ok (.aload_n 0, 1) := by decide +kernel
theorem d_SM_note_34 : decode b_SM_note 34 = .ok (.iconst 2, 1) := by decide +kernel
theorem d_SM_note_35 : decode b_SM_note 35 = .ok (.invokevirtual 107, 3) := by decide +kernel
theorem d_SM_note_38 : decode b_SM_note 38 = .ok (.ireturn, 1) := by decide +kernel
theorem d_SM_paragraph_0 : decode b_SM_paragraph 0 = .ok (.iload_n 2, 1) := by decide +kernel
theorem d_SM_paragraph_1 : decode b_SM_paragraph 1 = .ok (.iconst 0, 1) := by decide +kernel
theorem d_SM_paragraph_2 : decode b_SM_paragraph 2 = .ok (.bipush 6, 2) := by decide +kernel
theorem d_SM_paragraph_4 : decode b_SM_paragraph 4 = .ok (.invokestatic 162, 3) := by decide +kernel
theorem d_SM_paragraph_7 : decode b_SM_paragraph 7 = .ok (.ifCond .ne 10, 3) := by decide +kernel
theorem d_SM_paragraph_10 : decode b_SM_paragraph 10 = .ok (.aload_n 0, 1) := by decide +kernel
theorem d_SM_paragraph_11 : decode b_SM_paragraph 11 = .ok (.iconst 1, 1) := by decide +kernel
theorem d_SM_paragraph_12 : decode b_SM_paragraph 12 = .ok (.invokevirtual 107, 3) := by decide +kernel
theorem d_SM_paragraph_15 : decode b_SM_paragraph 15 = .ok (.i2l, 1) := by decide +kernel
theorem d_SM_paragraph_16 : decode b_SM_paragraph 16 = .ok (.lreturn, 1) := by decide +kernel
theorem d_SM_paragraph_17 : decode b_SM_paragraph 17 = .ok (.aload_n 0, 1) := by decide +kernel
theorem d_SM_paragraph_18 : decode b_SM_paragraph 18 = .ok (.getfield 174, 3) := by decide +kernel
theorem d_SM_paragraph_21 : decode b_SM_paragraph 21 = .ok (.ifCond .ne 10, 3) := by decide +kernel
theorem d_SM_paragraph_24 : decode b_SM_paragraph 24 = .ok (.aload_n 0, 1) := by decide +kernel
theorem d_SM_paragraph_25 : decode b_SM_paragraph 25 = .ok (.iconst 2, 1) := by decide +kernel
theorem d_SM_paragraph_26 : decode b_SM_paragraph 26 = .ok (.invokevirtual 107, 3) := by decide +kernel
theorem d_SM_paragraph_29 : decode b_SM_paragraph 29 = .ok (.i2l, 1) := by decide +kernel
theorem d_SM_paragraph_30 : decode b_SM_paragraph 30 = .ok (.lreturn, 1) := by decide +kernel
theorem d_SM_place_0 : decode b_SM_place 0 = .ok (.aload_n 0, 1) := by decide +kernel
theorem d_SM_place_1 : decode b_SM_place 1 = .ok (.iconst 0, 1) := by decide +kernel
theorem d_SM_place_2 : decode b_SM_place 2 = .ok (.putfield 87, 3) := by decide +kernel
theorem d_SM_place_5 : decode b_SM_place 5 = .ok (.aload_n 0, 1) := by decide +kernel
theorem d_SM_place_6 : decode b_SM_place 6 = .ok (.getfield 7, 3) := by decide +kernel
theorem d_SM_place_9 : decode b_SM_place 9 = .ok (.ireturn, 1) := by decide +kernel
theorem d_SM_print_0 : decode b_SM_print 0 = .ok (.aload_n 0, 1) := by decide +kernel
theorem d_SM_print_1 : decode b_SM_print 1 = .ok (.getfield 174, 3) := by decide +kernel
theorem d_SM_print_4 : decode b_SM_print 4 = .ok (.ifCond .ne 9, 3) := by decide +kernel
theorem d_SM_print_7 : decode b_SM_print 7 = .ok (.aload_n 0, 1) := by decide +kernel
theorem d_SM_print_8 : decode b_SM_print 8 = .ok (.iconst 1, 1) := by decide +kernel
theorem d_SM_print_9 : decode b_SM_print 9 = .ok (.invokevirtual 107, 3) := by decide +kernel
theorem d_SM_print_12 : decode b_SM_print 12 = .ok (.ireturn, 1) := by decide +kernel
theorem d_SM_refuse_0 : decode b_SM_refuse 0 = .ok (.aload_n 0, 1) := by decide +kernel
theorem d_SM_refuse_1 : decode b_SM_refuse 1 = .ok (.iload_n 1, 1) := by decide +kernel
theorem d_SM_refuse_2 : decode b_SM_refuse 2 = .ok (.putfield 87, 3) := by decide +kernel
theorem d_SM_refuse_5 : decode b_SM_refuse 5 = .ok (.iconst 0, 1) := by decide +kernel
theorem d_SM_refuse_6 : decode b_SM_refuse 6 = .ok (.ireturn, 1) := by decide +kernel
theorem d_SM_set_0 : decode b_SM_set 0 = .ok (.iload_n 1, 1) := by decide +kernel
theorem d_SM_set_1 : decode b_SM_set 1 = .ok (.iconst 1, 1) := by decide +kernel
theorem d_SM_set_2 : decode b_SM_set 2 = .ok (.bipush 9, 2) := by decide +kernel
theorem d_SM_set_4 : decode b_SM_set 4 = .ok (.invokestatic 162, 3) := by decide +kernel
theorem d_SM_set_7 : decode b_SM_set 7 = .ok (.ifCond .ne 9, 3) := by decide +kernel
theorem d_SM_set_10 : decode b_SM_set 10 = .ok (.aload_n 0, 1) := by decide +kernel
theorem d_SM_set_11 : decode b_SM_set 11 = .ok (.iconst 1, 1) := by decide +kernel
theorem d_SM_set_12 : decode b_SM_set 12 = .ok (.invokevirtual 107, 3) := by decide +kernel
theorem d_SM_set_15 : decode b_SM_set 15 = .ok (.ireturn, 1) := by decide +kernel
theorem d_SM_set_16 : decode b_SM_set 16 = .ok (.aload_n 0, 1) := by decide +kernel
theorem d_SM_set_17 : decode b_SM_set 17 = .ok (.getfield 50, 3) := by decide +kernel
theorem d_SM_set_20 : decode b_SM_set 20 = .ok (.getfield 154, 3) := by decide +kernel
theorem d_SM_set_23 : decode b_SM_set 23 = .ok (.ifCond .ne 9, 3) := by decide +kernel
theorem d_SM_set_26 : decode b_SM_set 26 = .ok (.aload_n 0, 1) := by decide +kernel
theorem d_SM_set_27 : decode b_SM_set 27 = .ok (.iconst 2, 1) := by decide +kernel
theorem d_SM_set_28 : decode b_SM_set 28 = .ok (.invokevirtual 107, 3) := by decide +kernel
theorem d_SM_set_31 : decode b_SM_set 31 = .ok (.ireturn, 1) := by decide +kernel
theorem d_SM_spot_0 : decode b_SM_spot 0 = .ok (.aload_n 0, 1) := by decide +kernel
theorem d_SM_spot_1 : decode b_SM_spot 1 = .ok (.getfield 174, 3) := by decide +kernel
theorem d_SM_spot_4 : decode b_SM_spot 4 = .ok (.ifCond .ne 10, 3) := by decide +kernel
theorem d_SM_spot_7 : decode b_SM_spot 7 = .ok (.aload_n 0, 1) := by decide +kernel
theorem d_SM_spot_8 : decode b_SM_spot 8 = .ok (.iconst 1, 1) := by decide +kernel
theorem d_SM_spot_9 : decode b_SM_spot 9 = .ok (.invokevirtual 107, 3) := by decide +kernel
theorem d_SM_spot_12 : decode b_SM_spot 12 = .ok (.i2l, 1) := by decide +kernel
theorem d_SM_spot_13 : decode b_SM_spot 13 = .ok (.lreturn, 1) := by decide +kernel
theorem d_SM_thrown_0 : decode b_SM_thrown 0 = .ok (.aload_n 0, 1) := by decide +kernel
theorem d_SM_thrown_1 : decode b_SM_thrown 1 = .ok (.getfield 87, 3) := by decide +kernel
theorem d_SM_thrown_4 : decode b_SM_thrown 4 = .ok (.ireturn, 1) := by decide +kernel
theorem d_SM_wavering_0 : decode b_SM_wavering 0 = .ok (.aload_n 0, 1) := by decide +kernel
theorem d_SM_wavering_1 : decode b_SM_wavering 1 = .ok (.getfield 174, 3) := by decide +kernel
theorem d_SM_wavering_4 : decode b_SM_wavering 4 = .ok (.ifCond .ne 9, 3) := by decide +kernel
theorem d_SM_wavering_7 : decode b_SM_wavering 7 = .ok (.aload_n 0, 1) := by decide +kernel
theorem d_SM_wavering_8 : decode b_SM_wavering 8 = .ok (.iconst 1, 1) := by decide +kernel
theorem d_SM_wavering_9 : decode b_SM_wavering 9 = .ok (.invokevirtual 107, 3) := by decide +kernel
theorem d_SM_wavering_12 : decode b_SM_wavering 12 = .ok (.ireturn, 1) := by decide +kernel
theorem d_SM_where_0 : decode b_SM_where 0 = .ok (.iload_n 1, 1) := by decide +kernel
theorem d_SM_where_1 : decode b_SM_where 1 = .ok (.iconst 0, 1) := by decide +kernel
theorem d_SM_where_2 : decode b_SM_where 2 = .ok (.iconst 5, 1) := by decide +kernel
theorem d_SM_where_3 : decode b_SM_where 3 = .ok (.invokestatic 162, 3) := by decide +kernel
theorem d_SM_where_6 : decode b_SM_where 6 = .ok (.ifCond .ne 9, 3) := by decide +kernel
theorem d_SM_where_9 : decode b_SM_where 9 = .ok (.aload_n 0, 1) := by decide +kernel
theorem d_SM_where_10 : decode b_SM_where 10 = .ok (.iconst 1, 1) := by decide +kernel
theorem d_SM_where_11 : decode b_SM_where 11 = .ok (.invokevirtual 107, 3) := by decide +kernel
theorem d_SM_where_14 : decode b_SM_where 14 = .ok (.ireturn, 1) := by decide +kernel
theorem d_SM_where_15 : decode b_SM_where 15 = .ok (.aload_n 0, 1) := by decide +kernel
theorem d_SM_where_16 : decode b_SM_where 16 = .ok (.getfield 174, 3) := by decide +kernel
theorem d_SM_where_19 : decode b_SM_where 19 = .ok (.ifCond .ne 9, 3) := by decide +kernel
theorem d_SM_where_22 : decode b_SM_where 22 = .ok (.aload_n 0, 1) := by decide +kernel
theorem d_SM_where_23 : decode b_SM_where 23 = .ok (.iconst 2, 1) := by decide +kernel
theorem d_SM_where_24 : decode b_SM_where 24 = .ok (.invokevirtual 107, 3) := by decide +kernel
theorem d_SM_where_27 : decode b_SM_where 27 = .ok (.ireturn, 1) := by decide +kernel
theorem d_SM_word_0 : decode b_SM_word 0 = .ok (.iload_n 1, 1) := by decide +kernel
theorem d_SM_word_1 : decode b_SM_word 1 = .ok (.ifCond .lt 11, 3) := by decide +kernel
theorem d_SM_word_4 : decode b_SM_word 4 = .ok (.iload_n 1, 1) := by decide +kernel
theorem d_SM_word_5 : decode b_SM_word 5 = .ok (.aload_n 0, 1) := by decide +kernel
theorem d_SM_word_6 : decode b_SM_word 6 = .ok (.getfield 442, 3) := by decide +kernel
theorem d_SM_word_9 : decode b_SM_word 9 = .ok (.if_icmp .lt 10, 3) := by decide +kernel
theorem d_SM_word_12 : decode b_SM_word 12 = .ok (.aload_n 0, 1) := by decide +kernel
theorem d_SM_word_13 : decode b_SM_word 13 = .ok (.iconst 1, 1) := by decide +kernel
theorem d_SM_word_14 : decode b_SM_word 14 = .ok (.invokevirtual 107, 3) := by decide +kernel
theorem d_SM_word_17 : decode b_SM_word 17 = .ok (.i2l, 1) := by decide +kernel
theorem d_SM_word_18 : decode b_SM_word 18 = .ok (.lreturn, 1) := by decide +kernel
theorem d_SP_place_0 : decode b_SP_place 0 = .ok (.aload_n 0, 1) := by decide +kernel
theorem d_SP_place_1 : decode b_SP_place 1 = .ok (.getfield 13, 3) := by decide +kernel
theorem d_SP_place_4 : decode b_SP_place 4 = .ok (.ireturn, 1) := by decide +kernel
end
section
set_option maxHeartbeats 4000000 in
set_option maxRecDepth 100000 in
/-- thrown() -/
theorem c_SM_thrown (l : Launch) (dC : Nat → ClassId) (dI : Nat → Nat → Nat) (mo so : Nat) (mr sr : Nat → Nat) (th : Int32) (tq : Int32) (sz : Nat) : Met l y_SM_thrown [w_SM_thrown] ({ frames := 0, cells := 0, slots := 0, locals := 0 }) (va_Pc [.ref mo] (pr sz (dC, dI) [(mo, .inr (6, [.int th, .int ((-1)), .ref (mr 0), .int tq, .ref (mr 1), .ref (mr 2), .ref (mr 3), .ref (mr 4), .ref (mr 5), .ref (mr 6), .ref so, .ref (mr 7), .ref (mr 8), .ref (mr 9), .int 0, .ref (mr 10), .ref (mr 11), .int 0, .ref (mr 12), .int 0, .ref (mr 13), .int 0, .ref (mr 14)]))] [])) (va_Qi (fun (r : Int32) (u : Unit) => r = th) (bw (dC, dI) (va_A [(mo, .inr (6, [.int th, .int ((-1)), .ref (mr 0), .int tq, .ref (mr 1), .ref (mr 2), .ref (mr 3), .ref (mr 4), .ref (mr 5), .ref (mr 6), .ref so, .ref (mr 7), .ref (mr 8), .ref (mr 9), .int 0, .ref (mr 10), .ref (mr 11), .int 0, .ref (mr 12), .int 0, .ref (mr 13), .int 0, .ref (mr 14)]))] sz) (fun u : Unit => [(mo, .inr (6, [.int th, .int ((-1)), .ref (mr 0), .int tq, .ref (mr 1), .ref (mr 2), .ref (mr 3), .ref (mr 4), .ref (mr 5), .ref (mr 6), .ref so, .ref (mr 7), .ref (mr 8), .ref (mr 9), .int 0, .ref (mr 10), .ref (mr 11), .int 0, .ref (mr 12), .int 0, .ref (mr 13), .int 0, .ref (mr 14)]))]) (fun u : Unit => [])) (va_A [(mo, .inr (6, [.int th, .int ((-1)), .ref (mr 0), .int tq, .ref (mr 1), .ref (mr 2), .ref (mr 3), .ref (mr 4), .ref (mr 5), .ref (mr 6), .ref so, .ref (mr 7), .ref (mr 8), .ref (mr 9), .int 0, .ref (mr 10), .ref (mr 11), .int 0, .ref (mr 12), .int 0, .ref (mr 13), .int 0, .ref (mr 14)]))] sz)) 0 0 (va_A [(mo, .inr (6, [.int th, .int ((-1)), .ref (mr 0), .int tq, .ref (mr 1), .ref (mr 2), .ref (mr 3), .ref (mr 4), .ref (mr 5), .ref (mr 6), .ref so, .ref (mr 7), .ref (mr 8), .ref (mr 9), .int 0, .ref (mr 10), .ref (mr 11), .int 0, .ref (mr 12), .int 0, .ref (mr 13), .int 0, .ref (mr 14)]))] sz) := by
  refine Met.ofW (cc := b_SM_thrown) (maxL := 1) (ret := (some .int)) (by decide) rfl ?_
  intro p e s m args below meth c s₁ B hml hv
  obtain ⟨rfl, hsz, hb0, hP, hK, hD0⟩ := hv
  have hx := B.exec
  have hb := B.bytes
  have hr := B.returns
  have hts : ∀ wq ∈ tt, wq.before ([.ref mo] : List Value).toArray s = true := hb0.hts
  have hown : s.vm.findClass "ScholarsPressModel" = some m.cls := findClass_of_methodNamed B.named
  have hlocks := B.notSynchronized
  subst hsz
  have hD := hD0.self (sz := s.heap.size)
  generalize hAe : va_A [(mo, .inr (6, [.int th, .int ((-1)), .ref (mr 0), .int tq, .ref (mr 1), .ref (mr 2), .ref (mr 3), .ref (mr 4), .ref (mr 5), .ref (mr 6), .ref so, .ref (mr 7), .ref (mr 8), .ref (mr 9), .int 0, .ref (mr 10), .ref (mr 11), .int 0, .ref (mr 12), .int 0, .ref (mr 13), .int 0, .ref (mr 14)]))] s.heap.size = A at hD ⊢
  have hA : ∀ q : Nat, s.heap.size ≤ q → A q := fun q h => by rw [← hAe]; exact Or.inr h
  have hS : va_S A s.heap s.heap [] := va_S.rf
  have hP : va_P (dC, dI) classes [(mo, .inr (6, [.int th, .int ((-1)), .ref (mr 0), .int tq, .ref (mr 1), .ref (mr 2), .ref (mr 3), .ref (mr 4), .ref (mr 5), .ref (mr 6), .ref so, .ref (mr 7), .ref (mr 8), .ref (mr 9), .int 0, .ref (mr 10), .ref (mr 11), .int 0, .ref (mr 12), .int 0, .ref (mr 13), .int 0, .ref (mr 14)]))] s.heap := hP
  have hl := lv_entry ([.ref mo]) (n := 1) (Nat.le_of_ble_eq_true rfl)
  rw [lg_entry_eq]
  generalize (lg_sl ([.ref mo]) ++ List.replicate (1 - (lg_sl ([.ref mo])).length) Slot.unset).toArray = ls at hl ⊢
  have hl : lv_has ls 1 [(0, .ref mo)] := hl
  refine lv_aload_n hx hb d_SM_thrown_0 rfl (lv_at hl 0 rfl) ?_
  refine va_get (D := (dC, dI)) (ci := 6) (v := .int th) (C := "ScholarsPressModel") (T := F_SM) (N := 23) hx hb hts in_SM hown hK hP 0 rfl rfl 0 (by decide) (hts (.fieldLink "ScholarsPressModel" 87 "ScholarsPressModel" "thrown" "I") k_3680) (fun _ h9 => h9) rfl d_SM_thrown_1 ?_
  have hP9 := hP.sub (ws' := [(mo, .inr (6, [.int th, .int ((-1)), .ref (mr 0), .int tq, .ref (mr 1), .ref (mr 2), .ref (mr 3), .ref (mr 4), .ref (mr 5), .ref (mr 6), .ref so, .ref (mr 7), .ref (mr 8), .ref (mr 9), .int 0, .ref (mr 10), .ref (mr 11), .int 0, .ref (mr 12), .int 0, .ref (mr 13), .int 0, .ref (mr 14)]))]) [0] rfl
  have hD9 := hD.sub (ws' := [(mo, .inr (6, [.int th, .int ((-1)), .ref (mr 0), .int tq, .ref (mr 1), .ref (mr 2), .ref (mr 3), .ref (mr 4), .ref (mr 5), .ref (mr 6), .ref so, .ref (mr 7), .ref (mr 8), .ref (mr 9), .int 0, .ref (mr 10), .ref (mr 11), .int 0, .ref (mr 12), .int 0, .ref (mr 13), .int 0, .ref (mr 14)]))]) [0] (by decide) rfl
  have hK9 := hK.sub (tys' := []) [] rfl
  exact W.iret (v := th) hx hb hr (fun t ht hW => ⟨⟨th, (), rfl, rfl, by rw [ht]; exact hP9, va_K.moved hW.alike hK9, hD9⟩, hS.F ht⟩) hS.2.2 d_SM_thrown_4
set_option maxHeartbeats 4000000 in
set_option maxRecDepth 100000 in
/-- refuse(y): thrown is y, the answer 0 -/
theorem c_SM_refuse (l : Launch) (dC : Nat → ClassId) (dI : Nat → Nat → Nat) (mo so : Nat) (mr sr : Nat → Nat) (th : Int32) (y : Int32) (sz : Nat) : Met l y_SM_refuse [w_SM_refuse] ({ frames := 0, cells := 0, slots := 0, locals := 0 }) (va_Pc [.ref mo, .int y] (pr sz (dC, dI) [(mo, .inr (6, [.int th, .int ((-1)), .ref (mr 0), .int 0, .ref (mr 1), .ref (mr 2), .ref (mr 3), .ref (mr 4), .ref (mr 5), .ref (mr 6), .ref so, .ref (mr 7), .ref (mr 8), .ref (mr 9), .int 0, .ref (mr 10), .ref (mr 11), .int 0, .ref (mr 12), .int 0, .ref (mr 13), .int 0, .ref (mr 14)]))] [])) (va_Qi (fun (r : Int32) (u : Int32) => r = 0 ∧ u = y) (bw (dC, dI) (va_A [(mo, .inr (6, [.int th, .int ((-1)), .ref (mr 0), .int 0, .ref (mr 1), .ref (mr 2), .ref (mr 3), .ref (mr 4), .ref (mr 5), .ref (mr 6), .ref so, .ref (mr 7), .ref (mr 8), .ref (mr 9), .int 0, .ref (mr 10), .ref (mr 11), .int 0, .ref (mr 12), .int 0, .ref (mr 13), .int 0, .ref (mr 14)]))] sz) (fun u : Int32 => [(mo, .inr (6, [.int u, .int ((-1)), .ref (mr 0), .int 0, .ref (mr 1), .ref (mr 2), .ref (mr 3), .ref (mr 4), .ref (mr 5), .ref (mr 6), .ref so, .ref (mr 7), .ref (mr 8), .ref (mr 9), .int 0, .ref (mr 10), .ref (mr 11), .int 0, .ref (mr 12), .int 0, .ref (mr 13), .int 0, .ref (mr 14)]))]) (fun u : Int32 => [])) (va_A [(mo, .inr (6, [.int th, .int ((-1)), .ref (mr 0), .int 0, .ref (mr 1), .ref (mr 2), .ref (mr 3), .ref (mr 4), .ref (mr 5), .ref (mr 6), .ref so, .ref (mr 7), .ref (mr 8), .ref (mr 9), .int 0, .ref (mr 10), .ref (mr 11), .int 0, .ref (mr 12), .int 0, .ref (mr 13), .int 0, .ref (mr 14)]))] sz)) 0 0 (va_A [(mo, .inr (6, [.int th, .int ((-1)), .ref (mr 0), .int 0, .ref (mr 1), .ref (mr 2), .ref (mr 3), .ref (mr 4), .ref (mr 5), .ref (mr 6), .ref so, .ref (mr 7), .ref (mr 8), .ref (mr 9), .int 0, .ref (mr 10), .ref (mr 11), .int 0, .ref (mr 12), .int 0, .ref (mr 13), .int 0, .ref (mr 14)]))] sz) := by
  refine Met.ofW (cc := b_SM_refuse) (maxL := 2) (ret := (some .int)) (by decide) rfl ?_
  intro p e s m args below meth c s₁ B hml hv
  obtain ⟨rfl, hsz, hb0, hP, hK, hD0⟩ := hv
  have hx := B.exec
  have hb := B.bytes
  have hr := B.returns
  have hts : ∀ wq ∈ tt, wq.before ([.ref mo, .int y] : List Value).toArray s = true := hb0.hts
  have hown : s.vm.findClass "ScholarsPressModel" = some m.cls := findClass_of_methodNamed B.named
  have hlocks := B.notSynchronized
  subst hsz
  have hD := hD0.self (sz := s.heap.size)
  generalize hAe : va_A [(mo, .inr (6, [.int th, .int ((-1)), .ref (mr 0), .int 0, .ref (mr 1), .ref (mr 2), .ref (mr 3), .ref (mr 4), .ref (mr 5), .ref (mr 6), .ref so, .ref (mr 7), .ref (mr 8), .ref (mr 9), .int 0, .ref (mr 10), .ref (mr 11), .int 0, .ref (mr 12), .int 0, .ref (mr 13), .int 0, .ref (mr 14)]))] s.heap.size = A at hD ⊢
  have hA : ∀ q : Nat, s.heap.size ≤ q → A q := fun q h => by rw [← hAe]; exact Or.inr h
  have hS : va_S A s.heap s.heap [] := va_S.rf
  have hP : va_P (dC, dI) classes [(mo, .inr (6, [.int th, .int ((-1)), .ref (mr 0), .int 0, .ref (mr 1), .ref (mr 2), .ref (mr 3), .ref (mr 4), .ref (mr 5), .ref (mr 6), .ref so, .ref (mr 7), .ref (mr 8), .ref (mr 9), .int 0, .ref (mr 10), .ref (mr 11), .int 0, .ref (mr 12), .int 0, .ref (mr 13), .int 0, .ref (mr 14)]))] s.heap := hP
  have hl := lv_entry ([.ref mo, .int y]) (n := 2) (Nat.le_of_ble_eq_true rfl)
  rw [lg_entry_eq]
  generalize (lg_sl ([.ref mo, .int y]) ++ List.replicate (2 - (lg_sl ([.ref mo, .int y])).length) Slot.unset).toArray = ls at hl ⊢
  have hl : lv_has ls 2 [(0, .ref mo), (1, .int y)] := hl
  refine lv_aload_n hx hb d_SM_refuse_0 rfl (lv_at hl 0 rfl) ?_
  refine lv_iload_n hx hb d_SM_refuse_1 rfl (lv_at hl 1 rfl) ?_
  refine va_put (D := (dC, dI)) (ci := 6) (v := .int y) (ty := .int) (C := "ScholarsPressModel") (T := F_SM) (N := 23) hx hb hts in_SM t_SM t_SM_ok n_SM hown hK hP hD hS 0 rfl rfl 0 (by decide) (hts (.fieldLink "ScholarsPressModel" 87 "ScholarsPressModel" "thrown" "I") k_3680) (fun _ h9 => h9) rfl (by decide +kernel) rfl rfl (Nat.le_of_ble_eq_true rfl) d_SM_refuse_2 (fun H locs hP hD hS => ?_)
  have hP : va_P (dC, dI) classes [(mo, .inr (6, [.int y, .int ((-1)), .ref (mr 0), .int 0, .ref (mr 1), .ref (mr 2), .ref (mr 3), .ref (mr 4), .ref (mr 5), .ref (mr 6), .ref so, .ref (mr 7), .ref (mr 8), .ref (mr 9), .int 0, .ref (mr 10), .ref (mr 11), .int 0, .ref (mr 12), .int 0, .ref (mr 13), .int 0, .ref (mr 14)]))] H := hP
  have hD : va_D A [(mo, .inr (6, [.int y, .int ((-1)), .ref (mr 0), .int 0, .ref (mr 1), .ref (mr 2), .ref (mr 3), .ref (mr 4), .ref (mr 5), .ref (mr 6), .ref so, .ref (mr 7), .ref (mr 8), .ref (mr 9), .int 0, .ref (mr 10), .ref (mr 11), .int 0, .ref (mr 12), .int 0, .ref (mr 13), .int 0, .ref (mr 14)]))] := hD
  refine lv_iconst (v := 0) hx hb d_SM_refuse_5 (by decide) ?_
  have hP9 := hP.sub (ws' := [(mo, .inr (6, [.int y, .int ((-1)), .ref (mr 0), .int 0, .ref (mr 1), .ref (mr 2), .ref (mr 3), .ref (mr 4), .ref (mr 5), .ref (mr 6), .ref so, .ref (mr 7), .ref (mr 8), .ref (mr 9), .int 0, .ref (mr 10), .ref (mr 11), .int 0, .ref (mr 12), .int 0, .ref (mr 13), .int 0, .ref (mr 14)]))]) [0] rfl
  have hD9 := hD.sub (ws' := [(mo, .inr (6, [.int y, .int ((-1)), .ref (mr 0), .int 0, .ref (mr 1), .ref (mr 2), .ref (mr 3), .ref (mr 4), .ref (mr 5), .ref (mr 6), .ref so, .ref (mr 7), .ref (mr 8), .ref (mr 9), .int 0, .ref (mr 10), .ref (mr 11), .int 0, .ref (mr 12), .int 0, .ref (mr 13), .int 0, .ref (mr 14)]))]) [0] (by decide) rfl
  have hK9 := hK.sub (tys' := []) [] rfl
  exact W.iret (v := 0) hx hb hr (fun t ht hW => ⟨⟨0, y, rfl, ⟨rfl, rfl⟩, by rw [ht]; exact hP9, va_K.moved hW.alike hK9, hD9⟩, hS.F ht⟩) hS.2.2 d_SM_refuse_6
set_option maxHeartbeats 4000000 in
set_option maxRecDepth 100000 in
/-- in(v, lo, hi) -/
theorem c_SM_in (l : Launch) (dC : Nat → ClassId) (dI : Nat → Nat → Nat) (v lo hi : Int32) (sz : Nat) : Met l y_SM_in [w_SM_in] ({ frames := 0, cells := 0, slots := 0, locals := 0 }) (va_Pc [.int v, .int lo, .int hi] (pr sz (dC, dI) [] [])) (va_Qi (fun (r : Int32) (u : Unit) => r = in_v v lo hi) (bw (dC, dI) (va_A [] sz) (fun u : Unit => []) (fun u : Unit => [])) (va_A [] sz)) 0 0 (va_A [] sz) := by
  refine Met.ofW (cc := b_SM_in) (maxL := 3) (ret := (some .boolean)) (by decide) rfl ?_
  intro p e s m args below meth c s₁ B hml hv
  obtain ⟨rfl, hsz, hb0, hP, hK, hD0⟩ := hv
  have hx := B.exec
  have hb := B.bytes
  have hr := B.returns
  have hts : ∀ wq ∈ tt, wq.before ([.int v, .int lo, .int hi] : List Value).toArray s = true := hb0.hts
  have hown : s.vm.findClass "ScholarsPressModel" = some m.cls := findClass_of_methodNamed B.named
  have hlocks := B.notSynchronized
  subst hsz
  have hD := hD0.self (sz := s.heap.size)
  generalize hAe : va_A [] s.heap.size = A at hD ⊢
  have hA : ∀ q : Nat, s.heap.size ≤ q → A q := fun q h => by rw [← hAe]; exact Or.inr h
  have hS : va_S A s.heap s.heap [] := va_S.rf
  have hP : va_P (dC, dI) classes [] s.heap := hP
  have hl := lv_entry ([.int v, .int lo, .int hi]) (n := 3) (Nat.le_of_ble_eq_true rfl)
  rw [lg_entry_eq]
  generalize (lg_sl ([.int v, .int lo, .int hi]) ++ List.replicate (3 - (lg_sl ([.int v, .int lo, .int hi])).length) Slot.unset).toArray = ls at hl ⊢
  have hl : lv_has ls 3 [(0, .int v), (1, .int lo), (2, .int hi)] := hl
  refine lv_iload_n hx hb d_SM_in_0 rfl (lv_at hl 0 rfl) ?_
  refine lv_iload_n hx hb d_SM_in_1 rfl (lv_at hl 1 rfl) ?_
  refine lv_icmp_lt (tgt := 14) hx hb d_SM_in_2 (by decide) (fun c_1 => ?_) (fun c_1 => ?_)
  · refine lv_iconst (v := 0) hx hb d_SM_in_14 (by decide) ?_
    have hP9 := hP.sub (ws' := []) [] rfl
    have hD9 := hD.sub (ws' := []) [] (by decide) rfl
    have hK9 := hK.sub (tys' := []) [] rfl
    exact W.zret (ty := .boolean) (v := 0) hx hb hr (by decide) (fun t ht hW => ⟨⟨0, (), rfl, by unfold in_v; simp only [Int32.lt_iff_toInt_lt, Int32.le_iff_toInt_le] at c_1; (first | rw [if_pos (by omega)] | rw [if_neg (by omega)]), by rw [ht]; exact hP9, va_K.moved hW.alike hK9, hD9⟩, hS.F ht⟩) hS.2.2 d_SM_in_15
  · refine lv_iload_n hx hb d_SM_in_5 rfl (lv_at hl 0 rfl) ?_
    refine lv_iload_n hx hb d_SM_in_6 rfl (lv_at hl 2 rfl) ?_
    refine lv_icmp_gt (tgt := 14) hx hb d_SM_in_7 (by decide) (fun c_2 => ?_) (fun c_2 => ?_)
    · refine lv_iconst (v := 0) hx hb d_SM_in_14 (by decide) ?_
      have hP9 := hP.sub (ws' := []) [] rfl
      have hD9 := hD.sub (ws' := []) [] (by decide) rfl
      have hK9 := hK.sub (tys' := []) [] rfl
      exact W.zret (ty := .boolean) (v := 0) hx hb hr (by decide) (fun t ht hW => ⟨⟨0, (), rfl, by unfold in_v; simp only [Int32.lt_iff_toInt_lt, Int32.le_iff_toInt_le] at c_1 c_2; (first | rw [if_pos (by omega)] | rw [if_neg (by omega)]), by rw [ht]; exact hP9, va_K.moved hW.alike hK9, hD9⟩, hS.F ht⟩) hS.2.2 d_SM_in_15
    · refine lv_iconst (v := 1) hx hb d_SM_in_10 (by decide) ?_
      refine lv_goto (tgt := 15) hx hb d_SM_in_11 (by decide) ?_
      have hP9 := hP.sub (ws' := []) [] rfl
      have hD9 := hD.sub (ws' := []) [] (by decide) rfl
      have hK9 := hK.sub (tys' := []) [] rfl
      exact W.zret (ty := .boolean) (v := 1) hx hb hr (by decide) (fun t ht hW => ⟨⟨1, (), rfl, by unfold in_v; simp only [Int32.lt_iff_toInt_lt, Int32.le_iff_toInt_le] at c_1 c_2; (first | rw [if_pos (by omega)] | rw [if_neg (by omega)]), by rw [ht]; exact hP9, va_K.moved hW.alike hK9, hD9⟩, hS.F ht⟩) hS.2.2 d_SM_in_15
set_option maxHeartbeats 4000000 in
set_option maxRecDepth 100000 in
/-- set: there is no SOURCE -/
theorem c_SM_set (l : Launch) (dC : Nat → ClassId) (dI : Nat → Nat → Nat) (mo so : Nat) (mr sr : Nat → Nat) (th : Int32) (n : Int32) (sz : Nat) : Met l y_SM_set [w_SM_set] ({ frames := 1, cells := 0, slots := 0, locals := 60 }) (va_Pc [.ref mo, .int n] (pr sz (dC, dI) [(mo, .inr (6, [.int th, .int ((-1)), .ref (mr 0), .int 0, .ref (mr 1), .ref (mr 2), .ref (mr 3), .ref (mr 4), .ref (mr 5), .ref (mr 6), .ref so, .ref (mr 7), .ref (mr 8), .ref (mr 9), .int 0, .ref (mr 10), .ref (mr 11), .int 0, .ref (mr 12), .int 0, .ref (mr 13), .int 0, .ref (mr 14)])), (so, .inr (11, [.ref (sr 0), .int 0, .int 0, .int 0, .int 0, .int 0, .ref (sr 1), .ref (sr 2), .ref (sr 3), .ref (sr 4), .ref (sr 5), .ref (sr 6), .ref (sr 7), .ref (sr 8), .ref (sr 9), .ref (sr 10), .ref (sr 11), .ref (sr 12), .ref (sr 13), .ref (sr 14), .ref (sr 15), .ref (sr 16), .ref (sr 17), .ref (sr 18), .ref (sr 19), .int 0, .int 0, .int 0]))] [])) (va_Qi (fun (r : Int32) (u : Int32) => (u = 1 ∧ ¬ (1 ≤ n.toInt ∧ n.toInt ≤ 9)) ∨ (u = 2 ∧ (1 ≤ n.toInt ∧ n.toInt ≤ 9))) (bw (dC, dI) (va_A [(mo, .inr (6, [.int th, .int ((-1)), .ref (mr 0), .int 0, .ref (mr 1), .ref (mr 2), .ref (mr 3), .ref (mr 4), .ref (mr 5), .ref (mr 6), .ref so, .ref (mr 7), .ref (mr 8), .ref (mr 9), .int 0, .ref (mr 10), .ref (mr 11), .int 0, .ref (mr 12), .int 0, .ref (mr 13), .int 0, .ref (mr 14)])), (so, .inr (11, [.ref (sr 0), .int 0, .int 0, .int 0, .int 0, .int 0, .ref (sr 1), .ref (sr 2), .ref (sr 3), .ref (sr 4), .ref (sr 5), .ref (sr 6), .ref (sr 7), .ref (sr 8), .ref (sr 9), .ref (sr 10), .ref (sr 11), .ref (sr 12), .ref (sr 13), .ref (sr 14), .ref (sr 15), .ref (sr 16), .ref (sr 17), .ref (sr 18), .ref (sr 19), .int 0, .int 0, .int 0]))] sz) (fun u : Int32 => [(mo, .inr (6, [.int u, .int ((-1)), .ref (mr 0), .int 0, .ref (mr 1), .ref (mr 2), .ref (mr 3), .ref (mr 4), .ref (mr 5), .ref (mr 6), .ref so, .ref (mr 7), .ref (mr 8), .ref (mr 9), .int 0, .ref (mr 10), .ref (mr 11), .int 0, .ref (mr 12), .int 0, .ref (mr 13), .int 0, .ref (mr 14)]))]) (fun u : Int32 => [])) (va_A [(mo, .inr (6, [.int th, .int ((-1)), .ref (mr 0), .int 0, .ref (mr 1), .ref (mr 2), .ref (mr 3), .ref (mr 4), .ref (mr 5), .ref (mr 6), .ref so, .ref (mr 7), .ref (mr 8), .ref (mr 9), .int 0, .ref (mr 10), .ref (mr 11), .int 0, .ref (mr 12), .int 0, .ref (mr 13), .int 0, .ref (mr 14)])), (so, .inr (11, [.ref (sr 0), .int 0, .int 0, .int 0, .int 0, .int 0, .ref (sr 1), .ref (sr 2), .ref (sr 3), .ref (sr 4), .ref (sr 5), .ref (sr 6), .ref (sr 7), .ref (sr 8), .ref (sr 9), .ref (sr 10), .ref (sr 11), .ref (sr 12), .ref (sr 13), .ref (sr 14), .ref (sr 15), .ref (sr 16), .ref (sr 17), .ref (sr 18), .ref (sr 19), .int 0, .int 0, .int 0]))] sz)) 0 0 (va_A [(mo, .inr (6, [.int th, .int ((-1)), .ref (mr 0), .int 0, .ref (mr 1), .ref (mr 2), .ref (mr 3), .ref (mr 4), .ref (mr 5), .ref (mr 6), .ref so, .ref (mr 7), .ref (mr 8), .ref (mr 9), .int 0, .ref (mr 10), .ref (mr 11), .int 0, .ref (mr 12), .int 0, .ref (mr 13), .int 0, .ref (mr 14)])), (so, .inr (11, [.ref (sr 0), .int 0, .int 0, .int 0, .int 0, .int 0, .ref (sr 1), .ref (sr 2), .ref (sr 3), .ref (sr 4), .ref (sr 5), .ref (sr 6), .ref (sr 7), .ref (sr 8), .ref (sr 9), .ref (sr 10), .ref (sr 11), .ref (sr 12), .ref (sr 13), .ref (sr 14), .ref (sr 15), .ref (sr 16), .ref (sr 17), .ref (sr 18), .ref (sr 19), .int 0, .int 0, .int 0]))] sz) := by
  refine va_MetW (cc := b_SM_set) (maxL := 4) (ret := (some .int)) (hh := [(32, 57, 60, 170), (32, 57, 67, 172)]) (by decide) rfl ?_
  intro p e s m args below meth c s₁ B hml hv
  obtain ⟨rfl, hsz, hb0, hP, hK, hD0⟩ := hv
  have hx := B.exec
  have hb := B.bytes
  have hr := B.returns
  have hts : ∀ wq ∈ tt, wq.before ([.ref mo, .int n] : List Value).toArray s = true := hb0.hts
  have hown : s.vm.findClass "ScholarsPressModel" = some m.cls := findClass_of_methodNamed B.named
  have hlocks := B.notSynchronized
  subst hsz
  have hD := hD0.self (sz := s.heap.size)
  generalize hAe : va_A [(mo, .inr (6, [.int th, .int ((-1)), .ref (mr 0), .int 0, .ref (mr 1), .ref (mr 2), .ref (mr 3), .ref (mr 4), .ref (mr 5), .ref (mr 6), .ref so, .ref (mr 7), .ref (mr 8), .ref (mr 9), .int 0, .ref (mr 10), .ref (mr 11), .int 0, .ref (mr 12), .int 0, .ref (mr 13), .int 0, .ref (mr 14)])), (so, .inr (11, [.ref (sr 0), .int 0, .int 0, .int 0, .int 0, .int 0, .ref (sr 1), .ref (sr 2), .ref (sr 3), .ref (sr 4), .ref (sr 5), .ref (sr 6), .ref (sr 7), .ref (sr 8), .ref (sr 9), .ref (sr 10), .ref (sr 11), .ref (sr 12), .ref (sr 13), .ref (sr 14), .ref (sr 15), .ref (sr 16), .ref (sr 17), .ref (sr 18), .ref (sr 19), .int 0, .int 0, .int 0]))] s.heap.size = A at hD ⊢
  have hA : ∀ q : Nat, s.heap.size ≤ q → A q := fun q h => by rw [← hAe]; exact Or.inr h
  have hS : va_S A s.heap s.heap [] := va_S.rf
  have hP : va_P (dC, dI) classes [(mo, .inr (6, [.int th, .int ((-1)), .ref (mr 0), .int 0, .ref (mr 1), .ref (mr 2), .ref (mr 3), .ref (mr 4), .ref (mr 5), .ref (mr 6), .ref so, .ref (mr 7), .ref (mr 8), .ref (mr 9), .int 0, .ref (mr 10), .ref (mr 11), .int 0, .ref (mr 12), .int 0, .ref (mr 13), .int 0, .ref (mr 14)])), (so, .inr (11, [.ref (sr 0), .int 0, .int 0, .int 0, .int 0, .int 0, .ref (sr 1), .ref (sr 2), .ref (sr 3), .ref (sr 4), .ref (sr 5), .ref (sr 6), .ref (sr 7), .ref (sr 8), .ref (sr 9), .ref (sr 10), .ref (sr 11), .ref (sr 12), .ref (sr 13), .ref (sr 14), .ref (sr 15), .ref (sr 16), .ref (sr 17), .ref (sr 18), .ref (sr 19), .int 0, .int 0, .int 0]))] s.heap := hP
  have hl := lv_entry ([.ref mo, .int n]) (n := 4) (Nat.le_of_ble_eq_true rfl)
  rw [lg_entry_eq]
  generalize (lg_sl ([.ref mo, .int n]) ++ List.replicate (4 - (lg_sl ([.ref mo, .int n])).length) Slot.unset).toArray = ls at hl ⊢
  have hl : lv_has ls 4 [(0, .ref mo), (1, .int n)] := hl
  refine lv_iload_n hx hb d_SM_set_0 rfl (lv_at hl 1 rfl) ?_
  refine lv_iconst (v := 1) hx hb d_SM_set_1 (by decide) ?_
  refine lv_bipush (v := 9) hx hb d_SM_set_2 (by decide) ?_
  refine vi_i (wc := []) (wr := [(mo, .inr (6, [.int th, .int ((-1)), .ref (mr 0), .int 0, .ref (mr 1), .ref (mr 2), .ref (mr 3), .ref (mr 4), .ref (mr 5), .ref (mr 6), .ref so, .ref (mr 7), .ref (mr 8), .ref (mr 9), .int 0, .ref (mr 10), .ref (mr 11), .int 0, .ref (mr 12), .int 0, .ref (mr 13), .int 0, .ref (mr 14)])), (so, .inr (11, [.ref (sr 0), .int 0, .int 0, .int 0, .int 0, .int 0, .ref (sr 1), .ref (sr 2), .ref (sr 3), .ref (sr 4), .ref (sr 5), .ref (sr 6), .ref (sr 7), .ref (sr 8), .ref (sr 9), .ref (sr 10), .ref (sr 11), .ref (sr 12), .ref (sr 13), .ref (sr 14), .ref (sr 15), .ref (sr 16), .ref (sr 17), .ref (sr 18), .ref (sr 19), .int 0, .int 0, .int 0]))]) (va_runS (As := [.int n, .int 1, .int 9]) (rest := []) ⟨hx, hb, hml, hown, hts⟩ (c_SM_in l dC dI n 1 9 s.heap.size) (va_cwS 3 hts (tt_S2 k_4102 k_4103 k_247 kw_SM_in) rfl rfl rfl (by decide +kernel) ⟨Nat.le_of_ble_eq_true rfl, Nat.le_of_ble_eq_true rfl⟩) ⟨pr_blind, pr_pre hb0 (hP.sub [] rfl) (hK.sub [] rfl) (hD.sub [] (by decide) rfl)⟩ rfl rfl hl.1 rfl (lv_room (Nat.le_of_ble_eq_true rfl)) d_SM_set_4 ⟨Nat.le_of_ble_eq_true rfl, Nat.le_of_ble_eq_true rfl⟩) hP hD hK hS hA [] [0, 1] rfl rfl (by decide) (by decide) (fun r u H locs hw hP hK hD hS => ?_)
  subst hw
  have hP : va_P (dC, dI) classes [(mo, .inr (6, [.int th, .int ((-1)), .ref (mr 0), .int 0, .ref (mr 1), .ref (mr 2), .ref (mr 3), .ref (mr 4), .ref (mr 5), .ref (mr 6), .ref so, .ref (mr 7), .ref (mr 8), .ref (mr 9), .int 0, .ref (mr 10), .ref (mr 11), .int 0, .ref (mr 12), .int 0, .ref (mr 13), .int 0, .ref (mr 14)])), (so, .inr (11, [.ref (sr 0), .int 0, .int 0, .int 0, .int 0, .int 0, .ref (sr 1), .ref (sr 2), .ref (sr 3), .ref (sr 4), .ref (sr 5), .ref (sr 6), .ref (sr 7), .ref (sr 8), .ref (sr 9), .ref (sr 10), .ref (sr 11), .ref (sr 12), .ref (sr 13), .ref (sr 14), .ref (sr 15), .ref (sr 16), .ref (sr 17), .ref (sr 18), .ref (sr 19), .int 0, .int 0, .int 0]))] H := hP
  have hD : va_D A [(mo, .inr (6, [.int th, .int ((-1)), .ref (mr 0), .int 0, .ref (mr 1), .ref (mr 2), .ref (mr 3), .ref (mr 4), .ref (mr 5), .ref (mr 6), .ref so, .ref (mr 7), .ref (mr 8), .ref (mr 9), .int 0, .ref (mr 10), .ref (mr 11), .int 0, .ref (mr 12), .int 0, .ref (mr 13), .int 0, .ref (mr 14)])), (so, .inr (11, [.ref (sr 0), .int 0, .int 0, .int 0, .int 0, .int 0, .ref (sr 1), .ref (sr 2), .ref (sr 3), .ref (sr 4), .ref (sr 5), .ref (sr 6), .ref (sr 7), .ref (sr 8), .ref (sr 9), .ref (sr 10), .ref (sr 11), .ref (sr 12), .ref (sr 13), .ref (sr 14), .ref (sr 15), .ref (sr 16), .ref (sr 17), .ref (sr 18), .ref (sr 19), .int 0, .int 0, .int 0]))] := hD
  have hK : va_K (dC, dI) classes [] s := hK
  refine lv_if_ne (tgt := 16) hx hb d_SM_set_7 (by decide) (fun c_1 => ?_) (fun c_1 => ?_)
  · refine lv_aload_n hx hb d_SM_set_16 rfl (lv_at hl 0 rfl) ?_
    refine va_get (D := (dC, dI)) (ci := 6) (v := .ref so) (C := "ScholarsPressModel") (T := F_SM) (N := 23) hx hb hts in_SM hown hK hP 0 rfl rfl 10 (by decide) (hts (.fieldLink "ScholarsPressModel" 50 "ScholarsPressModel" "source" "LScholarsPressModel$Source;") k_3690) (fun _ h9 => h9) rfl d_SM_set_17 ?_
    refine va_get (D := (dC, dI)) (ci := 11) (v := .int 0) (C := "ScholarsPressModel$Source") (T := F_MSource) (N := 28) hx hb hts in_MSource hown hK hP 1 rfl rfl 5 (by decide) (hts (.fieldLink "ScholarsPressModel" 154 "ScholarsPressModel$Source" "there" "Z") k_2976) (fun _ h9 => h9) rfl d_SM_set_20 ?_
    refine lv_if_ne (tgt := 32) hx hb d_SM_set_23 (by decide) (fun c_2 => ?_) (fun c_2 => ?_)
    · exact absurd c_2 (by decide)
    · refine lv_aload_n hx hb d_SM_set_26 rfl (lv_at hl 0 rfl) ?_
      refine lv_iconst (v := 2) hx hb d_SM_set_27 (by decide) ?_
      refine vi_i (wc := [(mo, .inr (6, [.int th, .int ((-1)), .ref (mr 0), .int 0, .ref (mr 1), .ref (mr 2), .ref (mr 3), .ref (mr 4), .ref (mr 5), .ref (mr 6), .ref so, .ref (mr 7), .ref (mr 8), .ref (mr 9), .int 0, .ref (mr 10), .ref (mr 11), .int 0, .ref (mr 12), .int 0, .ref (mr 13), .int 0, .ref (mr 14)]))]) (wr := [(so, .inr (11, [.ref (sr 0), .int 0, .int 0, .int 0, .int 0, .int 0, .ref (sr 1), .ref (sr 2), .ref (sr 3), .ref (sr 4), .ref (sr 5), .ref (sr 6), .ref (sr 7), .ref (sr 8), .ref (sr 9), .ref (sr 10), .ref (sr 11), .ref (sr 12), .ref (sr 13), .ref (sr 14), .ref (sr 15), .ref (sr 16), .ref (sr 17), .ref (sr 18), .ref (sr 19), .int 0, .int 0, .int 0]))]) (va_runV (As := [.int 2]) (rest := []) ⟨hx, hb, hml, hown, hts⟩ (c_SM_refuse l dC dI mo so mr sr th 2 H.size) (cwV 1 hts (tt_V k_3758 k_3760 k_122 k_247 kw_SM_refuse) rfl rfl rfl (by decide +kernel) ⟨Nat.le_of_ble_eq_true rfl, Nat.le_of_ble_eq_true rfl⟩) ⟨pr_blind, va_recv hK hP (ci := 6) (q0 := 0) rfl rfl, pr_pre hb0 (hP.sub [0] rfl) (hK.sub [] rfl) (hD.sub [0] (by decide) rfl)⟩ rfl rfl hl.1 rfl (lv_room (Nat.le_of_ble_eq_true rfl)) d_SM_set_28 ⟨Nat.le_of_ble_eq_true rfl, Nat.le_of_ble_eq_true rfl⟩) hP hD hK hS hA [0] [1] rfl rfl (by decide) (by decide) (fun r u H locs hw hP hK hD hS => ?_)
      obtain ⟨rfl, rfl⟩ := hw
      have hP : va_P (dC, dI) classes [(so, .inr (11, [.ref (sr 0), .int 0, .int 0, .int 0, .int 0, .int 0, .ref (sr 1), .ref (sr 2), .ref (sr 3), .ref (sr 4), .ref (sr 5), .ref (sr 6), .ref (sr 7), .ref (sr 8), .ref (sr 9), .ref (sr 10), .ref (sr 11), .ref (sr 12), .ref (sr 13), .ref (sr 14), .ref (sr 15), .ref (sr 16), .ref (sr 17), .ref (sr 18), .ref (sr 19), .int 0, .int 0, .int 0])), (mo, .inr (6, [.int 2, .int ((-1)), .ref (mr 0), .int 0, .ref (mr 1), .ref (mr 2), .ref (mr 3), .ref (mr 4), .ref (mr 5), .ref (mr 6), .ref so, .ref (mr 7), .ref (mr 8), .ref (mr 9), .int 0, .ref (mr 10), .ref (mr 11), .int 0, .ref (mr 12), .int 0, .ref (mr 13), .int 0, .ref (mr 14)]))] H := hP
      have hD : va_D A [(so, .inr (11, [.ref (sr 0), .int 0, .int 0, .int 0, .int 0, .int 0, .ref (sr 1), .ref (sr 2), .ref (sr 3), .ref (sr 4), .ref (sr 5), .ref (sr 6), .ref (sr 7), .ref (sr 8), .ref (sr 9), .ref (sr 10), .ref (sr 11), .ref (sr 12), .ref (sr 13), .ref (sr 14), .ref (sr 15), .ref (sr 16), .ref (sr 17), .ref (sr 18), .ref (sr 19), .int 0, .int 0, .int 0])), (mo, .inr (6, [.int 2, .int ((-1)), .ref (mr 0), .int 0, .ref (mr 1), .ref (mr 2), .ref (mr 3), .ref (mr 4), .ref (mr 5), .ref (mr 6), .ref so, .ref (mr 7), .ref (mr 8), .ref (mr 9), .int 0, .ref (mr 10), .ref (mr 11), .int 0, .ref (mr 12), .int 0, .ref (mr 13), .int 0, .ref (mr 14)]))] := hD
      have hK : va_K (dC, dI) classes [] s := hK
      have hP9 := hP.sub (ws' := [(mo, .inr (6, [.int 2, .int ((-1)), .ref (mr 0), .int 0, .ref (mr 1), .ref (mr 2), .ref (mr 3), .ref (mr 4), .ref (mr 5), .ref (mr 6), .ref so, .ref (mr 7), .ref (mr 8), .ref (mr 9), .int 0, .ref (mr 10), .ref (mr 11), .int 0, .ref (mr 12), .int 0, .ref (mr 13), .int 0, .ref (mr 14)]))]) [1] rfl
      have hD9 := hD.sub (ws' := [(mo, .inr (6, [.int 2, .int ((-1)), .ref (mr 0), .int 0, .ref (mr 1), .ref (mr 2), .ref (mr 3), .ref (mr 4), .ref (mr 5), .ref (mr 6), .ref so, .ref (mr 7), .ref (mr 8), .ref (mr 9), .int 0, .ref (mr 10), .ref (mr 11), .int 0, .ref (mr 12), .int 0, .ref (mr 13), .int 0, .ref (mr 14)]))]) [1] (by decide) rfl
      have hK9 := hK.sub (tys' := []) [] rfl
      exact W.iret (v := 0) hx hb hr (fun t ht hW => ⟨⟨0, 2, rfl, Or.inr (⟨rfl, by simp only [in_0, Int32.lt_iff_toInt_lt, Int32.le_iff_toInt_le, z_0, z_1, z_5, z_6, z_7, z_9, z_10, z_11, z_13, z_20, z_41] at c_1 ⊢; omega⟩), by rw [ht]; exact hP9, va_K.moved hW.alike hK9, hD9⟩, hS.F ht⟩) hS.2.2 d_SM_set_31
  · refine lv_aload_n hx hb d_SM_set_10 rfl (lv_at hl 0 rfl) ?_
    refine lv_iconst (v := 1) hx hb d_SM_set_11 (by decide) ?_
    refine vi_i (wc := [(mo, .inr (6, [.int th, .int ((-1)), .ref (mr 0), .int 0, .ref (mr 1), .ref (mr 2), .ref (mr 3), .ref (mr 4), .ref (mr 5), .ref (mr 6), .ref so, .ref (mr 7), .ref (mr 8), .ref (mr 9), .int 0, .ref (mr 10), .ref (mr 11), .int 0, .ref (mr 12), .int 0, .ref (mr 13), .int 0, .ref (mr 14)]))]) (wr := [(so, .inr (11, [.ref (sr 0), .int 0, .int 0, .int 0, .int 0, .int 0, .ref (sr 1), .ref (sr 2), .ref (sr 3), .ref (sr 4), .ref (sr 5), .ref (sr 6), .ref (sr 7), .ref (sr 8), .ref (sr 9), .ref (sr 10), .ref (sr 11), .ref (sr 12), .ref (sr 13), .ref (sr 14), .ref (sr 15), .ref (sr 16), .ref (sr 17), .ref (sr 18), .ref (sr 19), .int 0, .int 0, .int 0]))]) (va_runV (As := [.int 1]) (rest := []) ⟨hx, hb, hml, hown, hts⟩ (c_SM_refuse l dC dI mo so mr sr th 1 H.size) (cwV 1 hts (tt_V k_3758 k_3760 k_122 k_247 kw_SM_refuse) rfl rfl rfl (by decide +kernel) ⟨Nat.le_of_ble_eq_true rfl, Nat.le_of_ble_eq_true rfl⟩) ⟨pr_blind, va_recv hK hP (ci := 6) (q0 := 0) rfl rfl, pr_pre hb0 (hP.sub [0] rfl) (hK.sub [] rfl) (hD.sub [0] (by decide) rfl)⟩ rfl rfl hl.1 rfl (lv_room (Nat.le_of_ble_eq_true rfl)) d_SM_set_12 ⟨Nat.le_of_ble_eq_true rfl, Nat.le_of_ble_eq_true rfl⟩) hP hD hK hS hA [0] [1] rfl rfl (by decide) (by decide) (fun r u H locs hw hP hK hD hS => ?_)
    obtain ⟨rfl, rfl⟩ := hw
    have hP : va_P (dC, dI) classes [(so, .inr (11, [.ref (sr 0), .int 0, .int 0, .int 0, .int 0, .int 0, .ref (sr 1), .ref (sr 2), .ref (sr 3), .ref (sr 4), .ref (sr 5), .ref (sr 6), .ref (sr 7), .ref (sr 8), .ref (sr 9), .ref (sr 10), .ref (sr 11), .ref (sr 12), .ref (sr 13), .ref (sr 14), .ref (sr 15), .ref (sr 16), .ref (sr 17), .ref (sr 18), .ref (sr 19), .int 0, .int 0, .int 0])), (mo, .inr (6, [.int 1, .int ((-1)), .ref (mr 0), .int 0, .ref (mr 1), .ref (mr 2), .ref (mr 3), .ref (mr 4), .ref (mr 5), .ref (mr 6), .ref so, .ref (mr 7), .ref (mr 8), .ref (mr 9), .int 0, .ref (mr 10), .ref (mr 11), .int 0, .ref (mr 12), .int 0, .ref (mr 13), .int 0, .ref (mr 14)]))] H := hP
    have hD : va_D A [(so, .inr (11, [.ref (sr 0), .int 0, .int 0, .int 0, .int 0, .int 0, .ref (sr 1), .ref (sr 2), .ref (sr 3), .ref (sr 4), .ref (sr 5), .ref (sr 6), .ref (sr 7), .ref (sr 8), .ref (sr 9), .ref (sr 10), .ref (sr 11), .ref (sr 12), .ref (sr 13), .ref (sr 14), .ref (sr 15), .ref (sr 16), .ref (sr 17), .ref (sr 18), .ref (sr 19), .int 0, .int 0, .int 0])), (mo, .inr (6, [.int 1, .int ((-1)), .ref (mr 0), .int 0, .ref (mr 1), .ref (mr 2), .ref (mr 3), .ref (mr 4), .ref (mr 5), .ref (mr 6), .ref so, .ref (mr 7), .ref (mr 8), .ref (mr 9), .int 0, .ref (mr 10), .ref (mr 11), .int 0, .ref (mr 12), .int 0, .ref (mr 13), .int 0, .ref (mr 14)]))] := hD
    have hK : va_K (dC, dI) classes [] s := hK
    have hP9 := hP.sub (ws' := [(mo, .inr (6, [.int 1, .int ((-1)), .ref (mr 0), .int 0, .ref (mr 1), .ref (mr 2), .ref (mr 3), .ref (mr 4), .ref (mr 5), .ref (mr 6), .ref so, .ref (mr 7), .ref (mr 8), .ref (mr 9), .int 0, .ref (mr 10), .ref (mr 11), .int 0, .ref (mr 12), .int 0, .ref (mr 13), .int 0, .ref (mr 14)]))]) [1] rfl
    have hD9 := hD.sub (ws' := [(mo, .inr (6, [.int 1, .int ((-1)), .ref (mr 0), .int 0, .ref (mr 1), .ref (mr 2), .ref (mr 3), .ref (mr 4), .ref (mr 5), .ref (mr 6), .ref so, .ref (mr 7), .ref (mr 8), .ref (mr 9), .int 0, .ref (mr 10), .ref (mr 11), .int 0, .ref (mr 12), .int 0, .ref (mr 13), .int 0, .ref (mr 14)]))]) [1] (by decide) rfl
    have hK9 := hK.sub (tys' := []) [] rfl
    exact W.iret (v := 0) hx hb hr (fun t ht hW => ⟨⟨0, 1, rfl, Or.inl ⟨rfl, by simp only [in_0, Int32.lt_iff_toInt_lt, Int32.le_iff_toInt_le, z_0, z_1, z_5, z_6, z_7, z_9, z_10, z_11, z_13, z_20, z_41] at c_1 ⊢; omega⟩, by rw [ht]; exact hP9, va_K.moved hW.alike hK9, hD9⟩, hS.F ht⟩) hS.2.2 d_SM_set_15
set_option maxHeartbeats 4000000 in
set_option maxRecDepth 100000 in
/-- element: there is no SOURCE -/
theorem c_SM_element (l : Launch) (dC : Nat → ClassId) (dI : Nat → Nat → Nat) (mo so : Nat) (mr sr : Nat → Nat) (th : Int32) (a w : Int32) (sz : Nat) : Met l y_SM_element [w_SM_element] ({ frames := 1, cells := 0, slots := 0, locals := 60 }) (va_Pc [.ref mo, .int a, .int w] (pr sz (dC, dI) [(mo, .inr (6, [.int th, .int ((-1)), .ref (mr 0), .int 0, .ref (mr 1), .ref (mr 2), .ref (mr 3), .ref (mr 4), .ref (mr 5), .ref (mr 6), .ref so, .ref (mr 7), .ref (mr 8), .ref (mr 9), .int 0, .ref (mr 10), .ref (mr 11), .int 0, .ref (mr 12), .int 0, .ref (mr 13), .int 0, .ref (mr 14)])), (so, .inr (11, [.ref (sr 0), .int 0, .int 0, .int 0, .int 0, .int 0, .ref (sr 1), .ref (sr 2), .ref (sr 3), .ref (sr 4), .ref (sr 5), .ref (sr 6), .ref (sr 7), .ref (sr 8), .ref (sr 9), .ref (sr 10), .ref (sr 11), .ref (sr 12), .ref (sr 13), .ref (sr 14), .ref (sr 15), .ref (sr 16), .ref (sr 17), .ref (sr 18), .ref (sr 19), .int 0, .int 0, .int 0]))] [])) (va_Qi (fun (r : Int32) (u : Int32) => (u = 1 ∧ ¬ (0 ≤ a.toInt ∧ ((0 ≤ w.toInt ∧ w.toInt ≤ 7) ∨ (20 ≤ w.toInt ∧ w.toInt ≤ 41)))) ∨ (u = 2 ∧ (0 ≤ a.toInt ∧ ((0 ≤ w.toInt ∧ w.toInt ≤ 7) ∨ (20 ≤ w.toInt ∧ w.toInt ≤ 41))))) (bw (dC, dI) (va_A [(mo, .inr (6, [.int th, .int ((-1)), .ref (mr 0), .int 0, .ref (mr 1), .ref (mr 2), .ref (mr 3), .ref (mr 4), .ref (mr 5), .ref (mr 6), .ref so, .ref (mr 7), .ref (mr 8), .ref (mr 9), .int 0, .ref (mr 10), .ref (mr 11), .int 0, .ref (mr 12), .int 0, .ref (mr 13), .int 0, .ref (mr 14)])), (so, .inr (11, [.ref (sr 0), .int 0, .int 0, .int 0, .int 0, .int 0, .ref (sr 1), .ref (sr 2), .ref (sr 3), .ref (sr 4), .ref (sr 5), .ref (sr 6), .ref (sr 7), .ref (sr 8), .ref (sr 9), .ref (sr 10), .ref (sr 11), .ref (sr 12), .ref (sr 13), .ref (sr 14), .ref (sr 15), .ref (sr 16), .ref (sr 17), .ref (sr 18), .ref (sr 19), .int 0, .int 0, .int 0]))] sz) (fun u : Int32 => [(mo, .inr (6, [.int u, .int ((-1)), .ref (mr 0), .int 0, .ref (mr 1), .ref (mr 2), .ref (mr 3), .ref (mr 4), .ref (mr 5), .ref (mr 6), .ref so, .ref (mr 7), .ref (mr 8), .ref (mr 9), .int 0, .ref (mr 10), .ref (mr 11), .int 0, .ref (mr 12), .int 0, .ref (mr 13), .int 0, .ref (mr 14)]))]) (fun u : Int32 => [])) (va_A [(mo, .inr (6, [.int th, .int ((-1)), .ref (mr 0), .int 0, .ref (mr 1), .ref (mr 2), .ref (mr 3), .ref (mr 4), .ref (mr 5), .ref (mr 6), .ref so, .ref (mr 7), .ref (mr 8), .ref (mr 9), .int 0, .ref (mr 10), .ref (mr 11), .int 0, .ref (mr 12), .int 0, .ref (mr 13), .int 0, .ref (mr 14)])), (so, .inr (11, [.ref (sr 0), .int 0, .int 0, .int 0, .int 0, .int 0, .ref (sr 1), .ref (sr 2), .ref (sr 3), .ref (sr 4), .ref (sr 5), .ref (sr 6), .ref (sr 7), .ref (sr 8), .ref (sr 9), .ref (sr 10), .ref (sr 11), .ref (sr 12), .ref (sr 13), .ref (sr 14), .ref (sr 15), .ref (sr 16), .ref (sr 17), .ref (sr 18), .ref (sr 19), .int 0, .int 0, .int 0]))] sz)) 0 0 (va_A [(mo, .inr (6, [.int th, .int ((-1)), .ref (mr 0), .int 0, .ref (mr 1), .ref (mr 2), .ref (mr 3), .ref (mr 4), .ref (mr 5), .ref (mr 6), .ref so, .ref (mr 7), .ref (mr 8), .ref (mr 9), .int 0, .ref (mr 10), .ref (mr 11), .int 0, .ref (mr 12), .int 0, .ref (mr 13), .int 0, .ref (mr 14)])), (so, .inr (11, [.ref (sr 0), .int 0, .int 0, .int 0, .int 0, .int 0, .ref (sr 1), .ref (sr 2), .ref (sr 3), .ref (sr 4), .ref (sr 5), .ref (sr 6), .ref (sr 7), .ref (sr 8), .ref (sr 9), .ref (sr 10), .ref (sr 11), .ref (sr 12), .ref (sr 13), .ref (sr 14), .ref (sr 15), .ref (sr 16), .ref (sr 17), .ref (sr 18), .ref (sr 19), .int 0, .int 0, .int 0]))] sz) := by
  refine Met.ofW (cc := b_SM_element) (maxL := 3) (ret := (some .int)) (by decide) rfl ?_
  intro p e s m args below meth c s₁ B hml hv
  obtain ⟨rfl, hsz, hb0, hP, hK, hD0⟩ := hv
  have hx := B.exec
  have hb := B.bytes
  have hr := B.returns
  have hts : ∀ wq ∈ tt, wq.before ([.ref mo, .int a, .int w] : List Value).toArray s = true := hb0.hts
  have hown : s.vm.findClass "ScholarsPressModel" = some m.cls := findClass_of_methodNamed B.named
  have hlocks := B.notSynchronized
  subst hsz
  have hD := hD0.self (sz := s.heap.size)
  generalize hAe : va_A [(mo, .inr (6, [.int th, .int ((-1)), .ref (mr 0), .int 0, .ref (mr 1), .ref (mr 2), .ref (mr 3), .ref (mr 4), .ref (mr 5), .ref (mr 6), .ref so, .ref (mr 7), .ref (mr 8), .ref (mr 9), .int 0, .ref (mr 10), .ref (mr 11), .int 0, .ref (mr 12), .int 0, .ref (mr 13), .int 0, .ref (mr 14)])), (so, .inr (11, [.ref (sr 0), .int 0, .int 0, .int 0, .int 0, .int 0, .ref (sr 1), .ref (sr 2), .ref (sr 3), .ref (sr 4), .ref (sr 5), .ref (sr 6), .ref (sr 7), .ref (sr 8), .ref (sr 9), .ref (sr 10), .ref (sr 11), .ref (sr 12), .ref (sr 13), .ref (sr 14), .ref (sr 15), .ref (sr 16), .ref (sr 17), .ref (sr 18), .ref (sr 19), .int 0, .int 0, .int 0]))] s.heap.size = A at hD ⊢
  have hA : ∀ q : Nat, s.heap.size ≤ q → A q := fun q h => by rw [← hAe]; exact Or.inr h
  have hS : va_S A s.heap s.heap [] := va_S.rf
  have hP : va_P (dC, dI) classes [(mo, .inr (6, [.int th, .int ((-1)), .ref (mr 0), .int 0, .ref (mr 1), .ref (mr 2), .ref (mr 3), .ref (mr 4), .ref (mr 5), .ref (mr 6), .ref so, .ref (mr 7), .ref (mr 8), .ref (mr 9), .int 0, .ref (mr 10), .ref (mr 11), .int 0, .ref (mr 12), .int 0, .ref (mr 13), .int 0, .ref (mr 14)])), (so, .inr (11, [.ref (sr 0), .int 0, .int 0, .int 0, .int 0, .int 0, .ref (sr 1), .ref (sr 2), .ref (sr 3), .ref (sr 4), .ref (sr 5), .ref (sr 6), .ref (sr 7), .ref (sr 8), .ref (sr 9), .ref (sr 10), .ref (sr 11), .ref (sr 12), .ref (sr 13), .ref (sr 14), .ref (sr 15), .ref (sr 16), .ref (sr 17), .ref (sr 18), .ref (sr 19), .int 0, .int 0, .int 0]))] s.heap := hP
  have hl := lv_entry ([.ref mo, .int a, .int w]) (n := 3) (Nat.le_of_ble_eq_true rfl)
  rw [lg_entry_eq]
  generalize (lg_sl ([.ref mo, .int a, .int w]) ++ List.replicate (3 - (lg_sl ([.ref mo, .int a, .int w])).length) Slot.unset).toArray = ls at hl ⊢
  have hl : lv_has ls 3 [(0, .ref mo), (1, .int a), (2, .int w)] := hl
  refine lv_iload_n hx hb d_SM_element_0 rfl (lv_at hl 1 rfl) ?_
  refine lv_if_lt (tgt := 46) hx hb d_SM_element_1 (by decide) (fun c_1 => ?_) (fun c_1 => ?_)
  · refine lv_aload_n hx hb d_SM_element_46 rfl (lv_at hl 0 rfl) ?_
    refine lv_iconst (v := 1) hx hb d_SM_element_47 (by decide) ?_
    refine vi_i (wc := [(mo, .inr (6, [.int th, .int ((-1)), .ref (mr 0), .int 0, .ref (mr 1), .ref (mr 2), .ref (mr 3), .ref (mr 4), .ref (mr 5), .ref (mr 6), .ref so, .ref (mr 7), .ref (mr 8), .ref (mr 9), .int 0, .ref (mr 10), .ref (mr 11), .int 0, .ref (mr 12), .int 0, .ref (mr 13), .int 0, .ref (mr 14)]))]) (wr := [(so, .inr (11, [.ref (sr 0), .int 0, .int 0, .int 0, .int 0, .int 0, .ref (sr 1), .ref (sr 2), .ref (sr 3), .ref (sr 4), .ref (sr 5), .ref (sr 6), .ref (sr 7), .ref (sr 8), .ref (sr 9), .ref (sr 10), .ref (sr 11), .ref (sr 12), .ref (sr 13), .ref (sr 14), .ref (sr 15), .ref (sr 16), .ref (sr 17), .ref (sr 18), .ref (sr 19), .int 0, .int 0, .int 0]))]) (va_runV (As := [.int 1]) (rest := []) ⟨hx, hb, hml, hown, hts⟩ (c_SM_refuse l dC dI mo so mr sr th 1 s.heap.size) (cwV 1 hts (tt_V k_3758 k_3760 k_122 k_247 kw_SM_refuse) rfl rfl rfl (by decide +kernel) ⟨Nat.le_of_ble_eq_true rfl, Nat.le_of_ble_eq_true rfl⟩) ⟨pr_blind, va_recv hK hP (ci := 6) (q0 := 0) rfl rfl, pr_pre hb0 (hP.sub [0] rfl) (hK.sub [] rfl) (hD.sub [0] (by decide) rfl)⟩ rfl rfl hl.1 rfl (lv_room (Nat.le_of_ble_eq_true rfl)) d_SM_element_48 ⟨Nat.le_of_ble_eq_true rfl, Nat.le_of_ble_eq_true rfl⟩) hP hD hK hS hA [0] [1] rfl rfl (by decide) (by decide) (fun r u H locs hw hP hK hD hS => ?_)
    obtain ⟨rfl, rfl⟩ := hw
    have hP : va_P (dC, dI) classes [(so, .inr (11, [.ref (sr 0), .int 0, .int 0, .int 0, .int 0, .int 0, .ref (sr 1), .ref (sr 2), .ref (sr 3), .ref (sr 4), .ref (sr 5), .ref (sr 6), .ref (sr 7), .ref (sr 8), .ref (sr 9), .ref (sr 10), .ref (sr 11), .ref (sr 12), .ref (sr 13), .ref (sr 14), .ref (sr 15), .ref (sr 16), .ref (sr 17), .ref (sr 18), .ref (sr 19), .int 0, .int 0, .int 0])), (mo, .inr (6, [.int 1, .int ((-1)), .ref (mr 0), .int 0, .ref (mr 1), .ref (mr 2), .ref (mr 3), .ref (mr 4), .ref (mr 5), .ref (mr 6), .ref so, .ref (mr 7), .ref (mr 8), .ref (mr 9), .int 0, .ref (mr 10), .ref (mr 11), .int 0, .ref (mr 12), .int 0, .ref (mr 13), .int 0, .ref (mr 14)]))] H := hP
    have hD : va_D A [(so, .inr (11, [.ref (sr 0), .int 0, .int 0, .int 0, .int 0, .int 0, .ref (sr 1), .ref (sr 2), .ref (sr 3), .ref (sr 4), .ref (sr 5), .ref (sr 6), .ref (sr 7), .ref (sr 8), .ref (sr 9), .ref (sr 10), .ref (sr 11), .ref (sr 12), .ref (sr 13), .ref (sr 14), .ref (sr 15), .ref (sr 16), .ref (sr 17), .ref (sr 18), .ref (sr 19), .int 0, .int 0, .int 0])), (mo, .inr (6, [.int 1, .int ((-1)), .ref (mr 0), .int 0, .ref (mr 1), .ref (mr 2), .ref (mr 3), .ref (mr 4), .ref (mr 5), .ref (mr 6), .ref so, .ref (mr 7), .ref (mr 8), .ref (mr 9), .int 0, .ref (mr 10), .ref (mr 11), .int 0, .ref (mr 12), .int 0, .ref (mr 13), .int 0, .ref (mr 14)]))] := hD
    have hK : va_K (dC, dI) classes [] s := hK
    have hP9 := hP.sub (ws' := [(mo, .inr (6, [.int 1, .int ((-1)), .ref (mr 0), .int 0, .ref (mr 1), .ref (mr 2), .ref (mr 3), .ref (mr 4), .ref (mr 5), .ref (mr 6), .ref so, .ref (mr 7), .ref (mr 8), .ref (mr 9), .int 0, .ref (mr 10), .ref (mr 11), .int 0, .ref (mr 12), .int 0, .ref (mr 13), .int 0, .ref (mr 14)]))]) [1] rfl
    have hD9 := hD.sub (ws' := [(mo, .inr (6, [.int 1, .int ((-1)), .ref (mr 0), .int 0, .ref (mr 1), .ref (mr 2), .ref (mr 3), .ref (mr 4), .ref (mr 5), .ref (mr 6), .ref so, .ref (mr 7), .ref (mr 8), .ref (mr 9), .int 0, .ref (mr 10), .ref (mr 11), .int 0, .ref (mr 12), .int 0, .ref (mr 13), .int 0, .ref (mr 14)]))]) [1] (by decide) rfl
    have hK9 := hK.sub (tys' := []) [] rfl
    exact W.iret (v := 0) hx hb hr (fun t ht hW => ⟨⟨0, 1, rfl, Or.inl ⟨rfl, by simp only [in_0, Int32.lt_iff_toInt_lt, Int32.le_iff_toInt_le, z_0, z_1, z_5, z_6, z_7, z_9, z_10, z_11, z_13, z_20, z_41] at c_1 ⊢; omega⟩, by rw [ht]; exact hP9, va_K.moved hW.alike hK9, hD9⟩, hS.F ht⟩) hS.2.2 d_SM_element_51
  · refine lv_aload_n hx hb d_SM_element_4 rfl (lv_at hl 0 rfl) ?_
    refine va_get (D := (dC, dI)) (ci := 6) (v := .ref so) (C := "ScholarsPressModel") (T := F_SM) (N := 23) hx hb hts in_SM hown hK hP 0 rfl rfl 10 (by decide) (hts (.fieldLink "ScholarsPressModel" 50 "ScholarsPressModel" "source" "LScholarsPressModel$Source;") k_3690) (fun _ h9 => h9) rfl d_SM_element_5 ?_
    refine va_get (D := (dC, dI)) (ci := 11) (v := .int 0) (C := "ScholarsPressModel$Source") (T := F_MSource) (N := 28) hx hb hts in_MSource hown hK hP 1 rfl rfl 5 (by decide) (hts (.fieldLink "ScholarsPressModel" 154 "ScholarsPressModel$Source" "there" "Z") k_2976) (fun _ h9 => h9) rfl d_SM_element_8 ?_
    refine lv_if_eq (tgt := 25) hx hb d_SM_element_11 (by decide) (fun c_2 => ?_) (fun c_2 => ?_)
    · refine lv_iload_n hx hb d_SM_element_25 rfl (lv_at hl 2 rfl) ?_
      refine lv_iconst (v := 0) hx hb d_SM_element_26 (by decide) ?_
      refine lv_bipush (v := 7) hx hb d_SM_element_27 (by decide) ?_
      refine vi_i (wc := []) (wr := [(mo, .inr (6, [.int th, .int ((-1)), .ref (mr 0), .int 0, .ref (mr 1), .ref (mr 2), .ref (mr 3), .ref (mr 4), .ref (mr 5), .ref (mr 6), .ref so, .ref (mr 7), .ref (mr 8), .ref (mr 9), .int 0, .ref (mr 10), .ref (mr 11), .int 0, .ref (mr 12), .int 0, .ref (mr 13), .int 0, .ref (mr 14)])), (so, .inr (11, [.ref (sr 0), .int 0, .int 0, .int 0, .int 0, .int 0, .ref (sr 1), .ref (sr 2), .ref (sr 3), .ref (sr 4), .ref (sr 5), .ref (sr 6), .ref (sr 7), .ref (sr 8), .ref (sr 9), .ref (sr 10), .ref (sr 11), .ref (sr 12), .ref (sr 13), .ref (sr 14), .ref (sr 15), .ref (sr 16), .ref (sr 17), .ref (sr 18), .ref (sr 19), .int 0, .int 0, .int 0]))]) (va_runS (As := [.int w, .int 0, .int 7]) (rest := []) ⟨hx, hb, hml, hown, hts⟩ (c_SM_in l dC dI w 0 7 s.heap.size) (va_cwS 3 hts (tt_S2 k_4102 k_4103 k_247 kw_SM_in) rfl rfl rfl (by decide +kernel) ⟨Nat.le_of_ble_eq_true rfl, Nat.le_of_ble_eq_true rfl⟩) ⟨pr_blind, pr_pre hb0 (hP.sub [] rfl) (hK.sub [] rfl) (hD.sub [] (by decide) rfl)⟩ rfl rfl hl.1 rfl (lv_room (Nat.le_of_ble_eq_true rfl)) d_SM_element_29 ⟨Nat.le_of_ble_eq_true rfl, Nat.le_of_ble_eq_true rfl⟩) hP hD hK hS hA [] [0, 1] rfl rfl (by decide) (by decide) (fun r u H locs hw hP hK hD hS => ?_)
      subst hw
      have hP : va_P (dC, dI) classes [(mo, .inr (6, [.int th, .int ((-1)), .ref (mr 0), .int 0, .ref (mr 1), .ref (mr 2), .ref (mr 3), .ref (mr 4), .ref (mr 5), .ref (mr 6), .ref so, .ref (mr 7), .ref (mr 8), .ref (mr 9), .int 0, .ref (mr 10), .ref (mr 11), .int 0, .ref (mr 12), .int 0, .ref (mr 13), .int 0, .ref (mr 14)])), (so, .inr (11, [.ref (sr 0), .int 0, .int 0, .int 0, .int 0, .int 0, .ref (sr 1), .ref (sr 2), .ref (sr 3), .ref (sr 4), .ref (sr 5), .ref (sr 6), .ref (sr 7), .ref (sr 8), .ref (sr 9), .ref (sr 10), .ref (sr 11), .ref (sr 12), .ref (sr 13), .ref (sr 14), .ref (sr 15), .ref (sr 16), .ref (sr 17), .ref (sr 18), .ref (sr 19), .int 0, .int 0, .int 0]))] H := hP
      have hD : va_D A [(mo, .inr (6, [.int th, .int ((-1)), .ref (mr 0), .int 0, .ref (mr 1), .ref (mr 2), .ref (mr 3), .ref (mr 4), .ref (mr 5), .ref (mr 6), .ref so, .ref (mr 7), .ref (mr 8), .ref (mr 9), .int 0, .ref (mr 10), .ref (mr 11), .int 0, .ref (mr 12), .int 0, .ref (mr 13), .int 0, .ref (mr 14)])), (so, .inr (11, [.ref (sr 0), .int 0, .int 0, .int 0, .int 0, .int 0, .ref (sr 1), .ref (sr 2), .ref (sr 3), .ref (sr 4), .ref (sr 5), .ref (sr 6), .ref (sr 7), .ref (sr 8), .ref (sr 9), .ref (sr 10), .ref (sr 11), .ref (sr 12), .ref (sr 13), .ref (sr 14), .ref (sr 15), .ref (sr 16), .ref (sr 17), .ref (sr 18), .ref (sr 19), .int 0, .int 0, .int 0]))] := hD
      have hK : va_K (dC, dI) classes [] s := hK
      refine lv_if_ne (tgt := 52) hx hb d_SM_element_32 (by decide) (fun c_3 => ?_) (fun c_3 => ?_)
      · refine lv_aload_n hx hb d_SM_element_52 rfl (lv_at hl 0 rfl) ?_
        refine va_get (D := (dC, dI)) (ci := 6) (v := .ref so) (C := "ScholarsPressModel") (T := F_SM) (N := 23) hx hb hts in_SM hown hK hP 0 rfl rfl 10 (by decide) (hts (.fieldLink "ScholarsPressModel" 50 "ScholarsPressModel" "source" "LScholarsPressModel$Source;") k_3690) (fun _ h9 => h9) rfl d_SM_element_53 ?_
        refine va_get (D := (dC, dI)) (ci := 11) (v := .int 0) (C := "ScholarsPressModel$Source") (T := F_MSource) (N := 28) hx hb hts in_MSource hown hK hP 1 rfl rfl 5 (by decide) (hts (.fieldLink "ScholarsPressModel" 154 "ScholarsPressModel$Source" "there" "Z") k_2976) (fun _ h9 => h9) rfl d_SM_element_56 ?_
        refine lv_if_ne (tgt := 68) hx hb d_SM_element_59 (by decide) (fun c_4 => ?_) (fun c_4 => ?_)
        · exact absurd c_4 (by decide)
        · refine lv_aload_n hx hb d_SM_element_62 rfl (lv_at hl 0 rfl) ?_
          refine lv_iconst (v := 2) hx hb d_SM_element_63 (by decide) ?_
          refine vi_i (wc := [(mo, .inr (6, [.int th, .int ((-1)), .ref (mr 0), .int 0, .ref (mr 1), .ref (mr 2), .ref (mr 3), .ref (mr 4), .ref (mr 5), .ref (mr 6), .ref so, .ref (mr 7), .ref (mr 8), .ref (mr 9), .int 0, .ref (mr 10), .ref (mr 11), .int 0, .ref (mr 12), .int 0, .ref (mr 13), .int 0, .ref (mr 14)]))]) (wr := [(so, .inr (11, [.ref (sr 0), .int 0, .int 0, .int 0, .int 0, .int 0, .ref (sr 1), .ref (sr 2), .ref (sr 3), .ref (sr 4), .ref (sr 5), .ref (sr 6), .ref (sr 7), .ref (sr 8), .ref (sr 9), .ref (sr 10), .ref (sr 11), .ref (sr 12), .ref (sr 13), .ref (sr 14), .ref (sr 15), .ref (sr 16), .ref (sr 17), .ref (sr 18), .ref (sr 19), .int 0, .int 0, .int 0]))]) (va_runV (As := [.int 2]) (rest := []) ⟨hx, hb, hml, hown, hts⟩ (c_SM_refuse l dC dI mo so mr sr th 2 H.size) (cwV 1 hts (tt_V k_3758 k_3760 k_122 k_247 kw_SM_refuse) rfl rfl rfl (by decide +kernel) ⟨Nat.le_of_ble_eq_true rfl, Nat.le_of_ble_eq_true rfl⟩) ⟨pr_blind, va_recv hK hP (ci := 6) (q0 := 0) rfl rfl, pr_pre hb0 (hP.sub [0] rfl) (hK.sub [] rfl) (hD.sub [0] (by decide) rfl)⟩ rfl rfl hl.1 rfl (lv_room (Nat.le_of_ble_eq_true rfl)) d_SM_element_64 ⟨Nat.le_of_ble_eq_true rfl, Nat.le_of_ble_eq_true rfl⟩) hP hD hK hS hA [0] [1] rfl rfl (by decide) (by decide) (fun r u H locs hw hP hK hD hS => ?_)
          obtain ⟨rfl, rfl⟩ := hw
          have hP : va_P (dC, dI) classes [(so, .inr (11, [.ref (sr 0), .int 0, .int 0, .int 0, .int 0, .int 0, .ref (sr 1), .ref (sr 2), .ref (sr 3), .ref (sr 4), .ref (sr 5), .ref (sr 6), .ref (sr 7), .ref (sr 8), .ref (sr 9), .ref (sr 10), .ref (sr 11), .ref (sr 12), .ref (sr 13), .ref (sr 14), .ref (sr 15), .ref (sr 16), .ref (sr 17), .ref (sr 18), .ref (sr 19), .int 0, .int 0, .int 0])), (mo, .inr (6, [.int 2, .int ((-1)), .ref (mr 0), .int 0, .ref (mr 1), .ref (mr 2), .ref (mr 3), .ref (mr 4), .ref (mr 5), .ref (mr 6), .ref so, .ref (mr 7), .ref (mr 8), .ref (mr 9), .int 0, .ref (mr 10), .ref (mr 11), .int 0, .ref (mr 12), .int 0, .ref (mr 13), .int 0, .ref (mr 14)]))] H := hP
          have hD : va_D A [(so, .inr (11, [.ref (sr 0), .int 0, .int 0, .int 0, .int 0, .int 0, .ref (sr 1), .ref (sr 2), .ref (sr 3), .ref (sr 4), .ref (sr 5), .ref (sr 6), .ref (sr 7), .ref (sr 8), .ref (sr 9), .ref (sr 10), .ref (sr 11), .ref (sr 12), .ref (sr 13), .ref (sr 14), .ref (sr 15), .ref (sr 16), .ref (sr 17), .ref (sr 18), .ref (sr 19), .int 0, .int 0, .int 0])), (mo, .inr (6, [.int 2, .int ((-1)), .ref (mr 0), .int 0, .ref (mr 1), .ref (mr 2), .ref (mr 3), .ref (mr 4), .ref (mr 5), .ref (mr 6), .ref so, .ref (mr 7), .ref (mr 8), .ref (mr 9), .int 0, .ref (mr 10), .ref (mr 11), .int 0, .ref (mr 12), .int 0, .ref (mr 13), .int 0, .ref (mr 14)]))] := hD
          have hK : va_K (dC, dI) classes [] s := hK
          have hP9 := hP.sub (ws' := [(mo, .inr (6, [.int 2, .int ((-1)), .ref (mr 0), .int 0, .ref (mr 1), .ref (mr 2), .ref (mr 3), .ref (mr 4), .ref (mr 5), .ref (mr 6), .ref so, .ref (mr 7), .ref (mr 8), .ref (mr 9), .int 0, .ref (mr 10), .ref (mr 11), .int 0, .ref (mr 12), .int 0, .ref (mr 13), .int 0, .ref (mr 14)]))]) [1] rfl
          have hD9 := hD.sub (ws' := [(mo, .inr (6, [.int 2, .int ((-1)), .ref (mr 0), .int 0, .ref (mr 1), .ref (mr 2), .ref (mr 3), .ref (mr 4), .ref (mr 5), .ref (mr 6), .ref so, .ref (mr 7), .ref (mr 8), .ref (mr 9), .int 0, .ref (mr 10), .ref (mr 11), .int 0, .ref (mr 12), .int 0, .ref (mr 13), .int 0, .ref (mr 14)]))]) [1] (by decide) rfl
          have hK9 := hK.sub (tys' := []) [] rfl
          exact W.iret (v := 0) hx hb hr (fun t ht hW => ⟨⟨0, 2, rfl, Or.inr (⟨rfl, by simp only [in_0, Int32.lt_iff_toInt_lt, Int32.le_iff_toInt_le, z_0, z_1, z_5, z_6, z_7, z_9, z_10, z_11, z_13, z_20, z_41] at c_1 c_3 ⊢; omega⟩), by rw [ht]; exact hP9, va_K.moved hW.alike hK9, hD9⟩, hS.F ht⟩) hS.2.2 d_SM_element_67
      · refine lv_iload_n hx hb d_SM_element_35 rfl (lv_at hl 2 rfl) ?_
        refine lv_bipush (v := 20) hx hb d_SM_element_36 (by decide) ?_
        refine lv_bipush (v := 41) hx hb d_SM_element_38 (by decide) ?_
        refine vi_i (wc := []) (wr := [(mo, .inr (6, [.int th, .int ((-1)), .ref (mr 0), .int 0, .ref (mr 1), .ref (mr 2), .ref (mr 3), .ref (mr 4), .ref (mr 5), .ref (mr 6), .ref so, .ref (mr 7), .ref (mr 8), .ref (mr 9), .int 0, .ref (mr 10), .ref (mr 11), .int 0, .ref (mr 12), .int 0, .ref (mr 13), .int 0, .ref (mr 14)])), (so, .inr (11, [.ref (sr 0), .int 0, .int 0, .int 0, .int 0, .int 0, .ref (sr 1), .ref (sr 2), .ref (sr 3), .ref (sr 4), .ref (sr 5), .ref (sr 6), .ref (sr 7), .ref (sr 8), .ref (sr 9), .ref (sr 10), .ref (sr 11), .ref (sr 12), .ref (sr 13), .ref (sr 14), .ref (sr 15), .ref (sr 16), .ref (sr 17), .ref (sr 18), .ref (sr 19), .int 0, .int 0, .int 0]))]) (va_runS (As := [.int w, .int 20, .int 41]) (rest := []) ⟨hx, hb, hml, hown, hts⟩ (c_SM_in l dC dI w 20 41 H.size) (va_cwS 3 hts (tt_S2 k_4102 k_4103 k_247 kw_SM_in) rfl rfl rfl (by decide +kernel) ⟨Nat.le_of_ble_eq_true rfl, Nat.le_of_ble_eq_true rfl⟩) ⟨pr_blind, pr_pre hb0 (hP.sub [] rfl) (hK.sub [] rfl) (hD.sub [] (by decide) rfl)⟩ rfl rfl hl.1 rfl (lv_room (Nat.le_of_ble_eq_true rfl)) d_SM_element_40 ⟨Nat.le_of_ble_eq_true rfl, Nat.le_of_ble_eq_true rfl⟩) hP hD hK hS hA [] [0, 1] rfl rfl (by decide) (by decide) (fun r u H locs hw hP hK hD hS => ?_)
        subst hw
        have hP : va_P (dC, dI) classes [(mo, .inr (6, [.int th, .int ((-1)), .ref (mr 0), .int 0, .ref (mr 1), .ref (mr 2), .ref (mr 3), .ref (mr 4), .ref (mr 5), .ref (mr 6), .ref so, .ref (mr 7), .ref (mr 8), .ref (mr 9), .int 0, .ref (mr 10), .ref (mr 11), .int 0, .ref (mr 12), .int 0, .ref (mr 13), .int 0, .ref (mr 14)])), (so, .inr (11, [.ref (sr 0), .int 0, .int 0, .int 0, .int 0, .int 0, .ref (sr 1), .ref (sr 2), .ref (sr 3), .ref (sr 4), .ref (sr 5), .ref (sr 6), .ref (sr 7), .ref (sr 8), .ref (sr 9), .ref (sr 10), .ref (sr 11), .ref (sr 12), .ref (sr 13), .ref (sr 14), .ref (sr 15), .ref (sr 16), .ref (sr 17), .ref (sr 18), .ref (sr 19), .int 0, .int 0, .int 0]))] H := hP
        have hD : va_D A [(mo, .inr (6, [.int th, .int ((-1)), .ref (mr 0), .int 0, .ref (mr 1), .ref (mr 2), .ref (mr 3), .ref (mr 4), .ref (mr 5), .ref (mr 6), .ref so, .ref (mr 7), .ref (mr 8), .ref (mr 9), .int 0, .ref (mr 10), .ref (mr 11), .int 0, .ref (mr 12), .int 0, .ref (mr 13), .int 0, .ref (mr 14)])), (so, .inr (11, [.ref (sr 0), .int 0, .int 0, .int 0, .int 0, .int 0, .ref (sr 1), .ref (sr 2), .ref (sr 3), .ref (sr 4), .ref (sr 5), .ref (sr 6), .ref (sr 7), .ref (sr 8), .ref (sr 9), .ref (sr 10), .ref (sr 11), .ref (sr 12), .ref (sr 13), .ref (sr 14), .ref (sr 15), .ref (sr 16), .ref (sr 17), .ref (sr 18), .ref (sr 19), .int 0, .int 0, .int 0]))] := hD
        have hK : va_K (dC, dI) classes [] s := hK
        refine lv_if_ne (tgt := 52) hx hb d_SM_element_43 (by decide) (fun c_5 => ?_) (fun c_5 => ?_)
        · refine lv_aload_n hx hb d_SM_element_52 rfl (lv_at hl 0 rfl) ?_
          refine va_get (D := (dC, dI)) (ci := 6) (v := .ref so) (C := "ScholarsPressModel") (T := F_SM) (N := 23) hx hb hts in_SM hown hK hP 0 rfl rfl 10 (by decide) (hts (.fieldLink "ScholarsPressModel" 50 "ScholarsPressModel" "source" "LScholarsPressModel$Source;") k_3690) (fun _ h9 => h9) rfl d_SM_element_53 ?_
          refine va_get (D := (dC, dI)) (ci := 11) (v := .int 0) (C := "ScholarsPressModel$Source") (T := F_MSource) (N := 28) hx hb hts in_MSource hown hK hP 1 rfl rfl 5 (by decide) (hts (.fieldLink "ScholarsPressModel" 154 "ScholarsPressModel$Source" "there" "Z") k_2976) (fun _ h9 => h9) rfl d_SM_element_56 ?_
          refine lv_if_ne (tgt := 68) hx hb d_SM_element_59 (by decide) (fun c_6 => ?_) (fun c_6 => ?_)
          · exact absurd c_6 (by decide)
          · refine lv_aload_n hx hb d_SM_element_62 rfl (lv_at hl 0 rfl) ?_
            refine lv_iconst (v := 2) hx hb d_SM_element_63 (by decide) ?_
            refine vi_i (wc := [(mo, .inr (6, [.int th, .int ((-1)), .ref (mr 0), .int 0, .ref (mr 1), .ref (mr 2), .ref (mr 3), .ref (mr 4), .ref (mr 5), .ref (mr 6), .ref so, .ref (mr 7), .ref (mr 8), .ref (mr 9), .int 0, .ref (mr 10), .ref (mr 11), .int 0, .ref (mr 12), .int 0, .ref (mr 13), .int 0, .ref (mr 14)]))]) (wr := [(so, .inr (11, [.ref (sr 0), .int 0, .int 0, .int 0, .int 0, .int 0, .ref (sr 1), .ref (sr 2), .ref (sr 3), .ref (sr 4), .ref (sr 5), .ref (sr 6), .ref (sr 7), .ref (sr 8), .ref (sr 9), .ref (sr 10), .ref (sr 11), .ref (sr 12), .ref (sr 13), .ref (sr 14), .ref (sr 15), .ref (sr 16), .ref (sr 17), .ref (sr 18), .ref (sr 19), .int 0, .int 0, .int 0]))]) (va_runV (As := [.int 2]) (rest := []) ⟨hx, hb, hml, hown, hts⟩ (c_SM_refuse l dC dI mo so mr sr th 2 H.size) (cwV 1 hts (tt_V k_3758 k_3760 k_122 k_247 kw_SM_refuse) rfl rfl rfl (by decide +kernel) ⟨Nat.le_of_ble_eq_true rfl, Nat.le_of_ble_eq_true rfl⟩) ⟨pr_blind, va_recv hK hP (ci := 6) (q0 := 0) rfl rfl, pr_pre hb0 (hP.sub [0] rfl) (hK.sub [] rfl) (hD.sub [0] (by decide) rfl)⟩ rfl rfl hl.1 rfl (lv_room (Nat.le_of_ble_eq_true rfl)) d_SM_element_64 ⟨Nat.le_of_ble_eq_true rfl, Nat.le_of_ble_eq_true rfl⟩) hP hD hK hS hA [0] [1] rfl rfl (by decide) (by decide) (fun r u H locs hw hP hK hD hS => ?_)
            obtain ⟨rfl, rfl⟩ := hw
            have hP : va_P (dC, dI) classes [(so, .inr (11, [.ref (sr 0), .int 0, .int 0, .int 0, .int 0, .int 0, .ref (sr 1), .ref (sr 2), .ref (sr 3), .ref (sr 4), .ref (sr 5), .ref (sr 6), .ref (sr 7), .ref (sr 8), .ref (sr 9), .ref (sr 10), .ref (sr 11), .ref (sr 12), .ref (sr 13), .ref (sr 14), .ref (sr 15), .ref (sr 16), .ref (sr 17), .ref (sr 18), .ref (sr 19), .int 0, .int 0, .int 0])), (mo, .inr (6, [.int 2, .int ((-1)), .ref (mr 0), .int 0, .ref (mr 1), .ref (mr 2), .ref (mr 3), .ref (mr 4), .ref (mr 5), .ref (mr 6), .ref so, .ref (mr 7), .ref (mr 8), .ref (mr 9), .int 0, .ref (mr 10), .ref (mr 11), .int 0, .ref (mr 12), .int 0, .ref (mr 13), .int 0, .ref (mr 14)]))] H := hP
            have hD : va_D A [(so, .inr (11, [.ref (sr 0), .int 0, .int 0, .int 0, .int 0, .int 0, .ref (sr 1), .ref (sr 2), .ref (sr 3), .ref (sr 4), .ref (sr 5), .ref (sr 6), .ref (sr 7), .ref (sr 8), .ref (sr 9), .ref (sr 10), .ref (sr 11), .ref (sr 12), .ref (sr 13), .ref (sr 14), .ref (sr 15), .ref (sr 16), .ref (sr 17), .ref (sr 18), .ref (sr 19), .int 0, .int 0, .int 0])), (mo, .inr (6, [.int 2, .int ((-1)), .ref (mr 0), .int 0, .ref (mr 1), .ref (mr 2), .ref (mr 3), .ref (mr 4), .ref (mr 5), .ref (mr 6), .ref so, .ref (mr 7), .ref (mr 8), .ref (mr 9), .int 0, .ref (mr 10), .ref (mr 11), .int 0, .ref (mr 12), .int 0, .ref (mr 13), .int 0, .ref (mr 14)]))] := hD
            have hK : va_K (dC, dI) classes [] s := hK
            have hP9 := hP.sub (ws' := [(mo, .inr (6, [.int 2, .int ((-1)), .ref (mr 0), .int 0, .ref (mr 1), .ref (mr 2), .ref (mr 3), .ref (mr 4), .ref (mr 5), .ref (mr 6), .ref so, .ref (mr 7), .ref (mr 8), .ref (mr 9), .int 0, .ref (mr 10), .ref (mr 11), .int 0, .ref (mr 12), .int 0, .ref (mr 13), .int 0, .ref (mr 14)]))]) [1] rfl
            have hD9 := hD.sub (ws' := [(mo, .inr (6, [.int 2, .int ((-1)), .ref (mr 0), .int 0, .ref (mr 1), .ref (mr 2), .ref (mr 3), .ref (mr 4), .ref (mr 5), .ref (mr 6), .ref so, .ref (mr 7), .ref (mr 8), .ref (mr 9), .int 0, .ref (mr 10), .ref (mr 11), .int 0, .ref (mr 12), .int 0, .ref (mr 13), .int 0, .ref (mr 14)]))]) [1] (by decide) rfl
            have hK9 := hK.sub (tys' := []) [] rfl
            exact W.iret (v := 0) hx hb hr (fun t ht hW => ⟨⟨0, 2, rfl, Or.inr (⟨rfl, by simp only [in_0, Int32.lt_iff_toInt_lt, Int32.le_iff_toInt_le, z_0, z_1, z_5, z_6, z_7, z_9, z_10, z_11, z_13, z_20, z_41] at c_1 c_3 c_5 ⊢; omega⟩), by rw [ht]; exact hP9, va_K.moved hW.alike hK9, hD9⟩, hS.F ht⟩) hS.2.2 d_SM_element_67
        · refine lv_aload_n hx hb d_SM_element_46 rfl (lv_at hl 0 rfl) ?_
          refine lv_iconst (v := 1) hx hb d_SM_element_47 (by decide) ?_
          refine vi_i (wc := [(mo, .inr (6, [.int th, .int ((-1)), .ref (mr 0), .int 0, .ref (mr 1), .ref (mr 2), .ref (mr 3), .ref (mr 4), .ref (mr 5), .ref (mr 6), .ref so, .ref (mr 7), .ref (mr 8), .ref (mr 9), .int 0, .ref (mr 10), .ref (mr 11), .int 0, .ref (mr 12), .int 0, .ref (mr 13), .int 0, .ref (mr 14)]))]) (wr := [(so, .inr (11, [.ref (sr 0), .int 0, .int 0, .int 0, .int 0, .int 0, .ref (sr 1), .ref (sr 2), .ref (sr 3), .ref (sr 4), .ref (sr 5), .ref (sr 6), .ref (sr 7), .ref (sr 8), .ref (sr 9), .ref (sr 10), .ref (sr 11), .ref (sr 12), .ref (sr 13), .ref (sr 14), .ref (sr 15), .ref (sr 16), .ref (sr 17), .ref (sr 18), .ref (sr 19), .int 0, .int 0, .int 0]))]) (va_runV (As := [.int 1]) (rest := []) ⟨hx, hb, hml, hown, hts⟩ (c_SM_refuse l dC dI mo so mr sr th 1 H.size) (cwV 1 hts (tt_V k_3758 k_3760 k_122 k_247 kw_SM_refuse) rfl rfl rfl (by decide +kernel) ⟨Nat.le_of_ble_eq_true rfl, Nat.le_of_ble_eq_true rfl⟩) ⟨pr_blind, va_recv hK hP (ci := 6) (q0 := 0) rfl rfl, pr_pre hb0 (hP.sub [0] rfl) (hK.sub [] rfl) (hD.sub [0] (by decide) rfl)⟩ rfl rfl hl.1 rfl (lv_room (Nat.le_of_ble_eq_true rfl)) d_SM_element_48 ⟨Nat.le_of_ble_eq_true rfl, Nat.le_of_ble_eq_true rfl⟩) hP hD hK hS hA [0] [1] rfl rfl (by decide) (by decide) (fun r u H locs hw hP hK hD hS => ?_)
          obtain ⟨rfl, rfl⟩ := hw
          have hP : va_P (dC, dI) classes [(so, .inr (11, [.ref (sr 0), .int 0, .int 0, .int 0, .int 0, .int 0, .ref (sr 1), .ref (sr 2), .ref (sr 3), .ref (sr 4), .ref (sr 5), .ref (sr 6), .ref (sr 7), .ref (sr 8), .ref (sr 9), .ref (sr 10), .ref (sr 11), .ref (sr 12), .ref (sr 13), .ref (sr 14), .ref (sr 15), .ref (sr 16), .ref (sr 17), .ref (sr 18), .ref (sr 19), .int 0, .int 0, .int 0])), (mo, .inr (6, [.int 1, .int ((-1)), .ref (mr 0), .int 0, .ref (mr 1), .ref (mr 2), .ref (mr 3), .ref (mr 4), .ref (mr 5), .ref (mr 6), .ref so, .ref (mr 7), .ref (mr 8), .ref (mr 9), .int 0, .ref (mr 10), .ref (mr 11), .int 0, .ref (mr 12), .int 0, .ref (mr 13), .int 0, .ref (mr 14)]))] H := hP
          have hD : va_D A [(so, .inr (11, [.ref (sr 0), .int 0, .int 0, .int 0, .int 0, .int 0, .ref (sr 1), .ref (sr 2), .ref (sr 3), .ref (sr 4), .ref (sr 5), .ref (sr 6), .ref (sr 7), .ref (sr 8), .ref (sr 9), .ref (sr 10), .ref (sr 11), .ref (sr 12), .ref (sr 13), .ref (sr 14), .ref (sr 15), .ref (sr 16), .ref (sr 17), .ref (sr 18), .ref (sr 19), .int 0, .int 0, .int 0])), (mo, .inr (6, [.int 1, .int ((-1)), .ref (mr 0), .int 0, .ref (mr 1), .ref (mr 2), .ref (mr 3), .ref (mr 4), .ref (mr 5), .ref (mr 6), .ref so, .ref (mr 7), .ref (mr 8), .ref (mr 9), .int 0, .ref (mr 10), .ref (mr 11), .int 0, .ref (mr 12), .int 0, .ref (mr 13), .int 0, .ref (mr 14)]))] := hD
          have hK : va_K (dC, dI) classes [] s := hK
          have hP9 := hP.sub (ws' := [(mo, .inr (6, [.int 1, .int ((-1)), .ref (mr 0), .int 0, .ref (mr 1), .ref (mr 2), .ref (mr 3), .ref (mr 4), .ref (mr 5), .ref (mr 6), .ref so, .ref (mr 7), .ref (mr 8), .ref (mr 9), .int 0, .ref (mr 10), .ref (mr 11), .int 0, .ref (mr 12), .int 0, .ref (mr 13), .int 0, .ref (mr 14)]))]) [1] rfl
          have hD9 := hD.sub (ws' := [(mo, .inr (6, [.int 1, .int ((-1)), .ref (mr 0), .int 0, .ref (mr 1), .ref (mr 2), .ref (mr 3), .ref (mr 4), .ref (mr 5), .ref (mr 6), .ref so, .ref (mr 7), .ref (mr 8), .ref (mr 9), .int 0, .ref (mr 10), .ref (mr 11), .int 0, .ref (mr 12), .int 0, .ref (mr 13), .int 0, .ref (mr 14)]))]) [1] (by decide) rfl
          have hK9 := hK.sub (tys' := []) [] rfl
          exact W.iret (v := 0) hx hb hr (fun t ht hW => ⟨⟨0, 1, rfl, Or.inl ⟨rfl, by simp only [in_0, Int32.lt_iff_toInt_lt, Int32.le_iff_toInt_le, z_0, z_1, z_5, z_6, z_7, z_9, z_10, z_11, z_13, z_20, z_41] at c_1 c_3 c_5 ⊢; omega⟩, by rw [ht]; exact hP9, va_K.moved hW.alike hK9, hD9⟩, hS.F ht⟩) hS.2.2 d_SM_element_51
    · exact absurd c_2 (by decide)
set_option maxHeartbeats 4000000 in
set_option maxRecDepth 100000 in
/-- line: nothing is SET -/
theorem c_SM_line (l : Launch) (dC : Nat → ClassId) (dI : Nat → Nat → Nat) (mo so : Nat) (mr sr : Nat → Nat) (th : Int32) (a w : Int32) (sz : Nat) : Met l y_SM_line [w_SM_line] ({ frames := 1, cells := 0, slots := 0, locals := 60 }) (va_Pc [.ref mo, .int a, .int w] (pr sz (dC, dI) [(mo, .inr (6, [.int th, .int ((-1)), .ref (mr 0), .int 0, .ref (mr 1), .ref (mr 2), .ref (mr 3), .ref (mr 4), .ref (mr 5), .ref (mr 6), .ref so, .ref (mr 7), .ref (mr 8), .ref (mr 9), .int 0, .ref (mr 10), .ref (mr 11), .int 0, .ref (mr 12), .int 0, .ref (mr 13), .int 0, .ref (mr 14)])), (so, .inr (11, [.ref (sr 0), .int 0, .int 0, .int 0, .int 0, .int 0, .ref (sr 1), .ref (sr 2), .ref (sr 3), .ref (sr 4), .ref (sr 5), .ref (sr 6), .ref (sr 7), .ref (sr 8), .ref (sr 9), .ref (sr 10), .ref (sr 11), .ref (sr 12), .ref (sr 13), .ref (sr 14), .ref (sr 15), .ref (sr 16), .ref (sr 17), .ref (sr 18), .ref (sr 19), .int 0, .int 0, .int 0]))] [])) (va_Qi (fun (r : Int32) (u : Int32) => (u = 1 ∧ ¬ (0 ≤ w.toInt ∧ w.toInt ≤ 6)) ∨ (u = 2 ∧ (0 ≤ w.toInt ∧ w.toInt ≤ 6))) (bw (dC, dI) (va_A [(mo, .inr (6, [.int th, .int ((-1)), .ref (mr 0), .int 0, .ref (mr 1), .ref (mr 2), .ref (mr 3), .ref (mr 4), .ref (mr 5), .ref (mr 6), .ref so, .ref (mr 7), .ref (mr 8), .ref (mr 9), .int 0, .ref (mr 10), .ref (mr 11), .int 0, .ref (mr 12), .int 0, .ref (mr 13), .int 0, .ref (mr 14)])), (so, .inr (11, [.ref (sr 0), .int 0, .int 0, .int 0, .int 0, .int 0, .ref (sr 1), .ref (sr 2), .ref (sr 3), .ref (sr 4), .ref (sr 5), .ref (sr 6), .ref (sr 7), .ref (sr 8), .ref (sr 9), .ref (sr 10), .ref (sr 11), .ref (sr 12), .ref (sr 13), .ref (sr 14), .ref (sr 15), .ref (sr 16), .ref (sr 17), .ref (sr 18), .ref (sr 19), .int 0, .int 0, .int 0]))] sz) (fun u : Int32 => [(mo, .inr (6, [.int u, .int ((-1)), .ref (mr 0), .int 0, .ref (mr 1), .ref (mr 2), .ref (mr 3), .ref (mr 4), .ref (mr 5), .ref (mr 6), .ref so, .ref (mr 7), .ref (mr 8), .ref (mr 9), .int 0, .ref (mr 10), .ref (mr 11), .int 0, .ref (mr 12), .int 0, .ref (mr 13), .int 0, .ref (mr 14)]))]) (fun u : Int32 => [])) (va_A [(mo, .inr (6, [.int th, .int ((-1)), .ref (mr 0), .int 0, .ref (mr 1), .ref (mr 2), .ref (mr 3), .ref (mr 4), .ref (mr 5), .ref (mr 6), .ref so, .ref (mr 7), .ref (mr 8), .ref (mr 9), .int 0, .ref (mr 10), .ref (mr 11), .int 0, .ref (mr 12), .int 0, .ref (mr 13), .int 0, .ref (mr 14)])), (so, .inr (11, [.ref (sr 0), .int 0, .int 0, .int 0, .int 0, .int 0, .ref (sr 1), .ref (sr 2), .ref (sr 3), .ref (sr 4), .ref (sr 5), .ref (sr 6), .ref (sr 7), .ref (sr 8), .ref (sr 9), .ref (sr 10), .ref (sr 11), .ref (sr 12), .ref (sr 13), .ref (sr 14), .ref (sr 15), .ref (sr 16), .ref (sr 17), .ref (sr 18), .ref (sr 19), .int 0, .int 0, .int 0]))] sz)) 0 0 (va_A [(mo, .inr (6, [.int th, .int ((-1)), .ref (mr 0), .int 0, .ref (mr 1), .ref (mr 2), .ref (mr 3), .ref (mr 4), .ref (mr 5), .ref (mr 6), .ref so, .ref (mr 7), .ref (mr 8), .ref (mr 9), .int 0, .ref (mr 10), .ref (mr 11), .int 0, .ref (mr 12), .int 0, .ref (mr 13), .int 0, .ref (mr 14)])), (so, .inr (11, [.ref (sr 0), .int 0, .int 0, .int 0, .int 0, .int 0, .ref (sr 1), .ref (sr 2), .ref (sr 3), .ref (sr 4), .ref (sr 5), .ref (sr 6), .ref (sr 7), .ref (sr 8), .ref (sr 9), .ref (sr 10), .ref (sr 11), .ref (sr 12), .ref (sr 13), .ref (sr 14), .ref (sr 15), .ref (sr 16), .ref (sr 17), .ref (sr 18), .ref (sr 19), .int 0, .int 0, .int 0]))] sz) := by
  refine Met.ofW (cc := b_SM_line) (maxL := 5) (ret := (some .int)) (by decide) rfl ?_
  intro p e s m args below meth c s₁ B hml hv
  obtain ⟨rfl, hsz, hb0, hP, hK, hD0⟩ := hv
  have hx := B.exec
  have hb := B.bytes
  have hr := B.returns
  have hts : ∀ wq ∈ tt, wq.before ([.ref mo, .int a, .int w] : List Value).toArray s = true := hb0.hts
  have hown : s.vm.findClass "ScholarsPressModel" = some m.cls := findClass_of_methodNamed B.named
  have hlocks := B.notSynchronized
  subst hsz
  have hD := hD0.self (sz := s.heap.size)
  generalize hAe : va_A [(mo, .inr (6, [.int th, .int ((-1)), .ref (mr 0), .int 0, .ref (mr 1), .ref (mr 2), .ref (mr 3), .ref (mr 4), .ref (mr 5), .ref (mr 6), .ref so, .ref (mr 7), .ref (mr 8), .ref (mr 9), .int 0, .ref (mr 10), .ref (mr 11), .int 0, .ref (mr 12), .int 0, .ref (mr 13), .int 0, .ref (mr 14)])), (so, .inr (11, [.ref (sr 0), .int 0, .int 0, .int 0, .int 0, .int 0, .ref (sr 1), .ref (sr 2), .ref (sr 3), .ref (sr 4), .ref (sr 5), .ref (sr 6), .ref (sr 7), .ref (sr 8), .ref (sr 9), .ref (sr 10), .ref (sr 11), .ref (sr 12), .ref (sr 13), .ref (sr 14), .ref (sr 15), .ref (sr 16), .ref (sr 17), .ref (sr 18), .ref (sr 19), .int 0, .int 0, .int 0]))] s.heap.size = A at hD ⊢
  have hA : ∀ q : Nat, s.heap.size ≤ q → A q := fun q h => by rw [← hAe]; exact Or.inr h
  have hS : va_S A s.heap s.heap [] := va_S.rf
  have hP : va_P (dC, dI) classes [(mo, .inr (6, [.int th, .int ((-1)), .ref (mr 0), .int 0, .ref (mr 1), .ref (mr 2), .ref (mr 3), .ref (mr 4), .ref (mr 5), .ref (mr 6), .ref so, .ref (mr 7), .ref (mr 8), .ref (mr 9), .int 0, .ref (mr 10), .ref (mr 11), .int 0, .ref (mr 12), .int 0, .ref (mr 13), .int 0, .ref (mr 14)])), (so, .inr (11, [.ref (sr 0), .int 0, .int 0, .int 0, .int 0, .int 0, .ref (sr 1), .ref (sr 2), .ref (sr 3), .ref (sr 4), .ref (sr 5), .ref (sr 6), .ref (sr 7), .ref (sr 8), .ref (sr 9), .ref (sr 10), .ref (sr 11), .ref (sr 12), .ref (sr 13), .ref (sr 14), .ref (sr 15), .ref (sr 16), .ref (sr 17), .ref (sr 18), .ref (sr 19), .int 0, .int 0, .int 0]))] s.heap := hP
  have hl := lv_entry ([.ref mo, .int a, .int w]) (n := 5) (Nat.le_of_ble_eq_true rfl)
  rw [lg_entry_eq]
  generalize (lg_sl ([.ref mo, .int a, .int w]) ++ List.replicate (5 - (lg_sl ([.ref mo, .int a, .int w])).length) Slot.unset).toArray = ls at hl ⊢
  have hl : lv_has ls 5 [(0, .ref mo), (1, .int a), (2, .int w)] := hl
  refine lv_iload_n hx hb d_SM_line_0 rfl (lv_at hl 2 rfl) ?_
  refine lv_iconst (v := 0) hx hb d_SM_line_1 (by decide) ?_
  refine lv_bipush (v := 6) hx hb d_SM_line_2 (by decide) ?_
  refine vi_i (wc := []) (wr := [(mo, .inr (6, [.int th, .int ((-1)), .ref (mr 0), .int 0, .ref (mr 1), .ref (mr 2), .ref (mr 3), .ref (mr 4), .ref (mr 5), .ref (mr 6), .ref so, .ref (mr 7), .ref (mr 8), .ref (mr 9), .int 0, .ref (mr 10), .ref (mr 11), .int 0, .ref (mr 12), .int 0, .ref (mr 13), .int 0, .ref (mr 14)])), (so, .inr (11, [.ref (sr 0), .int 0, .int 0, .int 0, .int 0, .int 0, .ref (sr 1), .ref (sr 2), .ref (sr 3), .ref (sr 4), .ref (sr 5), .ref (sr 6), .ref (sr 7), .ref (sr 8), .ref (sr 9), .ref (sr 10), .ref (sr 11), .ref (sr 12), .ref (sr 13), .ref (sr 14), .ref (sr 15), .ref (sr 16), .ref (sr 17), .ref (sr 18), .ref (sr 19), .int 0, .int 0, .int 0]))]) (va_runS (As := [.int w, .int 0, .int 6]) (rest := []) ⟨hx, hb, hml, hown, hts⟩ (c_SM_in l dC dI w 0 6 s.heap.size) (va_cwS 3 hts (tt_S2 k_4102 k_4103 k_247 kw_SM_in) rfl rfl rfl (by decide +kernel) ⟨Nat.le_of_ble_eq_true rfl, Nat.le_of_ble_eq_true rfl⟩) ⟨pr_blind, pr_pre hb0 (hP.sub [] rfl) (hK.sub [] rfl) (hD.sub [] (by decide) rfl)⟩ rfl rfl hl.1 rfl (lv_room (Nat.le_of_ble_eq_true rfl)) d_SM_line_4 ⟨Nat.le_of_ble_eq_true rfl, Nat.le_of_ble_eq_true rfl⟩) hP hD hK hS hA [] [0, 1] rfl rfl (by decide) (by decide) (fun r u H locs hw hP hK hD hS => ?_)
  subst hw
  have hP : va_P (dC, dI) classes [(mo, .inr (6, [.int th, .int ((-1)), .ref (mr 0), .int 0, .ref (mr 1), .ref (mr 2), .ref (mr 3), .ref (mr 4), .ref (mr 5), .ref (mr 6), .ref so, .ref (mr 7), .ref (mr 8), .ref (mr 9), .int 0, .ref (mr 10), .ref (mr 11), .int 0, .ref (mr 12), .int 0, .ref (mr 13), .int 0, .ref (mr 14)])), (so, .inr (11, [.ref (sr 0), .int 0, .int 0, .int 0, .int 0, .int 0, .ref (sr 1), .ref (sr 2), .ref (sr 3), .ref (sr 4), .ref (sr 5), .ref (sr 6), .ref (sr 7), .ref (sr 8), .ref (sr 9), .ref (sr 10), .ref (sr 11), .ref (sr 12), .ref (sr 13), .ref (sr 14), .ref (sr 15), .ref (sr 16), .ref (sr 17), .ref (sr 18), .ref (sr 19), .int 0, .int 0, .int 0]))] H := hP
  have hD : va_D A [(mo, .inr (6, [.int th, .int ((-1)), .ref (mr 0), .int 0, .ref (mr 1), .ref (mr 2), .ref (mr 3), .ref (mr 4), .ref (mr 5), .ref (mr 6), .ref so, .ref (mr 7), .ref (mr 8), .ref (mr 9), .int 0, .ref (mr 10), .ref (mr 11), .int 0, .ref (mr 12), .int 0, .ref (mr 13), .int 0, .ref (mr 14)])), (so, .inr (11, [.ref (sr 0), .int 0, .int 0, .int 0, .int 0, .int 0, .ref (sr 1), .ref (sr 2), .ref (sr 3), .ref (sr 4), .ref (sr 5), .ref (sr 6), .ref (sr 7), .ref (sr 8), .ref (sr 9), .ref (sr 10), .ref (sr 11), .ref (sr 12), .ref (sr 13), .ref (sr 14), .ref (sr 15), .ref (sr 16), .ref (sr 17), .ref (sr 18), .ref (sr 19), .int 0, .int 0, .int 0]))] := hD
  have hK : va_K (dC, dI) classes [] s := hK
  refine lv_if_ne (tgt := 16) hx hb d_SM_line_7 (by decide) (fun c_1 => ?_) (fun c_1 => ?_)
  · refine lv_aload_n hx hb d_SM_line_16 rfl (lv_at hl 0 rfl) ?_
    refine va_get (D := (dC, dI)) (ci := 6) (v := .int 0) (C := "ScholarsPressModel") (T := F_SM) (N := 23) hx hb hts in_SM hown hK hP 0 rfl rfl 17 (by decide) (hts (.fieldLink "ScholarsPressModel" 174 "ScholarsPressModel" "isSet" "Z") k_3697) (fun _ h9 => h9) rfl d_SM_line_17 ?_
    refine lv_if_ne (tgt := 29) hx hb d_SM_line_20 (by decide) (fun c_2 => ?_) (fun c_2 => ?_)
    · exact absurd c_2 (by decide)
    · refine lv_aload_n hx hb d_SM_line_23 rfl (lv_at hl 0 rfl) ?_
      refine lv_iconst (v := 2) hx hb d_SM_line_24 (by decide) ?_
      refine vi_i (wc := [(mo, .inr (6, [.int th, .int ((-1)), .ref (mr 0), .int 0, .ref (mr 1), .ref (mr 2), .ref (mr 3), .ref (mr 4), .ref (mr 5), .ref (mr 6), .ref so, .ref (mr 7), .ref (mr 8), .ref (mr 9), .int 0, .ref (mr 10), .ref (mr 11), .int 0, .ref (mr 12), .int 0, .ref (mr 13), .int 0, .ref (mr 14)]))]) (wr := [(so, .inr (11, [.ref (sr 0), .int 0, .int 0, .int 0, .int 0, .int 0, .ref (sr 1), .ref (sr 2), .ref (sr 3), .ref (sr 4), .ref (sr 5), .ref (sr 6), .ref (sr 7), .ref (sr 8), .ref (sr 9), .ref (sr 10), .ref (sr 11), .ref (sr 12), .ref (sr 13), .ref (sr 14), .ref (sr 15), .ref (sr 16), .ref (sr 17), .ref (sr 18), .ref (sr 19), .int 0, .int 0, .int 0]))]) (va_runV (As := [.int 2]) (rest := []) ⟨hx, hb, hml, hown, hts⟩ (c_SM_refuse l dC dI mo so mr sr th 2 H.size) (cwV 1 hts (tt_V k_3758 k_3760 k_122 k_247 kw_SM_refuse) rfl rfl rfl (by decide +kernel) ⟨Nat.le_of_ble_eq_true rfl, Nat.le_of_ble_eq_true rfl⟩) ⟨pr_blind, va_recv hK hP (ci := 6) (q0 := 0) rfl rfl, pr_pre hb0 (hP.sub [0] rfl) (hK.sub [] rfl) (hD.sub [0] (by decide) rfl)⟩ rfl rfl hl.1 rfl (lv_room (Nat.le_of_ble_eq_true rfl)) d_SM_line_25 ⟨Nat.le_of_ble_eq_true rfl, Nat.le_of_ble_eq_true rfl⟩) hP hD hK hS hA [0] [1] rfl rfl (by decide) (by decide) (fun r u H locs hw hP hK hD hS => ?_)
      obtain ⟨rfl, rfl⟩ := hw
      have hP : va_P (dC, dI) classes [(so, .inr (11, [.ref (sr 0), .int 0, .int 0, .int 0, .int 0, .int 0, .ref (sr 1), .ref (sr 2), .ref (sr 3), .ref (sr 4), .ref (sr 5), .ref (sr 6), .ref (sr 7), .ref (sr 8), .ref (sr 9), .ref (sr 10), .ref (sr 11), .ref (sr 12), .ref (sr 13), .ref (sr 14), .ref (sr 15), .ref (sr 16), .ref (sr 17), .ref (sr 18), .ref (sr 19), .int 0, .int 0, .int 0])), (mo, .inr (6, [.int 2, .int ((-1)), .ref (mr 0), .int 0, .ref (mr 1), .ref (mr 2), .ref (mr 3), .ref (mr 4), .ref (mr 5), .ref (mr 6), .ref so, .ref (mr 7), .ref (mr 8), .ref (mr 9), .int 0, .ref (mr 10), .ref (mr 11), .int 0, .ref (mr 12), .int 0, .ref (mr 13), .int 0, .ref (mr 14)]))] H := hP
      have hD : va_D A [(so, .inr (11, [.ref (sr 0), .int 0, .int 0, .int 0, .int 0, .int 0, .ref (sr 1), .ref (sr 2), .ref (sr 3), .ref (sr 4), .ref (sr 5), .ref (sr 6), .ref (sr 7), .ref (sr 8), .ref (sr 9), .ref (sr 10), .ref (sr 11), .ref (sr 12), .ref (sr 13), .ref (sr 14), .ref (sr 15), .ref (sr 16), .ref (sr 17), .ref (sr 18), .ref (sr 19), .int 0, .int 0, .int 0])), (mo, .inr (6, [.int 2, .int ((-1)), .ref (mr 0), .int 0, .ref (mr 1), .ref (mr 2), .ref (mr 3), .ref (mr 4), .ref (mr 5), .ref (mr 6), .ref so, .ref (mr 7), .ref (mr 8), .ref (mr 9), .int 0, .ref (mr 10), .ref (mr 11), .int 0, .ref (mr 12), .int 0, .ref (mr 13), .int 0, .ref (mr 14)]))] := hD
      have hK : va_K (dC, dI) classes [] s := hK
      have hP9 := hP.sub (ws' := [(mo, .inr (6, [.int 2, .int ((-1)), .ref (mr 0), .int 0, .ref (mr 1), .ref (mr 2), .ref (mr 3), .ref (mr 4), .ref (mr 5), .ref (mr 6), .ref so, .ref (mr 7), .ref (mr 8), .ref (mr 9), .int 0, .ref (mr 10), .ref (mr 11), .int 0, .ref (mr 12), .int 0, .ref (mr 13), .int 0, .ref (mr 14)]))]) [1] rfl
      have hD9 := hD.sub (ws' := [(mo, .inr (6, [.int 2, .int ((-1)), .ref (mr 0), .int 0, .ref (mr 1), .ref (mr 2), .ref (mr 3), .ref (mr 4), .ref (mr 5), .ref (mr 6), .ref so, .ref (mr 7), .ref (mr 8), .ref (mr 9), .int 0, .ref (mr 10), .ref (mr 11), .int 0, .ref (mr 12), .int 0, .ref (mr 13), .int 0, .ref (mr 14)]))]) [1] (by decide) rfl
      have hK9 := hK.sub (tys' := []) [] rfl
      exact W.iret (v := 0) hx hb hr (fun t ht hW => ⟨⟨0, 2, rfl, Or.inr (⟨rfl, by simp only [in_0, Int32.lt_iff_toInt_lt, Int32.le_iff_toInt_le, z_0, z_1, z_5, z_6, z_7, z_9, z_10, z_11, z_13, z_20, z_41] at c_1 ⊢; omega⟩), by rw [ht]; exact hP9, va_K.moved hW.alike hK9, hD9⟩, hS.F ht⟩) hS.2.2 d_SM_line_28
  · refine lv_aload_n hx hb d_SM_line_10 rfl (lv_at hl 0 rfl) ?_
    refine lv_iconst (v := 1) hx hb d_SM_line_11 (by decide) ?_
    refine vi_i (wc := [(mo, .inr (6, [.int th, .int ((-1)), .ref (mr 0), .int 0, .ref (mr 1), .ref (mr 2), .ref (mr 3), .ref (mr 4), .ref (mr 5), .ref (mr 6), .ref so, .ref (mr 7), .ref (mr 8), .ref (mr 9), .int 0, .ref (mr 10), .ref (mr 11), .int 0, .ref (mr 12), .int 0, .ref (mr 13), .int 0, .ref (mr 14)]))]) (wr := [(so, .inr (11, [.ref (sr 0), .int 0, .int 0, .int 0, .int 0, .int 0, .ref (sr 1), .ref (sr 2), .ref (sr 3), .ref (sr 4), .ref (sr 5), .ref (sr 6), .ref (sr 7), .ref (sr 8), .ref (sr 9), .ref (sr 10), .ref (sr 11), .ref (sr 12), .ref (sr 13), .ref (sr 14), .ref (sr 15), .ref (sr 16), .ref (sr 17), .ref (sr 18), .ref (sr 19), .int 0, .int 0, .int 0]))]) (va_runV (As := [.int 1]) (rest := []) ⟨hx, hb, hml, hown, hts⟩ (c_SM_refuse l dC dI mo so mr sr th 1 H.size) (cwV 1 hts (tt_V k_3758 k_3760 k_122 k_247 kw_SM_refuse) rfl rfl rfl (by decide +kernel) ⟨Nat.le_of_ble_eq_true rfl, Nat.le_of_ble_eq_true rfl⟩) ⟨pr_blind, va_recv hK hP (ci := 6) (q0 := 0) rfl rfl, pr_pre hb0 (hP.sub [0] rfl) (hK.sub [] rfl) (hD.sub [0] (by decide) rfl)⟩ rfl rfl hl.1 rfl (lv_room (Nat.le_of_ble_eq_true rfl)) d_SM_line_12 ⟨Nat.le_of_ble_eq_true rfl, Nat.le_of_ble_eq_true rfl⟩) hP hD hK hS hA [0] [1] rfl rfl (by decide) (by decide) (fun r u H locs hw hP hK hD hS => ?_)
    obtain ⟨rfl, rfl⟩ := hw
    have hP : va_P (dC, dI) classes [(so, .inr (11, [.ref (sr 0), .int 0, .int 0, .int 0, .int 0, .int 0, .ref (sr 1), .ref (sr 2), .ref (sr 3), .ref (sr 4), .ref (sr 5), .ref (sr 6), .ref (sr 7), .ref (sr 8), .ref (sr 9), .ref (sr 10), .ref (sr 11), .ref (sr 12), .ref (sr 13), .ref (sr 14), .ref (sr 15), .ref (sr 16), .ref (sr 17), .ref (sr 18), .ref (sr 19), .int 0, .int 0, .int 0])), (mo, .inr (6, [.int 1, .int ((-1)), .ref (mr 0), .int 0, .ref (mr 1), .ref (mr 2), .ref (mr 3), .ref (mr 4), .ref (mr 5), .ref (mr 6), .ref so, .ref (mr 7), .ref (mr 8), .ref (mr 9), .int 0, .ref (mr 10), .ref (mr 11), .int 0, .ref (mr 12), .int 0, .ref (mr 13), .int 0, .ref (mr 14)]))] H := hP
    have hD : va_D A [(so, .inr (11, [.ref (sr 0), .int 0, .int 0, .int 0, .int 0, .int 0, .ref (sr 1), .ref (sr 2), .ref (sr 3), .ref (sr 4), .ref (sr 5), .ref (sr 6), .ref (sr 7), .ref (sr 8), .ref (sr 9), .ref (sr 10), .ref (sr 11), .ref (sr 12), .ref (sr 13), .ref (sr 14), .ref (sr 15), .ref (sr 16), .ref (sr 17), .ref (sr 18), .ref (sr 19), .int 0, .int 0, .int 0])), (mo, .inr (6, [.int 1, .int ((-1)), .ref (mr 0), .int 0, .ref (mr 1), .ref (mr 2), .ref (mr 3), .ref (mr 4), .ref (mr 5), .ref (mr 6), .ref so, .ref (mr 7), .ref (mr 8), .ref (mr 9), .int 0, .ref (mr 10), .ref (mr 11), .int 0, .ref (mr 12), .int 0, .ref (mr 13), .int 0, .ref (mr 14)]))] := hD
    have hK : va_K (dC, dI) classes [] s := hK
    have hP9 := hP.sub (ws' := [(mo, .inr (6, [.int 1, .int ((-1)), .ref (mr 0), .int 0, .ref (mr 1), .ref (mr 2), .ref (mr 3), .ref (mr 4), .ref (mr 5), .ref (mr 6), .ref so, .ref (mr 7), .ref (mr 8), .ref (mr 9), .int 0, .ref (mr 10), .ref (mr 11), .int 0, .ref (mr 12), .int 0, .ref (mr 13), .int 0, .ref (mr 14)]))]) [1] rfl
    have hD9 := hD.sub (ws' := [(mo, .inr (6, [.int 1, .int ((-1)), .ref (mr 0), .int 0, .ref (mr 1), .ref (mr 2), .ref (mr 3), .ref (mr 4), .ref (mr 5), .ref (mr 6), .ref so, .ref (mr 7), .ref (mr 8), .ref (mr 9), .int 0, .ref (mr 10), .ref (mr 11), .int 0, .ref (mr 12), .int 0, .ref (mr 13), .int 0, .ref (mr 14)]))]) [1] (by decide) rfl
    have hK9 := hK.sub (tys' := []) [] rfl
    exact W.iret (v := 0) hx hb hr (fun t ht hW => ⟨⟨0, 1, rfl, Or.inl ⟨rfl, by simp only [in_0, Int32.lt_iff_toInt_lt, Int32.le_iff_toInt_le, z_0, z_1, z_5, z_6, z_7, z_9, z_10, z_11, z_13, z_20, z_41] at c_1 ⊢; omega⟩, by rw [ht]; exact hP9, va_K.moved hW.alike hK9, hD9⟩, hS.F ht⟩) hS.2.2 d_SM_line_15
set_option maxHeartbeats 4000000 in
set_option maxRecDepth 100000 in
/-- change: there is no SOURCE -/
theorem c_SM_change (l : Launch) (dC : Nat → ClassId) (dI : Nat → Nat → Nat) (mo so : Nat) (mr sr : Nat → Nat) (th : Int32) (a b : Int32) (sz : Nat) : Met l y_SM_change [w_SM_change] ({ frames := 1, cells := 0, slots := 0, locals := 60 }) (va_Pc [.ref mo, .int a, .int b] (pr sz (dC, dI) [(mo, .inr (6, [.int th, .int ((-1)), .ref (mr 0), .int 0, .ref (mr 1), .ref (mr 2), .ref (mr 3), .ref (mr 4), .ref (mr 5), .ref (mr 6), .ref so, .ref (mr 7), .ref (mr 8), .ref (mr 9), .int 0, .ref (mr 10), .ref (mr 11), .int 0, .ref (mr 12), .int 0, .ref (mr 13), .int 0, .ref (mr 14)])), (so, .inr (11, [.ref (sr 0), .int 0, .int 0, .int 0, .int 0, .int 0, .ref (sr 1), .ref (sr 2), .ref (sr 3), .ref (sr 4), .ref (sr 5), .ref (sr 6), .ref (sr 7), .ref (sr 8), .ref (sr 9), .ref (sr 10), .ref (sr 11), .ref (sr 12), .ref (sr 13), .ref (sr 14), .ref (sr 15), .ref (sr 16), .ref (sr 17), .ref (sr 18), .ref (sr 19), .int 0, .int 0, .int 0]))] [])) (va_Qi (fun (r : Int32) (u : Int32) => (u = 1 ∧ ¬ (0 ≤ a.toInt ∧ a.toInt ≤ b.toInt)) ∨ (u = 2 ∧ (0 ≤ a.toInt ∧ a.toInt ≤ b.toInt))) (bw (dC, dI) (va_A [(mo, .inr (6, [.int th, .int ((-1)), .ref (mr 0), .int 0, .ref (mr 1), .ref (mr 2), .ref (mr 3), .ref (mr 4), .ref (mr 5), .ref (mr 6), .ref so, .ref (mr 7), .ref (mr 8), .ref (mr 9), .int 0, .ref (mr 10), .ref (mr 11), .int 0, .ref (mr 12), .int 0, .ref (mr 13), .int 0, .ref (mr 14)])), (so, .inr (11, [.ref (sr 0), .int 0, .int 0, .int 0, .int 0, .int 0, .ref (sr 1), .ref (sr 2), .ref (sr 3), .ref (sr 4), .ref (sr 5), .ref (sr 6), .ref (sr 7), .ref (sr 8), .ref (sr 9), .ref (sr 10), .ref (sr 11), .ref (sr 12), .ref (sr 13), .ref (sr 14), .ref (sr 15), .ref (sr 16), .ref (sr 17), .ref (sr 18), .ref (sr 19), .int 0, .int 0, .int 0]))] sz) (fun u : Int32 => [(mo, .inr (6, [.int u, .int ((-1)), .ref (mr 0), .int 0, .ref (mr 1), .ref (mr 2), .ref (mr 3), .ref (mr 4), .ref (mr 5), .ref (mr 6), .ref so, .ref (mr 7), .ref (mr 8), .ref (mr 9), .int 0, .ref (mr 10), .ref (mr 11), .int 0, .ref (mr 12), .int 0, .ref (mr 13), .int 0, .ref (mr 14)]))]) (fun u : Int32 => [])) (va_A [(mo, .inr (6, [.int th, .int ((-1)), .ref (mr 0), .int 0, .ref (mr 1), .ref (mr 2), .ref (mr 3), .ref (mr 4), .ref (mr 5), .ref (mr 6), .ref so, .ref (mr 7), .ref (mr 8), .ref (mr 9), .int 0, .ref (mr 10), .ref (mr 11), .int 0, .ref (mr 12), .int 0, .ref (mr 13), .int 0, .ref (mr 14)])), (so, .inr (11, [.ref (sr 0), .int 0, .int 0, .int 0, .int 0, .int 0, .ref (sr 1), .ref (sr 2), .ref (sr 3), .ref (sr 4), .ref (sr 5), .ref (sr 6), .ref (sr 7), .ref (sr 8), .ref (sr 9), .ref (sr 10), .ref (sr 11), .ref (sr 12), .ref (sr 13), .ref (sr 14), .ref (sr 15), .ref (sr 16), .ref (sr 17), .ref (sr 18), .ref (sr 19), .int 0, .int 0, .int 0]))] sz)) 0 0 (va_A [(mo, .inr (6, [.int th, .int ((-1)), .ref (mr 0), .int 0, .ref (mr 1), .ref (mr 2), .ref (mr 3), .ref (mr 4), .ref (mr 5), .ref (mr 6), .ref so, .ref (mr 7), .ref (mr 8), .ref (mr 9), .int 0, .ref (mr 10), .ref (mr 11), .int 0, .ref (mr 12), .int 0, .ref (mr 13), .int 0, .ref (mr 14)])), (so, .inr (11, [.ref (sr 0), .int 0, .int 0, .int 0, .int 0, .int 0, .ref (sr 1), .ref (sr 2), .ref (sr 3), .ref (sr 4), .ref (sr 5), .ref (sr 6), .ref (sr 7), .ref (sr 8), .ref (sr 9), .ref (sr 10), .ref (sr 11), .ref (sr 12), .ref (sr 13), .ref (sr 14), .ref (sr 15), .ref (sr 16), .ref (sr 17), .ref (sr 18), .ref (sr 19), .int 0, .int 0, .int 0]))] sz) := by
  refine va_MetW (cc := b_SM_change) (maxL := 5) (ret := (some .int)) (hh := [(196, 208, 211, 122)]) (by decide) rfl ?_
  intro p e s m args below meth c s₁ B hml hv
  obtain ⟨rfl, hsz, hb0, hP, hK, hD0⟩ := hv
  have hx := B.exec
  have hb := B.bytes
  have hr := B.returns
  have hts : ∀ wq ∈ tt, wq.before ([.ref mo, .int a, .int b] : List Value).toArray s = true := hb0.hts
  have hown : s.vm.findClass "ScholarsPressModel" = some m.cls := findClass_of_methodNamed B.named
  have hlocks := B.notSynchronized
  subst hsz
  have hD := hD0.self (sz := s.heap.size)
  generalize hAe : va_A [(mo, .inr (6, [.int th, .int ((-1)), .ref (mr 0), .int 0, .ref (mr 1), .ref (mr 2), .ref (mr 3), .ref (mr 4), .ref (mr 5), .ref (mr 6), .ref so, .ref (mr 7), .ref (mr 8), .ref (mr 9), .int 0, .ref (mr 10), .ref (mr 11), .int 0, .ref (mr 12), .int 0, .ref (mr 13), .int 0, .ref (mr 14)])), (so, .inr (11, [.ref (sr 0), .int 0, .int 0, .int 0, .int 0, .int 0, .ref (sr 1), .ref (sr 2), .ref (sr 3), .ref (sr 4), .ref (sr 5), .ref (sr 6), .ref (sr 7), .ref (sr 8), .ref (sr 9), .ref (sr 10), .ref (sr 11), .ref (sr 12), .ref (sr 13), .ref (sr 14), .ref (sr 15), .ref (sr 16), .ref (sr 17), .ref (sr 18), .ref (sr 19), .int 0, .int 0, .int 0]))] s.heap.size = A at hD ⊢
  have hA : ∀ q : Nat, s.heap.size ≤ q → A q := fun q h => by rw [← hAe]; exact Or.inr h
  have hS : va_S A s.heap s.heap [] := va_S.rf
  have hP : va_P (dC, dI) classes [(mo, .inr (6, [.int th, .int ((-1)), .ref (mr 0), .int 0, .ref (mr 1), .ref (mr 2), .ref (mr 3), .ref (mr 4), .ref (mr 5), .ref (mr 6), .ref so, .ref (mr 7), .ref (mr 8), .ref (mr 9), .int 0, .ref (mr 10), .ref (mr 11), .int 0, .ref (mr 12), .int 0, .ref (mr 13), .int 0, .ref (mr 14)])), (so, .inr (11, [.ref (sr 0), .int 0, .int 0, .int 0, .int 0, .int 0, .ref (sr 1), .ref (sr 2), .ref (sr 3), .ref (sr 4), .ref (sr 5), .ref (sr 6), .ref (sr 7), .ref (sr 8), .ref (sr 9), .ref (sr 10), .ref (sr 11), .ref (sr 12), .ref (sr 13), .ref (sr 14), .ref (sr 15), .ref (sr 16), .ref (sr 17), .ref (sr 18), .ref (sr 19), .int 0, .int 0, .int 0]))] s.heap := hP
  have hl := lv_entry ([.ref mo, .int a, .int b]) (n := 5) (Nat.le_of_ble_eq_true rfl)
  rw [lg_entry_eq]
  generalize (lg_sl ([.ref mo, .int a, .int b]) ++ List.replicate (5 - (lg_sl ([.ref mo, .int a, .int b])).length) Slot.unset).toArray = ls at hl ⊢
  have hl : lv_has ls 5 [(0, .ref mo), (1, .int a), (2, .int b)] := hl
  refine lv_iload_n hx hb d_SM_change_0 rfl (lv_at hl 1 rfl) ?_
  refine lv_if_lt (tgt := 30) hx hb d_SM_change_1 (by decide) (fun c_1 => ?_) (fun c_1 => ?_)
  · refine lv_aload_n hx hb d_SM_change_30 rfl (lv_at hl 0 rfl) ?_
    refine lv_iconst (v := 1) hx hb d_SM_change_31 (by decide) ?_
    refine vi_i (wc := [(mo, .inr (6, [.int th, .int ((-1)), .ref (mr 0), .int 0, .ref (mr 1), .ref (mr 2), .ref (mr 3), .ref (mr 4), .ref (mr 5), .ref (mr 6), .ref so, .ref (mr 7), .ref (mr 8), .ref (mr 9), .int 0, .ref (mr 10), .ref (mr 11), .int 0, .ref (mr 12), .int 0, .ref (mr 13), .int 0, .ref (mr 14)]))]) (wr := [(so, .inr (11, [.ref (sr 0), .int 0, .int 0, .int 0, .int 0, .int 0, .ref (sr 1), .ref (sr 2), .ref (sr 3), .ref (sr 4), .ref (sr 5), .ref (sr 6), .ref (sr 7), .ref (sr 8), .ref (sr 9), .ref (sr 10), .ref (sr 11), .ref (sr 12), .ref (sr 13), .ref (sr 14), .ref (sr 15), .ref (sr 16), .ref (sr 17), .ref (sr 18), .ref (sr 19), .int 0, .int 0, .int 0]))]) (va_runV (As := [.int 1]) (rest := []) ⟨hx, hb, hml, hown, hts⟩ (c_SM_refuse l dC dI mo so mr sr th 1 s.heap.size) (cwV 1 hts (tt_V k_3758 k_3760 k_122 k_247 kw_SM_refuse) rfl rfl rfl (by decide +kernel) ⟨Nat.le_of_ble_eq_true rfl, Nat.le_of_ble_eq_true rfl⟩) ⟨pr_blind, va_recv hK hP (ci := 6) (q0 := 0) rfl rfl, pr_pre hb0 (hP.sub [0] rfl) (hK.sub [] rfl) (hD.sub [0] (by decide) rfl)⟩ rfl rfl hl.1 rfl (lv_room (Nat.le_of_ble_eq_true rfl)) d_SM_change_32 ⟨Nat.le_of_ble_eq_true rfl, Nat.le_of_ble_eq_true rfl⟩) hP hD hK hS hA [0] [1] rfl rfl (by decide) (by decide) (fun r u H locs hw hP hK hD hS => ?_)
    obtain ⟨rfl, rfl⟩ := hw
    have hP : va_P (dC, dI) classes [(so, .inr (11, [.ref (sr 0), .int 0, .int 0, .int 0, .int 0, .int 0, .ref (sr 1), .ref (sr 2), .ref (sr 3), .ref (sr 4), .ref (sr 5), .ref (sr 6), .ref (sr 7), .ref (sr 8), .ref (sr 9), .ref (sr 10), .ref (sr 11), .ref (sr 12), .ref (sr 13), .ref (sr 14), .ref (sr 15), .ref (sr 16), .ref (sr 17), .ref (sr 18), .ref (sr 19), .int 0, .int 0, .int 0])), (mo, .inr (6, [.int 1, .int ((-1)), .ref (mr 0), .int 0, .ref (mr 1), .ref (mr 2), .ref (mr 3), .ref (mr 4), .ref (mr 5), .ref (mr 6), .ref so, .ref (mr 7), .ref (mr 8), .ref (mr 9), .int 0, .ref (mr 10), .ref (mr 11), .int 0, .ref (mr 12), .int 0, .ref (mr 13), .int 0, .ref (mr 14)]))] H := hP
    have hD : va_D A [(so, .inr (11, [.ref (sr 0), .int 0, .int 0, .int 0, .int 0, .int 0, .ref (sr 1), .ref (sr 2), .ref (sr 3), .ref (sr 4), .ref (sr 5), .ref (sr 6), .ref (sr 7), .ref (sr 8), .ref (sr 9), .ref (sr 10), .ref (sr 11), .ref (sr 12), .ref (sr 13), .ref (sr 14), .ref (sr 15), .ref (sr 16), .ref (sr 17), .ref (sr 18), .ref (sr 19), .int 0, .int 0, .int 0])), (mo, .inr (6, [.int 1, .int ((-1)), .ref (mr 0), .int 0, .ref (mr 1), .ref (mr 2), .ref (mr 3), .ref (mr 4), .ref (mr 5), .ref (mr 6), .ref so, .ref (mr 7), .ref (mr 8), .ref (mr 9), .int 0, .ref (mr 10), .ref (mr 11), .int 0, .ref (mr 12), .int 0, .ref (mr 13), .int 0, .ref (mr 14)]))] := hD
    have hK : va_K (dC, dI) classes [] s := hK
    have hP9 := hP.sub (ws' := [(mo, .inr (6, [.int 1, .int ((-1)), .ref (mr 0), .int 0, .ref (mr 1), .ref (mr 2), .ref (mr 3), .ref (mr 4), .ref (mr 5), .ref (mr 6), .ref so, .ref (mr 7), .ref (mr 8), .ref (mr 9), .int 0, .ref (mr 10), .ref (mr 11), .int 0, .ref (mr 12), .int 0, .ref (mr 13), .int 0, .ref (mr 14)]))]) [1] rfl
    have hD9 := hD.sub (ws' := [(mo, .inr (6, [.int 1, .int ((-1)), .ref (mr 0), .int 0, .ref (mr 1), .ref (mr 2), .ref (mr 3), .ref (mr 4), .ref (mr 5), .ref (mr 6), .ref so, .ref (mr 7), .ref (mr 8), .ref (mr 9), .int 0, .ref (mr 10), .ref (mr 11), .int 0, .ref (mr 12), .int 0, .ref (mr 13), .int 0, .ref (mr 14)]))]) [1] (by decide) rfl
    have hK9 := hK.sub (tys' := []) [] rfl
    exact W.iret (v := 0) hx hb hr (fun t ht hW => ⟨⟨0, 1, rfl, Or.inl ⟨rfl, by simp only [in_0, Int32.lt_iff_toInt_lt, Int32.le_iff_toInt_le, z_0, z_1, z_5, z_6, z_7, z_9, z_10, z_11, z_13, z_20, z_41] at c_1 ⊢; omega⟩, by rw [ht]; exact hP9, va_K.moved hW.alike hK9, hD9⟩, hS.F ht⟩) hS.2.2 d_SM_change_35
  · refine lv_iload_n hx hb d_SM_change_4 rfl (lv_at hl 1 rfl) ?_
    refine lv_iload_n hx hb d_SM_change_5 rfl (lv_at hl 2 rfl) ?_
    refine lv_icmp_gt (tgt := 30) hx hb d_SM_change_6 (by decide) (fun c_2 => ?_) (fun c_2 => ?_)
    · refine lv_aload_n hx hb d_SM_change_30 rfl (lv_at hl 0 rfl) ?_
      refine lv_iconst (v := 1) hx hb d_SM_change_31 (by decide) ?_
      refine vi_i (wc := [(mo, .inr (6, [.int th, .int ((-1)), .ref (mr 0), .int 0, .ref (mr 1), .ref (mr 2), .ref (mr 3), .ref (mr 4), .ref (mr 5), .ref (mr 6), .ref so, .ref (mr 7), .ref (mr 8), .ref (mr 9), .int 0, .ref (mr 10), .ref (mr 11), .int 0, .ref (mr 12), .int 0, .ref (mr 13), .int 0, .ref (mr 14)]))]) (wr := [(so, .inr (11, [.ref (sr 0), .int 0, .int 0, .int 0, .int 0, .int 0, .ref (sr 1), .ref (sr 2), .ref (sr 3), .ref (sr 4), .ref (sr 5), .ref (sr 6), .ref (sr 7), .ref (sr 8), .ref (sr 9), .ref (sr 10), .ref (sr 11), .ref (sr 12), .ref (sr 13), .ref (sr 14), .ref (sr 15), .ref (sr 16), .ref (sr 17), .ref (sr 18), .ref (sr 19), .int 0, .int 0, .int 0]))]) (va_runV (As := [.int 1]) (rest := []) ⟨hx, hb, hml, hown, hts⟩ (c_SM_refuse l dC dI mo so mr sr th 1 s.heap.size) (cwV 1 hts (tt_V k_3758 k_3760 k_122 k_247 kw_SM_refuse) rfl rfl rfl (by decide +kernel) ⟨Nat.le_of_ble_eq_true rfl, Nat.le_of_ble_eq_true rfl⟩) ⟨pr_blind, va_recv hK hP (ci := 6) (q0 := 0) rfl rfl, pr_pre hb0 (hP.sub [0] rfl) (hK.sub [] rfl) (hD.sub [0] (by decide) rfl)⟩ rfl rfl hl.1 rfl (lv_room (Nat.le_of_ble_eq_true rfl)) d_SM_change_32 ⟨Nat.le_of_ble_eq_true rfl, Nat.le_of_ble_eq_true rfl⟩) hP hD hK hS hA [0] [1] rfl rfl (by decide) (by decide) (fun r u H locs hw hP hK hD hS => ?_)
      obtain ⟨rfl, rfl⟩ := hw
      have hP : va_P (dC, dI) classes [(so, .inr (11, [.ref (sr 0), .int 0, .int 0, .int 0, .int 0, .int 0, .ref (sr 1), .ref (sr 2), .ref (sr 3), .ref (sr 4), .ref (sr 5), .ref (sr 6), .ref (sr 7), .ref (sr 8), .ref (sr 9), .ref (sr 10), .ref (sr 11), .ref (sr 12), .ref (sr 13), .ref (sr 14), .ref (sr 15), .ref (sr 16), .ref (sr 17), .ref (sr 18), .ref (sr 19), .int 0, .int 0, .int 0])), (mo, .inr (6, [.int 1, .int ((-1)), .ref (mr 0), .int 0, .ref (mr 1), .ref (mr 2), .ref (mr 3), .ref (mr 4), .ref (mr 5), .ref (mr 6), .ref so, .ref (mr 7), .ref (mr 8), .ref (mr 9), .int 0, .ref (mr 10), .ref (mr 11), .int 0, .ref (mr 12), .int 0, .ref (mr 13), .int 0, .ref (mr 14)]))] H := hP
      have hD : va_D A [(so, .inr (11, [.ref (sr 0), .int 0, .int 0, .int 0, .int 0, .int 0, .ref (sr 1), .ref (sr 2), .ref (sr 3), .ref (sr 4), .ref (sr 5), .ref (sr 6), .ref (sr 7), .ref (sr 8), .ref (sr 9), .ref (sr 10), .ref (sr 11), .ref (sr 12), .ref (sr 13), .ref (sr 14), .ref (sr 15), .ref (sr 16), .ref (sr 17), .ref (sr 18), .ref (sr 19), .int 0, .int 0, .int 0])), (mo, .inr (6, [.int 1, .int ((-1)), .ref (mr 0), .int 0, .ref (mr 1), .ref (mr 2), .ref (mr 3), .ref (mr 4), .ref (mr 5), .ref (mr 6), .ref so, .ref (mr 7), .ref (mr 8), .ref (mr 9), .int 0, .ref (mr 10), .ref (mr 11), .int 0, .ref (mr 12), .int 0, .ref (mr 13), .int 0, .ref (mr 14)]))] := hD
      have hK : va_K (dC, dI) classes [] s := hK
      have hP9 := hP.sub (ws' := [(mo, .inr (6, [.int 1, .int ((-1)), .ref (mr 0), .int 0, .ref (mr 1), .ref (mr 2), .ref (mr 3), .ref (mr 4), .ref (mr 5), .ref (mr 6), .ref so, .ref (mr 7), .ref (mr 8), .ref (mr 9), .int 0, .ref (mr 10), .ref (mr 11), .int 0, .ref (mr 12), .int 0, .ref (mr 13), .int 0, .ref (mr 14)]))]) [1] rfl
      have hD9 := hD.sub (ws' := [(mo, .inr (6, [.int 1, .int ((-1)), .ref (mr 0), .int 0, .ref (mr 1), .ref (mr 2), .ref (mr 3), .ref (mr 4), .ref (mr 5), .ref (mr 6), .ref so, .ref (mr 7), .ref (mr 8), .ref (mr 9), .int 0, .ref (mr 10), .ref (mr 11), .int 0, .ref (mr 12), .int 0, .ref (mr 13), .int 0, .ref (mr 14)]))]) [1] (by decide) rfl
      have hK9 := hK.sub (tys' := []) [] rfl
      exact W.iret (v := 0) hx hb hr (fun t ht hW => ⟨⟨0, 1, rfl, Or.inl ⟨rfl, by simp only [in_0, Int32.lt_iff_toInt_lt, Int32.le_iff_toInt_le, z_0, z_1, z_5, z_6, z_7, z_9, z_10, z_11, z_13, z_20, z_41] at c_1 c_2 ⊢; omega⟩, by rw [ht]; exact hP9, va_K.moved hW.alike hK9, hD9⟩, hS.F ht⟩) hS.2.2 d_SM_change_35
    · refine lv_aload_n hx hb d_SM_change_9 rfl (lv_at hl 0 rfl) ?_
      refine va_get (D := (dC, dI)) (ci := 6) (v := .ref so) (C := "ScholarsPressModel") (T := F_SM) (N := 23) hx hb hts in_SM hown hK hP 0 rfl rfl 10 (by decide) (hts (.fieldLink "ScholarsPressModel" 50 "ScholarsPressModel" "source" "LScholarsPressModel$Source;") k_3690) (fun _ h9 => h9) rfl d_SM_change_10 ?_
      refine va_get (D := (dC, dI)) (ci := 11) (v := .int 0) (C := "ScholarsPressModel$Source") (T := F_MSource) (N := 28) hx hb hts in_MSource hown hK hP 1 rfl rfl 5 (by decide) (hts (.fieldLink "ScholarsPressModel" 154 "ScholarsPressModel$Source" "there" "Z") k_2976) (fun _ h9 => h9) rfl d_SM_change_13 ?_
      refine lv_if_eq (tgt := 36) hx hb d_SM_change_16 (by decide) (fun c_3 => ?_) (fun c_3 => ?_)
      · refine lv_aload_n hx hb d_SM_change_36 rfl (lv_at hl 0 rfl) ?_
        refine va_get (D := (dC, dI)) (ci := 6) (v := .ref so) (C := "ScholarsPressModel") (T := F_SM) (N := 23) hx hb hts in_SM hown hK hP 0 rfl rfl 10 (by decide) (hts (.fieldLink "ScholarsPressModel" 50 "ScholarsPressModel" "source" "LScholarsPressModel$Source;") k_3690) (fun _ h9 => h9) rfl d_SM_change_37 ?_
        refine va_get (D := (dC, dI)) (ci := 11) (v := .int 0) (C := "ScholarsPressModel$Source") (T := F_MSource) (N := 28) hx hb hts in_MSource hown hK hP 1 rfl rfl 5 (by decide) (hts (.fieldLink "ScholarsPressModel" 154 "ScholarsPressModel$Source" "there" "Z") k_2976) (fun _ h9 => h9) rfl d_SM_change_40 ?_
        refine lv_if_ne (tgt := 52) hx hb d_SM_change_43 (by decide) (fun c_4 => ?_) (fun c_4 => ?_)
        · exact absurd c_4 (by decide)
        · refine lv_aload_n hx hb d_SM_change_46 rfl (lv_at hl 0 rfl) ?_
          refine lv_iconst (v := 2) hx hb d_SM_change_47 (by decide) ?_
          refine vi_i (wc := [(mo, .inr (6, [.int th, .int ((-1)), .ref (mr 0), .int 0, .ref (mr 1), .ref (mr 2), .ref (mr 3), .ref (mr 4), .ref (mr 5), .ref (mr 6), .ref so, .ref (mr 7), .ref (mr 8), .ref (mr 9), .int 0, .ref (mr 10), .ref (mr 11), .int 0, .ref (mr 12), .int 0, .ref (mr 13), .int 0, .ref (mr 14)]))]) (wr := [(so, .inr (11, [.ref (sr 0), .int 0, .int 0, .int 0, .int 0, .int 0, .ref (sr 1), .ref (sr 2), .ref (sr 3), .ref (sr 4), .ref (sr 5), .ref (sr 6), .ref (sr 7), .ref (sr 8), .ref (sr 9), .ref (sr 10), .ref (sr 11), .ref (sr 12), .ref (sr 13), .ref (sr 14), .ref (sr 15), .ref (sr 16), .ref (sr 17), .ref (sr 18), .ref (sr 19), .int 0, .int 0, .int 0]))]) (va_runV (As := [.int 2]) (rest := []) ⟨hx, hb, hml, hown, hts⟩ (c_SM_refuse l dC dI mo so mr sr th 2 s.heap.size) (cwV 1 hts (tt_V k_3758 k_3760 k_122 k_247 kw_SM_refuse) rfl rfl rfl (by decide +kernel) ⟨Nat.le_of_ble_eq_true rfl, Nat.le_of_ble_eq_true rfl⟩) ⟨pr_blind, va_recv hK hP (ci := 6) (q0 := 0) rfl rfl, pr_pre hb0 (hP.sub [0] rfl) (hK.sub [] rfl) (hD.sub [0] (by decide) rfl)⟩ rfl rfl hl.1 rfl (lv_room (Nat.le_of_ble_eq_true rfl)) d_SM_change_48 ⟨Nat.le_of_ble_eq_true rfl, Nat.le_of_ble_eq_true rfl⟩) hP hD hK hS hA [0] [1] rfl rfl (by decide) (by decide) (fun r u H locs hw hP hK hD hS => ?_)
          obtain ⟨rfl, rfl⟩ := hw
          have hP : va_P (dC, dI) classes [(so, .inr (11, [.ref (sr 0), .int 0, .int 0, .int 0, .int 0, .int 0, .ref (sr 1), .ref (sr 2), .ref (sr 3), .ref (sr 4), .ref (sr 5), .ref (sr 6), .ref (sr 7), .ref (sr 8), .ref (sr 9), .ref (sr 10), .ref (sr 11), .ref (sr 12), .ref (sr 13), .ref (sr 14), .ref (sr 15), .ref (sr 16), .ref (sr 17), .ref (sr 18), .ref (sr 19), .int 0, .int 0, .int 0])), (mo, .inr (6, [.int 2, .int ((-1)), .ref (mr 0), .int 0, .ref (mr 1), .ref (mr 2), .ref (mr 3), .ref (mr 4), .ref (mr 5), .ref (mr 6), .ref so, .ref (mr 7), .ref (mr 8), .ref (mr 9), .int 0, .ref (mr 10), .ref (mr 11), .int 0, .ref (mr 12), .int 0, .ref (mr 13), .int 0, .ref (mr 14)]))] H := hP
          have hD : va_D A [(so, .inr (11, [.ref (sr 0), .int 0, .int 0, .int 0, .int 0, .int 0, .ref (sr 1), .ref (sr 2), .ref (sr 3), .ref (sr 4), .ref (sr 5), .ref (sr 6), .ref (sr 7), .ref (sr 8), .ref (sr 9), .ref (sr 10), .ref (sr 11), .ref (sr 12), .ref (sr 13), .ref (sr 14), .ref (sr 15), .ref (sr 16), .ref (sr 17), .ref (sr 18), .ref (sr 19), .int 0, .int 0, .int 0])), (mo, .inr (6, [.int 2, .int ((-1)), .ref (mr 0), .int 0, .ref (mr 1), .ref (mr 2), .ref (mr 3), .ref (mr 4), .ref (mr 5), .ref (mr 6), .ref so, .ref (mr 7), .ref (mr 8), .ref (mr 9), .int 0, .ref (mr 10), .ref (mr 11), .int 0, .ref (mr 12), .int 0, .ref (mr 13), .int 0, .ref (mr 14)]))] := hD
          have hK : va_K (dC, dI) classes [] s := hK
          have hP9 := hP.sub (ws' := [(mo, .inr (6, [.int 2, .int ((-1)), .ref (mr 0), .int 0, .ref (mr 1), .ref (mr 2), .ref (mr 3), .ref (mr 4), .ref (mr 5), .ref (mr 6), .ref so, .ref (mr 7), .ref (mr 8), .ref (mr 9), .int 0, .ref (mr 10), .ref (mr 11), .int 0, .ref (mr 12), .int 0, .ref (mr 13), .int 0, .ref (mr 14)]))]) [1] rfl
          have hD9 := hD.sub (ws' := [(mo, .inr (6, [.int 2, .int ((-1)), .ref (mr 0), .int 0, .ref (mr 1), .ref (mr 2), .ref (mr 3), .ref (mr 4), .ref (mr 5), .ref (mr 6), .ref so, .ref (mr 7), .ref (mr 8), .ref (mr 9), .int 0, .ref (mr 10), .ref (mr 11), .int 0, .ref (mr 12), .int 0, .ref (mr 13), .int 0, .ref (mr 14)]))]) [1] (by decide) rfl
          have hK9 := hK.sub (tys' := []) [] rfl
          exact W.iret (v := 0) hx hb hr (fun t ht hW => ⟨⟨0, 2, rfl, Or.inr (⟨rfl, by simp only [in_0, Int32.lt_iff_toInt_lt, Int32.le_iff_toInt_le, z_0, z_1, z_5, z_6, z_7, z_9, z_10, z_11, z_13, z_20, z_41] at c_1 c_2 ⊢; omega⟩), by rw [ht]; exact hP9, va_K.moved hW.alike hK9, hD9⟩, hS.F ht⟩) hS.2.2 d_SM_change_51
      · exact absurd c_3 (by decide)
set_option maxHeartbeats 4000000 in
set_option maxRecDepth 100000 in
/-- where: nothing is SET -/
theorem c_SM_where (l : Launch) (dC : Nat → ClassId) (dI : Nat → Nat → Nat) (mo so : Nat) (mr sr : Nat → Nat) (th : Int32) (w : Int32) (sz : Nat) : Met l y_SM_where [w_SM_where] ({ frames := 1, cells := 0, slots := 0, locals := 60 }) (va_Pc [.ref mo, .int w] (pr sz (dC, dI) [(mo, .inr (6, [.int th, .int ((-1)), .ref (mr 0), .int 0, .ref (mr 1), .ref (mr 2), .ref (mr 3), .ref (mr 4), .ref (mr 5), .ref (mr 6), .ref so, .ref (mr 7), .ref (mr 8), .ref (mr 9), .int 0, .ref (mr 10), .ref (mr 11), .int 0, .ref (mr 12), .int 0, .ref (mr 13), .int 0, .ref (mr 14)])), (so, .inr (11, [.ref (sr 0), .int 0, .int 0, .int 0, .int 0, .int 0, .ref (sr 1), .ref (sr 2), .ref (sr 3), .ref (sr 4), .ref (sr 5), .ref (sr 6), .ref (sr 7), .ref (sr 8), .ref (sr 9), .ref (sr 10), .ref (sr 11), .ref (sr 12), .ref (sr 13), .ref (sr 14), .ref (sr 15), .ref (sr 16), .ref (sr 17), .ref (sr 18), .ref (sr 19), .int 0, .int 0, .int 0]))] [])) (va_Qi (fun (r : Int32) (u : Int32) => (u = 1 ∧ ¬ (0 ≤ w.toInt ∧ w.toInt ≤ 5)) ∨ (u = 2 ∧ (0 ≤ w.toInt ∧ w.toInt ≤ 5))) (bw (dC, dI) (va_A [(mo, .inr (6, [.int th, .int ((-1)), .ref (mr 0), .int 0, .ref (mr 1), .ref (mr 2), .ref (mr 3), .ref (mr 4), .ref (mr 5), .ref (mr 6), .ref so, .ref (mr 7), .ref (mr 8), .ref (mr 9), .int 0, .ref (mr 10), .ref (mr 11), .int 0, .ref (mr 12), .int 0, .ref (mr 13), .int 0, .ref (mr 14)])), (so, .inr (11, [.ref (sr 0), .int 0, .int 0, .int 0, .int 0, .int 0, .ref (sr 1), .ref (sr 2), .ref (sr 3), .ref (sr 4), .ref (sr 5), .ref (sr 6), .ref (sr 7), .ref (sr 8), .ref (sr 9), .ref (sr 10), .ref (sr 11), .ref (sr 12), .ref (sr 13), .ref (sr 14), .ref (sr 15), .ref (sr 16), .ref (sr 17), .ref (sr 18), .ref (sr 19), .int 0, .int 0, .int 0]))] sz) (fun u : Int32 => [(mo, .inr (6, [.int u, .int ((-1)), .ref (mr 0), .int 0, .ref (mr 1), .ref (mr 2), .ref (mr 3), .ref (mr 4), .ref (mr 5), .ref (mr 6), .ref so, .ref (mr 7), .ref (mr 8), .ref (mr 9), .int 0, .ref (mr 10), .ref (mr 11), .int 0, .ref (mr 12), .int 0, .ref (mr 13), .int 0, .ref (mr 14)]))]) (fun u : Int32 => [])) (va_A [(mo, .inr (6, [.int th, .int ((-1)), .ref (mr 0), .int 0, .ref (mr 1), .ref (mr 2), .ref (mr 3), .ref (mr 4), .ref (mr 5), .ref (mr 6), .ref so, .ref (mr 7), .ref (mr 8), .ref (mr 9), .int 0, .ref (mr 10), .ref (mr 11), .int 0, .ref (mr 12), .int 0, .ref (mr 13), .int 0, .ref (mr 14)])), (so, .inr (11, [.ref (sr 0), .int 0, .int 0, .int 0, .int 0, .int 0, .ref (sr 1), .ref (sr 2), .ref (sr 3), .ref (sr 4), .ref (sr 5), .ref (sr 6), .ref (sr 7), .ref (sr 8), .ref (sr 9), .ref (sr 10), .ref (sr 11), .ref (sr 12), .ref (sr 13), .ref (sr 14), .ref (sr 15), .ref (sr 16), .ref (sr 17), .ref (sr 18), .ref (sr 19), .int 0, .int 0, .int 0]))] sz)) 0 0 (va_A [(mo, .inr (6, [.int th, .int ((-1)), .ref (mr 0), .int 0, .ref (mr 1), .ref (mr 2), .ref (mr 3), .ref (mr 4), .ref (mr 5), .ref (mr 6), .ref so, .ref (mr 7), .ref (mr 8), .ref (mr 9), .int 0, .ref (mr 10), .ref (mr 11), .int 0, .ref (mr 12), .int 0, .ref (mr 13), .int 0, .ref (mr 14)])), (so, .inr (11, [.ref (sr 0), .int 0, .int 0, .int 0, .int 0, .int 0, .ref (sr 1), .ref (sr 2), .ref (sr 3), .ref (sr 4), .ref (sr 5), .ref (sr 6), .ref (sr 7), .ref (sr 8), .ref (sr 9), .ref (sr 10), .ref (sr 11), .ref (sr 12), .ref (sr 13), .ref (sr 14), .ref (sr 15), .ref (sr 16), .ref (sr 17), .ref (sr 18), .ref (sr 19), .int 0, .int 0, .int 0]))] sz) := by
  refine Met.ofW (cc := b_SM_where) (maxL := 3) (ret := (some .int)) (by decide) rfl ?_
  intro p e s m args below meth c s₁ B hml hv
  obtain ⟨rfl, hsz, hb0, hP, hK, hD0⟩ := hv
  have hx := B.exec
  have hb := B.bytes
  have hr := B.returns
  have hts : ∀ wq ∈ tt, wq.before ([.ref mo, .int w] : List Value).toArray s = true := hb0.hts
  have hown : s.vm.findClass "ScholarsPressModel" = some m.cls := findClass_of_methodNamed B.named
  have hlocks := B.notSynchronized
  subst hsz
  have hD := hD0.self (sz := s.heap.size)
  generalize hAe : va_A [(mo, .inr (6, [.int th, .int ((-1)), .ref (mr 0), .int 0, .ref (mr 1), .ref (mr 2), .ref (mr 3), .ref (mr 4), .ref (mr 5), .ref (mr 6), .ref so, .ref (mr 7), .ref (mr 8), .ref (mr 9), .int 0, .ref (mr 10), .ref (mr 11), .int 0, .ref (mr 12), .int 0, .ref (mr 13), .int 0, .ref (mr 14)])), (so, .inr (11, [.ref (sr 0), .int 0, .int 0, .int 0, .int 0, .int 0, .ref (sr 1), .ref (sr 2), .ref (sr 3), .ref (sr 4), .ref (sr 5), .ref (sr 6), .ref (sr 7), .ref (sr 8), .ref (sr 9), .ref (sr 10), .ref (sr 11), .ref (sr 12), .ref (sr 13), .ref (sr 14), .ref (sr 15), .ref (sr 16), .ref (sr 17), .ref (sr 18), .ref (sr 19), .int 0, .int 0, .int 0]))] s.heap.size = A at hD ⊢
  have hA : ∀ q : Nat, s.heap.size ≤ q → A q := fun q h => by rw [← hAe]; exact Or.inr h
  have hS : va_S A s.heap s.heap [] := va_S.rf
  have hP : va_P (dC, dI) classes [(mo, .inr (6, [.int th, .int ((-1)), .ref (mr 0), .int 0, .ref (mr 1), .ref (mr 2), .ref (mr 3), .ref (mr 4), .ref (mr 5), .ref (mr 6), .ref so, .ref (mr 7), .ref (mr 8), .ref (mr 9), .int 0, .ref (mr 10), .ref (mr 11), .int 0, .ref (mr 12), .int 0, .ref (mr 13), .int 0, .ref (mr 14)])), (so, .inr (11, [.ref (sr 0), .int 0, .int 0, .int 0, .int 0, .int 0, .ref (sr 1), .ref (sr 2), .ref (sr 3), .ref (sr 4), .ref (sr 5), .ref (sr 6), .ref (sr 7), .ref (sr 8), .ref (sr 9), .ref (sr 10), .ref (sr 11), .ref (sr 12), .ref (sr 13), .ref (sr 14), .ref (sr 15), .ref (sr 16), .ref (sr 17), .ref (sr 18), .ref (sr 19), .int 0, .int 0, .int 0]))] s.heap := hP
  have hl := lv_entry ([.ref mo, .int w]) (n := 3) (Nat.le_of_ble_eq_true rfl)
  rw [lg_entry_eq]
  generalize (lg_sl ([.ref mo, .int w]) ++ List.replicate (3 - (lg_sl ([.ref mo, .int w])).length) Slot.unset).toArray = ls at hl ⊢
  have hl : lv_has ls 3 [(0, .ref mo), (1, .int w)] := hl
  refine lv_iload_n hx hb d_SM_where_0 rfl (lv_at hl 1 rfl) ?_
  refine lv_iconst (v := 0) hx hb d_SM_where_1 (by decide) ?_
  refine lv_iconst (v := 5) hx hb d_SM_where_2 (by decide) ?_
  refine vi_i (wc := []) (wr := [(mo, .inr (6, [.int th, .int ((-1)), .ref (mr 0), .int 0, .ref (mr 1), .ref (mr 2), .ref (mr 3), .ref (mr 4), .ref (mr 5), .ref (mr 6), .ref so, .ref (mr 7), .ref (mr 8), .ref (mr 9), .int 0, .ref (mr 10), .ref (mr 11), .int 0, .ref (mr 12), .int 0, .ref (mr 13), .int 0, .ref (mr 14)])), (so, .inr (11, [.ref (sr 0), .int 0, .int 0, .int 0, .int 0, .int 0, .ref (sr 1), .ref (sr 2), .ref (sr 3), .ref (sr 4), .ref (sr 5), .ref (sr 6), .ref (sr 7), .ref (sr 8), .ref (sr 9), .ref (sr 10), .ref (sr 11), .ref (sr 12), .ref (sr 13), .ref (sr 14), .ref (sr 15), .ref (sr 16), .ref (sr 17), .ref (sr 18), .ref (sr 19), .int 0, .int 0, .int 0]))]) (va_runS (As := [.int w, .int 0, .int 5]) (rest := []) ⟨hx, hb, hml, hown, hts⟩ (c_SM_in l dC dI w 0 5 s.heap.size) (va_cwS 3 hts (tt_S2 k_4102 k_4103 k_247 kw_SM_in) rfl rfl rfl (by decide +kernel) ⟨Nat.le_of_ble_eq_true rfl, Nat.le_of_ble_eq_true rfl⟩) ⟨pr_blind, pr_pre hb0 (hP.sub [] rfl) (hK.sub [] rfl) (hD.sub [] (by decide) rfl)⟩ rfl rfl hl.1 rfl (lv_room (Nat.le_of_ble_eq_true rfl)) d_SM_where_3 ⟨Nat.le_of_ble_eq_true rfl, Nat.le_of_ble_eq_true rfl⟩) hP hD hK hS hA [] [0, 1] rfl rfl (by decide) (by decide) (fun r u H locs hw hP hK hD hS => ?_)
  subst hw
  have hP : va_P (dC, dI) classes [(mo, .inr (6, [.int th, .int ((-1)), .ref (mr 0), .int 0, .ref (mr 1), .ref (mr 2), .ref (mr 3), .ref (mr 4), .ref (mr 5), .ref (mr 6), .ref so, .ref (mr 7), .ref (mr 8), .ref (mr 9), .int 0, .ref (mr 10), .ref (mr 11), .int 0, .ref (mr 12), .int 0, .ref (mr 13), .int 0, .ref (mr 14)])), (so, .inr (11, [.ref (sr 0), .int 0, .int 0, .int 0, .int 0, .int 0, .ref (sr 1), .ref (sr 2), .ref (sr 3), .ref (sr 4), .ref (sr 5), .ref (sr 6), .ref (sr 7), .ref (sr 8), .ref (sr 9), .ref (sr 10), .ref (sr 11), .ref (sr 12), .ref (sr 13), .ref (sr 14), .ref (sr 15), .ref (sr 16), .ref (sr 17), .ref (sr 18), .ref (sr 19), .int 0, .int 0, .int 0]))] H := hP
  have hD : va_D A [(mo, .inr (6, [.int th, .int ((-1)), .ref (mr 0), .int 0, .ref (mr 1), .ref (mr 2), .ref (mr 3), .ref (mr 4), .ref (mr 5), .ref (mr 6), .ref so, .ref (mr 7), .ref (mr 8), .ref (mr 9), .int 0, .ref (mr 10), .ref (mr 11), .int 0, .ref (mr 12), .int 0, .ref (mr 13), .int 0, .ref (mr 14)])), (so, .inr (11, [.ref (sr 0), .int 0, .int 0, .int 0, .int 0, .int 0, .ref (sr 1), .ref (sr 2), .ref (sr 3), .ref (sr 4), .ref (sr 5), .ref (sr 6), .ref (sr 7), .ref (sr 8), .ref (sr 9), .ref (sr 10), .ref (sr 11), .ref (sr 12), .ref (sr 13), .ref (sr 14), .ref (sr 15), .ref (sr 16), .ref (sr 17), .ref (sr 18), .ref (sr 19), .int 0, .int 0, .int 0]))] := hD
  have hK : va_K (dC, dI) classes [] s := hK
  refine lv_if_ne (tgt := 15) hx hb d_SM_where_6 (by decide) (fun c_1 => ?_) (fun c_1 => ?_)
  · refine lv_aload_n hx hb d_SM_where_15 rfl (lv_at hl 0 rfl) ?_
    refine va_get (D := (dC, dI)) (ci := 6) (v := .int 0) (C := "ScholarsPressModel") (T := F_SM) (N := 23) hx hb hts in_SM hown hK hP 0 rfl rfl 17 (by decide) (hts (.fieldLink "ScholarsPressModel" 174 "ScholarsPressModel" "isSet" "Z") k_3697) (fun _ h9 => h9) rfl d_SM_where_16 ?_
    refine lv_if_ne (tgt := 28) hx hb d_SM_where_19 (by decide) (fun c_2 => ?_) (fun c_2 => ?_)
    · exact absurd c_2 (by decide)
    · refine lv_aload_n hx hb d_SM_where_22 rfl (lv_at hl 0 rfl) ?_
      refine lv_iconst (v := 2) hx hb d_SM_where_23 (by decide) ?_
      refine vi_i (wc := [(mo, .inr (6, [.int th, .int ((-1)), .ref (mr 0), .int 0, .ref (mr 1), .ref (mr 2), .ref (mr 3), .ref (mr 4), .ref (mr 5), .ref (mr 6), .ref so, .ref (mr 7), .ref (mr 8), .ref (mr 9), .int 0, .ref (mr 10), .ref (mr 11), .int 0, .ref (mr 12), .int 0, .ref (mr 13), .int 0, .ref (mr 14)]))]) (wr := [(so, .inr (11, [.ref (sr 0), .int 0, .int 0, .int 0, .int 0, .int 0, .ref (sr 1), .ref (sr 2), .ref (sr 3), .ref (sr 4), .ref (sr 5), .ref (sr 6), .ref (sr 7), .ref (sr 8), .ref (sr 9), .ref (sr 10), .ref (sr 11), .ref (sr 12), .ref (sr 13), .ref (sr 14), .ref (sr 15), .ref (sr 16), .ref (sr 17), .ref (sr 18), .ref (sr 19), .int 0, .int 0, .int 0]))]) (va_runV (As := [.int 2]) (rest := []) ⟨hx, hb, hml, hown, hts⟩ (c_SM_refuse l dC dI mo so mr sr th 2 H.size) (cwV 1 hts (tt_V k_3758 k_3760 k_122 k_247 kw_SM_refuse) rfl rfl rfl (by decide +kernel) ⟨Nat.le_of_ble_eq_true rfl, Nat.le_of_ble_eq_true rfl⟩) ⟨pr_blind, va_recv hK hP (ci := 6) (q0 := 0) rfl rfl, pr_pre hb0 (hP.sub [0] rfl) (hK.sub [] rfl) (hD.sub [0] (by decide) rfl)⟩ rfl rfl hl.1 rfl (lv_room (Nat.le_of_ble_eq_true rfl)) d_SM_where_24 ⟨Nat.le_of_ble_eq_true rfl, Nat.le_of_ble_eq_true rfl⟩) hP hD hK hS hA [0] [1] rfl rfl (by decide) (by decide) (fun r u H locs hw hP hK hD hS => ?_)
      obtain ⟨rfl, rfl⟩ := hw
      have hP : va_P (dC, dI) classes [(so, .inr (11, [.ref (sr 0), .int 0, .int 0, .int 0, .int 0, .int 0, .ref (sr 1), .ref (sr 2), .ref (sr 3), .ref (sr 4), .ref (sr 5), .ref (sr 6), .ref (sr 7), .ref (sr 8), .ref (sr 9), .ref (sr 10), .ref (sr 11), .ref (sr 12), .ref (sr 13), .ref (sr 14), .ref (sr 15), .ref (sr 16), .ref (sr 17), .ref (sr 18), .ref (sr 19), .int 0, .int 0, .int 0])), (mo, .inr (6, [.int 2, .int ((-1)), .ref (mr 0), .int 0, .ref (mr 1), .ref (mr 2), .ref (mr 3), .ref (mr 4), .ref (mr 5), .ref (mr 6), .ref so, .ref (mr 7), .ref (mr 8), .ref (mr 9), .int 0, .ref (mr 10), .ref (mr 11), .int 0, .ref (mr 12), .int 0, .ref (mr 13), .int 0, .ref (mr 14)]))] H := hP
      have hD : va_D A [(so, .inr (11, [.ref (sr 0), .int 0, .int 0, .int 0, .int 0, .int 0, .ref (sr 1), .ref (sr 2), .ref (sr 3), .ref (sr 4), .ref (sr 5), .ref (sr 6), .ref (sr 7), .ref (sr 8), .ref (sr 9), .ref (sr 10), .ref (sr 11), .ref (sr 12), .ref (sr 13), .ref (sr 14), .ref (sr 15), .ref (sr 16), .ref (sr 17), .ref (sr 18), .ref (sr 19), .int 0, .int 0, .int 0])), (mo, .inr (6, [.int 2, .int ((-1)), .ref (mr 0), .int 0, .ref (mr 1), .ref (mr 2), .ref (mr 3), .ref (mr 4), .ref (mr 5), .ref (mr 6), .ref so, .ref (mr 7), .ref (mr 8), .ref (mr 9), .int 0, .ref (mr 10), .ref (mr 11), .int 0, .ref (mr 12), .int 0, .ref (mr 13), .int 0, .ref (mr 14)]))] := hD
      have hK : va_K (dC, dI) classes [] s := hK
      have hP9 := hP.sub (ws' := [(mo, .inr (6, [.int 2, .int ((-1)), .ref (mr 0), .int 0, .ref (mr 1), .ref (mr 2), .ref (mr 3), .ref (mr 4), .ref (mr 5), .ref (mr 6), .ref so, .ref (mr 7), .ref (mr 8), .ref (mr 9), .int 0, .ref (mr 10), .ref (mr 11), .int 0, .ref (mr 12), .int 0, .ref (mr 13), .int 0, .ref (mr 14)]))]) [1] rfl
      have hD9 := hD.sub (ws' := [(mo, .inr (6, [.int 2, .int ((-1)), .ref (mr 0), .int 0, .ref (mr 1), .ref (mr 2), .ref (mr 3), .ref (mr 4), .ref (mr 5), .ref (mr 6), .ref so, .ref (mr 7), .ref (mr 8), .ref (mr 9), .int 0, .ref (mr 10), .ref (mr 11), .int 0, .ref (mr 12), .int 0, .ref (mr 13), .int 0, .ref (mr 14)]))]) [1] (by decide) rfl
      have hK9 := hK.sub (tys' := []) [] rfl
      exact W.iret (v := 0) hx hb hr (fun t ht hW => ⟨⟨0, 2, rfl, Or.inr (⟨rfl, by simp only [in_0, Int32.lt_iff_toInt_lt, Int32.le_iff_toInt_le, z_0, z_1, z_5, z_6, z_7, z_9, z_10, z_11, z_13, z_20, z_41] at c_1 ⊢; omega⟩), by rw [ht]; exact hP9, va_K.moved hW.alike hK9, hD9⟩, hS.F ht⟩) hS.2.2 d_SM_where_27
  · refine lv_aload_n hx hb d_SM_where_9 rfl (lv_at hl 0 rfl) ?_
    refine lv_iconst (v := 1) hx hb d_SM_where_10 (by decide) ?_
    refine vi_i (wc := [(mo, .inr (6, [.int th, .int ((-1)), .ref (mr 0), .int 0, .ref (mr 1), .ref (mr 2), .ref (mr 3), .ref (mr 4), .ref (mr 5), .ref (mr 6), .ref so, .ref (mr 7), .ref (mr 8), .ref (mr 9), .int 0, .ref (mr 10), .ref (mr 11), .int 0, .ref (mr 12), .int 0, .ref (mr 13), .int 0, .ref (mr 14)]))]) (wr := [(so, .inr (11, [.ref (sr 0), .int 0, .int 0, .int 0, .int 0, .int 0, .ref (sr 1), .ref (sr 2), .ref (sr 3), .ref (sr 4), .ref (sr 5), .ref (sr 6), .ref (sr 7), .ref (sr 8), .ref (sr 9), .ref (sr 10), .ref (sr 11), .ref (sr 12), .ref (sr 13), .ref (sr 14), .ref (sr 15), .ref (sr 16), .ref (sr 17), .ref (sr 18), .ref (sr 19), .int 0, .int 0, .int 0]))]) (va_runV (As := [.int 1]) (rest := []) ⟨hx, hb, hml, hown, hts⟩ (c_SM_refuse l dC dI mo so mr sr th 1 H.size) (cwV 1 hts (tt_V k_3758 k_3760 k_122 k_247 kw_SM_refuse) rfl rfl rfl (by decide +kernel) ⟨Nat.le_of_ble_eq_true rfl, Nat.le_of_ble_eq_true rfl⟩) ⟨pr_blind, va_recv hK hP (ci := 6) (q0 := 0) rfl rfl, pr_pre hb0 (hP.sub [0] rfl) (hK.sub [] rfl) (hD.sub [0] (by decide) rfl)⟩ rfl rfl hl.1 rfl (lv_room (Nat.le_of_ble_eq_true rfl)) d_SM_where_11 ⟨Nat.le_of_ble_eq_true rfl, Nat.le_of_ble_eq_true rfl⟩) hP hD hK hS hA [0] [1] rfl rfl (by decide) (by decide) (fun r u H locs hw hP hK hD hS => ?_)
    obtain ⟨rfl, rfl⟩ := hw
    have hP : va_P (dC, dI) classes [(so, .inr (11, [.ref (sr 0), .int 0, .int 0, .int 0, .int 0, .int 0, .ref (sr 1), .ref (sr 2), .ref (sr 3), .ref (sr 4), .ref (sr 5), .ref (sr 6), .ref (sr 7), .ref (sr 8), .ref (sr 9), .ref (sr 10), .ref (sr 11), .ref (sr 12), .ref (sr 13), .ref (sr 14), .ref (sr 15), .ref (sr 16), .ref (sr 17), .ref (sr 18), .ref (sr 19), .int 0, .int 0, .int 0])), (mo, .inr (6, [.int 1, .int ((-1)), .ref (mr 0), .int 0, .ref (mr 1), .ref (mr 2), .ref (mr 3), .ref (mr 4), .ref (mr 5), .ref (mr 6), .ref so, .ref (mr 7), .ref (mr 8), .ref (mr 9), .int 0, .ref (mr 10), .ref (mr 11), .int 0, .ref (mr 12), .int 0, .ref (mr 13), .int 0, .ref (mr 14)]))] H := hP
    have hD : va_D A [(so, .inr (11, [.ref (sr 0), .int 0, .int 0, .int 0, .int 0, .int 0, .ref (sr 1), .ref (sr 2), .ref (sr 3), .ref (sr 4), .ref (sr 5), .ref (sr 6), .ref (sr 7), .ref (sr 8), .ref (sr 9), .ref (sr 10), .ref (sr 11), .ref (sr 12), .ref (sr 13), .ref (sr 14), .ref (sr 15), .ref (sr 16), .ref (sr 17), .ref (sr 18), .ref (sr 19), .int 0, .int 0, .int 0])), (mo, .inr (6, [.int 1, .int ((-1)), .ref (mr 0), .int 0, .ref (mr 1), .ref (mr 2), .ref (mr 3), .ref (mr 4), .ref (mr 5), .ref (mr 6), .ref so, .ref (mr 7), .ref (mr 8), .ref (mr 9), .int 0, .ref (mr 10), .ref (mr 11), .int 0, .ref (mr 12), .int 0, .ref (mr 13), .int 0, .ref (mr 14)]))] := hD
    have hK : va_K (dC, dI) classes [] s := hK
    have hP9 := hP.sub (ws' := [(mo, .inr (6, [.int 1, .int ((-1)), .ref (mr 0), .int 0, .ref (mr 1), .ref (mr 2), .ref (mr 3), .ref (mr 4), .ref (mr 5), .ref (mr 6), .ref so, .ref (mr 7), .ref (mr 8), .ref (mr 9), .int 0, .ref (mr 10), .ref (mr 11), .int 0, .ref (mr 12), .int 0, .ref (mr 13), .int 0, .ref (mr 14)]))]) [1] rfl
    have hD9 := hD.sub (ws' := [(mo, .inr (6, [.int 1, .int ((-1)), .ref (mr 0), .int 0, .ref (mr 1), .ref (mr 2), .ref (mr 3), .ref (mr 4), .ref (mr 5), .ref (mr 6), .ref so, .ref (mr 7), .ref (mr 8), .ref (mr 9), .int 0, .ref (mr 10), .ref (mr 11), .int 0, .ref (mr 12), .int 0, .ref (mr 13), .int 0, .ref (mr 14)]))]) [1] (by decide) rfl
    have hK9 := hK.sub (tys' := []) [] rfl
    exact W.iret (v := 0) hx hb hr (fun t ht hW => ⟨⟨0, 1, rfl, Or.inl ⟨rfl, by simp only [in_0, Int32.lt_iff_toInt_lt, Int32.le_iff_toInt_le, z_0, z_1, z_5, z_6, z_7, z_9, z_10, z_11, z_13, z_20, z_41] at c_1 ⊢; omega⟩, by rw [ht]; exact hP9, va_K.moved hW.alike hK9, hD9⟩, hS.F ht⟩) hS.2.2 d_SM_where_14
set_option maxHeartbeats 4000000 in
set_option maxRecDepth 100000 in
/-- note: nothing is SET -/
theorem c_SM_note (l : Launch) (dC : Nat → ClassId) (dI : Nat → Nat → Nat) (mo so : Nat) (mr sr : Nat → Nat) (th : Int32) (a w : Int32) (sz : Nat) : Met l y_SM_note [w_SM_note] ({ frames := 1, cells := 0, slots := 0, locals := 60 }) (va_Pc [.ref mo, .int a, .int w] (pr sz (dC, dI) [(mo, .inr (6, [.int th, .int ((-1)), .ref (mr 0), .int 0, .ref (mr 1), .ref (mr 2), .ref (mr 3), .ref (mr 4), .ref (mr 5), .ref (mr 6), .ref so, .ref (mr 7), .ref (mr 8), .ref (mr 9), .int 0, .ref (mr 10), .ref (mr 11), .int 0, .ref (mr 12), .int 0, .ref (mr 13), .int 0, .ref (mr 14)])), (so, .inr (11, [.ref (sr 0), .int 0, .int 0, .int 0, .int 0, .int 0, .ref (sr 1), .ref (sr 2), .ref (sr 3), .ref (sr 4), .ref (sr 5), .ref (sr 6), .ref (sr 7), .ref (sr 8), .ref (sr 9), .ref (sr 10), .ref (sr 11), .ref (sr 12), .ref (sr 13), .ref (sr 14), .ref (sr 15), .ref (sr 16), .ref (sr 17), .ref (sr 18), .ref (sr 19), .int 0, .int 0, .int 0]))] [])) (va_Qi (fun (r : Int32) (u : Int32) => (u = 1 ∧ ¬ ((0 ≤ w.toInt ∧ w.toInt ≤ 5) ∨ (10 ≤ w.toInt ∧ w.toInt ≤ 13))) ∨ (u = 2 ∧ ((0 ≤ w.toInt ∧ w.toInt ≤ 5) ∨ (10 ≤ w.toInt ∧ w.toInt ≤ 13)))) (bw (dC, dI) (va_A [(mo, .inr (6, [.int th, .int ((-1)), .ref (mr 0), .int 0, .ref (mr 1), .ref (mr 2), .ref (mr 3), .ref (mr 4), .ref (mr 5), .ref (mr 6), .ref so, .ref (mr 7), .ref (mr 8), .ref (mr 9), .int 0, .ref (mr 10), .ref (mr 11), .int 0, .ref (mr 12), .int 0, .ref (mr 13), .int 0, .ref (mr 14)])), (so, .inr (11, [.ref (sr 0), .int 0, .int 0, .int 0, .int 0, .int 0, .ref (sr 1), .ref (sr 2), .ref (sr 3), .ref (sr 4), .ref (sr 5), .ref (sr 6), .ref (sr 7), .ref (sr 8), .ref (sr 9), .ref (sr 10), .ref (sr 11), .ref (sr 12), .ref (sr 13), .ref (sr 14), .ref (sr 15), .ref (sr 16), .ref (sr 17), .ref (sr 18), .ref (sr 19), .int 0, .int 0, .int 0]))] sz) (fun u : Int32 => [(mo, .inr (6, [.int u, .int ((-1)), .ref (mr 0), .int 0, .ref (mr 1), .ref (mr 2), .ref (mr 3), .ref (mr 4), .ref (mr 5), .ref (mr 6), .ref so, .ref (mr 7), .ref (mr 8), .ref (mr 9), .int 0, .ref (mr 10), .ref (mr 11), .int 0, .ref (mr 12), .int 0, .ref (mr 13), .int 0, .ref (mr 14)]))]) (fun u : Int32 => [])) (va_A [(mo, .inr (6, [.int th, .int ((-1)), .ref (mr 0), .int 0, .ref (mr 1), .ref (mr 2), .ref (mr 3), .ref (mr 4), .ref (mr 5), .ref (mr 6), .ref so, .ref (mr 7), .ref (mr 8), .ref (mr 9), .int 0, .ref (mr 10), .ref (mr 11), .int 0, .ref (mr 12), .int 0, .ref (mr 13), .int 0, .ref (mr 14)])), (so, .inr (11, [.ref (sr 0), .int 0, .int 0, .int 0, .int 0, .int 0, .ref (sr 1), .ref (sr 2), .ref (sr 3), .ref (sr 4), .ref (sr 5), .ref (sr 6), .ref (sr 7), .ref (sr 8), .ref (sr 9), .ref (sr 10), .ref (sr 11), .ref (sr 12), .ref (sr 13), .ref (sr 14), .ref (sr 15), .ref (sr 16), .ref (sr 17), .ref (sr 18), .ref (sr 19), .int 0, .int 0, .int 0]))] sz)) 0 0 (va_A [(mo, .inr (6, [.int th, .int ((-1)), .ref (mr 0), .int 0, .ref (mr 1), .ref (mr 2), .ref (mr 3), .ref (mr 4), .ref (mr 5), .ref (mr 6), .ref so, .ref (mr 7), .ref (mr 8), .ref (mr 9), .int 0, .ref (mr 10), .ref (mr 11), .int 0, .ref (mr 12), .int 0, .ref (mr 13), .int 0, .ref (mr 14)])), (so, .inr (11, [.ref (sr 0), .int 0, .int 0, .int 0, .int 0, .int 0, .ref (sr 1), .ref (sr 2), .ref (sr 3), .ref (sr 4), .ref (sr 5), .ref (sr 6), .ref (sr 7), .ref (sr 8), .ref (sr 9), .ref (sr 10), .ref (sr 11), .ref (sr 12), .ref (sr 13), .ref (sr 14), .ref (sr 15), .ref (sr 16), .ref (sr 17), .ref (sr 18), .ref (sr 19), .int 0, .int 0, .int 0]))] sz) := by
  refine Met.ofW (cc := b_SM_note) (maxL := 4) (ret := (some .int)) (by decide) rfl ?_
  intro p e s m args below meth c s₁ B hml hv
  obtain ⟨rfl, hsz, hb0, hP, hK, hD0⟩ := hv
  have hx := B.exec
  have hb := B.bytes
  have hr := B.returns
  have hts : ∀ wq ∈ tt, wq.before ([.ref mo, .int a, .int w] : List Value).toArray s = true := hb0.hts
  have hown : s.vm.findClass "ScholarsPressModel" = some m.cls := findClass_of_methodNamed B.named
  have hlocks := B.notSynchronized
  subst hsz
  have hD := hD0.self (sz := s.heap.size)
  generalize hAe : va_A [(mo, .inr (6, [.int th, .int ((-1)), .ref (mr 0), .int 0, .ref (mr 1), .ref (mr 2), .ref (mr 3), .ref (mr 4), .ref (mr 5), .ref (mr 6), .ref so, .ref (mr 7), .ref (mr 8), .ref (mr 9), .int 0, .ref (mr 10), .ref (mr 11), .int 0, .ref (mr 12), .int 0, .ref (mr 13), .int 0, .ref (mr 14)])), (so, .inr (11, [.ref (sr 0), .int 0, .int 0, .int 0, .int 0, .int 0, .ref (sr 1), .ref (sr 2), .ref (sr 3), .ref (sr 4), .ref (sr 5), .ref (sr 6), .ref (sr 7), .ref (sr 8), .ref (sr 9), .ref (sr 10), .ref (sr 11), .ref (sr 12), .ref (sr 13), .ref (sr 14), .ref (sr 15), .ref (sr 16), .ref (sr 17), .ref (sr 18), .ref (sr 19), .int 0, .int 0, .int 0]))] s.heap.size = A at hD ⊢
  have hA : ∀ q : Nat, s.heap.size ≤ q → A q := fun q h => by rw [← hAe]; exact Or.inr h
  have hS : va_S A s.heap s.heap [] := va_S.rf
  have hP : va_P (dC, dI) classes [(mo, .inr (6, [.int th, .int ((-1)), .ref (mr 0), .int 0, .ref (mr 1), .ref (mr 2), .ref (mr 3), .ref (mr 4), .ref (mr 5), .ref (mr 6), .ref so, .ref (mr 7), .ref (mr 8), .ref (mr 9), .int 0, .ref (mr 10), .ref (mr 11), .int 0, .ref (mr 12), .int 0, .ref (mr 13), .int 0, .ref (mr 14)])), (so, .inr (11, [.ref (sr 0), .int 0, .int 0, .int 0, .int 0, .int 0, .ref (sr 1), .ref (sr 2), .ref (sr 3), .ref (sr 4), .ref (sr 5), .ref (sr 6), .ref (sr 7), .ref (sr 8), .ref (sr 9), .ref (sr 10), .ref (sr 11), .ref (sr 12), .ref (sr 13), .ref (sr 14), .ref (sr 15), .ref (sr 16), .ref (sr 17), .ref (sr 18), .ref (sr 19), .int 0, .int 0, .int 0]))] s.heap := hP
  have hl := lv_entry ([.ref mo, .int a, .int w]) (n := 4) (Nat.le_of_ble_eq_true rfl)
  rw [lg_entry_eq]
  generalize (lg_sl ([.ref mo, .int a, .int w]) ++ List.replicate (4 - (lg_sl ([.ref mo, .int a, .int w])).length) Slot.unset).toArray = ls at hl ⊢
  have hl : lv_has ls 4 [(0, .ref mo), (1, .int a), (2, .int w)] := hl
  refine lv_iload_n hx hb d_SM_note_0 rfl (lv_at hl 2 rfl) ?_
  refine lv_iconst (v := 0) hx hb d_SM_note_1 (by decide) ?_
  refine lv_iconst (v := 5) hx hb d_SM_note_2 (by decide) ?_
  refine vi_i (wc := []) (wr := [(mo, .inr (6, [.int th, .int ((-1)), .ref (mr 0), .int 0, .ref (mr 1), .ref (mr 2), .ref (mr 3), .ref (mr 4), .ref (mr 5), .ref (mr 6), .ref so, .ref (mr 7), .ref (mr 8), .ref (mr 9), .int 0, .ref (mr 10), .ref (mr 11), .int 0, .ref (mr 12), .int 0, .ref (mr 13), .int 0, .ref (mr 14)])), (so, .inr (11, [.ref (sr 0), .int 0, .int 0, .int 0, .int 0, .int 0, .ref (sr 1), .ref (sr 2), .ref (sr 3), .ref (sr 4), .ref (sr 5), .ref (sr 6), .ref (sr 7), .ref (sr 8), .ref (sr 9), .ref (sr 10), .ref (sr 11), .ref (sr 12), .ref (sr 13), .ref (sr 14), .ref (sr 15), .ref (sr 16), .ref (sr 17), .ref (sr 18), .ref (sr 19), .int 0, .int 0, .int 0]))]) (va_runS (As := [.int w, .int 0, .int 5]) (rest := []) ⟨hx, hb, hml, hown, hts⟩ (c_SM_in l dC dI w 0 5 s.heap.size) (va_cwS 3 hts (tt_S2 k_4102 k_4103 k_247 kw_SM_in) rfl rfl rfl (by decide +kernel) ⟨Nat.le_of_ble_eq_true rfl, Nat.le_of_ble_eq_true rfl⟩) ⟨pr_blind, pr_pre hb0 (hP.sub [] rfl) (hK.sub [] rfl) (hD.sub [] (by decide) rfl)⟩ rfl rfl hl.1 rfl (lv_room (Nat.le_of_ble_eq_true rfl)) d_SM_note_3 ⟨Nat.le_of_ble_eq_true rfl, Nat.le_of_ble_eq_true rfl⟩) hP hD hK hS hA [] [0, 1] rfl rfl (by decide) (by decide) (fun r u H locs hw hP hK hD hS => ?_)
  subst hw
  have hP : va_P (dC, dI) classes [(mo, .inr (6, [.int th, .int ((-1)), .ref (mr 0), .int 0, .ref (mr 1), .ref (mr 2), .ref (mr 3), .ref (mr 4), .ref (mr 5), .ref (mr 6), .ref so, .ref (mr 7), .ref (mr 8), .ref (mr 9), .int 0, .ref (mr 10), .ref (mr 11), .int 0, .ref (mr 12), .int 0, .ref (mr 13), .int 0, .ref (mr 14)])), (so, .inr (11, [.ref (sr 0), .int 0, .int 0, .int 0, .int 0, .int 0, .ref (sr 1), .ref (sr 2), .ref (sr 3), .ref (sr 4), .ref (sr 5), .ref (sr 6), .ref (sr 7), .ref (sr 8), .ref (sr 9), .ref (sr 10), .ref (sr 11), .ref (sr 12), .ref (sr 13), .ref (sr 14), .ref (sr 15), .ref (sr 16), .ref (sr 17), .ref (sr 18), .ref (sr 19), .int 0, .int 0, .int 0]))] H := hP
  have hD : va_D A [(mo, .inr (6, [.int th, .int ((-1)), .ref (mr 0), .int 0, .ref (mr 1), .ref (mr 2), .ref (mr 3), .ref (mr 4), .ref (mr 5), .ref (mr 6), .ref so, .ref (mr 7), .ref (mr 8), .ref (mr 9), .int 0, .ref (mr 10), .ref (mr 11), .int 0, .ref (mr 12), .int 0, .ref (mr 13), .int 0, .ref (mr 14)])), (so, .inr (11, [.ref (sr 0), .int 0, .int 0, .int 0, .int 0, .int 0, .ref (sr 1), .ref (sr 2), .ref (sr 3), .ref (sr 4), .ref (sr 5), .ref (sr 6), .ref (sr 7), .ref (sr 8), .ref (sr 9), .ref (sr 10), .ref (sr 11), .ref (sr 12), .ref (sr 13), .ref (sr 14), .ref (sr 15), .ref (sr 16), .ref (sr 17), .ref (sr 18), .ref (sr 19), .int 0, .int 0, .int 0]))] := hD
  have hK : va_K (dC, dI) classes [] s := hK
  refine lv_if_ne (tgt := 26) hx hb d_SM_note_6 (by decide) (fun c_1 => ?_) (fun c_1 => ?_)
  · refine lv_aload_n hx hb d_SM_note_26 rfl (lv_at hl 0 rfl) ?_
    refine va_get (D := (dC, dI)) (ci := 6) (v := .int 0) (C := "ScholarsPressModel") (T := F_SM) (N := 23) hx hb hts in_SM hown hK hP 0 rfl rfl 17 (by decide) (hts (.fieldLink "ScholarsPressModel" 174 "ScholarsPressModel" "isSet" "Z") k_3697) (fun _ h9 => h9) rfl d_SM_note_27 ?_
    refine lv_if_ne (tgt := 39) hx hb d_SM_note_30 (by decide) (fun c_2 => ?_) (fun c_2 => ?_)
    · exact absurd c_2 (by decide)
    · refine lv_aload_n hx hb d_SM_note_33 rfl (lv_at hl 0 rfl) ?_
      refine lv_iconst (v := 2) hx hb d_SM_note_34 (by decide) ?_
      refine vi_i (wc := [(mo, .inr (6, [.int th, .int ((-1)), .ref (mr 0), .int 0, .ref (mr 1), .ref (mr 2), .ref (mr 3), .ref (mr 4), .ref (mr 5), .ref (mr 6), .ref so, .ref (mr 7), .ref (mr 8), .ref (mr 9), .int 0, .ref (mr 10), .ref (mr 11), .int 0, .ref (mr 12), .int 0, .ref (mr 13), .int 0, .ref (mr 14)]))]) (wr := [(so, .inr (11, [.ref (sr 0), .int 0, .int 0, .int 0, .int 0, .int 0, .ref (sr 1), .ref (sr 2), .ref (sr 3), .ref (sr 4), .ref (sr 5), .ref (sr 6), .ref (sr 7), .ref (sr 8), .ref (sr 9), .ref (sr 10), .ref (sr 11), .ref (sr 12), .ref (sr 13), .ref (sr 14), .ref (sr 15), .ref (sr 16), .ref (sr 17), .ref (sr 18), .ref (sr 19), .int 0, .int 0, .int 0]))]) (va_runV (As := [.int 2]) (rest := []) ⟨hx, hb, hml, hown, hts⟩ (c_SM_refuse l dC dI mo so mr sr th 2 H.size) (cwV 1 hts (tt_V k_3758 k_3760 k_122 k_247 kw_SM_refuse) rfl rfl rfl (by decide +kernel) ⟨Nat.le_of_ble_eq_true rfl, Nat.le_of_ble_eq_true rfl⟩) ⟨pr_blind, va_recv hK hP (ci := 6) (q0 := 0) rfl rfl, pr_pre hb0 (hP.sub [0] rfl) (hK.sub [] rfl) (hD.sub [0] (by decide) rfl)⟩ rfl rfl hl.1 rfl (lv_room (Nat.le_of_ble_eq_true rfl)) d_SM_note_35 ⟨Nat.le_of_ble_eq_true rfl, Nat.le_of_ble_eq_true rfl⟩) hP hD hK hS hA [0] [1] rfl rfl (by decide) (by decide) (fun r u H locs hw hP hK hD hS => ?_)
      obtain ⟨rfl, rfl⟩ := hw
      have hP : va_P (dC, dI) classes [(so, .inr (11, [.ref (sr 0), .int 0, .int 0, .int 0, .int 0, .int 0, .ref (sr 1), .ref (sr 2), .ref (sr 3), .ref (sr 4), .ref (sr 5), .ref (sr 6), .ref (sr 7), .ref (sr 8), .ref (sr 9), .ref (sr 10), .ref (sr 11), .ref (sr 12), .ref (sr 13), .ref (sr 14), .ref (sr 15), .ref (sr 16), .ref (sr 17), .ref (sr 18), .ref (sr 19), .int 0, .int 0, .int 0])), (mo, .inr (6, [.int 2, .int ((-1)), .ref (mr 0), .int 0, .ref (mr 1), .ref (mr 2), .ref (mr 3), .ref (mr 4), .ref (mr 5), .ref (mr 6), .ref so, .ref (mr 7), .ref (mr 8), .ref (mr 9), .int 0, .ref (mr 10), .ref (mr 11), .int 0, .ref (mr 12), .int 0, .ref (mr 13), .int 0, .ref (mr 14)]))] H := hP
      have hD : va_D A [(so, .inr (11, [.ref (sr 0), .int 0, .int 0, .int 0, .int 0, .int 0, .ref (sr 1), .ref (sr 2), .ref (sr 3), .ref (sr 4), .ref (sr 5), .ref (sr 6), .ref (sr 7), .ref (sr 8), .ref (sr 9), .ref (sr 10), .ref (sr 11), .ref (sr 12), .ref (sr 13), .ref (sr 14), .ref (sr 15), .ref (sr 16), .ref (sr 17), .ref (sr 18), .ref (sr 19), .int 0, .int 0, .int 0])), (mo, .inr (6, [.int 2, .int ((-1)), .ref (mr 0), .int 0, .ref (mr 1), .ref (mr 2), .ref (mr 3), .ref (mr 4), .ref (mr 5), .ref (mr 6), .ref so, .ref (mr 7), .ref (mr 8), .ref (mr 9), .int 0, .ref (mr 10), .ref (mr 11), .int 0, .ref (mr 12), .int 0, .ref (mr 13), .int 0, .ref (mr 14)]))] := hD
      have hK : va_K (dC, dI) classes [] s := hK
      have hP9 := hP.sub (ws' := [(mo, .inr (6, [.int 2, .int ((-1)), .ref (mr 0), .int 0, .ref (mr 1), .ref (mr 2), .ref (mr 3), .ref (mr 4), .ref (mr 5), .ref (mr 6), .ref so, .ref (mr 7), .ref (mr 8), .ref (mr 9), .int 0, .ref (mr 10), .ref (mr 11), .int 0, .ref (mr 12), .int 0, .ref (mr 13), .int 0, .ref (mr 14)]))]) [1] rfl
      have hD9 := hD.sub (ws' := [(mo, .inr (6, [.int 2, .int ((-1)), .ref (mr 0), .int 0, .ref (mr 1), .ref (mr 2), .ref (mr 3), .ref (mr 4), .ref (mr 5), .ref (mr 6), .ref so, .ref (mr 7), .ref (mr 8), .ref (mr 9), .int 0, .ref (mr 10), .ref (mr 11), .int 0, .ref (mr 12), .int 0, .ref (mr 13), .int 0, .ref (mr 14)]))]) [1] (by decide) rfl
      have hK9 := hK.sub (tys' := []) [] rfl
      exact W.iret (v := 0) hx hb hr (fun t ht hW => ⟨⟨0, 2, rfl, Or.inr (⟨rfl, by simp only [in_0, Int32.lt_iff_toInt_lt, Int32.le_iff_toInt_le, z_0, z_1, z_5, z_6, z_7, z_9, z_10, z_11, z_13, z_20, z_41] at c_1 ⊢; omega⟩), by rw [ht]; exact hP9, va_K.moved hW.alike hK9, hD9⟩, hS.F ht⟩) hS.2.2 d_SM_note_38
  · refine lv_iload_n hx hb d_SM_note_9 rfl (lv_at hl 2 rfl) ?_
    refine lv_bipush (v := 10) hx hb d_SM_note_10 (by decide) ?_
    refine lv_bipush (v := 13) hx hb d_SM_note_12 (by decide) ?_
    refine vi_i (wc := []) (wr := [(mo, .inr (6, [.int th, .int ((-1)), .ref (mr 0), .int 0, .ref (mr 1), .ref (mr 2), .ref (mr 3), .ref (mr 4), .ref (mr 5), .ref (mr 6), .ref so, .ref (mr 7), .ref (mr 8), .ref (mr 9), .int 0, .ref (mr 10), .ref (mr 11), .int 0, .ref (mr 12), .int 0, .ref (mr 13), .int 0, .ref (mr 14)])), (so, .inr (11, [.ref (sr 0), .int 0, .int 0, .int 0, .int 0, .int 0, .ref (sr 1), .ref (sr 2), .ref (sr 3), .ref (sr 4), .ref (sr 5), .ref (sr 6), .ref (sr 7), .ref (sr 8), .ref (sr 9), .ref (sr 10), .ref (sr 11), .ref (sr 12), .ref (sr 13), .ref (sr 14), .ref (sr 15), .ref (sr 16), .ref (sr 17), .ref (sr 18), .ref (sr 19), .int 0, .int 0, .int 0]))]) (va_runS (As := [.int w, .int 10, .int 13]) (rest := []) ⟨hx, hb, hml, hown, hts⟩ (c_SM_in l dC dI w 10 13 H.size) (va_cwS 3 hts (tt_S2 k_4102 k_4103 k_247 kw_SM_in) rfl rfl rfl (by decide +kernel) ⟨Nat.le_of_ble_eq_true rfl, Nat.le_of_ble_eq_true rfl⟩) ⟨pr_blind, pr_pre hb0 (hP.sub [] rfl) (hK.sub [] rfl) (hD.sub [] (by decide) rfl)⟩ rfl rfl hl.1 rfl (lv_room (Nat.le_of_ble_eq_true rfl)) d_SM_note_14 ⟨Nat.le_of_ble_eq_true rfl, Nat.le_of_ble_eq_true rfl⟩) hP hD hK hS hA [] [0, 1] rfl rfl (by decide) (by decide) (fun r u H locs hw hP hK hD hS => ?_)
    subst hw
    have hP : va_P (dC, dI) classes [(mo, .inr (6, [.int th, .int ((-1)), .ref (mr 0), .int 0, .ref (mr 1), .ref (mr 2), .ref (mr 3), .ref (mr 4), .ref (mr 5), .ref (mr 6), .ref so, .ref (mr 7), .ref (mr 8), .ref (mr 9), .int 0, .ref (mr 10), .ref (mr 11), .int 0, .ref (mr 12), .int 0, .ref (mr 13), .int 0, .ref (mr 14)])), (so, .inr (11, [.ref (sr 0), .int 0, .int 0, .int 0, .int 0, .int 0, .ref (sr 1), .ref (sr 2), .ref (sr 3), .ref (sr 4), .ref (sr 5), .ref (sr 6), .ref (sr 7), .ref (sr 8), .ref (sr 9), .ref (sr 10), .ref (sr 11), .ref (sr 12), .ref (sr 13), .ref (sr 14), .ref (sr 15), .ref (sr 16), .ref (sr 17), .ref (sr 18), .ref (sr 19), .int 0, .int 0, .int 0]))] H := hP
    have hD : va_D A [(mo, .inr (6, [.int th, .int ((-1)), .ref (mr 0), .int 0, .ref (mr 1), .ref (mr 2), .ref (mr 3), .ref (mr 4), .ref (mr 5), .ref (mr 6), .ref so, .ref (mr 7), .ref (mr 8), .ref (mr 9), .int 0, .ref (mr 10), .ref (mr 11), .int 0, .ref (mr 12), .int 0, .ref (mr 13), .int 0, .ref (mr 14)])), (so, .inr (11, [.ref (sr 0), .int 0, .int 0, .int 0, .int 0, .int 0, .ref (sr 1), .ref (sr 2), .ref (sr 3), .ref (sr 4), .ref (sr 5), .ref (sr 6), .ref (sr 7), .ref (sr 8), .ref (sr 9), .ref (sr 10), .ref (sr 11), .ref (sr 12), .ref (sr 13), .ref (sr 14), .ref (sr 15), .ref (sr 16), .ref (sr 17), .ref (sr 18), .ref (sr 19), .int 0, .int 0, .int 0]))] := hD
    have hK : va_K (dC, dI) classes [] s := hK
    refine lv_if_ne (tgt := 26) hx hb d_SM_note_17 (by decide) (fun c_3 => ?_) (fun c_3 => ?_)
    · refine lv_aload_n hx hb d_SM_note_26 rfl (lv_at hl 0 rfl) ?_
      refine va_get (D := (dC, dI)) (ci := 6) (v := .int 0) (C := "ScholarsPressModel") (T := F_SM) (N := 23) hx hb hts in_SM hown hK hP 0 rfl rfl 17 (by decide) (hts (.fieldLink "ScholarsPressModel" 174 "ScholarsPressModel" "isSet" "Z") k_3697) (fun _ h9 => h9) rfl d_SM_note_27 ?_
      refine lv_if_ne (tgt := 39) hx hb d_SM_note_30 (by decide) (fun c_4 => ?_) (fun c_4 => ?_)
      · exact absurd c_4 (by decide)
      · refine lv_aload_n hx hb d_SM_note_33 rfl (lv_at hl 0 rfl) ?_
        refine lv_iconst (v := 2) hx hb d_SM_note_34 (by decide) ?_
        refine vi_i (wc := [(mo, .inr (6, [.int th, .int ((-1)), .ref (mr 0), .int 0, .ref (mr 1), .ref (mr 2), .ref (mr 3), .ref (mr 4), .ref (mr 5), .ref (mr 6), .ref so, .ref (mr 7), .ref (mr 8), .ref (mr 9), .int 0, .ref (mr 10), .ref (mr 11), .int 0, .ref (mr 12), .int 0, .ref (mr 13), .int 0, .ref (mr 14)]))]) (wr := [(so, .inr (11, [.ref (sr 0), .int 0, .int 0, .int 0, .int 0, .int 0, .ref (sr 1), .ref (sr 2), .ref (sr 3), .ref (sr 4), .ref (sr 5), .ref (sr 6), .ref (sr 7), .ref (sr 8), .ref (sr 9), .ref (sr 10), .ref (sr 11), .ref (sr 12), .ref (sr 13), .ref (sr 14), .ref (sr 15), .ref (sr 16), .ref (sr 17), .ref (sr 18), .ref (sr 19), .int 0, .int 0, .int 0]))]) (va_runV (As := [.int 2]) (rest := []) ⟨hx, hb, hml, hown, hts⟩ (c_SM_refuse l dC dI mo so mr sr th 2 H.size) (cwV 1 hts (tt_V k_3758 k_3760 k_122 k_247 kw_SM_refuse) rfl rfl rfl (by decide +kernel) ⟨Nat.le_of_ble_eq_true rfl, Nat.le_of_ble_eq_true rfl⟩) ⟨pr_blind, va_recv hK hP (ci := 6) (q0 := 0) rfl rfl, pr_pre hb0 (hP.sub [0] rfl) (hK.sub [] rfl) (hD.sub [0] (by decide) rfl)⟩ rfl rfl hl.1 rfl (lv_room (Nat.le_of_ble_eq_true rfl)) d_SM_note_35 ⟨Nat.le_of_ble_eq_true rfl, Nat.le_of_ble_eq_true rfl⟩) hP hD hK hS hA [0] [1] rfl rfl (by decide) (by decide) (fun r u H locs hw hP hK hD hS => ?_)
        obtain ⟨rfl, rfl⟩ := hw
        have hP : va_P (dC, dI) classes [(so, .inr (11, [.ref (sr 0), .int 0, .int 0, .int 0, .int 0, .int 0, .ref (sr 1), .ref (sr 2), .ref (sr 3), .ref (sr 4), .ref (sr 5), .ref (sr 6), .ref (sr 7), .ref (sr 8), .ref (sr 9), .ref (sr 10), .ref (sr 11), .ref (sr 12), .ref (sr 13), .ref (sr 14), .ref (sr 15), .ref (sr 16), .ref (sr 17), .ref (sr 18), .ref (sr 19), .int 0, .int 0, .int 0])), (mo, .inr (6, [.int 2, .int ((-1)), .ref (mr 0), .int 0, .ref (mr 1), .ref (mr 2), .ref (mr 3), .ref (mr 4), .ref (mr 5), .ref (mr 6), .ref so, .ref (mr 7), .ref (mr 8), .ref (mr 9), .int 0, .ref (mr 10), .ref (mr 11), .int 0, .ref (mr 12), .int 0, .ref (mr 13), .int 0, .ref (mr 14)]))] H := hP
        have hD : va_D A [(so, .inr (11, [.ref (sr 0), .int 0, .int 0, .int 0, .int 0, .int 0, .ref (sr 1), .ref (sr 2), .ref (sr 3), .ref (sr 4), .ref (sr 5), .ref (sr 6), .ref (sr 7), .ref (sr 8), .ref (sr 9), .ref (sr 10), .ref (sr 11), .ref (sr 12), .ref (sr 13), .ref (sr 14), .ref (sr 15), .ref (sr 16), .ref (sr 17), .ref (sr 18), .ref (sr 19), .int 0, .int 0, .int 0])), (mo, .inr (6, [.int 2, .int ((-1)), .ref (mr 0), .int 0, .ref (mr 1), .ref (mr 2), .ref (mr 3), .ref (mr 4), .ref (mr 5), .ref (mr 6), .ref so, .ref (mr 7), .ref (mr 8), .ref (mr 9), .int 0, .ref (mr 10), .ref (mr 11), .int 0, .ref (mr 12), .int 0, .ref (mr 13), .int 0, .ref (mr 14)]))] := hD
        have hK : va_K (dC, dI) classes [] s := hK
        have hP9 := hP.sub (ws' := [(mo, .inr (6, [.int 2, .int ((-1)), .ref (mr 0), .int 0, .ref (mr 1), .ref (mr 2), .ref (mr 3), .ref (mr 4), .ref (mr 5), .ref (mr 6), .ref so, .ref (mr 7), .ref (mr 8), .ref (mr 9), .int 0, .ref (mr 10), .ref (mr 11), .int 0, .ref (mr 12), .int 0, .ref (mr 13), .int 0, .ref (mr 14)]))]) [1] rfl
        have hD9 := hD.sub (ws' := [(mo, .inr (6, [.int 2, .int ((-1)), .ref (mr 0), .int 0, .ref (mr 1), .ref (mr 2), .ref (mr 3), .ref (mr 4), .ref (mr 5), .ref (mr 6), .ref so, .ref (mr 7), .ref (mr 8), .ref (mr 9), .int 0, .ref (mr 10), .ref (mr 11), .int 0, .ref (mr 12), .int 0, .ref (mr 13), .int 0, .ref (mr 14)]))]) [1] (by decide) rfl
        have hK9 := hK.sub (tys' := []) [] rfl
        exact W.iret (v := 0) hx hb hr (fun t ht hW => ⟨⟨0, 2, rfl, Or.inr (⟨rfl, by simp only [in_0, Int32.lt_iff_toInt_lt, Int32.le_iff_toInt_le, z_0, z_1, z_5, z_6, z_7, z_9, z_10, z_11, z_13, z_20, z_41] at c_1 c_3 ⊢; omega⟩), by rw [ht]; exact hP9, va_K.moved hW.alike hK9, hD9⟩, hS.F ht⟩) hS.2.2 d_SM_note_38
    · refine lv_aload_n hx hb d_SM_note_20 rfl (lv_at hl 0 rfl) ?_
      refine lv_iconst (v := 1) hx hb d_SM_note_21 (by decide) ?_
      refine vi_i (wc := [(mo, .inr (6, [.int th, .int ((-1)), .ref (mr 0), .int 0, .ref (mr 1), .ref (mr 2), .ref (mr 3), .ref (mr 4), .ref (mr 5), .ref (mr 6), .ref so, .ref (mr 7), .ref (mr 8), .ref (mr 9), .int 0, .ref (mr 10), .ref (mr 11), .int 0, .ref (mr 12), .int 0, .ref (mr 13), .int 0, .ref (mr 14)]))]) (wr := [(so, .inr (11, [.ref (sr 0), .int 0, .int 0, .int 0, .int 0, .int 0, .ref (sr 1), .ref (sr 2), .ref (sr 3), .ref (sr 4), .ref (sr 5), .ref (sr 6), .ref (sr 7), .ref (sr 8), .ref (sr 9), .ref (sr 10), .ref (sr 11), .ref (sr 12), .ref (sr 13), .ref (sr 14), .ref (sr 15), .ref (sr 16), .ref (sr 17), .ref (sr 18), .ref (sr 19), .int 0, .int 0, .int 0]))]) (va_runV (As := [.int 1]) (rest := []) ⟨hx, hb, hml, hown, hts⟩ (c_SM_refuse l dC dI mo so mr sr th 1 H.size) (cwV 1 hts (tt_V k_3758 k_3760 k_122 k_247 kw_SM_refuse) rfl rfl rfl (by decide +kernel) ⟨Nat.le_of_ble_eq_true rfl, Nat.le_of_ble_eq_true rfl⟩) ⟨pr_blind, va_recv hK hP (ci := 6) (q0 := 0) rfl rfl, pr_pre hb0 (hP.sub [0] rfl) (hK.sub [] rfl) (hD.sub [0] (by decide) rfl)⟩ rfl rfl hl.1 rfl (lv_room (Nat.le_of_ble_eq_true rfl)) d_SM_note_22 ⟨Nat.le_of_ble_eq_true rfl, Nat.le_of_ble_eq_true rfl⟩) hP hD hK hS hA [0] [1] rfl rfl (by decide) (by decide) (fun r u H locs hw hP hK hD hS => ?_)
      obtain ⟨rfl, rfl⟩ := hw
      have hP : va_P (dC, dI) classes [(so, .inr (11, [.ref (sr 0), .int 0, .int 0, .int 0, .int 0, .int 0, .ref (sr 1), .ref (sr 2), .ref (sr 3), .ref (sr 4), .ref (sr 5), .ref (sr 6), .ref (sr 7), .ref (sr 8), .ref (sr 9), .ref (sr 10), .ref (sr 11), .ref (sr 12), .ref (sr 13), .ref (sr 14), .ref (sr 15), .ref (sr 16), .ref (sr 17), .ref (sr 18), .ref (sr 19), .int 0, .int 0, .int 0])), (mo, .inr (6, [.int 1, .int ((-1)), .ref (mr 0), .int 0, .ref (mr 1), .ref (mr 2), .ref (mr 3), .ref (mr 4), .ref (mr 5), .ref (mr 6), .ref so, .ref (mr 7), .ref (mr 8), .ref (mr 9), .int 0, .ref (mr 10), .ref (mr 11), .int 0, .ref (mr 12), .int 0, .ref (mr 13), .int 0, .ref (mr 14)]))] H := hP
      have hD : va_D A [(so, .inr (11, [.ref (sr 0), .int 0, .int 0, .int 0, .int 0, .int 0, .ref (sr 1), .ref (sr 2), .ref (sr 3), .ref (sr 4), .ref (sr 5), .ref (sr 6), .ref (sr 7), .ref (sr 8), .ref (sr 9), .ref (sr 10), .ref (sr 11), .ref (sr 12), .ref (sr 13), .ref (sr 14), .ref (sr 15), .ref (sr 16), .ref (sr 17), .ref (sr 18), .ref (sr 19), .int 0, .int 0, .int 0])), (mo, .inr (6, [.int 1, .int ((-1)), .ref (mr 0), .int 0, .ref (mr 1), .ref (mr 2), .ref (mr 3), .ref (mr 4), .ref (mr 5), .ref (mr 6), .ref so, .ref (mr 7), .ref (mr 8), .ref (mr 9), .int 0, .ref (mr 10), .ref (mr 11), .int 0, .ref (mr 12), .int 0, .ref (mr 13), .int 0, .ref (mr 14)]))] := hD
      have hK : va_K (dC, dI) classes [] s := hK
      have hP9 := hP.sub (ws' := [(mo, .inr (6, [.int 1, .int ((-1)), .ref (mr 0), .int 0, .ref (mr 1), .ref (mr 2), .ref (mr 3), .ref (mr 4), .ref (mr 5), .ref (mr 6), .ref so, .ref (mr 7), .ref (mr 8), .ref (mr 9), .int 0, .ref (mr 10), .ref (mr 11), .int 0, .ref (mr 12), .int 0, .ref (mr 13), .int 0, .ref (mr 14)]))]) [1] rfl
      have hD9 := hD.sub (ws' := [(mo, .inr (6, [.int 1, .int ((-1)), .ref (mr 0), .int 0, .ref (mr 1), .ref (mr 2), .ref (mr 3), .ref (mr 4), .ref (mr 5), .ref (mr 6), .ref so, .ref (mr 7), .ref (mr 8), .ref (mr 9), .int 0, .ref (mr 10), .ref (mr 11), .int 0, .ref (mr 12), .int 0, .ref (mr 13), .int 0, .ref (mr 14)]))]) [1] (by decide) rfl
      have hK9 := hK.sub (tys' := []) [] rfl
      exact W.iret (v := 0) hx hb hr (fun t ht hW => ⟨⟨0, 1, rfl, Or.inl ⟨rfl, by simp only [in_0, Int32.lt_iff_toInt_lt, Int32.le_iff_toInt_le, z_0, z_1, z_5, z_6, z_7, z_9, z_10, z_11, z_13, z_20, z_41] at c_1 c_3 ⊢; omega⟩, by rw [ht]; exact hP9, va_K.moved hW.alike hK9, hD9⟩, hS.F ht⟩) hS.2.2 d_SM_note_25
set_option maxHeartbeats 4000000 in
set_option maxRecDepth 100000 in
/-- wavering: nothing is SET -/
theorem c_SM_wavering (l : Launch) (dC : Nat → ClassId) (dI : Nat → Nat → Nat) (mo so : Nat) (mr sr : Nat → Nat) (th : Int32) (a : Int32) (sz : Nat) : Met l y_SM_wavering [w_SM_wavering] ({ frames := 1, cells := 0, slots := 0, locals := 60 }) (va_Pc [.ref mo, .int a] (pr sz (dC, dI) [(mo, .inr (6, [.int th, .int ((-1)), .ref (mr 0), .int 0, .ref (mr 1), .ref (mr 2), .ref (mr 3), .ref (mr 4), .ref (mr 5), .ref (mr 6), .ref so, .ref (mr 7), .ref (mr 8), .ref (mr 9), .int 0, .ref (mr 10), .ref (mr 11), .int 0, .ref (mr 12), .int 0, .ref (mr 13), .int 0, .ref (mr 14)])), (so, .inr (11, [.ref (sr 0), .int 0, .int 0, .int 0, .int 0, .int 0, .ref (sr 1), .ref (sr 2), .ref (sr 3), .ref (sr 4), .ref (sr 5), .ref (sr 6), .ref (sr 7), .ref (sr 8), .ref (sr 9), .ref (sr 10), .ref (sr 11), .ref (sr 12), .ref (sr 13), .ref (sr 14), .ref (sr 15), .ref (sr 16), .ref (sr 17), .ref (sr 18), .ref (sr 19), .int 0, .int 0, .int 0]))] [])) (va_Qi (fun (r : Int32) (u : Int32) => u = 1 ∧ True) (bw (dC, dI) (va_A [(mo, .inr (6, [.int th, .int ((-1)), .ref (mr 0), .int 0, .ref (mr 1), .ref (mr 2), .ref (mr 3), .ref (mr 4), .ref (mr 5), .ref (mr 6), .ref so, .ref (mr 7), .ref (mr 8), .ref (mr 9), .int 0, .ref (mr 10), .ref (mr 11), .int 0, .ref (mr 12), .int 0, .ref (mr 13), .int 0, .ref (mr 14)])), (so, .inr (11, [.ref (sr 0), .int 0, .int 0, .int 0, .int 0, .int 0, .ref (sr 1), .ref (sr 2), .ref (sr 3), .ref (sr 4), .ref (sr 5), .ref (sr 6), .ref (sr 7), .ref (sr 8), .ref (sr 9), .ref (sr 10), .ref (sr 11), .ref (sr 12), .ref (sr 13), .ref (sr 14), .ref (sr 15), .ref (sr 16), .ref (sr 17), .ref (sr 18), .ref (sr 19), .int 0, .int 0, .int 0]))] sz) (fun u : Int32 => [(mo, .inr (6, [.int u, .int ((-1)), .ref (mr 0), .int 0, .ref (mr 1), .ref (mr 2), .ref (mr 3), .ref (mr 4), .ref (mr 5), .ref (mr 6), .ref so, .ref (mr 7), .ref (mr 8), .ref (mr 9), .int 0, .ref (mr 10), .ref (mr 11), .int 0, .ref (mr 12), .int 0, .ref (mr 13), .int 0, .ref (mr 14)]))]) (fun u : Int32 => [])) (va_A [(mo, .inr (6, [.int th, .int ((-1)), .ref (mr 0), .int 0, .ref (mr 1), .ref (mr 2), .ref (mr 3), .ref (mr 4), .ref (mr 5), .ref (mr 6), .ref so, .ref (mr 7), .ref (mr 8), .ref (mr 9), .int 0, .ref (mr 10), .ref (mr 11), .int 0, .ref (mr 12), .int 0, .ref (mr 13), .int 0, .ref (mr 14)])), (so, .inr (11, [.ref (sr 0), .int 0, .int 0, .int 0, .int 0, .int 0, .ref (sr 1), .ref (sr 2), .ref (sr 3), .ref (sr 4), .ref (sr 5), .ref (sr 6), .ref (sr 7), .ref (sr 8), .ref (sr 9), .ref (sr 10), .ref (sr 11), .ref (sr 12), .ref (sr 13), .ref (sr 14), .ref (sr 15), .ref (sr 16), .ref (sr 17), .ref (sr 18), .ref (sr 19), .int 0, .int 0, .int 0]))] sz)) 0 0 (va_A [(mo, .inr (6, [.int th, .int ((-1)), .ref (mr 0), .int 0, .ref (mr 1), .ref (mr 2), .ref (mr 3), .ref (mr 4), .ref (mr 5), .ref (mr 6), .ref so, .ref (mr 7), .ref (mr 8), .ref (mr 9), .int 0, .ref (mr 10), .ref (mr 11), .int 0, .ref (mr 12), .int 0, .ref (mr 13), .int 0, .ref (mr 14)])), (so, .inr (11, [.ref (sr 0), .int 0, .int 0, .int 0, .int 0, .int 0, .ref (sr 1), .ref (sr 2), .ref (sr 3), .ref (sr 4), .ref (sr 5), .ref (sr 6), .ref (sr 7), .ref (sr 8), .ref (sr 9), .ref (sr 10), .ref (sr 11), .ref (sr 12), .ref (sr 13), .ref (sr 14), .ref (sr 15), .ref (sr 16), .ref (sr 17), .ref (sr 18), .ref (sr 19), .int 0, .int 0, .int 0]))] sz) := by
  refine Met.ofW (cc := b_SM_wavering) (maxL := 4) (ret := (some .int)) (by decide) rfl ?_
  intro p e s m args below meth c s₁ B hml hv
  obtain ⟨rfl, hsz, hb0, hP, hK, hD0⟩ := hv
  have hx := B.exec
  have hb := B.bytes
  have hr := B.returns
  have hts : ∀ wq ∈ tt, wq.before ([.ref mo, .int a] : List Value).toArray s = true := hb0.hts
  have hown : s.vm.findClass "ScholarsPressModel" = some m.cls := findClass_of_methodNamed B.named
  have hlocks := B.notSynchronized
  subst hsz
  have hD := hD0.self (sz := s.heap.size)
  generalize hAe : va_A [(mo, .inr (6, [.int th, .int ((-1)), .ref (mr 0), .int 0, .ref (mr 1), .ref (mr 2), .ref (mr 3), .ref (mr 4), .ref (mr 5), .ref (mr 6), .ref so, .ref (mr 7), .ref (mr 8), .ref (mr 9), .int 0, .ref (mr 10), .ref (mr 11), .int 0, .ref (mr 12), .int 0, .ref (mr 13), .int 0, .ref (mr 14)])), (so, .inr (11, [.ref (sr 0), .int 0, .int 0, .int 0, .int 0, .int 0, .ref (sr 1), .ref (sr 2), .ref (sr 3), .ref (sr 4), .ref (sr 5), .ref (sr 6), .ref (sr 7), .ref (sr 8), .ref (sr 9), .ref (sr 10), .ref (sr 11), .ref (sr 12), .ref (sr 13), .ref (sr 14), .ref (sr 15), .ref (sr 16), .ref (sr 17), .ref (sr 18), .ref (sr 19), .int 0, .int 0, .int 0]))] s.heap.size = A at hD ⊢
  have hA : ∀ q : Nat, s.heap.size ≤ q → A q := fun q h => by rw [← hAe]; exact Or.inr h
  have hS : va_S A s.heap s.heap [] := va_S.rf
  have hP : va_P (dC, dI) classes [(mo, .inr (6, [.int th, .int ((-1)), .ref (mr 0), .int 0, .ref (mr 1), .ref (mr 2), .ref (mr 3), .ref (mr 4), .ref (mr 5), .ref (mr 6), .ref so, .ref (mr 7), .ref (mr 8), .ref (mr 9), .int 0, .ref (mr 10), .ref (mr 11), .int 0, .ref (mr 12), .int 0, .ref (mr 13), .int 0, .ref (mr 14)])), (so, .inr (11, [.ref (sr 0), .int 0, .int 0, .int 0, .int 0, .int 0, .ref (sr 1), .ref (sr 2), .ref (sr 3), .ref (sr 4), .ref (sr 5), .ref (sr 6), .ref (sr 7), .ref (sr 8), .ref (sr 9), .ref (sr 10), .ref (sr 11), .ref (sr 12), .ref (sr 13), .ref (sr 14), .ref (sr 15), .ref (sr 16), .ref (sr 17), .ref (sr 18), .ref (sr 19), .int 0, .int 0, .int 0]))] s.heap := hP
  have hl := lv_entry ([.ref mo, .int a]) (n := 4) (Nat.le_of_ble_eq_true rfl)
  rw [lg_entry_eq]
  generalize (lg_sl ([.ref mo, .int a]) ++ List.replicate (4 - (lg_sl ([.ref mo, .int a])).length) Slot.unset).toArray = ls at hl ⊢
  have hl : lv_has ls 4 [(0, .ref mo), (1, .int a)] := hl
  refine lv_aload_n hx hb d_SM_wavering_0 rfl (lv_at hl 0 rfl) ?_
  refine va_get (D := (dC, dI)) (ci := 6) (v := .int 0) (C := "ScholarsPressModel") (T := F_SM) (N := 23) hx hb hts in_SM hown hK hP 0 rfl rfl 17 (by decide) (hts (.fieldLink "ScholarsPressModel" 174 "ScholarsPressModel" "isSet" "Z") k_3697) (fun _ h9 => h9) rfl d_SM_wavering_1 ?_
  refine lv_if_ne (tgt := 13) hx hb d_SM_wavering_4 (by decide) (fun c_1 => ?_) (fun c_1 => ?_)
  · exact absurd c_1 (by decide)
  · refine lv_aload_n hx hb d_SM_wavering_7 rfl (lv_at hl 0 rfl) ?_
    refine lv_iconst (v := 1) hx hb d_SM_wavering_8 (by decide) ?_
    refine vi_i (wc := [(mo, .inr (6, [.int th, .int ((-1)), .ref (mr 0), .int 0, .ref (mr 1), .ref (mr 2), .ref (mr 3), .ref (mr 4), .ref (mr 5), .ref (mr 6), .ref so, .ref (mr 7), .ref (mr 8), .ref (mr 9), .int 0, .ref (mr 10), .ref (mr 11), .int 0, .ref (mr 12), .int 0, .ref (mr 13), .int 0, .ref (mr 14)]))]) (wr := [(so, .inr (11, [.ref (sr 0), .int 0, .int 0, .int 0, .int 0, .int 0, .ref (sr 1), .ref (sr 2), .ref (sr 3), .ref (sr 4), .ref (sr 5), .ref (sr 6), .ref (sr 7), .ref (sr 8), .ref (sr 9), .ref (sr 10), .ref (sr 11), .ref (sr 12), .ref (sr 13), .ref (sr 14), .ref (sr 15), .ref (sr 16), .ref (sr 17), .ref (sr 18), .ref (sr 19), .int 0, .int 0, .int 0]))]) (va_runV (As := [.int 1]) (rest := []) ⟨hx, hb, hml, hown, hts⟩ (c_SM_refuse l dC dI mo so mr sr th 1 s.heap.size) (cwV 1 hts (tt_V k_3758 k_3760 k_122 k_247 kw_SM_refuse) rfl rfl rfl (by decide +kernel) ⟨Nat.le_of_ble_eq_true rfl, Nat.le_of_ble_eq_true rfl⟩) ⟨pr_blind, va_recv hK hP (ci := 6) (q0 := 0) rfl rfl, pr_pre hb0 (hP.sub [0] rfl) (hK.sub [] rfl) (hD.sub [0] (by decide) rfl)⟩ rfl rfl hl.1 rfl (lv_room (Nat.le_of_ble_eq_true rfl)) d_SM_wavering_9 ⟨Nat.le_of_ble_eq_true rfl, Nat.le_of_ble_eq_true rfl⟩) hP hD hK hS hA [0] [1] rfl rfl (by decide) (by decide) (fun r u H locs hw hP hK hD hS => ?_)
    obtain ⟨rfl, rfl⟩ := hw
    have hP : va_P (dC, dI) classes [(so, .inr (11, [.ref (sr 0), .int 0, .int 0, .int 0, .int 0, .int 0, .ref (sr 1), .ref (sr 2), .ref (sr 3), .ref (sr 4), .ref (sr 5), .ref (sr 6), .ref (sr 7), .ref (sr 8), .ref (sr 9), .ref (sr 10), .ref (sr 11), .ref (sr 12), .ref (sr 13), .ref (sr 14), .ref (sr 15), .ref (sr 16), .ref (sr 17), .ref (sr 18), .ref (sr 19), .int 0, .int 0, .int 0])), (mo, .inr (6, [.int 1, .int ((-1)), .ref (mr 0), .int 0, .ref (mr 1), .ref (mr 2), .ref (mr 3), .ref (mr 4), .ref (mr 5), .ref (mr 6), .ref so, .ref (mr 7), .ref (mr 8), .ref (mr 9), .int 0, .ref (mr 10), .ref (mr 11), .int 0, .ref (mr 12), .int 0, .ref (mr 13), .int 0, .ref (mr 14)]))] H := hP
    have hD : va_D A [(so, .inr (11, [.ref (sr 0), .int 0, .int 0, .int 0, .int 0, .int 0, .ref (sr 1), .ref (sr 2), .ref (sr 3), .ref (sr 4), .ref (sr 5), .ref (sr 6), .ref (sr 7), .ref (sr 8), .ref (sr 9), .ref (sr 10), .ref (sr 11), .ref (sr 12), .ref (sr 13), .ref (sr 14), .ref (sr 15), .ref (sr 16), .ref (sr 17), .ref (sr 18), .ref (sr 19), .int 0, .int 0, .int 0])), (mo, .inr (6, [.int 1, .int ((-1)), .ref (mr 0), .int 0, .ref (mr 1), .ref (mr 2), .ref (mr 3), .ref (mr 4), .ref (mr 5), .ref (mr 6), .ref so, .ref (mr 7), .ref (mr 8), .ref (mr 9), .int 0, .ref (mr 10), .ref (mr 11), .int 0, .ref (mr 12), .int 0, .ref (mr 13), .int 0, .ref (mr 14)]))] := hD
    have hK : va_K (dC, dI) classes [] s := hK
    have hP9 := hP.sub (ws' := [(mo, .inr (6, [.int 1, .int ((-1)), .ref (mr 0), .int 0, .ref (mr 1), .ref (mr 2), .ref (mr 3), .ref (mr 4), .ref (mr 5), .ref (mr 6), .ref so, .ref (mr 7), .ref (mr 8), .ref (mr 9), .int 0, .ref (mr 10), .ref (mr 11), .int 0, .ref (mr 12), .int 0, .ref (mr 13), .int 0, .ref (mr 14)]))]) [1] rfl
    have hD9 := hD.sub (ws' := [(mo, .inr (6, [.int 1, .int ((-1)), .ref (mr 0), .int 0, .ref (mr 1), .ref (mr 2), .ref (mr 3), .ref (mr 4), .ref (mr 5), .ref (mr 6), .ref so, .ref (mr 7), .ref (mr 8), .ref (mr 9), .int 0, .ref (mr 10), .ref (mr 11), .int 0, .ref (mr 12), .int 0, .ref (mr 13), .int 0, .ref (mr 14)]))]) [1] (by decide) rfl
    have hK9 := hK.sub (tys' := []) [] rfl
    exact W.iret (v := 0) hx hb hr (fun t ht hW => ⟨⟨0, 1, rfl, ⟨rfl, trivial⟩, by rw [ht]; exact hP9, va_K.moved hW.alike hK9, hD9⟩, hS.F ht⟩) hS.2.2 d_SM_wavering_12
set_option maxHeartbeats 4000000 in
set_option maxRecDepth 100000 in
/-- print: nothing is SET -/
theorem c_SM_print (l : Launch) (dC : Nat → ClassId) (dI : Nat → Nat → Nat) (mo so : Nat) (mr sr : Nat → Nat) (th : Int32) (a : Int32) (sz : Nat) : Met l y_SM_print [w_SM_print] ({ frames := 1, cells := 0, slots := 0, locals := 60 }) (va_Pc [.ref mo, .int a] (pr sz (dC, dI) [(mo, .inr (6, [.int th, .int ((-1)), .ref (mr 0), .int 0, .ref (mr 1), .ref (mr 2), .ref (mr 3), .ref (mr 4), .ref (mr 5), .ref (mr 6), .ref so, .ref (mr 7), .ref (mr 8), .ref (mr 9), .int 0, .ref (mr 10), .ref (mr 11), .int 0, .ref (mr 12), .int 0, .ref (mr 13), .int 0, .ref (mr 14)])), (so, .inr (11, [.ref (sr 0), .int 0, .int 0, .int 0, .int 0, .int 0, .ref (sr 1), .ref (sr 2), .ref (sr 3), .ref (sr 4), .ref (sr 5), .ref (sr 6), .ref (sr 7), .ref (sr 8), .ref (sr 9), .ref (sr 10), .ref (sr 11), .ref (sr 12), .ref (sr 13), .ref (sr 14), .ref (sr 15), .ref (sr 16), .ref (sr 17), .ref (sr 18), .ref (sr 19), .int 0, .int 0, .int 0]))] [])) (va_Qi (fun (r : Int32) (u : Int32) => u = 1 ∧ True) (bw (dC, dI) (va_A [(mo, .inr (6, [.int th, .int ((-1)), .ref (mr 0), .int 0, .ref (mr 1), .ref (mr 2), .ref (mr 3), .ref (mr 4), .ref (mr 5), .ref (mr 6), .ref so, .ref (mr 7), .ref (mr 8), .ref (mr 9), .int 0, .ref (mr 10), .ref (mr 11), .int 0, .ref (mr 12), .int 0, .ref (mr 13), .int 0, .ref (mr 14)])), (so, .inr (11, [.ref (sr 0), .int 0, .int 0, .int 0, .int 0, .int 0, .ref (sr 1), .ref (sr 2), .ref (sr 3), .ref (sr 4), .ref (sr 5), .ref (sr 6), .ref (sr 7), .ref (sr 8), .ref (sr 9), .ref (sr 10), .ref (sr 11), .ref (sr 12), .ref (sr 13), .ref (sr 14), .ref (sr 15), .ref (sr 16), .ref (sr 17), .ref (sr 18), .ref (sr 19), .int 0, .int 0, .int 0]))] sz) (fun u : Int32 => [(mo, .inr (6, [.int u, .int ((-1)), .ref (mr 0), .int 0, .ref (mr 1), .ref (mr 2), .ref (mr 3), .ref (mr 4), .ref (mr 5), .ref (mr 6), .ref so, .ref (mr 7), .ref (mr 8), .ref (mr 9), .int 0, .ref (mr 10), .ref (mr 11), .int 0, .ref (mr 12), .int 0, .ref (mr 13), .int 0, .ref (mr 14)]))]) (fun u : Int32 => [])) (va_A [(mo, .inr (6, [.int th, .int ((-1)), .ref (mr 0), .int 0, .ref (mr 1), .ref (mr 2), .ref (mr 3), .ref (mr 4), .ref (mr 5), .ref (mr 6), .ref so, .ref (mr 7), .ref (mr 8), .ref (mr 9), .int 0, .ref (mr 10), .ref (mr 11), .int 0, .ref (mr 12), .int 0, .ref (mr 13), .int 0, .ref (mr 14)])), (so, .inr (11, [.ref (sr 0), .int 0, .int 0, .int 0, .int 0, .int 0, .ref (sr 1), .ref (sr 2), .ref (sr 3), .ref (sr 4), .ref (sr 5), .ref (sr 6), .ref (sr 7), .ref (sr 8), .ref (sr 9), .ref (sr 10), .ref (sr 11), .ref (sr 12), .ref (sr 13), .ref (sr 14), .ref (sr 15), .ref (sr 16), .ref (sr 17), .ref (sr 18), .ref (sr 19), .int 0, .int 0, .int 0]))] sz)) 0 0 (va_A [(mo, .inr (6, [.int th, .int ((-1)), .ref (mr 0), .int 0, .ref (mr 1), .ref (mr 2), .ref (mr 3), .ref (mr 4), .ref (mr 5), .ref (mr 6), .ref so, .ref (mr 7), .ref (mr 8), .ref (mr 9), .int 0, .ref (mr 10), .ref (mr 11), .int 0, .ref (mr 12), .int 0, .ref (mr 13), .int 0, .ref (mr 14)])), (so, .inr (11, [.ref (sr 0), .int 0, .int 0, .int 0, .int 0, .int 0, .ref (sr 1), .ref (sr 2), .ref (sr 3), .ref (sr 4), .ref (sr 5), .ref (sr 6), .ref (sr 7), .ref (sr 8), .ref (sr 9), .ref (sr 10), .ref (sr 11), .ref (sr 12), .ref (sr 13), .ref (sr 14), .ref (sr 15), .ref (sr 16), .ref (sr 17), .ref (sr 18), .ref (sr 19), .int 0, .int 0, .int 0]))] sz) := by
  refine Met.ofW (cc := b_SM_print) (maxL := 5) (ret := (some .int)) (by decide) rfl ?_
  intro p e s m args below meth c s₁ B hml hv
  obtain ⟨rfl, hsz, hb0, hP, hK, hD0⟩ := hv
  have hx := B.exec
  have hb := B.bytes
  have hr := B.returns
  have hts : ∀ wq ∈ tt, wq.before ([.ref mo, .int a] : List Value).toArray s = true := hb0.hts
  have hown : s.vm.findClass "ScholarsPressModel" = some m.cls := findClass_of_methodNamed B.named
  have hlocks := B.notSynchronized
  subst hsz
  have hD := hD0.self (sz := s.heap.size)
  generalize hAe : va_A [(mo, .inr (6, [.int th, .int ((-1)), .ref (mr 0), .int 0, .ref (mr 1), .ref (mr 2), .ref (mr 3), .ref (mr 4), .ref (mr 5), .ref (mr 6), .ref so, .ref (mr 7), .ref (mr 8), .ref (mr 9), .int 0, .ref (mr 10), .ref (mr 11), .int 0, .ref (mr 12), .int 0, .ref (mr 13), .int 0, .ref (mr 14)])), (so, .inr (11, [.ref (sr 0), .int 0, .int 0, .int 0, .int 0, .int 0, .ref (sr 1), .ref (sr 2), .ref (sr 3), .ref (sr 4), .ref (sr 5), .ref (sr 6), .ref (sr 7), .ref (sr 8), .ref (sr 9), .ref (sr 10), .ref (sr 11), .ref (sr 12), .ref (sr 13), .ref (sr 14), .ref (sr 15), .ref (sr 16), .ref (sr 17), .ref (sr 18), .ref (sr 19), .int 0, .int 0, .int 0]))] s.heap.size = A at hD ⊢
  have hA : ∀ q : Nat, s.heap.size ≤ q → A q := fun q h => by rw [← hAe]; exact Or.inr h
  have hS : va_S A s.heap s.heap [] := va_S.rf
  have hP : va_P (dC, dI) classes [(mo, .inr (6, [.int th, .int ((-1)), .ref (mr 0), .int 0, .ref (mr 1), .ref (mr 2), .ref (mr 3), .ref (mr 4), .ref (mr 5), .ref (mr 6), .ref so, .ref (mr 7), .ref (mr 8), .ref (mr 9), .int 0, .ref (mr 10), .ref (mr 11), .int 0, .ref (mr 12), .int 0, .ref (mr 13), .int 0, .ref (mr 14)])), (so, .inr (11, [.ref (sr 0), .int 0, .int 0, .int 0, .int 0, .int 0, .ref (sr 1), .ref (sr 2), .ref (sr 3), .ref (sr 4), .ref (sr 5), .ref (sr 6), .ref (sr 7), .ref (sr 8), .ref (sr 9), .ref (sr 10), .ref (sr 11), .ref (sr 12), .ref (sr 13), .ref (sr 14), .ref (sr 15), .ref (sr 16), .ref (sr 17), .ref (sr 18), .ref (sr 19), .int 0, .int 0, .int 0]))] s.heap := hP
  have hl := lv_entry ([.ref mo, .int a]) (n := 5) (Nat.le_of_ble_eq_true rfl)
  rw [lg_entry_eq]
  generalize (lg_sl ([.ref mo, .int a]) ++ List.replicate (5 - (lg_sl ([.ref mo, .int a])).length) Slot.unset).toArray = ls at hl ⊢
  have hl : lv_has ls 5 [(0, .ref mo), (1, .int a)] := hl
  refine lv_aload_n hx hb d_SM_print_0 rfl (lv_at hl 0 rfl) ?_
  refine va_get (D := (dC, dI)) (ci := 6) (v := .int 0) (C := "ScholarsPressModel") (T := F_SM) (N := 23) hx hb hts in_SM hown hK hP 0 rfl rfl 17 (by decide) (hts (.fieldLink "ScholarsPressModel" 174 "ScholarsPressModel" "isSet" "Z") k_3697) (fun _ h9 => h9) rfl d_SM_print_1 ?_
  refine lv_if_ne (tgt := 13) hx hb d_SM_print_4 (by decide) (fun c_1 => ?_) (fun c_1 => ?_)
  · exact absurd c_1 (by decide)
  · refine lv_aload_n hx hb d_SM_print_7 rfl (lv_at hl 0 rfl) ?_
    refine lv_iconst (v := 1) hx hb d_SM_print_8 (by decide) ?_
    refine vi_i (wc := [(mo, .inr (6, [.int th, .int ((-1)), .ref (mr 0), .int 0, .ref (mr 1), .ref (mr 2), .ref (mr 3), .ref (mr 4), .ref (mr 5), .ref (mr 6), .ref so, .ref (mr 7), .ref (mr 8), .ref (mr 9), .int 0, .ref (mr 10), .ref (mr 11), .int 0, .ref (mr 12), .int 0, .ref (mr 13), .int 0, .ref (mr 14)]))]) (wr := [(so, .inr (11, [.ref (sr 0), .int 0, .int 0, .int 0, .int 0, .int 0, .ref (sr 1), .ref (sr 2), .ref (sr 3), .ref (sr 4), .ref (sr 5), .ref (sr 6), .ref (sr 7), .ref (sr 8), .ref (sr 9), .ref (sr 10), .ref (sr 11), .ref (sr 12), .ref (sr 13), .ref (sr 14), .ref (sr 15), .ref (sr 16), .ref (sr 17), .ref (sr 18), .ref (sr 19), .int 0, .int 0, .int 0]))]) (va_runV (As := [.int 1]) (rest := []) ⟨hx, hb, hml, hown, hts⟩ (c_SM_refuse l dC dI mo so mr sr th 1 s.heap.size) (cwV 1 hts (tt_V k_3758 k_3760 k_122 k_247 kw_SM_refuse) rfl rfl rfl (by decide +kernel) ⟨Nat.le_of_ble_eq_true rfl, Nat.le_of_ble_eq_true rfl⟩) ⟨pr_blind, va_recv hK hP (ci := 6) (q0 := 0) rfl rfl, pr_pre hb0 (hP.sub [0] rfl) (hK.sub [] rfl) (hD.sub [0] (by decide) rfl)⟩ rfl rfl hl.1 rfl (lv_room (Nat.le_of_ble_eq_true rfl)) d_SM_print_9 ⟨Nat.le_of_ble_eq_true rfl, Nat.le_of_ble_eq_true rfl⟩) hP hD hK hS hA [0] [1] rfl rfl (by decide) (by decide) (fun r u H locs hw hP hK hD hS => ?_)
    obtain ⟨rfl, rfl⟩ := hw
    have hP : va_P (dC, dI) classes [(so, .inr (11, [.ref (sr 0), .int 0, .int 0, .int 0, .int 0, .int 0, .ref (sr 1), .ref (sr 2), .ref (sr 3), .ref (sr 4), .ref (sr 5), .ref (sr 6), .ref (sr 7), .ref (sr 8), .ref (sr 9), .ref (sr 10), .ref (sr 11), .ref (sr 12), .ref (sr 13), .ref (sr 14), .ref (sr 15), .ref (sr 16), .ref (sr 17), .ref (sr 18), .ref (sr 19), .int 0, .int 0, .int 0])), (mo, .inr (6, [.int 1, .int ((-1)), .ref (mr 0), .int 0, .ref (mr 1), .ref (mr 2), .ref (mr 3), .ref (mr 4), .ref (mr 5), .ref (mr 6), .ref so, .ref (mr 7), .ref (mr 8), .ref (mr 9), .int 0, .ref (mr 10), .ref (mr 11), .int 0, .ref (mr 12), .int 0, .ref (mr 13), .int 0, .ref (mr 14)]))] H := hP
    have hD : va_D A [(so, .inr (11, [.ref (sr 0), .int 0, .int 0, .int 0, .int 0, .int 0, .ref (sr 1), .ref (sr 2), .ref (sr 3), .ref (sr 4), .ref (sr 5), .ref (sr 6), .ref (sr 7), .ref (sr 8), .ref (sr 9), .ref (sr 10), .ref (sr 11), .ref (sr 12), .ref (sr 13), .ref (sr 14), .ref (sr 15), .ref (sr 16), .ref (sr 17), .ref (sr 18), .ref (sr 19), .int 0, .int 0, .int 0])), (mo, .inr (6, [.int 1, .int ((-1)), .ref (mr 0), .int 0, .ref (mr 1), .ref (mr 2), .ref (mr 3), .ref (mr 4), .ref (mr 5), .ref (mr 6), .ref so, .ref (mr 7), .ref (mr 8), .ref (mr 9), .int 0, .ref (mr 10), .ref (mr 11), .int 0, .ref (mr 12), .int 0, .ref (mr 13), .int 0, .ref (mr 14)]))] := hD
    have hK : va_K (dC, dI) classes [] s := hK
    have hP9 := hP.sub (ws' := [(mo, .inr (6, [.int 1, .int ((-1)), .ref (mr 0), .int 0, .ref (mr 1), .ref (mr 2), .ref (mr 3), .ref (mr 4), .ref (mr 5), .ref (mr 6), .ref so, .ref (mr 7), .ref (mr 8), .ref (mr 9), .int 0, .ref (mr 10), .ref (mr 11), .int 0, .ref (mr 12), .int 0, .ref (mr 13), .int 0, .ref (mr 14)]))]) [1] rfl
    have hD9 := hD.sub (ws' := [(mo, .inr (6, [.int 1, .int ((-1)), .ref (mr 0), .int 0, .ref (mr 1), .ref (mr 2), .ref (mr 3), .ref (mr 4), .ref (mr 5), .ref (mr 6), .ref so, .ref (mr 7), .ref (mr 8), .ref (mr 9), .int 0, .ref (mr 10), .ref (mr 11), .int 0, .ref (mr 12), .int 0, .ref (mr 13), .int 0, .ref (mr 14)]))]) [1] (by decide) rfl
    have hK9 := hK.sub (tys' := []) [] rfl
    exact W.iret (v := 0) hx hb hr (fun t ht hW => ⟨⟨0, 1, rfl, ⟨rfl, trivial⟩, by rw [ht]; exact hP9, va_K.moved hW.alike hK9, hD9⟩, hS.F ht⟩) hS.2.2 d_SM_print_12
set_option maxHeartbeats 4000000 in
set_option maxRecDepth 100000 in
/-- spot: nothing is SET -/
theorem c_SM_spot (l : Launch) (dC : Nat → ClassId) (dI : Nat → Nat → Nat) (mo so : Nat) (mr sr : Nat → Nat) (th : Int32) (a w : Int32) (sz : Nat) : Met l y_SM_spot [w_SM_spot] ({ frames := 1, cells := 0, slots := 0, locals := 60 }) (va_Pc [.ref mo, .int a, .int w] (pr sz (dC, dI) [(mo, .inr (6, [.int th, .int ((-1)), .ref (mr 0), .int 0, .ref (mr 1), .ref (mr 2), .ref (mr 3), .ref (mr 4), .ref (mr 5), .ref (mr 6), .ref so, .ref (mr 7), .ref (mr 8), .ref (mr 9), .int 0, .ref (mr 10), .ref (mr 11), .int 0, .ref (mr 12), .int 0, .ref (mr 13), .int 0, .ref (mr 14)])), (so, .inr (11, [.ref (sr 0), .int 0, .int 0, .int 0, .int 0, .int 0, .ref (sr 1), .ref (sr 2), .ref (sr 3), .ref (sr 4), .ref (sr 5), .ref (sr 6), .ref (sr 7), .ref (sr 8), .ref (sr 9), .ref (sr 10), .ref (sr 11), .ref (sr 12), .ref (sr 13), .ref (sr 14), .ref (sr 15), .ref (sr 16), .ref (sr 17), .ref (sr 18), .ref (sr 19), .int 0, .int 0, .int 0]))] [])) (va_Ql (fun (r : Int64) (u : Int32) => u = 1 ∧ True) (bw (dC, dI) (va_A [(mo, .inr (6, [.int th, .int ((-1)), .ref (mr 0), .int 0, .ref (mr 1), .ref (mr 2), .ref (mr 3), .ref (mr 4), .ref (mr 5), .ref (mr 6), .ref so, .ref (mr 7), .ref (mr 8), .ref (mr 9), .int 0, .ref (mr 10), .ref (mr 11), .int 0, .ref (mr 12), .int 0, .ref (mr 13), .int 0, .ref (mr 14)])), (so, .inr (11, [.ref (sr 0), .int 0, .int 0, .int 0, .int 0, .int 0, .ref (sr 1), .ref (sr 2), .ref (sr 3), .ref (sr 4), .ref (sr 5), .ref (sr 6), .ref (sr 7), .ref (sr 8), .ref (sr 9), .ref (sr 10), .ref (sr 11), .ref (sr 12), .ref (sr 13), .ref (sr 14), .ref (sr 15), .ref (sr 16), .ref (sr 17), .ref (sr 18), .ref (sr 19), .int 0, .int 0, .int 0]))] sz) (fun u : Int32 => [(mo, .inr (6, [.int u, .int ((-1)), .ref (mr 0), .int 0, .ref (mr 1), .ref (mr 2), .ref (mr 3), .ref (mr 4), .ref (mr 5), .ref (mr 6), .ref so, .ref (mr 7), .ref (mr 8), .ref (mr 9), .int 0, .ref (mr 10), .ref (mr 11), .int 0, .ref (mr 12), .int 0, .ref (mr 13), .int 0, .ref (mr 14)]))]) (fun u : Int32 => [])) (va_A [(mo, .inr (6, [.int th, .int ((-1)), .ref (mr 0), .int 0, .ref (mr 1), .ref (mr 2), .ref (mr 3), .ref (mr 4), .ref (mr 5), .ref (mr 6), .ref so, .ref (mr 7), .ref (mr 8), .ref (mr 9), .int 0, .ref (mr 10), .ref (mr 11), .int 0, .ref (mr 12), .int 0, .ref (mr 13), .int 0, .ref (mr 14)])), (so, .inr (11, [.ref (sr 0), .int 0, .int 0, .int 0, .int 0, .int 0, .ref (sr 1), .ref (sr 2), .ref (sr 3), .ref (sr 4), .ref (sr 5), .ref (sr 6), .ref (sr 7), .ref (sr 8), .ref (sr 9), .ref (sr 10), .ref (sr 11), .ref (sr 12), .ref (sr 13), .ref (sr 14), .ref (sr 15), .ref (sr 16), .ref (sr 17), .ref (sr 18), .ref (sr 19), .int 0, .int 0, .int 0]))] sz)) 0 0 (va_A [(mo, .inr (6, [.int th, .int ((-1)), .ref (mr 0), .int 0, .ref (mr 1), .ref (mr 2), .ref (mr 3), .ref (mr 4), .ref (mr 5), .ref (mr 6), .ref so, .ref (mr 7), .ref (mr 8), .ref (mr 9), .int 0, .ref (mr 10), .ref (mr 11), .int 0, .ref (mr 12), .int 0, .ref (mr 13), .int 0, .ref (mr 14)])), (so, .inr (11, [.ref (sr 0), .int 0, .int 0, .int 0, .int 0, .int 0, .ref (sr 1), .ref (sr 2), .ref (sr 3), .ref (sr 4), .ref (sr 5), .ref (sr 6), .ref (sr 7), .ref (sr 8), .ref (sr 9), .ref (sr 10), .ref (sr 11), .ref (sr 12), .ref (sr 13), .ref (sr 14), .ref (sr 15), .ref (sr 16), .ref (sr 17), .ref (sr 18), .ref (sr 19), .int 0, .int 0, .int 0]))] sz) := by
  refine Met.ofW (cc := b_SM_spot) (maxL := 5) (ret := (some .long)) (by decide) rfl ?_
  intro p e s m args below meth c s₁ B hml hv
  obtain ⟨rfl, hsz, hb0, hP, hK, hD0⟩ := hv
  have hx := B.exec
  have hb := B.bytes
  have hr := B.returns
  have hts : ∀ wq ∈ tt, wq.before ([.ref mo, .int a, .int w] : List Value).toArray s = true := hb0.hts
  have hown : s.vm.findClass "ScholarsPressModel" = some m.cls := findClass_of_methodNamed B.named
  have hlocks := B.notSynchronized
  subst hsz
  have hD := hD0.self (sz := s.heap.size)
  generalize hAe : va_A [(mo, .inr (6, [.int th, .int ((-1)), .ref (mr 0), .int 0, .ref (mr 1), .ref (mr 2), .ref (mr 3), .ref (mr 4), .ref (mr 5), .ref (mr 6), .ref so, .ref (mr 7), .ref (mr 8), .ref (mr 9), .int 0, .ref (mr 10), .ref (mr 11), .int 0, .ref (mr 12), .int 0, .ref (mr 13), .int 0, .ref (mr 14)])), (so, .inr (11, [.ref (sr 0), .int 0, .int 0, .int 0, .int 0, .int 0, .ref (sr 1), .ref (sr 2), .ref (sr 3), .ref (sr 4), .ref (sr 5), .ref (sr 6), .ref (sr 7), .ref (sr 8), .ref (sr 9), .ref (sr 10), .ref (sr 11), .ref (sr 12), .ref (sr 13), .ref (sr 14), .ref (sr 15), .ref (sr 16), .ref (sr 17), .ref (sr 18), .ref (sr 19), .int 0, .int 0, .int 0]))] s.heap.size = A at hD ⊢
  have hA : ∀ q : Nat, s.heap.size ≤ q → A q := fun q h => by rw [← hAe]; exact Or.inr h
  have hS : va_S A s.heap s.heap [] := va_S.rf
  have hP : va_P (dC, dI) classes [(mo, .inr (6, [.int th, .int ((-1)), .ref (mr 0), .int 0, .ref (mr 1), .ref (mr 2), .ref (mr 3), .ref (mr 4), .ref (mr 5), .ref (mr 6), .ref so, .ref (mr 7), .ref (mr 8), .ref (mr 9), .int 0, .ref (mr 10), .ref (mr 11), .int 0, .ref (mr 12), .int 0, .ref (mr 13), .int 0, .ref (mr 14)])), (so, .inr (11, [.ref (sr 0), .int 0, .int 0, .int 0, .int 0, .int 0, .ref (sr 1), .ref (sr 2), .ref (sr 3), .ref (sr 4), .ref (sr 5), .ref (sr 6), .ref (sr 7), .ref (sr 8), .ref (sr 9), .ref (sr 10), .ref (sr 11), .ref (sr 12), .ref (sr 13), .ref (sr 14), .ref (sr 15), .ref (sr 16), .ref (sr 17), .ref (sr 18), .ref (sr 19), .int 0, .int 0, .int 0]))] s.heap := hP
  have hl := lv_entry ([.ref mo, .int a, .int w]) (n := 5) (Nat.le_of_ble_eq_true rfl)
  rw [lg_entry_eq]
  generalize (lg_sl ([.ref mo, .int a, .int w]) ++ List.replicate (5 - (lg_sl ([.ref mo, .int a, .int w])).length) Slot.unset).toArray = ls at hl ⊢
  have hl : lv_has ls 5 [(0, .ref mo), (1, .int a), (2, .int w)] := hl
  refine lv_aload_n hx hb d_SM_spot_0 rfl (lv_at hl 0 rfl) ?_
  refine va_get (D := (dC, dI)) (ci := 6) (v := .int 0) (C := "ScholarsPressModel") (T := F_SM) (N := 23) hx hb hts in_SM hown hK hP 0 rfl rfl 17 (by decide) (hts (.fieldLink "ScholarsPressModel" 174 "ScholarsPressModel" "isSet" "Z") k_3697) (fun _ h9 => h9) rfl d_SM_spot_1 ?_
  refine lv_if_ne (tgt := 14) hx hb d_SM_spot_4 (by decide) (fun c_1 => ?_) (fun c_1 => ?_)
  · exact absurd c_1 (by decide)
  · refine lv_aload_n hx hb d_SM_spot_7 rfl (lv_at hl 0 rfl) ?_
    refine lv_iconst (v := 1) hx hb d_SM_spot_8 (by decide) ?_
    refine vi_i (wc := [(mo, .inr (6, [.int th, .int ((-1)), .ref (mr 0), .int 0, .ref (mr 1), .ref (mr 2), .ref (mr 3), .ref (mr 4), .ref (mr 5), .ref (mr 6), .ref so, .ref (mr 7), .ref (mr 8), .ref (mr 9), .int 0, .ref (mr 10), .ref (mr 11), .int 0, .ref (mr 12), .int 0, .ref (mr 13), .int 0, .ref (mr 14)]))]) (wr := [(so, .inr (11, [.ref (sr 0), .int 0, .int 0, .int 0, .int 0, .int 0, .ref (sr 1), .ref (sr 2), .ref (sr 3), .ref (sr 4), .ref (sr 5), .ref (sr 6), .ref (sr 7), .ref (sr 8), .ref (sr 9), .ref (sr 10), .ref (sr 11), .ref (sr 12), .ref (sr 13), .ref (sr 14), .ref (sr 15), .ref (sr 16), .ref (sr 17), .ref (sr 18), .ref (sr 19), .int 0, .int 0, .int 0]))]) (va_runV (As := [.int 1]) (rest := []) ⟨hx, hb, hml, hown, hts⟩ (c_SM_refuse l dC dI mo so mr sr th 1 s.heap.size) (cwV 1 hts (tt_V k_3758 k_3760 k_122 k_247 kw_SM_refuse) rfl rfl rfl (by decide +kernel) ⟨Nat.le_of_ble_eq_true rfl, Nat.le_of_ble_eq_true rfl⟩) ⟨pr_blind, va_recv hK hP (ci := 6) (q0 := 0) rfl rfl, pr_pre hb0 (hP.sub [0] rfl) (hK.sub [] rfl) (hD.sub [0] (by decide) rfl)⟩ rfl rfl hl.1 rfl (lv_room (Nat.le_of_ble_eq_true rfl)) d_SM_spot_9 ⟨Nat.le_of_ble_eq_true rfl, Nat.le_of_ble_eq_true rfl⟩) hP hD hK hS hA [0] [1] rfl rfl (by decide) (by decide) (fun r u H locs hw hP hK hD hS => ?_)
    obtain ⟨rfl, rfl⟩ := hw
    have hP : va_P (dC, dI) classes [(so, .inr (11, [.ref (sr 0), .int 0, .int 0, .int 0, .int 0, .int 0, .ref (sr 1), .ref (sr 2), .ref (sr 3), .ref (sr 4), .ref (sr 5), .ref (sr 6), .ref (sr 7), .ref (sr 8), .ref (sr 9), .ref (sr 10), .ref (sr 11), .ref (sr 12), .ref (sr 13), .ref (sr 14), .ref (sr 15), .ref (sr 16), .ref (sr 17), .ref (sr 18), .ref (sr 19), .int 0, .int 0, .int 0])), (mo, .inr (6, [.int 1, .int ((-1)), .ref (mr 0), .int 0, .ref (mr 1), .ref (mr 2), .ref (mr 3), .ref (mr 4), .ref (mr 5), .ref (mr 6), .ref so, .ref (mr 7), .ref (mr 8), .ref (mr 9), .int 0, .ref (mr 10), .ref (mr 11), .int 0, .ref (mr 12), .int 0, .ref (mr 13), .int 0, .ref (mr 14)]))] H := hP
    have hD : va_D A [(so, .inr (11, [.ref (sr 0), .int 0, .int 0, .int 0, .int 0, .int 0, .ref (sr 1), .ref (sr 2), .ref (sr 3), .ref (sr 4), .ref (sr 5), .ref (sr 6), .ref (sr 7), .ref (sr 8), .ref (sr 9), .ref (sr 10), .ref (sr 11), .ref (sr 12), .ref (sr 13), .ref (sr 14), .ref (sr 15), .ref (sr 16), .ref (sr 17), .ref (sr 18), .ref (sr 19), .int 0, .int 0, .int 0])), (mo, .inr (6, [.int 1, .int ((-1)), .ref (mr 0), .int 0, .ref (mr 1), .ref (mr 2), .ref (mr 3), .ref (mr 4), .ref (mr 5), .ref (mr 6), .ref so, .ref (mr 7), .ref (mr 8), .ref (mr 9), .int 0, .ref (mr 10), .ref (mr 11), .int 0, .ref (mr 12), .int 0, .ref (mr 13), .int 0, .ref (mr 14)]))] := hD
    have hK : va_K (dC, dI) classes [] s := hK
    refine lv_i2l hx hb d_SM_spot_12 rfl ?_
    have hP9 := hP.sub (ws' := [(mo, .inr (6, [.int 1, .int ((-1)), .ref (mr 0), .int 0, .ref (mr 1), .ref (mr 2), .ref (mr 3), .ref (mr 4), .ref (mr 5), .ref (mr 6), .ref so, .ref (mr 7), .ref (mr 8), .ref (mr 9), .int 0, .ref (mr 10), .ref (mr 11), .int 0, .ref (mr 12), .int 0, .ref (mr 13), .int 0, .ref (mr 14)]))]) [1] rfl
    have hD9 := hD.sub (ws' := [(mo, .inr (6, [.int 1, .int ((-1)), .ref (mr 0), .int 0, .ref (mr 1), .ref (mr 2), .ref (mr 3), .ref (mr 4), .ref (mr 5), .ref (mr 6), .ref so, .ref (mr 7), .ref (mr 8), .ref (mr 9), .int 0, .ref (mr 10), .ref (mr 11), .int 0, .ref (mr 12), .int 0, .ref (mr 13), .int 0, .ref (mr 14)]))]) [1] (by decide) rfl
    have hK9 := hK.sub (tys' := []) [] rfl
    exact W.lret (v := (0 : Int32).toInt64) hx hb hr (fun t ht hW => ⟨⟨(0 : Int32).toInt64, 1, rfl, ⟨rfl, trivial⟩, by rw [ht]; exact hP9, va_K.moved hW.alike hK9, hD9⟩, hS.F ht⟩) hS.2.2 d_SM_spot_13
set_option maxHeartbeats 4000000 in
set_option maxRecDepth 100000 in
/-- paragraph: nothing is SET -/
theorem c_SM_paragraph (l : Launch) (dC : Nat → ClassId) (dI : Nat → Nat → Nat) (mo so : Nat) (mr sr : Nat → Nat) (th : Int32) (a w : Int32) (sz : Nat) : Met l y_SM_paragraph [w_SM_paragraph] ({ frames := 1, cells := 0, slots := 0, locals := 60 }) (va_Pc [.ref mo, .int a, .int w] (pr sz (dC, dI) [(mo, .inr (6, [.int th, .int ((-1)), .ref (mr 0), .int 0, .ref (mr 1), .ref (mr 2), .ref (mr 3), .ref (mr 4), .ref (mr 5), .ref (mr 6), .ref so, .ref (mr 7), .ref (mr 8), .ref (mr 9), .int 0, .ref (mr 10), .ref (mr 11), .int 0, .ref (mr 12), .int 0, .ref (mr 13), .int 0, .ref (mr 14)])), (so, .inr (11, [.ref (sr 0), .int 0, .int 0, .int 0, .int 0, .int 0, .ref (sr 1), .ref (sr 2), .ref (sr 3), .ref (sr 4), .ref (sr 5), .ref (sr 6), .ref (sr 7), .ref (sr 8), .ref (sr 9), .ref (sr 10), .ref (sr 11), .ref (sr 12), .ref (sr 13), .ref (sr 14), .ref (sr 15), .ref (sr 16), .ref (sr 17), .ref (sr 18), .ref (sr 19), .int 0, .int 0, .int 0]))] [])) (va_Ql (fun (r : Int64) (u : Int32) => (u = 1 ∧ ¬ (0 ≤ w.toInt ∧ w.toInt ≤ 6)) ∨ (u = 2 ∧ (0 ≤ w.toInt ∧ w.toInt ≤ 6))) (bw (dC, dI) (va_A [(mo, .inr (6, [.int th, .int ((-1)), .ref (mr 0), .int 0, .ref (mr 1), .ref (mr 2), .ref (mr 3), .ref (mr 4), .ref (mr 5), .ref (mr 6), .ref so, .ref (mr 7), .ref (mr 8), .ref (mr 9), .int 0, .ref (mr 10), .ref (mr 11), .int 0, .ref (mr 12), .int 0, .ref (mr 13), .int 0, .ref (mr 14)])), (so, .inr (11, [.ref (sr 0), .int 0, .int 0, .int 0, .int 0, .int 0, .ref (sr 1), .ref (sr 2), .ref (sr 3), .ref (sr 4), .ref (sr 5), .ref (sr 6), .ref (sr 7), .ref (sr 8), .ref (sr 9), .ref (sr 10), .ref (sr 11), .ref (sr 12), .ref (sr 13), .ref (sr 14), .ref (sr 15), .ref (sr 16), .ref (sr 17), .ref (sr 18), .ref (sr 19), .int 0, .int 0, .int 0]))] sz) (fun u : Int32 => [(mo, .inr (6, [.int u, .int ((-1)), .ref (mr 0), .int 0, .ref (mr 1), .ref (mr 2), .ref (mr 3), .ref (mr 4), .ref (mr 5), .ref (mr 6), .ref so, .ref (mr 7), .ref (mr 8), .ref (mr 9), .int 0, .ref (mr 10), .ref (mr 11), .int 0, .ref (mr 12), .int 0, .ref (mr 13), .int 0, .ref (mr 14)]))]) (fun u : Int32 => [])) (va_A [(mo, .inr (6, [.int th, .int ((-1)), .ref (mr 0), .int 0, .ref (mr 1), .ref (mr 2), .ref (mr 3), .ref (mr 4), .ref (mr 5), .ref (mr 6), .ref so, .ref (mr 7), .ref (mr 8), .ref (mr 9), .int 0, .ref (mr 10), .ref (mr 11), .int 0, .ref (mr 12), .int 0, .ref (mr 13), .int 0, .ref (mr 14)])), (so, .inr (11, [.ref (sr 0), .int 0, .int 0, .int 0, .int 0, .int 0, .ref (sr 1), .ref (sr 2), .ref (sr 3), .ref (sr 4), .ref (sr 5), .ref (sr 6), .ref (sr 7), .ref (sr 8), .ref (sr 9), .ref (sr 10), .ref (sr 11), .ref (sr 12), .ref (sr 13), .ref (sr 14), .ref (sr 15), .ref (sr 16), .ref (sr 17), .ref (sr 18), .ref (sr 19), .int 0, .int 0, .int 0]))] sz)) 0 0 (va_A [(mo, .inr (6, [.int th, .int ((-1)), .ref (mr 0), .int 0, .ref (mr 1), .ref (mr 2), .ref (mr 3), .ref (mr 4), .ref (mr 5), .ref (mr 6), .ref so, .ref (mr 7), .ref (mr 8), .ref (mr 9), .int 0, .ref (mr 10), .ref (mr 11), .int 0, .ref (mr 12), .int 0, .ref (mr 13), .int 0, .ref (mr 14)])), (so, .inr (11, [.ref (sr 0), .int 0, .int 0, .int 0, .int 0, .int 0, .ref (sr 1), .ref (sr 2), .ref (sr 3), .ref (sr 4), .ref (sr 5), .ref (sr 6), .ref (sr 7), .ref (sr 8), .ref (sr 9), .ref (sr 10), .ref (sr 11), .ref (sr 12), .ref (sr 13), .ref (sr 14), .ref (sr 15), .ref (sr 16), .ref (sr 17), .ref (sr 18), .ref (sr 19), .int 0, .int 0, .int 0]))] sz) := by
  refine Met.ofW (cc := b_SM_paragraph) (maxL := 3) (ret := (some .long)) (by decide) rfl ?_
  intro p e s m args below meth c s₁ B hml hv
  obtain ⟨rfl, hsz, hb0, hP, hK, hD0⟩ := hv
  have hx := B.exec
  have hb := B.bytes
  have hr := B.returns
  have hts : ∀ wq ∈ tt, wq.before ([.ref mo, .int a, .int w] : List Value).toArray s = true := hb0.hts
  have hown : s.vm.findClass "ScholarsPressModel" = some m.cls := findClass_of_methodNamed B.named
  have hlocks := B.notSynchronized
  subst hsz
  have hD := hD0.self (sz := s.heap.size)
  generalize hAe : va_A [(mo, .inr (6, [.int th, .int ((-1)), .ref (mr 0), .int 0, .ref (mr 1), .ref (mr 2), .ref (mr 3), .ref (mr 4), .ref (mr 5), .ref (mr 6), .ref so, .ref (mr 7), .ref (mr 8), .ref (mr 9), .int 0, .ref (mr 10), .ref (mr 11), .int 0, .ref (mr 12), .int 0, .ref (mr 13), .int 0, .ref (mr 14)])), (so, .inr (11, [.ref (sr 0), .int 0, .int 0, .int 0, .int 0, .int 0, .ref (sr 1), .ref (sr 2), .ref (sr 3), .ref (sr 4), .ref (sr 5), .ref (sr 6), .ref (sr 7), .ref (sr 8), .ref (sr 9), .ref (sr 10), .ref (sr 11), .ref (sr 12), .ref (sr 13), .ref (sr 14), .ref (sr 15), .ref (sr 16), .ref (sr 17), .ref (sr 18), .ref (sr 19), .int 0, .int 0, .int 0]))] s.heap.size = A at hD ⊢
  have hA : ∀ q : Nat, s.heap.size ≤ q → A q := fun q h => by rw [← hAe]; exact Or.inr h
  have hS : va_S A s.heap s.heap [] := va_S.rf
  have hP : va_P (dC, dI) classes [(mo, .inr (6, [.int th, .int ((-1)), .ref (mr 0), .int 0, .ref (mr 1), .ref (mr 2), .ref (mr 3), .ref (mr 4), .ref (mr 5), .ref (mr 6), .ref so, .ref (mr 7), .ref (mr 8), .ref (mr 9), .int 0, .ref (mr 10), .ref (mr 11), .int 0, .ref (mr 12), .int 0, .ref (mr 13), .int 0, .ref (mr 14)])), (so, .inr (11, [.ref (sr 0), .int 0, .int 0, .int 0, .int 0, .int 0, .ref (sr 1), .ref (sr 2), .ref (sr 3), .ref (sr 4), .ref (sr 5), .ref (sr 6), .ref (sr 7), .ref (sr 8), .ref (sr 9), .ref (sr 10), .ref (sr 11), .ref (sr 12), .ref (sr 13), .ref (sr 14), .ref (sr 15), .ref (sr 16), .ref (sr 17), .ref (sr 18), .ref (sr 19), .int 0, .int 0, .int 0]))] s.heap := hP
  have hl := lv_entry ([.ref mo, .int a, .int w]) (n := 3) (Nat.le_of_ble_eq_true rfl)
  rw [lg_entry_eq]
  generalize (lg_sl ([.ref mo, .int a, .int w]) ++ List.replicate (3 - (lg_sl ([.ref mo, .int a, .int w])).length) Slot.unset).toArray = ls at hl ⊢
  have hl : lv_has ls 3 [(0, .ref mo), (1, .int a), (2, .int w)] := hl
  refine lv_iload_n hx hb d_SM_paragraph_0 rfl (lv_at hl 2 rfl) ?_
  refine lv_iconst (v := 0) hx hb d_SM_paragraph_1 (by decide) ?_
  refine lv_bipush (v := 6) hx hb d_SM_paragraph_2 (by decide) ?_
  refine vi_i (wc := []) (wr := [(mo, .inr (6, [.int th, .int ((-1)), .ref (mr 0), .int 0, .ref (mr 1), .ref (mr 2), .ref (mr 3), .ref (mr 4), .ref (mr 5), .ref (mr 6), .ref so, .ref (mr 7), .ref (mr 8), .ref (mr 9), .int 0, .ref (mr 10), .ref (mr 11), .int 0, .ref (mr 12), .int 0, .ref (mr 13), .int 0, .ref (mr 14)])), (so, .inr (11, [.ref (sr 0), .int 0, .int 0, .int 0, .int 0, .int 0, .ref (sr 1), .ref (sr 2), .ref (sr 3), .ref (sr 4), .ref (sr 5), .ref (sr 6), .ref (sr 7), .ref (sr 8), .ref (sr 9), .ref (sr 10), .ref (sr 11), .ref (sr 12), .ref (sr 13), .ref (sr 14), .ref (sr 15), .ref (sr 16), .ref (sr 17), .ref (sr 18), .ref (sr 19), .int 0, .int 0, .int 0]))]) (va_runS (As := [.int w, .int 0, .int 6]) (rest := []) ⟨hx, hb, hml, hown, hts⟩ (c_SM_in l dC dI w 0 6 s.heap.size) (va_cwS 3 hts (tt_S2 k_4102 k_4103 k_247 kw_SM_in) rfl rfl rfl (by decide +kernel) ⟨Nat.le_of_ble_eq_true rfl, Nat.le_of_ble_eq_true rfl⟩) ⟨pr_blind, pr_pre hb0 (hP.sub [] rfl) (hK.sub [] rfl) (hD.sub [] (by decide) rfl)⟩ rfl rfl hl.1 rfl (lv_room (Nat.le_of_ble_eq_true rfl)) d_SM_paragraph_4 ⟨Nat.le_of_ble_eq_true rfl, Nat.le_of_ble_eq_true rfl⟩) hP hD hK hS hA [] [0, 1] rfl rfl (by decide) (by decide) (fun r u H locs hw hP hK hD hS => ?_)
  subst hw
  have hP : va_P (dC, dI) classes [(mo, .inr (6, [.int th, .int ((-1)), .ref (mr 0), .int 0, .ref (mr 1), .ref (mr 2), .ref (mr 3), .ref (mr 4), .ref (mr 5), .ref (mr 6), .ref so, .ref (mr 7), .ref (mr 8), .ref (mr 9), .int 0, .ref (mr 10), .ref (mr 11), .int 0, .ref (mr 12), .int 0, .ref (mr 13), .int 0, .ref (mr 14)])), (so, .inr (11, [.ref (sr 0), .int 0, .int 0, .int 0, .int 0, .int 0, .ref (sr 1), .ref (sr 2), .ref (sr 3), .ref (sr 4), .ref (sr 5), .ref (sr 6), .ref (sr 7), .ref (sr 8), .ref (sr 9), .ref (sr 10), .ref (sr 11), .ref (sr 12), .ref (sr 13), .ref (sr 14), .ref (sr 15), .ref (sr 16), .ref (sr 17), .ref (sr 18), .ref (sr 19), .int 0, .int 0, .int 0]))] H := hP
  have hD : va_D A [(mo, .inr (6, [.int th, .int ((-1)), .ref (mr 0), .int 0, .ref (mr 1), .ref (mr 2), .ref (mr 3), .ref (mr 4), .ref (mr 5), .ref (mr 6), .ref so, .ref (mr 7), .ref (mr 8), .ref (mr 9), .int 0, .ref (mr 10), .ref (mr 11), .int 0, .ref (mr 12), .int 0, .ref (mr 13), .int 0, .ref (mr 14)])), (so, .inr (11, [.ref (sr 0), .int 0, .int 0, .int 0, .int 0, .int 0, .ref (sr 1), .ref (sr 2), .ref (sr 3), .ref (sr 4), .ref (sr 5), .ref (sr 6), .ref (sr 7), .ref (sr 8), .ref (sr 9), .ref (sr 10), .ref (sr 11), .ref (sr 12), .ref (sr 13), .ref (sr 14), .ref (sr 15), .ref (sr 16), .ref (sr 17), .ref (sr 18), .ref (sr 19), .int 0, .int 0, .int 0]))] := hD
  have hK : va_K (dC, dI) classes [] s := hK
  refine lv_if_ne (tgt := 17) hx hb d_SM_paragraph_7 (by decide) (fun c_1 => ?_) (fun c_1 => ?_)
  · refine lv_aload_n hx hb d_SM_paragraph_17 rfl (lv_at hl 0 rfl) ?_
    refine va_get (D := (dC, dI)) (ci := 6) (v := .int 0) (C := "ScholarsPressModel") (T := F_SM) (N := 23) hx hb hts in_SM hown hK hP 0 rfl rfl 17 (by decide) (hts (.fieldLink "ScholarsPressModel" 174 "ScholarsPressModel" "isSet" "Z") k_3697) (fun _ h9 => h9) rfl d_SM_paragraph_18 ?_
    refine lv_if_ne (tgt := 31) hx hb d_SM_paragraph_21 (by decide) (fun c_2 => ?_) (fun c_2 => ?_)
    · exact absurd c_2 (by decide)
    · refine lv_aload_n hx hb d_SM_paragraph_24 rfl (lv_at hl 0 rfl) ?_
      refine lv_iconst (v := 2) hx hb d_SM_paragraph_25 (by decide) ?_
      refine vi_i (wc := [(mo, .inr (6, [.int th, .int ((-1)), .ref (mr 0), .int 0, .ref (mr 1), .ref (mr 2), .ref (mr 3), .ref (mr 4), .ref (mr 5), .ref (mr 6), .ref so, .ref (mr 7), .ref (mr 8), .ref (mr 9), .int 0, .ref (mr 10), .ref (mr 11), .int 0, .ref (mr 12), .int 0, .ref (mr 13), .int 0, .ref (mr 14)]))]) (wr := [(so, .inr (11, [.ref (sr 0), .int 0, .int 0, .int 0, .int 0, .int 0, .ref (sr 1), .ref (sr 2), .ref (sr 3), .ref (sr 4), .ref (sr 5), .ref (sr 6), .ref (sr 7), .ref (sr 8), .ref (sr 9), .ref (sr 10), .ref (sr 11), .ref (sr 12), .ref (sr 13), .ref (sr 14), .ref (sr 15), .ref (sr 16), .ref (sr 17), .ref (sr 18), .ref (sr 19), .int 0, .int 0, .int 0]))]) (va_runV (As := [.int 2]) (rest := []) ⟨hx, hb, hml, hown, hts⟩ (c_SM_refuse l dC dI mo so mr sr th 2 H.size) (cwV 1 hts (tt_V k_3758 k_3760 k_122 k_247 kw_SM_refuse) rfl rfl rfl (by decide +kernel) ⟨Nat.le_of_ble_eq_true rfl, Nat.le_of_ble_eq_true rfl⟩) ⟨pr_blind, va_recv hK hP (ci := 6) (q0 := 0) rfl rfl, pr_pre hb0 (hP.sub [0] rfl) (hK.sub [] rfl) (hD.sub [0] (by decide) rfl)⟩ rfl rfl hl.1 rfl (lv_room (Nat.le_of_ble_eq_true rfl)) d_SM_paragraph_26 ⟨Nat.le_of_ble_eq_true rfl, Nat.le_of_ble_eq_true rfl⟩) hP hD hK hS hA [0] [1] rfl rfl (by decide) (by decide) (fun r u H locs hw hP hK hD hS => ?_)
      obtain ⟨rfl, rfl⟩ := hw
      have hP : va_P (dC, dI) classes [(so, .inr (11, [.ref (sr 0), .int 0, .int 0, .int 0, .int 0, .int 0, .ref (sr 1), .ref (sr 2), .ref (sr 3), .ref (sr 4), .ref (sr 5), .ref (sr 6), .ref (sr 7), .ref (sr 8), .ref (sr 9), .ref (sr 10), .ref (sr 11), .ref (sr 12), .ref (sr 13), .ref (sr 14), .ref (sr 15), .ref (sr 16), .ref (sr 17), .ref (sr 18), .ref (sr 19), .int 0, .int 0, .int 0])), (mo, .inr (6, [.int 2, .int ((-1)), .ref (mr 0), .int 0, .ref (mr 1), .ref (mr 2), .ref (mr 3), .ref (mr 4), .ref (mr 5), .ref (mr 6), .ref so, .ref (mr 7), .ref (mr 8), .ref (mr 9), .int 0, .ref (mr 10), .ref (mr 11), .int 0, .ref (mr 12), .int 0, .ref (mr 13), .int 0, .ref (mr 14)]))] H := hP
      have hD : va_D A [(so, .inr (11, [.ref (sr 0), .int 0, .int 0, .int 0, .int 0, .int 0, .ref (sr 1), .ref (sr 2), .ref (sr 3), .ref (sr 4), .ref (sr 5), .ref (sr 6), .ref (sr 7), .ref (sr 8), .ref (sr 9), .ref (sr 10), .ref (sr 11), .ref (sr 12), .ref (sr 13), .ref (sr 14), .ref (sr 15), .ref (sr 16), .ref (sr 17), .ref (sr 18), .ref (sr 19), .int 0, .int 0, .int 0])), (mo, .inr (6, [.int 2, .int ((-1)), .ref (mr 0), .int 0, .ref (mr 1), .ref (mr 2), .ref (mr 3), .ref (mr 4), .ref (mr 5), .ref (mr 6), .ref so, .ref (mr 7), .ref (mr 8), .ref (mr 9), .int 0, .ref (mr 10), .ref (mr 11), .int 0, .ref (mr 12), .int 0, .ref (mr 13), .int 0, .ref (mr 14)]))] := hD
      have hK : va_K (dC, dI) classes [] s := hK
      refine lv_i2l hx hb d_SM_paragraph_29 rfl ?_
      have hP9 := hP.sub (ws' := [(mo, .inr (6, [.int 2, .int ((-1)), .ref (mr 0), .int 0, .ref (mr 1), .ref (mr 2), .ref (mr 3), .ref (mr 4), .ref (mr 5), .ref (mr 6), .ref so, .ref (mr 7), .ref (mr 8), .ref (mr 9), .int 0, .ref (mr 10), .ref (mr 11), .int 0, .ref (mr 12), .int 0, .ref (mr 13), .int 0, .ref (mr 14)]))]) [1] rfl
      have hD9 := hD.sub (ws' := [(mo, .inr (6, [.int 2, .int ((-1)), .ref (mr 0), .int 0, .ref (mr 1), .ref (mr 2), .ref (mr 3), .ref (mr 4), .ref (mr 5), .ref (mr 6), .ref so, .ref (mr 7), .ref (mr 8), .ref (mr 9), .int 0, .ref (mr 10), .ref (mr 11), .int 0, .ref (mr 12), .int 0, .ref (mr 13), .int 0, .ref (mr 14)]))]) [1] (by decide) rfl
      have hK9 := hK.sub (tys' := []) [] rfl
      exact W.lret (v := (0 : Int32).toInt64) hx hb hr (fun t ht hW => ⟨⟨(0 : Int32).toInt64, 2, rfl, Or.inr (⟨rfl, by simp only [in_0, Int32.lt_iff_toInt_lt, Int32.le_iff_toInt_le, z_0, z_1, z_5, z_6, z_7, z_9, z_10, z_11, z_13, z_20, z_41] at c_1 ⊢; omega⟩), by rw [ht]; exact hP9, va_K.moved hW.alike hK9, hD9⟩, hS.F ht⟩) hS.2.2 d_SM_paragraph_30
  · refine lv_aload_n hx hb d_SM_paragraph_10 rfl (lv_at hl 0 rfl) ?_
    refine lv_iconst (v := 1) hx hb d_SM_paragraph_11 (by decide) ?_
    refine vi_i (wc := [(mo, .inr (6, [.int th, .int ((-1)), .ref (mr 0), .int 0, .ref (mr 1), .ref (mr 2), .ref (mr 3), .ref (mr 4), .ref (mr 5), .ref (mr 6), .ref so, .ref (mr 7), .ref (mr 8), .ref (mr 9), .int 0, .ref (mr 10), .ref (mr 11), .int 0, .ref (mr 12), .int 0, .ref (mr 13), .int 0, .ref (mr 14)]))]) (wr := [(so, .inr (11, [.ref (sr 0), .int 0, .int 0, .int 0, .int 0, .int 0, .ref (sr 1), .ref (sr 2), .ref (sr 3), .ref (sr 4), .ref (sr 5), .ref (sr 6), .ref (sr 7), .ref (sr 8), .ref (sr 9), .ref (sr 10), .ref (sr 11), .ref (sr 12), .ref (sr 13), .ref (sr 14), .ref (sr 15), .ref (sr 16), .ref (sr 17), .ref (sr 18), .ref (sr 19), .int 0, .int 0, .int 0]))]) (va_runV (As := [.int 1]) (rest := []) ⟨hx, hb, hml, hown, hts⟩ (c_SM_refuse l dC dI mo so mr sr th 1 H.size) (cwV 1 hts (tt_V k_3758 k_3760 k_122 k_247 kw_SM_refuse) rfl rfl rfl (by decide +kernel) ⟨Nat.le_of_ble_eq_true rfl, Nat.le_of_ble_eq_true rfl⟩) ⟨pr_blind, va_recv hK hP (ci := 6) (q0 := 0) rfl rfl, pr_pre hb0 (hP.sub [0] rfl) (hK.sub [] rfl) (hD.sub [0] (by decide) rfl)⟩ rfl rfl hl.1 rfl (lv_room (Nat.le_of_ble_eq_true rfl)) d_SM_paragraph_12 ⟨Nat.le_of_ble_eq_true rfl, Nat.le_of_ble_eq_true rfl⟩) hP hD hK hS hA [0] [1] rfl rfl (by decide) (by decide) (fun r u H locs hw hP hK hD hS => ?_)
    obtain ⟨rfl, rfl⟩ := hw
    have hP : va_P (dC, dI) classes [(so, .inr (11, [.ref (sr 0), .int 0, .int 0, .int 0, .int 0, .int 0, .ref (sr 1), .ref (sr 2), .ref (sr 3), .ref (sr 4), .ref (sr 5), .ref (sr 6), .ref (sr 7), .ref (sr 8), .ref (sr 9), .ref (sr 10), .ref (sr 11), .ref (sr 12), .ref (sr 13), .ref (sr 14), .ref (sr 15), .ref (sr 16), .ref (sr 17), .ref (sr 18), .ref (sr 19), .int 0, .int 0, .int 0])), (mo, .inr (6, [.int 1, .int ((-1)), .ref (mr 0), .int 0, .ref (mr 1), .ref (mr 2), .ref (mr 3), .ref (mr 4), .ref (mr 5), .ref (mr 6), .ref so, .ref (mr 7), .ref (mr 8), .ref (mr 9), .int 0, .ref (mr 10), .ref (mr 11), .int 0, .ref (mr 12), .int 0, .ref (mr 13), .int 0, .ref (mr 14)]))] H := hP
    have hD : va_D A [(so, .inr (11, [.ref (sr 0), .int 0, .int 0, .int 0, .int 0, .int 0, .ref (sr 1), .ref (sr 2), .ref (sr 3), .ref (sr 4), .ref (sr 5), .ref (sr 6), .ref (sr 7), .ref (sr 8), .ref (sr 9), .ref (sr 10), .ref (sr 11), .ref (sr 12), .ref (sr 13), .ref (sr 14), .ref (sr 15), .ref (sr 16), .ref (sr 17), .ref (sr 18), .ref (sr 19), .int 0, .int 0, .int 0])), (mo, .inr (6, [.int 1, .int ((-1)), .ref (mr 0), .int 0, .ref (mr 1), .ref (mr 2), .ref (mr 3), .ref (mr 4), .ref (mr 5), .ref (mr 6), .ref so, .ref (mr 7), .ref (mr 8), .ref (mr 9), .int 0, .ref (mr 10), .ref (mr 11), .int 0, .ref (mr 12), .int 0, .ref (mr 13), .int 0, .ref (mr 14)]))] := hD
    have hK : va_K (dC, dI) classes [] s := hK
    refine lv_i2l hx hb d_SM_paragraph_15 rfl ?_
    have hP9 := hP.sub (ws' := [(mo, .inr (6, [.int 1, .int ((-1)), .ref (mr 0), .int 0, .ref (mr 1), .ref (mr 2), .ref (mr 3), .ref (mr 4), .ref (mr 5), .ref (mr 6), .ref so, .ref (mr 7), .ref (mr 8), .ref (mr 9), .int 0, .ref (mr 10), .ref (mr 11), .int 0, .ref (mr 12), .int 0, .ref (mr 13), .int 0, .ref (mr 14)]))]) [1] rfl
    have hD9 := hD.sub (ws' := [(mo, .inr (6, [.int 1, .int ((-1)), .ref (mr 0), .int 0, .ref (mr 1), .ref (mr 2), .ref (mr 3), .ref (mr 4), .ref (mr 5), .ref (mr 6), .ref so, .ref (mr 7), .ref (mr 8), .ref (mr 9), .int 0, .ref (mr 10), .ref (mr 11), .int 0, .ref (mr 12), .int 0, .ref (mr 13), .int 0, .ref (mr 14)]))]) [1] (by decide) rfl
    have hK9 := hK.sub (tys' := []) [] rfl
    exact W.lret (v := (0 : Int32).toInt64) hx hb hr (fun t ht hW => ⟨⟨(0 : Int32).toInt64, 1, rfl, Or.inl ⟨rfl, by simp only [in_0, Int32.lt_iff_toInt_lt, Int32.le_iff_toInt_le, z_0, z_1, z_5, z_6, z_7, z_9, z_10, z_11, z_13, z_20, z_41] at c_1 ⊢; omega⟩, by rw [ht]; exact hP9, va_K.moved hW.alike hK9, hD9⟩, hS.F ht⟩) hS.2.2 d_SM_paragraph_16
set_option maxHeartbeats 4000000 in
set_option maxRecDepth 100000 in
/-- judge: nothing is SET -/
theorem c_SM_judge (l : Launch) (dC : Nat → ClassId) (dI : Nat → Nat → Nat) (mo so : Nat) (mr sr : Nat → Nat) (th : Int32) (a : Int32) (sz : Nat) : Met l y_SM_judge [w_SM_judge] ({ frames := 1, cells := 0, slots := 0, locals := 60 }) (va_Pc [.ref mo, .int a] (pr sz (dC, dI) [(mo, .inr (6, [.int th, .int ((-1)), .ref (mr 0), .int 0, .ref (mr 1), .ref (mr 2), .ref (mr 3), .ref (mr 4), .ref (mr 5), .ref (mr 6), .ref so, .ref (mr 7), .ref (mr 8), .ref (mr 9), .int 0, .ref (mr 10), .ref (mr 11), .int 0, .ref (mr 12), .int 0, .ref (mr 13), .int 0, .ref (mr 14)])), (so, .inr (11, [.ref (sr 0), .int 0, .int 0, .int 0, .int 0, .int 0, .ref (sr 1), .ref (sr 2), .ref (sr 3), .ref (sr 4), .ref (sr 5), .ref (sr 6), .ref (sr 7), .ref (sr 8), .ref (sr 9), .ref (sr 10), .ref (sr 11), .ref (sr 12), .ref (sr 13), .ref (sr 14), .ref (sr 15), .ref (sr 16), .ref (sr 17), .ref (sr 18), .ref (sr 19), .int 0, .int 0, .int 0]))] [])) (va_Ql (fun (r : Int64) (u : Int32) => u = 1 ∧ True) (bw (dC, dI) (va_A [(mo, .inr (6, [.int th, .int ((-1)), .ref (mr 0), .int 0, .ref (mr 1), .ref (mr 2), .ref (mr 3), .ref (mr 4), .ref (mr 5), .ref (mr 6), .ref so, .ref (mr 7), .ref (mr 8), .ref (mr 9), .int 0, .ref (mr 10), .ref (mr 11), .int 0, .ref (mr 12), .int 0, .ref (mr 13), .int 0, .ref (mr 14)])), (so, .inr (11, [.ref (sr 0), .int 0, .int 0, .int 0, .int 0, .int 0, .ref (sr 1), .ref (sr 2), .ref (sr 3), .ref (sr 4), .ref (sr 5), .ref (sr 6), .ref (sr 7), .ref (sr 8), .ref (sr 9), .ref (sr 10), .ref (sr 11), .ref (sr 12), .ref (sr 13), .ref (sr 14), .ref (sr 15), .ref (sr 16), .ref (sr 17), .ref (sr 18), .ref (sr 19), .int 0, .int 0, .int 0]))] sz) (fun u : Int32 => [(mo, .inr (6, [.int u, .int ((-1)), .ref (mr 0), .int 0, .ref (mr 1), .ref (mr 2), .ref (mr 3), .ref (mr 4), .ref (mr 5), .ref (mr 6), .ref so, .ref (mr 7), .ref (mr 8), .ref (mr 9), .int 0, .ref (mr 10), .ref (mr 11), .int 0, .ref (mr 12), .int 0, .ref (mr 13), .int 0, .ref (mr 14)]))]) (fun u : Int32 => [])) (va_A [(mo, .inr (6, [.int th, .int ((-1)), .ref (mr 0), .int 0, .ref (mr 1), .ref (mr 2), .ref (mr 3), .ref (mr 4), .ref (mr 5), .ref (mr 6), .ref so, .ref (mr 7), .ref (mr 8), .ref (mr 9), .int 0, .ref (mr 10), .ref (mr 11), .int 0, .ref (mr 12), .int 0, .ref (mr 13), .int 0, .ref (mr 14)])), (so, .inr (11, [.ref (sr 0), .int 0, .int 0, .int 0, .int 0, .int 0, .ref (sr 1), .ref (sr 2), .ref (sr 3), .ref (sr 4), .ref (sr 5), .ref (sr 6), .ref (sr 7), .ref (sr 8), .ref (sr 9), .ref (sr 10), .ref (sr 11), .ref (sr 12), .ref (sr 13), .ref (sr 14), .ref (sr 15), .ref (sr 16), .ref (sr 17), .ref (sr 18), .ref (sr 19), .int 0, .int 0, .int 0]))] sz)) 0 0 (va_A [(mo, .inr (6, [.int th, .int ((-1)), .ref (mr 0), .int 0, .ref (mr 1), .ref (mr 2), .ref (mr 3), .ref (mr 4), .ref (mr 5), .ref (mr 6), .ref so, .ref (mr 7), .ref (mr 8), .ref (mr 9), .int 0, .ref (mr 10), .ref (mr 11), .int 0, .ref (mr 12), .int 0, .ref (mr 13), .int 0, .ref (mr 14)])), (so, .inr (11, [.ref (sr 0), .int 0, .int 0, .int 0, .int 0, .int 0, .ref (sr 1), .ref (sr 2), .ref (sr 3), .ref (sr 4), .ref (sr 5), .ref (sr 6), .ref (sr 7), .ref (sr 8), .ref (sr 9), .ref (sr 10), .ref (sr 11), .ref (sr 12), .ref (sr 13), .ref (sr 14), .ref (sr 15), .ref (sr 16), .ref (sr 17), .ref (sr 18), .ref (sr 19), .int 0, .int 0, .int 0]))] sz) := by
  refine Met.ofW (cc := b_SM_judge) (maxL := 7) (ret := (some .long)) (by decide) rfl ?_
  intro p e s m args below meth c s₁ B hml hv
  obtain ⟨rfl, hsz, hb0, hP, hK, hD0⟩ := hv
  have hx := B.exec
  have hb := B.bytes
  have hr := B.returns
  have hts : ∀ wq ∈ tt, wq.before ([.ref mo, .int a] : List Value).toArray s = true := hb0.hts
  have hown : s.vm.findClass "ScholarsPressModel" = some m.cls := findClass_of_methodNamed B.named
  have hlocks := B.notSynchronized
  subst hsz
  have hD := hD0.self (sz := s.heap.size)
  generalize hAe : va_A [(mo, .inr (6, [.int th, .int ((-1)), .ref (mr 0), .int 0, .ref (mr 1), .ref (mr 2), .ref (mr 3), .ref (mr 4), .ref (mr 5), .ref (mr 6), .ref so, .ref (mr 7), .ref (mr 8), .ref (mr 9), .int 0, .ref (mr 10), .ref (mr 11), .int 0, .ref (mr 12), .int 0, .ref (mr 13), .int 0, .ref (mr 14)])), (so, .inr (11, [.ref (sr 0), .int 0, .int 0, .int 0, .int 0, .int 0, .ref (sr 1), .ref (sr 2), .ref (sr 3), .ref (sr 4), .ref (sr 5), .ref (sr 6), .ref (sr 7), .ref (sr 8), .ref (sr 9), .ref (sr 10), .ref (sr 11), .ref (sr 12), .ref (sr 13), .ref (sr 14), .ref (sr 15), .ref (sr 16), .ref (sr 17), .ref (sr 18), .ref (sr 19), .int 0, .int 0, .int 0]))] s.heap.size = A at hD ⊢
  have hA : ∀ q : Nat, s.heap.size ≤ q → A q := fun q h => by rw [← hAe]; exact Or.inr h
  have hS : va_S A s.heap s.heap [] := va_S.rf
  have hP : va_P (dC, dI) classes [(mo, .inr (6, [.int th, .int ((-1)), .ref (mr 0), .int 0, .ref (mr 1), .ref (mr 2), .ref (mr 3), .ref (mr 4), .ref (mr 5), .ref (mr 6), .ref so, .ref (mr 7), .ref (mr 8), .ref (mr 9), .int 0, .ref (mr 10), .ref (mr 11), .int 0, .ref (mr 12), .int 0, .ref (mr 13), .int 0, .ref (mr 14)])), (so, .inr (11, [.ref (sr 0), .int 0, .int 0, .int 0, .int 0, .int 0, .ref (sr 1), .ref (sr 2), .ref (sr 3), .ref (sr 4), .ref (sr 5), .ref (sr 6), .ref (sr 7), .ref (sr 8), .ref (sr 9), .ref (sr 10), .ref (sr 11), .ref (sr 12), .ref (sr 13), .ref (sr 14), .ref (sr 15), .ref (sr 16), .ref (sr 17), .ref (sr 18), .ref (sr 19), .int 0, .int 0, .int 0]))] s.heap := hP
  have hl := lv_entry ([.ref mo, .int a]) (n := 7) (Nat.le_of_ble_eq_true rfl)
  rw [lg_entry_eq]
  generalize (lg_sl ([.ref mo, .int a]) ++ List.replicate (7 - (lg_sl ([.ref mo, .int a])).length) Slot.unset).toArray = ls at hl ⊢
  have hl : lv_has ls 7 [(0, .ref mo), (1, .int a)] := hl
  refine lv_aload_n hx hb d_SM_judge_0 rfl (lv_at hl 0 rfl) ?_
  refine va_get (D := (dC, dI)) (ci := 6) (v := .int 0) (C := "ScholarsPressModel") (T := F_SM) (N := 23) hx hb hts in_SM hown hK hP 0 rfl rfl 17 (by decide) (hts (.fieldLink "ScholarsPressModel" 174 "ScholarsPressModel" "isSet" "Z") k_3697) (fun _ h9 => h9) rfl d_SM_judge_1 ?_
  refine lv_if_ne (tgt := 14) hx hb d_SM_judge_4 (by decide) (fun c_1 => ?_) (fun c_1 => ?_)
  · exact absurd c_1 (by decide)
  · refine lv_aload_n hx hb d_SM_judge_7 rfl (lv_at hl 0 rfl) ?_
    refine lv_iconst (v := 1) hx hb d_SM_judge_8 (by decide) ?_
    refine vi_i (wc := [(mo, .inr (6, [.int th, .int ((-1)), .ref (mr 0), .int 0, .ref (mr 1), .ref (mr 2), .ref (mr 3), .ref (mr 4), .ref (mr 5), .ref (mr 6), .ref so, .ref (mr 7), .ref (mr 8), .ref (mr 9), .int 0, .ref (mr 10), .ref (mr 11), .int 0, .ref (mr 12), .int 0, .ref (mr 13), .int 0, .ref (mr 14)]))]) (wr := [(so, .inr (11, [.ref (sr 0), .int 0, .int 0, .int 0, .int 0, .int 0, .ref (sr 1), .ref (sr 2), .ref (sr 3), .ref (sr 4), .ref (sr 5), .ref (sr 6), .ref (sr 7), .ref (sr 8), .ref (sr 9), .ref (sr 10), .ref (sr 11), .ref (sr 12), .ref (sr 13), .ref (sr 14), .ref (sr 15), .ref (sr 16), .ref (sr 17), .ref (sr 18), .ref (sr 19), .int 0, .int 0, .int 0]))]) (va_runV (As := [.int 1]) (rest := []) ⟨hx, hb, hml, hown, hts⟩ (c_SM_refuse l dC dI mo so mr sr th 1 s.heap.size) (cwV 1 hts (tt_V k_3758 k_3760 k_122 k_247 kw_SM_refuse) rfl rfl rfl (by decide +kernel) ⟨Nat.le_of_ble_eq_true rfl, Nat.le_of_ble_eq_true rfl⟩) ⟨pr_blind, va_recv hK hP (ci := 6) (q0 := 0) rfl rfl, pr_pre hb0 (hP.sub [0] rfl) (hK.sub [] rfl) (hD.sub [0] (by decide) rfl)⟩ rfl rfl hl.1 rfl (lv_room (Nat.le_of_ble_eq_true rfl)) d_SM_judge_9 ⟨Nat.le_of_ble_eq_true rfl, Nat.le_of_ble_eq_true rfl⟩) hP hD hK hS hA [0] [1] rfl rfl (by decide) (by decide) (fun r u H locs hw hP hK hD hS => ?_)
    obtain ⟨rfl, rfl⟩ := hw
    have hP : va_P (dC, dI) classes [(so, .inr (11, [.ref (sr 0), .int 0, .int 0, .int 0, .int 0, .int 0, .ref (sr 1), .ref (sr 2), .ref (sr 3), .ref (sr 4), .ref (sr 5), .ref (sr 6), .ref (sr 7), .ref (sr 8), .ref (sr 9), .ref (sr 10), .ref (sr 11), .ref (sr 12), .ref (sr 13), .ref (sr 14), .ref (sr 15), .ref (sr 16), .ref (sr 17), .ref (sr 18), .ref (sr 19), .int 0, .int 0, .int 0])), (mo, .inr (6, [.int 1, .int ((-1)), .ref (mr 0), .int 0, .ref (mr 1), .ref (mr 2), .ref (mr 3), .ref (mr 4), .ref (mr 5), .ref (mr 6), .ref so, .ref (mr 7), .ref (mr 8), .ref (mr 9), .int 0, .ref (mr 10), .ref (mr 11), .int 0, .ref (mr 12), .int 0, .ref (mr 13), .int 0, .ref (mr 14)]))] H := hP
    have hD : va_D A [(so, .inr (11, [.ref (sr 0), .int 0, .int 0, .int 0, .int 0, .int 0, .ref (sr 1), .ref (sr 2), .ref (sr 3), .ref (sr 4), .ref (sr 5), .ref (sr 6), .ref (sr 7), .ref (sr 8), .ref (sr 9), .ref (sr 10), .ref (sr 11), .ref (sr 12), .ref (sr 13), .ref (sr 14), .ref (sr 15), .ref (sr 16), .ref (sr 17), .ref (sr 18), .ref (sr 19), .int 0, .int 0, .int 0])), (mo, .inr (6, [.int 1, .int ((-1)), .ref (mr 0), .int 0, .ref (mr 1), .ref (mr 2), .ref (mr 3), .ref (mr 4), .ref (mr 5), .ref (mr 6), .ref so, .ref (mr 7), .ref (mr 8), .ref (mr 9), .int 0, .ref (mr 10), .ref (mr 11), .int 0, .ref (mr 12), .int 0, .ref (mr 13), .int 0, .ref (mr 14)]))] := hD
    have hK : va_K (dC, dI) classes [] s := hK
    refine lv_i2l hx hb d_SM_judge_12 rfl ?_
    have hP9 := hP.sub (ws' := [(mo, .inr (6, [.int 1, .int ((-1)), .ref (mr 0), .int 0, .ref (mr 1), .ref (mr 2), .ref (mr 3), .ref (mr 4), .ref (mr 5), .ref (mr 6), .ref so, .ref (mr 7), .ref (mr 8), .ref (mr 9), .int 0, .ref (mr 10), .ref (mr 11), .int 0, .ref (mr 12), .int 0, .ref (mr 13), .int 0, .ref (mr 14)]))]) [1] rfl
    have hD9 := hD.sub (ws' := [(mo, .inr (6, [.int 1, .int ((-1)), .ref (mr 0), .int 0, .ref (mr 1), .ref (mr 2), .ref (mr 3), .ref (mr 4), .ref (mr 5), .ref (mr 6), .ref so, .ref (mr 7), .ref (mr 8), .ref (mr 9), .int 0, .ref (mr 10), .ref (mr 11), .int 0, .ref (mr 12), .int 0, .ref (mr 13), .int 0, .ref (mr 14)]))]) [1] (by decide) rfl
    have hK9 := hK.sub (tys' := []) [] rfl
    exact W.lret (v := (0 : Int32).toInt64) hx hb hr (fun t ht hW => ⟨⟨(0 : Int32).toInt64, 1, rfl, ⟨rfl, trivial⟩, by rw [ht]; exact hP9, va_K.moved hW.alike hK9, hD9⟩, hS.F ht⟩) hS.2.2 d_SM_judge_13
set_option maxHeartbeats 4000000 in
set_option maxRecDepth 100000 in
/-- word: OUT is empty -/
theorem c_SM_word (l : Launch) (dC : Nat → ClassId) (dI : Nat → Nat → Nat) (mo so : Nat) (mr sr : Nat → Nat) (th : Int32) (a : Int32) (sz : Nat) : Met l y_SM_word [w_SM_word] ({ frames := 1, cells := 0, slots := 0, locals := 60 }) (va_Pc [.ref mo, .int a] (pr sz (dC, dI) [(mo, .inr (6, [.int th, .int ((-1)), .ref (mr 0), .int 0, .ref (mr 1), .ref (mr 2), .ref (mr 3), .ref (mr 4), .ref (mr 5), .ref (mr 6), .ref so, .ref (mr 7), .ref (mr 8), .ref (mr 9), .int 0, .ref (mr 10), .ref (mr 11), .int 0, .ref (mr 12), .int 0, .ref (mr 13), .int 0, .ref (mr 14)])), (so, .inr (11, [.ref (sr 0), .int 0, .int 0, .int 0, .int 0, .int 0, .ref (sr 1), .ref (sr 2), .ref (sr 3), .ref (sr 4), .ref (sr 5), .ref (sr 6), .ref (sr 7), .ref (sr 8), .ref (sr 9), .ref (sr 10), .ref (sr 11), .ref (sr 12), .ref (sr 13), .ref (sr 14), .ref (sr 15), .ref (sr 16), .ref (sr 17), .ref (sr 18), .ref (sr 19), .int 0, .int 0, .int 0]))] [])) (va_Ql (fun (r : Int64) (u : Int32) => u = 1 ∧ True) (bw (dC, dI) (va_A [(mo, .inr (6, [.int th, .int ((-1)), .ref (mr 0), .int 0, .ref (mr 1), .ref (mr 2), .ref (mr 3), .ref (mr 4), .ref (mr 5), .ref (mr 6), .ref so, .ref (mr 7), .ref (mr 8), .ref (mr 9), .int 0, .ref (mr 10), .ref (mr 11), .int 0, .ref (mr 12), .int 0, .ref (mr 13), .int 0, .ref (mr 14)])), (so, .inr (11, [.ref (sr 0), .int 0, .int 0, .int 0, .int 0, .int 0, .ref (sr 1), .ref (sr 2), .ref (sr 3), .ref (sr 4), .ref (sr 5), .ref (sr 6), .ref (sr 7), .ref (sr 8), .ref (sr 9), .ref (sr 10), .ref (sr 11), .ref (sr 12), .ref (sr 13), .ref (sr 14), .ref (sr 15), .ref (sr 16), .ref (sr 17), .ref (sr 18), .ref (sr 19), .int 0, .int 0, .int 0]))] sz) (fun u : Int32 => [(mo, .inr (6, [.int u, .int ((-1)), .ref (mr 0), .int 0, .ref (mr 1), .ref (mr 2), .ref (mr 3), .ref (mr 4), .ref (mr 5), .ref (mr 6), .ref so, .ref (mr 7), .ref (mr 8), .ref (mr 9), .int 0, .ref (mr 10), .ref (mr 11), .int 0, .ref (mr 12), .int 0, .ref (mr 13), .int 0, .ref (mr 14)]))]) (fun u : Int32 => [])) (va_A [(mo, .inr (6, [.int th, .int ((-1)), .ref (mr 0), .int 0, .ref (mr 1), .ref (mr 2), .ref (mr 3), .ref (mr 4), .ref (mr 5), .ref (mr 6), .ref so, .ref (mr 7), .ref (mr 8), .ref (mr 9), .int 0, .ref (mr 10), .ref (mr 11), .int 0, .ref (mr 12), .int 0, .ref (mr 13), .int 0, .ref (mr 14)])), (so, .inr (11, [.ref (sr 0), .int 0, .int 0, .int 0, .int 0, .int 0, .ref (sr 1), .ref (sr 2), .ref (sr 3), .ref (sr 4), .ref (sr 5), .ref (sr 6), .ref (sr 7), .ref (sr 8), .ref (sr 9), .ref (sr 10), .ref (sr 11), .ref (sr 12), .ref (sr 13), .ref (sr 14), .ref (sr 15), .ref (sr 16), .ref (sr 17), .ref (sr 18), .ref (sr 19), .int 0, .int 0, .int 0]))] sz)) 0 0 (va_A [(mo, .inr (6, [.int th, .int ((-1)), .ref (mr 0), .int 0, .ref (mr 1), .ref (mr 2), .ref (mr 3), .ref (mr 4), .ref (mr 5), .ref (mr 6), .ref so, .ref (mr 7), .ref (mr 8), .ref (mr 9), .int 0, .ref (mr 10), .ref (mr 11), .int 0, .ref (mr 12), .int 0, .ref (mr 13), .int 0, .ref (mr 14)])), (so, .inr (11, [.ref (sr 0), .int 0, .int 0, .int 0, .int 0, .int 0, .ref (sr 1), .ref (sr 2), .ref (sr 3), .ref (sr 4), .ref (sr 5), .ref (sr 6), .ref (sr 7), .ref (sr 8), .ref (sr 9), .ref (sr 10), .ref (sr 11), .ref (sr 12), .ref (sr 13), .ref (sr 14), .ref (sr 15), .ref (sr 16), .ref (sr 17), .ref (sr 18), .ref (sr 19), .int 0, .int 0, .int 0]))] sz) := by
  refine Met.ofW (cc := b_SM_word) (maxL := 5) (ret := (some .long)) (by decide) rfl ?_
  intro p e s m args below meth c s₁ B hml hv
  obtain ⟨rfl, hsz, hb0, hP, hK, hD0⟩ := hv
  have hx := B.exec
  have hb := B.bytes
  have hr := B.returns
  have hts : ∀ wq ∈ tt, wq.before ([.ref mo, .int a] : List Value).toArray s = true := hb0.hts
  have hown : s.vm.findClass "ScholarsPressModel" = some m.cls := findClass_of_methodNamed B.named
  have hlocks := B.notSynchronized
  subst hsz
  have hD := hD0.self (sz := s.heap.size)
  generalize hAe : va_A [(mo, .inr (6, [.int th, .int ((-1)), .ref (mr 0), .int 0, .ref (mr 1), .ref (mr 2), .ref (mr 3), .ref (mr 4), .ref (mr 5), .ref (mr 6), .ref so, .ref (mr 7), .ref (mr 8), .ref (mr 9), .int 0, .ref (mr 10), .ref (mr 11), .int 0, .ref (mr 12), .int 0, .ref (mr 13), .int 0, .ref (mr 14)])), (so, .inr (11, [.ref (sr 0), .int 0, .int 0, .int 0, .int 0, .int 0, .ref (sr 1), .ref (sr 2), .ref (sr 3), .ref (sr 4), .ref (sr 5), .ref (sr 6), .ref (sr 7), .ref (sr 8), .ref (sr 9), .ref (sr 10), .ref (sr 11), .ref (sr 12), .ref (sr 13), .ref (sr 14), .ref (sr 15), .ref (sr 16), .ref (sr 17), .ref (sr 18), .ref (sr 19), .int 0, .int 0, .int 0]))] s.heap.size = A at hD ⊢
  have hA : ∀ q : Nat, s.heap.size ≤ q → A q := fun q h => by rw [← hAe]; exact Or.inr h
  have hS : va_S A s.heap s.heap [] := va_S.rf
  have hP : va_P (dC, dI) classes [(mo, .inr (6, [.int th, .int ((-1)), .ref (mr 0), .int 0, .ref (mr 1), .ref (mr 2), .ref (mr 3), .ref (mr 4), .ref (mr 5), .ref (mr 6), .ref so, .ref (mr 7), .ref (mr 8), .ref (mr 9), .int 0, .ref (mr 10), .ref (mr 11), .int 0, .ref (mr 12), .int 0, .ref (mr 13), .int 0, .ref (mr 14)])), (so, .inr (11, [.ref (sr 0), .int 0, .int 0, .int 0, .int 0, .int 0, .ref (sr 1), .ref (sr 2), .ref (sr 3), .ref (sr 4), .ref (sr 5), .ref (sr 6), .ref (sr 7), .ref (sr 8), .ref (sr 9), .ref (sr 10), .ref (sr 11), .ref (sr 12), .ref (sr 13), .ref (sr 14), .ref (sr 15), .ref (sr 16), .ref (sr 17), .ref (sr 18), .ref (sr 19), .int 0, .int 0, .int 0]))] s.heap := hP
  have hl := lv_entry ([.ref mo, .int a]) (n := 5) (Nat.le_of_ble_eq_true rfl)
  rw [lg_entry_eq]
  generalize (lg_sl ([.ref mo, .int a]) ++ List.replicate (5 - (lg_sl ([.ref mo, .int a])).length) Slot.unset).toArray = ls at hl ⊢
  have hl : lv_has ls 5 [(0, .ref mo), (1, .int a)] := hl
  refine lv_iload_n hx hb d_SM_word_0 rfl (lv_at hl 1 rfl) ?_
  refine lv_if_lt (tgt := 12) hx hb d_SM_word_1 (by decide) (fun c_1 => ?_) (fun c_1 => ?_)
  · refine lv_aload_n hx hb d_SM_word_12 rfl (lv_at hl 0 rfl) ?_
    refine lv_iconst (v := 1) hx hb d_SM_word_13 (by decide) ?_
    refine vi_i (wc := [(mo, .inr (6, [.int th, .int ((-1)), .ref (mr 0), .int 0, .ref (mr 1), .ref (mr 2), .ref (mr 3), .ref (mr 4), .ref (mr 5), .ref (mr 6), .ref so, .ref (mr 7), .ref (mr 8), .ref (mr 9), .int 0, .ref (mr 10), .ref (mr 11), .int 0, .ref (mr 12), .int 0, .ref (mr 13), .int 0, .ref (mr 14)]))]) (wr := [(so, .inr (11, [.ref (sr 0), .int 0, .int 0, .int 0, .int 0, .int 0, .ref (sr 1), .ref (sr 2), .ref (sr 3), .ref (sr 4), .ref (sr 5), .ref (sr 6), .ref (sr 7), .ref (sr 8), .ref (sr 9), .ref (sr 10), .ref (sr 11), .ref (sr 12), .ref (sr 13), .ref (sr 14), .ref (sr 15), .ref (sr 16), .ref (sr 17), .ref (sr 18), .ref (sr 19), .int 0, .int 0, .int 0]))]) (va_runV (As := [.int 1]) (rest := []) ⟨hx, hb, hml, hown, hts⟩ (c_SM_refuse l dC dI mo so mr sr th 1 s.heap.size) (cwV 1 hts (tt_V k_3758 k_3760 k_122 k_247 kw_SM_refuse) rfl rfl rfl (by decide +kernel) ⟨Nat.le_of_ble_eq_true rfl, Nat.le_of_ble_eq_true rfl⟩) ⟨pr_blind, va_recv hK hP (ci := 6) (q0 := 0) rfl rfl, pr_pre hb0 (hP.sub [0] rfl) (hK.sub [] rfl) (hD.sub [0] (by decide) rfl)⟩ rfl rfl hl.1 rfl (lv_room (Nat.le_of_ble_eq_true rfl)) d_SM_word_14 ⟨Nat.le_of_ble_eq_true rfl, Nat.le_of_ble_eq_true rfl⟩) hP hD hK hS hA [0] [1] rfl rfl (by decide) (by decide) (fun r u H locs hw hP hK hD hS => ?_)
    obtain ⟨rfl, rfl⟩ := hw
    have hP : va_P (dC, dI) classes [(so, .inr (11, [.ref (sr 0), .int 0, .int 0, .int 0, .int 0, .int 0, .ref (sr 1), .ref (sr 2), .ref (sr 3), .ref (sr 4), .ref (sr 5), .ref (sr 6), .ref (sr 7), .ref (sr 8), .ref (sr 9), .ref (sr 10), .ref (sr 11), .ref (sr 12), .ref (sr 13), .ref (sr 14), .ref (sr 15), .ref (sr 16), .ref (sr 17), .ref (sr 18), .ref (sr 19), .int 0, .int 0, .int 0])), (mo, .inr (6, [.int 1, .int ((-1)), .ref (mr 0), .int 0, .ref (mr 1), .ref (mr 2), .ref (mr 3), .ref (mr 4), .ref (mr 5), .ref (mr 6), .ref so, .ref (mr 7), .ref (mr 8), .ref (mr 9), .int 0, .ref (mr 10), .ref (mr 11), .int 0, .ref (mr 12), .int 0, .ref (mr 13), .int 0, .ref (mr 14)]))] H := hP
    have hD : va_D A [(so, .inr (11, [.ref (sr 0), .int 0, .int 0, .int 0, .int 0, .int 0, .ref (sr 1), .ref (sr 2), .ref (sr 3), .ref (sr 4), .ref (sr 5), .ref (sr 6), .ref (sr 7), .ref (sr 8), .ref (sr 9), .ref (sr 10), .ref (sr 11), .ref (sr 12), .ref (sr 13), .ref (sr 14), .ref (sr 15), .ref (sr 16), .ref (sr 17), .ref (sr 18), .ref (sr 19), .int 0, .int 0, .int 0])), (mo, .inr (6, [.int 1, .int ((-1)), .ref (mr 0), .int 0, .ref (mr 1), .ref (mr 2), .ref (mr 3), .ref (mr 4), .ref (mr 5), .ref (mr 6), .ref so, .ref (mr 7), .ref (mr 8), .ref (mr 9), .int 0, .ref (mr 10), .ref (mr 11), .int 0, .ref (mr 12), .int 0, .ref (mr 13), .int 0, .ref (mr 14)]))] := hD
    have hK : va_K (dC, dI) classes [] s := hK
    refine lv_i2l hx hb d_SM_word_17 rfl ?_
    have hP9 := hP.sub (ws' := [(mo, .inr (6, [.int 1, .int ((-1)), .ref (mr 0), .int 0, .ref (mr 1), .ref (mr 2), .ref (mr 3), .ref (mr 4), .ref (mr 5), .ref (mr 6), .ref so, .ref (mr 7), .ref (mr 8), .ref (mr 9), .int 0, .ref (mr 10), .ref (mr 11), .int 0, .ref (mr 12), .int 0, .ref (mr 13), .int 0, .ref (mr 14)]))]) [1] rfl
    have hD9 := hD.sub (ws' := [(mo, .inr (6, [.int 1, .int ((-1)), .ref (mr 0), .int 0, .ref (mr 1), .ref (mr 2), .ref (mr 3), .ref (mr 4), .ref (mr 5), .ref (mr 6), .ref so, .ref (mr 7), .ref (mr 8), .ref (mr 9), .int 0, .ref (mr 10), .ref (mr 11), .int 0, .ref (mr 12), .int 0, .ref (mr 13), .int 0, .ref (mr 14)]))]) [1] (by decide) rfl
    have hK9 := hK.sub (tys' := []) [] rfl
    exact W.lret (v := (0 : Int32).toInt64) hx hb hr (fun t ht hW => ⟨⟨(0 : Int32).toInt64, 1, rfl, ⟨rfl, trivial⟩, by rw [ht]; exact hP9, va_K.moved hW.alike hK9, hD9⟩, hS.F ht⟩) hS.2.2 d_SM_word_18
  · refine lv_iload_n hx hb d_SM_word_4 rfl (lv_at hl 1 rfl) ?_
    refine lv_aload_n hx hb d_SM_word_5 rfl (lv_at hl 0 rfl) ?_
    refine va_get (D := (dC, dI)) (ci := 6) (v := .int 0) (C := "ScholarsPressModel") (T := F_SM) (N := 23) hx hb hts in_SM hown hK hP 0 rfl rfl 19 (by decide) (hts (.fieldLink "ScholarsPressModel" 442 "ScholarsPressModel" "outLong" "I") k_3699) (fun _ h9 => h9) rfl d_SM_word_6 ?_
    refine lv_icmp_lt (tgt := 19) hx hb d_SM_word_9 (by decide) (fun c_2 => ?_) (fun c_2 => ?_)
    · exfalso; simp only [in_0, Int32.lt_iff_toInt_lt, Int32.le_iff_toInt_le, z_0, z_1, z_5, z_6, z_7, z_9, z_10, z_11, z_13, z_20, z_41] at c_1 c_2; omega
    · refine lv_aload_n hx hb d_SM_word_12 rfl (lv_at hl 0 rfl) ?_
      refine lv_iconst (v := 1) hx hb d_SM_word_13 (by decide) ?_
      refine vi_i (wc := [(mo, .inr (6, [.int th, .int ((-1)), .ref (mr 0), .int 0, .ref (mr 1), .ref (mr 2), .ref (mr 3), .ref (mr 4), .ref (mr 5), .ref (mr 6), .ref so, .ref (mr 7), .ref (mr 8), .ref (mr 9), .int 0, .ref (mr 10), .ref (mr 11), .int 0, .ref (mr 12), .int 0, .ref (mr 13), .int 0, .ref (mr 14)]))]) (wr := [(so, .inr (11, [.ref (sr 0), .int 0, .int 0, .int 0, .int 0, .int 0, .ref (sr 1), .ref (sr 2), .ref (sr 3), .ref (sr 4), .ref (sr 5), .ref (sr 6), .ref (sr 7), .ref (sr 8), .ref (sr 9), .ref (sr 10), .ref (sr 11), .ref (sr 12), .ref (sr 13), .ref (sr 14), .ref (sr 15), .ref (sr 16), .ref (sr 17), .ref (sr 18), .ref (sr 19), .int 0, .int 0, .int 0]))]) (va_runV (As := [.int 1]) (rest := []) ⟨hx, hb, hml, hown, hts⟩ (c_SM_refuse l dC dI mo so mr sr th 1 s.heap.size) (cwV 1 hts (tt_V k_3758 k_3760 k_122 k_247 kw_SM_refuse) rfl rfl rfl (by decide +kernel) ⟨Nat.le_of_ble_eq_true rfl, Nat.le_of_ble_eq_true rfl⟩) ⟨pr_blind, va_recv hK hP (ci := 6) (q0 := 0) rfl rfl, pr_pre hb0 (hP.sub [0] rfl) (hK.sub [] rfl) (hD.sub [0] (by decide) rfl)⟩ rfl rfl hl.1 rfl (lv_room (Nat.le_of_ble_eq_true rfl)) d_SM_word_14 ⟨Nat.le_of_ble_eq_true rfl, Nat.le_of_ble_eq_true rfl⟩) hP hD hK hS hA [0] [1] rfl rfl (by decide) (by decide) (fun r u H locs hw hP hK hD hS => ?_)
      obtain ⟨rfl, rfl⟩ := hw
      have hP : va_P (dC, dI) classes [(so, .inr (11, [.ref (sr 0), .int 0, .int 0, .int 0, .int 0, .int 0, .ref (sr 1), .ref (sr 2), .ref (sr 3), .ref (sr 4), .ref (sr 5), .ref (sr 6), .ref (sr 7), .ref (sr 8), .ref (sr 9), .ref (sr 10), .ref (sr 11), .ref (sr 12), .ref (sr 13), .ref (sr 14), .ref (sr 15), .ref (sr 16), .ref (sr 17), .ref (sr 18), .ref (sr 19), .int 0, .int 0, .int 0])), (mo, .inr (6, [.int 1, .int ((-1)), .ref (mr 0), .int 0, .ref (mr 1), .ref (mr 2), .ref (mr 3), .ref (mr 4), .ref (mr 5), .ref (mr 6), .ref so, .ref (mr 7), .ref (mr 8), .ref (mr 9), .int 0, .ref (mr 10), .ref (mr 11), .int 0, .ref (mr 12), .int 0, .ref (mr 13), .int 0, .ref (mr 14)]))] H := hP
      have hD : va_D A [(so, .inr (11, [.ref (sr 0), .int 0, .int 0, .int 0, .int 0, .int 0, .ref (sr 1), .ref (sr 2), .ref (sr 3), .ref (sr 4), .ref (sr 5), .ref (sr 6), .ref (sr 7), .ref (sr 8), .ref (sr 9), .ref (sr 10), .ref (sr 11), .ref (sr 12), .ref (sr 13), .ref (sr 14), .ref (sr 15), .ref (sr 16), .ref (sr 17), .ref (sr 18), .ref (sr 19), .int 0, .int 0, .int 0])), (mo, .inr (6, [.int 1, .int ((-1)), .ref (mr 0), .int 0, .ref (mr 1), .ref (mr 2), .ref (mr 3), .ref (mr 4), .ref (mr 5), .ref (mr 6), .ref so, .ref (mr 7), .ref (mr 8), .ref (mr 9), .int 0, .ref (mr 10), .ref (mr 11), .int 0, .ref (mr 12), .int 0, .ref (mr 13), .int 0, .ref (mr 14)]))] := hD
      have hK : va_K (dC, dI) classes [] s := hK
      refine lv_i2l hx hb d_SM_word_17 rfl ?_
      have hP9 := hP.sub (ws' := [(mo, .inr (6, [.int 1, .int ((-1)), .ref (mr 0), .int 0, .ref (mr 1), .ref (mr 2), .ref (mr 3), .ref (mr 4), .ref (mr 5), .ref (mr 6), .ref so, .ref (mr 7), .ref (mr 8), .ref (mr 9), .int 0, .ref (mr 10), .ref (mr 11), .int 0, .ref (mr 12), .int 0, .ref (mr 13), .int 0, .ref (mr 14)]))]) [1] rfl
      have hD9 := hD.sub (ws' := [(mo, .inr (6, [.int 1, .int ((-1)), .ref (mr 0), .int 0, .ref (mr 1), .ref (mr 2), .ref (mr 3), .ref (mr 4), .ref (mr 5), .ref (mr 6), .ref so, .ref (mr 7), .ref (mr 8), .ref (mr 9), .int 0, .ref (mr 10), .ref (mr 11), .int 0, .ref (mr 12), .int 0, .ref (mr 13), .int 0, .ref (mr 14)]))]) [1] (by decide) rfl
      have hK9 := hK.sub (tys' := []) [] rfl
      exact W.lret (v := (0 : Int32).toInt64) hx hb hr (fun t ht hW => ⟨⟨(0 : Int32).toInt64, 1, rfl, ⟨rfl, trivial⟩, by rw [ht]; exact hP9, va_K.moved hW.alike hK9, hD9⟩, hS.F ht⟩) hS.2.2 d_SM_word_18
set_option maxHeartbeats 4000000 in
set_option maxRecDepth 100000 in
/-- place() -/
theorem c_SM_place (l : Launch) (dC : Nat → ClassId) (dI : Nat → Nat → Nat) (mo so : Nat) (mr sr : Nat → Nat) (th : Int32) (sz : Nat) : Met l y_SM_place [w_SM_place] ({ frames := 0, cells := 0, slots := 0, locals := 0 }) (va_Pc [.ref mo] (pr sz (dC, dI) [(mo, .inr (6, [.int th, .int ((-1)), .ref (mr 0), .int 0, .ref (mr 1), .ref (mr 2), .ref (mr 3), .ref (mr 4), .ref (mr 5), .ref (mr 6), .ref so, .ref (mr 7), .ref (mr 8), .ref (mr 9), .int 0, .ref (mr 10), .ref (mr 11), .int 0, .ref (mr 12), .int 0, .ref (mr 13), .int 0, .ref (mr 14)]))] [])) (va_Qi (fun (r : Int32) (u : Unit) => r = (-1)) (bw (dC, dI) (va_A [(mo, .inr (6, [.int th, .int ((-1)), .ref (mr 0), .int 0, .ref (mr 1), .ref (mr 2), .ref (mr 3), .ref (mr 4), .ref (mr 5), .ref (mr 6), .ref so, .ref (mr 7), .ref (mr 8), .ref (mr 9), .int 0, .ref (mr 10), .ref (mr 11), .int 0, .ref (mr 12), .int 0, .ref (mr 13), .int 0, .ref (mr 14)]))] sz) (fun u : Unit => [(mo, .inr (6, [.int 0, .int ((-1)), .ref (mr 0), .int 0, .ref (mr 1), .ref (mr 2), .ref (mr 3), .ref (mr 4), .ref (mr 5), .ref (mr 6), .ref so, .ref (mr 7), .ref (mr 8), .ref (mr 9), .int 0, .ref (mr 10), .ref (mr 11), .int 0, .ref (mr 12), .int 0, .ref (mr 13), .int 0, .ref (mr 14)]))]) (fun u : Unit => [])) (va_A [(mo, .inr (6, [.int th, .int ((-1)), .ref (mr 0), .int 0, .ref (mr 1), .ref (mr 2), .ref (mr 3), .ref (mr 4), .ref (mr 5), .ref (mr 6), .ref so, .ref (mr 7), .ref (mr 8), .ref (mr 9), .int 0, .ref (mr 10), .ref (mr 11), .int 0, .ref (mr 12), .int 0, .ref (mr 13), .int 0, .ref (mr 14)]))] sz)) 0 0 (va_A [(mo, .inr (6, [.int th, .int ((-1)), .ref (mr 0), .int 0, .ref (mr 1), .ref (mr 2), .ref (mr 3), .ref (mr 4), .ref (mr 5), .ref (mr 6), .ref so, .ref (mr 7), .ref (mr 8), .ref (mr 9), .int 0, .ref (mr 10), .ref (mr 11), .int 0, .ref (mr 12), .int 0, .ref (mr 13), .int 0, .ref (mr 14)]))] sz) := by
  refine Met.ofW (cc := b_SM_place) (maxL := 1) (ret := (some .int)) (by decide) rfl ?_
  intro p e s m args below meth c s₁ B hml hv
  obtain ⟨rfl, hsz, hb0, hP, hK, hD0⟩ := hv
  have hx := B.exec
  have hb := B.bytes
  have hr := B.returns
  have hts : ∀ wq ∈ tt, wq.before ([.ref mo] : List Value).toArray s = true := hb0.hts
  have hown : s.vm.findClass "ScholarsPressModel" = some m.cls := findClass_of_methodNamed B.named
  have hlocks := B.notSynchronized
  subst hsz
  have hD := hD0.self (sz := s.heap.size)
  generalize hAe : va_A [(mo, .inr (6, [.int th, .int ((-1)), .ref (mr 0), .int 0, .ref (mr 1), .ref (mr 2), .ref (mr 3), .ref (mr 4), .ref (mr 5), .ref (mr 6), .ref so, .ref (mr 7), .ref (mr 8), .ref (mr 9), .int 0, .ref (mr 10), .ref (mr 11), .int 0, .ref (mr 12), .int 0, .ref (mr 13), .int 0, .ref (mr 14)]))] s.heap.size = A at hD ⊢
  have hA : ∀ q : Nat, s.heap.size ≤ q → A q := fun q h => by rw [← hAe]; exact Or.inr h
  have hS : va_S A s.heap s.heap [] := va_S.rf
  have hP : va_P (dC, dI) classes [(mo, .inr (6, [.int th, .int ((-1)), .ref (mr 0), .int 0, .ref (mr 1), .ref (mr 2), .ref (mr 3), .ref (mr 4), .ref (mr 5), .ref (mr 6), .ref so, .ref (mr 7), .ref (mr 8), .ref (mr 9), .int 0, .ref (mr 10), .ref (mr 11), .int 0, .ref (mr 12), .int 0, .ref (mr 13), .int 0, .ref (mr 14)]))] s.heap := hP
  have hl := lv_entry ([.ref mo]) (n := 1) (Nat.le_of_ble_eq_true rfl)
  rw [lg_entry_eq]
  generalize (lg_sl ([.ref mo]) ++ List.replicate (1 - (lg_sl ([.ref mo])).length) Slot.unset).toArray = ls at hl ⊢
  have hl : lv_has ls 1 [(0, .ref mo)] := hl
  refine lv_aload_n hx hb d_SM_place_0 rfl (lv_at hl 0 rfl) ?_
  refine lv_iconst (v := 0) hx hb d_SM_place_1 (by decide) ?_
  refine va_put (D := (dC, dI)) (ci := 6) (v := .int 0) (ty := .int) (C := "ScholarsPressModel") (T := F_SM) (N := 23) hx hb hts in_SM t_SM t_SM_ok n_SM hown hK hP hD hS 0 rfl rfl 0 (by decide) (hts (.fieldLink "ScholarsPressModel" 87 "ScholarsPressModel" "thrown" "I") k_3680) (fun _ h9 => h9) rfl (by decide +kernel) rfl rfl (Nat.le_of_ble_eq_true rfl) d_SM_place_2 (fun H locs hP hD hS => ?_)
  have hP : va_P (dC, dI) classes [(mo, .inr (6, [.int 0, .int ((-1)), .ref (mr 0), .int 0, .ref (mr 1), .ref (mr 2), .ref (mr 3), .ref (mr 4), .ref (mr 5), .ref (mr 6), .ref so, .ref (mr 7), .ref (mr 8), .ref (mr 9), .int 0, .ref (mr 10), .ref (mr 11), .int 0, .ref (mr 12), .int 0, .ref (mr 13), .int 0, .ref (mr 14)]))] H := hP
  have hD : va_D A [(mo, .inr (6, [.int 0, .int ((-1)), .ref (mr 0), .int 0, .ref (mr 1), .ref (mr 2), .ref (mr 3), .ref (mr 4), .ref (mr 5), .ref (mr 6), .ref so, .ref (mr 7), .ref (mr 8), .ref (mr 9), .int 0, .ref (mr 10), .ref (mr 11), .int 0, .ref (mr 12), .int 0, .ref (mr 13), .int 0, .ref (mr 14)]))] := hD
  refine lv_aload_n hx hb d_SM_place_5 rfl (lv_at hl 0 rfl) ?_
  refine va_get (D := (dC, dI)) (ci := 6) (v := .int ((-1))) (C := "ScholarsPressModel") (T := F_SM) (N := 23) hx hb hts in_SM hown hK hP 0 rfl rfl 1 (by decide) (hts (.fieldLink "ScholarsPressModel" 7 "ScholarsPressModel" "place" "I") k_3681) (fun _ h9 => h9) rfl d_SM_place_6 ?_
  have hP9 := hP.sub (ws' := [(mo, .inr (6, [.int 0, .int ((-1)), .ref (mr 0), .int 0, .ref (mr 1), .ref (mr 2), .ref (mr 3), .ref (mr 4), .ref (mr 5), .ref (mr 6), .ref so, .ref (mr 7), .ref (mr 8), .ref (mr 9), .int 0, .ref (mr 10), .ref (mr 11), .int 0, .ref (mr 12), .int 0, .ref (mr 13), .int 0, .ref (mr 14)]))]) [0] rfl
  have hD9 := hD.sub (ws' := [(mo, .inr (6, [.int 0, .int ((-1)), .ref (mr 0), .int 0, .ref (mr 1), .ref (mr 2), .ref (mr 3), .ref (mr 4), .ref (mr 5), .ref (mr 6), .ref so, .ref (mr 7), .ref (mr 8), .ref (mr 9), .int 0, .ref (mr 10), .ref (mr 11), .int 0, .ref (mr 12), .int 0, .ref (mr 13), .int 0, .ref (mr 14)]))]) [0] (by decide) rfl
  have hK9 := hK.sub (tys' := []) [] rfl
  exact W.iret (v := (-1)) hx hb hr (fun t ht hW => ⟨⟨(-1), (), rfl, rfl, by rw [ht]; exact hP9, va_K.moved hW.alike hK9, hD9⟩, hS.F ht⟩) hS.2.2 d_SM_place_9
set_option maxHeartbeats 4000000 in
set_option maxRecDepth 100000 in
/-- place() -/
theorem c_SP_place (l : Launch) (dC : Nat → ClassId) (dI : Nat → Nat → Nat) (x tp sg st ft hy : Nat) (sz : Nat) : Met l y_SP_place [w_SP_place] ({ frames := 0, cells := 0, slots := 0, locals := 0 }) (va_Pc [.ref x] (pr sz (dC, dI) [(x, .inr (0, [.ref tp, .int 0, .int ((-1)), .ref sg, .null, .null, .ref st, .null, .ref ft, .null, .ref hy, .null, .null, .int 0, .null, .null, .null, .null, .null, .null, .int 0]))] [])) (va_Qi (fun (r : Int32) (u : Unit) => r = (-1)) (bw (dC, dI) (va_A [(x, .inr (0, [.ref tp, .int 0, .int ((-1)), .ref sg, .null, .null, .ref st, .null, .ref ft, .null, .ref hy, .null, .null, .int 0, .null, .null, .null, .null, .null, .null, .int 0]))] sz) (fun u : Unit => [(x, .inr (0, [.ref tp, .int 0, .int ((-1)), .ref sg, .null, .null, .ref st, .null, .ref ft, .null, .ref hy, .null, .null, .int 0, .null, .null, .null, .null, .null, .null, .int 0]))]) (fun u : Unit => [])) (va_A [(x, .inr (0, [.ref tp, .int 0, .int ((-1)), .ref sg, .null, .null, .ref st, .null, .ref ft, .null, .ref hy, .null, .null, .int 0, .null, .null, .null, .null, .null, .null, .int 0]))] sz)) 0 0 (va_A [(x, .inr (0, [.ref tp, .int 0, .int ((-1)), .ref sg, .null, .null, .ref st, .null, .ref ft, .null, .ref hy, .null, .null, .int 0, .null, .null, .null, .null, .null, .null, .int 0]))] sz) := by
  refine Met.ofW (cc := b_SP_place) (maxL := 1) (ret := (some .int)) (by decide) rfl ?_
  intro p e s m args below meth c s₁ B hml hv
  obtain ⟨rfl, hsz, hb0, hP, hK, hD0⟩ := hv
  have hx := B.exec
  have hb := B.bytes
  have hr := B.returns
  have hts : ∀ wq ∈ tt, wq.before ([.ref x] : List Value).toArray s = true := hb0.hts
  have hown : s.vm.findClass "ScholarsPress" = some m.cls := findClass_of_methodNamed B.named
  have hlocks := B.notSynchronized
  subst hsz
  have hD := hD0.self (sz := s.heap.size)
  generalize hAe : va_A [(x, .inr (0, [.ref tp, .int 0, .int ((-1)), .ref sg, .null, .null, .ref st, .null, .ref ft, .null, .ref hy, .null, .null, .int 0, .null, .null, .null, .null, .null, .null, .int 0]))] s.heap.size = A at hD ⊢
  have hA : ∀ q : Nat, s.heap.size ≤ q → A q := fun q h => by rw [← hAe]; exact Or.inr h
  have hS : va_S A s.heap s.heap [] := va_S.rf
  have hP : va_P (dC, dI) classes [(x, .inr (0, [.ref tp, .int 0, .int ((-1)), .ref sg, .null, .null, .ref st, .null, .ref ft, .null, .ref hy, .null, .null, .int 0, .null, .null, .null, .null, .null, .null, .int 0]))] s.heap := hP
  have hl := lv_entry ([.ref x]) (n := 1) (Nat.le_of_ble_eq_true rfl)
  rw [lg_entry_eq]
  generalize (lg_sl ([.ref x]) ++ List.replicate (1 - (lg_sl ([.ref x])).length) Slot.unset).toArray = ls at hl ⊢
  have hl : lv_has ls 1 [(0, .ref x)] := hl
  refine lv_aload_n hx hb d_SP_place_0 rfl (lv_at hl 0 rfl) ?_
  refine va_get (D := (dC, dI)) (ci := 0) (v := .int ((-1))) (C := "ScholarsPress") (T := F_SP) (N := 21) hx hb hts in_SP hown hK hP 0 rfl rfl 2 (by decide) (hts (.fieldLink "ScholarsPress" 13 "ScholarsPress" "brokenAt" "I") k_502) (fun _ h9 => h9) rfl d_SP_place_1 ?_
  have hP9 := hP.sub (ws' := [(x, .inr (0, [.ref tp, .int 0, .int ((-1)), .ref sg, .null, .null, .ref st, .null, .ref ft, .null, .ref hy, .null, .null, .int 0, .null, .null, .null, .null, .null, .null, .int 0]))]) [0] rfl
  have hD9 := hD.sub (ws' := [(x, .inr (0, [.ref tp, .int 0, .int ((-1)), .ref sg, .null, .null, .ref st, .null, .ref ft, .null, .ref hy, .null, .null, .int 0, .null, .null, .null, .null, .null, .null, .int 0]))]) [0] (by decide) rfl
  have hK9 := hK.sub (tys' := []) [] rfl
  exact W.iret (v := (-1)) hx hb hr (fun t ht hW => ⟨⟨(-1), (), rfl, rfl, by rw [ht]; exact hP9, va_K.moved hW.alike hK9, hD9⟩, hS.F ht⟩) hS.2.2 d_SP_place_4
set_option maxHeartbeats 4000000 in
set_option maxRecDepth 100000 in
/-- end: the TAPE is empty -/
theorem c_SM_end (l : Launch) (dC : Nat → ClassId) (dI : Nat → Nat → Nat) (mo so : Nat) (mr sr : Nat → Nat) (th : Int32) (n : Int32) (sz : Nat) : Met l y_SM_end [w_SM_end] ({ frames := 1, cells := 0, slots := 0, locals := 60 }) (va_Pc [.ref mo, .int n] (pr sz (dC, dI) [(mo, .inr (6, [.int th, .int ((-1)), .ref (mr 0), .int 0, .ref (mr 1), .ref (mr 2), .ref (mr 3), .ref (mr 4), .ref (mr 5), .ref (mr 6), .ref so, .ref (mr 7), .ref (mr 8), .ref (mr 9), .int 0, .ref (mr 10), .ref (mr 11), .int 0, .ref (mr 12), .int 0, .ref (mr 13), .int 0, .ref (mr 14)]))] [])) (va_Qi (fun (r : Int32) (u : Int32 × Int32) => (u.1 = 1 ∧ ¬ n.toInt = 0) ∨ (u.1 = 0 ∧ r = n ∧ n.toInt = 0)) (bw (dC, dI) (va_A [(mo, .inr (6, [.int th, .int ((-1)), .ref (mr 0), .int 0, .ref (mr 1), .ref (mr 2), .ref (mr 3), .ref (mr 4), .ref (mr 5), .ref (mr 6), .ref so, .ref (mr 7), .ref (mr 8), .ref (mr 9), .int 0, .ref (mr 10), .ref (mr 11), .int 0, .ref (mr 12), .int 0, .ref (mr 13), .int 0, .ref (mr 14)]))] sz) (fun u : Int32 × Int32 => [(mo, .inr (6, [.int u.1, .int ((-1)), .ref (mr 0), .int u.2, .ref (mr 1), .ref (mr 2), .ref (mr 3), .ref (mr 4), .ref (mr 5), .ref (mr 6), .ref so, .ref (mr 7), .ref (mr 8), .ref (mr 9), .int 0, .ref (mr 10), .ref (mr 11), .int 0, .ref (mr 12), .int 0, .ref (mr 13), .int 0, .ref (mr 14)]))]) (fun u : Int32 × Int32 => [])) (va_A [(mo, .inr (6, [.int th, .int ((-1)), .ref (mr 0), .int 0, .ref (mr 1), .ref (mr 2), .ref (mr 3), .ref (mr 4), .ref (mr 5), .ref (mr 6), .ref so, .ref (mr 7), .ref (mr 8), .ref (mr 9), .int 0, .ref (mr 10), .ref (mr 11), .int 0, .ref (mr 12), .int 0, .ref (mr 13), .int 0, .ref (mr 14)]))] sz)) 0 0 (va_A [(mo, .inr (6, [.int th, .int ((-1)), .ref (mr 0), .int 0, .ref (mr 1), .ref (mr 2), .ref (mr 3), .ref (mr 4), .ref (mr 5), .ref (mr 6), .ref so, .ref (mr 7), .ref (mr 8), .ref (mr 9), .int 0, .ref (mr 10), .ref (mr 11), .int 0, .ref (mr 12), .int 0, .ref (mr 13), .int 0, .ref (mr 14)]))] sz) := by
  refine Met.ofW (cc := b_SM_end) (maxL := 2) (ret := (some .int)) (by decide) rfl ?_
  intro p e s m args below meth c s₁ B hml hv
  obtain ⟨rfl, hsz, hb0, hP, hK, hD0⟩ := hv
  have hx := B.exec
  have hb := B.bytes
  have hr := B.returns
  have hts : ∀ wq ∈ tt, wq.before ([.ref mo, .int n] : List Value).toArray s = true := hb0.hts
  have hown : s.vm.findClass "ScholarsPressModel" = some m.cls := findClass_of_methodNamed B.named
  have hlocks := B.notSynchronized
  subst hsz
  have hD := hD0.self (sz := s.heap.size)
  generalize hAe : va_A [(mo, .inr (6, [.int th, .int ((-1)), .ref (mr 0), .int 0, .ref (mr 1), .ref (mr 2), .ref (mr 3), .ref (mr 4), .ref (mr 5), .ref (mr 6), .ref so, .ref (mr 7), .ref (mr 8), .ref (mr 9), .int 0, .ref (mr 10), .ref (mr 11), .int 0, .ref (mr 12), .int 0, .ref (mr 13), .int 0, .ref (mr 14)]))] s.heap.size = A at hD ⊢
  have hA : ∀ q : Nat, s.heap.size ≤ q → A q := fun q h => by rw [← hAe]; exact Or.inr h
  have hS : va_S A s.heap s.heap [] := va_S.rf
  have hP : va_P (dC, dI) classes [(mo, .inr (6, [.int th, .int ((-1)), .ref (mr 0), .int 0, .ref (mr 1), .ref (mr 2), .ref (mr 3), .ref (mr 4), .ref (mr 5), .ref (mr 6), .ref so, .ref (mr 7), .ref (mr 8), .ref (mr 9), .int 0, .ref (mr 10), .ref (mr 11), .int 0, .ref (mr 12), .int 0, .ref (mr 13), .int 0, .ref (mr 14)]))] s.heap := hP
  have hl := lv_entry ([.ref mo, .int n]) (n := 2) (Nat.le_of_ble_eq_true rfl)
  rw [lg_entry_eq]
  generalize (lg_sl ([.ref mo, .int n]) ++ List.replicate (2 - (lg_sl ([.ref mo, .int n])).length) Slot.unset).toArray = ls at hl ⊢
  have hl : lv_has ls 2 [(0, .ref mo), (1, .int n)] := hl
  refine lv_iload_n hx hb d_SM_end_0 rfl (lv_at hl 1 rfl) ?_
  refine lv_if_lt (tgt := 12) hx hb d_SM_end_1 (by decide) (fun c_1 => ?_) (fun c_1 => ?_)
  · refine lv_aload_n hx hb d_SM_end_12 rfl (lv_at hl 0 rfl) ?_
    refine lv_iconst (v := 1) hx hb d_SM_end_13 (by decide) ?_
    refine vi_i (wc := [(mo, .inr (6, [.int th, .int ((-1)), .ref (mr 0), .int 0, .ref (mr 1), .ref (mr 2), .ref (mr 3), .ref (mr 4), .ref (mr 5), .ref (mr 6), .ref so, .ref (mr 7), .ref (mr 8), .ref (mr 9), .int 0, .ref (mr 10), .ref (mr 11), .int 0, .ref (mr 12), .int 0, .ref (mr 13), .int 0, .ref (mr 14)]))]) (wr := []) (va_runV (As := [.int 1]) (rest := []) ⟨hx, hb, hml, hown, hts⟩ (c_SM_refuse l dC dI mo so mr sr th 1 s.heap.size) (cwV 1 hts (tt_V k_3758 k_3760 k_122 k_247 kw_SM_refuse) rfl rfl rfl (by decide +kernel) ⟨Nat.le_of_ble_eq_true rfl, Nat.le_of_ble_eq_true rfl⟩) ⟨pr_blind, va_recv hK hP (ci := 6) (q0 := 0) rfl rfl, pr_pre hb0 (hP.sub [0] rfl) (hK.sub [] rfl) (hD.sub [0] (by decide) rfl)⟩ rfl rfl hl.1 rfl (lv_room (Nat.le_of_ble_eq_true rfl)) d_SM_end_14 ⟨Nat.le_of_ble_eq_true rfl, Nat.le_of_ble_eq_true rfl⟩) hP hD hK hS hA [0] [] rfl rfl (by decide) (by decide) (fun r u H locs hw hP hK hD hS => ?_)
    obtain ⟨rfl, rfl⟩ := hw
    have hP : va_P (dC, dI) classes [(mo, .inr (6, [.int 1, .int ((-1)), .ref (mr 0), .int 0, .ref (mr 1), .ref (mr 2), .ref (mr 3), .ref (mr 4), .ref (mr 5), .ref (mr 6), .ref so, .ref (mr 7), .ref (mr 8), .ref (mr 9), .int 0, .ref (mr 10), .ref (mr 11), .int 0, .ref (mr 12), .int 0, .ref (mr 13), .int 0, .ref (mr 14)]))] H := hP
    have hD : va_D A [(mo, .inr (6, [.int 1, .int ((-1)), .ref (mr 0), .int 0, .ref (mr 1), .ref (mr 2), .ref (mr 3), .ref (mr 4), .ref (mr 5), .ref (mr 6), .ref so, .ref (mr 7), .ref (mr 8), .ref (mr 9), .int 0, .ref (mr 10), .ref (mr 11), .int 0, .ref (mr 12), .int 0, .ref (mr 13), .int 0, .ref (mr 14)]))] := hD
    have hK : va_K (dC, dI) classes [] s := hK
    have hP9 := hP.sub (ws' := [(mo, .inr (6, [.int 1, .int ((-1)), .ref (mr 0), .int 0, .ref (mr 1), .ref (mr 2), .ref (mr 3), .ref (mr 4), .ref (mr 5), .ref (mr 6), .ref so, .ref (mr 7), .ref (mr 8), .ref (mr 9), .int 0, .ref (mr 10), .ref (mr 11), .int 0, .ref (mr 12), .int 0, .ref (mr 13), .int 0, .ref (mr 14)]))]) [0] rfl
    have hD9 := hD.sub (ws' := [(mo, .inr (6, [.int 1, .int ((-1)), .ref (mr 0), .int 0, .ref (mr 1), .ref (mr 2), .ref (mr 3), .ref (mr 4), .ref (mr 5), .ref (mr 6), .ref so, .ref (mr 7), .ref (mr 8), .ref (mr 9), .int 0, .ref (mr 10), .ref (mr 11), .int 0, .ref (mr 12), .int 0, .ref (mr 13), .int 0, .ref (mr 14)]))]) [0] (by decide) rfl
    have hK9 := hK.sub (tys' := []) [] rfl
    exact W.iret (v := 0) hx hb hr (fun t ht hW => ⟨⟨0, (1, 0), rfl, Or.inl ⟨rfl, by simp only [in_0, Int32.lt_iff_toInt_lt, Int32.le_iff_toInt_le, z_0, z_1, z_5, z_6, z_7, z_9, z_10, z_11, z_13, z_20, z_41] at c_1 ⊢; omega⟩, by rw [ht]; exact hP9, va_K.moved hW.alike hK9, hD9⟩, hS.F ht⟩) hS.2.2 d_SM_end_17
  · refine lv_iload_n hx hb d_SM_end_4 rfl (lv_at hl 1 rfl) ?_
    refine lv_aload_n hx hb d_SM_end_5 rfl (lv_at hl 0 rfl) ?_
    refine va_get (D := (dC, dI)) (ci := 6) (v := .int 0) (C := "ScholarsPressModel") (T := F_SM) (N := 23) hx hb hts in_SM hown hK hP 0 rfl rfl 3 (by decide) (hts (.fieldLink "ScholarsPressModel" 104 "ScholarsPressModel" "taped" "I") k_3683) (fun _ h9 => h9) rfl d_SM_end_6 ?_
    refine lv_icmp_le (tgt := 18) hx hb d_SM_end_9 (by decide) (fun c_2 => ?_) (fun c_2 => ?_)
    · refine lv_aload_n hx hb d_SM_end_18 rfl (lv_at hl 0 rfl) ?_
      refine lv_iconst (v := 0) hx hb d_SM_end_19 (by decide) ?_
      refine va_put (D := (dC, dI)) (ci := 6) (v := .int 0) (ty := .int) (C := "ScholarsPressModel") (T := F_SM) (N := 23) hx hb hts in_SM t_SM t_SM_ok n_SM hown hK hP hD hS 0 rfl rfl 0 (by decide) (hts (.fieldLink "ScholarsPressModel" 87 "ScholarsPressModel" "thrown" "I") k_3680) (fun _ h9 => h9) rfl (by decide +kernel) rfl rfl (Nat.le_of_ble_eq_true rfl) d_SM_end_20 (fun H locs hP hD hS => ?_)
      have hP : va_P (dC, dI) classes [(mo, .inr (6, [.int 0, .int ((-1)), .ref (mr 0), .int 0, .ref (mr 1), .ref (mr 2), .ref (mr 3), .ref (mr 4), .ref (mr 5), .ref (mr 6), .ref so, .ref (mr 7), .ref (mr 8), .ref (mr 9), .int 0, .ref (mr 10), .ref (mr 11), .int 0, .ref (mr 12), .int 0, .ref (mr 13), .int 0, .ref (mr 14)]))] H := hP
      have hD : va_D A [(mo, .inr (6, [.int 0, .int ((-1)), .ref (mr 0), .int 0, .ref (mr 1), .ref (mr 2), .ref (mr 3), .ref (mr 4), .ref (mr 5), .ref (mr 6), .ref so, .ref (mr 7), .ref (mr 8), .ref (mr 9), .int 0, .ref (mr 10), .ref (mr 11), .int 0, .ref (mr 12), .int 0, .ref (mr 13), .int 0, .ref (mr 14)]))] := hD
      refine lv_aload_n hx hb d_SM_end_23 rfl (lv_at hl 0 rfl) ?_
      refine lv_iload_n hx hb d_SM_end_24 rfl (lv_at hl 1 rfl) ?_
      refine va_put (D := (dC, dI)) (ci := 6) (v := .int n) (ty := .int) (C := "ScholarsPressModel") (T := F_SM) (N := 23) hx hb hts in_SM t_SM t_SM_ok n_SM hown hK hP hD hS 0 rfl rfl 3 (by decide) (hts (.fieldLink "ScholarsPressModel" 104 "ScholarsPressModel" "taped" "I") k_3683) (fun _ h9 => h9) rfl (by decide +kernel) rfl rfl (Nat.le_of_ble_eq_true rfl) d_SM_end_25 (fun H locs hP hD hS => ?_)
      have hP : va_P (dC, dI) classes [(mo, .inr (6, [.int 0, .int ((-1)), .ref (mr 0), .int n, .ref (mr 1), .ref (mr 2), .ref (mr 3), .ref (mr 4), .ref (mr 5), .ref (mr 6), .ref so, .ref (mr 7), .ref (mr 8), .ref (mr 9), .int 0, .ref (mr 10), .ref (mr 11), .int 0, .ref (mr 12), .int 0, .ref (mr 13), .int 0, .ref (mr 14)]))] H := hP
      have hD : va_D A [(mo, .inr (6, [.int 0, .int ((-1)), .ref (mr 0), .int n, .ref (mr 1), .ref (mr 2), .ref (mr 3), .ref (mr 4), .ref (mr 5), .ref (mr 6), .ref so, .ref (mr 7), .ref (mr 8), .ref (mr 9), .int 0, .ref (mr 10), .ref (mr 11), .int 0, .ref (mr 12), .int 0, .ref (mr 13), .int 0, .ref (mr 14)]))] := hD
      refine lv_iload_n hx hb d_SM_end_28 rfl (lv_at hl 1 rfl) ?_
      have hP9 := hP.sub (ws' := [(mo, .inr (6, [.int 0, .int ((-1)), .ref (mr 0), .int n, .ref (mr 1), .ref (mr 2), .ref (mr 3), .ref (mr 4), .ref (mr 5), .ref (mr 6), .ref so, .ref (mr 7), .ref (mr 8), .ref (mr 9), .int 0, .ref (mr 10), .ref (mr 11), .int 0, .ref (mr 12), .int 0, .ref (mr 13), .int 0, .ref (mr 14)]))]) [0] rfl
      have hD9 := hD.sub (ws' := [(mo, .inr (6, [.int 0, .int ((-1)), .ref (mr 0), .int n, .ref (mr 1), .ref (mr 2), .ref (mr 3), .ref (mr 4), .ref (mr 5), .ref (mr 6), .ref so, .ref (mr 7), .ref (mr 8), .ref (mr 9), .int 0, .ref (mr 10), .ref (mr 11), .int 0, .ref (mr 12), .int 0, .ref (mr 13), .int 0, .ref (mr 14)]))]) [0] (by decide) rfl
      have hK9 := hK.sub (tys' := []) [] rfl
      exact W.iret (v := n) hx hb hr (fun t ht hW => ⟨⟨n, (0, n), rfl, Or.inr ⟨rfl, rfl, by simp only [in_0, Int32.lt_iff_toInt_lt, Int32.le_iff_toInt_le, z_0, z_1, z_5, z_6, z_7, z_9, z_10, z_11, z_13, z_20, z_41] at c_1 c_2 ⊢; omega⟩, by rw [ht]; exact hP9, va_K.moved hW.alike hK9, hD9⟩, hS.F ht⟩) hS.2.2 d_SM_end_29
    · refine lv_aload_n hx hb d_SM_end_12 rfl (lv_at hl 0 rfl) ?_
      refine lv_iconst (v := 1) hx hb d_SM_end_13 (by decide) ?_
      refine vi_i (wc := [(mo, .inr (6, [.int th, .int ((-1)), .ref (mr 0), .int 0, .ref (mr 1), .ref (mr 2), .ref (mr 3), .ref (mr 4), .ref (mr 5), .ref (mr 6), .ref so, .ref (mr 7), .ref (mr 8), .ref (mr 9), .int 0, .ref (mr 10), .ref (mr 11), .int 0, .ref (mr 12), .int 0, .ref (mr 13), .int 0, .ref (mr 14)]))]) (wr := []) (va_runV (As := [.int 1]) (rest := []) ⟨hx, hb, hml, hown, hts⟩ (c_SM_refuse l dC dI mo so mr sr th 1 s.heap.size) (cwV 1 hts (tt_V k_3758 k_3760 k_122 k_247 kw_SM_refuse) rfl rfl rfl (by decide +kernel) ⟨Nat.le_of_ble_eq_true rfl, Nat.le_of_ble_eq_true rfl⟩) ⟨pr_blind, va_recv hK hP (ci := 6) (q0 := 0) rfl rfl, pr_pre hb0 (hP.sub [0] rfl) (hK.sub [] rfl) (hD.sub [0] (by decide) rfl)⟩ rfl rfl hl.1 rfl (lv_room (Nat.le_of_ble_eq_true rfl)) d_SM_end_14 ⟨Nat.le_of_ble_eq_true rfl, Nat.le_of_ble_eq_true rfl⟩) hP hD hK hS hA [0] [] rfl rfl (by decide) (by decide) (fun r u H locs hw hP hK hD hS => ?_)
      obtain ⟨rfl, rfl⟩ := hw
      have hP : va_P (dC, dI) classes [(mo, .inr (6, [.int 1, .int ((-1)), .ref (mr 0), .int 0, .ref (mr 1), .ref (mr 2), .ref (mr 3), .ref (mr 4), .ref (mr 5), .ref (mr 6), .ref so, .ref (mr 7), .ref (mr 8), .ref (mr 9), .int 0, .ref (mr 10), .ref (mr 11), .int 0, .ref (mr 12), .int 0, .ref (mr 13), .int 0, .ref (mr 14)]))] H := hP
      have hD : va_D A [(mo, .inr (6, [.int 1, .int ((-1)), .ref (mr 0), .int 0, .ref (mr 1), .ref (mr 2), .ref (mr 3), .ref (mr 4), .ref (mr 5), .ref (mr 6), .ref so, .ref (mr 7), .ref (mr 8), .ref (mr 9), .int 0, .ref (mr 10), .ref (mr 11), .int 0, .ref (mr 12), .int 0, .ref (mr 13), .int 0, .ref (mr 14)]))] := hD
      have hK : va_K (dC, dI) classes [] s := hK
      have hP9 := hP.sub (ws' := [(mo, .inr (6, [.int 1, .int ((-1)), .ref (mr 0), .int 0, .ref (mr 1), .ref (mr 2), .ref (mr 3), .ref (mr 4), .ref (mr 5), .ref (mr 6), .ref so, .ref (mr 7), .ref (mr 8), .ref (mr 9), .int 0, .ref (mr 10), .ref (mr 11), .int 0, .ref (mr 12), .int 0, .ref (mr 13), .int 0, .ref (mr 14)]))]) [0] rfl
      have hD9 := hD.sub (ws' := [(mo, .inr (6, [.int 1, .int ((-1)), .ref (mr 0), .int 0, .ref (mr 1), .ref (mr 2), .ref (mr 3), .ref (mr 4), .ref (mr 5), .ref (mr 6), .ref so, .ref (mr 7), .ref (mr 8), .ref (mr 9), .int 0, .ref (mr 10), .ref (mr 11), .int 0, .ref (mr 12), .int 0, .ref (mr 13), .int 0, .ref (mr 14)]))]) [0] (by decide) rfl
      have hK9 := hK.sub (tys' := []) [] rfl
      exact W.iret (v := 0) hx hb hr (fun t ht hW => ⟨⟨0, (1, 0), rfl, Or.inl ⟨rfl, by simp only [in_0, Int32.lt_iff_toInt_lt, Int32.le_iff_toInt_le, z_0, z_1, z_5, z_6, z_7, z_9, z_10, z_11, z_13, z_20, z_41] at c_1 c_2 ⊢; omega⟩, by rw [ht]; exact hP9, va_K.moved hW.alike hK9, hD9⟩, hS.F ht⟩) hS.2.2 d_SM_end_17
set_option maxHeartbeats 4000000 in
set_option maxRecDepth 100000 in
/-- count -/
theorem c_SM_count (l : Launch) (dC : Nat → ClassId) (dI : Nat → Nat → Nat) (mo so : Nat) (mr sr : Nat → Nat) (th : Int32) (w : Int32) (sz : Nat) : Met l y_SM_count [w_SM_count] ({ frames := 1, cells := 0, slots := 0, locals := 60 }) (va_Pc [.ref mo, .int w] (pr sz (dC, dI) [(mo, .inr (6, [.int th, .int ((-1)), .ref (mr 0), .int 0, .ref (mr 1), .ref (mr 2), .ref (mr 3), .ref (mr 4), .ref (mr 5), .ref (mr 6), .ref so, .ref (mr 7), .ref (mr 8), .ref (mr 9), .int 0, .ref (mr 10), .ref (mr 11), .int 0, .ref (mr 12), .int 0, .ref (mr 13), .int 0, .ref (mr 14)])), (so, .inr (11, [.ref (sr 0), .int 0, .int 0, .int 0, .int 0, .int 0, .ref (sr 1), .ref (sr 2), .ref (sr 3), .ref (sr 4), .ref (sr 5), .ref (sr 6), .ref (sr 7), .ref (sr 8), .ref (sr 9), .ref (sr 10), .ref (sr 11), .ref (sr 12), .ref (sr 13), .ref (sr 14), .ref (sr 15), .ref (sr 16), .ref (sr 17), .ref (sr 18), .ref (sr 19), .int 0, .int 0, .int 0]))] [])) (va_Qi (fun (r : Int32) (u : Int32) => (u = 1 ∧ ¬ (0 ≤ w.toInt ∧ w.toInt ≤ 11)) ∨ (u = 0 ∧ r = 0 ∧ (0 ≤ w.toInt ∧ w.toInt ≤ 11))) (bw (dC, dI) (va_A [(mo, .inr (6, [.int th, .int ((-1)), .ref (mr 0), .int 0, .ref (mr 1), .ref (mr 2), .ref (mr 3), .ref (mr 4), .ref (mr 5), .ref (mr 6), .ref so, .ref (mr 7), .ref (mr 8), .ref (mr 9), .int 0, .ref (mr 10), .ref (mr 11), .int 0, .ref (mr 12), .int 0, .ref (mr 13), .int 0, .ref (mr 14)])), (so, .inr (11, [.ref (sr 0), .int 0, .int 0, .int 0, .int 0, .int 0, .ref (sr 1), .ref (sr 2), .ref (sr 3), .ref (sr 4), .ref (sr 5), .ref (sr 6), .ref (sr 7), .ref (sr 8), .ref (sr 9), .ref (sr 10), .ref (sr 11), .ref (sr 12), .ref (sr 13), .ref (sr 14), .ref (sr 15), .ref (sr 16), .ref (sr 17), .ref (sr 18), .ref (sr 19), .int 0, .int 0, .int 0]))] sz) (fun u : Int32 => [(mo, .inr (6, [.int u, .int ((-1)), .ref (mr 0), .int 0, .ref (mr 1), .ref (mr 2), .ref (mr 3), .ref (mr 4), .ref (mr 5), .ref (mr 6), .ref so, .ref (mr 7), .ref (mr 8), .ref (mr 9), .int 0, .ref (mr 10), .ref (mr 11), .int 0, .ref (mr 12), .int 0, .ref (mr 13), .int 0, .ref (mr 14)]))]) (fun u : Int32 => [])) (va_A [(mo, .inr (6, [.int th, .int ((-1)), .ref (mr 0), .int 0, .ref (mr 1), .ref (mr 2), .ref (mr 3), .ref (mr 4), .ref (mr 5), .ref (mr 6), .ref so, .ref (mr 7), .ref (mr 8), .ref (mr 9), .int 0, .ref (mr 10), .ref (mr 11), .int 0, .ref (mr 12), .int 0, .ref (mr 13), .int 0, .ref (mr 14)])), (so, .inr (11, [.ref (sr 0), .int 0, .int 0, .int 0, .int 0, .int 0, .ref (sr 1), .ref (sr 2), .ref (sr 3), .ref (sr 4), .ref (sr 5), .ref (sr 6), .ref (sr 7), .ref (sr 8), .ref (sr 9), .ref (sr 10), .ref (sr 11), .ref (sr 12), .ref (sr 13), .ref (sr 14), .ref (sr 15), .ref (sr 16), .ref (sr 17), .ref (sr 18), .ref (sr 19), .int 0, .int 0, .int 0]))] sz)) 0 0 (va_A [(mo, .inr (6, [.int th, .int ((-1)), .ref (mr 0), .int 0, .ref (mr 1), .ref (mr 2), .ref (mr 3), .ref (mr 4), .ref (mr 5), .ref (mr 6), .ref so, .ref (mr 7), .ref (mr 8), .ref (mr 9), .int 0, .ref (mr 10), .ref (mr 11), .int 0, .ref (mr 12), .int 0, .ref (mr 13), .int 0, .ref (mr 14)])), (so, .inr (11, [.ref (sr 0), .int 0, .int 0, .int 0, .int 0, .int 0, .ref (sr 1), .ref (sr 2), .ref (sr 3), .ref (sr 4), .ref (sr 5), .ref (sr 6), .ref (sr 7), .ref (sr 8), .ref (sr 9), .ref (sr 10), .ref (sr 11), .ref (sr 12), .ref (sr 13), .ref (sr 14), .ref (sr 15), .ref (sr 16), .ref (sr 17), .ref (sr 18), .ref (sr 19), .int 0, .int 0, .int 0]))] sz) := by
  refine Met.ofW (cc := b_SM_count) (maxL := 2) (ret := (some .int)) (by decide) rfl ?_
  intro p e s m args below meth c s₁ B hml hv
  obtain ⟨rfl, hsz, hb0, hP, hK, hD0⟩ := hv
  have hx := B.exec
  have hb := B.bytes
  have hr := B.returns
  have hts : ∀ wq ∈ tt, wq.before ([.ref mo, .int w] : List Value).toArray s = true := hb0.hts
  have hown : s.vm.findClass "ScholarsPressModel" = some m.cls := findClass_of_methodNamed B.named
  have hlocks := B.notSynchronized
  subst hsz
  have hD := hD0.self (sz := s.heap.size)
  generalize hAe : va_A [(mo, .inr (6, [.int th, .int ((-1)), .ref (mr 0), .int 0, .ref (mr 1), .ref (mr 2), .ref (mr 3), .ref (mr 4), .ref (mr 5), .ref (mr 6), .ref so, .ref (mr 7), .ref (mr 8), .ref (mr 9), .int 0, .ref (mr 10), .ref (mr 11), .int 0, .ref (mr 12), .int 0, .ref (mr 13), .int 0, .ref (mr 14)])), (so, .inr (11, [.ref (sr 0), .int 0, .int 0, .int 0, .int 0, .int 0, .ref (sr 1), .ref (sr 2), .ref (sr 3), .ref (sr 4), .ref (sr 5), .ref (sr 6), .ref (sr 7), .ref (sr 8), .ref (sr 9), .ref (sr 10), .ref (sr 11), .ref (sr 12), .ref (sr 13), .ref (sr 14), .ref (sr 15), .ref (sr 16), .ref (sr 17), .ref (sr 18), .ref (sr 19), .int 0, .int 0, .int 0]))] s.heap.size = A at hD ⊢
  have hA : ∀ q : Nat, s.heap.size ≤ q → A q := fun q h => by rw [← hAe]; exact Or.inr h
  have hS : va_S A s.heap s.heap [] := va_S.rf
  have hP : va_P (dC, dI) classes [(mo, .inr (6, [.int th, .int ((-1)), .ref (mr 0), .int 0, .ref (mr 1), .ref (mr 2), .ref (mr 3), .ref (mr 4), .ref (mr 5), .ref (mr 6), .ref so, .ref (mr 7), .ref (mr 8), .ref (mr 9), .int 0, .ref (mr 10), .ref (mr 11), .int 0, .ref (mr 12), .int 0, .ref (mr 13), .int 0, .ref (mr 14)])), (so, .inr (11, [.ref (sr 0), .int 0, .int 0, .int 0, .int 0, .int 0, .ref (sr 1), .ref (sr 2), .ref (sr 3), .ref (sr 4), .ref (sr 5), .ref (sr 6), .ref (sr 7), .ref (sr 8), .ref (sr 9), .ref (sr 10), .ref (sr 11), .ref (sr 12), .ref (sr 13), .ref (sr 14), .ref (sr 15), .ref (sr 16), .ref (sr 17), .ref (sr 18), .ref (sr 19), .int 0, .int 0, .int 0]))] s.heap := hP
  have hl := lv_entry ([.ref mo, .int w]) (n := 2) (Nat.le_of_ble_eq_true rfl)
  rw [lg_entry_eq]
  generalize (lg_sl ([.ref mo, .int w]) ++ List.replicate (2 - (lg_sl ([.ref mo, .int w])).length) Slot.unset).toArray = ls at hl ⊢
  have hl : lv_has ls 2 [(0, .ref mo), (1, .int w)] := hl
  refine lv_iload_n hx hb d_SM_count_0 rfl (lv_at hl 1 rfl) ?_
  refine lv_iconst (v := 0) hx hb d_SM_count_1 (by decide) ?_
  refine lv_bipush (v := 11) hx hb d_SM_count_2 (by decide) ?_
  refine vi_i (wc := []) (wr := [(mo, .inr (6, [.int th, .int ((-1)), .ref (mr 0), .int 0, .ref (mr 1), .ref (mr 2), .ref (mr 3), .ref (mr 4), .ref (mr 5), .ref (mr 6), .ref so, .ref (mr 7), .ref (mr 8), .ref (mr 9), .int 0, .ref (mr 10), .ref (mr 11), .int 0, .ref (mr 12), .int 0, .ref (mr 13), .int 0, .ref (mr 14)])), (so, .inr (11, [.ref (sr 0), .int 0, .int 0, .int 0, .int 0, .int 0, .ref (sr 1), .ref (sr 2), .ref (sr 3), .ref (sr 4), .ref (sr 5), .ref (sr 6), .ref (sr 7), .ref (sr 8), .ref (sr 9), .ref (sr 10), .ref (sr 11), .ref (sr 12), .ref (sr 13), .ref (sr 14), .ref (sr 15), .ref (sr 16), .ref (sr 17), .ref (sr 18), .ref (sr 19), .int 0, .int 0, .int 0]))]) (va_runS (As := [.int w, .int 0, .int 11]) (rest := []) ⟨hx, hb, hml, hown, hts⟩ (c_SM_in l dC dI w 0 11 s.heap.size) (va_cwS 3 hts (tt_S2 k_4102 k_4103 k_247 kw_SM_in) rfl rfl rfl (by decide +kernel) ⟨Nat.le_of_ble_eq_true rfl, Nat.le_of_ble_eq_true rfl⟩) ⟨pr_blind, pr_pre hb0 (hP.sub [] rfl) (hK.sub [] rfl) (hD.sub [] (by decide) rfl)⟩ rfl rfl hl.1 rfl (lv_room (Nat.le_of_ble_eq_true rfl)) d_SM_count_4 ⟨Nat.le_of_ble_eq_true rfl, Nat.le_of_ble_eq_true rfl⟩) hP hD hK hS hA [] [0, 1] rfl rfl (by decide) (by decide) (fun r u H locs hw hP hK hD hS => ?_)
  subst hw
  have hP : va_P (dC, dI) classes [(mo, .inr (6, [.int th, .int ((-1)), .ref (mr 0), .int 0, .ref (mr 1), .ref (mr 2), .ref (mr 3), .ref (mr 4), .ref (mr 5), .ref (mr 6), .ref so, .ref (mr 7), .ref (mr 8), .ref (mr 9), .int 0, .ref (mr 10), .ref (mr 11), .int 0, .ref (mr 12), .int 0, .ref (mr 13), .int 0, .ref (mr 14)])), (so, .inr (11, [.ref (sr 0), .int 0, .int 0, .int 0, .int 0, .int 0, .ref (sr 1), .ref (sr 2), .ref (sr 3), .ref (sr 4), .ref (sr 5), .ref (sr 6), .ref (sr 7), .ref (sr 8), .ref (sr 9), .ref (sr 10), .ref (sr 11), .ref (sr 12), .ref (sr 13), .ref (sr 14), .ref (sr 15), .ref (sr 16), .ref (sr 17), .ref (sr 18), .ref (sr 19), .int 0, .int 0, .int 0]))] H := hP
  have hD : va_D A [(mo, .inr (6, [.int th, .int ((-1)), .ref (mr 0), .int 0, .ref (mr 1), .ref (mr 2), .ref (mr 3), .ref (mr 4), .ref (mr 5), .ref (mr 6), .ref so, .ref (mr 7), .ref (mr 8), .ref (mr 9), .int 0, .ref (mr 10), .ref (mr 11), .int 0, .ref (mr 12), .int 0, .ref (mr 13), .int 0, .ref (mr 14)])), (so, .inr (11, [.ref (sr 0), .int 0, .int 0, .int 0, .int 0, .int 0, .ref (sr 1), .ref (sr 2), .ref (sr 3), .ref (sr 4), .ref (sr 5), .ref (sr 6), .ref (sr 7), .ref (sr 8), .ref (sr 9), .ref (sr 10), .ref (sr 11), .ref (sr 12), .ref (sr 13), .ref (sr 14), .ref (sr 15), .ref (sr 16), .ref (sr 17), .ref (sr 18), .ref (sr 19), .int 0, .int 0, .int 0]))] := hD
  have hK : va_K (dC, dI) classes [] s := hK
  refine lv_if_ne (tgt := 16) hx hb d_SM_count_7 (by decide) (fun c_1 => ?_) (fun c_1 => ?_)
  · refine lv_aload_n hx hb d_SM_count_16 rfl (lv_at hl 0 rfl) ?_
    refine lv_iconst (v := 0) hx hb d_SM_count_17 (by decide) ?_
    refine va_put (D := (dC, dI)) (ci := 6) (v := .int 0) (ty := .int) (C := "ScholarsPressModel") (T := F_SM) (N := 23) hx hb hts in_SM t_SM t_SM_ok n_SM hown hK hP hD hS 0 rfl rfl 0 (by decide) (hts (.fieldLink "ScholarsPressModel" 87 "ScholarsPressModel" "thrown" "I") k_3680) (fun _ h9 => h9) rfl (by decide +kernel) rfl rfl (Nat.le_of_ble_eq_true rfl) d_SM_count_18 (fun H locs hP hD hS => ?_)
    have hP : va_P (dC, dI) classes [(mo, .inr (6, [.int 0, .int ((-1)), .ref (mr 0), .int 0, .ref (mr 1), .ref (mr 2), .ref (mr 3), .ref (mr 4), .ref (mr 5), .ref (mr 6), .ref so, .ref (mr 7), .ref (mr 8), .ref (mr 9), .int 0, .ref (mr 10), .ref (mr 11), .int 0, .ref (mr 12), .int 0, .ref (mr 13), .int 0, .ref (mr 14)])), (so, .inr (11, [.ref (sr 0), .int 0, .int 0, .int 0, .int 0, .int 0, .ref (sr 1), .ref (sr 2), .ref (sr 3), .ref (sr 4), .ref (sr 5), .ref (sr 6), .ref (sr 7), .ref (sr 8), .ref (sr 9), .ref (sr 10), .ref (sr 11), .ref (sr 12), .ref (sr 13), .ref (sr 14), .ref (sr 15), .ref (sr 16), .ref (sr 17), .ref (sr 18), .ref (sr 19), .int 0, .int 0, .int 0]))] H := hP
    have hD : va_D A [(mo, .inr (6, [.int 0, .int ((-1)), .ref (mr 0), .int 0, .ref (mr 1), .ref (mr 2), .ref (mr 3), .ref (mr 4), .ref (mr 5), .ref (mr 6), .ref so, .ref (mr 7), .ref (mr 8), .ref (mr 9), .int 0, .ref (mr 10), .ref (mr 11), .int 0, .ref (mr 12), .int 0, .ref (mr 13), .int 0, .ref (mr 14)])), (so, .inr (11, [.ref (sr 0), .int 0, .int 0, .int 0, .int 0, .int 0, .ref (sr 1), .ref (sr 2), .ref (sr 3), .ref (sr 4), .ref (sr 5), .ref (sr 6), .ref (sr 7), .ref (sr 8), .ref (sr 9), .ref (sr 10), .ref (sr 11), .ref (sr 12), .ref (sr 13), .ref (sr 14), .ref (sr 15), .ref (sr 16), .ref (sr 17), .ref (sr 18), .ref (sr 19), .int 0, .int 0, .int 0]))] := hD
    refine lv_iload_n hx hb d_SM_count_21 rfl (lv_at hl 1 rfl) ?_
    have hR : (0 ≤ w.toInt ∧ w.toInt ≤ 11) := by simp only [in_0, Int32.lt_iff_toInt_lt, Int32.le_iff_toInt_le, z_0, z_1, z_5, z_6, z_7, z_9, z_10, z_11, z_13, z_20, z_41] at c_1; omega
    have hj : w.toInt = 0 ∨ w.toInt = 1 ∨ w.toInt = 2 ∨ 2 < w.toInt := by omega
    rcases hj with hj | hj | hj | hj
    · refine lv_tableIn (tgt := 48) hx hb d_SM_count_22 (by omega) (by omega) (off := 26) (by rw [hj]; rfl) (by decide) ?_
      refine lv_aload_n hx hb d_SM_count_48 rfl (lv_at hl 0 rfl) ?_
      refine va_get (D := (dC, dI)) (ci := 6) (v := .ref so) (C := "ScholarsPressModel") (T := F_SM) (N := 23) hx hb hts in_SM hown hK hP 0 rfl rfl 10 (by decide) (hts (.fieldLink "ScholarsPressModel" 50 "ScholarsPressModel" "source" "LScholarsPressModel$Source;") k_3690) (fun _ h9 => h9) rfl d_SM_count_49 ?_
      refine va_get (D := (dC, dI)) (ci := 11) (v := .int 0) (C := "ScholarsPressModel$Source") (T := F_MSource) (N := 28) hx hb hts in_MSource hown hK hP 1 rfl rfl 5 (by decide) (hts (.fieldLink "ScholarsPressModel" 154 "ScholarsPressModel$Source" "there" "Z") k_2976) (fun _ h9 => h9) rfl d_SM_count_52 ?_
      refine lv_if_eq (tgt := 68) hx hb d_SM_count_55 (by decide) (fun c_2 => ?_) (fun c_2 => ?_)
      · refine lv_iconst (v := 0) hx hb d_SM_count_68 (by decide) ?_
        have hP9 := hP.sub (ws' := [(mo, .inr (6, [.int 0, .int ((-1)), .ref (mr 0), .int 0, .ref (mr 1), .ref (mr 2), .ref (mr 3), .ref (mr 4), .ref (mr 5), .ref (mr 6), .ref so, .ref (mr 7), .ref (mr 8), .ref (mr 9), .int 0, .ref (mr 10), .ref (mr 11), .int 0, .ref (mr 12), .int 0, .ref (mr 13), .int 0, .ref (mr 14)]))]) [0] rfl
        have hD9 := hD.sub (ws' := [(mo, .inr (6, [.int 0, .int ((-1)), .ref (mr 0), .int 0, .ref (mr 1), .ref (mr 2), .ref (mr 3), .ref (mr 4), .ref (mr 5), .ref (mr 6), .ref so, .ref (mr 7), .ref (mr 8), .ref (mr 9), .int 0, .ref (mr 10), .ref (mr 11), .int 0, .ref (mr 12), .int 0, .ref (mr 13), .int 0, .ref (mr 14)]))]) [0] (by decide) rfl
        have hK9 := hK.sub (tys' := []) [] rfl
        exact W.iret (v := 0) hx hb hr (fun t ht hW => ⟨⟨0, 0, rfl, Or.inr ⟨rfl, rfl, hR⟩, by rw [ht]; exact hP9, va_K.moved hW.alike hK9, hD9⟩, hS.F ht⟩) hS.2.2 d_SM_count_69
      · exact absurd c_2 (by decide)
    · refine lv_tableIn (tgt := 70) hx hb d_SM_count_22 (by omega) (by omega) (off := 48) (by rw [hj]; rfl) (by decide) ?_
      refine lv_aload_n hx hb d_SM_count_70 rfl (lv_at hl 0 rfl) ?_
      refine va_get (D := (dC, dI)) (ci := 6) (v := .ref so) (C := "ScholarsPressModel") (T := F_SM) (N := 23) hx hb hts in_SM hown hK hP 0 rfl rfl 10 (by decide) (hts (.fieldLink "ScholarsPressModel" 50 "ScholarsPressModel" "source" "LScholarsPressModel$Source;") k_3690) (fun _ h9 => h9) rfl d_SM_count_71 ?_
      refine va_get (D := (dC, dI)) (ci := 11) (v := .int 0) (C := "ScholarsPressModel$Source") (T := F_MSource) (N := 28) hx hb hts in_MSource hown hK hP 1 rfl rfl 5 (by decide) (hts (.fieldLink "ScholarsPressModel" 154 "ScholarsPressModel$Source" "there" "Z") k_2976) (fun _ h9 => h9) rfl d_SM_count_74 ?_
      refine lv_if_eq (tgt := 90) hx hb d_SM_count_77 (by decide) (fun c_3 => ?_) (fun c_3 => ?_)
      · refine lv_iconst (v := 0) hx hb d_SM_count_90 (by decide) ?_
        have hP9 := hP.sub (ws' := [(mo, .inr (6, [.int 0, .int ((-1)), .ref (mr 0), .int 0, .ref (mr 1), .ref (mr 2), .ref (mr 3), .ref (mr 4), .ref (mr 5), .ref (mr 6), .ref so, .ref (mr 7), .ref (mr 8), .ref (mr 9), .int 0, .ref (mr 10), .ref (mr 11), .int 0, .ref (mr 12), .int 0, .ref (mr 13), .int 0, .ref (mr 14)]))]) [0] rfl
        have hD9 := hD.sub (ws' := [(mo, .inr (6, [.int 0, .int ((-1)), .ref (mr 0), .int 0, .ref (mr 1), .ref (mr 2), .ref (mr 3), .ref (mr 4), .ref (mr 5), .ref (mr 6), .ref so, .ref (mr 7), .ref (mr 8), .ref (mr 9), .int 0, .ref (mr 10), .ref (mr 11), .int 0, .ref (mr 12), .int 0, .ref (mr 13), .int 0, .ref (mr 14)]))]) [0] (by decide) rfl
        have hK9 := hK.sub (tys' := []) [] rfl
        exact W.iret (v := 0) hx hb hr (fun t ht hW => ⟨⟨0, 0, rfl, Or.inr ⟨rfl, rfl, hR⟩, by rw [ht]; exact hP9, va_K.moved hW.alike hK9, hD9⟩, hS.F ht⟩) hS.2.2 d_SM_count_91
      · exact absurd c_3 (by decide)
    · refine lv_tableIn (tgt := 92) hx hb d_SM_count_22 (by omega) (by omega) (off := 70) (by rw [hj]; rfl) (by decide) ?_
      refine lv_aload_n hx hb d_SM_count_92 rfl (lv_at hl 0 rfl) ?_
      refine va_get (D := (dC, dI)) (ci := 6) (v := .ref so) (C := "ScholarsPressModel") (T := F_SM) (N := 23) hx hb hts in_SM hown hK hP 0 rfl rfl 10 (by decide) (hts (.fieldLink "ScholarsPressModel" 50 "ScholarsPressModel" "source" "LScholarsPressModel$Source;") k_3690) (fun _ h9 => h9) rfl d_SM_count_93 ?_
      refine va_get (D := (dC, dI)) (ci := 11) (v := .int 0) (C := "ScholarsPressModel$Source") (T := F_MSource) (N := 28) hx hb hts in_MSource hown hK hP 1 rfl rfl 5 (by decide) (hts (.fieldLink "ScholarsPressModel" 154 "ScholarsPressModel$Source" "there" "Z") k_2976) (fun _ h9 => h9) rfl d_SM_count_96 ?_
      refine lv_if_eq (tgt := 112) hx hb d_SM_count_99 (by decide) (fun c_4 => ?_) (fun c_4 => ?_)
      · refine lv_iconst (v := 0) hx hb d_SM_count_112 (by decide) ?_
        have hP9 := hP.sub (ws' := [(mo, .inr (6, [.int 0, .int ((-1)), .ref (mr 0), .int 0, .ref (mr 1), .ref (mr 2), .ref (mr 3), .ref (mr 4), .ref (mr 5), .ref (mr 6), .ref so, .ref (mr 7), .ref (mr 8), .ref (mr 9), .int 0, .ref (mr 10), .ref (mr 11), .int 0, .ref (mr 12), .int 0, .ref (mr 13), .int 0, .ref (mr 14)]))]) [0] rfl
        have hD9 := hD.sub (ws' := [(mo, .inr (6, [.int 0, .int ((-1)), .ref (mr 0), .int 0, .ref (mr 1), .ref (mr 2), .ref (mr 3), .ref (mr 4), .ref (mr 5), .ref (mr 6), .ref so, .ref (mr 7), .ref (mr 8), .ref (mr 9), .int 0, .ref (mr 10), .ref (mr 11), .int 0, .ref (mr 12), .int 0, .ref (mr 13), .int 0, .ref (mr 14)]))]) [0] (by decide) rfl
        have hK9 := hK.sub (tys' := []) [] rfl
        exact W.iret (v := 0) hx hb hr (fun t ht hW => ⟨⟨0, 0, rfl, Or.inr ⟨rfl, rfl, hR⟩, by rw [ht]; exact hP9, va_K.moved hW.alike hK9, hD9⟩, hS.F ht⟩) hS.2.2 d_SM_count_113
      · exact absurd c_4 (by decide)
    · refine lv_tableOut (tgt := 114) hx hb d_SM_count_22 (Or.inr hj) (by decide) ?_
      refine lv_aload_n hx hb d_SM_count_114 rfl (lv_at hl 0 rfl) ?_
      refine va_get (D := (dC, dI)) (ci := 6) (v := .int 0) (C := "ScholarsPressModel") (T := F_SM) (N := 23) hx hb hts in_SM hown hK hP 0 rfl rfl 17 (by decide) (hts (.fieldLink "ScholarsPressModel" 174 "ScholarsPressModel" "isSet" "Z") k_3697) (fun _ h9 => h9) rfl d_SM_count_115 ?_
      refine lv_if_ne (tgt := 123) hx hb d_SM_count_118 (by decide) (fun c_5 => ?_) (fun c_5 => ?_)
      · exact absurd c_5 (by decide)
      · refine lv_iconst (v := 0) hx hb d_SM_count_121 (by decide) ?_
        have hP9 := hP.sub (ws' := [(mo, .inr (6, [.int 0, .int ((-1)), .ref (mr 0), .int 0, .ref (mr 1), .ref (mr 2), .ref (mr 3), .ref (mr 4), .ref (mr 5), .ref (mr 6), .ref so, .ref (mr 7), .ref (mr 8), .ref (mr 9), .int 0, .ref (mr 10), .ref (mr 11), .int 0, .ref (mr 12), .int 0, .ref (mr 13), .int 0, .ref (mr 14)]))]) [0] rfl
        have hD9 := hD.sub (ws' := [(mo, .inr (6, [.int 0, .int ((-1)), .ref (mr 0), .int 0, .ref (mr 1), .ref (mr 2), .ref (mr 3), .ref (mr 4), .ref (mr 5), .ref (mr 6), .ref so, .ref (mr 7), .ref (mr 8), .ref (mr 9), .int 0, .ref (mr 10), .ref (mr 11), .int 0, .ref (mr 12), .int 0, .ref (mr 13), .int 0, .ref (mr 14)]))]) [0] (by decide) rfl
        have hK9 := hK.sub (tys' := []) [] rfl
        exact W.iret (v := 0) hx hb hr (fun t ht hW => ⟨⟨0, 0, rfl, Or.inr ⟨rfl, rfl, hR⟩, by rw [ht]; exact hP9, va_K.moved hW.alike hK9, hD9⟩, hS.F ht⟩) hS.2.2 d_SM_count_122
  · refine lv_aload_n hx hb d_SM_count_10 rfl (lv_at hl 0 rfl) ?_
    refine lv_iconst (v := 1) hx hb d_SM_count_11 (by decide) ?_
    refine vi_i (wc := [(mo, .inr (6, [.int th, .int ((-1)), .ref (mr 0), .int 0, .ref (mr 1), .ref (mr 2), .ref (mr 3), .ref (mr 4), .ref (mr 5), .ref (mr 6), .ref so, .ref (mr 7), .ref (mr 8), .ref (mr 9), .int 0, .ref (mr 10), .ref (mr 11), .int 0, .ref (mr 12), .int 0, .ref (mr 13), .int 0, .ref (mr 14)]))]) (wr := [(so, .inr (11, [.ref (sr 0), .int 0, .int 0, .int 0, .int 0, .int 0, .ref (sr 1), .ref (sr 2), .ref (sr 3), .ref (sr 4), .ref (sr 5), .ref (sr 6), .ref (sr 7), .ref (sr 8), .ref (sr 9), .ref (sr 10), .ref (sr 11), .ref (sr 12), .ref (sr 13), .ref (sr 14), .ref (sr 15), .ref (sr 16), .ref (sr 17), .ref (sr 18), .ref (sr 19), .int 0, .int 0, .int 0]))]) (va_runV (As := [.int 1]) (rest := []) ⟨hx, hb, hml, hown, hts⟩ (c_SM_refuse l dC dI mo so mr sr th 1 H.size) (cwV 1 hts (tt_V k_3758 k_3760 k_122 k_247 kw_SM_refuse) rfl rfl rfl (by decide +kernel) ⟨Nat.le_of_ble_eq_true rfl, Nat.le_of_ble_eq_true rfl⟩) ⟨pr_blind, va_recv hK hP (ci := 6) (q0 := 0) rfl rfl, pr_pre hb0 (hP.sub [0] rfl) (hK.sub [] rfl) (hD.sub [0] (by decide) rfl)⟩ rfl rfl hl.1 rfl (lv_room (Nat.le_of_ble_eq_true rfl)) d_SM_count_12 ⟨Nat.le_of_ble_eq_true rfl, Nat.le_of_ble_eq_true rfl⟩) hP hD hK hS hA [0] [1] rfl rfl (by decide) (by decide) (fun r u H locs hw hP hK hD hS => ?_)
    obtain ⟨rfl, rfl⟩ := hw
    have hP : va_P (dC, dI) classes [(so, .inr (11, [.ref (sr 0), .int 0, .int 0, .int 0, .int 0, .int 0, .ref (sr 1), .ref (sr 2), .ref (sr 3), .ref (sr 4), .ref (sr 5), .ref (sr 6), .ref (sr 7), .ref (sr 8), .ref (sr 9), .ref (sr 10), .ref (sr 11), .ref (sr 12), .ref (sr 13), .ref (sr 14), .ref (sr 15), .ref (sr 16), .ref (sr 17), .ref (sr 18), .ref (sr 19), .int 0, .int 0, .int 0])), (mo, .inr (6, [.int 1, .int ((-1)), .ref (mr 0), .int 0, .ref (mr 1), .ref (mr 2), .ref (mr 3), .ref (mr 4), .ref (mr 5), .ref (mr 6), .ref so, .ref (mr 7), .ref (mr 8), .ref (mr 9), .int 0, .ref (mr 10), .ref (mr 11), .int 0, .ref (mr 12), .int 0, .ref (mr 13), .int 0, .ref (mr 14)]))] H := hP
    have hD : va_D A [(so, .inr (11, [.ref (sr 0), .int 0, .int 0, .int 0, .int 0, .int 0, .ref (sr 1), .ref (sr 2), .ref (sr 3), .ref (sr 4), .ref (sr 5), .ref (sr 6), .ref (sr 7), .ref (sr 8), .ref (sr 9), .ref (sr 10), .ref (sr 11), .ref (sr 12), .ref (sr 13), .ref (sr 14), .ref (sr 15), .ref (sr 16), .ref (sr 17), .ref (sr 18), .ref (sr 19), .int 0, .int 0, .int 0])), (mo, .inr (6, [.int 1, .int ((-1)), .ref (mr 0), .int 0, .ref (mr 1), .ref (mr 2), .ref (mr 3), .ref (mr 4), .ref (mr 5), .ref (mr 6), .ref so, .ref (mr 7), .ref (mr 8), .ref (mr 9), .int 0, .ref (mr 10), .ref (mr 11), .int 0, .ref (mr 12), .int 0, .ref (mr 13), .int 0, .ref (mr 14)]))] := hD
    have hK : va_K (dC, dI) classes [] s := hK
    have hP9 := hP.sub (ws' := [(mo, .inr (6, [.int 1, .int ((-1)), .ref (mr 0), .int 0, .ref (mr 1), .ref (mr 2), .ref (mr 3), .ref (mr 4), .ref (mr 5), .ref (mr 6), .ref so, .ref (mr 7), .ref (mr 8), .ref (mr 9), .int 0, .ref (mr 10), .ref (mr 11), .int 0, .ref (mr 12), .int 0, .ref (mr 13), .int 0, .ref (mr 14)]))]) [1] rfl
    have hD9 := hD.sub (ws' := [(mo, .inr (6, [.int 1, .int ((-1)), .ref (mr 0), .int 0, .ref (mr 1), .ref (mr 2), .ref (mr 3), .ref (mr 4), .ref (mr 5), .ref (mr 6), .ref so, .ref (mr 7), .ref (mr 8), .ref (mr 9), .int 0, .ref (mr 10), .ref (mr 11), .int 0, .ref (mr 12), .int 0, .ref (mr 13), .int 0, .ref (mr 14)]))]) [1] (by decide) rfl
    have hK9 := hK.sub (tys' := []) [] rfl
    exact W.iret (v := 0) hx hb hr (fun t ht hW => ⟨⟨0, 1, rfl, Or.inl ⟨rfl, by simp only [in_0, Int32.lt_iff_toInt_lt, Int32.le_iff_toInt_le, z_0, z_1, z_5, z_6, z_7, z_9, z_10, z_11, z_13, z_20, z_41] at c_1 ⊢; omega⟩, by rw [ht]; exact hP9, va_K.moved hW.alike hK9, hD9⟩, hS.F ht⟩) hS.2.2 d_SM_count_15
end
section
/-! A METHOD WITH HANDLERS THAT CALLS ONE THAT MAY THROW -/
section TWR
variable {p : Program} {l : Launch} {e : Env} {s : State} {m : MethodId} {args : Array Value} {below : List Frame} {meth : Method} {c : Code} {s₁ : State}
/-- the table of handlers, out of the word -/
theorem te_tab {y : MethodName} {S : Spec} {cc : ByteArray} {maxL : Nat} {ret : Option FieldType} {hh : List (Nat × Nat × Nat × Nat)} (B : BodyLoose p l y S cc maxL ret e s m args below meth c s₁) (h : (Cond.codeWith y cc maxL ret hh).before args s = true) :
    c.exceptionTable.toList.map (fun h => (h.startPc, h.endPc, h.handlerPc, h.catchType)) = hh := by
  obtain ⟨m9, meth', c', hn9, hm', hc', -, -, he, -⟩ := Cond.codeWith_spec h
  cases B.named.symm.trans hn9
  cases B.method.symm.trans hm'
  cases (Stand.of_body B).code.symm.trans hc'
  exact he
end TWR
theorem te_e1 {α β : Type} {xs : List α} {f : α → β} {a : β} (h : xs.map f = [a]) : ∃ e1, xs = [e1] ∧ f e1 = a := by
  match xs, h with
  | [e1], h => exact ⟨e1, rfl, by simpa using h⟩
theorem te_e2 {α β : Type} {xs : List α} {f : α → β} {a b : β} (h : xs.map f = [a, b]) : ∃ e1 e2, xs = [e1, e2] ∧ f e1 = a ∧ f e2 = b := by
  match xs, h with
  | [e1, e2], h => exact ⟨e1, e2, rfl, by simpa using h⟩
theorem te_e3 {α β : Type} {xs : List α} {f : α → β} {a b d : β} (h : xs.map f = [a, b, d]) : ∃ e1 e2 e3, xs = [e1, e2, e3] ∧ f e1 = a ∧ f e2 = b ∧ f e3 = d := by
  match xs, h with
  | [e1, e2, e3], h => exact ⟨e1, e2, e3, rfl, by simpa using h⟩
theorem te_e4 {α β : Type} {xs : List α} {f : α → β} {a b d g : β} (h : xs.map f = [a, b, d, g]) : ∃ e1 e2 e3 e4, xs = [e1, e2, e3, e4] ∧ f e1 = a ∧ f e2 = b ∧ f e3 = d ∧ f e4 = g := by
  match xs, h with
  | [e1, e2, e3, e4], h => exact ⟨e1, e2, e3, e4, rfl, by simpa using h⟩
theorem te_keep {D : va_G} {cl : List vw_C} {ws : va_W} {H H1 : Heap} (hP : va_P D cl ws H) (hk : ∀ q : Nat, q < H.size → H1[q]? = H[q]?) : va_P D cl ws H1 := hP.kept (fun k q h => hk q.1 (hP k q h).lt)
theorem te_same {s : State} {C : String} : ∀ cC cD, s.vm.findClass C = some cC → s.vm.findClass C = some cD → s.vm.assignable cC cD = true := by
  intro cC cD h1 h2
  cases h1.symm.trans h2
  exact va_asg _ _
def prT (s0 : State) (sz : Nat) (D : va_G) (ws : va_W) (tys : List (ClassId × FieldType)) (U : State) : Prop := U.heap.size = sz ∧ tb U ∧ te_Base s0 U ∧ va_P D classes ws U.heap ∧ va_K D classes tys U ∧ va_D (fun _ => True) ws
theorem prT_blind {av : List Value} {s0 : State} {sz : Nat} {D : va_G} {ws : va_W} {tys : List (ClassId × FieldType)} : FrameBlind (va_Pc av (prT s0 sz D ws tys)) := by
  intro a U g mk h
  obtain ⟨h0, h1, h2, hb, h3, h4, h5⟩ := h
  exact ⟨h0, h1, h2.calling, hb, h3, va_K.moved (u := U) (U := U.calling g mk a) (Vm.Alike.refl U.vm) h4, h5⟩
/-- the start's old cells stand in the heap H -/
def te_BH (s0 s : State) (H : Heap) : Prop := s0.vm.Alike s.vm ∧ ∀ q : Nat, q < s0.heap.size → H[q]? = s0.heap[q]?
theorem prT_pre {av : List Value} {s0 : State} {D : va_G} {ws : va_W} {tys : List (ClassId × FieldType)} {s : State} {H : Heap} {A : Nat → Prop} (hb : tb s) (hB : te_BH s0 s H) (hP : va_P D classes ws H) (hK : va_K D classes tys s) (hD : va_D A ws) : ∀ U : State, U.heap = H → s.WarmedH U.vm → va_Pc av (prT s0 H.size D ws tys) av.toArray U := by
  intro U hU hW
  exact ⟨rfl, by rw [hU], hb.warm hW, ⟨hB.1.trans hW.alike, by rw [hU]; exact hB.2⟩, by rw [hU]; exact hP, va_K.moved hW.alike hK, hD.weaken (fun _ _ _ _ => trivial)⟩
theorem va_P_nil {D : va_G} {cl : List vw_C} {H : Heap} : va_P D cl [] H := fun k q h => by simp at h
theorem va_D_nil {A : Nat → Prop} : va_D A [] := ⟨fun i j p q h => by simp at h, fun k q h => by simp at h⟩
theorem vp_01 : vp_in (0 : Int32) 1 := by unfold vp_in; decide
end
section
abbrev b_LW_count : ByteArray := method_12_code
abbrev y_LW_count : MethodName := ⟨"ScholarsPressLaw", "count", "(LScholarsPress;I[J)I"⟩
abbrev w_LW_count : Cond := .codeWith y_LW_count b_LW_count 4 (some .int) [(0, 9, 12, 19)]
theorem kw_LW_count : w_LW_count ∈ tt := tt_mem 2509 (by decide +kernel) (by decide +kernel)
abbrev b_LW_set : ByteArray := method_10_code
abbrev y_LW_set : MethodName := ⟨"ScholarsPressLaw", "set", "(LScholarsPress;I[J)I"⟩
abbrev w_LW_set : Cond := .codeWith y_LW_set b_LW_set 4 (some .int) [(0, 9, 12, 19), (0, 9, 15, 40), (0, 9, 18, 13), (0, 9, 21, 45)]
theorem kw_LW_set : w_LW_set ∈ tt := tt_mem 1409 (by decide +kernel) (by decide +kernel)
abbrev b_LW_element : ByteArray := method_11_code
abbrev y_LW_element : MethodName := ⟨"ScholarsPressLaw", "element", "(LScholarsPress;II[J)I"⟩
abbrev w_LW_element : Cond := .codeWith y_LW_element b_LW_element 5 (some .int) [(0, 10, 13, 19), (0, 10, 17, 40)]
theorem kw_LW_element : w_LW_element ∈ tt := tt_mem 2496 (by decide +kernel) (by decide +kernel)
abbrev b_LW_line : ByteArray := method_13_code
abbrev y_LW_line : MethodName := ⟨"ScholarsPressLaw", "line", "(LScholarsPress;II[J)I"⟩
abbrev w_LW_line : Cond := .codeWith y_LW_line b_LW_line 5 (some .int) [(0, 10, 13, 19), (0, 10, 17, 40), (0, 10, 21, 13)]
theorem kw_LW_line : w_LW_line ∈ tt := tt_mem 2524 (by decide +kernel) (by decide +kernel)
abbrev b_LW_spot : ByteArray := method_14_code
abbrev y_LW_spot : MethodName := ⟨"ScholarsPressLaw", "spot", "(LScholarsPress;II[J)I"⟩
abbrev w_LW_spot : Cond := .codeWith y_LW_spot b_LW_spot 5 (some .int) [(0, 9, 12, 40), (0, 9, 16, 13)]
theorem kw_LW_spot : w_LW_spot ∈ tt := tt_mem 2549 (by decide +kernel) (by decide +kernel)
abbrev b_LW_paragraph : ByteArray := method_15_code
abbrev y_LW_paragraph : MethodName := ⟨"ScholarsPressLaw", "paragraph", "(LScholarsPress;II[J)I"⟩
abbrev w_LW_paragraph : Cond := .codeWith y_LW_paragraph b_LW_paragraph 5 (some .int) [(0, 9, 12, 19), (0, 9, 16, 40), (0, 9, 20, 13)]
theorem kw_LW_paragraph : w_LW_paragraph ∈ tt := tt_mem 2568 (by decide +kernel) (by decide +kernel)
abbrev b_LW_judge : ByteArray := method_16_code
abbrev y_LW_judge : MethodName := ⟨"ScholarsPressLaw", "judge", "(LScholarsPress;I[J)I"⟩
abbrev w_LW_judge : Cond := .codeWith y_LW_judge b_LW_judge 4 (some .int) [(0, 8, 11, 40), (0, 8, 14, 13), (0, 8, 17, 25)]
theorem kw_LW_judge : w_LW_judge ∈ tt := tt_mem 2576 (by decide +kernel) (by decide +kernel)
abbrev b_LW_where : ByteArray := method_17_code
abbrev y_LW_where : MethodName := ⟨"ScholarsPressLaw", "where", "(LScholarsPress;I[J)I"⟩
abbrev w_LW_where : Cond := .codeWith y_LW_where b_LW_where 4 (some .int) [(0, 9, 12, 19), (0, 9, 15, 40), (0, 9, 18, 70)]
theorem kw_LW_where : w_LW_where ∈ tt := tt_mem 2593 (by decide +kernel) (by decide +kernel)
abbrev b_LW_note : ByteArray := method_18_code
abbrev y_LW_note : MethodName := ⟨"ScholarsPressLaw", "note", "(LScholarsPress;II[J)I"⟩
abbrev w_LW_note : Cond := .codeWith y_LW_note b_LW_note 5 (some .int) [(0, 10, 13, 19), (0, 10, 17, 40), (0, 10, 21, 13)]
theorem kw_LW_note : w_LW_note ∈ tt := tt_mem 2625 (by decide +kernel) (by decide +kernel)
abbrev b_LW_wavering : ByteArray := method_19_code
abbrev y_LW_wavering : MethodName := ⟨"ScholarsPressLaw", "wavering", "(LScholarsPress;I[J)I"⟩
abbrev w_LW_wavering : Cond := .codeWith y_LW_wavering b_LW_wavering 4 (some .int) [(0, 9, 12, 40), (0, 9, 15, 13)]
theorem kw_LW_wavering : w_LW_wavering ∈ tt := tt_mem 2650 (by decide +kernel) (by decide +kernel)
abbrev b_LW_print : ByteArray := method_20_code
abbrev y_LW_print : MethodName := ⟨"ScholarsPressLaw", "print", "(LScholarsPress;I[J)I"⟩
abbrev w_LW_print : Cond := .codeWith y_LW_print b_LW_print 4 (some .int) [(0, 9, 12, 40), (0, 9, 15, 13)]
theorem kw_LW_print : w_LW_print ∈ tt := tt_mem 2657 (by decide +kernel) (by decide +kernel)
abbrev b_LW_word : ByteArray := method_21_code
abbrev y_LW_word : MethodName := ⟨"ScholarsPressLaw", "word", "(LScholarsPress;I[J)I"⟩
abbrev w_LW_word : Cond := .codeWith y_LW_word b_LW_word 4 (some .int) [(0, 8, 11, 13)]
theorem kw_LW_word : w_LW_word ∈ tt := tt_mem 2694 (by decide +kernel) (by decide +kernel)
abbrev b_LW_change : ByteArray := method_9_code
abbrev y_LW_change : MethodName := ⟨"ScholarsPressLaw", "change", "(LScholarsPress;II[J)I"⟩
abbrev w_LW_change : Cond := .codeWith y_LW_change b_LW_change 5 (some .int) [(0, 10, 13, 19), (0, 10, 17, 40), (0, 10, 21, 13), (0, 10, 25, 25)]
theorem kw_LW_change : w_LW_change ∈ tt := tt_mem 1386 (by decide +kernel) (by decide +kernel)
abbrev b_LW_end : ByteArray := method_4_code
abbrev y_LW_end : MethodName := ⟨"ScholarsPressLaw", "end", "(LScholarsPress;I[J)I"⟩
abbrev w_LW_end : Cond := .codeWith y_LW_end b_LW_end 4 (some .int) [(0, 9, 12, 19)]
theorem kw_LW_end : w_LW_end ∈ tt := tt_mem 652 (by decide +kernel) (by decide +kernel)
theorem k_240 : Cond.initialized "ScholarsPress" ∈ tt := tt_mem 240 (by decide +kernel) (by decide +kernel)
theorem k_571 : Cond.classLink "ScholarsPressLaw" 13 "java/lang/IndexOutOfBoundsException" ∈ tt := tt_mem 571 (by decide +kernel) (by decide +kernel)
theorem k_653 : Cond.classLink "ScholarsPressLaw" 19 "java/lang/IllegalArgumentException" ∈ tt := tt_mem 653 (by decide +kernel) (by decide +kernel)
theorem k_654 : Cond.methodLink "ScholarsPressLaw" 15 ⟨"ScholarsPress", "end", "(I)I"⟩ ∈ tt := tt_mem 654 (by decide +kernel) (by decide +kernel)
theorem k_655 : Cond.instanceMethod ⟨"ScholarsPress", "end", "(I)I"⟩ ∈ tt := tt_mem 655 (by decide +kernel) (by decide +kernel)
theorem k_656 : Cond.selects "ScholarsPress" ⟨"ScholarsPress", "end", "(I)I"⟩ ⟨"ScholarsPress", "end", "(I)I"⟩ ∈ tt := tt_mem 656 (by decide +kernel) (by decide +kernel)
theorem k_1387 : Cond.classLink "ScholarsPressLaw" 40 "java/lang/IllegalStateException" ∈ tt := tt_mem 1387 (by decide +kernel) (by decide +kernel)
theorem k_1388 : Cond.methodLink "ScholarsPressLaw" 36 ⟨"ScholarsPress", "change", "(II)I"⟩ ∈ tt := tt_mem 1388 (by decide +kernel) (by decide +kernel)
theorem k_1389 : Cond.instanceMethod ⟨"ScholarsPress", "change", "(II)I"⟩ ∈ tt := tt_mem 1389 (by decide +kernel) (by decide +kernel)
theorem k_1390 : Cond.selects "ScholarsPress" ⟨"ScholarsPress", "change", "(II)I"⟩ ⟨"ScholarsPress", "change", "(II)I"⟩ ∈ tt := tt_mem 1390 (by decide +kernel) (by decide +kernel)
theorem k_1411 : Cond.methodLink "ScholarsPressLaw" 42 ⟨"ScholarsPress", "set", "(I)I"⟩ ∈ tt := tt_mem 1411 (by decide +kernel) (by decide +kernel)
theorem k_1412 : Cond.instanceMethod ⟨"ScholarsPress", "set", "(I)I"⟩ ∈ tt := tt_mem 1412 (by decide +kernel) (by decide +kernel)
theorem k_1413 : Cond.selects "ScholarsPress" ⟨"ScholarsPress", "set", "(I)I"⟩ ⟨"ScholarsPress", "set", "(I)I"⟩ ∈ tt := tt_mem 1413 (by decide +kernel) (by decide +kernel)
theorem k_2497 : Cond.methodLink "ScholarsPressLaw" 47 ⟨"ScholarsPress", "element", "(II)I"⟩ ∈ tt := tt_mem 2497 (by decide +kernel) (by decide +kernel)
theorem k_2498 : Cond.instanceMethod ⟨"ScholarsPress", "element", "(II)I"⟩ ∈ tt := tt_mem 2498 (by decide +kernel) (by decide +kernel)
theorem k_2499 : Cond.selects "ScholarsPress" ⟨"ScholarsPress", "element", "(II)I"⟩ ⟨"ScholarsPress", "element", "(II)I"⟩ ∈ tt := tt_mem 2499 (by decide +kernel) (by decide +kernel)
theorem k_2510 : Cond.methodLink "ScholarsPressLaw" 50 ⟨"ScholarsPress", "count", "(I)I"⟩ ∈ tt := tt_mem 2510 (by decide +kernel) (by decide +kernel)
theorem k_2511 : Cond.instanceMethod ⟨"ScholarsPress", "count", "(I)I"⟩ ∈ tt := tt_mem 2511 (by decide +kernel) (by decide +kernel)
theorem k_2512 : Cond.selects "ScholarsPress" ⟨"ScholarsPress", "count", "(I)I"⟩ ⟨"ScholarsPress", "count", "(I)I"⟩ ∈ tt := tt_mem 2512 (by decide +kernel) (by decide +kernel)
theorem k_2525 : Cond.methodLink "ScholarsPressLaw" 53 ⟨"ScholarsPress", "line", "(II)I"⟩ ∈ tt := tt_mem 2525 (by decide +kernel) (by decide +kernel)
theorem k_2526 : Cond.instanceMethod ⟨"ScholarsPress", "line", "(II)I"⟩ ∈ tt := tt_mem 2526 (by decide +kernel) (by decide +kernel)
theorem k_2527 : Cond.selects "ScholarsPress" ⟨"ScholarsPress", "line", "(II)I"⟩ ⟨"ScholarsPress", "line", "(II)I"⟩ ∈ tt := tt_mem 2527 (by decide +kernel) (by decide +kernel)
theorem k_2550 : Cond.methodLink "ScholarsPressLaw" 56 ⟨"ScholarsPress", "spot", "(II)J"⟩ ∈ tt := tt_mem 2550 (by decide +kernel) (by decide +kernel)
theorem k_2551 : Cond.instanceMethod ⟨"ScholarsPress", "spot", "(II)J"⟩ ∈ tt := tt_mem 2551 (by decide +kernel) (by decide +kernel)
theorem k_2552 : Cond.selects "ScholarsPress" ⟨"ScholarsPress", "spot", "(II)J"⟩ ⟨"ScholarsPress", "spot", "(II)J"⟩ ∈ tt := tt_mem 2552 (by decide +kernel) (by decide +kernel)
theorem k_2569 : Cond.methodLink "ScholarsPressLaw" 60 ⟨"ScholarsPress", "paragraph", "(II)J"⟩ ∈ tt := tt_mem 2569 (by decide +kernel) (by decide +kernel)
theorem k_2570 : Cond.instanceMethod ⟨"ScholarsPress", "paragraph", "(II)J"⟩ ∈ tt := tt_mem 2570 (by decide +kernel) (by decide +kernel)
theorem k_2571 : Cond.selects "ScholarsPress" ⟨"ScholarsPress", "paragraph", "(II)J"⟩ ⟨"ScholarsPress", "paragraph", "(II)J"⟩ ∈ tt := tt_mem 2571 (by decide +kernel) (by decide +kernel)
theorem k_2577 : Cond.methodLink "ScholarsPressLaw" 63 ⟨"ScholarsPress", "judge", "(I)J"⟩ ∈ tt := tt_mem 2577 (by decide +kernel) (by decide +kernel)
theorem k_2578 : Cond.instanceMethod ⟨"ScholarsPress", "judge", "(I)J"⟩ ∈ tt := tt_mem 2578 (by decide +kernel) (by decide +kernel)
theorem k_2579 : Cond.selects "ScholarsPress" ⟨"ScholarsPress", "judge", "(I)J"⟩ ⟨"ScholarsPress", "judge", "(I)J"⟩ ∈ tt := tt_mem 2579 (by decide +kernel) (by decide +kernel)
theorem k_2595 : Cond.methodLink "ScholarsPressLaw" 67 ⟨"ScholarsPress", "where", "(I)I"⟩ ∈ tt := tt_mem 2595 (by decide +kernel) (by decide +kernel)
theorem k_2596 : Cond.instanceMethod ⟨"ScholarsPress", "where", "(I)I"⟩ ∈ tt := tt_mem 2596 (by decide +kernel) (by decide +kernel)
theorem k_2597 : Cond.selects "ScholarsPress" ⟨"ScholarsPress", "where", "(I)I"⟩ ⟨"ScholarsPress", "where", "(I)I"⟩ ∈ tt := tt_mem 2597 (by decide +kernel) (by decide +kernel)
theorem k_2626 : Cond.methodLink "ScholarsPressLaw" 72 ⟨"ScholarsPress", "note", "(II)I"⟩ ∈ tt := tt_mem 2626 (by decide +kernel) (by decide +kernel)
theorem k_2627 : Cond.instanceMethod ⟨"ScholarsPress", "note", "(II)I"⟩ ∈ tt := tt_mem 2627 (by decide +kernel) (by decide +kernel)
theorem k_2628 : Cond.selects "ScholarsPress" ⟨"ScholarsPress", "note", "(II)I"⟩ ⟨"ScholarsPress", "note", "(II)I"⟩ ∈ tt := tt_mem 2628 (by decide +kernel) (by decide +kernel)
theorem k_2651 : Cond.methodLink "ScholarsPressLaw" 75 ⟨"ScholarsPress", "wavering", "(I)I"⟩ ∈ tt := tt_mem 2651 (by decide +kernel) (by decide +kernel)
theorem k_2652 : Cond.instanceMethod ⟨"ScholarsPress", "wavering", "(I)I"⟩ ∈ tt := tt_mem 2652 (by decide +kernel) (by decide +kernel)
theorem k_2653 : Cond.selects "ScholarsPress" ⟨"ScholarsPress", "wavering", "(I)I"⟩ ⟨"ScholarsPress", "wavering", "(I)I"⟩ ∈ tt := tt_mem 2653 (by decide +kernel) (by decide +kernel)
theorem k_2658 : Cond.methodLink "ScholarsPressLaw" 78 ⟨"ScholarsPress", "print", "(I)I"⟩ ∈ tt := tt_mem 2658 (by decide +kernel) (by decide +kernel)
theorem k_2659 : Cond.instanceMethod ⟨"ScholarsPress", "print", "(I)I"⟩ ∈ tt := tt_mem 2659 (by decide +kernel) (by decide +kernel)
theorem k_2660 : Cond.selects "ScholarsPress" ⟨"ScholarsPress", "print", "(I)I"⟩ ⟨"ScholarsPress", "print", "(I)I"⟩ ∈ tt := tt_mem 2660 (by decide +kernel) (by decide +kernel)
theorem k_2695 : Cond.methodLink "ScholarsPressLaw" 81 ⟨"ScholarsPress", "word", "(I)J"⟩ ∈ tt := tt_mem 2695 (by decide +kernel) (by decide +kernel)
theorem k_2696 : Cond.instanceMethod ⟨"ScholarsPress", "word", "(I)J"⟩ ∈ tt := tt_mem 2696 (by decide +kernel) (by decide +kernel)
theorem k_2697 : Cond.selects "ScholarsPress" ⟨"ScholarsPress", "word", "(I)J"⟩ ⟨"ScholarsPress", "word", "(I)J"⟩ ∈ tt := tt_mem 2697 (by decide +kernel) (by decide +kernel)
theorem d_LW_change_0 : decode b_LW_change 0 = .ok (.aload_n 3, 1) := by decide +kernel
theorem d_LW_change_1 : decode b_LW_change 1 = .ok (.iconst 0, 1) := by decide +kernel
theorem d_LW_change_2 : decode b_LW_change 2 = .ok (.aload_n 0, 1) := by decide +kernel
theorem d_LW_change_3 : decode b_LW_change 3 = .ok (.iload_n 1, 1) := by decide +kernel
theorem d_LW_change_4 : decode b_LW_change 4 = .ok (.iload_n 2, 1) := by decide +kernel
theorem d_LW_change_5 : decode b_LW_change 5 = .ok (.invokevirtual 36, 3) := by decide +kernel
theorem d_LW_change_13 : decode b_LW_change 13 = .ok (.astore 4, 2) := by decide +kernel
theorem d_LW_change_15 : decode b_LW_change 15 = .ok (.iconst 1, 1) := by decide +kernel
theorem d_LW_change_16 : decode b_LW_change 16 = .ok (.ireturn, 1) := by decide +kernel
theorem d_LW_change_17 : decode b_LW_change 17 = .ok (.astore 4, 2) := by decide +kernel
theorem d_LW_change_19 : decode b_LW_change 19 = .ok (.iconst 2, 1) := by decide +kernel
theorem d_LW_change_20 : decode b_LW_change 20 = .ok (.ireturn, 1) := by decide +kernel
theorem d_LW_count_0 : decode b_LW_count 0 = .ok (.aload_n 2, 1) := by decide +kernel
theorem d_LW_count_1 : decode b_LW_count 1 = .ok (.iconst 0, 1) := by decide +kernel
theorem d_LW_count_2 : decode b_LW_count 2 = .ok (.aload_n 0, 1) := by decide +kernel
theorem d_LW_count_3 : decode b_LW_count 3 = .ok (.iload_n 1, 1) := by decide +kernel
theorem d_LW_count_4 : decode b_LW_count 4 = .ok (.invokevirtual 50, 3) := by decide +kernel
theorem d_LW_count_7 : decode b_LW_count 7 = .ok (.i2l, 1) := by decide +kernel
theorem d_LW_count_8 : decode b_LW_count 8 = .ok (.lastore, 1) := by decide +kernel
theorem d_LW_count_9 : decode b_LW_count 9 = .ok (.goto 6, 3) := by decide +kernel
theorem d_LW_count_12 : decode b_LW_count 12 = .ok (.astore_n 3, 1) := by decide +kernel
theorem d_LW_count_13 : decode b_LW_count 13 = .ok (.iconst 1, 1) := by decide +kernel
theorem d_LW_count_14 : decode b_LW_count 14 = .ok (.ireturn, 1) := by decide +kernel
theorem d_LW_count_15 : decode b_LW_count 15 = .ok (.iconst 0, 1) := by decide +kernel
theorem d_LW_count_16 : decode b_LW_count 16 = .ok (.ireturn, 1) := by decide +kernel
theorem d_LW_element_0 : decode b_LW_element 0 = .ok (.aload_n 3, 1) := by decide +kernel
theorem d_LW_element_1 : decode b_LW_element 1 = .ok (.iconst 0, 1) := by decide +kernel
theorem d_LW_element_2 : decode b_LW_element 2 = .ok (.aload_n 0, 1) := by decide +kernel
theorem d_LW_element_3 : decode b_LW_element 3 = .ok (.iload_n 1, 1) := by decide +kernel
theorem d_LW_element_4 : decode b_LW_element 4 = .ok (.iload_n 2, 1) := by decide +kernel
theorem d_LW_element_5 : decode b_LW_element 5 = .ok (.invokevirtual 47, 3) := by decide +kernel
theorem d_LW_element_13 : decode b_LW_element 13 = .ok (.astore 4, 2) := by decide +kernel
theorem d_LW_element_15 : decode b_LW_element 15 = .ok (.iconst 1, 1) := by decide +kernel
theorem d_LW_element_16 : decode b_LW_element 16 = .ok (.ireturn, 1) := by decide +kernel
theorem d_LW_element_17 : decode b_LW_element 17 = .ok (.astore 4, 2) := by decide +kernel
theorem d_LW_element_19 : decode b_LW_element 19 = .ok (.iconst 2, 1) := by decide +kernel
theorem d_LW_element_20 : decode b_LW_element 20 = .ok (.ireturn, 1) := by decide +kernel
theorem d_LW_end_0 : decode b_LW_end 0 = .ok (.aload_n 2, 1) := by decide +kernel
theorem d_LW_end_1 : decode b_LW_end 1 = .ok (.iconst 0, 1) := by decide +kernel
theorem d_LW_end_2 : decode b_LW_end 2 = .ok (.aload_n 0, 1) := by decide +kernel
theorem d_LW_end_3 : decode b_LW_end 3 = .ok (.iload_n 1, 1) := by decide +kernel
theorem d_LW_end_4 : decode b_LW_end 4 = .ok (.invokevirtual 15, 3) := by decide +kernel
theorem d_LW_end_7 : decode b_LW_end 7 = .ok (.i2l, 1) := by decide +kernel
theorem d_LW_end_8 : decode b_LW_end 8 = .ok (.lastore, 1) := by decide +kernel
theorem d_LW_end_9 : decode b_LW_end 9 = .ok (.goto 6, 3) := by decide +kernel
theorem d_LW_end_12 : decode b_LW_end 12 = .ok (.astore_n 3, 1) := by decide +kernel
theorem d_LW_end_13 : decode b_LW_end 13 = .ok (.iconst 1, 1) := by decide +kernel
theorem d_LW_end_14 : decode b_LW_end 14 = .ok (.ireturn, 1) := by decide +kernel
theorem d_LW_end_15 : decode b_LW_end 15 = .ok (.iconst 0, 1) := by decide +kernel
theorem d_LW_end_16 : decode b_LW_end 16 = .ok (.ireturn, 1) := by decide +kernel
theorem d_LW_judge_0 : decode b_LW_judge 0 = .ok (.aload_n 2, 1) := by decide +kernel
theorem d_LW_judge_1 : decode b_LW_judge 1 = .ok (.iconst 0, 1) := by decide +kernel
theorem d_LW_judge_2 : decode b_LW_judge 2 = .ok (.aload_n 0, 1) := by decide +kernel
theorem d_LW_judge_3 : decode b_LW_judge 3 = .ok (.iload_n 1, 1) := by decide +kernel
theorem d_LW_judge_4 : decode b_LW_judge 4 = .ok (.invokevirtual 63, 3) := by decide +kernel
theorem d_LW_judge_11 : decode b_LW_judge 11 = .ok (.astore_n 3, 1) := by decide +kernel
theorem d_LW_judge_12 : decode b_LW_judge 12 = .ok (.iconst 1, 1) := by decide +kernel
theorem d_LW_judge_13 : decode b_LW_judge 13 = .ok (.ireturn, 1) := by decide +kernel
theorem d_LW_line_0 : decode b_LW_line 0 = .ok (.aload_n 3, 1) := by decide +kernel
theorem d_LW_line_1 : decode b_LW_line 1 = .ok (.iconst 0, 1) := by decide +kernel
theorem d_LW_line_2 : decode b_LW_line 2 = .ok (.aload_n 0, 1) := by decide +kernel
theorem d_LW_line_3 : decode b_LW_line 3 = .ok (.iload_n 1, 1) := by decide +kernel
theorem d_LW_line_4 : decode b_LW_line 4 = .ok (.iload_n 2, 1) := by decide +kernel
theorem d_LW_line_5 : decode b_LW_line 5 = .ok (.invokevirtual 53, 3) := by decide +kernel
theorem d_LW_line_13 : decode b_LW_line 13 = .ok (.astore 4, 2) := by decide +kernel
theorem d_LW_line_15 : decode b_LW_line 15 = .ok (.iconst 1, 1) := by decide +kernel
theorem d_LW_line_16 : decode b_LW_line 16 = .ok (.ireturn, 1) := by decide +kernel
theorem d_LW_line_17 : decode b_LW_line 17 = .ok (.astore 4, 2) := by decide +kernel
theorem d_LW_line_19 : decode b_LW_line 19 = .ok (.iconst 2, 1) := by decide +kernel
theorem d_LW_line_20 : decode b_LW_line 20 = .ok (.ireturn, 1) := by decide +kernel
theorem d_LW_note_0 : decode b_LW_note 0 = .ok (.aload_n 3, 1) := by decide +kernel
theorem d_LW_note_1 : decode b_LW_note 1 = .ok (.iconst 0, 1) := by decide +kernel
theorem d_LW_note_2 : decode b_LW_note 2 = .ok (.aload_n 0, 1) := by decide +kernel
theorem d_LW_note_3 : decode b_LW_note 3 = .ok (.iload_n 1, 1) := by decide +kernel
theorem d_LW_note_4 : decode b_LW_note 4 = .ok (.iload_n 2, 1) := by decide +kernel
theorem d_LW_note_5 : decode b_LW_note 5 = .ok (.invokevirtual 72, 3) := by decide +kernel
theorem d_LW_note_13 : decode b_LW_note 13 = .ok (.astore 4, 2) := by decide +kernel
theorem d_LW_note_15 : decode b_LW_note 15 = .ok (.iconst 1, 1) := by decide +kernel
theorem d_LW_note_16 : decode b_LW_note 16 = .ok (.ireturn, 1) := by decide +kernel
theorem d_LW_note_17 : decode b_LW_note 17 = .ok (.astore 4, 2) := by decide +kernel
theorem d_LW_note_19 : decode b_LW_note 19 = .ok (.iconst 2, 1) := by decide +kernel
theorem d_LW_note_20 : decode b_LW_note 20 = .ok (.ireturn, 1) := by decide +kernel
theorem d_LW_paragraph_0 : decode b_LW_paragraph 0 = .ok (.aload_n 3, 1) := by decide +kernel
theorem d_LW_paragraph_1 : decode b_LW_paragraph 1 = .ok (.iconst 0, 1) := by decide +kernel
theorem d_LW_paragraph_2 : decode b_LW_paragraph 2 = .ok (.aload_n 0, 1) := by decide +kernel
theorem d_LW_paragraph_3 : decode b_LW_paragraph 3 = .ok (.iload_n 1, 1) := by decide +kernel
theorem d_LW_paragraph_4 : decode b_LW_paragraph 4 = .ok (.iload_n 2, 1) := by decide +kernel
theorem d_LW_paragraph_5 : decode b_LW_paragraph 5 = .ok (.invokevirtual 60, 3) := by decide +kernel
theorem d_LW_paragraph_12 : decode b_LW_paragraph 12 = .ok (.astore 4, 2) := by decide +kernel
theorem d_LW_paragraph_14 : decode b_LW_paragraph 14 = .ok (.iconst 1, 1) := by decide +kernel
theorem d_LW_paragraph_15 : decode b_LW_paragraph 15 = .ok (.ireturn, 1) := by decide +kernel
theorem d_LW_paragraph_16 : decode b_LW_paragraph 16 = .ok (.astore 4, 2) := by decide +kernel
theorem d_LW_paragraph_18 : decode b_LW_paragraph 18 = .ok (.iconst 2, 1) := by decide +kernel
theorem d_LW_paragraph_19 : decode b_LW_paragraph 19 = .ok (.ireturn, 1) := by decide +kernel
theorem d_LW_print_0 : decode b_LW_print 0 = .ok (.aload_n 2, 1) := by decide +kernel
theorem d_LW_print_1 : decode b_LW_print 1 = .ok (.iconst 0, 1) := by decide +kernel
theorem d_LW_print_2 : decode b_LW_print 2 = .ok (.aload_n 0, 1) := by decide +kernel
theorem d_LW_print_3 : decode b_LW_print 3 = .ok (.iload_n 1, 1) := by decide +kernel
theorem d_LW_print_4 : decode b_LW_print 4 = .ok (.invokevirtual 78, 3) := by decide +kernel
theorem d_LW_print_12 : decode b_LW_print 12 = .ok (.astore_n 3, 1) := by decide +kernel
theorem d_LW_print_13 : decode b_LW_print 13 = .ok (.iconst 1, 1) := by decide +kernel
theorem d_LW_print_14 : decode b_LW_print 14 = .ok (.ireturn, 1) := by decide +kernel
theorem d_LW_set_0 : decode b_LW_set 0 = .ok (.aload_n 2, 1) := by decide +kernel
theorem d_LW_set_1 : decode b_LW_set 1 = .ok (.iconst 0, 1) := by decide +kernel
theorem d_LW_set_2 : decode b_LW_set 2 = .ok (.aload_n 0, 1) := by decide +kernel
theorem d_LW_set_3 : decode b_LW_set 3 = .ok (.iload_n 1, 1) := by decide +kernel
theorem d_LW_set_4 : decode b_LW_set 4 = .ok (.invokevirtual 42, 3) := by decide +kernel
theorem d_LW_set_12 : decode b_LW_set 12 = .ok (.astore_n 3, 1) := by decide +kernel
theorem d_LW_set_13 : decode b_LW_set 13 = .ok (.iconst 1, 1) := by decide +kernel
theorem d_LW_set_14 : decode b_LW_set 14 = .ok (.ireturn, 1) := by decide +kernel
theorem d_LW_set_15 : decode b_LW_set 15 = .ok (.astore_n 3, 1) := by decide +kernel
theorem d_LW_set_16 : decode b_LW_set 16 = .ok (.iconst 2, 1) := by decide +kernel
theorem d_LW_set_17 : decode b_LW_set 17 = .ok (.ireturn, 1) := by decide +kernel
theorem d_LW_spot_0 : decode b_LW_spot 0 = .ok (.aload_n 3, 1) := by decide +kernel
theorem d_LW_spot_1 : decode b_LW_spot 1 = .ok (.iconst 0, 1) := by decide +kernel
theorem d_LW_spot_2 : decode b_LW_spot 2 = .ok (.aload_n 0, 1) := by decide +kernel
theorem d_LW_spot_3 : decode b_LW_spot 3 = .ok (.iload_n 1, 1) := by decide +kernel
theorem d_LW_spot_4 : decode b_LW_spot 4 = .ok (.iload_n 2, 1) := by decide +kernel
theorem d_LW_spot_5 : decode b_LW_spot 5 = .ok (.invokevirtual 56, 3) := by decide +kernel
theorem d_LW_spot_12 : decode b_LW_spot 12 = .ok (.astore 4, 2) := by decide +kernel
theorem d_LW_spot_14 : decode b_LW_spot 14 = .ok (.iconst 1, 1) := by decide +kernel
theorem d_LW_spot_15 : decode b_LW_spot 15 = .ok (.ireturn, 1) := by decide +kernel
theorem d_LW_wavering_0 : decode b_LW_wavering 0 = .ok (.aload_n 2, 1) := by decide +kernel
theorem d_LW_wavering_1 : decode b_LW_wavering 1 = .ok (.iconst 0, 1) := by decide +kernel
theorem d_LW_wavering_2 : decode b_LW_wavering 2 = .ok (.aload_n 0, 1) := by decide +kernel
theorem d_LW_wavering_3 : decode b_LW_wavering 3 = .ok (.iload_n 1, 1) := by decide +kernel
theorem d_LW_wavering_4 : decode b_LW_wavering 4 = .ok (.invokevirtual 75, 3) := by decide +kernel
theorem d_LW_wavering_12 : decode b_LW_wavering 12 = .ok (.astore_n 3, 1) := by decide +kernel
theorem d_LW_wavering_13 : decode b_LW_wavering 13 = .ok (.iconst 1, 1) := by decide +kernel
theorem d_LW_wavering_14 : decode b_LW_wavering 14 = .ok (.ireturn, 1) := by decide +kernel
theorem d_LW_where_0 : decode b_LW_where 0 = .ok (.aload_n 2, 1) := by decide +kernel
theorem d_LW_where_1 : decode b_LW_where 1 = .ok (.iconst 0, 1) := by decide +kernel
theorem d_LW_where_2 : decode b_LW_where 2 = .ok (.aload_n 0, 1) := by decide +kernel
theorem d_LW_where_3 : decode b_LW_where 3 = .ok (.iload_n 1, 1) := by decide +kernel
theorem d_LW_where_4 : decode b_LW_where 4 = .ok (.invokevirtual 67, 3) := by decide +kernel
theorem d_LW_where_12 : decode b_LW_where 12 = .ok (.astore_n 3, 1) := by decide +kernel
theorem d_LW_where_13 : decode b_LW_where 13 = .ok (.iconst 1, 1) := by decide +kernel
theorem d_LW_where_14 : decode b_LW_where 14 = .ok (.ireturn, 1) := by decide +kernel
theorem d_LW_where_15 : decode b_LW_where 15 = .ok (.astore_n 3, 1) := by decide +kernel
theorem d_LW_where_16 : decode b_LW_where 16 = .ok (.iconst 2, 1) := by decide +kernel
theorem d_LW_where_17 : decode b_LW_where 17 = .ok (.ireturn, 1) := by decide +kernel
theorem d_LW_word_0 : decode b_LW_word 0 = .ok (.aload_n 2, 1) := by decide +kernel
theorem d_LW_word_1 : decode b_LW_word 1 = .ok (.iconst 0, 1) := by decide +kernel
theorem d_LW_word_2 : decode b_LW_word 2 = .ok (.aload_n 0, 1) := by decide +kernel
theorem d_LW_word_3 : decode b_LW_word 3 = .ok (.iload_n 1, 1) := by decide +kernel
theorem d_LW_word_4 : decode b_LW_word 4 = .ok (.invokevirtual 81, 3) := by decide +kernel
theorem d_LW_word_11 : decode b_LW_word 11 = .ok (.astore_n 3, 1) := by decide +kernel
theorem d_LW_word_12 : decode b_LW_word 12 = .ok (.iconst 1, 1) := by decide +kernel
theorem d_LW_word_13 : decode b_LW_word 13 = .ok (.ireturn, 1) := by decide +kernel
end
section
set_option maxHeartbeats 4000000 in
set_option maxRecDepth 100000 in
/-- the law's count on a fresh object -/
theorem c_LW_count {l : Launch} (hfl : l.flags = flags0) {s0 : State} (hS0 : te_S0 s0) (hNc : va_Nc x_ISE x_IAE s0) (dC : Nat → ClassId) (dI : Nat → Nat → Nat) (x tp sg st ft hy ou : Nat) (cJ : ClassId) (fo : Nat → Int64) (w : Int32) (sz : Nat) : Met l y_LW_count [w_LW_count] ({ frames := 8, cells := 1, slots := 6, locals := 260 }) (va_Pc [.ref x, .int w, .ref ou] (prT s0 sz (dC, dI) [(x, .inr (0, [.ref tp, .int 0, .int ((-1)), .ref sg, .null, .null, .ref st, .null, .ref ft, .null, .ref hy, .null, .null, .int 0, .null, .null, .null, .null, .null, .null, .int 0])), (ou, .inl (cJ, 1, .inr (.inl fo)))] [(cJ, .long)])) (va_Qi (fun (r : Int32) (u : Nat → Int64) => (r = 0 ∧ u 0 = (0 : Int32).toInt64 ∧ (0 ≤ w.toInt ∧ w.toInt ≤ 11)) ∨ (r = 1 ∧ ¬ (0 ≤ w.toInt ∧ w.toInt ≤ 11))) (bw (dC, dI) (va_A [(x, .inr (0, [.ref tp, .int 0, .int ((-1)), .ref sg, .null, .null, .ref st, .null, .ref ft, .null, .ref hy, .null, .null, .int 0, .null, .null, .null, .null, .null, .null, .int 0])), (ou, .inl (cJ, 1, .inr (.inl fo)))] sz) (fun u => [(ou, .inl (cJ, 1, .inr (.inl u)))]) (fun _ => [(cJ, .long)])) (va_A [(x, .inr (0, [.ref tp, .int 0, .int ((-1)), .ref sg, .null, .null, .ref st, .null, .ref ft, .null, .ref hy, .null, .null, .int 0, .null, .null, .null, .null, .null, .null, .int 0])), (ou, .inl (cJ, 1, .inr (.inl fo)))] sz)) 1 6 (va_A [(x, .inr (0, [.ref tp, .int 0, .int ((-1)), .ref sg, .null, .null, .ref st, .null, .ref ft, .null, .ref hy, .null, .null, .int 0, .null, .null, .null, .null, .null, .null, .int 0])), (ou, .inl (cJ, 1, .inr (.inl fo)))] sz) := by
  refine va_MetW (cc := b_LW_count) (maxL := 4) (ret := (some .int)) (hh := [(0, 9, 12, 19)]) (by decide) rfl ?_
  intro p e s m args below meth c s₁ B hml hv
  obtain ⟨rfl, hsz, hb0, hB0, hP, hK, hD0⟩ := hv
  have hx := B.exec
  have hb := B.bytes
  have hr := B.returns
  have hts : ∀ wq ∈ tt, wq.before ([.ref x, .int w, .ref ou] : List Value).toArray s = true := hb0.hts
  have hown : s.vm.findClass "ScholarsPressLaw" = some m.cls := findClass_of_methodNamed B.named
  have hlocks := B.notSynchronized
  obtain ⟨e1, hxs, he1⟩ := te_e1 (te_tab B ((atoms_spec (ws := [w_LW_count]) B.pre) _ List.mem_cons_self))
  simp only [Prod.mk.injEq] at he1
  obtain ⟨a1_1, a1_2, a1_3, a1_4⟩ := he1
  subst hsz
  have hD := hD0.self (sz := s.heap.size)
  generalize hAe : va_A [(x, .inr (0, [.ref tp, .int 0, .int ((-1)), .ref sg, .null, .null, .ref st, .null, .ref ft, .null, .ref hy, .null, .null, .int 0, .null, .null, .null, .null, .null, .null, .int 0])), (ou, .inl (cJ, 1, .inr (.inl fo)))] s.heap.size = A at hD ⊢
  have hA : ∀ q : Nat, s.heap.size ≤ q → A q := fun q h => by rw [← hAe]; exact Or.inr h
  have hS : va_S A s.heap s.heap [] := va_S.rf
  have hP : va_P (dC, dI) classes [(x, .inr (0, [.ref tp, .int 0, .int ((-1)), .ref sg, .null, .null, .ref st, .null, .ref ft, .null, .ref hy, .null, .null, .int 0, .null, .null, .null, .null, .null, .null, .int 0])), (ou, .inl (cJ, 1, .inr (.inl fo)))] s.heap := hP
  have hl := lv_entry ([.ref x, .int w, .ref ou]) (n := 4) (Nat.le_of_ble_eq_true rfl)
  rw [lg_entry_eq]
  generalize (lg_sl ([.ref x, .int w, .ref ou]) ++ List.replicate (4 - (lg_sl ([.ref x, .int w, .ref ou])).length) Slot.unset).toArray = ls at hl ⊢
  have hl : lv_has ls 4 [(0, .ref x), (1, .int w), (2, .ref ou)] := hl
  refine lv_aload_n hx hb d_LW_count_0 rfl (lv_at hl 2 rfl) ?_
  refine lv_iconst (v := 0) hx hb d_LW_count_1 (by decide) ?_
  refine lv_aload_n hx hb d_LW_count_2 rfl (lv_at hl 0 rfl) ?_
  refine lv_iload_n hx hb d_LW_count_3 rfl (lv_at hl 1 rfl) ?_
  have hFc := va_free (wc := [(x, .inr (0, [.ref tp, .int 0, .int ((-1)), .ref sg, .null, .null, .ref st, .null, .ref ft, .null, .ref hy, .null, .null, .int 0, .null, .null, .null, .null, .null, .null, .int 0]))]) hD hS hA [0] rfl
  refine te_calli (A0 := A) (A1 := va_A [(x, .inr (0, [.ref tp, .int 0, .int ((-1)), .ref sg, .null, .null, .ref st, .null, .ref ft, .null, .ref hy, .null, .null, .int 0, .null, .null, .null, .null, .null, .null, .int 0]))] s.heap.size) (te_runV (As := [.int w]) (rest := [.int 0, .ref ou]) ⟨hx, hb, hml, hown, hts⟩ (c_SP_count hfl hS0 dC dI x tp sg st ft hy w s.heap.size) (cwV 1 hts (tt_V k_2510 k_2511 k_2512 k_240 kw_SP_count) rfl rfl rfl (by decide +kernel) ⟨Nat.le_of_ble_eq_true rfl, Nat.le_of_ble_eq_true rfl⟩) ⟨prT_blind, va_recv hK hP (ci := 0) (q0 := 0) rfl rfl, prT_pre hb0 ⟨hB0.1, hB0.2⟩ (hP.sub [0] rfl) (hK.sub [] rfl) (hD.sub [0] (by decide) rfl)⟩ rfl rfl hl.1 rfl (lv_room (Nat.le_of_ble_eq_true rfl)) d_LW_count_4 ⟨Nat.le_of_ble_eq_true rfl, Nat.le_of_ble_eq_true rfl⟩) hS (fun q _ h => hFc q h) hFc (fun r u t H locs ht hvm hw hBt hz1 hk1 hS => ?_) (fun cls xx H locs hth hnew hce hz hk hS => ?_)
  · obtain ⟨hrn, hR⟩ := hw
    rw [hrn]
    obtain ⟨hP, hD⟩ := va_join (wr := [(ou, .inl (cJ, 1, .inr (.inl fo)))]) (w1 := []) hP hD [0] [1] rfl rfl (by decide) (by decide) hk1 hFc va_P_nil va_D_nil
    have hP : va_P (dC, dI) classes [(ou, .inl (cJ, 1, .inr (.inl fo)))] H := hP
    have hD : va_D A [(ou, .inl (cJ, 1, .inr (.inl fo)))] := hD
    refine lv_i2l hx hb d_LW_count_7 rfl ?_
    refine va_last hx hb hK hP hD hS 0 0 rfl rfl (i := 0) (x := (0 : Int32).toInt64) vp_01 d_LW_count_8 (fun H locs hP hD hS => ?_)
    have hP : va_P (dC, dI) classes [(ou, .inl (cJ, 1, .inr (.inl (vp_updL fo (0 : Int32).toNatClampNeg ((0 : Int32).toInt64)))))] H := hP
    have hD : va_D A [(ou, .inl (cJ, 1, .inr (.inl (vp_updL fo (0 : Int32).toNatClampNeg ((0 : Int32).toInt64)))))] := hD
    refine lv_goto (tgt := 15) hx hb d_LW_count_9 (by decide) ?_
    refine lv_iconst (v := 0) hx hb d_LW_count_15 (by decide) ?_
    have hP9 := hP.sub (ws' := [(ou, .inl (cJ, 1, .inr (.inl (vp_updL fo (0 : Int32).toNatClampNeg ((0 : Int32).toInt64)))))]) [0] rfl
    have hD9 := hD.sub (ws' := [(ou, .inl (cJ, 1, .inr (.inl (vp_updL fo (0 : Int32).toNatClampNeg ((0 : Int32).toInt64)))))]) [0] (by decide) rfl
    have hK9 := hK.sub (tys' := [(cJ, .long)]) [0] rfl
    exact W.iret (v := 0) hx hb hr (fun t ht hW => ⟨⟨0, vp_updL fo (0 : Int32).toNatClampNeg ((0 : Int32).toInt64), rfl, Or.inl ⟨rfl, rfl, hR⟩, by rw [ht]; exact hP9, va_K.moved hW.alike hK9, hD9⟩, hS.F ht⟩) hS.2.2 d_LW_count_16
  · have hP : va_P (dC, dI) classes [(x, .inr (0, [.ref tp, .int 0, .int ((-1)), .ref sg, .null, .null, .ref st, .null, .ref ft, .null, .ref hy, .null, .null, .int 0, .null, .null, .null, .null, .null, .null, .int 0])), (ou, .inl (cJ, 1, .inr (.inl fo)))] H := te_keep hP hk
    rcases hth with ⟨rfl, hR⟩
    refine te_catch (own := "ScholarsPressLaw") (D := x_IAE) (hpc := 12) (pre := []) (en := e1) (tl := []) hown hce (by rw [hxs]; rfl) (fun y hy => by cases hy) (by simp [covers, a1_1, a1_2]) (by rw [a1_4]; decide) a1_3 (by rw [a1_4]; exact hts _ k_653) te_same ?_
    refine lv_astore_n (lv' := [(3, .ref xx), (0, .ref x), (1, .int w), (2, .ref ou)]) hx hb d_LW_count_12 rfl hl (by decide) rfl (fun ls hl => ?_)
    refine lv_iconst (v := 1) hx hb d_LW_count_13 (by decide) ?_
    have hP9 := hP.sub (ws' := [(ou, .inl (cJ, 1, .inr (.inl fo)))]) [1] rfl
    have hD9 := hD.sub (ws' := [(ou, .inl (cJ, 1, .inr (.inl fo)))]) [1] (by decide) rfl
    have hK9 := hK.sub (tys' := [(cJ, .long)]) [0] rfl
    exact W.iret (v := 1) hx hb hr (fun t ht hW => ⟨⟨1, fo, rfl, Or.inr (⟨rfl, hR⟩), by rw [ht]; exact hP9, va_K.moved hW.alike hK9, hD9⟩, hS.F ht⟩) hS.2.2 d_LW_count_14
set_option maxHeartbeats 4000000 in
set_option maxRecDepth 100000 in
/-- the law's set on a fresh object -/
theorem c_LW_set {l : Launch} (hfl : l.flags = flags0) {s0 : State} (hS0 : te_S0 s0) (hNc : va_Nc x_ISE x_IAE s0) (dC : Nat → ClassId) (dI : Nat → Nat → Nat) (x tp sg st ft hy ou : Nat) (cJ : ClassId) (fo : Nat → Int64) (n : Int32) (sz : Nat) : Met l y_LW_set [w_LW_set] ({ frames := 8, cells := 1, slots := 6, locals := 260 }) (va_Pc [.ref x, .int n, .ref ou] (prT s0 sz (dC, dI) [(x, .inr (0, [.ref tp, .int 0, .int ((-1)), .ref sg, .null, .null, .ref st, .null, .ref ft, .null, .ref hy, .null, .null, .int 0, .null, .null, .null, .null, .null, .null, .int 0])), (ou, .inl (cJ, 1, .inr (.inl fo)))] [(cJ, .long)])) (va_Qi (fun (r : Int32) (u : Nat → Int64) => (r = 1 ∧ ¬ (1 ≤ n.toInt ∧ n.toInt ≤ 9)) ∨ (r = 2 ∧ (1 ≤ n.toInt ∧ n.toInt ≤ 9))) (bw (dC, dI) (va_A [(x, .inr (0, [.ref tp, .int 0, .int ((-1)), .ref sg, .null, .null, .ref st, .null, .ref ft, .null, .ref hy, .null, .null, .int 0, .null, .null, .null, .null, .null, .null, .int 0])), (ou, .inl (cJ, 1, .inr (.inl fo)))] sz) (fun u => [(ou, .inl (cJ, 1, .inr (.inl u)))]) (fun _ => [(cJ, .long)])) (va_A [(x, .inr (0, [.ref tp, .int 0, .int ((-1)), .ref sg, .null, .null, .ref st, .null, .ref ft, .null, .ref hy, .null, .null, .int 0, .null, .null, .null, .null, .null, .null, .int 0])), (ou, .inl (cJ, 1, .inr (.inl fo)))] sz)) 1 6 (va_A [(x, .inr (0, [.ref tp, .int 0, .int ((-1)), .ref sg, .null, .null, .ref st, .null, .ref ft, .null, .ref hy, .null, .null, .int 0, .null, .null, .null, .null, .null, .null, .int 0])), (ou, .inl (cJ, 1, .inr (.inl fo)))] sz) := by
  refine va_MetW (cc := b_LW_set) (maxL := 4) (ret := (some .int)) (hh := [(0, 9, 12, 19), (0, 9, 15, 40), (0, 9, 18, 13), (0, 9, 21, 45)]) (by decide) rfl ?_
  intro p e s m args below meth c s₁ B hml hv
  obtain ⟨rfl, hsz, hb0, hB0, hP, hK, hD0⟩ := hv
  have hx := B.exec
  have hb := B.bytes
  have hr := B.returns
  have hts : ∀ wq ∈ tt, wq.before ([.ref x, .int n, .ref ou] : List Value).toArray s = true := hb0.hts
  have hown : s.vm.findClass "ScholarsPressLaw" = some m.cls := findClass_of_methodNamed B.named
  have hlocks := B.notSynchronized
  obtain ⟨e1, e2, e3, e4, hxs, he1, he2, he3, he4⟩ := te_e4 (te_tab B ((atoms_spec (ws := [w_LW_set]) B.pre) _ List.mem_cons_self))
  simp only [Prod.mk.injEq] at he1
  obtain ⟨a1_1, a1_2, a1_3, a1_4⟩ := he1
  simp only [Prod.mk.injEq] at he2
  obtain ⟨a2_1, a2_2, a2_3, a2_4⟩ := he2
  simp only [Prod.mk.injEq] at he3
  obtain ⟨a3_1, a3_2, a3_3, a3_4⟩ := he3
  simp only [Prod.mk.injEq] at he4
  obtain ⟨a4_1, a4_2, a4_3, a4_4⟩ := he4
  subst hsz
  have hD := hD0.self (sz := s.heap.size)
  generalize hAe : va_A [(x, .inr (0, [.ref tp, .int 0, .int ((-1)), .ref sg, .null, .null, .ref st, .null, .ref ft, .null, .ref hy, .null, .null, .int 0, .null, .null, .null, .null, .null, .null, .int 0])), (ou, .inl (cJ, 1, .inr (.inl fo)))] s.heap.size = A at hD ⊢
  have hA : ∀ q : Nat, s.heap.size ≤ q → A q := fun q h => by rw [← hAe]; exact Or.inr h
  have hS : va_S A s.heap s.heap [] := va_S.rf
  have hP : va_P (dC, dI) classes [(x, .inr (0, [.ref tp, .int 0, .int ((-1)), .ref sg, .null, .null, .ref st, .null, .ref ft, .null, .ref hy, .null, .null, .int 0, .null, .null, .null, .null, .null, .null, .int 0])), (ou, .inl (cJ, 1, .inr (.inl fo)))] s.heap := hP
  have hl := lv_entry ([.ref x, .int n, .ref ou]) (n := 4) (Nat.le_of_ble_eq_true rfl)
  rw [lg_entry_eq]
  generalize (lg_sl ([.ref x, .int n, .ref ou]) ++ List.replicate (4 - (lg_sl ([.ref x, .int n, .ref ou])).length) Slot.unset).toArray = ls at hl ⊢
  have hl : lv_has ls 4 [(0, .ref x), (1, .int n), (2, .ref ou)] := hl
  refine lv_aload_n hx hb d_LW_set_0 rfl (lv_at hl 2 rfl) ?_
  refine lv_iconst (v := 0) hx hb d_LW_set_1 (by decide) ?_
  refine lv_aload_n hx hb d_LW_set_2 rfl (lv_at hl 0 rfl) ?_
  refine lv_iload_n hx hb d_LW_set_3 rfl (lv_at hl 1 rfl) ?_
  have hFc := va_free (wc := [(x, .inr (0, [.ref tp, .int 0, .int ((-1)), .ref sg, .null, .null, .ref st, .null, .ref ft, .null, .ref hy, .null, .null, .int 0, .null, .null, .null, .null, .null, .null, .int 0]))]) hD hS hA [0] rfl
  refine te_calli (A0 := A) (A1 := va_A [(x, .inr (0, [.ref tp, .int 0, .int ((-1)), .ref sg, .null, .null, .ref st, .null, .ref ft, .null, .ref hy, .null, .null, .int 0, .null, .null, .null, .null, .null, .null, .int 0]))] s.heap.size) (te_runV (As := [.int n]) (rest := [.int 0, .ref ou]) ⟨hx, hb, hml, hown, hts⟩ (c_SP_set hfl hS0 dC dI x tp sg st ft hy n s.heap.size) (cwV 1 hts (tt_V k_1411 k_1412 k_1413 k_240 kw_SP_set) rfl rfl rfl (by decide +kernel) ⟨Nat.le_of_ble_eq_true rfl, Nat.le_of_ble_eq_true rfl⟩) ⟨prT_blind, va_recv hK hP (ci := 0) (q0 := 0) rfl rfl, prT_pre hb0 ⟨hB0.1, hB0.2⟩ (hP.sub [0] rfl) (hK.sub [] rfl) (hD.sub [0] (by decide) rfl)⟩ rfl rfl hl.1 rfl (lv_room (Nat.le_of_ble_eq_true rfl)) d_LW_set_4 ⟨Nat.le_of_ble_eq_true rfl, Nat.le_of_ble_eq_true rfl⟩) hS (fun q _ h => hFc q h) hFc (fun r u t H locs ht hvm hw hBt hz1 hk1 hS => ?_) (fun cls xx H locs hth hnew hce hz hk hS => ?_)
  · exact hw.elim
  · have hP : va_P (dC, dI) classes [(x, .inr (0, [.ref tp, .int 0, .int ((-1)), .ref sg, .null, .null, .ref st, .null, .ref ft, .null, .ref hy, .null, .null, .int 0, .null, .null, .null, .null, .null, .null, .int 0])), (ou, .inl (cJ, 1, .inr (.inl fo)))] H := te_keep hP hk
    rcases hth with ⟨rfl, hR⟩ | ⟨rfl, hR⟩
    · refine te_catch (own := "ScholarsPressLaw") (D := x_IAE) (hpc := 12) (pre := []) (en := e1) (tl := [e2, e3, e4]) hown hce (by rw [hxs]; rfl) (fun y hy => by cases hy) (by simp [covers, a1_1, a1_2]) (by rw [a1_4]; decide) a1_3 (by rw [a1_4]; exact hts _ k_653) te_same ?_
      refine lv_astore_n (lv' := [(3, .ref xx), (0, .ref x), (1, .int n), (2, .ref ou)]) hx hb d_LW_set_12 rfl hl (by decide) rfl (fun ls hl => ?_)
      refine lv_iconst (v := 1) hx hb d_LW_set_13 (by decide) ?_
      have hP9 := hP.sub (ws' := [(ou, .inl (cJ, 1, .inr (.inl fo)))]) [1] rfl
      have hD9 := hD.sub (ws' := [(ou, .inl (cJ, 1, .inr (.inl fo)))]) [1] (by decide) rfl
      have hK9 := hK.sub (tys' := [(cJ, .long)]) [0] rfl
      exact W.iret (v := 1) hx hb hr (fun t ht hW => ⟨⟨1, fo, rfl, Or.inl ⟨rfl, hR⟩, by rw [ht]; exact hP9, va_K.moved hW.alike hK9, hD9⟩, hS.F ht⟩) hS.2.2 d_LW_set_14
    · refine te_catch (own := "ScholarsPressLaw") (D := x_ISE) (hpc := 15) (pre := [e1]) (en := e2) (tl := [e3, e4]) hown hce (by rw [hxs]; rfl) (fun y hy => by rw [List.mem_singleton.mp hy]; exact Or.inr ⟨by simp [covers, a1_1, a1_2], by rw [a1_4]; decide, x_IAE, by rw [a1_4]; exact hts _ k_653, hNc.moved hB0.1⟩) (by simp [covers, a2_1, a2_2]) (by rw [a2_4]; decide) a2_3 (by rw [a2_4]; exact hts _ k_1387) te_same ?_
      refine lv_astore_n (lv' := [(3, .ref xx), (0, .ref x), (1, .int n), (2, .ref ou)]) hx hb d_LW_set_15 rfl hl (by decide) rfl (fun ls hl => ?_)
      refine lv_iconst (v := 2) hx hb d_LW_set_16 (by decide) ?_
      have hP9 := hP.sub (ws' := [(ou, .inl (cJ, 1, .inr (.inl fo)))]) [1] rfl
      have hD9 := hD.sub (ws' := [(ou, .inl (cJ, 1, .inr (.inl fo)))]) [1] (by decide) rfl
      have hK9 := hK.sub (tys' := [(cJ, .long)]) [0] rfl
      exact W.iret (v := 2) hx hb hr (fun t ht hW => ⟨⟨2, fo, rfl, Or.inr (⟨rfl, hR⟩), by rw [ht]; exact hP9, va_K.moved hW.alike hK9, hD9⟩, hS.F ht⟩) hS.2.2 d_LW_set_17
set_option maxHeartbeats 4000000 in
set_option maxRecDepth 100000 in
/-- the law's element on a fresh object -/
theorem c_LW_element {l : Launch} (hfl : l.flags = flags0) {s0 : State} (hS0 : te_S0 s0) (hNc : va_Nc x_ISE x_IAE s0) (dC : Nat → ClassId) (dI : Nat → Nat → Nat) (x tp sg st ft hy ou : Nat) (cJ : ClassId) (fo : Nat → Int64) (a w : Int32) (sz : Nat) : Met l y_LW_element [w_LW_element] ({ frames := 8, cells := 1, slots := 6, locals := 260 }) (va_Pc [.ref x, .int a, .int w, .ref ou] (prT s0 sz (dC, dI) [(x, .inr (0, [.ref tp, .int 0, .int ((-1)), .ref sg, .null, .null, .ref st, .null, .ref ft, .null, .ref hy, .null, .null, .int 0, .null, .null, .null, .null, .null, .null, .int 0])), (ou, .inl (cJ, 1, .inr (.inl fo)))] [(cJ, .long)])) (va_Qi (fun (r : Int32) (u : Nat → Int64) => (r = 1 ∧ ¬ (0 ≤ a.toInt ∧ ((0 ≤ w.toInt ∧ w.toInt ≤ 7) ∨ (20 ≤ w.toInt ∧ w.toInt ≤ 41)))) ∨ (r = 2 ∧ (0 ≤ a.toInt ∧ ((0 ≤ w.toInt ∧ w.toInt ≤ 7) ∨ (20 ≤ w.toInt ∧ w.toInt ≤ 41))))) (bw (dC, dI) (va_A [(x, .inr (0, [.ref tp, .int 0, .int ((-1)), .ref sg, .null, .null, .ref st, .null, .ref ft, .null, .ref hy, .null, .null, .int 0, .null, .null, .null, .null, .null, .null, .int 0])), (ou, .inl (cJ, 1, .inr (.inl fo)))] sz) (fun u => [(ou, .inl (cJ, 1, .inr (.inl u)))]) (fun _ => [(cJ, .long)])) (va_A [(x, .inr (0, [.ref tp, .int 0, .int ((-1)), .ref sg, .null, .null, .ref st, .null, .ref ft, .null, .ref hy, .null, .null, .int 0, .null, .null, .null, .null, .null, .null, .int 0])), (ou, .inl (cJ, 1, .inr (.inl fo)))] sz)) 1 6 (va_A [(x, .inr (0, [.ref tp, .int 0, .int ((-1)), .ref sg, .null, .null, .ref st, .null, .ref ft, .null, .ref hy, .null, .null, .int 0, .null, .null, .null, .null, .null, .null, .int 0])), (ou, .inl (cJ, 1, .inr (.inl fo)))] sz) := by
  refine va_MetW (cc := b_LW_element) (maxL := 5) (ret := (some .int)) (hh := [(0, 10, 13, 19), (0, 10, 17, 40)]) (by decide) rfl ?_
  intro p e s m args below meth c s₁ B hml hv
  obtain ⟨rfl, hsz, hb0, hB0, hP, hK, hD0⟩ := hv
  have hx := B.exec
  have hb := B.bytes
  have hr := B.returns
  have hts : ∀ wq ∈ tt, wq.before ([.ref x, .int a, .int w, .ref ou] : List Value).toArray s = true := hb0.hts
  have hown : s.vm.findClass "ScholarsPressLaw" = some m.cls := findClass_of_methodNamed B.named
  have hlocks := B.notSynchronized
  obtain ⟨e1, e2, hxs, he1, he2⟩ := te_e2 (te_tab B ((atoms_spec (ws := [w_LW_element]) B.pre) _ List.mem_cons_self))
  simp only [Prod.mk.injEq] at he1
  obtain ⟨a1_1, a1_2, a1_3, a1_4⟩ := he1
  simp only [Prod.mk.injEq] at he2
  obtain ⟨a2_1, a2_2, a2_3, a2_4⟩ := he2
  subst hsz
  have hD := hD0.self (sz := s.heap.size)
  generalize hAe : va_A [(x, .inr (0, [.ref tp, .int 0, .int ((-1)), .ref sg, .null, .null, .ref st, .null, .ref ft, .null, .ref hy, .null, .null, .int 0, .null, .null, .null, .null, .null, .null, .int 0])), (ou, .inl (cJ, 1, .inr (.inl fo)))] s.heap.size = A at hD ⊢
  have hA : ∀ q : Nat, s.heap.size ≤ q → A q := fun q h => by rw [← hAe]; exact Or.inr h
  have hS : va_S A s.heap s.heap [] := va_S.rf
  have hP : va_P (dC, dI) classes [(x, .inr (0, [.ref tp, .int 0, .int ((-1)), .ref sg, .null, .null, .ref st, .null, .ref ft, .null, .ref hy, .null, .null, .int 0, .null, .null, .null, .null, .null, .null, .int 0])), (ou, .inl (cJ, 1, .inr (.inl fo)))] s.heap := hP
  have hl := lv_entry ([.ref x, .int a, .int w, .ref ou]) (n := 5) (Nat.le_of_ble_eq_true rfl)
  rw [lg_entry_eq]
  generalize (lg_sl ([.ref x, .int a, .int w, .ref ou]) ++ List.replicate (5 - (lg_sl ([.ref x, .int a, .int w, .ref ou])).length) Slot.unset).toArray = ls at hl ⊢
  have hl : lv_has ls 5 [(0, .ref x), (1, .int a), (2, .int w), (3, .ref ou)] := hl
  refine lv_aload_n hx hb d_LW_element_0 rfl (lv_at hl 3 rfl) ?_
  refine lv_iconst (v := 0) hx hb d_LW_element_1 (by decide) ?_
  refine lv_aload_n hx hb d_LW_element_2 rfl (lv_at hl 0 rfl) ?_
  refine lv_iload_n hx hb d_LW_element_3 rfl (lv_at hl 1 rfl) ?_
  refine lv_iload_n hx hb d_LW_element_4 rfl (lv_at hl 2 rfl) ?_
  have hFc := va_free (wc := [(x, .inr (0, [.ref tp, .int 0, .int ((-1)), .ref sg, .null, .null, .ref st, .null, .ref ft, .null, .ref hy, .null, .null, .int 0, .null, .null, .null, .null, .null, .null, .int 0]))]) hD hS hA [0] rfl
  refine te_calli (A0 := A) (A1 := va_A [(x, .inr (0, [.ref tp, .int 0, .int ((-1)), .ref sg, .null, .null, .ref st, .null, .ref ft, .null, .ref hy, .null, .null, .int 0, .null, .null, .null, .null, .null, .null, .int 0]))] s.heap.size) (te_runV (As := [.int a, .int w]) (rest := [.int 0, .ref ou]) ⟨hx, hb, hml, hown, hts⟩ (c_SP_element hfl hS0 dC dI x tp sg st ft hy a w s.heap.size) (cwV 2 hts (tt_V k_2497 k_2498 k_2499 k_240 kw_SP_element) rfl rfl rfl (by decide +kernel) ⟨Nat.le_of_ble_eq_true rfl, Nat.le_of_ble_eq_true rfl⟩) ⟨prT_blind, va_recv hK hP (ci := 0) (q0 := 0) rfl rfl, prT_pre hb0 ⟨hB0.1, hB0.2⟩ (hP.sub [0] rfl) (hK.sub [] rfl) (hD.sub [0] (by decide) rfl)⟩ rfl rfl hl.1 rfl (lv_room (Nat.le_of_ble_eq_true rfl)) d_LW_element_5 ⟨Nat.le_of_ble_eq_true rfl, Nat.le_of_ble_eq_true rfl⟩) hS (fun q _ h => hFc q h) hFc (fun r u t H locs ht hvm hw hBt hz1 hk1 hS => ?_) (fun cls xx H locs hth hnew hce hz hk hS => ?_)
  · exact hw.elim
  · have hP : va_P (dC, dI) classes [(x, .inr (0, [.ref tp, .int 0, .int ((-1)), .ref sg, .null, .null, .ref st, .null, .ref ft, .null, .ref hy, .null, .null, .int 0, .null, .null, .null, .null, .null, .null, .int 0])), (ou, .inl (cJ, 1, .inr (.inl fo)))] H := te_keep hP hk
    rcases hth with ⟨rfl, hR⟩ | ⟨rfl, hR⟩
    · refine te_catch (own := "ScholarsPressLaw") (D := x_IAE) (hpc := 13) (pre := []) (en := e1) (tl := [e2]) hown hce (by rw [hxs]; rfl) (fun y hy => by cases hy) (by simp [covers, a1_1, a1_2]) (by rw [a1_4]; decide) a1_3 (by rw [a1_4]; exact hts _ k_653) te_same ?_
      refine lv_astore (lv' := [(4, .ref xx), (0, .ref x), (1, .int a), (2, .int w), (3, .ref ou)]) hx hb d_LW_element_13 hl (by decide) rfl (fun ls hl => ?_)
      refine lv_iconst (v := 1) hx hb d_LW_element_15 (by decide) ?_
      have hP9 := hP.sub (ws' := [(ou, .inl (cJ, 1, .inr (.inl fo)))]) [1] rfl
      have hD9 := hD.sub (ws' := [(ou, .inl (cJ, 1, .inr (.inl fo)))]) [1] (by decide) rfl
      have hK9 := hK.sub (tys' := [(cJ, .long)]) [0] rfl
      exact W.iret (v := 1) hx hb hr (fun t ht hW => ⟨⟨1, fo, rfl, Or.inl ⟨rfl, hR⟩, by rw [ht]; exact hP9, va_K.moved hW.alike hK9, hD9⟩, hS.F ht⟩) hS.2.2 d_LW_element_16
    · refine te_catch (own := "ScholarsPressLaw") (D := x_ISE) (hpc := 17) (pre := [e1]) (en := e2) (tl := []) hown hce (by rw [hxs]; rfl) (fun y hy => by rw [List.mem_singleton.mp hy]; exact Or.inr ⟨by simp [covers, a1_1, a1_2], by rw [a1_4]; decide, x_IAE, by rw [a1_4]; exact hts _ k_653, hNc.moved hB0.1⟩) (by simp [covers, a2_1, a2_2]) (by rw [a2_4]; decide) a2_3 (by rw [a2_4]; exact hts _ k_1387) te_same ?_
      refine lv_astore (lv' := [(4, .ref xx), (0, .ref x), (1, .int a), (2, .int w), (3, .ref ou)]) hx hb d_LW_element_17 hl (by decide) rfl (fun ls hl => ?_)
      refine lv_iconst (v := 2) hx hb d_LW_element_19 (by decide) ?_
      have hP9 := hP.sub (ws' := [(ou, .inl (cJ, 1, .inr (.inl fo)))]) [1] rfl
      have hD9 := hD.sub (ws' := [(ou, .inl (cJ, 1, .inr (.inl fo)))]) [1] (by decide) rfl
      have hK9 := hK.sub (tys' := [(cJ, .long)]) [0] rfl
      exact W.iret (v := 2) hx hb hr (fun t ht hW => ⟨⟨2, fo, rfl, Or.inr (⟨rfl, hR⟩), by rw [ht]; exact hP9, va_K.moved hW.alike hK9, hD9⟩, hS.F ht⟩) hS.2.2 d_LW_element_20
set_option maxHeartbeats 4000000 in
set_option maxRecDepth 100000 in
/-- the law's line on a fresh object -/
theorem c_LW_line {l : Launch} (hfl : l.flags = flags0) {s0 : State} (hS0 : te_S0 s0) (hNc : va_Nc x_ISE x_IAE s0) (dC : Nat → ClassId) (dI : Nat → Nat → Nat) (x tp sg st ft hy ou : Nat) (cJ : ClassId) (fo : Nat → Int64) (a w : Int32) (sz : Nat) : Met l y_LW_line [w_LW_line] ({ frames := 8, cells := 1, slots := 6, locals := 260 }) (va_Pc [.ref x, .int a, .int w, .ref ou] (prT s0 sz (dC, dI) [(x, .inr (0, [.ref tp, .int 0, .int ((-1)), .ref sg, .null, .null, .ref st, .null, .ref ft, .null, .ref hy, .null, .null, .int 0, .null, .null, .null, .null, .null, .null, .int 0])), (ou, .inl (cJ, 1, .inr (.inl fo)))] [(cJ, .long)])) (va_Qi (fun (r : Int32) (u : Nat → Int64) => (r = 1 ∧ ¬ (0 ≤ w.toInt ∧ w.toInt ≤ 6)) ∨ (r = 2 ∧ (0 ≤ w.toInt ∧ w.toInt ≤ 6))) (bw (dC, dI) (va_A [(x, .inr (0, [.ref tp, .int 0, .int ((-1)), .ref sg, .null, .null, .ref st, .null, .ref ft, .null, .ref hy, .null, .null, .int 0, .null, .null, .null, .null, .null, .null, .int 0])), (ou, .inl (cJ, 1, .inr (.inl fo)))] sz) (fun u => [(ou, .inl (cJ, 1, .inr (.inl u)))]) (fun _ => [(cJ, .long)])) (va_A [(x, .inr (0, [.ref tp, .int 0, .int ((-1)), .ref sg, .null, .null, .ref st, .null, .ref ft, .null, .ref hy, .null, .null, .int 0, .null, .null, .null, .null, .null, .null, .int 0])), (ou, .inl (cJ, 1, .inr (.inl fo)))] sz)) 1 6 (va_A [(x, .inr (0, [.ref tp, .int 0, .int ((-1)), .ref sg, .null, .null, .ref st, .null, .ref ft, .null, .ref hy, .null, .null, .int 0, .null, .null, .null, .null, .null, .null, .int 0])), (ou, .inl (cJ, 1, .inr (.inl fo)))] sz) := by
  refine va_MetW (cc := b_LW_line) (maxL := 5) (ret := (some .int)) (hh := [(0, 10, 13, 19), (0, 10, 17, 40), (0, 10, 21, 13)]) (by decide) rfl ?_
  intro p e s m args below meth c s₁ B hml hv
  obtain ⟨rfl, hsz, hb0, hB0, hP, hK, hD0⟩ := hv
  have hx := B.exec
  have hb := B.bytes
  have hr := B.returns
  have hts : ∀ wq ∈ tt, wq.before ([.ref x, .int a, .int w, .ref ou] : List Value).toArray s = true := hb0.hts
  have hown : s.vm.findClass "ScholarsPressLaw" = some m.cls := findClass_of_methodNamed B.named
  have hlocks := B.notSynchronized
  obtain ⟨e1, e2, e3, hxs, he1, he2, he3⟩ := te_e3 (te_tab B ((atoms_spec (ws := [w_LW_line]) B.pre) _ List.mem_cons_self))
  simp only [Prod.mk.injEq] at he1
  obtain ⟨a1_1, a1_2, a1_3, a1_4⟩ := he1
  simp only [Prod.mk.injEq] at he2
  obtain ⟨a2_1, a2_2, a2_3, a2_4⟩ := he2
  simp only [Prod.mk.injEq] at he3
  obtain ⟨a3_1, a3_2, a3_3, a3_4⟩ := he3
  subst hsz
  have hD := hD0.self (sz := s.heap.size)
  generalize hAe : va_A [(x, .inr (0, [.ref tp, .int 0, .int ((-1)), .ref sg, .null, .null, .ref st, .null, .ref ft, .null, .ref hy, .null, .null, .int 0, .null, .null, .null, .null, .null, .null, .int 0])), (ou, .inl (cJ, 1, .inr (.inl fo)))] s.heap.size = A at hD ⊢
  have hA : ∀ q : Nat, s.heap.size ≤ q → A q := fun q h => by rw [← hAe]; exact Or.inr h
  have hS : va_S A s.heap s.heap [] := va_S.rf
  have hP : va_P (dC, dI) classes [(x, .inr (0, [.ref tp, .int 0, .int ((-1)), .ref sg, .null, .null, .ref st, .null, .ref ft, .null, .ref hy, .null, .null, .int 0, .null, .null, .null, .null, .null, .null, .int 0])), (ou, .inl (cJ, 1, .inr (.inl fo)))] s.heap := hP
  have hl := lv_entry ([.ref x, .int a, .int w, .ref ou]) (n := 5) (Nat.le_of_ble_eq_true rfl)
  rw [lg_entry_eq]
  generalize (lg_sl ([.ref x, .int a, .int w, .ref ou]) ++ List.replicate (5 - (lg_sl ([.ref x, .int a, .int w, .ref ou])).length) Slot.unset).toArray = ls at hl ⊢
  have hl : lv_has ls 5 [(0, .ref x), (1, .int a), (2, .int w), (3, .ref ou)] := hl
  refine lv_aload_n hx hb d_LW_line_0 rfl (lv_at hl 3 rfl) ?_
  refine lv_iconst (v := 0) hx hb d_LW_line_1 (by decide) ?_
  refine lv_aload_n hx hb d_LW_line_2 rfl (lv_at hl 0 rfl) ?_
  refine lv_iload_n hx hb d_LW_line_3 rfl (lv_at hl 1 rfl) ?_
  refine lv_iload_n hx hb d_LW_line_4 rfl (lv_at hl 2 rfl) ?_
  have hFc := va_free (wc := [(x, .inr (0, [.ref tp, .int 0, .int ((-1)), .ref sg, .null, .null, .ref st, .null, .ref ft, .null, .ref hy, .null, .null, .int 0, .null, .null, .null, .null, .null, .null, .int 0]))]) hD hS hA [0] rfl
  refine te_calli (A0 := A) (A1 := va_A [(x, .inr (0, [.ref tp, .int 0, .int ((-1)), .ref sg, .null, .null, .ref st, .null, .ref ft, .null, .ref hy, .null, .null, .int 0, .null, .null, .null, .null, .null, .null, .int 0]))] s.heap.size) (te_runV (As := [.int a, .int w]) (rest := [.int 0, .ref ou]) ⟨hx, hb, hml, hown, hts⟩ (c_SP_line hfl hS0 dC dI x tp sg st ft hy a w s.heap.size) (cwV 2 hts (tt_V k_2525 k_2526 k_2527 k_240 kw_SP_line) rfl rfl rfl (by decide +kernel) ⟨Nat.le_of_ble_eq_true rfl, Nat.le_of_ble_eq_true rfl⟩) ⟨prT_blind, va_recv hK hP (ci := 0) (q0 := 0) rfl rfl, prT_pre hb0 ⟨hB0.1, hB0.2⟩ (hP.sub [0] rfl) (hK.sub [] rfl) (hD.sub [0] (by decide) rfl)⟩ rfl rfl hl.1 rfl (lv_room (Nat.le_of_ble_eq_true rfl)) d_LW_line_5 ⟨Nat.le_of_ble_eq_true rfl, Nat.le_of_ble_eq_true rfl⟩) hS (fun q _ h => hFc q h) hFc (fun r u t H locs ht hvm hw hBt hz1 hk1 hS => ?_) (fun cls xx H locs hth hnew hce hz hk hS => ?_)
  · exact hw.elim
  · have hP : va_P (dC, dI) classes [(x, .inr (0, [.ref tp, .int 0, .int ((-1)), .ref sg, .null, .null, .ref st, .null, .ref ft, .null, .ref hy, .null, .null, .int 0, .null, .null, .null, .null, .null, .null, .int 0])), (ou, .inl (cJ, 1, .inr (.inl fo)))] H := te_keep hP hk
    rcases hth with ⟨rfl, hR⟩ | ⟨rfl, hR⟩
    · refine te_catch (own := "ScholarsPressLaw") (D := x_IAE) (hpc := 13) (pre := []) (en := e1) (tl := [e2, e3]) hown hce (by rw [hxs]; rfl) (fun y hy => by cases hy) (by simp [covers, a1_1, a1_2]) (by rw [a1_4]; decide) a1_3 (by rw [a1_4]; exact hts _ k_653) te_same ?_
      refine lv_astore (lv' := [(4, .ref xx), (0, .ref x), (1, .int a), (2, .int w), (3, .ref ou)]) hx hb d_LW_line_13 hl (by decide) rfl (fun ls hl => ?_)
      refine lv_iconst (v := 1) hx hb d_LW_line_15 (by decide) ?_
      have hP9 := hP.sub (ws' := [(ou, .inl (cJ, 1, .inr (.inl fo)))]) [1] rfl
      have hD9 := hD.sub (ws' := [(ou, .inl (cJ, 1, .inr (.inl fo)))]) [1] (by decide) rfl
      have hK9 := hK.sub (tys' := [(cJ, .long)]) [0] rfl
      exact W.iret (v := 1) hx hb hr (fun t ht hW => ⟨⟨1, fo, rfl, Or.inl ⟨rfl, hR⟩, by rw [ht]; exact hP9, va_K.moved hW.alike hK9, hD9⟩, hS.F ht⟩) hS.2.2 d_LW_line_16
    · refine te_catch (own := "ScholarsPressLaw") (D := x_ISE) (hpc := 17) (pre := [e1]) (en := e2) (tl := [e3]) hown hce (by rw [hxs]; rfl) (fun y hy => by rw [List.mem_singleton.mp hy]; exact Or.inr ⟨by simp [covers, a1_1, a1_2], by rw [a1_4]; decide, x_IAE, by rw [a1_4]; exact hts _ k_653, hNc.moved hB0.1⟩) (by simp [covers, a2_1, a2_2]) (by rw [a2_4]; decide) a2_3 (by rw [a2_4]; exact hts _ k_1387) te_same ?_
      refine lv_astore (lv' := [(4, .ref xx), (0, .ref x), (1, .int a), (2, .int w), (3, .ref ou)]) hx hb d_LW_line_17 hl (by decide) rfl (fun ls hl => ?_)
      refine lv_iconst (v := 2) hx hb d_LW_line_19 (by decide) ?_
      have hP9 := hP.sub (ws' := [(ou, .inl (cJ, 1, .inr (.inl fo)))]) [1] rfl
      have hD9 := hD.sub (ws' := [(ou, .inl (cJ, 1, .inr (.inl fo)))]) [1] (by decide) rfl
      have hK9 := hK.sub (tys' := [(cJ, .long)]) [0] rfl
      exact W.iret (v := 2) hx hb hr (fun t ht hW => ⟨⟨2, fo, rfl, Or.inr (⟨rfl, hR⟩), by rw [ht]; exact hP9, va_K.moved hW.alike hK9, hD9⟩, hS.F ht⟩) hS.2.2 d_LW_line_20
set_option maxHeartbeats 4000000 in
set_option maxRecDepth 100000 in
/-- the law's spot on a fresh object -/
theorem c_LW_spot {l : Launch} (hfl : l.flags = flags0) {s0 : State} (hS0 : te_S0 s0) (hNc : va_Nc x_ISE x_IAE s0) (dC : Nat → ClassId) (dI : Nat → Nat → Nat) (x tp sg st ft hy ou : Nat) (cJ : ClassId) (fo : Nat → Int64) (a w : Int32) (sz : Nat) : Met l y_LW_spot [w_LW_spot] ({ frames := 8, cells := 1, slots := 6, locals := 260 }) (va_Pc [.ref x, .int a, .int w, .ref ou] (prT s0 sz (dC, dI) [(x, .inr (0, [.ref tp, .int 0, .int ((-1)), .ref sg, .null, .null, .ref st, .null, .ref ft, .null, .ref hy, .null, .null, .int 0, .null, .null, .null, .null, .null, .null, .int 0])), (ou, .inl (cJ, 1, .inr (.inl fo)))] [(cJ, .long)])) (va_Qi (fun (r : Int32) (u : Nat → Int64) => r = 1 ∧ True) (bw (dC, dI) (va_A [(x, .inr (0, [.ref tp, .int 0, .int ((-1)), .ref sg, .null, .null, .ref st, .null, .ref ft, .null, .ref hy, .null, .null, .int 0, .null, .null, .null, .null, .null, .null, .int 0])), (ou, .inl (cJ, 1, .inr (.inl fo)))] sz) (fun u => [(ou, .inl (cJ, 1, .inr (.inl u)))]) (fun _ => [(cJ, .long)])) (va_A [(x, .inr (0, [.ref tp, .int 0, .int ((-1)), .ref sg, .null, .null, .ref st, .null, .ref ft, .null, .ref hy, .null, .null, .int 0, .null, .null, .null, .null, .null, .null, .int 0])), (ou, .inl (cJ, 1, .inr (.inl fo)))] sz)) 1 6 (va_A [(x, .inr (0, [.ref tp, .int 0, .int ((-1)), .ref sg, .null, .null, .ref st, .null, .ref ft, .null, .ref hy, .null, .null, .int 0, .null, .null, .null, .null, .null, .null, .int 0])), (ou, .inl (cJ, 1, .inr (.inl fo)))] sz) := by
  refine va_MetW (cc := b_LW_spot) (maxL := 5) (ret := (some .int)) (hh := [(0, 9, 12, 40), (0, 9, 16, 13)]) (by decide) rfl ?_
  intro p e s m args below meth c s₁ B hml hv
  obtain ⟨rfl, hsz, hb0, hB0, hP, hK, hD0⟩ := hv
  have hx := B.exec
  have hb := B.bytes
  have hr := B.returns
  have hts : ∀ wq ∈ tt, wq.before ([.ref x, .int a, .int w, .ref ou] : List Value).toArray s = true := hb0.hts
  have hown : s.vm.findClass "ScholarsPressLaw" = some m.cls := findClass_of_methodNamed B.named
  have hlocks := B.notSynchronized
  obtain ⟨e1, e2, hxs, he1, he2⟩ := te_e2 (te_tab B ((atoms_spec (ws := [w_LW_spot]) B.pre) _ List.mem_cons_self))
  simp only [Prod.mk.injEq] at he1
  obtain ⟨a1_1, a1_2, a1_3, a1_4⟩ := he1
  simp only [Prod.mk.injEq] at he2
  obtain ⟨a2_1, a2_2, a2_3, a2_4⟩ := he2
  subst hsz
  have hD := hD0.self (sz := s.heap.size)
  generalize hAe : va_A [(x, .inr (0, [.ref tp, .int 0, .int ((-1)), .ref sg, .null, .null, .ref st, .null, .ref ft, .null, .ref hy, .null, .null, .int 0, .null, .null, .null, .null, .null, .null, .int 0])), (ou, .inl (cJ, 1, .inr (.inl fo)))] s.heap.size = A at hD ⊢
  have hA : ∀ q : Nat, s.heap.size ≤ q → A q := fun q h => by rw [← hAe]; exact Or.inr h
  have hS : va_S A s.heap s.heap [] := va_S.rf
  have hP : va_P (dC, dI) classes [(x, .inr (0, [.ref tp, .int 0, .int ((-1)), .ref sg, .null, .null, .ref st, .null, .ref ft, .null, .ref hy, .null, .null, .int 0, .null, .null, .null, .null, .null, .null, .int 0])), (ou, .inl (cJ, 1, .inr (.inl fo)))] s.heap := hP
  have hl := lv_entry ([.ref x, .int a, .int w, .ref ou]) (n := 5) (Nat.le_of_ble_eq_true rfl)
  rw [lg_entry_eq]
  generalize (lg_sl ([.ref x, .int a, .int w, .ref ou]) ++ List.replicate (5 - (lg_sl ([.ref x, .int a, .int w, .ref ou])).length) Slot.unset).toArray = ls at hl ⊢
  have hl : lv_has ls 5 [(0, .ref x), (1, .int a), (2, .int w), (3, .ref ou)] := hl
  refine lv_aload_n hx hb d_LW_spot_0 rfl (lv_at hl 3 rfl) ?_
  refine lv_iconst (v := 0) hx hb d_LW_spot_1 (by decide) ?_
  refine lv_aload_n hx hb d_LW_spot_2 rfl (lv_at hl 0 rfl) ?_
  refine lv_iload_n hx hb d_LW_spot_3 rfl (lv_at hl 1 rfl) ?_
  refine lv_iload_n hx hb d_LW_spot_4 rfl (lv_at hl 2 rfl) ?_
  have hFc := va_free (wc := [(x, .inr (0, [.ref tp, .int 0, .int ((-1)), .ref sg, .null, .null, .ref st, .null, .ref ft, .null, .ref hy, .null, .null, .int 0, .null, .null, .null, .null, .null, .null, .int 0]))]) hD hS hA [0] rfl
  refine te_calll (A0 := A) (A1 := va_A [(x, .inr (0, [.ref tp, .int 0, .int ((-1)), .ref sg, .null, .null, .ref st, .null, .ref ft, .null, .ref hy, .null, .null, .int 0, .null, .null, .null, .null, .null, .null, .int 0]))] s.heap.size) (te_runV (As := [.int a, .int w]) (rest := [.int 0, .ref ou]) ⟨hx, hb, hml, hown, hts⟩ (c_SP_spot hfl hS0 dC dI x tp sg st ft hy a w s.heap.size) (cwV 2 hts (tt_V k_2550 k_2551 k_2552 k_240 kw_SP_spot) rfl rfl rfl (by decide +kernel) ⟨Nat.le_of_ble_eq_true rfl, Nat.le_of_ble_eq_true rfl⟩) ⟨prT_blind, va_recv hK hP (ci := 0) (q0 := 0) rfl rfl, prT_pre hb0 ⟨hB0.1, hB0.2⟩ (hP.sub [0] rfl) (hK.sub [] rfl) (hD.sub [0] (by decide) rfl)⟩ rfl rfl hl.1 rfl (lv_room (Nat.le_of_ble_eq_true rfl)) d_LW_spot_5 ⟨Nat.le_of_ble_eq_true rfl, Nat.le_of_ble_eq_true rfl⟩) hS (fun q _ h => hFc q h) hFc (fun r u t H locs ht hvm hw hBt hz1 hk1 hS => ?_) (fun cls xx H locs hth hnew hce hz hk hS => ?_)
  · exact hw.elim
  · have hP : va_P (dC, dI) classes [(x, .inr (0, [.ref tp, .int 0, .int ((-1)), .ref sg, .null, .null, .ref st, .null, .ref ft, .null, .ref hy, .null, .null, .int 0, .null, .null, .null, .null, .null, .null, .int 0])), (ou, .inl (cJ, 1, .inr (.inl fo)))] H := te_keep hP hk
    rcases hth with ⟨rfl, hR⟩
    refine te_catch (own := "ScholarsPressLaw") (D := x_ISE) (hpc := 12) (pre := []) (en := e1) (tl := [e2]) hown hce (by rw [hxs]; rfl) (fun y hy => by cases hy) (by simp [covers, a1_1, a1_2]) (by rw [a1_4]; decide) a1_3 (by rw [a1_4]; exact hts _ k_1387) te_same ?_
    refine lv_astore (lv' := [(4, .ref xx), (0, .ref x), (1, .int a), (2, .int w), (3, .ref ou)]) hx hb d_LW_spot_12 hl (by decide) rfl (fun ls hl => ?_)
    refine lv_iconst (v := 1) hx hb d_LW_spot_14 (by decide) ?_
    have hP9 := hP.sub (ws' := [(ou, .inl (cJ, 1, .inr (.inl fo)))]) [1] rfl
    have hD9 := hD.sub (ws' := [(ou, .inl (cJ, 1, .inr (.inl fo)))]) [1] (by decide) rfl
    have hK9 := hK.sub (tys' := [(cJ, .long)]) [0] rfl
    exact W.iret (v := 1) hx hb hr (fun t ht hW => ⟨⟨1, fo, rfl, ⟨rfl, hR⟩, by rw [ht]; exact hP9, va_K.moved hW.alike hK9, hD9⟩, hS.F ht⟩) hS.2.2 d_LW_spot_15
set_option maxHeartbeats 4000000 in
set_option maxRecDepth 100000 in
/-- the law's paragraph on a fresh object -/
theorem c_LW_paragraph {l : Launch} (hfl : l.flags = flags0) {s0 : State} (hS0 : te_S0 s0) (hNc : va_Nc x_ISE x_IAE s0) (dC : Nat → ClassId) (dI : Nat → Nat → Nat) (x tp sg st ft hy ou : Nat) (cJ : ClassId) (fo : Nat → Int64) (a w : Int32) (sz : Nat) : Met l y_LW_paragraph [w_LW_paragraph] ({ frames := 8, cells := 1, slots := 6, locals := 260 }) (va_Pc [.ref x, .int a, .int w, .ref ou] (prT s0 sz (dC, dI) [(x, .inr (0, [.ref tp, .int 0, .int ((-1)), .ref sg, .null, .null, .ref st, .null, .ref ft, .null, .ref hy, .null, .null, .int 0, .null, .null, .null, .null, .null, .null, .int 0])), (ou, .inl (cJ, 1, .inr (.inl fo)))] [(cJ, .long)])) (va_Qi (fun (r : Int32) (u : Nat → Int64) => (r = 1 ∧ ¬ (0 ≤ w.toInt ∧ w.toInt ≤ 6)) ∨ (r = 2 ∧ (0 ≤ w.toInt ∧ w.toInt ≤ 6))) (bw (dC, dI) (va_A [(x, .inr (0, [.ref tp, .int 0, .int ((-1)), .ref sg, .null, .null, .ref st, .null, .ref ft, .null, .ref hy, .null, .null, .int 0, .null, .null, .null, .null, .null, .null, .int 0])), (ou, .inl (cJ, 1, .inr (.inl fo)))] sz) (fun u => [(ou, .inl (cJ, 1, .inr (.inl u)))]) (fun _ => [(cJ, .long)])) (va_A [(x, .inr (0, [.ref tp, .int 0, .int ((-1)), .ref sg, .null, .null, .ref st, .null, .ref ft, .null, .ref hy, .null, .null, .int 0, .null, .null, .null, .null, .null, .null, .int 0])), (ou, .inl (cJ, 1, .inr (.inl fo)))] sz)) 1 6 (va_A [(x, .inr (0, [.ref tp, .int 0, .int ((-1)), .ref sg, .null, .null, .ref st, .null, .ref ft, .null, .ref hy, .null, .null, .int 0, .null, .null, .null, .null, .null, .null, .int 0])), (ou, .inl (cJ, 1, .inr (.inl fo)))] sz) := by
  refine va_MetW (cc := b_LW_paragraph) (maxL := 5) (ret := (some .int)) (hh := [(0, 9, 12, 19), (0, 9, 16, 40), (0, 9, 20, 13)]) (by decide) rfl ?_
  intro p e s m args below meth c s₁ B hml hv
  obtain ⟨rfl, hsz, hb0, hB0, hP, hK, hD0⟩ := hv
  have hx := B.exec
  have hb := B.bytes
  have hr := B.returns
  have hts : ∀ wq ∈ tt, wq.before ([.ref x, .int a, .int w, .ref ou] : List Value).toArray s = true := hb0.hts
  have hown : s.vm.findClass "ScholarsPressLaw" = some m.cls := findClass_of_methodNamed B.named
  have hlocks := B.notSynchronized
  obtain ⟨e1, e2, e3, hxs, he1, he2, he3⟩ := te_e3 (te_tab B ((atoms_spec (ws := [w_LW_paragraph]) B.pre) _ List.mem_cons_self))
  simp only [Prod.mk.injEq] at he1
  obtain ⟨a1_1, a1_2, a1_3, a1_4⟩ := he1
  simp only [Prod.mk.injEq] at he2
  obtain ⟨a2_1, a2_2, a2_3, a2_4⟩ := he2
  simp only [Prod.mk.injEq] at he3
  obtain ⟨a3_1, a3_2, a3_3, a3_4⟩ := he3
  subst hsz
  have hD := hD0.self (sz := s.heap.size)
  generalize hAe : va_A [(x, .inr (0, [.ref tp, .int 0, .int ((-1)), .ref sg, .null, .null, .ref st, .null, .ref ft, .null, .ref hy, .null, .null, .int 0, .null, .null, .null, .null, .null, .null, .int 0])), (ou, .inl (cJ, 1, .inr (.inl fo)))] s.heap.size = A at hD ⊢
  have hA : ∀ q : Nat, s.heap.size ≤ q → A q := fun q h => by rw [← hAe]; exact Or.inr h
  have hS : va_S A s.heap s.heap [] := va_S.rf
  have hP : va_P (dC, dI) classes [(x, .inr (0, [.ref tp, .int 0, .int ((-1)), .ref sg, .null, .null, .ref st, .null, .ref ft, .null, .ref hy, .null, .null, .int 0, .null, .null, .null, .null, .null, .null, .int 0])), (ou, .inl (cJ, 1, .inr (.inl fo)))] s.heap := hP
  have hl := lv_entry ([.ref x, .int a, .int w, .ref ou]) (n := 5) (Nat.le_of_ble_eq_true rfl)
  rw [lg_entry_eq]
  generalize (lg_sl ([.ref x, .int a, .int w, .ref ou]) ++ List.replicate (5 - (lg_sl ([.ref x, .int a, .int w, .ref ou])).length) Slot.unset).toArray = ls at hl ⊢
  have hl : lv_has ls 5 [(0, .ref x), (1, .int a), (2, .int w), (3, .ref ou)] := hl
  refine lv_aload_n hx hb d_LW_paragraph_0 rfl (lv_at hl 3 rfl) ?_
  refine lv_iconst (v := 0) hx hb d_LW_paragraph_1 (by decide) ?_
  refine lv_aload_n hx hb d_LW_paragraph_2 rfl (lv_at hl 0 rfl) ?_
  refine lv_iload_n hx hb d_LW_paragraph_3 rfl (lv_at hl 1 rfl) ?_
  refine lv_iload_n hx hb d_LW_paragraph_4 rfl (lv_at hl 2 rfl) ?_
  have hFc := va_free (wc := [(x, .inr (0, [.ref tp, .int 0, .int ((-1)), .ref sg, .null, .null, .ref st, .null, .ref ft, .null, .ref hy, .null, .null, .int 0, .null, .null, .null, .null, .null, .null, .int 0]))]) hD hS hA [0] rfl
  refine te_calll (A0 := A) (A1 := va_A [(x, .inr (0, [.ref tp, .int 0, .int ((-1)), .ref sg, .null, .null, .ref st, .null, .ref ft, .null, .ref hy, .null, .null, .int 0, .null, .null, .null, .null, .null, .null, .int 0]))] s.heap.size) (te_runV (As := [.int a, .int w]) (rest := [.int 0, .ref ou]) ⟨hx, hb, hml, hown, hts⟩ (c_SP_paragraph hfl hS0 dC dI x tp sg st ft hy a w s.heap.size) (cwV 2 hts (tt_V k_2569 k_2570 k_2571 k_240 kw_SP_paragraph) rfl rfl rfl (by decide +kernel) ⟨Nat.le_of_ble_eq_true rfl, Nat.le_of_ble_eq_true rfl⟩) ⟨prT_blind, va_recv hK hP (ci := 0) (q0 := 0) rfl rfl, prT_pre hb0 ⟨hB0.1, hB0.2⟩ (hP.sub [0] rfl) (hK.sub [] rfl) (hD.sub [0] (by decide) rfl)⟩ rfl rfl hl.1 rfl (lv_room (Nat.le_of_ble_eq_true rfl)) d_LW_paragraph_5 ⟨Nat.le_of_ble_eq_true rfl, Nat.le_of_ble_eq_true rfl⟩) hS (fun q _ h => hFc q h) hFc (fun r u t H locs ht hvm hw hBt hz1 hk1 hS => ?_) (fun cls xx H locs hth hnew hce hz hk hS => ?_)
  · exact hw.elim
  · have hP : va_P (dC, dI) classes [(x, .inr (0, [.ref tp, .int 0, .int ((-1)), .ref sg, .null, .null, .ref st, .null, .ref ft, .null, .ref hy, .null, .null, .int 0, .null, .null, .null, .null, .null, .null, .int 0])), (ou, .inl (cJ, 1, .inr (.inl fo)))] H := te_keep hP hk
    rcases hth with ⟨rfl, hR⟩ | ⟨rfl, hR⟩
    · refine te_catch (own := "ScholarsPressLaw") (D := x_IAE) (hpc := 12) (pre := []) (en := e1) (tl := [e2, e3]) hown hce (by rw [hxs]; rfl) (fun y hy => by cases hy) (by simp [covers, a1_1, a1_2]) (by rw [a1_4]; decide) a1_3 (by rw [a1_4]; exact hts _ k_653) te_same ?_
      refine lv_astore (lv' := [(4, .ref xx), (0, .ref x), (1, .int a), (2, .int w), (3, .ref ou)]) hx hb d_LW_paragraph_12 hl (by decide) rfl (fun ls hl => ?_)
      refine lv_iconst (v := 1) hx hb d_LW_paragraph_14 (by decide) ?_
      have hP9 := hP.sub (ws' := [(ou, .inl (cJ, 1, .inr (.inl fo)))]) [1] rfl
      have hD9 := hD.sub (ws' := [(ou, .inl (cJ, 1, .inr (.inl fo)))]) [1] (by decide) rfl
      have hK9 := hK.sub (tys' := [(cJ, .long)]) [0] rfl
      exact W.iret (v := 1) hx hb hr (fun t ht hW => ⟨⟨1, fo, rfl, Or.inl ⟨rfl, hR⟩, by rw [ht]; exact hP9, va_K.moved hW.alike hK9, hD9⟩, hS.F ht⟩) hS.2.2 d_LW_paragraph_15
    · refine te_catch (own := "ScholarsPressLaw") (D := x_ISE) (hpc := 16) (pre := [e1]) (en := e2) (tl := [e3]) hown hce (by rw [hxs]; rfl) (fun y hy => by rw [List.mem_singleton.mp hy]; exact Or.inr ⟨by simp [covers, a1_1, a1_2], by rw [a1_4]; decide, x_IAE, by rw [a1_4]; exact hts _ k_653, hNc.moved hB0.1⟩) (by simp [covers, a2_1, a2_2]) (by rw [a2_4]; decide) a2_3 (by rw [a2_4]; exact hts _ k_1387) te_same ?_
      refine lv_astore (lv' := [(4, .ref xx), (0, .ref x), (1, .int a), (2, .int w), (3, .ref ou)]) hx hb d_LW_paragraph_16 hl (by decide) rfl (fun ls hl => ?_)
      refine lv_iconst (v := 2) hx hb d_LW_paragraph_18 (by decide) ?_
      have hP9 := hP.sub (ws' := [(ou, .inl (cJ, 1, .inr (.inl fo)))]) [1] rfl
      have hD9 := hD.sub (ws' := [(ou, .inl (cJ, 1, .inr (.inl fo)))]) [1] (by decide) rfl
      have hK9 := hK.sub (tys' := [(cJ, .long)]) [0] rfl
      exact W.iret (v := 2) hx hb hr (fun t ht hW => ⟨⟨2, fo, rfl, Or.inr (⟨rfl, hR⟩), by rw [ht]; exact hP9, va_K.moved hW.alike hK9, hD9⟩, hS.F ht⟩) hS.2.2 d_LW_paragraph_19
set_option maxHeartbeats 4000000 in
set_option maxRecDepth 100000 in
/-- the law's judge on a fresh object -/
theorem c_LW_judge {l : Launch} (hfl : l.flags = flags0) {s0 : State} (hS0 : te_S0 s0) (hNc : va_Nc x_ISE x_IAE s0) (dC : Nat → ClassId) (dI : Nat → Nat → Nat) (x tp sg st ft hy ou : Nat) (cJ : ClassId) (fo : Nat → Int64) (a : Int32) (sz : Nat) : Met l y_LW_judge [w_LW_judge] ({ frames := 8, cells := 1, slots := 6, locals := 260 }) (va_Pc [.ref x, .int a, .ref ou] (prT s0 sz (dC, dI) [(x, .inr (0, [.ref tp, .int 0, .int ((-1)), .ref sg, .null, .null, .ref st, .null, .ref ft, .null, .ref hy, .null, .null, .int 0, .null, .null, .null, .null, .null, .null, .int 0])), (ou, .inl (cJ, 1, .inr (.inl fo)))] [(cJ, .long)])) (va_Qi (fun (r : Int32) (u : Nat → Int64) => r = 1 ∧ True) (bw (dC, dI) (va_A [(x, .inr (0, [.ref tp, .int 0, .int ((-1)), .ref sg, .null, .null, .ref st, .null, .ref ft, .null, .ref hy, .null, .null, .int 0, .null, .null, .null, .null, .null, .null, .int 0])), (ou, .inl (cJ, 1, .inr (.inl fo)))] sz) (fun u => [(ou, .inl (cJ, 1, .inr (.inl u)))]) (fun _ => [(cJ, .long)])) (va_A [(x, .inr (0, [.ref tp, .int 0, .int ((-1)), .ref sg, .null, .null, .ref st, .null, .ref ft, .null, .ref hy, .null, .null, .int 0, .null, .null, .null, .null, .null, .null, .int 0])), (ou, .inl (cJ, 1, .inr (.inl fo)))] sz)) 1 6 (va_A [(x, .inr (0, [.ref tp, .int 0, .int ((-1)), .ref sg, .null, .null, .ref st, .null, .ref ft, .null, .ref hy, .null, .null, .int 0, .null, .null, .null, .null, .null, .null, .int 0])), (ou, .inl (cJ, 1, .inr (.inl fo)))] sz) := by
  refine va_MetW (cc := b_LW_judge) (maxL := 4) (ret := (some .int)) (hh := [(0, 8, 11, 40), (0, 8, 14, 13), (0, 8, 17, 25)]) (by decide) rfl ?_
  intro p e s m args below meth c s₁ B hml hv
  obtain ⟨rfl, hsz, hb0, hB0, hP, hK, hD0⟩ := hv
  have hx := B.exec
  have hb := B.bytes
  have hr := B.returns
  have hts : ∀ wq ∈ tt, wq.before ([.ref x, .int a, .ref ou] : List Value).toArray s = true := hb0.hts
  have hown : s.vm.findClass "ScholarsPressLaw" = some m.cls := findClass_of_methodNamed B.named
  have hlocks := B.notSynchronized
  obtain ⟨e1, e2, e3, hxs, he1, he2, he3⟩ := te_e3 (te_tab B ((atoms_spec (ws := [w_LW_judge]) B.pre) _ List.mem_cons_self))
  simp only [Prod.mk.injEq] at he1
  obtain ⟨a1_1, a1_2, a1_3, a1_4⟩ := he1
  simp only [Prod.mk.injEq] at he2
  obtain ⟨a2_1, a2_2, a2_3, a2_4⟩ := he2
  simp only [Prod.mk.injEq] at he3
  obtain ⟨a3_1, a3_2, a3_3, a3_4⟩ := he3
  subst hsz
  have hD := hD0.self (sz := s.heap.size)
  generalize hAe : va_A [(x, .inr (0, [.ref tp, .int 0, .int ((-1)), .ref sg, .null, .null, .ref st, .null, .ref ft, .null, .ref hy, .null, .null, .int 0, .null, .null, .null, .null, .null, .null, .int 0])), (ou, .inl (cJ, 1, .inr (.inl fo)))] s.heap.size = A at hD ⊢
  have hA : ∀ q : Nat, s.heap.size ≤ q → A q := fun q h => by rw [← hAe]; exact Or.inr h
  have hS : va_S A s.heap s.heap [] := va_S.rf
  have hP : va_P (dC, dI) classes [(x, .inr (0, [.ref tp, .int 0, .int ((-1)), .ref sg, .null, .null, .ref st, .null, .ref ft, .null, .ref hy, .null, .null, .int 0, .null, .null, .null, .null, .null, .null, .int 0])), (ou, .inl (cJ, 1, .inr (.inl fo)))] s.heap := hP
  have hl := lv_entry ([.ref x, .int a, .ref ou]) (n := 4) (Nat.le_of_ble_eq_true rfl)
  rw [lg_entry_eq]
  generalize (lg_sl ([.ref x, .int a, .ref ou]) ++ List.replicate (4 - (lg_sl ([.ref x, .int a, .ref ou])).length) Slot.unset).toArray = ls at hl ⊢
  have hl : lv_has ls 4 [(0, .ref x), (1, .int a), (2, .ref ou)] := hl
  refine lv_aload_n hx hb d_LW_judge_0 rfl (lv_at hl 2 rfl) ?_
  refine lv_iconst (v := 0) hx hb d_LW_judge_1 (by decide) ?_
  refine lv_aload_n hx hb d_LW_judge_2 rfl (lv_at hl 0 rfl) ?_
  refine lv_iload_n hx hb d_LW_judge_3 rfl (lv_at hl 1 rfl) ?_
  have hFc := va_free (wc := [(x, .inr (0, [.ref tp, .int 0, .int ((-1)), .ref sg, .null, .null, .ref st, .null, .ref ft, .null, .ref hy, .null, .null, .int 0, .null, .null, .null, .null, .null, .null, .int 0]))]) hD hS hA [0] rfl
  refine te_calll (A0 := A) (A1 := va_A [(x, .inr (0, [.ref tp, .int 0, .int ((-1)), .ref sg, .null, .null, .ref st, .null, .ref ft, .null, .ref hy, .null, .null, .int 0, .null, .null, .null, .null, .null, .null, .int 0]))] s.heap.size) (te_runV (As := [.int a]) (rest := [.int 0, .ref ou]) ⟨hx, hb, hml, hown, hts⟩ (c_SP_judge hfl hS0 dC dI x tp sg st ft hy a s.heap.size) (cwV 1 hts (tt_V k_2577 k_2578 k_2579 k_240 kw_SP_judge) rfl rfl rfl (by decide +kernel) ⟨Nat.le_of_ble_eq_true rfl, Nat.le_of_ble_eq_true rfl⟩) ⟨prT_blind, va_recv hK hP (ci := 0) (q0 := 0) rfl rfl, prT_pre hb0 ⟨hB0.1, hB0.2⟩ (hP.sub [0] rfl) (hK.sub [] rfl) (hD.sub [0] (by decide) rfl)⟩ rfl rfl hl.1 rfl (lv_room (Nat.le_of_ble_eq_true rfl)) d_LW_judge_4 ⟨Nat.le_of_ble_eq_true rfl, Nat.le_of_ble_eq_true rfl⟩) hS (fun q _ h => hFc q h) hFc (fun r u t H locs ht hvm hw hBt hz1 hk1 hS => ?_) (fun cls xx H locs hth hnew hce hz hk hS => ?_)
  · exact hw.elim
  · have hP : va_P (dC, dI) classes [(x, .inr (0, [.ref tp, .int 0, .int ((-1)), .ref sg, .null, .null, .ref st, .null, .ref ft, .null, .ref hy, .null, .null, .int 0, .null, .null, .null, .null, .null, .null, .int 0])), (ou, .inl (cJ, 1, .inr (.inl fo)))] H := te_keep hP hk
    rcases hth with ⟨rfl, hR⟩
    refine te_catch (own := "ScholarsPressLaw") (D := x_ISE) (hpc := 11) (pre := []) (en := e1) (tl := [e2, e3]) hown hce (by rw [hxs]; rfl) (fun y hy => by cases hy) (by simp [covers, a1_1, a1_2]) (by rw [a1_4]; decide) a1_3 (by rw [a1_4]; exact hts _ k_1387) te_same ?_
    refine lv_astore_n (lv' := [(3, .ref xx), (0, .ref x), (1, .int a), (2, .ref ou)]) hx hb d_LW_judge_11 rfl hl (by decide) rfl (fun ls hl => ?_)
    refine lv_iconst (v := 1) hx hb d_LW_judge_12 (by decide) ?_
    have hP9 := hP.sub (ws' := [(ou, .inl (cJ, 1, .inr (.inl fo)))]) [1] rfl
    have hD9 := hD.sub (ws' := [(ou, .inl (cJ, 1, .inr (.inl fo)))]) [1] (by decide) rfl
    have hK9 := hK.sub (tys' := [(cJ, .long)]) [0] rfl
    exact W.iret (v := 1) hx hb hr (fun t ht hW => ⟨⟨1, fo, rfl, ⟨rfl, hR⟩, by rw [ht]; exact hP9, va_K.moved hW.alike hK9, hD9⟩, hS.F ht⟩) hS.2.2 d_LW_judge_13
set_option maxHeartbeats 4000000 in
set_option maxRecDepth 100000 in
/-- the law's where on a fresh object -/
theorem c_LW_where {l : Launch} (hfl : l.flags = flags0) {s0 : State} (hS0 : te_S0 s0) (hNc : va_Nc x_ISE x_IAE s0) (dC : Nat → ClassId) (dI : Nat → Nat → Nat) (x tp sg st ft hy ou : Nat) (cJ : ClassId) (fo : Nat → Int64) (w : Int32) (sz : Nat) : Met l y_LW_where [w_LW_where] ({ frames := 8, cells := 1, slots := 6, locals := 260 }) (va_Pc [.ref x, .int w, .ref ou] (prT s0 sz (dC, dI) [(x, .inr (0, [.ref tp, .int 0, .int ((-1)), .ref sg, .null, .null, .ref st, .null, .ref ft, .null, .ref hy, .null, .null, .int 0, .null, .null, .null, .null, .null, .null, .int 0])), (ou, .inl (cJ, 1, .inr (.inl fo)))] [(cJ, .long)])) (va_Qi (fun (r : Int32) (u : Nat → Int64) => (r = 1 ∧ ¬ (0 ≤ w.toInt ∧ w.toInt ≤ 5)) ∨ (r = 2 ∧ (0 ≤ w.toInt ∧ w.toInt ≤ 5))) (bw (dC, dI) (va_A [(x, .inr (0, [.ref tp, .int 0, .int ((-1)), .ref sg, .null, .null, .ref st, .null, .ref ft, .null, .ref hy, .null, .null, .int 0, .null, .null, .null, .null, .null, .null, .int 0])), (ou, .inl (cJ, 1, .inr (.inl fo)))] sz) (fun u => [(ou, .inl (cJ, 1, .inr (.inl u)))]) (fun _ => [(cJ, .long)])) (va_A [(x, .inr (0, [.ref tp, .int 0, .int ((-1)), .ref sg, .null, .null, .ref st, .null, .ref ft, .null, .ref hy, .null, .null, .int 0, .null, .null, .null, .null, .null, .null, .int 0])), (ou, .inl (cJ, 1, .inr (.inl fo)))] sz)) 1 6 (va_A [(x, .inr (0, [.ref tp, .int 0, .int ((-1)), .ref sg, .null, .null, .ref st, .null, .ref ft, .null, .ref hy, .null, .null, .int 0, .null, .null, .null, .null, .null, .null, .int 0])), (ou, .inl (cJ, 1, .inr (.inl fo)))] sz) := by
  refine va_MetW (cc := b_LW_where) (maxL := 4) (ret := (some .int)) (hh := [(0, 9, 12, 19), (0, 9, 15, 40), (0, 9, 18, 70)]) (by decide) rfl ?_
  intro p e s m args below meth c s₁ B hml hv
  obtain ⟨rfl, hsz, hb0, hB0, hP, hK, hD0⟩ := hv
  have hx := B.exec
  have hb := B.bytes
  have hr := B.returns
  have hts : ∀ wq ∈ tt, wq.before ([.ref x, .int w, .ref ou] : List Value).toArray s = true := hb0.hts
  have hown : s.vm.findClass "ScholarsPressLaw" = some m.cls := findClass_of_methodNamed B.named
  have hlocks := B.notSynchronized
  obtain ⟨e1, e2, e3, hxs, he1, he2, he3⟩ := te_e3 (te_tab B ((atoms_spec (ws := [w_LW_where]) B.pre) _ List.mem_cons_self))
  simp only [Prod.mk.injEq] at he1
  obtain ⟨a1_1, a1_2, a1_3, a1_4⟩ := he1
  simp only [Prod.mk.injEq] at he2
  obtain ⟨a2_1, a2_2, a2_3, a2_4⟩ := he2
  simp only [Prod.mk.injEq] at he3
  obtain ⟨a3_1, a3_2, a3_3, a3_4⟩ := he3
  subst hsz
  have hD := hD0.self (sz := s.heap.size)
  generalize hAe : va_A [(x, .inr (0, [.ref tp, .int 0, .int ((-1)), .ref sg, .null, .null, .ref st, .null, .ref ft, .null, .ref hy, .null, .null, .int 0, .null, .null, .null, .null, .null, .null, .int 0])), (ou, .inl (cJ, 1, .inr (.inl fo)))] s.heap.size = A at hD ⊢
  have hA : ∀ q : Nat, s.heap.size ≤ q → A q := fun q h => by rw [← hAe]; exact Or.inr h
  have hS : va_S A s.heap s.heap [] := va_S.rf
  have hP : va_P (dC, dI) classes [(x, .inr (0, [.ref tp, .int 0, .int ((-1)), .ref sg, .null, .null, .ref st, .null, .ref ft, .null, .ref hy, .null, .null, .int 0, .null, .null, .null, .null, .null, .null, .int 0])), (ou, .inl (cJ, 1, .inr (.inl fo)))] s.heap := hP
  have hl := lv_entry ([.ref x, .int w, .ref ou]) (n := 4) (Nat.le_of_ble_eq_true rfl)
  rw [lg_entry_eq]
  generalize (lg_sl ([.ref x, .int w, .ref ou]) ++ List.replicate (4 - (lg_sl ([.ref x, .int w, .ref ou])).length) Slot.unset).toArray = ls at hl ⊢
  have hl : lv_has ls 4 [(0, .ref x), (1, .int w), (2, .ref ou)] := hl
  refine lv_aload_n hx hb d_LW_where_0 rfl (lv_at hl 2 rfl) ?_
  refine lv_iconst (v := 0) hx hb d_LW_where_1 (by decide) ?_
  refine lv_aload_n hx hb d_LW_where_2 rfl (lv_at hl 0 rfl) ?_
  refine lv_iload_n hx hb d_LW_where_3 rfl (lv_at hl 1 rfl) ?_
  have hFc := va_free (wc := [(x, .inr (0, [.ref tp, .int 0, .int ((-1)), .ref sg, .null, .null, .ref st, .null, .ref ft, .null, .ref hy, .null, .null, .int 0, .null, .null, .null, .null, .null, .null, .int 0]))]) hD hS hA [0] rfl
  refine te_calli (A0 := A) (A1 := va_A [(x, .inr (0, [.ref tp, .int 0, .int ((-1)), .ref sg, .null, .null, .ref st, .null, .ref ft, .null, .ref hy, .null, .null, .int 0, .null, .null, .null, .null, .null, .null, .int 0]))] s.heap.size) (te_runV (As := [.int w]) (rest := [.int 0, .ref ou]) ⟨hx, hb, hml, hown, hts⟩ (c_SP_where hfl hS0 dC dI x tp sg st ft hy w s.heap.size) (cwV 1 hts (tt_V k_2595 k_2596 k_2597 k_240 kw_SP_where) rfl rfl rfl (by decide +kernel) ⟨Nat.le_of_ble_eq_true rfl, Nat.le_of_ble_eq_true rfl⟩) ⟨prT_blind, va_recv hK hP (ci := 0) (q0 := 0) rfl rfl, prT_pre hb0 ⟨hB0.1, hB0.2⟩ (hP.sub [0] rfl) (hK.sub [] rfl) (hD.sub [0] (by decide) rfl)⟩ rfl rfl hl.1 rfl (lv_room (Nat.le_of_ble_eq_true rfl)) d_LW_where_4 ⟨Nat.le_of_ble_eq_true rfl, Nat.le_of_ble_eq_true rfl⟩) hS (fun q _ h => hFc q h) hFc (fun r u t H locs ht hvm hw hBt hz1 hk1 hS => ?_) (fun cls xx H locs hth hnew hce hz hk hS => ?_)
  · exact hw.elim
  · have hP : va_P (dC, dI) classes [(x, .inr (0, [.ref tp, .int 0, .int ((-1)), .ref sg, .null, .null, .ref st, .null, .ref ft, .null, .ref hy, .null, .null, .int 0, .null, .null, .null, .null, .null, .null, .int 0])), (ou, .inl (cJ, 1, .inr (.inl fo)))] H := te_keep hP hk
    rcases hth with ⟨rfl, hR⟩ | ⟨rfl, hR⟩
    · refine te_catch (own := "ScholarsPressLaw") (D := x_IAE) (hpc := 12) (pre := []) (en := e1) (tl := [e2, e3]) hown hce (by rw [hxs]; rfl) (fun y hy => by cases hy) (by simp [covers, a1_1, a1_2]) (by rw [a1_4]; decide) a1_3 (by rw [a1_4]; exact hts _ k_653) te_same ?_
      refine lv_astore_n (lv' := [(3, .ref xx), (0, .ref x), (1, .int w), (2, .ref ou)]) hx hb d_LW_where_12 rfl hl (by decide) rfl (fun ls hl => ?_)
      refine lv_iconst (v := 1) hx hb d_LW_where_13 (by decide) ?_
      have hP9 := hP.sub (ws' := [(ou, .inl (cJ, 1, .inr (.inl fo)))]) [1] rfl
      have hD9 := hD.sub (ws' := [(ou, .inl (cJ, 1, .inr (.inl fo)))]) [1] (by decide) rfl
      have hK9 := hK.sub (tys' := [(cJ, .long)]) [0] rfl
      exact W.iret (v := 1) hx hb hr (fun t ht hW => ⟨⟨1, fo, rfl, Or.inl ⟨rfl, hR⟩, by rw [ht]; exact hP9, va_K.moved hW.alike hK9, hD9⟩, hS.F ht⟩) hS.2.2 d_LW_where_14
    · refine te_catch (own := "ScholarsPressLaw") (D := x_ISE) (hpc := 15) (pre := [e1]) (en := e2) (tl := [e3]) hown hce (by rw [hxs]; rfl) (fun y hy => by rw [List.mem_singleton.mp hy]; exact Or.inr ⟨by simp [covers, a1_1, a1_2], by rw [a1_4]; decide, x_IAE, by rw [a1_4]; exact hts _ k_653, hNc.moved hB0.1⟩) (by simp [covers, a2_1, a2_2]) (by rw [a2_4]; decide) a2_3 (by rw [a2_4]; exact hts _ k_1387) te_same ?_
      refine lv_astore_n (lv' := [(3, .ref xx), (0, .ref x), (1, .int w), (2, .ref ou)]) hx hb d_LW_where_15 rfl hl (by decide) rfl (fun ls hl => ?_)
      refine lv_iconst (v := 2) hx hb d_LW_where_16 (by decide) ?_
      have hP9 := hP.sub (ws' := [(ou, .inl (cJ, 1, .inr (.inl fo)))]) [1] rfl
      have hD9 := hD.sub (ws' := [(ou, .inl (cJ, 1, .inr (.inl fo)))]) [1] (by decide) rfl
      have hK9 := hK.sub (tys' := [(cJ, .long)]) [0] rfl
      exact W.iret (v := 2) hx hb hr (fun t ht hW => ⟨⟨2, fo, rfl, Or.inr (⟨rfl, hR⟩), by rw [ht]; exact hP9, va_K.moved hW.alike hK9, hD9⟩, hS.F ht⟩) hS.2.2 d_LW_where_17
set_option maxHeartbeats 4000000 in
set_option maxRecDepth 100000 in
/-- the law's note on a fresh object -/
theorem c_LW_note {l : Launch} (hfl : l.flags = flags0) {s0 : State} (hS0 : te_S0 s0) (hNc : va_Nc x_ISE x_IAE s0) (dC : Nat → ClassId) (dI : Nat → Nat → Nat) (x tp sg st ft hy ou : Nat) (cJ : ClassId) (fo : Nat → Int64) (a w : Int32) (sz : Nat) : Met l y_LW_note [w_LW_note] ({ frames := 8, cells := 1, slots := 6, locals := 260 }) (va_Pc [.ref x, .int a, .int w, .ref ou] (prT s0 sz (dC, dI) [(x, .inr (0, [.ref tp, .int 0, .int ((-1)), .ref sg, .null, .null, .ref st, .null, .ref ft, .null, .ref hy, .null, .null, .int 0, .null, .null, .null, .null, .null, .null, .int 0])), (ou, .inl (cJ, 1, .inr (.inl fo)))] [(cJ, .long)])) (va_Qi (fun (r : Int32) (u : Nat → Int64) => (r = 1 ∧ ¬ ((0 ≤ w.toInt ∧ w.toInt ≤ 5) ∨ (10 ≤ w.toInt ∧ w.toInt ≤ 13))) ∨ (r = 2 ∧ ((0 ≤ w.toInt ∧ w.toInt ≤ 5) ∨ (10 ≤ w.toInt ∧ w.toInt ≤ 13)))) (bw (dC, dI) (va_A [(x, .inr (0, [.ref tp, .int 0, .int ((-1)), .ref sg, .null, .null, .ref st, .null, .ref ft, .null, .ref hy, .null, .null, .int 0, .null, .null, .null, .null, .null, .null, .int 0])), (ou, .inl (cJ, 1, .inr (.inl fo)))] sz) (fun u => [(ou, .inl (cJ, 1, .inr (.inl u)))]) (fun _ => [(cJ, .long)])) (va_A [(x, .inr (0, [.ref tp, .int 0, .int ((-1)), .ref sg, .null, .null, .ref st, .null, .ref ft, .null, .ref hy, .null, .null, .int 0, .null, .null, .null, .null, .null, .null, .int 0])), (ou, .inl (cJ, 1, .inr (.inl fo)))] sz)) 1 6 (va_A [(x, .inr (0, [.ref tp, .int 0, .int ((-1)), .ref sg, .null, .null, .ref st, .null, .ref ft, .null, .ref hy, .null, .null, .int 0, .null, .null, .null, .null, .null, .null, .int 0])), (ou, .inl (cJ, 1, .inr (.inl fo)))] sz) := by
  refine va_MetW (cc := b_LW_note) (maxL := 5) (ret := (some .int)) (hh := [(0, 10, 13, 19), (0, 10, 17, 40), (0, 10, 21, 13)]) (by decide) rfl ?_
  intro p e s m args below meth c s₁ B hml hv
  obtain ⟨rfl, hsz, hb0, hB0, hP, hK, hD0⟩ := hv
  have hx := B.exec
  have hb := B.bytes
  have hr := B.returns
  have hts : ∀ wq ∈ tt, wq.before ([.ref x, .int a, .int w, .ref ou] : List Value).toArray s = true := hb0.hts
  have hown : s.vm.findClass "ScholarsPressLaw" = some m.cls := findClass_of_methodNamed B.named
  have hlocks := B.notSynchronized
  obtain ⟨e1, e2, e3, hxs, he1, he2, he3⟩ := te_e3 (te_tab B ((atoms_spec (ws := [w_LW_note]) B.pre) _ List.mem_cons_self))
  simp only [Prod.mk.injEq] at he1
  obtain ⟨a1_1, a1_2, a1_3, a1_4⟩ := he1
  simp only [Prod.mk.injEq] at he2
  obtain ⟨a2_1, a2_2, a2_3, a2_4⟩ := he2
  simp only [Prod.mk.injEq] at he3
  obtain ⟨a3_1, a3_2, a3_3, a3_4⟩ := he3
  subst hsz
  have hD := hD0.self (sz := s.heap.size)
  generalize hAe : va_A [(x, .inr (0, [.ref tp, .int 0, .int ((-1)), .ref sg, .null, .null, .ref st, .null, .ref ft, .null, .ref hy, .null, .null, .int 0, .null, .null, .null, .null, .null, .null, .int 0])), (ou, .inl (cJ, 1, .inr (.inl fo)))] s.heap.size = A at hD ⊢
  have hA : ∀ q : Nat, s.heap.size ≤ q → A q := fun q h => by rw [← hAe]; exact Or.inr h
  have hS : va_S A s.heap s.heap [] := va_S.rf
  have hP : va_P (dC, dI) classes [(x, .inr (0, [.ref tp, .int 0, .int ((-1)), .ref sg, .null, .null, .ref st, .null, .ref ft, .null, .ref hy, .null, .null, .int 0, .null, .null, .null, .null, .null, .null, .int 0])), (ou, .inl (cJ, 1, .inr (.inl fo)))] s.heap := hP
  have hl := lv_entry ([.ref x, .int a, .int w, .ref ou]) (n := 5) (Nat.le_of_ble_eq_true rfl)
  rw [lg_entry_eq]
  generalize (lg_sl ([.ref x, .int a, .int w, .ref ou]) ++ List.replicate (5 - (lg_sl ([.ref x, .int a, .int w, .ref ou])).length) Slot.unset).toArray = ls at hl ⊢
  have hl : lv_has ls 5 [(0, .ref x), (1, .int a), (2, .int w), (3, .ref ou)] := hl
  refine lv_aload_n hx hb d_LW_note_0 rfl (lv_at hl 3 rfl) ?_
  refine lv_iconst (v := 0) hx hb d_LW_note_1 (by decide) ?_
  refine lv_aload_n hx hb d_LW_note_2 rfl (lv_at hl 0 rfl) ?_
  refine lv_iload_n hx hb d_LW_note_3 rfl (lv_at hl 1 rfl) ?_
  refine lv_iload_n hx hb d_LW_note_4 rfl (lv_at hl 2 rfl) ?_
  have hFc := va_free (wc := [(x, .inr (0, [.ref tp, .int 0, .int ((-1)), .ref sg, .null, .null, .ref st, .null, .ref ft, .null, .ref hy, .null, .null, .int 0, .null, .null, .null, .null, .null, .null, .int 0]))]) hD hS hA [0] rfl
  refine te_calli (A0 := A) (A1 := va_A [(x, .inr (0, [.ref tp, .int 0, .int ((-1)), .ref sg, .null, .null, .ref st, .null, .ref ft, .null, .ref hy, .null, .null, .int 0, .null, .null, .null, .null, .null, .null, .int 0]))] s.heap.size) (te_runV (As := [.int a, .int w]) (rest := [.int 0, .ref ou]) ⟨hx, hb, hml, hown, hts⟩ (c_SP_note hfl hS0 dC dI x tp sg st ft hy a w s.heap.size) (cwV 2 hts (tt_V k_2626 k_2627 k_2628 k_240 kw_SP_note) rfl rfl rfl (by decide +kernel) ⟨Nat.le_of_ble_eq_true rfl, Nat.le_of_ble_eq_true rfl⟩) ⟨prT_blind, va_recv hK hP (ci := 0) (q0 := 0) rfl rfl, prT_pre hb0 ⟨hB0.1, hB0.2⟩ (hP.sub [0] rfl) (hK.sub [] rfl) (hD.sub [0] (by decide) rfl)⟩ rfl rfl hl.1 rfl (lv_room (Nat.le_of_ble_eq_true rfl)) d_LW_note_5 ⟨Nat.le_of_ble_eq_true rfl, Nat.le_of_ble_eq_true rfl⟩) hS (fun q _ h => hFc q h) hFc (fun r u t H locs ht hvm hw hBt hz1 hk1 hS => ?_) (fun cls xx H locs hth hnew hce hz hk hS => ?_)
  · exact hw.elim
  · have hP : va_P (dC, dI) classes [(x, .inr (0, [.ref tp, .int 0, .int ((-1)), .ref sg, .null, .null, .ref st, .null, .ref ft, .null, .ref hy, .null, .null, .int 0, .null, .null, .null, .null, .null, .null, .int 0])), (ou, .inl (cJ, 1, .inr (.inl fo)))] H := te_keep hP hk
    rcases hth with ⟨rfl, hR⟩ | ⟨rfl, hR⟩
    · refine te_catch (own := "ScholarsPressLaw") (D := x_IAE) (hpc := 13) (pre := []) (en := e1) (tl := [e2, e3]) hown hce (by rw [hxs]; rfl) (fun y hy => by cases hy) (by simp [covers, a1_1, a1_2]) (by rw [a1_4]; decide) a1_3 (by rw [a1_4]; exact hts _ k_653) te_same ?_
      refine lv_astore (lv' := [(4, .ref xx), (0, .ref x), (1, .int a), (2, .int w), (3, .ref ou)]) hx hb d_LW_note_13 hl (by decide) rfl (fun ls hl => ?_)
      refine lv_iconst (v := 1) hx hb d_LW_note_15 (by decide) ?_
      have hP9 := hP.sub (ws' := [(ou, .inl (cJ, 1, .inr (.inl fo)))]) [1] rfl
      have hD9 := hD.sub (ws' := [(ou, .inl (cJ, 1, .inr (.inl fo)))]) [1] (by decide) rfl
      have hK9 := hK.sub (tys' := [(cJ, .long)]) [0] rfl
      exact W.iret (v := 1) hx hb hr (fun t ht hW => ⟨⟨1, fo, rfl, Or.inl ⟨rfl, hR⟩, by rw [ht]; exact hP9, va_K.moved hW.alike hK9, hD9⟩, hS.F ht⟩) hS.2.2 d_LW_note_16
    · refine te_catch (own := "ScholarsPressLaw") (D := x_ISE) (hpc := 17) (pre := [e1]) (en := e2) (tl := [e3]) hown hce (by rw [hxs]; rfl) (fun y hy => by rw [List.mem_singleton.mp hy]; exact Or.inr ⟨by simp [covers, a1_1, a1_2], by rw [a1_4]; decide, x_IAE, by rw [a1_4]; exact hts _ k_653, hNc.moved hB0.1⟩) (by simp [covers, a2_1, a2_2]) (by rw [a2_4]; decide) a2_3 (by rw [a2_4]; exact hts _ k_1387) te_same ?_
      refine lv_astore (lv' := [(4, .ref xx), (0, .ref x), (1, .int a), (2, .int w), (3, .ref ou)]) hx hb d_LW_note_17 hl (by decide) rfl (fun ls hl => ?_)
      refine lv_iconst (v := 2) hx hb d_LW_note_19 (by decide) ?_
      have hP9 := hP.sub (ws' := [(ou, .inl (cJ, 1, .inr (.inl fo)))]) [1] rfl
      have hD9 := hD.sub (ws' := [(ou, .inl (cJ, 1, .inr (.inl fo)))]) [1] (by decide) rfl
      have hK9 := hK.sub (tys' := [(cJ, .long)]) [0] rfl
      exact W.iret (v := 2) hx hb hr (fun t ht hW => ⟨⟨2, fo, rfl, Or.inr (⟨rfl, hR⟩), by rw [ht]; exact hP9, va_K.moved hW.alike hK9, hD9⟩, hS.F ht⟩) hS.2.2 d_LW_note_20
set_option maxHeartbeats 4000000 in
set_option maxRecDepth 100000 in
/-- the law's wavering on a fresh object -/
theorem c_LW_wavering {l : Launch} (hfl : l.flags = flags0) {s0 : State} (hS0 : te_S0 s0) (hNc : va_Nc x_ISE x_IAE s0) (dC : Nat → ClassId) (dI : Nat → Nat → Nat) (x tp sg st ft hy ou : Nat) (cJ : ClassId) (fo : Nat → Int64) (a : Int32) (sz : Nat) : Met l y_LW_wavering [w_LW_wavering] ({ frames := 8, cells := 1, slots := 6, locals := 260 }) (va_Pc [.ref x, .int a, .ref ou] (prT s0 sz (dC, dI) [(x, .inr (0, [.ref tp, .int 0, .int ((-1)), .ref sg, .null, .null, .ref st, .null, .ref ft, .null, .ref hy, .null, .null, .int 0, .null, .null, .null, .null, .null, .null, .int 0])), (ou, .inl (cJ, 1, .inr (.inl fo)))] [(cJ, .long)])) (va_Qi (fun (r : Int32) (u : Nat → Int64) => r = 1 ∧ True) (bw (dC, dI) (va_A [(x, .inr (0, [.ref tp, .int 0, .int ((-1)), .ref sg, .null, .null, .ref st, .null, .ref ft, .null, .ref hy, .null, .null, .int 0, .null, .null, .null, .null, .null, .null, .int 0])), (ou, .inl (cJ, 1, .inr (.inl fo)))] sz) (fun u => [(ou, .inl (cJ, 1, .inr (.inl u)))]) (fun _ => [(cJ, .long)])) (va_A [(x, .inr (0, [.ref tp, .int 0, .int ((-1)), .ref sg, .null, .null, .ref st, .null, .ref ft, .null, .ref hy, .null, .null, .int 0, .null, .null, .null, .null, .null, .null, .int 0])), (ou, .inl (cJ, 1, .inr (.inl fo)))] sz)) 1 6 (va_A [(x, .inr (0, [.ref tp, .int 0, .int ((-1)), .ref sg, .null, .null, .ref st, .null, .ref ft, .null, .ref hy, .null, .null, .int 0, .null, .null, .null, .null, .null, .null, .int 0])), (ou, .inl (cJ, 1, .inr (.inl fo)))] sz) := by
  refine va_MetW (cc := b_LW_wavering) (maxL := 4) (ret := (some .int)) (hh := [(0, 9, 12, 40), (0, 9, 15, 13)]) (by decide) rfl ?_
  intro p e s m args below meth c s₁ B hml hv
  obtain ⟨rfl, hsz, hb0, hB0, hP, hK, hD0⟩ := hv
  have hx := B.exec
  have hb := B.bytes
  have hr := B.returns
  have hts : ∀ wq ∈ tt, wq.before ([.ref x, .int a, .ref ou] : List Value).toArray s = true := hb0.hts
  have hown : s.vm.findClass "ScholarsPressLaw" = some m.cls := findClass_of_methodNamed B.named
  have hlocks := B.notSynchronized
  obtain ⟨e1, e2, hxs, he1, he2⟩ := te_e2 (te_tab B ((atoms_spec (ws := [w_LW_wavering]) B.pre) _ List.mem_cons_self))
  simp only [Prod.mk.injEq] at he1
  obtain ⟨a1_1, a1_2, a1_3, a1_4⟩ := he1
  simp only [Prod.mk.injEq] at he2
  obtain ⟨a2_1, a2_2, a2_3, a2_4⟩ := he2
  subst hsz
  have hD := hD0.self (sz := s.heap.size)
  generalize hAe : va_A [(x, .inr (0, [.ref tp, .int 0, .int ((-1)), .ref sg, .null, .null, .ref st, .null, .ref ft, .null, .ref hy, .null, .null, .int 0, .null, .null, .null, .null, .null, .null, .int 0])), (ou, .inl (cJ, 1, .inr (.inl fo)))] s.heap.size = A at hD ⊢
  have hA : ∀ q : Nat, s.heap.size ≤ q → A q := fun q h => by rw [← hAe]; exact Or.inr h
  have hS : va_S A s.heap s.heap [] := va_S.rf
  have hP : va_P (dC, dI) classes [(x, .inr (0, [.ref tp, .int 0, .int ((-1)), .ref sg, .null, .null, .ref st, .null, .ref ft, .null, .ref hy, .null, .null, .int 0, .null, .null, .null, .null, .null, .null, .int 0])), (ou, .inl (cJ, 1, .inr (.inl fo)))] s.heap := hP
  have hl := lv_entry ([.ref x, .int a, .ref ou]) (n := 4) (Nat.le_of_ble_eq_true rfl)
  rw [lg_entry_eq]
  generalize (lg_sl ([.ref x, .int a, .ref ou]) ++ List.replicate (4 - (lg_sl ([.ref x, .int a, .ref ou])).length) Slot.unset).toArray = ls at hl ⊢
  have hl : lv_has ls 4 [(0, .ref x), (1, .int a), (2, .ref ou)] := hl
  refine lv_aload_n hx hb d_LW_wavering_0 rfl (lv_at hl 2 rfl) ?_
  refine lv_iconst (v := 0) hx hb d_LW_wavering_1 (by decide) ?_
  refine lv_aload_n hx hb d_LW_wavering_2 rfl (lv_at hl 0 rfl) ?_
  refine lv_iload_n hx hb d_LW_wavering_3 rfl (lv_at hl 1 rfl) ?_
  have hFc := va_free (wc := [(x, .inr (0, [.ref tp, .int 0, .int ((-1)), .ref sg, .null, .null, .ref st, .null, .ref ft, .null, .ref hy, .null, .null, .int 0, .null, .null, .null, .null, .null, .null, .int 0]))]) hD hS hA [0] rfl
  refine te_calli (A0 := A) (A1 := va_A [(x, .inr (0, [.ref tp, .int 0, .int ((-1)), .ref sg, .null, .null, .ref st, .null, .ref ft, .null, .ref hy, .null, .null, .int 0, .null, .null, .null, .null, .null, .null, .int 0]))] s.heap.size) (te_runV (As := [.int a]) (rest := [.int 0, .ref ou]) ⟨hx, hb, hml, hown, hts⟩ (c_SP_wavering hfl hS0 dC dI x tp sg st ft hy a s.heap.size) (cwV 1 hts (tt_V k_2651 k_2652 k_2653 k_240 kw_SP_wavering) rfl rfl rfl (by decide +kernel) ⟨Nat.le_of_ble_eq_true rfl, Nat.le_of_ble_eq_true rfl⟩) ⟨prT_blind, va_recv hK hP (ci := 0) (q0 := 0) rfl rfl, prT_pre hb0 ⟨hB0.1, hB0.2⟩ (hP.sub [0] rfl) (hK.sub [] rfl) (hD.sub [0] (by decide) rfl)⟩ rfl rfl hl.1 rfl (lv_room (Nat.le_of_ble_eq_true rfl)) d_LW_wavering_4 ⟨Nat.le_of_ble_eq_true rfl, Nat.le_of_ble_eq_true rfl⟩) hS (fun q _ h => hFc q h) hFc (fun r u t H locs ht hvm hw hBt hz1 hk1 hS => ?_) (fun cls xx H locs hth hnew hce hz hk hS => ?_)
  · exact hw.elim
  · have hP : va_P (dC, dI) classes [(x, .inr (0, [.ref tp, .int 0, .int ((-1)), .ref sg, .null, .null, .ref st, .null, .ref ft, .null, .ref hy, .null, .null, .int 0, .null, .null, .null, .null, .null, .null, .int 0])), (ou, .inl (cJ, 1, .inr (.inl fo)))] H := te_keep hP hk
    rcases hth with ⟨rfl, hR⟩
    refine te_catch (own := "ScholarsPressLaw") (D := x_ISE) (hpc := 12) (pre := []) (en := e1) (tl := [e2]) hown hce (by rw [hxs]; rfl) (fun y hy => by cases hy) (by simp [covers, a1_1, a1_2]) (by rw [a1_4]; decide) a1_3 (by rw [a1_4]; exact hts _ k_1387) te_same ?_
    refine lv_astore_n (lv' := [(3, .ref xx), (0, .ref x), (1, .int a), (2, .ref ou)]) hx hb d_LW_wavering_12 rfl hl (by decide) rfl (fun ls hl => ?_)
    refine lv_iconst (v := 1) hx hb d_LW_wavering_13 (by decide) ?_
    have hP9 := hP.sub (ws' := [(ou, .inl (cJ, 1, .inr (.inl fo)))]) [1] rfl
    have hD9 := hD.sub (ws' := [(ou, .inl (cJ, 1, .inr (.inl fo)))]) [1] (by decide) rfl
    have hK9 := hK.sub (tys' := [(cJ, .long)]) [0] rfl
    exact W.iret (v := 1) hx hb hr (fun t ht hW => ⟨⟨1, fo, rfl, ⟨rfl, hR⟩, by rw [ht]; exact hP9, va_K.moved hW.alike hK9, hD9⟩, hS.F ht⟩) hS.2.2 d_LW_wavering_14
set_option maxHeartbeats 4000000 in
set_option maxRecDepth 100000 in
/-- the law's print on a fresh object -/
theorem c_LW_print {l : Launch} (hfl : l.flags = flags0) {s0 : State} (hS0 : te_S0 s0) (hNc : va_Nc x_ISE x_IAE s0) (dC : Nat → ClassId) (dI : Nat → Nat → Nat) (x tp sg st ft hy ou : Nat) (cJ : ClassId) (fo : Nat → Int64) (a : Int32) (sz : Nat) : Met l y_LW_print [w_LW_print] ({ frames := 8, cells := 1, slots := 6, locals := 260 }) (va_Pc [.ref x, .int a, .ref ou] (prT s0 sz (dC, dI) [(x, .inr (0, [.ref tp, .int 0, .int ((-1)), .ref sg, .null, .null, .ref st, .null, .ref ft, .null, .ref hy, .null, .null, .int 0, .null, .null, .null, .null, .null, .null, .int 0])), (ou, .inl (cJ, 1, .inr (.inl fo)))] [(cJ, .long)])) (va_Qi (fun (r : Int32) (u : Nat → Int64) => r = 1 ∧ True) (bw (dC, dI) (va_A [(x, .inr (0, [.ref tp, .int 0, .int ((-1)), .ref sg, .null, .null, .ref st, .null, .ref ft, .null, .ref hy, .null, .null, .int 0, .null, .null, .null, .null, .null, .null, .int 0])), (ou, .inl (cJ, 1, .inr (.inl fo)))] sz) (fun u => [(ou, .inl (cJ, 1, .inr (.inl u)))]) (fun _ => [(cJ, .long)])) (va_A [(x, .inr (0, [.ref tp, .int 0, .int ((-1)), .ref sg, .null, .null, .ref st, .null, .ref ft, .null, .ref hy, .null, .null, .int 0, .null, .null, .null, .null, .null, .null, .int 0])), (ou, .inl (cJ, 1, .inr (.inl fo)))] sz)) 1 6 (va_A [(x, .inr (0, [.ref tp, .int 0, .int ((-1)), .ref sg, .null, .null, .ref st, .null, .ref ft, .null, .ref hy, .null, .null, .int 0, .null, .null, .null, .null, .null, .null, .int 0])), (ou, .inl (cJ, 1, .inr (.inl fo)))] sz) := by
  refine va_MetW (cc := b_LW_print) (maxL := 4) (ret := (some .int)) (hh := [(0, 9, 12, 40), (0, 9, 15, 13)]) (by decide) rfl ?_
  intro p e s m args below meth c s₁ B hml hv
  obtain ⟨rfl, hsz, hb0, hB0, hP, hK, hD0⟩ := hv
  have hx := B.exec
  have hb := B.bytes
  have hr := B.returns
  have hts : ∀ wq ∈ tt, wq.before ([.ref x, .int a, .ref ou] : List Value).toArray s = true := hb0.hts
  have hown : s.vm.findClass "ScholarsPressLaw" = some m.cls := findClass_of_methodNamed B.named
  have hlocks := B.notSynchronized
  obtain ⟨e1, e2, hxs, he1, he2⟩ := te_e2 (te_tab B ((atoms_spec (ws := [w_LW_print]) B.pre) _ List.mem_cons_self))
  simp only [Prod.mk.injEq] at he1
  obtain ⟨a1_1, a1_2, a1_3, a1_4⟩ := he1
  simp only [Prod.mk.injEq] at he2
  obtain ⟨a2_1, a2_2, a2_3, a2_4⟩ := he2
  subst hsz
  have hD := hD0.self (sz := s.heap.size)
  generalize hAe : va_A [(x, .inr (0, [.ref tp, .int 0, .int ((-1)), .ref sg, .null, .null, .ref st, .null, .ref ft, .null, .ref hy, .null, .null, .int 0, .null, .null, .null, .null, .null, .null, .int 0])), (ou, .inl (cJ, 1, .inr (.inl fo)))] s.heap.size = A at hD ⊢
  have hA : ∀ q : Nat, s.heap.size ≤ q → A q := fun q h => by rw [← hAe]; exact Or.inr h
  have hS : va_S A s.heap s.heap [] := va_S.rf
  have hP : va_P (dC, dI) classes [(x, .inr (0, [.ref tp, .int 0, .int ((-1)), .ref sg, .null, .null, .ref st, .null, .ref ft, .null, .ref hy, .null, .null, .int 0, .null, .null, .null, .null, .null, .null, .int 0])), (ou, .inl (cJ, 1, .inr (.inl fo)))] s.heap := hP
  have hl := lv_entry ([.ref x, .int a, .ref ou]) (n := 4) (Nat.le_of_ble_eq_true rfl)
  rw [lg_entry_eq]
  generalize (lg_sl ([.ref x, .int a, .ref ou]) ++ List.replicate (4 - (lg_sl ([.ref x, .int a, .ref ou])).length) Slot.unset).toArray = ls at hl ⊢
  have hl : lv_has ls 4 [(0, .ref x), (1, .int a), (2, .ref ou)] := hl
  refine lv_aload_n hx hb d_LW_print_0 rfl (lv_at hl 2 rfl) ?_
  refine lv_iconst (v := 0) hx hb d_LW_print_1 (by decide) ?_
  refine lv_aload_n hx hb d_LW_print_2 rfl (lv_at hl 0 rfl) ?_
  refine lv_iload_n hx hb d_LW_print_3 rfl (lv_at hl 1 rfl) ?_
  have hFc := va_free (wc := [(x, .inr (0, [.ref tp, .int 0, .int ((-1)), .ref sg, .null, .null, .ref st, .null, .ref ft, .null, .ref hy, .null, .null, .int 0, .null, .null, .null, .null, .null, .null, .int 0]))]) hD hS hA [0] rfl
  refine te_calli (A0 := A) (A1 := va_A [(x, .inr (0, [.ref tp, .int 0, .int ((-1)), .ref sg, .null, .null, .ref st, .null, .ref ft, .null, .ref hy, .null, .null, .int 0, .null, .null, .null, .null, .null, .null, .int 0]))] s.heap.size) (te_runV (As := [.int a]) (rest := [.int 0, .ref ou]) ⟨hx, hb, hml, hown, hts⟩ (c_SP_print hfl hS0 dC dI x tp sg st ft hy a s.heap.size) (cwV 1 hts (tt_V k_2658 k_2659 k_2660 k_240 kw_SP_print) rfl rfl rfl (by decide +kernel) ⟨Nat.le_of_ble_eq_true rfl, Nat.le_of_ble_eq_true rfl⟩) ⟨prT_blind, va_recv hK hP (ci := 0) (q0 := 0) rfl rfl, prT_pre hb0 ⟨hB0.1, hB0.2⟩ (hP.sub [0] rfl) (hK.sub [] rfl) (hD.sub [0] (by decide) rfl)⟩ rfl rfl hl.1 rfl (lv_room (Nat.le_of_ble_eq_true rfl)) d_LW_print_4 ⟨Nat.le_of_ble_eq_true rfl, Nat.le_of_ble_eq_true rfl⟩) hS (fun q _ h => hFc q h) hFc (fun r u t H locs ht hvm hw hBt hz1 hk1 hS => ?_) (fun cls xx H locs hth hnew hce hz hk hS => ?_)
  · exact hw.elim
  · have hP : va_P (dC, dI) classes [(x, .inr (0, [.ref tp, .int 0, .int ((-1)), .ref sg, .null, .null, .ref st, .null, .ref ft, .null, .ref hy, .null, .null, .int 0, .null, .null, .null, .null, .null, .null, .int 0])), (ou, .inl (cJ, 1, .inr (.inl fo)))] H := te_keep hP hk
    rcases hth with ⟨rfl, hR⟩
    refine te_catch (own := "ScholarsPressLaw") (D := x_ISE) (hpc := 12) (pre := []) (en := e1) (tl := [e2]) hown hce (by rw [hxs]; rfl) (fun y hy => by cases hy) (by simp [covers, a1_1, a1_2]) (by rw [a1_4]; decide) a1_3 (by rw [a1_4]; exact hts _ k_1387) te_same ?_
    refine lv_astore_n (lv' := [(3, .ref xx), (0, .ref x), (1, .int a), (2, .ref ou)]) hx hb d_LW_print_12 rfl hl (by decide) rfl (fun ls hl => ?_)
    refine lv_iconst (v := 1) hx hb d_LW_print_13 (by decide) ?_
    have hP9 := hP.sub (ws' := [(ou, .inl (cJ, 1, .inr (.inl fo)))]) [1] rfl
    have hD9 := hD.sub (ws' := [(ou, .inl (cJ, 1, .inr (.inl fo)))]) [1] (by decide) rfl
    have hK9 := hK.sub (tys' := [(cJ, .long)]) [0] rfl
    exact W.iret (v := 1) hx hb hr (fun t ht hW => ⟨⟨1, fo, rfl, ⟨rfl, hR⟩, by rw [ht]; exact hP9, va_K.moved hW.alike hK9, hD9⟩, hS.F ht⟩) hS.2.2 d_LW_print_14
set_option maxHeartbeats 4000000 in
set_option maxRecDepth 100000 in
/-- the law's word on a fresh object -/
theorem c_LW_word {l : Launch} (hfl : l.flags = flags0) {s0 : State} (hS0 : te_S0 s0) (hNc : va_Nc x_ISE x_IAE s0) (dC : Nat → ClassId) (dI : Nat → Nat → Nat) (x tp sg st ft hy ou : Nat) (cJ : ClassId) (fo : Nat → Int64) (a : Int32) (sz : Nat) : Met l y_LW_word [w_LW_word] ({ frames := 8, cells := 1, slots := 6, locals := 260 }) (va_Pc [.ref x, .int a, .ref ou] (prT s0 sz (dC, dI) [(x, .inr (0, [.ref tp, .int 0, .int ((-1)), .ref sg, .null, .null, .ref st, .null, .ref ft, .null, .ref hy, .null, .null, .int 0, .null, .null, .null, .null, .null, .null, .int 0])), (ou, .inl (cJ, 1, .inr (.inl fo)))] [(cJ, .long)])) (va_Qi (fun (r : Int32) (u : Nat → Int64) => r = 1 ∧ True) (bw (dC, dI) (va_A [(x, .inr (0, [.ref tp, .int 0, .int ((-1)), .ref sg, .null, .null, .ref st, .null, .ref ft, .null, .ref hy, .null, .null, .int 0, .null, .null, .null, .null, .null, .null, .int 0])), (ou, .inl (cJ, 1, .inr (.inl fo)))] sz) (fun u => [(ou, .inl (cJ, 1, .inr (.inl u)))]) (fun _ => [(cJ, .long)])) (va_A [(x, .inr (0, [.ref tp, .int 0, .int ((-1)), .ref sg, .null, .null, .ref st, .null, .ref ft, .null, .ref hy, .null, .null, .int 0, .null, .null, .null, .null, .null, .null, .int 0])), (ou, .inl (cJ, 1, .inr (.inl fo)))] sz)) 1 6 (va_A [(x, .inr (0, [.ref tp, .int 0, .int ((-1)), .ref sg, .null, .null, .ref st, .null, .ref ft, .null, .ref hy, .null, .null, .int 0, .null, .null, .null, .null, .null, .null, .int 0])), (ou, .inl (cJ, 1, .inr (.inl fo)))] sz) := by
  refine va_MetW (cc := b_LW_word) (maxL := 4) (ret := (some .int)) (hh := [(0, 8, 11, 13)]) (by decide) rfl ?_
  intro p e s m args below meth c s₁ B hml hv
  obtain ⟨rfl, hsz, hb0, hB0, hP, hK, hD0⟩ := hv
  have hx := B.exec
  have hb := B.bytes
  have hr := B.returns
  have hts : ∀ wq ∈ tt, wq.before ([.ref x, .int a, .ref ou] : List Value).toArray s = true := hb0.hts
  have hown : s.vm.findClass "ScholarsPressLaw" = some m.cls := findClass_of_methodNamed B.named
  have hlocks := B.notSynchronized
  obtain ⟨e1, hxs, he1⟩ := te_e1 (te_tab B ((atoms_spec (ws := [w_LW_word]) B.pre) _ List.mem_cons_self))
  simp only [Prod.mk.injEq] at he1
  obtain ⟨a1_1, a1_2, a1_3, a1_4⟩ := he1
  subst hsz
  have hD := hD0.self (sz := s.heap.size)
  generalize hAe : va_A [(x, .inr (0, [.ref tp, .int 0, .int ((-1)), .ref sg, .null, .null, .ref st, .null, .ref ft, .null, .ref hy, .null, .null, .int 0, .null, .null, .null, .null, .null, .null, .int 0])), (ou, .inl (cJ, 1, .inr (.inl fo)))] s.heap.size = A at hD ⊢
  have hA : ∀ q : Nat, s.heap.size ≤ q → A q := fun q h => by rw [← hAe]; exact Or.inr h
  have hS : va_S A s.heap s.heap [] := va_S.rf
  have hP : va_P (dC, dI) classes [(x, .inr (0, [.ref tp, .int 0, .int ((-1)), .ref sg, .null, .null, .ref st, .null, .ref ft, .null, .ref hy, .null, .null, .int 0, .null, .null, .null, .null, .null, .null, .int 0])), (ou, .inl (cJ, 1, .inr (.inl fo)))] s.heap := hP
  have hl := lv_entry ([.ref x, .int a, .ref ou]) (n := 4) (Nat.le_of_ble_eq_true rfl)
  rw [lg_entry_eq]
  generalize (lg_sl ([.ref x, .int a, .ref ou]) ++ List.replicate (4 - (lg_sl ([.ref x, .int a, .ref ou])).length) Slot.unset).toArray = ls at hl ⊢
  have hl : lv_has ls 4 [(0, .ref x), (1, .int a), (2, .ref ou)] := hl
  refine lv_aload_n hx hb d_LW_word_0 rfl (lv_at hl 2 rfl) ?_
  refine lv_iconst (v := 0) hx hb d_LW_word_1 (by decide) ?_
  refine lv_aload_n hx hb d_LW_word_2 rfl (lv_at hl 0 rfl) ?_
  refine lv_iload_n hx hb d_LW_word_3 rfl (lv_at hl 1 rfl) ?_
  have hFc := va_free (wc := [(x, .inr (0, [.ref tp, .int 0, .int ((-1)), .ref sg, .null, .null, .ref st, .null, .ref ft, .null, .ref hy, .null, .null, .int 0, .null, .null, .null, .null, .null, .null, .int 0]))]) hD hS hA [0] rfl
  refine te_calll (A0 := A) (A1 := va_A [(x, .inr (0, [.ref tp, .int 0, .int ((-1)), .ref sg, .null, .null, .ref st, .null, .ref ft, .null, .ref hy, .null, .null, .int 0, .null, .null, .null, .null, .null, .null, .int 0]))] s.heap.size) (te_runV (As := [.int a]) (rest := [.int 0, .ref ou]) ⟨hx, hb, hml, hown, hts⟩ (c_SP_word hfl hS0 dC dI x tp sg st ft hy a s.heap.size) (cwV 1 hts (tt_V k_2695 k_2696 k_2697 k_240 kw_SP_word) rfl rfl rfl (by decide +kernel) ⟨Nat.le_of_ble_eq_true rfl, Nat.le_of_ble_eq_true rfl⟩) ⟨prT_blind, va_recv hK hP (ci := 0) (q0 := 0) rfl rfl, prT_pre hb0 ⟨hB0.1, hB0.2⟩ (hP.sub [0] rfl) (hK.sub [] rfl) (hD.sub [0] (by decide) rfl)⟩ rfl rfl hl.1 rfl (lv_room (Nat.le_of_ble_eq_true rfl)) d_LW_word_4 ⟨Nat.le_of_ble_eq_true rfl, Nat.le_of_ble_eq_true rfl⟩) hS (fun q _ h => hFc q h) hFc (fun r u t H locs ht hvm hw hBt hz1 hk1 hS => ?_) (fun cls xx H locs hth hnew hce hz hk hS => ?_)
  · exact hw.elim
  · have hP : va_P (dC, dI) classes [(x, .inr (0, [.ref tp, .int 0, .int ((-1)), .ref sg, .null, .null, .ref st, .null, .ref ft, .null, .ref hy, .null, .null, .int 0, .null, .null, .null, .null, .null, .null, .int 0])), (ou, .inl (cJ, 1, .inr (.inl fo)))] H := te_keep hP hk
    rcases hth with ⟨rfl, hR⟩
    refine te_catch (own := "ScholarsPressLaw") (D := x_IOB) (hpc := 11) (pre := []) (en := e1) (tl := []) hown hce (by rw [hxs]; rfl) (fun y hy => by cases hy) (by simp [covers, a1_1, a1_2]) (by rw [a1_4]; decide) a1_3 (by rw [a1_4]; exact hts _ k_571) te_same ?_
    refine lv_astore_n (lv' := [(3, .ref xx), (0, .ref x), (1, .int a), (2, .ref ou)]) hx hb d_LW_word_11 rfl hl (by decide) rfl (fun ls hl => ?_)
    refine lv_iconst (v := 1) hx hb d_LW_word_12 (by decide) ?_
    have hP9 := hP.sub (ws' := [(ou, .inl (cJ, 1, .inr (.inl fo)))]) [1] rfl
    have hD9 := hD.sub (ws' := [(ou, .inl (cJ, 1, .inr (.inl fo)))]) [1] (by decide) rfl
    have hK9 := hK.sub (tys' := [(cJ, .long)]) [0] rfl
    exact W.iret (v := 1) hx hb hr (fun t ht hW => ⟨⟨1, fo, rfl, ⟨rfl, hR⟩, by rw [ht]; exact hP9, va_K.moved hW.alike hK9, hD9⟩, hS.F ht⟩) hS.2.2 d_LW_word_13
set_option maxHeartbeats 4000000 in
set_option maxRecDepth 100000 in
/-- the law's change on a fresh object -/
theorem c_LW_change {l : Launch} (hfl : l.flags = flags0) {s0 : State} (hS0 : te_S0 s0) (hNc : va_Nc x_ISE x_IAE s0) (dC : Nat → ClassId) (dI : Nat → Nat → Nat) (x tp sg st ft hy ou : Nat) (cJ : ClassId) (fo : Nat → Int64) (a b : Int32) (sz : Nat) : Met l y_LW_change [w_LW_change] ({ frames := 8, cells := 1, slots := 6, locals := 260 }) (va_Pc [.ref x, .int a, .int b, .ref ou] (prT s0 sz (dC, dI) [(x, .inr (0, [.ref tp, .int 0, .int ((-1)), .ref sg, .null, .null, .ref st, .null, .ref ft, .null, .ref hy, .null, .null, .int 0, .null, .null, .null, .null, .null, .null, .int 0])), (ou, .inl (cJ, 1, .inr (.inl fo)))] [(cJ, .long)])) (va_Qi (fun (r : Int32) (u : Nat → Int64) => (r = 1 ∧ ¬ (0 ≤ a.toInt ∧ a.toInt ≤ b.toInt)) ∨ (r = 2 ∧ (0 ≤ a.toInt ∧ a.toInt ≤ b.toInt))) (bw (dC, dI) (va_A [(x, .inr (0, [.ref tp, .int 0, .int ((-1)), .ref sg, .null, .null, .ref st, .null, .ref ft, .null, .ref hy, .null, .null, .int 0, .null, .null, .null, .null, .null, .null, .int 0])), (ou, .inl (cJ, 1, .inr (.inl fo)))] sz) (fun u => [(ou, .inl (cJ, 1, .inr (.inl u)))]) (fun _ => [(cJ, .long)])) (va_A [(x, .inr (0, [.ref tp, .int 0, .int ((-1)), .ref sg, .null, .null, .ref st, .null, .ref ft, .null, .ref hy, .null, .null, .int 0, .null, .null, .null, .null, .null, .null, .int 0])), (ou, .inl (cJ, 1, .inr (.inl fo)))] sz)) 1 6 (va_A [(x, .inr (0, [.ref tp, .int 0, .int ((-1)), .ref sg, .null, .null, .ref st, .null, .ref ft, .null, .ref hy, .null, .null, .int 0, .null, .null, .null, .null, .null, .null, .int 0])), (ou, .inl (cJ, 1, .inr (.inl fo)))] sz) := by
  refine va_MetW (cc := b_LW_change) (maxL := 5) (ret := (some .int)) (hh := [(0, 10, 13, 19), (0, 10, 17, 40), (0, 10, 21, 13), (0, 10, 25, 25)]) (by decide) rfl ?_
  intro p e s m args below meth c s₁ B hml hv
  obtain ⟨rfl, hsz, hb0, hB0, hP, hK, hD0⟩ := hv
  have hx := B.exec
  have hb := B.bytes
  have hr := B.returns
  have hts : ∀ wq ∈ tt, wq.before ([.ref x, .int a, .int b, .ref ou] : List Value).toArray s = true := hb0.hts
  have hown : s.vm.findClass "ScholarsPressLaw" = some m.cls := findClass_of_methodNamed B.named
  have hlocks := B.notSynchronized
  obtain ⟨e1, e2, e3, e4, hxs, he1, he2, he3, he4⟩ := te_e4 (te_tab B ((atoms_spec (ws := [w_LW_change]) B.pre) _ List.mem_cons_self))
  simp only [Prod.mk.injEq] at he1
  obtain ⟨a1_1, a1_2, a1_3, a1_4⟩ := he1
  simp only [Prod.mk.injEq] at he2
  obtain ⟨a2_1, a2_2, a2_3, a2_4⟩ := he2
  simp only [Prod.mk.injEq] at he3
  obtain ⟨a3_1, a3_2, a3_3, a3_4⟩ := he3
  simp only [Prod.mk.injEq] at he4
  obtain ⟨a4_1, a4_2, a4_3, a4_4⟩ := he4
  subst hsz
  have hD := hD0.self (sz := s.heap.size)
  generalize hAe : va_A [(x, .inr (0, [.ref tp, .int 0, .int ((-1)), .ref sg, .null, .null, .ref st, .null, .ref ft, .null, .ref hy, .null, .null, .int 0, .null, .null, .null, .null, .null, .null, .int 0])), (ou, .inl (cJ, 1, .inr (.inl fo)))] s.heap.size = A at hD ⊢
  have hA : ∀ q : Nat, s.heap.size ≤ q → A q := fun q h => by rw [← hAe]; exact Or.inr h
  have hS : va_S A s.heap s.heap [] := va_S.rf
  have hP : va_P (dC, dI) classes [(x, .inr (0, [.ref tp, .int 0, .int ((-1)), .ref sg, .null, .null, .ref st, .null, .ref ft, .null, .ref hy, .null, .null, .int 0, .null, .null, .null, .null, .null, .null, .int 0])), (ou, .inl (cJ, 1, .inr (.inl fo)))] s.heap := hP
  have hl := lv_entry ([.ref x, .int a, .int b, .ref ou]) (n := 5) (Nat.le_of_ble_eq_true rfl)
  rw [lg_entry_eq]
  generalize (lg_sl ([.ref x, .int a, .int b, .ref ou]) ++ List.replicate (5 - (lg_sl ([.ref x, .int a, .int b, .ref ou])).length) Slot.unset).toArray = ls at hl ⊢
  have hl : lv_has ls 5 [(0, .ref x), (1, .int a), (2, .int b), (3, .ref ou)] := hl
  refine lv_aload_n hx hb d_LW_change_0 rfl (lv_at hl 3 rfl) ?_
  refine lv_iconst (v := 0) hx hb d_LW_change_1 (by decide) ?_
  refine lv_aload_n hx hb d_LW_change_2 rfl (lv_at hl 0 rfl) ?_
  refine lv_iload_n hx hb d_LW_change_3 rfl (lv_at hl 1 rfl) ?_
  refine lv_iload_n hx hb d_LW_change_4 rfl (lv_at hl 2 rfl) ?_
  have hFc := va_free (wc := [(x, .inr (0, [.ref tp, .int 0, .int ((-1)), .ref sg, .null, .null, .ref st, .null, .ref ft, .null, .ref hy, .null, .null, .int 0, .null, .null, .null, .null, .null, .null, .int 0]))]) hD hS hA [0] rfl
  refine te_calli (A0 := A) (A1 := va_A [(x, .inr (0, [.ref tp, .int 0, .int ((-1)), .ref sg, .null, .null, .ref st, .null, .ref ft, .null, .ref hy, .null, .null, .int 0, .null, .null, .null, .null, .null, .null, .int 0]))] s.heap.size) (te_runV (As := [.int a, .int b]) (rest := [.int 0, .ref ou]) ⟨hx, hb, hml, hown, hts⟩ (c_SP_change hfl hS0 dC dI x tp sg st ft hy a b s.heap.size) (cwV 2 hts (tt_V k_1388 k_1389 k_1390 k_240 kw_SP_change) rfl rfl rfl (by decide +kernel) ⟨Nat.le_of_ble_eq_true rfl, Nat.le_of_ble_eq_true rfl⟩) ⟨prT_blind, va_recv hK hP (ci := 0) (q0 := 0) rfl rfl, prT_pre hb0 ⟨hB0.1, hB0.2⟩ (hP.sub [0] rfl) (hK.sub [] rfl) (hD.sub [0] (by decide) rfl)⟩ rfl rfl hl.1 rfl (lv_room (Nat.le_of_ble_eq_true rfl)) d_LW_change_5 ⟨Nat.le_of_ble_eq_true rfl, Nat.le_of_ble_eq_true rfl⟩) hS (fun q _ h => hFc q h) hFc (fun r u t H locs ht hvm hw hBt hz1 hk1 hS => ?_) (fun cls xx H locs hth hnew hce hz hk hS => ?_)
  · exact hw.elim
  · have hP : va_P (dC, dI) classes [(x, .inr (0, [.ref tp, .int 0, .int ((-1)), .ref sg, .null, .null, .ref st, .null, .ref ft, .null, .ref hy, .null, .null, .int 0, .null, .null, .null, .null, .null, .null, .int 0])), (ou, .inl (cJ, 1, .inr (.inl fo)))] H := te_keep hP hk
    rcases hth with ⟨rfl, hR⟩ | ⟨rfl, hR⟩
    · refine te_catch (own := "ScholarsPressLaw") (D := x_IAE) (hpc := 13) (pre := []) (en := e1) (tl := [e2, e3, e4]) hown hce (by rw [hxs]; rfl) (fun y hy => by cases hy) (by simp [covers, a1_1, a1_2]) (by rw [a1_4]; decide) a1_3 (by rw [a1_4]; exact hts _ k_653) te_same ?_
      refine lv_astore (lv' := [(4, .ref xx), (0, .ref x), (1, .int a), (2, .int b), (3, .ref ou)]) hx hb d_LW_change_13 hl (by decide) rfl (fun ls hl => ?_)
      refine lv_iconst (v := 1) hx hb d_LW_change_15 (by decide) ?_
      have hP9 := hP.sub (ws' := [(ou, .inl (cJ, 1, .inr (.inl fo)))]) [1] rfl
      have hD9 := hD.sub (ws' := [(ou, .inl (cJ, 1, .inr (.inl fo)))]) [1] (by decide) rfl
      have hK9 := hK.sub (tys' := [(cJ, .long)]) [0] rfl
      exact W.iret (v := 1) hx hb hr (fun t ht hW => ⟨⟨1, fo, rfl, Or.inl ⟨rfl, hR⟩, by rw [ht]; exact hP9, va_K.moved hW.alike hK9, hD9⟩, hS.F ht⟩) hS.2.2 d_LW_change_16
    · refine te_catch (own := "ScholarsPressLaw") (D := x_ISE) (hpc := 17) (pre := [e1]) (en := e2) (tl := [e3, e4]) hown hce (by rw [hxs]; rfl) (fun y hy => by rw [List.mem_singleton.mp hy]; exact Or.inr ⟨by simp [covers, a1_1, a1_2], by rw [a1_4]; decide, x_IAE, by rw [a1_4]; exact hts _ k_653, hNc.moved hB0.1⟩) (by simp [covers, a2_1, a2_2]) (by rw [a2_4]; decide) a2_3 (by rw [a2_4]; exact hts _ k_1387) te_same ?_
      refine lv_astore (lv' := [(4, .ref xx), (0, .ref x), (1, .int a), (2, .int b), (3, .ref ou)]) hx hb d_LW_change_17 hl (by decide) rfl (fun ls hl => ?_)
      refine lv_iconst (v := 2) hx hb d_LW_change_19 (by decide) ?_
      have hP9 := hP.sub (ws' := [(ou, .inl (cJ, 1, .inr (.inl fo)))]) [1] rfl
      have hD9 := hD.sub (ws' := [(ou, .inl (cJ, 1, .inr (.inl fo)))]) [1] (by decide) rfl
      have hK9 := hK.sub (tys' := [(cJ, .long)]) [0] rfl
      exact W.iret (v := 2) hx hb hr (fun t ht hW => ⟨⟨2, fo, rfl, Or.inr (⟨rfl, hR⟩), by rw [ht]; exact hP9, va_K.moved hW.alike hK9, hD9⟩, hS.F ht⟩) hS.2.2 d_LW_change_20
set_option maxHeartbeats 4000000 in
set_option maxRecDepth 100000 in
/-- the law's end on a fresh object -/
theorem c_LW_end {l : Launch} (hfl : l.flags = flags0) {s0 : State} (hS0 : te_S0 s0) (hNc : va_Nc x_ISE x_IAE s0) (dC : Nat → ClassId) (dI : Nat → Nat → Nat) (x tp sg st ft hy ou : Nat) (cJ : ClassId) (fo : Nat → Int64) (n : Int32) (sz : Nat) : Met l y_LW_end [w_LW_end] ({ frames := 8, cells := 1, slots := 6, locals := 260 }) (va_Pc [.ref x, .int n, .ref ou] (prT s0 sz (dC, dI) [(x, .inr (0, [.ref tp, .int 0, .int ((-1)), .ref sg, .null, .null, .ref st, .null, .ref ft, .null, .ref hy, .null, .null, .int 0, .null, .null, .null, .null, .null, .null, .int 0])), (ou, .inl (cJ, 1, .inr (.inl fo)))] [(cJ, .long)])) (va_Qi (fun (r : Int32) (u : Nat → Int64) => (r = 0 ∧ u 0 = n.toInt64 ∧ n.toInt = 0) ∨ (r = 1 ∧ ¬ n.toInt = 0)) (bw (dC, dI) (va_A [(x, .inr (0, [.ref tp, .int 0, .int ((-1)), .ref sg, .null, .null, .ref st, .null, .ref ft, .null, .ref hy, .null, .null, .int 0, .null, .null, .null, .null, .null, .null, .int 0])), (ou, .inl (cJ, 1, .inr (.inl fo)))] sz) (fun u => [(ou, .inl (cJ, 1, .inr (.inl u)))]) (fun _ => [(cJ, .long)])) (va_A [(x, .inr (0, [.ref tp, .int 0, .int ((-1)), .ref sg, .null, .null, .ref st, .null, .ref ft, .null, .ref hy, .null, .null, .int 0, .null, .null, .null, .null, .null, .null, .int 0])), (ou, .inl (cJ, 1, .inr (.inl fo)))] sz)) 1 6 (va_A [(x, .inr (0, [.ref tp, .int 0, .int ((-1)), .ref sg, .null, .null, .ref st, .null, .ref ft, .null, .ref hy, .null, .null, .int 0, .null, .null, .null, .null, .null, .null, .int 0])), (ou, .inl (cJ, 1, .inr (.inl fo)))] sz) := by
  refine va_MetW (cc := b_LW_end) (maxL := 4) (ret := (some .int)) (hh := [(0, 9, 12, 19)]) (by decide) rfl ?_
  intro p e s m args below meth c s₁ B hml hv
  obtain ⟨rfl, hsz, hb0, hB0, hP, hK, hD0⟩ := hv
  have hx := B.exec
  have hb := B.bytes
  have hr := B.returns
  have hts : ∀ wq ∈ tt, wq.before ([.ref x, .int n, .ref ou] : List Value).toArray s = true := hb0.hts
  have hown : s.vm.findClass "ScholarsPressLaw" = some m.cls := findClass_of_methodNamed B.named
  have hlocks := B.notSynchronized
  obtain ⟨e1, hxs, he1⟩ := te_e1 (te_tab B ((atoms_spec (ws := [w_LW_end]) B.pre) _ List.mem_cons_self))
  simp only [Prod.mk.injEq] at he1
  obtain ⟨a1_1, a1_2, a1_3, a1_4⟩ := he1
  subst hsz
  have hD := hD0.self (sz := s.heap.size)
  generalize hAe : va_A [(x, .inr (0, [.ref tp, .int 0, .int ((-1)), .ref sg, .null, .null, .ref st, .null, .ref ft, .null, .ref hy, .null, .null, .int 0, .null, .null, .null, .null, .null, .null, .int 0])), (ou, .inl (cJ, 1, .inr (.inl fo)))] s.heap.size = A at hD ⊢
  have hA : ∀ q : Nat, s.heap.size ≤ q → A q := fun q h => by rw [← hAe]; exact Or.inr h
  have hS : va_S A s.heap s.heap [] := va_S.rf
  have hP : va_P (dC, dI) classes [(x, .inr (0, [.ref tp, .int 0, .int ((-1)), .ref sg, .null, .null, .ref st, .null, .ref ft, .null, .ref hy, .null, .null, .int 0, .null, .null, .null, .null, .null, .null, .int 0])), (ou, .inl (cJ, 1, .inr (.inl fo)))] s.heap := hP
  have hl := lv_entry ([.ref x, .int n, .ref ou]) (n := 4) (Nat.le_of_ble_eq_true rfl)
  rw [lg_entry_eq]
  generalize (lg_sl ([.ref x, .int n, .ref ou]) ++ List.replicate (4 - (lg_sl ([.ref x, .int n, .ref ou])).length) Slot.unset).toArray = ls at hl ⊢
  have hl : lv_has ls 4 [(0, .ref x), (1, .int n), (2, .ref ou)] := hl
  refine lv_aload_n hx hb d_LW_end_0 rfl (lv_at hl 2 rfl) ?_
  refine lv_iconst (v := 0) hx hb d_LW_end_1 (by decide) ?_
  refine lv_aload_n hx hb d_LW_end_2 rfl (lv_at hl 0 rfl) ?_
  refine lv_iload_n hx hb d_LW_end_3 rfl (lv_at hl 1 rfl) ?_
  have hFc := va_free (wc := [(x, .inr (0, [.ref tp, .int 0, .int ((-1)), .ref sg, .null, .null, .ref st, .null, .ref ft, .null, .ref hy, .null, .null, .int 0, .null, .null, .null, .null, .null, .null, .int 0]))]) hD hS hA [0] rfl
  refine te_calli (A0 := A) (A1 := va_A [(x, .inr (0, [.ref tp, .int 0, .int ((-1)), .ref sg, .null, .null, .ref st, .null, .ref ft, .null, .ref hy, .null, .null, .int 0, .null, .null, .null, .null, .null, .null, .int 0]))] s.heap.size) (te_runV (As := [.int n]) (rest := [.int 0, .ref ou]) ⟨hx, hb, hml, hown, hts⟩ (c_SP_end hfl hS0 dC dI x tp sg st ft hy n s.heap.size) (cwV 1 hts (tt_V k_654 k_655 k_656 k_240 kw_SP_end) rfl rfl rfl (by decide +kernel) ⟨Nat.le_of_ble_eq_true rfl, Nat.le_of_ble_eq_true rfl⟩) ⟨prT_blind, va_recv hK hP (ci := 0) (q0 := 0) rfl rfl, prT_pre hb0 ⟨hB0.1, hB0.2⟩ (hP.sub [0] rfl) (hK.sub [] rfl) (hD.sub [0] (by decide) rfl)⟩ rfl rfl hl.1 rfl (lv_room (Nat.le_of_ble_eq_true rfl)) d_LW_end_4 ⟨Nat.le_of_ble_eq_true rfl, Nat.le_of_ble_eq_true rfl⟩) hS (fun q _ h => hFc q h) hFc (fun r u t H locs ht hvm hw hBt hz1 hk1 hS => ?_) (fun cls xx H locs hth hnew hce hz hk hS => ?_)
  · obtain ⟨hrn, hR⟩ := hw
    rw [hrn]
    obtain ⟨hP, hD⟩ := va_join (wr := [(ou, .inl (cJ, 1, .inr (.inl fo)))]) (w1 := []) hP hD [0] [1] rfl rfl (by decide) (by decide) hk1 hFc va_P_nil va_D_nil
    have hP : va_P (dC, dI) classes [(ou, .inl (cJ, 1, .inr (.inl fo)))] H := hP
    have hD : va_D A [(ou, .inl (cJ, 1, .inr (.inl fo)))] := hD
    refine lv_i2l hx hb d_LW_end_7 rfl ?_
    refine va_last hx hb hK hP hD hS 0 0 rfl rfl (i := 0) (x := n.toInt64) vp_01 d_LW_end_8 (fun H locs hP hD hS => ?_)
    have hP : va_P (dC, dI) classes [(ou, .inl (cJ, 1, .inr (.inl (vp_updL fo (0 : Int32).toNatClampNeg n.toInt64))))] H := hP
    have hD : va_D A [(ou, .inl (cJ, 1, .inr (.inl (vp_updL fo (0 : Int32).toNatClampNeg n.toInt64))))] := hD
    refine lv_goto (tgt := 15) hx hb d_LW_end_9 (by decide) ?_
    refine lv_iconst (v := 0) hx hb d_LW_end_15 (by decide) ?_
    have hP9 := hP.sub (ws' := [(ou, .inl (cJ, 1, .inr (.inl (vp_updL fo (0 : Int32).toNatClampNeg n.toInt64))))]) [0] rfl
    have hD9 := hD.sub (ws' := [(ou, .inl (cJ, 1, .inr (.inl (vp_updL fo (0 : Int32).toNatClampNeg n.toInt64))))]) [0] (by decide) rfl
    have hK9 := hK.sub (tys' := [(cJ, .long)]) [0] rfl
    exact W.iret (v := 0) hx hb hr (fun t ht hW => ⟨⟨0, vp_updL fo (0 : Int32).toNatClampNeg n.toInt64, rfl, Or.inl ⟨rfl, rfl, hR⟩, by rw [ht]; exact hP9, va_K.moved hW.alike hK9, hD9⟩, hS.F ht⟩) hS.2.2 d_LW_end_16
  · have hP : va_P (dC, dI) classes [(x, .inr (0, [.ref tp, .int 0, .int ((-1)), .ref sg, .null, .null, .ref st, .null, .ref ft, .null, .ref hy, .null, .null, .int 0, .null, .null, .null, .null, .null, .null, .int 0])), (ou, .inl (cJ, 1, .inr (.inl fo)))] H := te_keep hP hk
    rcases hth with ⟨rfl, hR⟩
    refine te_catch (own := "ScholarsPressLaw") (D := x_IAE) (hpc := 12) (pre := []) (en := e1) (tl := []) hown hce (by rw [hxs]; rfl) (fun y hy => by cases hy) (by simp [covers, a1_1, a1_2]) (by rw [a1_4]; decide) a1_3 (by rw [a1_4]; exact hts _ k_653) te_same ?_
    refine lv_astore_n (lv' := [(3, .ref xx), (0, .ref x), (1, .int n), (2, .ref ou)]) hx hb d_LW_end_12 rfl hl (by decide) rfl (fun ls hl => ?_)
    refine lv_iconst (v := 1) hx hb d_LW_end_13 (by decide) ?_
    have hP9 := hP.sub (ws' := [(ou, .inl (cJ, 1, .inr (.inl fo)))]) [1] rfl
    have hD9 := hD.sub (ws' := [(ou, .inl (cJ, 1, .inr (.inl fo)))]) [1] (by decide) rfl
    have hK9 := hK.sub (tys' := [(cJ, .long)]) [0] rfl
    exact W.iret (v := 1) hx hb hr (fun t ht hW => ⟨⟨1, fo, rfl, Or.inr (⟨rfl, hR⟩), by rw [ht]; exact hP9, va_K.moved hW.alike hK9, hD9⟩, hS.F ht⟩) hS.2.2 d_LW_end_14
end
section
abbrev b_SP_feedInt : ByteArray := prog_1_method_22_code
abbrev y_SP_feedInt : MethodName := ⟨"ScholarsPress", "feedInt", "(I)V"⟩
abbrev w_SP_feedInt : Cond := .code y_SP_feedInt b_SP_feedInt 3 none
theorem kw_SP_feedInt : w_SP_feedInt ∈ tt := tt_mem 649 (by decide +kernel) (by decide +kernel)
abbrev b_SM_four : ByteArray := prog_14_method_13_code
abbrev y_SM_four : MethodName := ⟨"ScholarsPressModel", "four", "(I)V"⟩
abbrev w_SM_four : Cond := .code y_SM_four b_SM_four 3 none
theorem kw_SM_four : w_SM_four ∈ tt := tt_mem 3765 (by decide +kernel) (by decide +kernel)
theorem k_500 : Cond.fieldLink "ScholarsPress" 9 "ScholarsPress" "tape" "[B" ∈ tt := tt_mem 500 (by decide +kernel) (by decide +kernel)
theorem k_3682 : Cond.fieldLink "ScholarsPressModel" 13 "ScholarsPressModel" "tape" "[B" ∈ tt := tt_mem 3682 (by decide +kernel) (by decide +kernel)
theorem d_SM_four_0 : decode b_SM_four 0 = .ok (.bipush 24, 2) := by decide +kernel
theorem d_SM_four_2 : decode b_SM_four 2 = .ok (.istore_n 2, 1) := by decide +kernel
theorem d_SM_four_3 : decode b_SM_four 3 = .ok (.iload_n 2, 1) := by decide +kernel
theorem d_SM_four_4 : decode b_SM_four 4 = .ok (.ifCond .lt 32, 3) := by decide +kernel
theorem d_SM_four_7 : decode b_SM_four 7 = .ok (.aload_n 0, 1) := by decide +kernel
theorem d_SM_four_8 : decode b_SM_four 8 = .ok (.getfield 13, 3) := by decide +kernel
theorem d_SM_four_11 : decode b_SM_four 11 = .ok (.aload_n 0, 1) := by decide +kernel
theorem d_SM_four_12 : decode b_SM_four 12 = .ok (.getfield 104, 3) := by decide +kernel
theorem d_SM_four_15 : decode b_SM_four 15 = .ok (.iload_n 1, 1) := by decide +kernel
theorem d_SM_four_16 : decode b_SM_four 16 = .ok (.iload_n 2, 1) := by decide +kernel
theorem d_SM_four_17 : decode b_SM_four 17 = .ok (.ishr, 1) := by decide +kernel
theorem d_SM_four_18 : decode b_SM_four 18 = .ok (.i2b, 1) := by decide +kernel
theorem d_SM_four_19 : decode b_SM_four 19 = .ok (.bastore, 1) := by decide +kernel
theorem d_SM_four_20 : decode b_SM_four 20 = .ok (.aload_n 0, 1) := by decide +kernel
theorem d_SM_four_21 : decode b_SM_four 21 = .ok (.dup, 1) := by decide +kernel
theorem d_SM_four_22 : decode b_SM_four 22 = .ok (.getfield 104, 3) := by decide +kernel
theorem d_SM_four_25 : decode b_SM_four 25 = .ok (.iconst 1, 1) := by decide +kernel
theorem d_SM_four_26 : decode b_SM_four 26 = .ok (.iadd, 1) := by decide +kernel
theorem d_SM_four_27 : decode b_SM_four 27 = .ok (.putfield 104, 3) := by decide +kernel
theorem d_SM_four_30 : decode b_SM_four 30 = .ok (.iinc 2 (-8), 3) := by decide +kernel
theorem d_SM_four_33 : decode b_SM_four 33 = .ok (.goto (-30), 3) := by decide +kernel
theorem d_SM_four_36 : decode b_SM_four 36 = .ok (.return_, 1) := by decide +kernel
theorem d_SP_feedInt_0 : decode b_SP_feedInt 0 = .ok (.bipush 24, 2) := by decide +kernel
theorem d_SP_feedInt_2 : decode b_SP_feedInt 2 = .ok (.istore_n 2, 1) := by decide +kernel
theorem d_SP_feedInt_3 : decode b_SP_feedInt 3 = .ok (.iload_n 2, 1) := by decide +kernel
theorem d_SP_feedInt_4 : decode b_SP_feedInt 4 = .ok (.ifCond .lt 32, 3) := by decide +kernel
theorem d_SP_feedInt_7 : decode b_SP_feedInt 7 = .ok (.aload_n 0, 1) := by decide +kernel
theorem d_SP_feedInt_8 : decode b_SP_feedInt 8 = .ok (.getfield 9, 3) := by decide +kernel
theorem d_SP_feedInt_11 : decode b_SP_feedInt 11 = .ok (.aload_n 0, 1) := by decide +kernel
theorem d_SP_feedInt_12 : decode b_SP_feedInt 12 = .ok (.getfield 45, 3) := by decide +kernel
theorem d_SP_feedInt_15 : decode b_SP_feedInt 15 = .ok (.iload_n 1, 1) := by decide +kernel
theorem d_SP_feedInt_16 : decode b_SP_feedInt 16 = .ok (.iload_n 2, 1) := by decide +kernel
theorem d_SP_feedInt_17 : decode b_SP_feedInt 17 = .ok (.ishr, 1) := by decide +kernel
theorem d_SP_feedInt_18 : decode b_SP_feedInt 18 = .ok (.i2b, 1) := by decide +kernel
theorem d_SP_feedInt_19 : decode b_SP_feedInt 19 = .ok (.bastore, 1) := by decide +kernel
theorem d_SP_feedInt_20 : decode b_SP_feedInt 20 = .ok (.aload_n 0, 1) := by decide +kernel
theorem d_SP_feedInt_21 : decode b_SP_feedInt 21 = .ok (.dup, 1) := by decide +kernel
theorem d_SP_feedInt_22 : decode b_SP_feedInt 22 = .ok (.getfield 45, 3) := by decide +kernel
theorem d_SP_feedInt_25 : decode b_SP_feedInt 25 = .ok (.iconst 1, 1) := by decide +kernel
theorem d_SP_feedInt_26 : decode b_SP_feedInt 26 = .ok (.iadd, 1) := by decide +kernel
theorem d_SP_feedInt_27 : decode b_SP_feedInt 27 = .ok (.putfield 45, 3) := by decide +kernel
theorem d_SP_feedInt_30 : decode b_SP_feedInt 30 = .ok (.iinc 2 (-8), 3) := by decide +kernel
theorem d_SP_feedInt_33 : decode b_SP_feedInt 33 = .ok (.goto (-30), 3) := by decide +kernel
theorem d_SP_feedInt_36 : decode b_SP_feedInt 36 = .ok (.return_, 1) := by decide +kernel
end
section
set_option maxHeartbeats 4000000 in
set_option maxRecDepth 100000 in
/-- feedInt: four bytes more -/
theorem c_SP_feedInt (l : Launch) (dC : Nat → ClassId) (dI : Nat → Nat → Nat) (x tp sg st ft hy : Nat) (cB : ClassId) (f : Nat → Int32) (n : Nat) (y : Int32) (sz : Nat) (hn : n + 4 ≤ 16384) : Met l y_SP_feedInt [w_SP_feedInt] ({ frames := 0, cells := 0, slots := 0, locals := 0 }) (va_Pc [.ref x, .int y] (pr sz (dC, dI) [(x, .inr (0, [.ref tp, .int (nI n), .int ((-1)), .ref sg, .null, .null, .ref st, .null, .ref ft, .null, .ref hy, .null, .null, .int 0, .null, .null, .null, .null, .null, .null, .int 0])), (tp, .inl (cB, 16384, .inl f))] [(cB, .byte)])) (va_Qv (fun (u : Nat → Int32) => True) (bw (dC, dI) (va_A [(x, .inr (0, [.ref tp, .int (nI n), .int ((-1)), .ref sg, .null, .null, .ref st, .null, .ref ft, .null, .ref hy, .null, .null, .int 0, .null, .null, .null, .null, .null, .null, .int 0])), (tp, .inl (cB, 16384, .inl f))] sz) (fun u : Nat → Int32 => [(x, .inr (0, [.ref tp, .int (nI (n + 4)), .int ((-1)), .ref sg, .null, .null, .ref st, .null, .ref ft, .null, .ref hy, .null, .null, .int 0, .null, .null, .null, .null, .null, .null, .int 0])), (tp, .inl (cB, 16384, .inl u))]) (fun u : Nat → Int32 => [(cB, .byte)])) (va_A [(x, .inr (0, [.ref tp, .int (nI n), .int ((-1)), .ref sg, .null, .null, .ref st, .null, .ref ft, .null, .ref hy, .null, .null, .int 0, .null, .null, .null, .null, .null, .null, .int 0])), (tp, .inl (cB, 16384, .inl f))] sz)) 0 0 (va_A [(x, .inr (0, [.ref tp, .int (nI n), .int ((-1)), .ref sg, .null, .null, .ref st, .null, .ref ft, .null, .ref hy, .null, .null, .int 0, .null, .null, .null, .null, .null, .null, .int 0])), (tp, .inl (cB, 16384, .inl f))] sz) := by
  refine Met.ofW (cc := b_SP_feedInt) (maxL := 3) (ret := none) (by decide) rfl ?_
  intro p e s m args below meth c s₁ B hml hv
  obtain ⟨rfl, hsz, hb0, hP, hK, hD0⟩ := hv
  have hx := B.exec
  have hb := B.bytes
  have hr := B.returns
  have hts : ∀ wq ∈ tt, wq.before ([.ref x, .int y] : List Value).toArray s = true := hb0.hts
  have hown : s.vm.findClass "ScholarsPress" = some m.cls := findClass_of_methodNamed B.named
  have hlocks := B.notSynchronized
  subst hsz
  have hD := hD0.self (sz := s.heap.size)
  generalize hAe : va_A [(x, .inr (0, [.ref tp, .int (nI n), .int ((-1)), .ref sg, .null, .null, .ref st, .null, .ref ft, .null, .ref hy, .null, .null, .int 0, .null, .null, .null, .null, .null, .null, .int 0])), (tp, .inl (cB, 16384, .inl f))] s.heap.size = A at hD ⊢
  have hA : ∀ q : Nat, s.heap.size ≤ q → A q := fun q h => by rw [← hAe]; exact Or.inr h
  have hS : va_S A s.heap s.heap [] := va_S.rf
  have hP : va_P (dC, dI) classes [(x, .inr (0, [.ref tp, .int (nI n), .int ((-1)), .ref sg, .null, .null, .ref st, .null, .ref ft, .null, .ref hy, .null, .null, .int 0, .null, .null, .null, .null, .null, .null, .int 0])), (tp, .inl (cB, 16384, .inl f))] s.heap := hP
  have hl := lv_entry ([.ref x, .int y]) (n := 3) (Nat.le_of_ble_eq_true rfl)
  rw [lg_entry_eq]
  generalize (lg_sl ([.ref x, .int y]) ++ List.replicate (3 - (lg_sl ([.ref x, .int y])).length) Slot.unset).toArray = ls at hl ⊢
  have hl : lv_has ls 3 [(0, .ref x), (1, .int y)] := hl
  refine lv_bipush (v := 24) hx hb d_SP_feedInt_0 (by decide) ?_
  refine lv_istore_n (lv' := [(2, .int 24), (0, .ref x), (1, .int y)]) hx hb d_SP_feedInt_2 rfl hl (by decide) rfl (fun ls hl => ?_)
  refine lv_iload_n hx hb d_SP_feedInt_3 rfl (lv_at hl 0 rfl) ?_
  refine lv_if_lt (tgt := 36) hx hb d_SP_feedInt_4 (by decide) (fun c_1 => ?_) (fun c_1 => ?_)
  · exact absurd c_1 (by decide)
  · refine lv_aload_n hx hb d_SP_feedInt_7 rfl (lv_at hl 1 rfl) ?_
    refine va_get (D := (dC, dI)) (ci := 0) (v := .ref tp) (C := "ScholarsPress") (T := F_SP) (N := 21) hx hb hts in_SP hown hK hP 0 rfl rfl 0 (by decide) (hts (.fieldLink "ScholarsPress" 9 "ScholarsPress" "tape" "[B") k_500) (fun _ h9 => h9) rfl d_SP_feedInt_8 ?_
    refine lv_aload_n hx hb d_SP_feedInt_11 rfl (lv_at hl 1 rfl) ?_
    refine va_get (D := (dC, dI)) (ci := 0) (v := .int (nI n)) (C := "ScholarsPress") (T := F_SP) (N := 21) hx hb hts in_SP hown hK hP 0 rfl rfl 1 (by decide) (hts (.fieldLink "ScholarsPress" 45 "ScholarsPress" "tapeLength" "I") k_501) (fun _ h9 => h9) rfl d_SP_feedInt_12 ?_
    refine lv_iload_n hx hb d_SP_feedInt_15 rfl (lv_at hl 2 rfl) ?_
    refine lv_iload_n hx hb d_SP_feedInt_16 rfl (lv_at hl 0 rfl) ?_
    refine lv_ishr hx hb d_SP_feedInt_17 ?_
    refine lv_topi (fun v_2 ev_2 => ?_)
    refine lv_i2b hx hb d_SP_feedInt_18 rfl ?_
    refine lv_topi (fun v_3 ev_3 => ?_)
    refine va_bast hx hb hK hP hD hS 1 0 rfl rfl (i := nI n) (x := v_3) (vp_in_nI (by omega) (by decide)) d_SP_feedInt_19 (fun H locs hP hD hS => ?_)
    obtain ⟨g_4, eg_4⟩ : ∃ g, g = upd f (nI n).toNatClampNeg (vp_nar .byte v_3) := ⟨_, rfl⟩
    have hP : va_P (dC, dI) classes [(x, .inr (0, [.ref tp, .int (nI n), .int ((-1)), .ref sg, .null, .null, .ref st, .null, .ref ft, .null, .ref hy, .null, .null, .int 0, .null, .null, .null, .null, .null, .null, .int 0])), (tp, .inl (cB, 16384, .inl g_4))] H := by rw [eg_4]; exact hP
    have hD : va_D A [(x, .inr (0, [.ref tp, .int (nI n), .int ((-1)), .ref sg, .null, .null, .ref st, .null, .ref ft, .null, .ref hy, .null, .null, .int 0, .null, .null, .null, .null, .null, .null, .int 0])), (tp, .inl (cB, 16384, .inl g_4))] := by rw [eg_4]; exact hD
    refine lv_aload_n hx hb d_SP_feedInt_20 rfl (lv_at hl 1 rfl) ?_
    refine lv_dup hx hb d_SP_feedInt_21 rfl ?_
    refine va_get (D := (dC, dI)) (ci := 0) (v := .int (nI n)) (C := "ScholarsPress") (T := F_SP) (N := 21) hx hb hts in_SP hown hK hP 0 rfl rfl 1 (by decide) (hts (.fieldLink "ScholarsPress" 45 "ScholarsPress" "tapeLength" "I") k_501) (fun _ h9 => h9) rfl d_SP_feedInt_22 ?_
    refine lv_iconst (v := 1) hx hb d_SP_feedInt_25 (by decide) ?_
    refine lv_iadd hx hb d_SP_feedInt_26 ?_
    rw [nI_1]
    refine va_put (D := (dC, dI)) (ci := 0) (v := .int (nI (n + 1))) (ty := .int) (C := "ScholarsPress") (T := F_SP) (N := 21) hx hb hts in_SP t_SP t_SP_ok n_SP hown hK hP hD hS 0 rfl rfl 1 (by decide) (hts (.fieldLink "ScholarsPress" 45 "ScholarsPress" "tapeLength" "I") k_501) (fun _ h9 => h9) rfl (by decide +kernel) rfl rfl (Nat.le_of_ble_eq_true rfl) d_SP_feedInt_27 (fun H locs hP hD hS => ?_)
    have hP : va_P (dC, dI) classes [(x, .inr (0, [.ref tp, .int (nI (n + 1)), .int ((-1)), .ref sg, .null, .null, .ref st, .null, .ref ft, .null, .ref hy, .null, .null, .int 0, .null, .null, .null, .null, .null, .null, .int 0])), (tp, .inl (cB, 16384, .inl g_4))] H := hP
    have hD : va_D A [(x, .inr (0, [.ref tp, .int (nI (n + 1)), .int ((-1)), .ref sg, .null, .null, .ref st, .null, .ref ft, .null, .ref hy, .null, .null, .int 0, .null, .null, .null, .null, .null, .null, .int 0])), (tp, .inl (cB, 16384, .inl g_4))] := hD
    refine lv_iinc (v := 16) (lv' := [(2, .int 16), (0, .ref x), (1, .int y)]) hx hb d_SP_feedInt_30 hl (k := 0) rfl (by decide) (by decide) rfl (fun ls hl => ?_)
    refine lv_goto (tgt := 3) hx hb d_SP_feedInt_33 (by decide) ?_
    refine lv_iload_n hx hb d_SP_feedInt_3 rfl (lv_at hl 0 rfl) ?_
    refine lv_if_lt (tgt := 36) hx hb d_SP_feedInt_4 (by decide) (fun c_5 => ?_) (fun c_5 => ?_)
    · exact absurd c_5 (by decide)
    · refine lv_aload_n hx hb d_SP_feedInt_7 rfl (lv_at hl 1 rfl) ?_
      refine va_get (D := (dC, dI)) (ci := 0) (v := .ref tp) (C := "ScholarsPress") (T := F_SP) (N := 21) hx hb hts in_SP hown hK hP 0 rfl rfl 0 (by decide) (hts (.fieldLink "ScholarsPress" 9 "ScholarsPress" "tape" "[B") k_500) (fun _ h9 => h9) rfl d_SP_feedInt_8 ?_
      refine lv_aload_n hx hb d_SP_feedInt_11 rfl (lv_at hl 1 rfl) ?_
      refine va_get (D := (dC, dI)) (ci := 0) (v := .int (nI (n + 1))) (C := "ScholarsPress") (T := F_SP) (N := 21) hx hb hts in_SP hown hK hP 0 rfl rfl 1 (by decide) (hts (.fieldLink "ScholarsPress" 45 "ScholarsPress" "tapeLength" "I") k_501) (fun _ h9 => h9) rfl d_SP_feedInt_12 ?_
      refine lv_iload_n hx hb d_SP_feedInt_15 rfl (lv_at hl 2 rfl) ?_
      refine lv_iload_n hx hb d_SP_feedInt_16 rfl (lv_at hl 0 rfl) ?_
      refine lv_ishr hx hb d_SP_feedInt_17 ?_
      refine lv_topi (fun v_6 ev_6 => ?_)
      refine lv_i2b hx hb d_SP_feedInt_18 rfl ?_
      refine lv_topi (fun v_7 ev_7 => ?_)
      refine va_bast hx hb hK hP hD hS 1 0 rfl rfl (i := nI (n + 1)) (x := v_7) (vp_in_nI (by omega) (by decide)) d_SP_feedInt_19 (fun H locs hP hD hS => ?_)
      obtain ⟨g_8, eg_8⟩ : ∃ g, g = upd g_4 (nI (n + 1)).toNatClampNeg (vp_nar .byte v_7) := ⟨_, rfl⟩
      have hP : va_P (dC, dI) classes [(x, .inr (0, [.ref tp, .int (nI (n + 1)), .int ((-1)), .ref sg, .null, .null, .ref st, .null, .ref ft, .null, .ref hy, .null, .null, .int 0, .null, .null, .null, .null, .null, .null, .int 0])), (tp, .inl (cB, 16384, .inl g_8))] H := by rw [eg_8]; exact hP
      have hD : va_D A [(x, .inr (0, [.ref tp, .int (nI (n + 1)), .int ((-1)), .ref sg, .null, .null, .ref st, .null, .ref ft, .null, .ref hy, .null, .null, .int 0, .null, .null, .null, .null, .null, .null, .int 0])), (tp, .inl (cB, 16384, .inl g_8))] := by rw [eg_8]; exact hD
      refine lv_aload_n hx hb d_SP_feedInt_20 rfl (lv_at hl 1 rfl) ?_
      refine lv_dup hx hb d_SP_feedInt_21 rfl ?_
      refine va_get (D := (dC, dI)) (ci := 0) (v := .int (nI (n + 1))) (C := "ScholarsPress") (T := F_SP) (N := 21) hx hb hts in_SP hown hK hP 0 rfl rfl 1 (by decide) (hts (.fieldLink "ScholarsPress" 45 "ScholarsPress" "tapeLength" "I") k_501) (fun _ h9 => h9) rfl d_SP_feedInt_22 ?_
      refine lv_iconst (v := 1) hx hb d_SP_feedInt_25 (by decide) ?_
      refine lv_iadd hx hb d_SP_feedInt_26 ?_
      rw [nI_1]
      refine va_put (D := (dC, dI)) (ci := 0) (v := .int (nI (n + 2))) (ty := .int) (C := "ScholarsPress") (T := F_SP) (N := 21) hx hb hts in_SP t_SP t_SP_ok n_SP hown hK hP hD hS 0 rfl rfl 1 (by decide) (hts (.fieldLink "ScholarsPress" 45 "ScholarsPress" "tapeLength" "I") k_501) (fun _ h9 => h9) rfl (by decide +kernel) rfl rfl (Nat.le_of_ble_eq_true rfl) d_SP_feedInt_27 (fun H locs hP hD hS => ?_)
      have hP : va_P (dC, dI) classes [(x, .inr (0, [.ref tp, .int (nI (n + 2)), .int ((-1)), .ref sg, .null, .null, .ref st, .null, .ref ft, .null, .ref hy, .null, .null, .int 0, .null, .null, .null, .null, .null, .null, .int 0])), (tp, .inl (cB, 16384, .inl g_8))] H := hP
      have hD : va_D A [(x, .inr (0, [.ref tp, .int (nI (n + 2)), .int ((-1)), .ref sg, .null, .null, .ref st, .null, .ref ft, .null, .ref hy, .null, .null, .int 0, .null, .null, .null, .null, .null, .null, .int 0])), (tp, .inl (cB, 16384, .inl g_8))] := hD
      refine lv_iinc (v := 8) (lv' := [(2, .int 8), (0, .ref x), (1, .int y)]) hx hb d_SP_feedInt_30 hl (k := 0) rfl (by decide) (by decide) rfl (fun ls hl => ?_)
      refine lv_goto (tgt := 3) hx hb d_SP_feedInt_33 (by decide) ?_
      refine lv_iload_n hx hb d_SP_feedInt_3 rfl (lv_at hl 0 rfl) ?_
      refine lv_if_lt (tgt := 36) hx hb d_SP_feedInt_4 (by decide) (fun c_9 => ?_) (fun c_9 => ?_)
      · exact absurd c_9 (by decide)
      · refine lv_aload_n hx hb d_SP_feedInt_7 rfl (lv_at hl 1 rfl) ?_
        refine va_get (D := (dC, dI)) (ci := 0) (v := .ref tp) (C := "ScholarsPress") (T := F_SP) (N := 21) hx hb hts in_SP hown hK hP 0 rfl rfl 0 (by decide) (hts (.fieldLink "ScholarsPress" 9 "ScholarsPress" "tape" "[B") k_500) (fun _ h9 => h9) rfl d_SP_feedInt_8 ?_
        refine lv_aload_n hx hb d_SP_feedInt_11 rfl (lv_at hl 1 rfl) ?_
        refine va_get (D := (dC, dI)) (ci := 0) (v := .int (nI (n + 2))) (C := "ScholarsPress") (T := F_SP) (N := 21) hx hb hts in_SP hown hK hP 0 rfl rfl 1 (by decide) (hts (.fieldLink "ScholarsPress" 45 "ScholarsPress" "tapeLength" "I") k_501) (fun _ h9 => h9) rfl d_SP_feedInt_12 ?_
        refine lv_iload_n hx hb d_SP_feedInt_15 rfl (lv_at hl 2 rfl) ?_
        refine lv_iload_n hx hb d_SP_feedInt_16 rfl (lv_at hl 0 rfl) ?_
        refine lv_ishr hx hb d_SP_feedInt_17 ?_
        refine lv_topi (fun v_10 ev_10 => ?_)
        refine lv_i2b hx hb d_SP_feedInt_18 rfl ?_
        refine lv_topi (fun v_11 ev_11 => ?_)
        refine va_bast hx hb hK hP hD hS 1 0 rfl rfl (i := nI (n + 2)) (x := v_11) (vp_in_nI (by omega) (by decide)) d_SP_feedInt_19 (fun H locs hP hD hS => ?_)
        obtain ⟨g_12, eg_12⟩ : ∃ g, g = upd g_8 (nI (n + 2)).toNatClampNeg (vp_nar .byte v_11) := ⟨_, rfl⟩
        have hP : va_P (dC, dI) classes [(x, .inr (0, [.ref tp, .int (nI (n + 2)), .int ((-1)), .ref sg, .null, .null, .ref st, .null, .ref ft, .null, .ref hy, .null, .null, .int 0, .null, .null, .null, .null, .null, .null, .int 0])), (tp, .inl (cB, 16384, .inl g_12))] H := by rw [eg_12]; exact hP
        have hD : va_D A [(x, .inr (0, [.ref tp, .int (nI (n + 2)), .int ((-1)), .ref sg, .null, .null, .ref st, .null, .ref ft, .null, .ref hy, .null, .null, .int 0, .null, .null, .null, .null, .null, .null, .int 0])), (tp, .inl (cB, 16384, .inl g_12))] := by rw [eg_12]; exact hD
        refine lv_aload_n hx hb d_SP_feedInt_20 rfl (lv_at hl 1 rfl) ?_
        refine lv_dup hx hb d_SP_feedInt_21 rfl ?_
        refine va_get (D := (dC, dI)) (ci := 0) (v := .int (nI (n + 2))) (C := "ScholarsPress") (T := F_SP) (N := 21) hx hb hts in_SP hown hK hP 0 rfl rfl 1 (by decide) (hts (.fieldLink "ScholarsPress" 45 "ScholarsPress" "tapeLength" "I") k_501) (fun _ h9 => h9) rfl d_SP_feedInt_22 ?_
        refine lv_iconst (v := 1) hx hb d_SP_feedInt_25 (by decide) ?_
        refine lv_iadd hx hb d_SP_feedInt_26 ?_
        rw [nI_1]
        refine va_put (D := (dC, dI)) (ci := 0) (v := .int (nI (n + 3))) (ty := .int) (C := "ScholarsPress") (T := F_SP) (N := 21) hx hb hts in_SP t_SP t_SP_ok n_SP hown hK hP hD hS 0 rfl rfl 1 (by decide) (hts (.fieldLink "ScholarsPress" 45 "ScholarsPress" "tapeLength" "I") k_501) (fun _ h9 => h9) rfl (by decide +kernel) rfl rfl (Nat.le_of_ble_eq_true rfl) d_SP_feedInt_27 (fun H locs hP hD hS => ?_)
        have hP : va_P (dC, dI) classes [(x, .inr (0, [.ref tp, .int (nI (n + 3)), .int ((-1)), .ref sg, .null, .null, .ref st, .null, .ref ft, .null, .ref hy, .null, .null, .int 0, .null, .null, .null, .null, .null, .null, .int 0])), (tp, .inl (cB, 16384, .inl g_12))] H := hP
        have hD : va_D A [(x, .inr (0, [.ref tp, .int (nI (n + 3)), .int ((-1)), .ref sg, .null, .null, .ref st, .null, .ref ft, .null, .ref hy, .null, .null, .int 0, .null, .null, .null, .null, .null, .null, .int 0])), (tp, .inl (cB, 16384, .inl g_12))] := hD
        refine lv_iinc (v := 0) (lv' := [(2, .int 0), (0, .ref x), (1, .int y)]) hx hb d_SP_feedInt_30 hl (k := 0) rfl (by decide) (by decide) rfl (fun ls hl => ?_)
        refine lv_goto (tgt := 3) hx hb d_SP_feedInt_33 (by decide) ?_
        refine lv_iload_n hx hb d_SP_feedInt_3 rfl (lv_at hl 0 rfl) ?_
        refine lv_if_lt (tgt := 36) hx hb d_SP_feedInt_4 (by decide) (fun c_13 => ?_) (fun c_13 => ?_)
        · exact absurd c_13 (by decide)
        · refine lv_aload_n hx hb d_SP_feedInt_7 rfl (lv_at hl 1 rfl) ?_
          refine va_get (D := (dC, dI)) (ci := 0) (v := .ref tp) (C := "ScholarsPress") (T := F_SP) (N := 21) hx hb hts in_SP hown hK hP 0 rfl rfl 0 (by decide) (hts (.fieldLink "ScholarsPress" 9 "ScholarsPress" "tape" "[B") k_500) (fun _ h9 => h9) rfl d_SP_feedInt_8 ?_
          refine lv_aload_n hx hb d_SP_feedInt_11 rfl (lv_at hl 1 rfl) ?_
          refine va_get (D := (dC, dI)) (ci := 0) (v := .int (nI (n + 3))) (C := "ScholarsPress") (T := F_SP) (N := 21) hx hb hts in_SP hown hK hP 0 rfl rfl 1 (by decide) (hts (.fieldLink "ScholarsPress" 45 "ScholarsPress" "tapeLength" "I") k_501) (fun _ h9 => h9) rfl d_SP_feedInt_12 ?_
          refine lv_iload_n hx hb d_SP_feedInt_15 rfl (lv_at hl 2 rfl) ?_
          refine lv_iload_n hx hb d_SP_feedInt_16 rfl (lv_at hl 0 rfl) ?_
          refine lv_ishr hx hb d_SP_feedInt_17 ?_
          refine lv_topi (fun v_14 ev_14 => ?_)
          refine lv_i2b hx hb d_SP_feedInt_18 rfl ?_
          refine lv_topi (fun v_15 ev_15 => ?_)
          refine va_bast hx hb hK hP hD hS 1 0 rfl rfl (i := nI (n + 3)) (x := v_15) (vp_in_nI (by omega) (by decide)) d_SP_feedInt_19 (fun H locs hP hD hS => ?_)
          obtain ⟨g_16, eg_16⟩ : ∃ g, g = upd g_12 (nI (n + 3)).toNatClampNeg (vp_nar .byte v_15) := ⟨_, rfl⟩
          have hP : va_P (dC, dI) classes [(x, .inr (0, [.ref tp, .int (nI (n + 3)), .int ((-1)), .ref sg, .null, .null, .ref st, .null, .ref ft, .null, .ref hy, .null, .null, .int 0, .null, .null, .null, .null, .null, .null, .int 0])), (tp, .inl (cB, 16384, .inl g_16))] H := by rw [eg_16]; exact hP
          have hD : va_D A [(x, .inr (0, [.ref tp, .int (nI (n + 3)), .int ((-1)), .ref sg, .null, .null, .ref st, .null, .ref ft, .null, .ref hy, .null, .null, .int 0, .null, .null, .null, .null, .null, .null, .int 0])), (tp, .inl (cB, 16384, .inl g_16))] := by rw [eg_16]; exact hD
          refine lv_aload_n hx hb d_SP_feedInt_20 rfl (lv_at hl 1 rfl) ?_
          refine lv_dup hx hb d_SP_feedInt_21 rfl ?_
          refine va_get (D := (dC, dI)) (ci := 0) (v := .int (nI (n + 3))) (C := "ScholarsPress") (T := F_SP) (N := 21) hx hb hts in_SP hown hK hP 0 rfl rfl 1 (by decide) (hts (.fieldLink "ScholarsPress" 45 "ScholarsPress" "tapeLength" "I") k_501) (fun _ h9 => h9) rfl d_SP_feedInt_22 ?_
          refine lv_iconst (v := 1) hx hb d_SP_feedInt_25 (by decide) ?_
          refine lv_iadd hx hb d_SP_feedInt_26 ?_
          rw [nI_1]
          refine va_put (D := (dC, dI)) (ci := 0) (v := .int (nI (n + 4))) (ty := .int) (C := "ScholarsPress") (T := F_SP) (N := 21) hx hb hts in_SP t_SP t_SP_ok n_SP hown hK hP hD hS 0 rfl rfl 1 (by decide) (hts (.fieldLink "ScholarsPress" 45 "ScholarsPress" "tapeLength" "I") k_501) (fun _ h9 => h9) rfl (by decide +kernel) rfl rfl (Nat.le_of_ble_eq_true rfl) d_SP_feedInt_27 (fun H locs hP hD hS => ?_)
          have hP : va_P (dC, dI) classes [(x, .inr (0, [.ref tp, .int (nI (n + 4)), .int ((-1)), .ref sg, .null, .null, .ref st, .null, .ref ft, .null, .ref hy, .null, .null, .int 0, .null, .null, .null, .null, .null, .null, .int 0])), (tp, .inl (cB, 16384, .inl g_16))] H := hP
          have hD : va_D A [(x, .inr (0, [.ref tp, .int (nI (n + 4)), .int ((-1)), .ref sg, .null, .null, .ref st, .null, .ref ft, .null, .ref hy, .null, .null, .int 0, .null, .null, .null, .null, .null, .null, .int 0])), (tp, .inl (cB, 16384, .inl g_16))] := hD
          refine lv_iinc (v := (-8)) (lv' := [(2, .int ((-8))), (0, .ref x), (1, .int y)]) hx hb d_SP_feedInt_30 hl (k := 0) rfl (by decide) (by decide) rfl (fun ls hl => ?_)
          refine lv_goto (tgt := 3) hx hb d_SP_feedInt_33 (by decide) ?_
          refine lv_iload_n hx hb d_SP_feedInt_3 rfl (lv_at hl 0 rfl) ?_
          refine lv_if_lt (tgt := 36) hx hb d_SP_feedInt_4 (by decide) (fun c_17 => ?_) (fun c_17 => ?_)
          · have hP9 := hP.sub (ws' := [(x, .inr (0, [.ref tp, .int (nI (n + 4)), .int ((-1)), .ref sg, .null, .null, .ref st, .null, .ref ft, .null, .ref hy, .null, .null, .int 0, .null, .null, .null, .null, .null, .null, .int 0])), (tp, .inl (cB, 16384, .inl g_16))]) [0, 1] rfl
            have hD9 := hD.sub (ws' := [(x, .inr (0, [.ref tp, .int (nI (n + 4)), .int ((-1)), .ref sg, .null, .null, .ref st, .null, .ref ft, .null, .ref hy, .null, .null, .int 0, .null, .null, .null, .null, .null, .null, .int 0])), (tp, .inl (cB, 16384, .inl g_16))]) [0, 1] (by decide) rfl
            have hK9 := hK.sub (tys' := [(cB, .byte)]) [0] rfl
            exact W.vret hx hb hr (fun t ht hW => ⟨⟨g_16, rfl, trivial, by rw [ht]; exact hP9, va_K.moved hW.alike hK9, hD9⟩, hS.F ht⟩) hS.2.2 d_SP_feedInt_36
          · exact absurd c_17 (by decide)
set_option maxHeartbeats 4000000 in
set_option maxRecDepth 100000 in
/-- four: four bytes more -/
theorem c_SM_four (l : Launch) (dC : Nat → ClassId) (dI : Nat → Nat → Nat) (mo so : Nat) (mr sr : Nat → Nat) (th : Int32) (tp : Nat) (cB : ClassId) (f : Nat → Int32) (n : Nat) (y : Int32) (sz : Nat) (hn : n + 4 ≤ 16384) : Met l y_SM_four [w_SM_four] ({ frames := 0, cells := 0, slots := 0, locals := 0 }) (va_Pc [.ref mo, .int y] (pr sz (dC, dI) [(mo, .inr (6, [.int th, .int ((-1)), .ref tp, .int (nI n), .ref (mr 1), .ref (mr 2), .ref (mr 3), .ref (mr 4), .ref (mr 5), .ref (mr 6), .ref so, .ref (mr 7), .ref (mr 8), .ref (mr 9), .int 0, .ref (mr 10), .ref (mr 11), .int 0, .ref (mr 12), .int 0, .ref (mr 13), .int 0, .ref (mr 14)])), (tp, .inl (cB, 16384, .inl f))] [(cB, .byte)])) (va_Qv (fun (u : Nat → Int32) => True) (bw (dC, dI) (va_A [(mo, .inr (6, [.int th, .int ((-1)), .ref tp, .int (nI n), .ref (mr 1), .ref (mr 2), .ref (mr 3), .ref (mr 4), .ref (mr 5), .ref (mr 6), .ref so, .ref (mr 7), .ref (mr 8), .ref (mr 9), .int 0, .ref (mr 10), .ref (mr 11), .int 0, .ref (mr 12), .int 0, .ref (mr 13), .int 0, .ref (mr 14)])), (tp, .inl (cB, 16384, .inl f))] sz) (fun u : Nat → Int32 => [(mo, .inr (6, [.int th, .int ((-1)), .ref tp, .int (nI (n + 4)), .ref (mr 1), .ref (mr 2), .ref (mr 3), .ref (mr 4), .ref (mr 5), .ref (mr 6), .ref so, .ref (mr 7), .ref (mr 8), .ref (mr 9), .int 0, .ref (mr 10), .ref (mr 11), .int 0, .ref (mr 12), .int 0, .ref (mr 13), .int 0, .ref (mr 14)])), (tp, .inl (cB, 16384, .inl u))]) (fun u : Nat → Int32 => [(cB, .byte)])) (va_A [(mo, .inr (6, [.int th, .int ((-1)), .ref tp, .int (nI n), .ref (mr 1), .ref (mr 2), .ref (mr 3), .ref (mr 4), .ref (mr 5), .ref (mr 6), .ref so, .ref (mr 7), .ref (mr 8), .ref (mr 9), .int 0, .ref (mr 10), .ref (mr 11), .int 0, .ref (mr 12), .int 0, .ref (mr 13), .int 0, .ref (mr 14)])), (tp, .inl (cB, 16384, .inl f))] sz)) 0 0 (va_A [(mo, .inr (6, [.int th, .int ((-1)), .ref tp, .int (nI n), .ref (mr 1), .ref (mr 2), .ref (mr 3), .ref (mr 4), .ref (mr 5), .ref (mr 6), .ref so, .ref (mr 7), .ref (mr 8), .ref (mr 9), .int 0, .ref (mr 10), .ref (mr 11), .int 0, .ref (mr 12), .int 0, .ref (mr 13), .int 0, .ref (mr 14)])), (tp, .inl (cB, 16384, .inl f))] sz) := by
  refine Met.ofW (cc := b_SM_four) (maxL := 3) (ret := none) (by decide) rfl ?_
  intro p e s m args below meth c s₁ B hml hv
  obtain ⟨rfl, hsz, hb0, hP, hK, hD0⟩ := hv
  have hx := B.exec
  have hb := B.bytes
  have hr := B.returns
  have hts : ∀ wq ∈ tt, wq.before ([.ref mo, .int y] : List Value).toArray s = true := hb0.hts
  have hown : s.vm.findClass "ScholarsPressModel" = some m.cls := findClass_of_methodNamed B.named
  have hlocks := B.notSynchronized
  subst hsz
  have hD := hD0.self (sz := s.heap.size)
  generalize hAe : va_A [(mo, .inr (6, [.int th, .int ((-1)), .ref tp, .int (nI n), .ref (mr 1), .ref (mr 2), .ref (mr 3), .ref (mr 4), .ref (mr 5), .ref (mr 6), .ref so, .ref (mr 7), .ref (mr 8), .ref (mr 9), .int 0, .ref (mr 10), .ref (mr 11), .int 0, .ref (mr 12), .int 0, .ref (mr 13), .int 0, .ref (mr 14)])), (tp, .inl (cB, 16384, .inl f))] s.heap.size = A at hD ⊢
  have hA : ∀ q : Nat, s.heap.size ≤ q → A q := fun q h => by rw [← hAe]; exact Or.inr h
  have hS : va_S A s.heap s.heap [] := va_S.rf
  have hP : va_P (dC, dI) classes [(mo, .inr (6, [.int th, .int ((-1)), .ref tp, .int (nI n), .ref (mr 1), .ref (mr 2), .ref (mr 3), .ref (mr 4), .ref (mr 5), .ref (mr 6), .ref so, .ref (mr 7), .ref (mr 8), .ref (mr 9), .int 0, .ref (mr 10), .ref (mr 11), .int 0, .ref (mr 12), .int 0, .ref (mr 13), .int 0, .ref (mr 14)])), (tp, .inl (cB, 16384, .inl f))] s.heap := hP
  have hl := lv_entry ([.ref mo, .int y]) (n := 3) (Nat.le_of_ble_eq_true rfl)
  rw [lg_entry_eq]
  generalize (lg_sl ([.ref mo, .int y]) ++ List.replicate (3 - (lg_sl ([.ref mo, .int y])).length) Slot.unset).toArray = ls at hl ⊢
  have hl : lv_has ls 3 [(0, .ref mo), (1, .int y)] := hl
  refine lv_bipush (v := 24) hx hb d_SM_four_0 (by decide) ?_
  refine lv_istore_n (lv' := [(2, .int 24), (0, .ref mo), (1, .int y)]) hx hb d_SM_four_2 rfl hl (by decide) rfl (fun ls hl => ?_)
  refine lv_iload_n hx hb d_SM_four_3 rfl (lv_at hl 0 rfl) ?_
  refine lv_if_lt (tgt := 36) hx hb d_SM_four_4 (by decide) (fun c_1 => ?_) (fun c_1 => ?_)
  · exact absurd c_1 (by decide)
  · refine lv_aload_n hx hb d_SM_four_7 rfl (lv_at hl 1 rfl) ?_
    refine va_get (D := (dC, dI)) (ci := 6) (v := .ref tp) (C := "ScholarsPressModel") (T := F_SM) (N := 23) hx hb hts in_SM hown hK hP 0 rfl rfl 2 (by decide) (hts (.fieldLink "ScholarsPressModel" 13 "ScholarsPressModel" "tape" "[B") k_3682) (fun _ h9 => h9) rfl d_SM_four_8 ?_
    refine lv_aload_n hx hb d_SM_four_11 rfl (lv_at hl 1 rfl) ?_
    refine va_get (D := (dC, dI)) (ci := 6) (v := .int (nI n)) (C := "ScholarsPressModel") (T := F_SM) (N := 23) hx hb hts in_SM hown hK hP 0 rfl rfl 3 (by decide) (hts (.fieldLink "ScholarsPressModel" 104 "ScholarsPressModel" "taped" "I") k_3683) (fun _ h9 => h9) rfl d_SM_four_12 ?_
    refine lv_iload_n hx hb d_SM_four_15 rfl (lv_at hl 2 rfl) ?_
    refine lv_iload_n hx hb d_SM_four_16 rfl (lv_at hl 0 rfl) ?_
    refine lv_ishr hx hb d_SM_four_17 ?_
    refine lv_topi (fun v_2 ev_2 => ?_)
    refine lv_i2b hx hb d_SM_four_18 rfl ?_
    refine lv_topi (fun v_3 ev_3 => ?_)
    refine va_bast hx hb hK hP hD hS 1 0 rfl rfl (i := nI n) (x := v_3) (vp_in_nI (by omega) (by decide)) d_SM_four_19 (fun H locs hP hD hS => ?_)
    obtain ⟨g_4, eg_4⟩ : ∃ g, g = upd f (nI n).toNatClampNeg (vp_nar .byte v_3) := ⟨_, rfl⟩
    have hP : va_P (dC, dI) classes [(mo, .inr (6, [.int th, .int ((-1)), .ref tp, .int (nI n), .ref (mr 1), .ref (mr 2), .ref (mr 3), .ref (mr 4), .ref (mr 5), .ref (mr 6), .ref so, .ref (mr 7), .ref (mr 8), .ref (mr 9), .int 0, .ref (mr 10), .ref (mr 11), .int 0, .ref (mr 12), .int 0, .ref (mr 13), .int 0, .ref (mr 14)])), (tp, .inl (cB, 16384, .inl g_4))] H := by rw [eg_4]; exact hP
    have hD : va_D A [(mo, .inr (6, [.int th, .int ((-1)), .ref tp, .int (nI n), .ref (mr 1), .ref (mr 2), .ref (mr 3), .ref (mr 4), .ref (mr 5), .ref (mr 6), .ref so, .ref (mr 7), .ref (mr 8), .ref (mr 9), .int 0, .ref (mr 10), .ref (mr 11), .int 0, .ref (mr 12), .int 0, .ref (mr 13), .int 0, .ref (mr 14)])), (tp, .inl (cB, 16384, .inl g_4))] := by rw [eg_4]; exact hD
    refine lv_aload_n hx hb d_SM_four_20 rfl (lv_at hl 1 rfl) ?_
    refine lv_dup hx hb d_SM_four_21 rfl ?_
    refine va_get (D := (dC, dI)) (ci := 6) (v := .int (nI n)) (C := "ScholarsPressModel") (T := F_SM) (N := 23) hx hb hts in_SM hown hK hP 0 rfl rfl 3 (by decide) (hts (.fieldLink "ScholarsPressModel" 104 "ScholarsPressModel" "taped" "I") k_3683) (fun _ h9 => h9) rfl d_SM_four_22 ?_
    refine lv_iconst (v := 1) hx hb d_SM_four_25 (by decide) ?_
    refine lv_iadd hx hb d_SM_four_26 ?_
    rw [nI_1]
    refine va_put (D := (dC, dI)) (ci := 6) (v := .int (nI (n + 1))) (ty := .int) (C := "ScholarsPressModel") (T := F_SM) (N := 23) hx hb hts in_SM t_SM t_SM_ok n_SM hown hK hP hD hS 0 rfl rfl 3 (by decide) (hts (.fieldLink "ScholarsPressModel" 104 "ScholarsPressModel" "taped" "I") k_3683) (fun _ h9 => h9) rfl (by decide +kernel) rfl rfl (Nat.le_of_ble_eq_true rfl) d_SM_four_27 (fun H locs hP hD hS => ?_)
    have hP : va_P (dC, dI) classes [(mo, .inr (6, [.int th, .int ((-1)), .ref tp, .int (nI (n + 1)), .ref (mr 1), .ref (mr 2), .ref (mr 3), .ref (mr 4), .ref (mr 5), .ref (mr 6), .ref so, .ref (mr 7), .ref (mr 8), .ref (mr 9), .int 0, .ref (mr 10), .ref (mr 11), .int 0, .ref (mr 12), .int 0, .ref (mr 13), .int 0, .ref (mr 14)])), (tp, .inl (cB, 16384, .inl g_4))] H := hP
    have hD : va_D A [(mo, .inr (6, [.int th, .int ((-1)), .ref tp, .int (nI (n + 1)), .ref (mr 1), .ref (mr 2), .ref (mr 3), .ref (mr 4), .ref (mr 5), .ref (mr 6), .ref so, .ref (mr 7), .ref (mr 8), .ref (mr 9), .int 0, .ref (mr 10), .ref (mr 11), .int 0, .ref (mr 12), .int 0, .ref (mr 13), .int 0, .ref (mr 14)])), (tp, .inl (cB, 16384, .inl g_4))] := hD
    refine lv_iinc (v := 16) (lv' := [(2, .int 16), (0, .ref mo), (1, .int y)]) hx hb d_SM_four_30 hl (k := 0) rfl (by decide) (by decide) rfl (fun ls hl => ?_)
    refine lv_goto (tgt := 3) hx hb d_SM_four_33 (by decide) ?_
    refine lv_iload_n hx hb d_SM_four_3 rfl (lv_at hl 0 rfl) ?_
    refine lv_if_lt (tgt := 36) hx hb d_SM_four_4 (by decide) (fun c_5 => ?_) (fun c_5 => ?_)
    · exact absurd c_5 (by decide)
    · refine lv_aload_n hx hb d_SM_four_7 rfl (lv_at hl 1 rfl) ?_
      refine va_get (D := (dC, dI)) (ci := 6) (v := .ref tp) (C := "ScholarsPressModel") (T := F_SM) (N := 23) hx hb hts in_SM hown hK hP 0 rfl rfl 2 (by decide) (hts (.fieldLink "ScholarsPressModel" 13 "ScholarsPressModel" "tape" "[B") k_3682) (fun _ h9 => h9) rfl d_SM_four_8 ?_
      refine lv_aload_n hx hb d_SM_four_11 rfl (lv_at hl 1 rfl) ?_
      refine va_get (D := (dC, dI)) (ci := 6) (v := .int (nI (n + 1))) (C := "ScholarsPressModel") (T := F_SM) (N := 23) hx hb hts in_SM hown hK hP 0 rfl rfl 3 (by decide) (hts (.fieldLink "ScholarsPressModel" 104 "ScholarsPressModel" "taped" "I") k_3683) (fun _ h9 => h9) rfl d_SM_four_12 ?_
      refine lv_iload_n hx hb d_SM_four_15 rfl (lv_at hl 2 rfl) ?_
      refine lv_iload_n hx hb d_SM_four_16 rfl (lv_at hl 0 rfl) ?_
      refine lv_ishr hx hb d_SM_four_17 ?_
      refine lv_topi (fun v_6 ev_6 => ?_)
      refine lv_i2b hx hb d_SM_four_18 rfl ?_
      refine lv_topi (fun v_7 ev_7 => ?_)
      refine va_bast hx hb hK hP hD hS 1 0 rfl rfl (i := nI (n + 1)) (x := v_7) (vp_in_nI (by omega) (by decide)) d_SM_four_19 (fun H locs hP hD hS => ?_)
      obtain ⟨g_8, eg_8⟩ : ∃ g, g = upd g_4 (nI (n + 1)).toNatClampNeg (vp_nar .byte v_7) := ⟨_, rfl⟩
      have hP : va_P (dC, dI) classes [(mo, .inr (6, [.int th, .int ((-1)), .ref tp, .int (nI (n + 1)), .ref (mr 1), .ref (mr 2), .ref (mr 3), .ref (mr 4), .ref (mr 5), .ref (mr 6), .ref so, .ref (mr 7), .ref (mr 8), .ref (mr 9), .int 0, .ref (mr 10), .ref (mr 11), .int 0, .ref (mr 12), .int 0, .ref (mr 13), .int 0, .ref (mr 14)])), (tp, .inl (cB, 16384, .inl g_8))] H := by rw [eg_8]; exact hP
      have hD : va_D A [(mo, .inr (6, [.int th, .int ((-1)), .ref tp, .int (nI (n + 1)), .ref (mr 1), .ref (mr 2), .ref (mr 3), .ref (mr 4), .ref (mr 5), .ref (mr 6), .ref so, .ref (mr 7), .ref (mr 8), .ref (mr 9), .int 0, .ref (mr 10), .ref (mr 11), .int 0, .ref (mr 12), .int 0, .ref (mr 13), .int 0, .ref (mr 14)])), (tp, .inl (cB, 16384, .inl g_8))] := by rw [eg_8]; exact hD
      refine lv_aload_n hx hb d_SM_four_20 rfl (lv_at hl 1 rfl) ?_
      refine lv_dup hx hb d_SM_four_21 rfl ?_
      refine va_get (D := (dC, dI)) (ci := 6) (v := .int (nI (n + 1))) (C := "ScholarsPressModel") (T := F_SM) (N := 23) hx hb hts in_SM hown hK hP 0 rfl rfl 3 (by decide) (hts (.fieldLink "ScholarsPressModel" 104 "ScholarsPressModel" "taped" "I") k_3683) (fun _ h9 => h9) rfl d_SM_four_22 ?_
      refine lv_iconst (v := 1) hx hb d_SM_four_25 (by decide) ?_
      refine lv_iadd hx hb d_SM_four_26 ?_
      rw [nI_1]
      refine va_put (D := (dC, dI)) (ci := 6) (v := .int (nI (n + 2))) (ty := .int) (C := "ScholarsPressModel") (T := F_SM) (N := 23) hx hb hts in_SM t_SM t_SM_ok n_SM hown hK hP hD hS 0 rfl rfl 3 (by decide) (hts (.fieldLink "ScholarsPressModel" 104 "ScholarsPressModel" "taped" "I") k_3683) (fun _ h9 => h9) rfl (by decide +kernel) rfl rfl (Nat.le_of_ble_eq_true rfl) d_SM_four_27 (fun H locs hP hD hS => ?_)
      have hP : va_P (dC, dI) classes [(mo, .inr (6, [.int th, .int ((-1)), .ref tp, .int (nI (n + 2)), .ref (mr 1), .ref (mr 2), .ref (mr 3), .ref (mr 4), .ref (mr 5), .ref (mr 6), .ref so, .ref (mr 7), .ref (mr 8), .ref (mr 9), .int 0, .ref (mr 10), .ref (mr 11), .int 0, .ref (mr 12), .int 0, .ref (mr 13), .int 0, .ref (mr 14)])), (tp, .inl (cB, 16384, .inl g_8))] H := hP
      have hD : va_D A [(mo, .inr (6, [.int th, .int ((-1)), .ref tp, .int (nI (n + 2)), .ref (mr 1), .ref (mr 2), .ref (mr 3), .ref (mr 4), .ref (mr 5), .ref (mr 6), .ref so, .ref (mr 7), .ref (mr 8), .ref (mr 9), .int 0, .ref (mr 10), .ref (mr 11), .int 0, .ref (mr 12), .int 0, .ref (mr 13), .int 0, .ref (mr 14)])), (tp, .inl (cB, 16384, .inl g_8))] := hD
      refine lv_iinc (v := 8) (lv' := [(2, .int 8), (0, .ref mo), (1, .int y)]) hx hb d_SM_four_30 hl (k := 0) rfl (by decide) (by decide) rfl (fun ls hl => ?_)
      refine lv_goto (tgt := 3) hx hb d_SM_four_33 (by decide) ?_
      refine lv_iload_n hx hb d_SM_four_3 rfl (lv_at hl 0 rfl) ?_
      refine lv_if_lt (tgt := 36) hx hb d_SM_four_4 (by decide) (fun c_9 => ?_) (fun c_9 => ?_)
      · exact absurd c_9 (by decide)
      · refine lv_aload_n hx hb d_SM_four_7 rfl (lv_at hl 1 rfl) ?_
        refine va_get (D := (dC, dI)) (ci := 6) (v := .ref tp) (C := "ScholarsPressModel") (T := F_SM) (N := 23) hx hb hts in_SM hown hK hP 0 rfl rfl 2 (by decide) (hts (.fieldLink "ScholarsPressModel" 13 "ScholarsPressModel" "tape" "[B") k_3682) (fun _ h9 => h9) rfl d_SM_four_8 ?_
        refine lv_aload_n hx hb d_SM_four_11 rfl (lv_at hl 1 rfl) ?_
        refine va_get (D := (dC, dI)) (ci := 6) (v := .int (nI (n + 2))) (C := "ScholarsPressModel") (T := F_SM) (N := 23) hx hb hts in_SM hown hK hP 0 rfl rfl 3 (by decide) (hts (.fieldLink "ScholarsPressModel" 104 "ScholarsPressModel" "taped" "I") k_3683) (fun _ h9 => h9) rfl d_SM_four_12 ?_
        refine lv_iload_n hx hb d_SM_four_15 rfl (lv_at hl 2 rfl) ?_
        refine lv_iload_n hx hb d_SM_four_16 rfl (lv_at hl 0 rfl) ?_
        refine lv_ishr hx hb d_SM_four_17 ?_
        refine lv_topi (fun v_10 ev_10 => ?_)
        refine lv_i2b hx hb d_SM_four_18 rfl ?_
        refine lv_topi (fun v_11 ev_11 => ?_)
        refine va_bast hx hb hK hP hD hS 1 0 rfl rfl (i := nI (n + 2)) (x := v_11) (vp_in_nI (by omega) (by decide)) d_SM_four_19 (fun H locs hP hD hS => ?_)
        obtain ⟨g_12, eg_12⟩ : ∃ g, g = upd g_8 (nI (n + 2)).toNatClampNeg (vp_nar .byte v_11) := ⟨_, rfl⟩
        have hP : va_P (dC, dI) classes [(mo, .inr (6, [.int th, .int ((-1)), .ref tp, .int (nI (n + 2)), .ref (mr 1), .ref (mr 2), .ref (mr 3), .ref (mr 4), .ref (mr 5), .ref (mr 6), .ref so, .ref (mr 7), .ref (mr 8), .ref (mr 9), .int 0, .ref (mr 10), .ref (mr 11), .int 0, .ref (mr 12), .int 0, .ref (mr 13), .int 0, .ref (mr 14)])), (tp, .inl (cB, 16384, .inl g_12))] H := by rw [eg_12]; exact hP
        have hD : va_D A [(mo, .inr (6, [.int th, .int ((-1)), .ref tp, .int (nI (n + 2)), .ref (mr 1), .ref (mr 2), .ref (mr 3), .ref (mr 4), .ref (mr 5), .ref (mr 6), .ref so, .ref (mr 7), .ref (mr 8), .ref (mr 9), .int 0, .ref (mr 10), .ref (mr 11), .int 0, .ref (mr 12), .int 0, .ref (mr 13), .int 0, .ref (mr 14)])), (tp, .inl (cB, 16384, .inl g_12))] := by rw [eg_12]; exact hD
        refine lv_aload_n hx hb d_SM_four_20 rfl (lv_at hl 1 rfl) ?_
        refine lv_dup hx hb d_SM_four_21 rfl ?_
        refine va_get (D := (dC, dI)) (ci := 6) (v := .int (nI (n + 2))) (C := "ScholarsPressModel") (T := F_SM) (N := 23) hx hb hts in_SM hown hK hP 0 rfl rfl 3 (by decide) (hts (.fieldLink "ScholarsPressModel" 104 "ScholarsPressModel" "taped" "I") k_3683) (fun _ h9 => h9) rfl d_SM_four_22 ?_
        refine lv_iconst (v := 1) hx hb d_SM_four_25 (by decide) ?_
        refine lv_iadd hx hb d_SM_four_26 ?_
        rw [nI_1]
        refine va_put (D := (dC, dI)) (ci := 6) (v := .int (nI (n + 3))) (ty := .int) (C := "ScholarsPressModel") (T := F_SM) (N := 23) hx hb hts in_SM t_SM t_SM_ok n_SM hown hK hP hD hS 0 rfl rfl 3 (by decide) (hts (.fieldLink "ScholarsPressModel" 104 "ScholarsPressModel" "taped" "I") k_3683) (fun _ h9 => h9) rfl (by decide +kernel) rfl rfl (Nat.le_of_ble_eq_true rfl) d_SM_four_27 (fun H locs hP hD hS => ?_)
        have hP : va_P (dC, dI) classes [(mo, .inr (6, [.int th, .int ((-1)), .ref tp, .int (nI (n + 3)), .ref (mr 1), .ref (mr 2), .ref (mr 3), .ref (mr 4), .ref (mr 5), .ref (mr 6), .ref so, .ref (mr 7), .ref (mr 8), .ref (mr 9), .int 0, .ref (mr 10), .ref (mr 11), .int 0, .ref (mr 12), .int 0, .ref (mr 13), .int 0, .ref (mr 14)])), (tp, .inl (cB, 16384, .inl g_12))] H := hP
        have hD : va_D A [(mo, .inr (6, [.int th, .int ((-1)), .ref tp, .int (nI (n + 3)), .ref (mr 1), .ref (mr 2), .ref (mr 3), .ref (mr 4), .ref (mr 5), .ref (mr 6), .ref so, .ref (mr 7), .ref (mr 8), .ref (mr 9), .int 0, .ref (mr 10), .ref (mr 11), .int 0, .ref (mr 12), .int 0, .ref (mr 13), .int 0, .ref (mr 14)])), (tp, .inl (cB, 16384, .inl g_12))] := hD
        refine lv_iinc (v := 0) (lv' := [(2, .int 0), (0, .ref mo), (1, .int y)]) hx hb d_SM_four_30 hl (k := 0) rfl (by decide) (by decide) rfl (fun ls hl => ?_)
        refine lv_goto (tgt := 3) hx hb d_SM_four_33 (by decide) ?_
        refine lv_iload_n hx hb d_SM_four_3 rfl (lv_at hl 0 rfl) ?_
        refine lv_if_lt (tgt := 36) hx hb d_SM_four_4 (by decide) (fun c_13 => ?_) (fun c_13 => ?_)
        · exact absurd c_13 (by decide)
        · refine lv_aload_n hx hb d_SM_four_7 rfl (lv_at hl 1 rfl) ?_
          refine va_get (D := (dC, dI)) (ci := 6) (v := .ref tp) (C := "ScholarsPressModel") (T := F_SM) (N := 23) hx hb hts in_SM hown hK hP 0 rfl rfl 2 (by decide) (hts (.fieldLink "ScholarsPressModel" 13 "ScholarsPressModel" "tape" "[B") k_3682) (fun _ h9 => h9) rfl d_SM_four_8 ?_
          refine lv_aload_n hx hb d_SM_four_11 rfl (lv_at hl 1 rfl) ?_
          refine va_get (D := (dC, dI)) (ci := 6) (v := .int (nI (n + 3))) (C := "ScholarsPressModel") (T := F_SM) (N := 23) hx hb hts in_SM hown hK hP 0 rfl rfl 3 (by decide) (hts (.fieldLink "ScholarsPressModel" 104 "ScholarsPressModel" "taped" "I") k_3683) (fun _ h9 => h9) rfl d_SM_four_12 ?_
          refine lv_iload_n hx hb d_SM_four_15 rfl (lv_at hl 2 rfl) ?_
          refine lv_iload_n hx hb d_SM_four_16 rfl (lv_at hl 0 rfl) ?_
          refine lv_ishr hx hb d_SM_four_17 ?_
          refine lv_topi (fun v_14 ev_14 => ?_)
          refine lv_i2b hx hb d_SM_four_18 rfl ?_
          refine lv_topi (fun v_15 ev_15 => ?_)
          refine va_bast hx hb hK hP hD hS 1 0 rfl rfl (i := nI (n + 3)) (x := v_15) (vp_in_nI (by omega) (by decide)) d_SM_four_19 (fun H locs hP hD hS => ?_)
          obtain ⟨g_16, eg_16⟩ : ∃ g, g = upd g_12 (nI (n + 3)).toNatClampNeg (vp_nar .byte v_15) := ⟨_, rfl⟩
          have hP : va_P (dC, dI) classes [(mo, .inr (6, [.int th, .int ((-1)), .ref tp, .int (nI (n + 3)), .ref (mr 1), .ref (mr 2), .ref (mr 3), .ref (mr 4), .ref (mr 5), .ref (mr 6), .ref so, .ref (mr 7), .ref (mr 8), .ref (mr 9), .int 0, .ref (mr 10), .ref (mr 11), .int 0, .ref (mr 12), .int 0, .ref (mr 13), .int 0, .ref (mr 14)])), (tp, .inl (cB, 16384, .inl g_16))] H := by rw [eg_16]; exact hP
          have hD : va_D A [(mo, .inr (6, [.int th, .int ((-1)), .ref tp, .int (nI (n + 3)), .ref (mr 1), .ref (mr 2), .ref (mr 3), .ref (mr 4), .ref (mr 5), .ref (mr 6), .ref so, .ref (mr 7), .ref (mr 8), .ref (mr 9), .int 0, .ref (mr 10), .ref (mr 11), .int 0, .ref (mr 12), .int 0, .ref (mr 13), .int 0, .ref (mr 14)])), (tp, .inl (cB, 16384, .inl g_16))] := by rw [eg_16]; exact hD
          refine lv_aload_n hx hb d_SM_four_20 rfl (lv_at hl 1 rfl) ?_
          refine lv_dup hx hb d_SM_four_21 rfl ?_
          refine va_get (D := (dC, dI)) (ci := 6) (v := .int (nI (n + 3))) (C := "ScholarsPressModel") (T := F_SM) (N := 23) hx hb hts in_SM hown hK hP 0 rfl rfl 3 (by decide) (hts (.fieldLink "ScholarsPressModel" 104 "ScholarsPressModel" "taped" "I") k_3683) (fun _ h9 => h9) rfl d_SM_four_22 ?_
          refine lv_iconst (v := 1) hx hb d_SM_four_25 (by decide) ?_
          refine lv_iadd hx hb d_SM_four_26 ?_
          rw [nI_1]
          refine va_put (D := (dC, dI)) (ci := 6) (v := .int (nI (n + 4))) (ty := .int) (C := "ScholarsPressModel") (T := F_SM) (N := 23) hx hb hts in_SM t_SM t_SM_ok n_SM hown hK hP hD hS 0 rfl rfl 3 (by decide) (hts (.fieldLink "ScholarsPressModel" 104 "ScholarsPressModel" "taped" "I") k_3683) (fun _ h9 => h9) rfl (by decide +kernel) rfl rfl (Nat.le_of_ble_eq_true rfl) d_SM_four_27 (fun H locs hP hD hS => ?_)
          have hP : va_P (dC, dI) classes [(mo, .inr (6, [.int th, .int ((-1)), .ref tp, .int (nI (n + 4)), .ref (mr 1), .ref (mr 2), .ref (mr 3), .ref (mr 4), .ref (mr 5), .ref (mr 6), .ref so, .ref (mr 7), .ref (mr 8), .ref (mr 9), .int 0, .ref (mr 10), .ref (mr 11), .int 0, .ref (mr 12), .int 0, .ref (mr 13), .int 0, .ref (mr 14)])), (tp, .inl (cB, 16384, .inl g_16))] H := hP
          have hD : va_D A [(mo, .inr (6, [.int th, .int ((-1)), .ref tp, .int (nI (n + 4)), .ref (mr 1), .ref (mr 2), .ref (mr 3), .ref (mr 4), .ref (mr 5), .ref (mr 6), .ref so, .ref (mr 7), .ref (mr 8), .ref (mr 9), .int 0, .ref (mr 10), .ref (mr 11), .int 0, .ref (mr 12), .int 0, .ref (mr 13), .int 0, .ref (mr 14)])), (tp, .inl (cB, 16384, .inl g_16))] := hD
          refine lv_iinc (v := (-8)) (lv' := [(2, .int ((-8))), (0, .ref mo), (1, .int y)]) hx hb d_SM_four_30 hl (k := 0) rfl (by decide) (by decide) rfl (fun ls hl => ?_)
          refine lv_goto (tgt := 3) hx hb d_SM_four_33 (by decide) ?_
          refine lv_iload_n hx hb d_SM_four_3 rfl (lv_at hl 0 rfl) ?_
          refine lv_if_lt (tgt := 36) hx hb d_SM_four_4 (by decide) (fun c_17 => ?_) (fun c_17 => ?_)
          · have hP9 := hP.sub (ws' := [(mo, .inr (6, [.int th, .int ((-1)), .ref tp, .int (nI (n + 4)), .ref (mr 1), .ref (mr 2), .ref (mr 3), .ref (mr 4), .ref (mr 5), .ref (mr 6), .ref so, .ref (mr 7), .ref (mr 8), .ref (mr 9), .int 0, .ref (mr 10), .ref (mr 11), .int 0, .ref (mr 12), .int 0, .ref (mr 13), .int 0, .ref (mr 14)])), (tp, .inl (cB, 16384, .inl g_16))]) [0, 1] rfl
            have hD9 := hD.sub (ws' := [(mo, .inr (6, [.int th, .int ((-1)), .ref tp, .int (nI (n + 4)), .ref (mr 1), .ref (mr 2), .ref (mr 3), .ref (mr 4), .ref (mr 5), .ref (mr 6), .ref so, .ref (mr 7), .ref (mr 8), .ref (mr 9), .int 0, .ref (mr 10), .ref (mr 11), .int 0, .ref (mr 12), .int 0, .ref (mr 13), .int 0, .ref (mr 14)])), (tp, .inl (cB, 16384, .inl g_16))]) [0, 1] (by decide) rfl
            have hK9 := hK.sub (tys' := [(cB, .byte)]) [0] rfl
            exact W.vret hx hb hr (fun t ht hW => ⟨⟨g_16, rfl, trivial, by rw [ht]; exact hP9, va_K.moved hW.alike hK9, hD9⟩, hS.F ht⟩) hS.2.2 d_SM_four_36
          · exact absurd c_17 (by decide)
end
section
abbrev b_SP_feed : ByteArray := prog_1_method_2_code
abbrev y_SP_feed : MethodName := ⟨"ScholarsPress", "feed", "(IIIII)I"⟩
abbrev w_SP_feed : Cond := .code y_SP_feed b_SP_feed 6 (some .int)
theorem kw_SP_feed : w_SP_feed ∈ tt := tt_mem 575 (by decide +kernel) (by decide +kernel)
abbrev b_SM_feed : ByteArray := prog_14_method_12_code
abbrev y_SM_feed : MethodName := ⟨"ScholarsPressModel", "feed", "(IIIII)I"⟩
abbrev w_SM_feed : Cond := .code y_SM_feed b_SM_feed 6 (some .int)
theorem kw_SM_feed : w_SM_feed ∈ tt := tt_mem 3757 (by decide +kernel) (by decide +kernel)
theorem k_1 : Cond.selects "ScholarsPress" ⟨"ScholarsPress", "feedInt", "(I)V"⟩ ⟨"ScholarsPress", "feedInt", "(I)V"⟩ ∈ tt := tt_mem 1 (by decide +kernel) (by decide +kernel)
theorem k_123 : Cond.selects "ScholarsPressModel" ⟨"ScholarsPressModel", "four", "(I)V"⟩ ⟨"ScholarsPressModel", "four", "(I)V"⟩ ∈ tt := tt_mem 123 (by decide +kernel) (by decide +kernel)
theorem k_646 : Cond.methodLink "ScholarsPress" 51 ⟨"ScholarsPress", "feedInt", "(I)V"⟩ ∈ tt := tt_mem 646 (by decide +kernel) (by decide +kernel)
theorem k_648 : Cond.instanceMethod ⟨"ScholarsPress", "feedInt", "(I)V"⟩ ∈ tt := tt_mem 648 (by decide +kernel) (by decide +kernel)
theorem k_3762 : Cond.methodLink "ScholarsPressModel" 111 ⟨"ScholarsPressModel", "four", "(I)V"⟩ ∈ tt := tt_mem 3762 (by decide +kernel) (by decide +kernel)
theorem k_3764 : Cond.instanceMethod ⟨"ScholarsPressModel", "four", "(I)V"⟩ ∈ tt := tt_mem 3764 (by decide +kernel) (by decide +kernel)
theorem d_SM_feed_0 : decode b_SM_feed 0 = .ok (.aload_n 0, 1) := by decide +kernel
theorem d_SM_feed_1 : decode b_SM_feed 1 = .ok (.getfield 104, 3) := by decide +kernel
theorem d_SM_feed_4 : decode b_SM_feed 4 = .ok (.bipush 20, 2) := by decide +kernel
theorem d_SM_feed_6 : decode b_SM_feed 6 = .ok (.iadd, 1) := by decide +kernel
theorem d_SM_feed_7 : decode b_SM_feed 7 = .ok (.sipush 16384, 3) := by decide +kernel
theorem d_SM_feed_10 : decode b_SM_feed 10 = .ok (.if_icmp .le 9, 3) := by decide +kernel
theorem d_SM_feed_19 : decode b_SM_feed 19 = .ok (.aload_n 0, 1) := by decide +kernel
theorem d_SM_feed_20 : decode b_SM_feed 20 = .ok (.iconst 0, 1) := by decide +kernel
theorem d_SM_feed_21 : decode b_SM_feed 21 = .ok (.putfield 87, 3) := by decide +kernel
theorem d_SM_feed_24 : decode b_SM_feed 24 = .ok (.aload_n 0, 1) := by decide +kernel
theorem d_SM_feed_25 : decode b_SM_feed 25 = .ok (.iload_n 1, 1) := by decide +kernel
theorem d_SM_feed_26 : decode b_SM_feed 26 = .ok (.invokevirtual 111, 3) := by decide +kernel
theorem d_SM_feed_29 : decode b_SM_feed 29 = .ok (.aload_n 0, 1) := by decide +kernel
theorem d_SM_feed_30 : decode b_SM_feed 30 = .ok (.iload_n 2, 1) := by decide +kernel
theorem d_SM_feed_31 : decode b_SM_feed 31 = .ok (.invokevirtual 111, 3) := by decide +kernel
theorem d_SM_feed_34 : decode b_SM_feed 34 = .ok (.aload_n 0, 1) := by decide +kernel
theorem d_SM_feed_35 : decode b_SM_feed 35 = .ok (.iload_n 3, 1) := by decide +kernel
theorem d_SM_feed_36 : decode b_SM_feed 36 = .ok (.invokevirtual 111, 3) := by decide +kernel
theorem d_SM_feed_39 : decode b_SM_feed 39 = .ok (.aload_n 0, 1) := by decide +kernel
theorem d_SM_feed_40 : decode b_SM_feed 40 = .ok (.iload 4, 2) := by decide +kernel
theorem d_SM_feed_42 : decode b_SM_feed 42 = .ok (.invokevirtual 111, 3) := by decide +kernel
theorem d_SM_feed_45 : decode b_SM_feed 45 = .ok (.aload_n 0, 1) := by decide +kernel
theorem d_SM_feed_46 : decode b_SM_feed 46 = .ok (.iload 5, 2) := by decide +kernel
theorem d_SM_feed_48 : decode b_SM_feed 48 = .ok (.invokevirtual 111, 3) := by decide +kernel
theorem d_SM_feed_51 : decode b_SM_feed 51 = .ok (.aload_n 0, 1) := by decide +kernel
theorem d_SM_feed_52 : decode b_SM_feed 52 = .ok (.getfield 104, 3) := by decide +kernel
theorem d_SM_feed_55 : decode b_SM_feed 55 = .ok (.ireturn, 1) := by decide +kernel
theorem d_SP_feed_0 : decode b_SP_feed 0 = .ok (.aload_n 0, 1) := by decide +kernel
theorem d_SP_feed_1 : decode b_SP_feed 1 = .ok (.getfield 45, 3) := by decide +kernel
theorem d_SP_feed_4 : decode b_SP_feed 4 = .ok (.bipush 20, 2) := by decide +kernel
theorem d_SP_feed_6 : decode b_SP_feed 6 = .ok (.iadd, 1) := by decide +kernel
theorem d_SP_feed_7 : decode b_SP_feed 7 = .ok (.sipush 16384, 3) := by decide +kernel
theorem d_SP_feed_10 : decode b_SP_feed 10 = .ok (.if_icmp .le 11, 3) := by decide +kernel
theorem d_SP_feed_21 : decode b_SP_feed 21 = .ok (.aload_n 0, 1) := by decide +kernel
theorem d_SP_feed_22 : decode b_SP_feed 22 = .ok (.iload_n 1, 1) := by decide +kernel
theorem d_SP_feed_23 : decode b_SP_feed 23 = .ok (.invokevirtual 51, 3) := by decide +kernel
theorem d_SP_feed_26 : decode b_SP_feed 26 = .ok (.aload_n 0, 1) := by decide +kernel
theorem d_SP_feed_27 : decode b_SP_feed 27 = .ok (.iload_n 2, 1) := by decide +kernel
theorem d_SP_feed_28 : decode b_SP_feed 28 = .ok (.invokevirtual 51, 3) := by decide +kernel
theorem d_SP_feed_31 : decode b_SP_feed 31 = .ok (.aload_n 0, 1) := by decide +kernel
theorem d_SP_feed_32 : decode b_SP_feed 32 = .ok (.iload_n 3, 1) := by decide +kernel
theorem d_SP_feed_33 : decode b_SP_feed 33 = .ok (.invokevirtual 51, 3) := by decide +kernel
theorem d_SP_feed_36 : decode b_SP_feed 36 = .ok (.aload_n 0, 1) := by decide +kernel
theorem d_SP_feed_37 : decode b_SP_feed 37 = .ok (.iload 4, 2) := by decide +kernel
theorem d_SP_feed_39 : decode b_SP_feed 39 = .ok (.invokevirtual 51, 3) := by decide +kernel
theorem d_SP_feed_42 : decode b_SP_feed 42 = .ok (.aload_n 0, 1) := by decide +kernel
theorem d_SP_feed_43 : decode b_SP_feed 43 = .ok (.iload 5, 2) := by decide +kernel
theorem d_SP_feed_45 : decode b_SP_feed 45 = .ok (.invokevirtual 51, 3) := by decide +kernel
theorem d_SP_feed_48 : decode b_SP_feed 48 = .ok (.aload_n 0, 1) := by decide +kernel
theorem d_SP_feed_49 : decode b_SP_feed 49 = .ok (.getfield 45, 3) := by decide +kernel
theorem d_SP_feed_52 : decode b_SP_feed 52 = .ok (.ireturn, 1) := by decide +kernel
end
section
set_option maxHeartbeats 4000000 in
set_option maxRecDepth 100000 in
/-- feed: 20 bytes on the empty TAPE -/
theorem c_SP_feed {l : Launch} (hfl : l.flags = flags0) {s0 : State} (hS0 : te_S0 s0) (dC : Nat → ClassId) (dI : Nat → Nat → Nat) (x tp sg st ft hy : Nat) (cB : ClassId) (f : Nat → Int32) (a1 a2 a3 a4 a5 : Int32) (sz : Nat) : te_Met l y_SP_feed [w_SP_feed] ({ frames := 6, cells := 1, slots := 6, locals := 200 }) (va_Pc [.ref x, .int a1, .int a2, .int a3, .int a4, .int a5] (fun U => U.heap.size = sz ∧ tb U ∧ te_Base s0 U ∧ va_P (dC, dI) classes [(x, .inr (0, [.ref tp, .int 0, .int ((-1)), .ref sg, .null, .null, .ref st, .null, .ref ft, .null, .ref hy, .null, .null, .int 0, .null, .null, .null, .null, .null, .null, .int 0])), (tp, .inl (cB, 16384, .inl f))] U.heap ∧ va_K (dC, dI) classes [(cB, .byte)] U ∧ va_D (fun _ => True) [(x, .inr (0, [.ref tp, .int 0, .int ((-1)), .ref sg, .null, .null, .ref st, .null, .ref ft, .null, .ref hy, .null, .null, .int 0, .null, .null, .null, .null, .null, .null, .int 0])), (tp, .inl (cB, 16384, .inl f))])) (te_Qx (va_Qi (fun (r : Int32) (_ : Unit) => r = nI 20) (fun _ _ => True) (va_A [(x, .inr (0, [.ref tp, .int 0, .int ((-1)), .ref sg, .null, .null, .ref st, .null, .ref ft, .null, .ref hy, .null, .null, .int 0, .null, .null, .null, .null, .null, .null, .int 0])), (tp, .inl (cB, 16384, .inl f))] sz)) (fun cls => False)) 1 6 (va_A [(x, .inr (0, [.ref tp, .int 0, .int ((-1)), .ref sg, .null, .null, .ref st, .null, .ref ft, .null, .ref hy, .null, .null, .int 0, .null, .null, .null, .null, .null, .null, .int 0])), (tp, .inl (cB, 16384, .inl f))] sz) := by
  refine te_ofW (cc := b_SP_feed) (maxL := 6) (ret := (some .int)) (by decide) rfl ?_
  intro p e s m args below meth c s₁ B hml hv
  obtain ⟨rfl, hsz, hb0, hB0, hP, hK, hD0⟩ := hv
  have hx := B.exec
  have hb := B.bytes
  have hr := B.returns
  have hw0 := atoms_spec (ws := [w_SP_feed]) B.pre
  have hts : ∀ wq ∈ tt, wq.before ([.ref x, .int a1, .int a2, .int a3, .int a4, .int a5] : List Value).toArray s = true := hb0.hts
  have hown : s.vm.findClass "ScholarsPress" = some m.cls := findClass_of_methodNamed B.named
  have hlocks := B.notSynchronized
  subst hsz
  have hD := hD0.self (sz := s.heap.size)
  generalize hAe : va_A [(x, .inr (0, [.ref tp, .int 0, .int ((-1)), .ref sg, .null, .null, .ref st, .null, .ref ft, .null, .ref hy, .null, .null, .int 0, .null, .null, .null, .null, .null, .null, .int 0])), (tp, .inl (cB, 16384, .inl f))] s.heap.size = A at hD ⊢
  have hA : ∀ q : Nat, s.heap.size ≤ q → A q := fun q h => by rw [← hAe]; exact Or.inr h
  have hS : va_S A s.heap s.heap [] := va_S.rf
  have hP : va_P (dC, dI) classes [(x, .inr (0, [.ref tp, .int 0, .int ((-1)), .ref sg, .null, .null, .ref st, .null, .ref ft, .null, .ref hy, .null, .null, .int 0, .null, .null, .null, .null, .null, .null, .int 0])), (tp, .inl (cB, 16384, .inl f))] s.heap := hP
  have hl := lv_entry ([.ref x, .int a1, .int a2, .int a3, .int a4, .int a5]) (n := 6) (Nat.le_of_ble_eq_true rfl)
  rw [lg_entry_eq]
  generalize (lg_sl ([.ref x, .int a1, .int a2, .int a3, .int a4, .int a5]) ++ List.replicate (6 - (lg_sl ([.ref x, .int a1, .int a2, .int a3, .int a4, .int a5])).length) Slot.unset).toArray = ls at hl ⊢
  have hl : lv_has ls 6 [(0, .ref x), (1, .int a1), (2, .int a2), (3, .int a3), (4, .int a4), (5, .int a5)] := hl
  refine lv_aload_n hx hb d_SP_feed_0 rfl (lv_at hl 0 rfl) ?_
  refine va_get (D := (dC, dI)) (ci := 0) (v := .int 0) (C := "ScholarsPress") (T := F_SP) (N := 21) hx hb hts in_SP hown hK hP 0 rfl rfl 1 (by decide) (hts (.fieldLink "ScholarsPress" 45 "ScholarsPress" "tapeLength" "I") k_501) (fun _ h9 => h9) rfl d_SP_feed_1 ?_
  refine lv_bipush (v := 20) hx hb d_SP_feed_4 (by decide) ?_
  refine lv_iadd hx hb d_SP_feed_6 ?_
  refine lv_sipush (v := 16384) hx hb d_SP_feed_7 (by decide) ?_
  refine lv_icmp_le (tgt := 21) hx hb d_SP_feed_10 (by decide) (fun c_1 => ?_) (fun c_1 => ?_)
  · have hP : va_P (dC, dI) classes [(x, .inr (0, [.ref tp, .int (nI 0), .int ((-1)), .ref sg, .null, .null, .ref st, .null, .ref ft, .null, .ref hy, .null, .null, .int 0, .null, .null, .null, .null, .null, .null, .int 0])), (tp, .inl (cB, 16384, .inl f))] s.heap := hP
    have hD : va_D A [(x, .inr (0, [.ref tp, .int (nI 0), .int ((-1)), .ref sg, .null, .null, .ref st, .null, .ref ft, .null, .ref hy, .null, .null, .int 0, .null, .null, .null, .null, .null, .null, .int 0])), (tp, .inl (cB, 16384, .inl f))] := hD
    refine lv_aload_n hx hb d_SP_feed_21 rfl (lv_at hl 0 rfl) ?_
    refine lv_iload_n hx hb d_SP_feed_22 rfl (lv_at hl 1 rfl) ?_
    refine vi_v (wc := [(x, .inr (0, [.ref tp, .int (nI 0), .int ((-1)), .ref sg, .null, .null, .ref st, .null, .ref ft, .null, .ref hy, .null, .null, .int 0, .null, .null, .null, .null, .null, .null, .int 0])), (tp, .inl (cB, 16384, .inl f))]) (wr := []) (va_runV (As := [.int a1]) (rest := []) ⟨hx, hb, hml, hown, hts⟩ (c_SP_feedInt l dC dI x tp sg st ft hy cB f 0 a1 s.heap.size (by decide)) (cwV 1 hts (tt_V k_646 k_648 k_1 k_240 kw_SP_feedInt) rfl rfl rfl (by decide +kernel) ⟨Nat.le_of_ble_eq_true rfl, Nat.le_of_ble_eq_true rfl⟩) ⟨pr_blind, va_recv hK hP (ci := 0) (q0 := 0) rfl rfl, pr_pre hb0 (hP.sub [0, 1] rfl) (hK.sub [0] rfl) (hD.sub [0, 1] (by decide) rfl)⟩ rfl rfl hl.1 rfl (lv_room (Nat.le_of_ble_eq_true rfl)) d_SP_feed_23 ⟨Nat.le_of_ble_eq_true rfl, Nat.le_of_ble_eq_true rfl⟩) hP hD hK hS hA [0, 1] [] rfl rfl (by decide) (by decide) (fun u H locs hw hP hK hD hS => ?_)
    obtain ⟨u0, rfl⟩ : ∃ z, z = u := ⟨_, rfl⟩
    have hP : va_P (dC, dI) classes [(x, .inr (0, [.ref tp, .int (nI 4), .int ((-1)), .ref sg, .null, .null, .ref st, .null, .ref ft, .null, .ref hy, .null, .null, .int 0, .null, .null, .null, .null, .null, .null, .int 0])), (tp, .inl (cB, 16384, .inl u0))] H := hP
    have hD : va_D A [(x, .inr (0, [.ref tp, .int (nI 4), .int ((-1)), .ref sg, .null, .null, .ref st, .null, .ref ft, .null, .ref hy, .null, .null, .int 0, .null, .null, .null, .null, .null, .null, .int 0])), (tp, .inl (cB, 16384, .inl u0))] := hD
    have hK : va_K (dC, dI) classes [(cB, .byte)] s := hK.sub [0] rfl
    refine lv_aload_n hx hb d_SP_feed_26 rfl (lv_at hl 0 rfl) ?_
    refine lv_iload_n hx hb d_SP_feed_27 rfl (lv_at hl 2 rfl) ?_
    refine vi_v (wc := [(x, .inr (0, [.ref tp, .int (nI 4), .int ((-1)), .ref sg, .null, .null, .ref st, .null, .ref ft, .null, .ref hy, .null, .null, .int 0, .null, .null, .null, .null, .null, .null, .int 0])), (tp, .inl (cB, 16384, .inl u0))]) (wr := []) (va_runV (As := [.int a2]) (rest := []) ⟨hx, hb, hml, hown, hts⟩ (c_SP_feedInt l dC dI x tp sg st ft hy cB u0 4 a2 H.size (by decide)) (cwV 1 hts (tt_V k_646 k_648 k_1 k_240 kw_SP_feedInt) rfl rfl rfl (by decide +kernel) ⟨Nat.le_of_ble_eq_true rfl, Nat.le_of_ble_eq_true rfl⟩) ⟨pr_blind, va_recv hK hP (ci := 0) (q0 := 0) rfl rfl, pr_pre hb0 (hP.sub [0, 1] rfl) (hK.sub [0] rfl) (hD.sub [0, 1] (by decide) rfl)⟩ rfl rfl hl.1 rfl (lv_room (Nat.le_of_ble_eq_true rfl)) d_SP_feed_28 ⟨Nat.le_of_ble_eq_true rfl, Nat.le_of_ble_eq_true rfl⟩) hP hD hK hS hA [0, 1] [] rfl rfl (by decide) (by decide) (fun u H locs hw hP hK hD hS => ?_)
    obtain ⟨u1, rfl⟩ : ∃ z, z = u := ⟨_, rfl⟩
    have hP : va_P (dC, dI) classes [(x, .inr (0, [.ref tp, .int (nI 8), .int ((-1)), .ref sg, .null, .null, .ref st, .null, .ref ft, .null, .ref hy, .null, .null, .int 0, .null, .null, .null, .null, .null, .null, .int 0])), (tp, .inl (cB, 16384, .inl u1))] H := hP
    have hD : va_D A [(x, .inr (0, [.ref tp, .int (nI 8), .int ((-1)), .ref sg, .null, .null, .ref st, .null, .ref ft, .null, .ref hy, .null, .null, .int 0, .null, .null, .null, .null, .null, .null, .int 0])), (tp, .inl (cB, 16384, .inl u1))] := hD
    have hK : va_K (dC, dI) classes [(cB, .byte)] s := hK.sub [0] rfl
    refine lv_aload_n hx hb d_SP_feed_31 rfl (lv_at hl 0 rfl) ?_
    refine lv_iload_n hx hb d_SP_feed_32 rfl (lv_at hl 3 rfl) ?_
    refine vi_v (wc := [(x, .inr (0, [.ref tp, .int (nI 8), .int ((-1)), .ref sg, .null, .null, .ref st, .null, .ref ft, .null, .ref hy, .null, .null, .int 0, .null, .null, .null, .null, .null, .null, .int 0])), (tp, .inl (cB, 16384, .inl u1))]) (wr := []) (va_runV (As := [.int a3]) (rest := []) ⟨hx, hb, hml, hown, hts⟩ (c_SP_feedInt l dC dI x tp sg st ft hy cB u1 8 a3 H.size (by decide)) (cwV 1 hts (tt_V k_646 k_648 k_1 k_240 kw_SP_feedInt) rfl rfl rfl (by decide +kernel) ⟨Nat.le_of_ble_eq_true rfl, Nat.le_of_ble_eq_true rfl⟩) ⟨pr_blind, va_recv hK hP (ci := 0) (q0 := 0) rfl rfl, pr_pre hb0 (hP.sub [0, 1] rfl) (hK.sub [0] rfl) (hD.sub [0, 1] (by decide) rfl)⟩ rfl rfl hl.1 rfl (lv_room (Nat.le_of_ble_eq_true rfl)) d_SP_feed_33 ⟨Nat.le_of_ble_eq_true rfl, Nat.le_of_ble_eq_true rfl⟩) hP hD hK hS hA [0, 1] [] rfl rfl (by decide) (by decide) (fun u H locs hw hP hK hD hS => ?_)
    obtain ⟨u2, rfl⟩ : ∃ z, z = u := ⟨_, rfl⟩
    have hP : va_P (dC, dI) classes [(x, .inr (0, [.ref tp, .int (nI 12), .int ((-1)), .ref sg, .null, .null, .ref st, .null, .ref ft, .null, .ref hy, .null, .null, .int 0, .null, .null, .null, .null, .null, .null, .int 0])), (tp, .inl (cB, 16384, .inl u2))] H := hP
    have hD : va_D A [(x, .inr (0, [.ref tp, .int (nI 12), .int ((-1)), .ref sg, .null, .null, .ref st, .null, .ref ft, .null, .ref hy, .null, .null, .int 0, .null, .null, .null, .null, .null, .null, .int 0])), (tp, .inl (cB, 16384, .inl u2))] := hD
    have hK : va_K (dC, dI) classes [(cB, .byte)] s := hK.sub [0] rfl
    refine lv_aload_n hx hb d_SP_feed_36 rfl (lv_at hl 0 rfl) ?_
    refine lv_iload hx hb d_SP_feed_37 (lv_at hl 4 rfl) ?_
    refine vi_v (wc := [(x, .inr (0, [.ref tp, .int (nI 12), .int ((-1)), .ref sg, .null, .null, .ref st, .null, .ref ft, .null, .ref hy, .null, .null, .int 0, .null, .null, .null, .null, .null, .null, .int 0])), (tp, .inl (cB, 16384, .inl u2))]) (wr := []) (va_runV (As := [.int a4]) (rest := []) ⟨hx, hb, hml, hown, hts⟩ (c_SP_feedInt l dC dI x tp sg st ft hy cB u2 12 a4 H.size (by decide)) (cwV 1 hts (tt_V k_646 k_648 k_1 k_240 kw_SP_feedInt) rfl rfl rfl (by decide +kernel) ⟨Nat.le_of_ble_eq_true rfl, Nat.le_of_ble_eq_true rfl⟩) ⟨pr_blind, va_recv hK hP (ci := 0) (q0 := 0) rfl rfl, pr_pre hb0 (hP.sub [0, 1] rfl) (hK.sub [0] rfl) (hD.sub [0, 1] (by decide) rfl)⟩ rfl rfl hl.1 rfl (lv_room (Nat.le_of_ble_eq_true rfl)) d_SP_feed_39 ⟨Nat.le_of_ble_eq_true rfl, Nat.le_of_ble_eq_true rfl⟩) hP hD hK hS hA [0, 1] [] rfl rfl (by decide) (by decide) (fun u H locs hw hP hK hD hS => ?_)
    obtain ⟨u3, rfl⟩ : ∃ z, z = u := ⟨_, rfl⟩
    have hP : va_P (dC, dI) classes [(x, .inr (0, [.ref tp, .int (nI 16), .int ((-1)), .ref sg, .null, .null, .ref st, .null, .ref ft, .null, .ref hy, .null, .null, .int 0, .null, .null, .null, .null, .null, .null, .int 0])), (tp, .inl (cB, 16384, .inl u3))] H := hP
    have hD : va_D A [(x, .inr (0, [.ref tp, .int (nI 16), .int ((-1)), .ref sg, .null, .null, .ref st, .null, .ref ft, .null, .ref hy, .null, .null, .int 0, .null, .null, .null, .null, .null, .null, .int 0])), (tp, .inl (cB, 16384, .inl u3))] := hD
    have hK : va_K (dC, dI) classes [(cB, .byte)] s := hK.sub [0] rfl
    refine lv_aload_n hx hb d_SP_feed_42 rfl (lv_at hl 0 rfl) ?_
    refine lv_iload hx hb d_SP_feed_43 (lv_at hl 5 rfl) ?_
    refine vi_v (wc := [(x, .inr (0, [.ref tp, .int (nI 16), .int ((-1)), .ref sg, .null, .null, .ref st, .null, .ref ft, .null, .ref hy, .null, .null, .int 0, .null, .null, .null, .null, .null, .null, .int 0])), (tp, .inl (cB, 16384, .inl u3))]) (wr := []) (va_runV (As := [.int a5]) (rest := []) ⟨hx, hb, hml, hown, hts⟩ (c_SP_feedInt l dC dI x tp sg st ft hy cB u3 16 a5 H.size (by decide)) (cwV 1 hts (tt_V k_646 k_648 k_1 k_240 kw_SP_feedInt) rfl rfl rfl (by decide +kernel) ⟨Nat.le_of_ble_eq_true rfl, Nat.le_of_ble_eq_true rfl⟩) ⟨pr_blind, va_recv hK hP (ci := 0) (q0 := 0) rfl rfl, pr_pre hb0 (hP.sub [0, 1] rfl) (hK.sub [0] rfl) (hD.sub [0, 1] (by decide) rfl)⟩ rfl rfl hl.1 rfl (lv_room (Nat.le_of_ble_eq_true rfl)) d_SP_feed_45 ⟨Nat.le_of_ble_eq_true rfl, Nat.le_of_ble_eq_true rfl⟩) hP hD hK hS hA [0, 1] [] rfl rfl (by decide) (by decide) (fun u H locs hw hP hK hD hS => ?_)
    obtain ⟨u4, rfl⟩ : ∃ z, z = u := ⟨_, rfl⟩
    have hP : va_P (dC, dI) classes [(x, .inr (0, [.ref tp, .int (nI 20), .int ((-1)), .ref sg, .null, .null, .ref st, .null, .ref ft, .null, .ref hy, .null, .null, .int 0, .null, .null, .null, .null, .null, .null, .int 0])), (tp, .inl (cB, 16384, .inl u4))] H := hP
    have hD : va_D A [(x, .inr (0, [.ref tp, .int (nI 20), .int ((-1)), .ref sg, .null, .null, .ref st, .null, .ref ft, .null, .ref hy, .null, .null, .int 0, .null, .null, .null, .null, .null, .null, .int 0])), (tp, .inl (cB, 16384, .inl u4))] := hD
    have hK : va_K (dC, dI) classes [(cB, .byte)] s := hK.sub [0] rfl
    refine lv_aload_n hx hb d_SP_feed_48 rfl (lv_at hl 0 rfl) ?_
    refine va_get (D := (dC, dI)) (ci := 0) (v := .int (nI 20)) (C := "ScholarsPress") (T := F_SP) (N := 21) hx hb hts in_SP hown hK hP 0 rfl rfl 1 (by decide) (hts (.fieldLink "ScholarsPress" 45 "ScholarsPress" "tapeLength" "I") k_501) (fun _ h9 => h9) rfl d_SP_feed_49 ?_
    refine W.widen (k := 1) (n := 6) (by decide) (by decide) ?_
    exact te_of (W.iret (v := nI 20) hx hb hr (fun t ht hW => Or.inl ⟨_, rfl, ⟨nI 20, (), rfl, rfl, trivial⟩, hS.F ht⟩) hS.2.2 d_SP_feed_52)
  · exact absurd c_1 (by decide)
set_option maxHeartbeats 4000000 in
set_option maxRecDepth 100000 in
/-- feed: 20 bytes on the empty TAPE -/
theorem c_SM_feed (l : Launch) (dC : Nat → ClassId) (dI : Nat → Nat → Nat) (mo so : Nat) (mr sr : Nat → Nat) (th : Int32) (tp : Nat) (cB : ClassId) (f : Nat → Int32) (a1 a2 a3 a4 a5 : Int32) (sz : Nat) : Met l y_SM_feed [w_SM_feed] ({ frames := 1, cells := 0, slots := 0, locals := 60 }) (va_Pc [.ref mo, .int a1, .int a2, .int a3, .int a4, .int a5] (pr sz (dC, dI) [(mo, .inr (6, [.int th, .int ((-1)), .ref tp, .int 0, .ref (mr 1), .ref (mr 2), .ref (mr 3), .ref (mr 4), .ref (mr 5), .ref (mr 6), .ref so, .ref (mr 7), .ref (mr 8), .ref (mr 9), .int 0, .ref (mr 10), .ref (mr 11), .int 0, .ref (mr 12), .int 0, .ref (mr 13), .int 0, .ref (mr 14)])), (tp, .inl (cB, 16384, .inl f))] [(cB, .byte)])) (va_Qi (fun (r : Int32) (u : Nat → Int32) => r = nI 20) (bw (dC, dI) (va_A [(mo, .inr (6, [.int th, .int ((-1)), .ref tp, .int 0, .ref (mr 1), .ref (mr 2), .ref (mr 3), .ref (mr 4), .ref (mr 5), .ref (mr 6), .ref so, .ref (mr 7), .ref (mr 8), .ref (mr 9), .int 0, .ref (mr 10), .ref (mr 11), .int 0, .ref (mr 12), .int 0, .ref (mr 13), .int 0, .ref (mr 14)])), (tp, .inl (cB, 16384, .inl f))] sz) (fun u : Nat → Int32 => [(mo, .inr (6, [.int 0, .int ((-1)), .ref tp, .int (nI 20), .ref (mr 1), .ref (mr 2), .ref (mr 3), .ref (mr 4), .ref (mr 5), .ref (mr 6), .ref so, .ref (mr 7), .ref (mr 8), .ref (mr 9), .int 0, .ref (mr 10), .ref (mr 11), .int 0, .ref (mr 12), .int 0, .ref (mr 13), .int 0, .ref (mr 14)])), (tp, .inl (cB, 16384, .inl u))]) (fun u : Nat → Int32 => [(cB, .byte)])) (va_A [(mo, .inr (6, [.int th, .int ((-1)), .ref tp, .int 0, .ref (mr 1), .ref (mr 2), .ref (mr 3), .ref (mr 4), .ref (mr 5), .ref (mr 6), .ref so, .ref (mr 7), .ref (mr 8), .ref (mr 9), .int 0, .ref (mr 10), .ref (mr 11), .int 0, .ref (mr 12), .int 0, .ref (mr 13), .int 0, .ref (mr 14)])), (tp, .inl (cB, 16384, .inl f))] sz)) 0 0 (va_A [(mo, .inr (6, [.int th, .int ((-1)), .ref tp, .int 0, .ref (mr 1), .ref (mr 2), .ref (mr 3), .ref (mr 4), .ref (mr 5), .ref (mr 6), .ref so, .ref (mr 7), .ref (mr 8), .ref (mr 9), .int 0, .ref (mr 10), .ref (mr 11), .int 0, .ref (mr 12), .int 0, .ref (mr 13), .int 0, .ref (mr 14)])), (tp, .inl (cB, 16384, .inl f))] sz) := by
  refine Met.ofW (cc := b_SM_feed) (maxL := 6) (ret := (some .int)) (by decide) rfl ?_
  intro p e s m args below meth c s₁ B hml hv
  obtain ⟨rfl, hsz, hb0, hP, hK, hD0⟩ := hv
  have hx := B.exec
  have hb := B.bytes
  have hr := B.returns
  have hts : ∀ wq ∈ tt, wq.before ([.ref mo, .int a1, .int a2, .int a3, .int a4, .int a5] : List Value).toArray s = true := hb0.hts
  have hown : s.vm.findClass "ScholarsPressModel" = some m.cls := findClass_of_methodNamed B.named
  have hlocks := B.notSynchronized
  subst hsz
  have hD := hD0.self (sz := s.heap.size)
  generalize hAe : va_A [(mo, .inr (6, [.int th, .int ((-1)), .ref tp, .int 0, .ref (mr 1), .ref (mr 2), .ref (mr 3), .ref (mr 4), .ref (mr 5), .ref (mr 6), .ref so, .ref (mr 7), .ref (mr 8), .ref (mr 9), .int 0, .ref (mr 10), .ref (mr 11), .int 0, .ref (mr 12), .int 0, .ref (mr 13), .int 0, .ref (mr 14)])), (tp, .inl (cB, 16384, .inl f))] s.heap.size = A at hD ⊢
  have hA : ∀ q : Nat, s.heap.size ≤ q → A q := fun q h => by rw [← hAe]; exact Or.inr h
  have hS : va_S A s.heap s.heap [] := va_S.rf
  have hP : va_P (dC, dI) classes [(mo, .inr (6, [.int th, .int ((-1)), .ref tp, .int 0, .ref (mr 1), .ref (mr 2), .ref (mr 3), .ref (mr 4), .ref (mr 5), .ref (mr 6), .ref so, .ref (mr 7), .ref (mr 8), .ref (mr 9), .int 0, .ref (mr 10), .ref (mr 11), .int 0, .ref (mr 12), .int 0, .ref (mr 13), .int 0, .ref (mr 14)])), (tp, .inl (cB, 16384, .inl f))] s.heap := hP
  have hl := lv_entry ([.ref mo, .int a1, .int a2, .int a3, .int a4, .int a5]) (n := 6) (Nat.le_of_ble_eq_true rfl)
  rw [lg_entry_eq]
  generalize (lg_sl ([.ref mo, .int a1, .int a2, .int a3, .int a4, .int a5]) ++ List.replicate (6 - (lg_sl ([.ref mo, .int a1, .int a2, .int a3, .int a4, .int a5])).length) Slot.unset).toArray = ls at hl ⊢
  have hl : lv_has ls 6 [(0, .ref mo), (1, .int a1), (2, .int a2), (3, .int a3), (4, .int a4), (5, .int a5)] := hl
  refine lv_aload_n hx hb d_SM_feed_0 rfl (lv_at hl 0 rfl) ?_
  refine va_get (D := (dC, dI)) (ci := 6) (v := .int 0) (C := "ScholarsPressModel") (T := F_SM) (N := 23) hx hb hts in_SM hown hK hP 0 rfl rfl 3 (by decide) (hts (.fieldLink "ScholarsPressModel" 104 "ScholarsPressModel" "taped" "I") k_3683) (fun _ h9 => h9) rfl d_SM_feed_1 ?_
  refine lv_bipush (v := 20) hx hb d_SM_feed_4 (by decide) ?_
  refine lv_iadd hx hb d_SM_feed_6 ?_
  refine lv_sipush (v := 16384) hx hb d_SM_feed_7 (by decide) ?_
  refine lv_icmp_le (tgt := 19) hx hb d_SM_feed_10 (by decide) (fun c_1 => ?_) (fun c_1 => ?_)
  · have hP : va_P (dC, dI) classes [(mo, .inr (6, [.int th, .int ((-1)), .ref tp, .int (nI 0), .ref (mr 1), .ref (mr 2), .ref (mr 3), .ref (mr 4), .ref (mr 5), .ref (mr 6), .ref so, .ref (mr 7), .ref (mr 8), .ref (mr 9), .int 0, .ref (mr 10), .ref (mr 11), .int 0, .ref (mr 12), .int 0, .ref (mr 13), .int 0, .ref (mr 14)])), (tp, .inl (cB, 16384, .inl f))] s.heap := hP
    have hD : va_D A [(mo, .inr (6, [.int th, .int ((-1)), .ref tp, .int (nI 0), .ref (mr 1), .ref (mr 2), .ref (mr 3), .ref (mr 4), .ref (mr 5), .ref (mr 6), .ref so, .ref (mr 7), .ref (mr 8), .ref (mr 9), .int 0, .ref (mr 10), .ref (mr 11), .int 0, .ref (mr 12), .int 0, .ref (mr 13), .int 0, .ref (mr 14)])), (tp, .inl (cB, 16384, .inl f))] := hD
    refine lv_aload_n hx hb d_SM_feed_19 rfl (lv_at hl 0 rfl) ?_
    refine lv_iconst (v := 0) hx hb d_SM_feed_20 (by decide) ?_
    refine va_put (D := (dC, dI)) (ci := 6) (v := .int 0) (ty := .int) (C := "ScholarsPressModel") (T := F_SM) (N := 23) hx hb hts in_SM t_SM t_SM_ok n_SM hown hK hP hD hS 0 rfl rfl 0 (by decide) (hts (.fieldLink "ScholarsPressModel" 87 "ScholarsPressModel" "thrown" "I") k_3680) (fun _ h9 => h9) rfl (by decide +kernel) rfl rfl (Nat.le_of_ble_eq_true rfl) d_SM_feed_21 (fun H locs hP hD hS => ?_)
    have hP : va_P (dC, dI) classes [(mo, .inr (6, [.int 0, .int ((-1)), .ref tp, .int (nI 0), .ref (mr 1), .ref (mr 2), .ref (mr 3), .ref (mr 4), .ref (mr 5), .ref (mr 6), .ref so, .ref (mr 7), .ref (mr 8), .ref (mr 9), .int 0, .ref (mr 10), .ref (mr 11), .int 0, .ref (mr 12), .int 0, .ref (mr 13), .int 0, .ref (mr 14)])), (tp, .inl (cB, 16384, .inl f))] H := hP
    have hD : va_D A [(mo, .inr (6, [.int 0, .int ((-1)), .ref tp, .int (nI 0), .ref (mr 1), .ref (mr 2), .ref (mr 3), .ref (mr 4), .ref (mr 5), .ref (mr 6), .ref so, .ref (mr 7), .ref (mr 8), .ref (mr 9), .int 0, .ref (mr 10), .ref (mr 11), .int 0, .ref (mr 12), .int 0, .ref (mr 13), .int 0, .ref (mr 14)])), (tp, .inl (cB, 16384, .inl f))] := hD
    refine lv_aload_n hx hb d_SM_feed_24 rfl (lv_at hl 0 rfl) ?_
    refine lv_iload_n hx hb d_SM_feed_25 rfl (lv_at hl 1 rfl) ?_
    refine vi_v (wc := [(mo, .inr (6, [.int 0, .int ((-1)), .ref tp, .int (nI 0), .ref (mr 1), .ref (mr 2), .ref (mr 3), .ref (mr 4), .ref (mr 5), .ref (mr 6), .ref so, .ref (mr 7), .ref (mr 8), .ref (mr 9), .int 0, .ref (mr 10), .ref (mr 11), .int 0, .ref (mr 12), .int 0, .ref (mr 13), .int 0, .ref (mr 14)])), (tp, .inl (cB, 16384, .inl f))]) (wr := []) (va_runV (As := [.int a1]) (rest := []) ⟨hx, hb, hml, hown, hts⟩ (c_SM_four l dC dI mo so mr sr 0 tp cB f 0 a1 H.size (by decide)) (cwV 1 hts (tt_V k_3762 k_3764 k_123 k_247 kw_SM_four) rfl rfl rfl (by decide +kernel) ⟨Nat.le_of_ble_eq_true rfl, Nat.le_of_ble_eq_true rfl⟩) ⟨pr_blind, va_recv hK hP (ci := 6) (q0 := 0) rfl rfl, pr_pre hb0 (hP.sub [0, 1] rfl) (hK.sub [0] rfl) (hD.sub [0, 1] (by decide) rfl)⟩ rfl rfl hl.1 rfl (lv_room (Nat.le_of_ble_eq_true rfl)) d_SM_feed_26 ⟨Nat.le_of_ble_eq_true rfl, Nat.le_of_ble_eq_true rfl⟩) hP hD hK hS hA [0, 1] [] rfl rfl (by decide) (by decide) (fun u H locs hw hP hK hD hS => ?_)
    obtain ⟨u0, rfl⟩ : ∃ z, z = u := ⟨_, rfl⟩
    have hP : va_P (dC, dI) classes [(mo, .inr (6, [.int 0, .int ((-1)), .ref tp, .int (nI 4), .ref (mr 1), .ref (mr 2), .ref (mr 3), .ref (mr 4), .ref (mr 5), .ref (mr 6), .ref so, .ref (mr 7), .ref (mr 8), .ref (mr 9), .int 0, .ref (mr 10), .ref (mr 11), .int 0, .ref (mr 12), .int 0, .ref (mr 13), .int 0, .ref (mr 14)])), (tp, .inl (cB, 16384, .inl u0))] H := hP
    have hD : va_D A [(mo, .inr (6, [.int 0, .int ((-1)), .ref tp, .int (nI 4), .ref (mr 1), .ref (mr 2), .ref (mr 3), .ref (mr 4), .ref (mr 5), .ref (mr 6), .ref so, .ref (mr 7), .ref (mr 8), .ref (mr 9), .int 0, .ref (mr 10), .ref (mr 11), .int 0, .ref (mr 12), .int 0, .ref (mr 13), .int 0, .ref (mr 14)])), (tp, .inl (cB, 16384, .inl u0))] := hD
    have hK : va_K (dC, dI) classes [(cB, .byte)] s := hK.sub [0] rfl
    refine lv_aload_n hx hb d_SM_feed_29 rfl (lv_at hl 0 rfl) ?_
    refine lv_iload_n hx hb d_SM_feed_30 rfl (lv_at hl 2 rfl) ?_
    refine vi_v (wc := [(mo, .inr (6, [.int 0, .int ((-1)), .ref tp, .int (nI 4), .ref (mr 1), .ref (mr 2), .ref (mr 3), .ref (mr 4), .ref (mr 5), .ref (mr 6), .ref so, .ref (mr 7), .ref (mr 8), .ref (mr 9), .int 0, .ref (mr 10), .ref (mr 11), .int 0, .ref (mr 12), .int 0, .ref (mr 13), .int 0, .ref (mr 14)])), (tp, .inl (cB, 16384, .inl u0))]) (wr := []) (va_runV (As := [.int a2]) (rest := []) ⟨hx, hb, hml, hown, hts⟩ (c_SM_four l dC dI mo so mr sr 0 tp cB u0 4 a2 H.size (by decide)) (cwV 1 hts (tt_V k_3762 k_3764 k_123 k_247 kw_SM_four) rfl rfl rfl (by decide +kernel) ⟨Nat.le_of_ble_eq_true rfl, Nat.le_of_ble_eq_true rfl⟩) ⟨pr_blind, va_recv hK hP (ci := 6) (q0 := 0) rfl rfl, pr_pre hb0 (hP.sub [0, 1] rfl) (hK.sub [0] rfl) (hD.sub [0, 1] (by decide) rfl)⟩ rfl rfl hl.1 rfl (lv_room (Nat.le_of_ble_eq_true rfl)) d_SM_feed_31 ⟨Nat.le_of_ble_eq_true rfl, Nat.le_of_ble_eq_true rfl⟩) hP hD hK hS hA [0, 1] [] rfl rfl (by decide) (by decide) (fun u H locs hw hP hK hD hS => ?_)
    obtain ⟨u1, rfl⟩ : ∃ z, z = u := ⟨_, rfl⟩
    have hP : va_P (dC, dI) classes [(mo, .inr (6, [.int 0, .int ((-1)), .ref tp, .int (nI 8), .ref (mr 1), .ref (mr 2), .ref (mr 3), .ref (mr 4), .ref (mr 5), .ref (mr 6), .ref so, .ref (mr 7), .ref (mr 8), .ref (mr 9), .int 0, .ref (mr 10), .ref (mr 11), .int 0, .ref (mr 12), .int 0, .ref (mr 13), .int 0, .ref (mr 14)])), (tp, .inl (cB, 16384, .inl u1))] H := hP
    have hD : va_D A [(mo, .inr (6, [.int 0, .int ((-1)), .ref tp, .int (nI 8), .ref (mr 1), .ref (mr 2), .ref (mr 3), .ref (mr 4), .ref (mr 5), .ref (mr 6), .ref so, .ref (mr 7), .ref (mr 8), .ref (mr 9), .int 0, .ref (mr 10), .ref (mr 11), .int 0, .ref (mr 12), .int 0, .ref (mr 13), .int 0, .ref (mr 14)])), (tp, .inl (cB, 16384, .inl u1))] := hD
    have hK : va_K (dC, dI) classes [(cB, .byte)] s := hK.sub [0] rfl
    refine lv_aload_n hx hb d_SM_feed_34 rfl (lv_at hl 0 rfl) ?_
    refine lv_iload_n hx hb d_SM_feed_35 rfl (lv_at hl 3 rfl) ?_
    refine vi_v (wc := [(mo, .inr (6, [.int 0, .int ((-1)), .ref tp, .int (nI 8), .ref (mr 1), .ref (mr 2), .ref (mr 3), .ref (mr 4), .ref (mr 5), .ref (mr 6), .ref so, .ref (mr 7), .ref (mr 8), .ref (mr 9), .int 0, .ref (mr 10), .ref (mr 11), .int 0, .ref (mr 12), .int 0, .ref (mr 13), .int 0, .ref (mr 14)])), (tp, .inl (cB, 16384, .inl u1))]) (wr := []) (va_runV (As := [.int a3]) (rest := []) ⟨hx, hb, hml, hown, hts⟩ (c_SM_four l dC dI mo so mr sr 0 tp cB u1 8 a3 H.size (by decide)) (cwV 1 hts (tt_V k_3762 k_3764 k_123 k_247 kw_SM_four) rfl rfl rfl (by decide +kernel) ⟨Nat.le_of_ble_eq_true rfl, Nat.le_of_ble_eq_true rfl⟩) ⟨pr_blind, va_recv hK hP (ci := 6) (q0 := 0) rfl rfl, pr_pre hb0 (hP.sub [0, 1] rfl) (hK.sub [0] rfl) (hD.sub [0, 1] (by decide) rfl)⟩ rfl rfl hl.1 rfl (lv_room (Nat.le_of_ble_eq_true rfl)) d_SM_feed_36 ⟨Nat.le_of_ble_eq_true rfl, Nat.le_of_ble_eq_true rfl⟩) hP hD hK hS hA [0, 1] [] rfl rfl (by decide) (by decide) (fun u H locs hw hP hK hD hS => ?_)
    obtain ⟨u2, rfl⟩ : ∃ z, z = u := ⟨_, rfl⟩
    have hP : va_P (dC, dI) classes [(mo, .inr (6, [.int 0, .int ((-1)), .ref tp, .int (nI 12), .ref (mr 1), .ref (mr 2), .ref (mr 3), .ref (mr 4), .ref (mr 5), .ref (mr 6), .ref so, .ref (mr 7), .ref (mr 8), .ref (mr 9), .int 0, .ref (mr 10), .ref (mr 11), .int 0, .ref (mr 12), .int 0, .ref (mr 13), .int 0, .ref (mr 14)])), (tp, .inl (cB, 16384, .inl u2))] H := hP
    have hD : va_D A [(mo, .inr (6, [.int 0, .int ((-1)), .ref tp, .int (nI 12), .ref (mr 1), .ref (mr 2), .ref (mr 3), .ref (mr 4), .ref (mr 5), .ref (mr 6), .ref so, .ref (mr 7), .ref (mr 8), .ref (mr 9), .int 0, .ref (mr 10), .ref (mr 11), .int 0, .ref (mr 12), .int 0, .ref (mr 13), .int 0, .ref (mr 14)])), (tp, .inl (cB, 16384, .inl u2))] := hD
    have hK : va_K (dC, dI) classes [(cB, .byte)] s := hK.sub [0] rfl
    refine lv_aload_n hx hb d_SM_feed_39 rfl (lv_at hl 0 rfl) ?_
    refine lv_iload hx hb d_SM_feed_40 (lv_at hl 4 rfl) ?_
    refine vi_v (wc := [(mo, .inr (6, [.int 0, .int ((-1)), .ref tp, .int (nI 12), .ref (mr 1), .ref (mr 2), .ref (mr 3), .ref (mr 4), .ref (mr 5), .ref (mr 6), .ref so, .ref (mr 7), .ref (mr 8), .ref (mr 9), .int 0, .ref (mr 10), .ref (mr 11), .int 0, .ref (mr 12), .int 0, .ref (mr 13), .int 0, .ref (mr 14)])), (tp, .inl (cB, 16384, .inl u2))]) (wr := []) (va_runV (As := [.int a4]) (rest := []) ⟨hx, hb, hml, hown, hts⟩ (c_SM_four l dC dI mo so mr sr 0 tp cB u2 12 a4 H.size (by decide)) (cwV 1 hts (tt_V k_3762 k_3764 k_123 k_247 kw_SM_four) rfl rfl rfl (by decide +kernel) ⟨Nat.le_of_ble_eq_true rfl, Nat.le_of_ble_eq_true rfl⟩) ⟨pr_blind, va_recv hK hP (ci := 6) (q0 := 0) rfl rfl, pr_pre hb0 (hP.sub [0, 1] rfl) (hK.sub [0] rfl) (hD.sub [0, 1] (by decide) rfl)⟩ rfl rfl hl.1 rfl (lv_room (Nat.le_of_ble_eq_true rfl)) d_SM_feed_42 ⟨Nat.le_of_ble_eq_true rfl, Nat.le_of_ble_eq_true rfl⟩) hP hD hK hS hA [0, 1] [] rfl rfl (by decide) (by decide) (fun u H locs hw hP hK hD hS => ?_)
    obtain ⟨u3, rfl⟩ : ∃ z, z = u := ⟨_, rfl⟩
    have hP : va_P (dC, dI) classes [(mo, .inr (6, [.int 0, .int ((-1)), .ref tp, .int (nI 16), .ref (mr 1), .ref (mr 2), .ref (mr 3), .ref (mr 4), .ref (mr 5), .ref (mr 6), .ref so, .ref (mr 7), .ref (mr 8), .ref (mr 9), .int 0, .ref (mr 10), .ref (mr 11), .int 0, .ref (mr 12), .int 0, .ref (mr 13), .int 0, .ref (mr 14)])), (tp, .inl (cB, 16384, .inl u3))] H := hP
    have hD : va_D A [(mo, .inr (6, [.int 0, .int ((-1)), .ref tp, .int (nI 16), .ref (mr 1), .ref (mr 2), .ref (mr 3), .ref (mr 4), .ref (mr 5), .ref (mr 6), .ref so, .ref (mr 7), .ref (mr 8), .ref (mr 9), .int 0, .ref (mr 10), .ref (mr 11), .int 0, .ref (mr 12), .int 0, .ref (mr 13), .int 0, .ref (mr 14)])), (tp, .inl (cB, 16384, .inl u3))] := hD
    have hK : va_K (dC, dI) classes [(cB, .byte)] s := hK.sub [0] rfl
    refine lv_aload_n hx hb d_SM_feed_45 rfl (lv_at hl 0 rfl) ?_
    refine lv_iload hx hb d_SM_feed_46 (lv_at hl 5 rfl) ?_
    refine vi_v (wc := [(mo, .inr (6, [.int 0, .int ((-1)), .ref tp, .int (nI 16), .ref (mr 1), .ref (mr 2), .ref (mr 3), .ref (mr 4), .ref (mr 5), .ref (mr 6), .ref so, .ref (mr 7), .ref (mr 8), .ref (mr 9), .int 0, .ref (mr 10), .ref (mr 11), .int 0, .ref (mr 12), .int 0, .ref (mr 13), .int 0, .ref (mr 14)])), (tp, .inl (cB, 16384, .inl u3))]) (wr := []) (va_runV (As := [.int a5]) (rest := []) ⟨hx, hb, hml, hown, hts⟩ (c_SM_four l dC dI mo so mr sr 0 tp cB u3 16 a5 H.size (by decide)) (cwV 1 hts (tt_V k_3762 k_3764 k_123 k_247 kw_SM_four) rfl rfl rfl (by decide +kernel) ⟨Nat.le_of_ble_eq_true rfl, Nat.le_of_ble_eq_true rfl⟩) ⟨pr_blind, va_recv hK hP (ci := 6) (q0 := 0) rfl rfl, pr_pre hb0 (hP.sub [0, 1] rfl) (hK.sub [0] rfl) (hD.sub [0, 1] (by decide) rfl)⟩ rfl rfl hl.1 rfl (lv_room (Nat.le_of_ble_eq_true rfl)) d_SM_feed_48 ⟨Nat.le_of_ble_eq_true rfl, Nat.le_of_ble_eq_true rfl⟩) hP hD hK hS hA [0, 1] [] rfl rfl (by decide) (by decide) (fun u H locs hw hP hK hD hS => ?_)
    obtain ⟨u4, rfl⟩ : ∃ z, z = u := ⟨_, rfl⟩
    have hP : va_P (dC, dI) classes [(mo, .inr (6, [.int 0, .int ((-1)), .ref tp, .int (nI 20), .ref (mr 1), .ref (mr 2), .ref (mr 3), .ref (mr 4), .ref (mr 5), .ref (mr 6), .ref so, .ref (mr 7), .ref (mr 8), .ref (mr 9), .int 0, .ref (mr 10), .ref (mr 11), .int 0, .ref (mr 12), .int 0, .ref (mr 13), .int 0, .ref (mr 14)])), (tp, .inl (cB, 16384, .inl u4))] H := hP
    have hD : va_D A [(mo, .inr (6, [.int 0, .int ((-1)), .ref tp, .int (nI 20), .ref (mr 1), .ref (mr 2), .ref (mr 3), .ref (mr 4), .ref (mr 5), .ref (mr 6), .ref so, .ref (mr 7), .ref (mr 8), .ref (mr 9), .int 0, .ref (mr 10), .ref (mr 11), .int 0, .ref (mr 12), .int 0, .ref (mr 13), .int 0, .ref (mr 14)])), (tp, .inl (cB, 16384, .inl u4))] := hD
    have hK : va_K (dC, dI) classes [(cB, .byte)] s := hK.sub [0] rfl
    refine lv_aload_n hx hb d_SM_feed_51 rfl (lv_at hl 0 rfl) ?_
    refine va_get (D := (dC, dI)) (ci := 6) (v := .int (nI 20)) (C := "ScholarsPressModel") (T := F_SM) (N := 23) hx hb hts in_SM hown hK hP 0 rfl rfl 3 (by decide) (hts (.fieldLink "ScholarsPressModel" 104 "ScholarsPressModel" "taped" "I") k_3683) (fun _ h9 => h9) rfl d_SM_feed_52 ?_
    have hP9 := hP.sub (ws' := [(mo, .inr (6, [.int 0, .int ((-1)), .ref tp, .int (nI 20), .ref (mr 1), .ref (mr 2), .ref (mr 3), .ref (mr 4), .ref (mr 5), .ref (mr 6), .ref so, .ref (mr 7), .ref (mr 8), .ref (mr 9), .int 0, .ref (mr 10), .ref (mr 11), .int 0, .ref (mr 12), .int 0, .ref (mr 13), .int 0, .ref (mr 14)])), (tp, .inl (cB, 16384, .inl u4))]) [0, 1] rfl
    have hD9 := hD.sub (ws' := [(mo, .inr (6, [.int 0, .int ((-1)), .ref tp, .int (nI 20), .ref (mr 1), .ref (mr 2), .ref (mr 3), .ref (mr 4), .ref (mr 5), .ref (mr 6), .ref so, .ref (mr 7), .ref (mr 8), .ref (mr 9), .int 0, .ref (mr 10), .ref (mr 11), .int 0, .ref (mr 12), .int 0, .ref (mr 13), .int 0, .ref (mr 14)])), (tp, .inl (cB, 16384, .inl u4))]) [0, 1] (by decide) rfl
    have hK9 := hK.sub (tys' := [(cB, .byte)]) [0] rfl
    exact W.iret (v := nI 20) hx hb hr (fun t ht hW => ⟨⟨nI 20, u4, rfl, rfl, by rw [ht]; exact hP9, va_K.moved hW.alike hK9, hD9⟩, hS.F ht⟩) hS.2.2 d_SM_feed_55
  · exact absurd c_1 (by decide)
end
section
/-! CONSTRUCTORS: a new array laid into a field, in one row (the array itself is forgotten) -/
theorem va_P.left {D : va_G} {cl : List vw_C} {w1 w2 : va_W} {H : Heap} (h : va_P D cl (w1 ++ w2) H) : va_P D cl w1 H := fun k q hk => h k q (by rw [List.getElem?_append_left (List.getElem?_eq_some_iff.mp hk).1]; exact hk)
theorem va_D.left {A : Nat → Prop} {w1 w2 : va_W} (h : va_D A (w1 ++ w2)) : va_D A w1 := by
  have up : ∀ (k : Nat) (q : Nat × va_E), w1[k]? = some q → (w1 ++ w2)[k]? = some q := fun k q hk => by rw [List.getElem?_append_left (List.getElem?_eq_some_iff.mp hk).1]; exact hk
  exact ⟨fun i j p q hi hj e => h.1 i j p q (up i p hi) (up j q hj) e, fun k q hk => h.2 k q (up k q hk)⟩
section CA
variable {p : Program} {l : Launch} {e : Env} {R : Room} {s : State} {m : MethodId} {args : Array Value} {below : List Frame} {meth : Method} {c : Code} {H : Heap} {locs : List Loc} {cells slots : Nat} {Q : State → Prop} {A : Nat → Prop} {pc : Nat} {ls : Array Slot} {rest : List Value} {cc : ByteArray} {D : va_G} {ws : va_W} {tys : List (ClassId × FieldType)}
theorem ca_np (hexec : p.tables.exec = Jvm.exec) (hb : c.code = cc) {own ref C : String} {T : u_T} {N ci index k q0 h : Nat} {atype : ArrayType} {aty : FieldType} {n : Int32} {Nn : Nat} {fs : List Value} {a0 : vp_A} (hts : ∀ w ∈ tt, w.before args s = true) (hin : ∀ w ∈ u_ws C T N, w ∈ tt) (ty0 : Nat → FieldType) (hty : ∀ k, k < N → parseFieldDescriptor (T k).2.2.1 = some (ty0 k)) (hnm : ∀ a, a < N → ∀ b, b < N → a ≠ b → (T a).2.1 ≠ (T b).2.1) (hown : s.vm.findClass own = some m.cls)
    (harr : Cond.arrayClass aty ∈ tt) (haty : newarray.typeOf atype = aty) (hK : va_K D classes tys s) (hP : va_P D classes ws H) (hD : va_D A ws) (hS : va_S A s.heap H locs) (hA : ∀ q, s.heap.size ≤ q → A q) (he : ws[q0]? = some (h, .inr (ci, fs))) (hlen : fs.length = N) (hc : classes[ci]? = some (C, T, N)) (hk : k < N)
    (hlink : (Cond.fieldLink own index ref (T k).2.1 (T k).2.2.1).before args s = true) (hsame : ∀ x, s.fieldFound? (T k).1 (T k).2.1 (T k).2.2.1 = some x → s.fieldFound? ref (T k).2.1 (T k).2.2.1 = some x) (hfin : (T k).2.2.2 = true) (hin2 : meth.name = "<init>") (hdecl : (T k).1 = own) (hd : parseFieldDescriptor (T k).2.2.1 = some (.array aty))
    (ha : ∀ cA : ClassId, vp_cell cA a0 = arrV cA Nn (fun _ => defaultValue aty)) (hn : ¬ n < 0) (hN : n.toNatClampNeg = Nn) (hbytes : Nn * componentBytes aty ≤ 536870912) (hcells : cells + 1 ≤ R.cells) (hslots : slots + Nn ≤ R.slots) (hd1 : decode cc pc = .ok (.newarray atype, 2)) (hd2 : decode cc (pc + 2) = .ok (.putfield index, 3))
    (kk : ∀ (q : Nat) (H1 : Heap) (locs1 : List Loc), va_P D classes (ws.set q0 (h, .inr (ci, fs.set k (.ref q)))) H1 → va_D A (ws.set q0 (h, .inr (ci, fs.set k (.ref q)))) → va_S A s.heap H1 locs1 → W p l e R s m args below meth c H1 locs1 (cells + 1) (slots + Nn) Q (F0 m (pc + 5) ls rest)) : W p l e R s m args below meth c H locs cells slots Q (F0 m pc ls (.int n :: .ref h :: rest)) := by
  have hlt : q0 < ws.length := (List.getElem?_eq_some_iff.mp he).1
  refine va_newa hexec hb (atype := atype) (by rw [haty]; exact hts _ harr) haty hK hP hD hS hA ha hn hN hbytes hcells hslots hd1 (fun q cA H1 hK1 hP1 hD1 hS1 => ?_)
  refine va_putF (ci := ci) (v := .ref q) (ty := .array aty) (C := C) (T := T) (N := N) hexec hb hts hin ty0 hty hnm hown hK1 hP1 hD1 hS1 q0 (by rw [List.getElem?_append_left hlt]; exact he) hc k hk hlink hsame hfin hin2 hdecl hd rfl rfl (by rw [hlen]; exact hk) hd2 (fun H2 locs2 hP2 hD2 hS2 => ?_)
  rw [List.set_append_left _ _ hlt] at hP2 hD2
  exact kk q H2 locs2 hP2.left hD2.left hS2
theorem ca_npN (hexec : p.tables.exec = Jvm.exec) (hb : c.code = cc) {own ref C : String} {T : u_T} {N ci index k q0 h : Nat} {atype : ArrayType} {aty : FieldType} {n : Int32} {Nn : Nat} {fs : List Value} {a0 : vp_A} (hts : ∀ w ∈ tt, w.before args s = true) (hin : ∀ w ∈ u_ws C T N, w ∈ tt) (ty0 : Nat → FieldType) (hty : ∀ k, k < N → parseFieldDescriptor (T k).2.2.1 = some (ty0 k)) (hnm : ∀ a, a < N → ∀ b, b < N → a ≠ b → (T a).2.1 ≠ (T b).2.1) (hown : s.vm.findClass own = some m.cls)
    (harr : Cond.arrayClass aty ∈ tt) (haty : newarray.typeOf atype = aty) (hK : va_K D classes tys s) (hP : va_P D classes ws H) (hD : va_D A ws) (hS : va_S A s.heap H locs) (hA : ∀ q, s.heap.size ≤ q → A q) (he : ws[q0]? = some (h, .inr (ci, fs))) (hlen : fs.length = N) (hc : classes[ci]? = some (C, T, N)) (hk : k < N)
    (hlink : (Cond.fieldLink own index ref (T k).2.1 (T k).2.2.1).before args s = true) (hsame : ∀ x, s.fieldFound? (T k).1 (T k).2.1 (T k).2.2.1 = some x → s.fieldFound? ref (T k).2.1 (T k).2.2.1 = some x) (hfin : (T k).2.2.2 = false) (hd : parseFieldDescriptor (T k).2.2.1 = some (.array aty))
    (ha : ∀ cA : ClassId, vp_cell cA a0 = arrV cA Nn (fun _ => defaultValue aty)) (hn : ¬ n < 0) (hN : n.toNatClampNeg = Nn) (hbytes : Nn * componentBytes aty ≤ 536870912) (hcells : cells + 1 ≤ R.cells) (hslots : slots + Nn ≤ R.slots) (hd1 : decode cc pc = .ok (.newarray atype, 2)) (hd2 : decode cc (pc + 2) = .ok (.putfield index, 3))
    (kk : ∀ (q : Nat) (H1 : Heap) (locs1 : List Loc), va_P D classes (ws.set q0 (h, .inr (ci, fs.set k (.ref q)))) H1 → va_D A (ws.set q0 (h, .inr (ci, fs.set k (.ref q)))) → va_S A s.heap H1 locs1 → W p l e R s m args below meth c H1 locs1 (cells + 1) (slots + Nn) Q (F0 m (pc + 5) ls rest)) : W p l e R s m args below meth c H locs cells slots Q (F0 m pc ls (.int n :: .ref h :: rest)) := by
  have hlt : q0 < ws.length := (List.getElem?_eq_some_iff.mp he).1
  refine va_newa hexec hb (atype := atype) (by rw [haty]; exact hts _ harr) haty hK hP hD hS hA ha hn hN hbytes hcells hslots hd1 (fun q cA H1 hK1 hP1 hD1 hS1 => ?_)
  refine va_put (ci := ci) (v := .ref q) (ty := .array aty) (C := C) (T := T) (N := N) hexec hb hts hin ty0 hty hnm hown hK1 hP1 hD1 hS1 q0 (by rw [List.getElem?_append_left hlt]; exact he) hc k hk hlink hsame hfin hd rfl rfl (by rw [hlen]; exact hk) hd2 (fun H2 locs2 hP2 hD2 hS2 => ?_)
  rw [List.set_append_left _ _ hlt] at hP2 hD2
  exact kk q H2 locs2 hP2.left hD2.left hS2
end CA
end
