abbrev b_PSigns_behindBlanks : ByteArray := prog_7_method_7_code
abbrev y_PSigns_behindBlanks : MethodName := ⟨"ScholarsPress$Signs", "behindBlanks", "([BII)I"⟩
abbrev w_PSigns_behindBlanks : Cond := .code y_PSigns_behindBlanks b_PSigns_behindBlanks 4 (some .int)
theorem kw_PSigns_behindBlanks : w_PSigns_behindBlanks ∈ tt := tt_mem 695 (by decide +kernel) (by decide +kernel)
abbrev b_PSigns_next : ByteArray := prog_7_method_14_code
abbrev y_PSigns_next : MethodName := ⟨"ScholarsPress$Signs", "next", "()V"⟩
abbrev w_PSigns_next : Cond := .code y_PSigns_next b_PSigns_next 2 none
theorem kw_PSigns_next : w_PSigns_next ∈ tt := List.mem_filter.mpr ⟨List.mem_append_right _ (List.mem_append_right _ (List.mem_append_left _ (List.mem_of_getElem? (i := 213) rfl))), by decide +kernel⟩
abbrev b_PSigns_begin : ByteArray := prog_7_method_12_code
abbrev y_PSigns_begin : MethodName := ⟨"ScholarsPress$Signs", "begin", "([BI)V"⟩
abbrev w_PSigns_begin : Cond := .code y_PSigns_begin b_PSigns_begin 3 none
theorem kw_PSigns_begin : w_PSigns_begin ∈ tt := tt_mem 688 (by decide +kernel) (by decide +kernel)
abbrev b_PFont_read : ByteArray := prog_3_method_2_code
abbrev y_PFont_read : MethodName := ⟨"ScholarsPress$Font", "read", "(LScholarsPress$Signs;)Z"⟩
abbrev w_PFont_read : Cond := .code y_PFont_read b_PFont_read 3 (some .boolean)
theorem kw_PFont_read : w_PFont_read ∈ tt := tt_mem 703 (by decide +kernel) (by decide +kernel)
abbrev b_SP_takeTape : ByteArray := prog_1_method_23_code
abbrev y_SP_takeTape : MethodName := ⟨"ScholarsPress", "takeTape", "()I"⟩
abbrev w_SP_takeTape : Cond := .code y_SP_takeTape b_SP_takeTape 2 (some .int)
theorem kw_SP_takeTape : w_SP_takeTape ∈ tt := tt_mem 684 (by decide +kernel) (by decide +kernel)
abbrev b_SP_font : ByteArray := prog_1_method_4_code
abbrev y_SP_font : MethodName := ⟨"ScholarsPress", "font", "()I"⟩
abbrev w_SP_font : Cond := .code y_SP_font b_SP_font 2 (some .int)
theorem kw_SP_font : w_SP_font ∈ tt := tt_mem 680 (by decide +kernel) (by decide +kernel)
abbrev b_PHyphens_read : ByteArray := prog_4_method_2_code
abbrev y_PHyphens_read : MethodName := ⟨"ScholarsPress$Hyphens", "read", "([BI)Z"⟩
abbrev w_PHyphens_read : Cond := .code y_PHyphens_read b_PHyphens_read 5 (some .boolean)
theorem kw_PHyphens_read : w_PHyphens_read ∈ tt := tt_mem 809 (by decide +kernel) (by decide +kernel)
abbrev b_SP_hyphens : ByteArray := prog_1_method_5_code
abbrev y_SP_hyphens : MethodName := ⟨"ScholarsPress", "hyphens", "()I"⟩
abbrev w_SP_hyphens : Cond := .code y_SP_hyphens b_SP_hyphens 2 (some .int)
theorem kw_SP_hyphens : w_SP_hyphens ∈ tt := tt_mem 805 (by decide +kernel) (by decide +kernel)
abbrev b_PStyle_read : ByteArray := prog_10_method_2_code
abbrev y_PStyle_read : MethodName := ⟨"ScholarsPress$Style", "read", "([BILScholarsPress$Signs;)Z"⟩
abbrev w_PStyle_read : Cond := .code y_PStyle_read b_PStyle_read 5 (some .boolean)
theorem kw_PStyle_read : w_PStyle_read ∈ tt := tt_mem 1118 (by decide +kernel) (by decide +kernel)
abbrev b_SP_style : ByteArray := prog_1_method_6_code
abbrev y_SP_style : MethodName := ⟨"ScholarsPress", "style", "()I"⟩
abbrev w_SP_style : Cond := .code y_SP_style b_SP_style 2 (some .int)
theorem kw_SP_style : w_SP_style ∈ tt := tt_mem 1114 (by decide +kernel) (by decide +kernel)
abbrev b_PSource_read : ByteArray := prog_8_method_7_code
abbrev y_PSource_read : MethodName := ⟨"ScholarsPress$Source", "read", "(I)Z"⟩
abbrev w_PSource_read : Cond := .code y_PSource_read b_PSource_read 5 (some .boolean)
theorem kw_PSource_read : w_PSource_read ∈ tt := tt_mem 1302 (by decide +kernel) (by decide +kernel)
abbrev b_SP_makeSpareSource : ByteArray := prog_1_method_24_code
abbrev y_SP_makeSpareSource : MethodName := ⟨"ScholarsPress", "makeSpareSource", "()V"⟩
abbrev w_SP_makeSpareSource : Cond := .code y_SP_makeSpareSource b_SP_makeSpareSource 1 none
theorem kw_SP_makeSpareSource : w_SP_makeSpareSource ∈ tt := tt_mem 1206 (by decide +kernel) (by decide +kernel)
abbrev b_SP_takeSource : ByteArray := prog_1_method_25_code
abbrev y_SP_takeSource : MethodName := ⟨"ScholarsPress", "takeSource", "(I)Z"⟩
abbrev w_SP_takeSource : Cond := .code y_SP_takeSource b_SP_takeSource 3 (some .boolean)
theorem kw_SP_takeSource : w_SP_takeSource ∈ tt := tt_mem 1298 (by decide +kernel) (by decide +kernel)
abbrev b_SP_source : ByteArray := prog_1_method_7_code
abbrev y_SP_source : MethodName := ⟨"ScholarsPress", "source", "()I"⟩
abbrev w_SP_source : Cond := .code y_SP_source b_SP_source 2 (some .int)
theorem kw_SP_source : w_SP_source ∈ tt := tt_mem 1202 (by decide +kernel) (by decide +kernel)
theorem k_2 : Cond.selects "ScholarsPress" ⟨"ScholarsPress", "takeTape", "()I"⟩ ⟨"ScholarsPress", "takeTape", "()I"⟩ ∈ tt := tt_mem 2 (by decide +kernel) (by decide +kernel)
theorem k_25 : Cond.selects "ScholarsPress" ⟨"ScholarsPress", "makeSpareSource", "()V"⟩ ⟨"ScholarsPress", "makeSpareSource", "()V"⟩ ∈ tt := tt_mem 25 (by decide +kernel) (by decide +kernel)
theorem k_26 : Cond.selects "ScholarsPress" ⟨"ScholarsPress", "takeSource", "(I)Z"⟩ ⟨"ScholarsPress", "takeSource", "(I)Z"⟩ ∈ tt := tt_mem 26 (by decide +kernel) (by decide +kernel)
theorem k_272 : Cond.initialized "ScholarsPress$Source" ∈ tt := tt_mem 272 (by decide +kernel) (by decide +kernel)
theorem k_298 : Cond.fieldLink "ScholarsPress$Signs" 21 "ScholarsPress$Signs" "text" "[B" ∈ tt := tt_mem 298 (by decide +kernel) (by decide +kernel)
theorem k_299 : Cond.fieldLink "ScholarsPress$Font" 42 "ScholarsPress$Signs" "length" "I" ∈ tt := tt_mem 299 (by decide +kernel) (by decide +kernel)
theorem k_301 : Cond.fieldLink "ScholarsPress$Signs" 27 "ScholarsPress$Signs" "length" "I" ∈ tt := tt_mem 301 (by decide +kernel) (by decide +kernel)
theorem k_302 : Cond.fieldLink "ScholarsPress$Signs" 30 "ScholarsPress$Signs" "at" "I" ∈ tt := tt_mem 302 (by decide +kernel) (by decide +kernel)
theorem k_303 : Cond.fieldLink "ScholarsPress$Font" 47 "ScholarsPress$Signs" "kind" "I" ∈ tt := tt_mem 303 (by decide +kernel) (by decide +kernel)
theorem k_304 : Cond.fieldLink "ScholarsPress$Style" 75 "ScholarsPress$Signs" "kind" "I" ∈ tt := tt_mem 304 (by decide +kernel) (by decide +kernel)
theorem k_305 : Cond.fieldLink "ScholarsPress$Signs" 36 "ScholarsPress$Signs" "kind" "I" ∈ tt := tt_mem 305 (by decide +kernel) (by decide +kernel)
theorem k_310 : Cond.fieldLink "ScholarsPress$Signs" 46 "ScholarsPress$Signs" "start" "I" ∈ tt := tt_mem 310 (by decide +kernel) (by decide +kernel)
theorem k_355 : Cond.fieldLink "ScholarsPress$Style" 53 "ScholarsPress$Style" "selectors" "I" ∈ tt := tt_mem 355 (by decide +kernel) (by decide +kernel)
theorem k_357 : Cond.fieldLink "ScholarsPress" 110 "ScholarsPress$Style" "selectors" "I" ∈ tt := tt_mem 357 (by decide +kernel) (by decide +kernel)
theorem k_360 : Cond.fieldLink "ScholarsPress$Style" 57 "ScholarsPress$Style" "steps" "I" ∈ tt := tt_mem 360 (by decide +kernel) (by decide +kernel)
theorem k_365 : Cond.fieldLink "ScholarsPress$Style" 60 "ScholarsPress$Style" "conditions" "I" ∈ tt := tt_mem 365 (by decide +kernel) (by decide +kernel)
theorem k_370 : Cond.fieldLink "ScholarsPress$Style" 63 "ScholarsPress$Style" "told" "I" ∈ tt := tt_mem 370 (by decide +kernel) (by decide +kernel)
theorem k_375 : Cond.fieldLink "ScholarsPress$Style" 66 "ScholarsPress$Style" "counters" "I" ∈ tt := tt_mem 375 (by decide +kernel) (by decide +kernel)
theorem k_421 : Cond.fieldLink "ScholarsPress$Font" 32 "ScholarsPress$Font" "widthsTold" "I" ∈ tt := tt_mem 421 (by decide +kernel) (by decide +kernel)
theorem k_422 : Cond.fieldLink "ScholarsPress" 79 "ScholarsPress$Font" "widthsTold" "I" ∈ tt := tt_mem 422 (by decide +kernel) (by decide +kernel)
theorem k_426 : Cond.fieldLink "ScholarsPress$Font" 36 "ScholarsPress$Font" "pairs" "I" ∈ tt := tt_mem 426 (by decide +kernel) (by decide +kernel)
theorem k_427 : Cond.fieldLink "ScholarsPress" 82 "ScholarsPress$Font" "pairs" "I" ∈ tt := tt_mem 427 (by decide +kernel) (by decide +kernel)
theorem k_428 : Cond.fieldLink "ScholarsPress$Font" 39 "ScholarsPress$Font" "kerns" "I" ∈ tt := tt_mem 428 (by decide +kernel) (by decide +kernel)
theorem k_454 : Cond.fieldLink "ScholarsPress$Hyphens" 58 "ScholarsPress$Hyphens" "at" "I" ∈ tt := tt_mem 454 (by decide +kernel) (by decide +kernel)
theorem k_458 : Cond.fieldLink "ScholarsPress$Hyphens" 48 "ScholarsPress$Hyphens" "endsDue" "Z" ∈ tt := tt_mem 458 (by decide +kernel) (by decide +kernel)
theorem k_459 : Cond.fieldLink "ScholarsPress$Hyphens" 52 "ScholarsPress$Hyphens" "patterns" "I" ∈ tt := tt_mem 459 (by decide +kernel) (by decide +kernel)
theorem k_460 : Cond.fieldLink "ScholarsPress" 94 "ScholarsPress$Hyphens" "patterns" "I" ∈ tt := tt_mem 460 (by decide +kernel) (by decide +kernel)
theorem k_466 : Cond.fieldLink "ScholarsPress$Hyphens" 55 "ScholarsPress$Hyphens" "exceptions" "I" ∈ tt := tt_mem 466 (by decide +kernel) (by decide +kernel)
theorem k_467 : Cond.fieldLink "ScholarsPress" 97 "ScholarsPress$Hyphens" "exceptions" "I" ∈ tt := tt_mem 467 (by decide +kernel) (by decide +kernel)
theorem k_505 : Cond.fieldLink "ScholarsPress" 116 "ScholarsPress" "sourceSpare" "LScholarsPress$Source;" ∈ tt := tt_mem 505 (by decide +kernel) (by decide +kernel)
theorem k_507 : Cond.fieldLink "ScholarsPress" 100 "ScholarsPress" "styleSpare" "LScholarsPress$Style;" ∈ tt := tt_mem 507 (by decide +kernel) (by decide +kernel)
theorem k_509 : Cond.fieldLink "ScholarsPress" 58 "ScholarsPress" "fontSpare" "LScholarsPress$Font;" ∈ tt := tt_mem 509 (by decide +kernel) (by decide +kernel)
theorem k_511 : Cond.fieldLink "ScholarsPress" 85 "ScholarsPress" "hyphensSpare" "LScholarsPress$Hyphens;" ∈ tt := tt_mem 511 (by decide +kernel) (by decide +kernel)
theorem k_513 : Cond.fieldLink "ScholarsPress" 106 "ScholarsPress" "looksFresh" "Z" ∈ tt := tt_mem 513 (by decide +kernel) (by decide +kernel)
theorem k_681 : Cond.methodLink "ScholarsPress" 61 ⟨"ScholarsPress", "takeTape", "()I"⟩ ∈ tt := tt_mem 681 (by decide +kernel) (by decide +kernel)
theorem k_683 : Cond.instanceMethod ⟨"ScholarsPress", "takeTape", "()I"⟩ ∈ tt := tt_mem 683 (by decide +kernel) (by decide +kernel)
theorem k_685 : Cond.methodLink "ScholarsPress" 65 ⟨"ScholarsPress$Signs", "begin", "([BI)V"⟩ ∈ tt := tt_mem 685 (by decide +kernel) (by decide +kernel)
theorem k_686 : Cond.instanceMethod ⟨"ScholarsPress$Signs", "begin", "([BI)V"⟩ ∈ tt := tt_mem 686 (by decide +kernel) (by decide +kernel)
theorem k_687 : Cond.selects "ScholarsPress$Signs" ⟨"ScholarsPress$Signs", "begin", "([BI)V"⟩ ⟨"ScholarsPress$Signs", "begin", "([BI)V"⟩ ∈ tt := tt_mem 687 (by decide +kernel) (by decide +kernel)
theorem k_689 : Cond.methodLink "ScholarsPress$Signs" 33 ⟨"ScholarsPress$Signs", "next", "()V"⟩ ∈ tt := tt_mem 689 (by decide +kernel) (by decide +kernel)
theorem k_690 : Cond.instanceMethod ⟨"ScholarsPress$Signs", "next", "()V"⟩ ∈ tt := tt_mem 690 (by decide +kernel) (by decide +kernel)
theorem k_691 : Cond.selects "ScholarsPress$Signs" ⟨"ScholarsPress$Signs", "next", "()V"⟩ ⟨"ScholarsPress$Signs", "next", "()V"⟩ ∈ tt := tt_mem 691 (by decide +kernel) (by decide +kernel)
theorem k_693 : Cond.methodLink "ScholarsPress$Signs" 42 ⟨"ScholarsPress$Signs", "behindBlanks", "([BII)I"⟩ ∈ tt := tt_mem 693 (by decide +kernel) (by decide +kernel)
theorem k_694 : Cond.static ⟨"ScholarsPress$Signs", "behindBlanks", "([BII)I"⟩ ∈ tt := tt_mem 694 (by decide +kernel) (by decide +kernel)
theorem k_700 : Cond.methodLink "ScholarsPress" 69 ⟨"ScholarsPress$Font", "read", "(LScholarsPress$Signs;)Z"⟩ ∈ tt := tt_mem 700 (by decide +kernel) (by decide +kernel)
theorem k_701 : Cond.instanceMethod ⟨"ScholarsPress$Font", "read", "(LScholarsPress$Signs;)Z"⟩ ∈ tt := tt_mem 701 (by decide +kernel) (by decide +kernel)
theorem k_702 : Cond.selects "ScholarsPress$Font" ⟨"ScholarsPress$Font", "read", "(LScholarsPress$Signs;)Z"⟩ ⟨"ScholarsPress$Font", "read", "(LScholarsPress$Signs;)Z"⟩ ∈ tt := tt_mem 702 (by decide +kernel) (by decide +kernel)
theorem k_806 : Cond.methodLink "ScholarsPress" 88 ⟨"ScholarsPress$Hyphens", "read", "([BI)Z"⟩ ∈ tt := tt_mem 806 (by decide +kernel) (by decide +kernel)
theorem k_807 : Cond.instanceMethod ⟨"ScholarsPress$Hyphens", "read", "([BI)Z"⟩ ∈ tt := tt_mem 807 (by decide +kernel) (by decide +kernel)
theorem k_808 : Cond.selects "ScholarsPress$Hyphens" ⟨"ScholarsPress$Hyphens", "read", "([BI)Z"⟩ ⟨"ScholarsPress$Hyphens", "read", "([BI)Z"⟩ ∈ tt := tt_mem 808 (by decide +kernel) (by decide +kernel)
theorem k_810 : Cond.methodLink "ScholarsPress$Hyphens" 61 ⟨"ScholarsPress$Signs", "behindBlanks", "([BII)I"⟩ ∈ tt := tt_mem 810 (by decide +kernel) (by decide +kernel)
theorem k_1115 : Cond.methodLink "ScholarsPress" 103 ⟨"ScholarsPress$Style", "read", "([BILScholarsPress$Signs;)Z"⟩ ∈ tt := tt_mem 1115 (by decide +kernel) (by decide +kernel)
theorem k_1116 : Cond.instanceMethod ⟨"ScholarsPress$Style", "read", "([BILScholarsPress$Signs;)Z"⟩ ∈ tt := tt_mem 1116 (by decide +kernel) (by decide +kernel)
theorem k_1117 : Cond.selects "ScholarsPress$Style" ⟨"ScholarsPress$Style", "read", "([BILScholarsPress$Signs;)Z"⟩ ⟨"ScholarsPress$Style", "read", "([BILScholarsPress$Signs;)Z"⟩ ∈ tt := tt_mem 1117 (by decide +kernel) (by decide +kernel)
theorem k_1119 : Cond.methodLink "ScholarsPress$Style" 69 ⟨"ScholarsPress$Signs", "begin", "([BI)V"⟩ ∈ tt := tt_mem 1119 (by decide +kernel) (by decide +kernel)
theorem k_1203 : Cond.methodLink "ScholarsPress" 113 ⟨"ScholarsPress", "makeSpareSource", "()V"⟩ ∈ tt := tt_mem 1203 (by decide +kernel) (by decide +kernel)
theorem k_1205 : Cond.instanceMethod ⟨"ScholarsPress", "makeSpareSource", "()V"⟩ ∈ tt := tt_mem 1205 (by decide +kernel) (by decide +kernel)
theorem k_1207 : Cond.classLink "ScholarsPress" 121 "ScholarsPress$Source" ∈ tt := tt_mem 1207 (by decide +kernel) (by decide +kernel)
theorem k_1208 : Cond.instantiable "ScholarsPress$Source" 20 ∈ tt := tt_mem 1208 (by decide +kernel) (by decide +kernel)
theorem k_1209 : Cond.methodLink "ScholarsPress" 296 ⟨"ScholarsPress$Source", "<init>", "()V"⟩ ∈ tt := tt_mem 1209 (by decide +kernel) (by decide +kernel)
theorem k_1210 : Cond.instanceMethod ⟨"ScholarsPress$Source", "<init>", "()V"⟩ ∈ tt := tt_mem 1210 (by decide +kernel) (by decide +kernel)
theorem k_1214 : Cond.fieldLink "ScholarsPress" 120 "ScholarsPress$Source" "text" "[B" ∈ tt := tt_mem 1214 (by decide +kernel) (by decide +kernel)
theorem k_1218 : Cond.fieldLink "ScholarsPress$Source" 65 "ScholarsPress$Source" "length" "I" ∈ tt := tt_mem 1218 (by decide +kernel) (by decide +kernel)
theorem k_1225 : Cond.fieldLink "ScholarsPress$Source" 67 "ScholarsPress$Source" "streamLength" "I" ∈ tt := tt_mem 1225 (by decide +kernel) (by decide +kernel)
theorem k_1228 : Cond.fieldLink "ScholarsPress$Source" 70 "ScholarsPress$Source" "elements" "I" ∈ tt := tt_mem 1228 (by decide +kernel) (by decide +kernel)
theorem k_1229 : Cond.fieldLink "ScholarsPress" 138 "ScholarsPress$Source" "elements" "I" ∈ tt := tt_mem 1229 (by decide +kernel) (by decide +kernel)
theorem k_1234 : Cond.fieldLink "ScholarsPress$Source" 73 "ScholarsPress$Source" "fields" "I" ∈ tt := tt_mem 1234 (by decide +kernel) (by decide +kernel)
theorem k_1239 : Cond.fieldLink "ScholarsPress$Source" 76 "ScholarsPress$Source" "entities" "I" ∈ tt := tt_mem 1239 (by decide +kernel) (by decide +kernel)
theorem k_1245 : Cond.fieldLink "ScholarsPress$Source" 79 "ScholarsPress$Source" "at" "I" ∈ tt := tt_mem 1245 (by decide +kernel) (by decide +kernel)
theorem k_1247 : Cond.fieldLink "ScholarsPress$Source" 82 "ScholarsPress$Source" "open" "I" ∈ tt := tt_mem 1247 (by decide +kernel) (by decide +kernel)
theorem k_1248 : Cond.fieldLink "ScholarsPress$Source" 85 "ScholarsPress$Source" "depth" "I" ∈ tt := tt_mem 1248 (by decide +kernel) (by decide +kernel)
theorem k_1249 : Cond.fieldLink "ScholarsPress$Source" 42 "ScholarsPress$Source" "lastTop" "I" ∈ tt := tt_mem 1249 (by decide +kernel) (by decide +kernel)
theorem k_1294 : Cond.methodLink "ScholarsPress" 125 ⟨"java/lang/System", "arraycopy", "(Ljava/lang/Object;ILjava/lang/Object;II)V"⟩ ∈ tt := tt_mem 1294 (by decide +kernel) (by decide +kernel)
theorem k_1295 : Cond.methodLink "ScholarsPress" 131 ⟨"ScholarsPress", "takeSource", "(I)Z"⟩ ∈ tt := tt_mem 1295 (by decide +kernel) (by decide +kernel)
theorem k_1297 : Cond.instanceMethod ⟨"ScholarsPress", "takeSource", "(I)Z"⟩ ∈ tt := tt_mem 1297 (by decide +kernel) (by decide +kernel)
theorem k_1299 : Cond.methodLink "ScholarsPress" 297 ⟨"ScholarsPress$Source", "read", "(I)Z"⟩ ∈ tt := tt_mem 1299 (by decide +kernel) (by decide +kernel)
theorem k_1300 : Cond.instanceMethod ⟨"ScholarsPress$Source", "read", "(I)Z"⟩ ∈ tt := tt_mem 1300 (by decide +kernel) (by decide +kernel)
theorem k_1301 : Cond.selects "ScholarsPress$Source" ⟨"ScholarsPress$Source", "read", "(I)Z"⟩ ⟨"ScholarsPress$Source", "read", "(I)Z"⟩ ∈ tt := tt_mem 1301 (by decide +kernel) (by decide +kernel)
theorem d_PFont_read_0 : decode b_PFont_read 0 = .ok (.aload_n 0, 1) := by decide +kernel
theorem d_PFont_read_1 : decode b_PFont_read 1 = .ok (.getfield 7, 3) := by decide +kernel
theorem d_PFont_read_4 : decode b_PFont_read 4 = .ok (.sipush 500, 3) := by decide +kernel
theorem d_PFont_read_7 : decode b_PFont_read 7 = .ok (.invokestatic 26, 3) := by decide +kernel
theorem d_PFont_read_10 : decode b_PFont_read 10 = .ok (.aload_n 0, 1) := by decide +kernel
theorem d_PFont_read_11 : decode b_PFont_read 11 = .ok (.getfield 23, 3) := by decide +kernel
theorem d_PFont_read_14 : decode b_PFont_read 14 = .ok (.iconst 0, 1) := by decide +kernel
theorem d_PFont_read_15 : decode b_PFont_read 15 = .ok (.invokestatic 26, 3) := by decide +kernel
theorem d_PFont_read_18 : decode b_PFont_read 18 = .ok (.iconst 0, 1) := by decide +kernel
theorem d_PFont_read_19 : decode b_PFont_read 19 = .ok (.istore_n 2, 1) := by decide +kernel
theorem d_PFont_read_20 : decode b_PFont_read 20 = .ok (.iload_n 2, 1) := by decide +kernel
theorem d_PFont_read_21 : decode b_PFont_read 21 = .ok (.sipush 128, 3) := by decide +kernel
theorem d_PFont_read_24 : decode b_PFont_read 24 = .ok (.if_icmp .ge 16, 3) := by decide +kernel
theorem d_PFont_read_27 : decode b_PFont_read 27 = .ok (.aload_n 0, 1) := by decide +kernel
theorem d_PFont_read_28 : decode b_PFont_read 28 = .ok (.getfield 13, 3) := by decide +kernel
theorem d_PFont_read_31 : decode b_PFont_read 31 = .ok (.iload_n 2, 1) := by decide +kernel
theorem d_PFont_read_32 : decode b_PFont_read 32 = .ok (.iconst 0, 1) := by decide +kernel
theorem d_PFont_read_33 : decode b_PFont_read 33 = .ok (.bastore, 1) := by decide +kernel
theorem d_PFont_read_34 : decode b_PFont_read 34 = .ok (.iinc 2 1, 3) := by decide +kernel
theorem d_PFont_read_37 : decode b_PFont_read 37 = .ok (.goto (-17), 3) := by decide +kernel
theorem d_PFont_read_40 : decode b_PFont_read 40 = .ok (.aload_n 0, 1) := by decide +kernel
theorem d_PFont_read_41 : decode b_PFont_read 41 = .ok (.iconst 0, 1) := by decide +kernel
theorem d_PFont_read_42 : decode b_PFont_read 42 = .ok (.putfield 32, 3) := by decide +kernel
theorem d_PFont_read_45 : decode b_PFont_read 45 = .ok (.aload_n 0, 1) := by decide +kernel
theorem d_PFont_read_46 : decode b_PFont_read 46 = .ok (.iconst 0, 1) := by decide +kernel
theorem d_PFont_read_47 : decode b_PFont_read 47 = .ok (.putfield 36, 3) := by decide +kernel
