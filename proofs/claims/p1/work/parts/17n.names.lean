abbrev b_PSigns_init : ByteArray := prog_7_method_1_code
abbrev y_PSigns_init : MethodName := ⟨"ScholarsPress$Signs", "<init>", "()V"⟩
abbrev w_PSigns_init : Cond := .code y_PSigns_init b_PSigns_init 1 none
theorem kw_PSigns_init : w_PSigns_init ∈ tt := tt_mem 295 (by decide +kernel) (by decide +kernel)
abbrev b_PFont_init : ByteArray := prog_3_method_1_code
abbrev y_PFont_init : MethodName := ⟨"ScholarsPress$Font", "<init>", "()V"⟩
abbrev w_PFont_init : Cond := .code y_PFont_init b_PFont_init 1 none
theorem kw_PFont_init : w_PFont_init ∈ tt := tt_mem 414 (by decide +kernel) (by decide +kernel)
abbrev b_PHyphens_init : ByteArray := prog_4_method_1_code
abbrev y_PHyphens_init : MethodName := ⟨"ScholarsPress$Hyphens", "<init>", "()V"⟩
abbrev w_PHyphens_init : Cond := .code y_PHyphens_init b_PHyphens_init 1 none
theorem kw_PHyphens_init : w_PHyphens_init ∈ tt := tt_mem 451 (by decide +kernel) (by decide +kernel)
abbrev b_PSource_init : ByteArray := prog_8_method_1_code
abbrev y_PSource_init : MethodName := ⟨"ScholarsPress$Source", "<init>", "()V"⟩
abbrev w_PSource_init : Cond := .code y_PSource_init b_PSource_init 1 none
theorem kw_PSource_init : w_PSource_init ∈ tt := tt_mem 1211 (by decide +kernel) (by decide +kernel)
abbrev b_MSigns_init : ByteArray := prog_20_method_1_code
abbrev y_MSigns_init : MethodName := ⟨"ScholarsPressModel$Signs", "<init>", "()V"⟩
abbrev w_MSigns_init : Cond := .code y_MSigns_init b_MSigns_init 1 none
theorem kw_MSigns_init : w_MSigns_init ∈ tt := tt_mem 2715 (by decide +kernel) (by decide +kernel)
abbrev b_MParting_init : ByteArray := prog_18_method_1_code
abbrev y_MParting_init : MethodName := ⟨"ScholarsPressModel$Parting", "<init>", "()V"⟩
abbrev w_MParting_init : Cond := .code y_MParting_init b_MParting_init 1 none
theorem kw_MParting_init : w_MParting_init ∈ tt := tt_mem 2787 (by decide +kernel) (by decide +kernel)
theorem k_245 : Cond.initialized "java/util/Arrays" ∈ tt := tt_mem 245 (by decide +kernel) (by decide +kernel)
theorem k_296 : Cond.methodLink "ScholarsPress$Signs" 1 ⟨"java/lang/Object", "<init>", "()V"⟩ ∈ tt := tt_mem 296 (by decide +kernel) (by decide +kernel)
theorem k_415 : Cond.methodLink "ScholarsPress$Font" 1 ⟨"java/lang/Object", "<init>", "()V"⟩ ∈ tt := tt_mem 415 (by decide +kernel) (by decide +kernel)
theorem k_416 : Cond.methodLink "ScholarsPress$Font" 26 ⟨"java/util/Arrays", "fill", "([II)V"⟩ ∈ tt := tt_mem 416 (by decide +kernel) (by decide +kernel)
theorem k_417 : Cond.static ⟨"java/util/Arrays", "fill", "([II)V"⟩ ∈ tt := tt_mem 417 (by decide +kernel) (by decide +kernel)
theorem k_419 : Cond.fieldLink "ScholarsPress$Font" 7 "ScholarsPress$Font" "widths" "[I" ∈ tt := tt_mem 419 (by decide +kernel) (by decide +kernel)
theorem k_420 : Cond.fieldLink "ScholarsPress$Font" 13 "ScholarsPress$Font" "told" "[Z" ∈ tt := tt_mem 420 (by decide +kernel) (by decide +kernel)
theorem k_423 : Cond.fieldLink "ScholarsPress$Font" 17 "ScholarsPress$Font" "keys" "[I" ∈ tt := tt_mem 423 (by decide +kernel) (by decide +kernel)
theorem k_424 : Cond.fieldLink "ScholarsPress$Font" 20 "ScholarsPress$Font" "values" "[I" ∈ tt := tt_mem 424 (by decide +kernel) (by decide +kernel)
theorem k_425 : Cond.fieldLink "ScholarsPress$Font" 23 "ScholarsPress$Font" "slots" "[I" ∈ tt := tt_mem 425 (by decide +kernel) (by decide +kernel)
theorem k_452 : Cond.methodLink "ScholarsPress$Hyphens" 1 ⟨"java/lang/Object", "<init>", "()V"⟩ ∈ tt := tt_mem 452 (by decide +kernel) (by decide +kernel)
theorem k_453 : Cond.methodLink "ScholarsPress$Hyphens" 42 ⟨"java/util/Arrays", "fill", "([II)V"⟩ ∈ tt := tt_mem 453 (by decide +kernel) (by decide +kernel)
theorem k_456 : Cond.fieldLink "ScholarsPress$Hyphens" 7 "ScholarsPress$Hyphens" "ahead" "I" ∈ tt := tt_mem 456 (by decide +kernel) (by decide +kernel)
theorem k_457 : Cond.fieldLink "ScholarsPress$Hyphens" 13 "ScholarsPress$Hyphens" "behind" "I" ∈ tt := tt_mem 457 (by decide +kernel) (by decide +kernel)
theorem k_461 : Cond.fieldLink "ScholarsPress$Hyphens" 16 "ScholarsPress$Hyphens" "signs" "[B" ∈ tt := tt_mem 461 (by decide +kernel) (by decide +kernel)
theorem k_462 : Cond.fieldLink "ScholarsPress$Hyphens" 20 "ScholarsPress$Hyphens" "digits" "[B" ∈ tt := tt_mem 462 (by decide +kernel) (by decide +kernel)
theorem k_463 : Cond.fieldLink "ScholarsPress$Hyphens" 23 "ScholarsPress$Hyphens" "sizes" "[I" ∈ tt := tt_mem 463 (by decide +kernel) (by decide +kernel)
theorem k_464 : Cond.fieldLink "ScholarsPress$Hyphens" 27 "ScholarsPress$Hyphens" "links" "[I" ∈ tt := tt_mem 464 (by decide +kernel) (by decide +kernel)
theorem k_465 : Cond.fieldLink "ScholarsPress$Hyphens" 30 "ScholarsPress$Hyphens" "heads" "[I" ∈ tt := tt_mem 465 (by decide +kernel) (by decide +kernel)
theorem k_468 : Cond.fieldLink "ScholarsPress$Hyphens" 33 "ScholarsPress$Hyphens" "letters" "[B" ∈ tt := tt_mem 468 (by decide +kernel) (by decide +kernel)
theorem k_469 : Cond.fieldLink "ScholarsPress$Hyphens" 36 "ScholarsPress$Hyphens" "lengths" "[I" ∈ tt := tt_mem 469 (by decide +kernel) (by decide +kernel)
theorem k_470 : Cond.fieldLink "ScholarsPress$Hyphens" 39 "ScholarsPress$Hyphens" "places" "[I" ∈ tt := tt_mem 470 (by decide +kernel) (by decide +kernel)
theorem k_1212 : Cond.methodLink "ScholarsPress$Source" 3 ⟨"java/lang/Object", "<init>", "()V"⟩ ∈ tt := tt_mem 1212 (by decide +kernel) (by decide +kernel)
theorem k_1213 : Cond.fieldLink "ScholarsPress$Source" 9 "ScholarsPress$Source" "text" "[B" ∈ tt := tt_mem 1213 (by decide +kernel) (by decide +kernel)
theorem k_1221 : Cond.fieldLink "ScholarsPress$Source" 15 "ScholarsPress$Source" "stream" "[I" ∈ tt := tt_mem 1221 (by decide +kernel) (by decide +kernel)
theorem k_1231 : Cond.fieldLink "ScholarsPress$Source" 19 "ScholarsPress$Source" "names" "[J" ∈ tt := tt_mem 1231 (by decide +kernel) (by decide +kernel)
theorem k_1233 : Cond.fieldLink "ScholarsPress$Source" 23 "ScholarsPress$Source" "facts" "[I" ∈ tt := tt_mem 1233 (by decide +kernel) (by decide +kernel)
theorem k_1235 : Cond.fieldLink "ScholarsPress$Source" 26 "ScholarsPress$Source" "fieldNames" "[J" ∈ tt := tt_mem 1235 (by decide +kernel) (by decide +kernel)
theorem k_1236 : Cond.fieldLink "ScholarsPress$Source" 29 "ScholarsPress$Source" "fieldSpans" "[I" ∈ tt := tt_mem 1236 (by decide +kernel) (by decide +kernel)
theorem k_1241 : Cond.fieldLink "ScholarsPress$Source" 32 "ScholarsPress$Source" "entityNames" "[J" ∈ tt := tt_mem 1241 (by decide +kernel) (by decide +kernel)
theorem k_1242 : Cond.fieldLink "ScholarsPress$Source" 35 "ScholarsPress$Source" "entitySpans" "[I" ∈ tt := tt_mem 1242 (by decide +kernel) (by decide +kernel)
theorem k_2716 : Cond.methodLink "ScholarsPressModel$Signs" 1 ⟨"java/lang/Object", "<init>", "()V"⟩ ∈ tt := tt_mem 2716 (by decide +kernel) (by decide +kernel)
theorem k_2788 : Cond.methodLink "ScholarsPressModel$Parting" 1 ⟨"java/lang/Object", "<init>", "()V"⟩ ∈ tt := tt_mem 2788 (by decide +kernel) (by decide +kernel)
theorem k_2789 : Cond.fieldLink "ScholarsPressModel$Parting" 7 "ScholarsPressModel$Parting" "ahead" "I" ∈ tt := tt_mem 2789 (by decide +kernel) (by decide +kernel)
theorem k_2790 : Cond.fieldLink "ScholarsPressModel$Parting" 13 "ScholarsPressModel$Parting" "behind" "I" ∈ tt := tt_mem 2790 (by decide +kernel) (by decide +kernel)
theorem k_2795 : Cond.fieldLink "ScholarsPressModel$Parting" 16 "ScholarsPressModel$Parting" "sign" "[B" ∈ tt := tt_mem 2795 (by decide +kernel) (by decide +kernel)
theorem k_2796 : Cond.fieldLink "ScholarsPressModel$Parting" 20 "ScholarsPressModel$Parting" "signs" "[I" ∈ tt := tt_mem 2796 (by decide +kernel) (by decide +kernel)
theorem k_2797 : Cond.fieldLink "ScholarsPressModel$Parting" 24 "ScholarsPressModel$Parting" "digit" "[B" ∈ tt := tt_mem 2797 (by decide +kernel) (by decide +kernel)
theorem k_2798 : Cond.fieldLink "ScholarsPressModel$Parting" 27 "ScholarsPressModel$Parting" "letter" "[B" ∈ tt := tt_mem 2798 (by decide +kernel) (by decide +kernel)
theorem k_2799 : Cond.fieldLink "ScholarsPressModel$Parting" 30 "ScholarsPressModel$Parting" "long_" "[I" ∈ tt := tt_mem 2799 (by decide +kernel) (by decide +kernel)
theorem k_2800 : Cond.fieldLink "ScholarsPressModel$Parting" 33 "ScholarsPressModel$Parting" "mark" "[Z" ∈ tt := tt_mem 2800 (by decide +kernel) (by decide +kernel)
theorem k_2801 : Cond.fieldLink "ScholarsPressModel$Parting" 37 "ScholarsPressModel$Parting" "nowSign" "[B" ∈ tt := tt_mem 2801 (by decide +kernel) (by decide +kernel)
theorem k_2802 : Cond.fieldLink "ScholarsPressModel$Parting" 40 "ScholarsPressModel$Parting" "nowDigit" "[B" ∈ tt := tt_mem 2802 (by decide +kernel) (by decide +kernel)
theorem k_2804 : Cond.fieldLink "ScholarsPressModel$Parting" 43 "ScholarsPressModel$Parting" "nowMark" "[Z" ∈ tt := tt_mem 2804 (by decide +kernel) (by decide +kernel)
theorem d_MParting_init_0 : decode b_MParting_init 0 = .ok (.aload_n 0, 1) := by decide +kernel
theorem d_MParting_init_1 : decode b_MParting_init 1 = .ok (.invokespecial 1, 3) := by decide +kernel
theorem d_MParting_init_4 : decode b_MParting_init 4 = .ok (.aload_n 0, 1) := by decide +kernel
theorem d_MParting_init_5 : decode b_MParting_init 5 = .ok (.iconst 2, 1) := by decide +kernel
theorem d_MParting_init_6 : decode b_MParting_init 6 = .ok (.putfield 7, 3) := by decide +kernel
theorem d_MParting_init_9 : decode b_MParting_init 9 = .ok (.aload_n 0, 1) := by decide +kernel
theorem d_MParting_init_10 : decode b_MParting_init 10 = .ok (.iconst 3, 1) := by decide +kernel
theorem d_MParting_init_11 : decode b_MParting_init 11 = .ok (.putfield 13, 3) := by decide +kernel
theorem d_MParting_init_14 : decode b_MParting_init 14 = .ok (.aload_n 0, 1) := by decide +kernel
theorem d_MParting_init_15 : decode b_MParting_init 15 = .ok (.sipush 4200, 3) := by decide +kernel
theorem d_MParting_init_18 : decode b_MParting_init 18 = .ok (.newarray .byte, 2) := by decide +kernel
theorem d_MParting_init_20 : decode b_MParting_init 20 = .ok (.putfield 16, 3) := by decide +kernel
theorem d_MParting_init_23 : decode b_MParting_init 23 = .ok (.aload_n 0, 1) := by decide +kernel
theorem d_MParting_init_24 : decode b_MParting_init 24 = .ok (.sipush 300, 3) := by decide +kernel
theorem d_MParting_init_27 : decode b_MParting_init 27 = .ok (.newarray .int, 2) := by decide +kernel
theorem d_MParting_init_29 : decode b_MParting_init 29 = .ok (.putfield 20, 3) := by decide +kernel
theorem d_MParting_init_32 : decode b_MParting_init 32 = .ok (.aload_n 0, 1) := by decide +kernel
theorem d_MParting_init_33 : decode b_MParting_init 33 = .ok (.sipush 4800, 3) := by decide +kernel
theorem d_MParting_init_36 : decode b_MParting_init 36 = .ok (.newarray .byte, 2) := by decide +kernel
theorem d_MParting_init_38 : decode b_MParting_init 38 = .ok (.putfield 24, 3) := by decide +kernel
theorem d_MParting_init_41 : decode b_MParting_init 41 = .ok (.aload_n 0, 1) := by decide +kernel
theorem d_MParting_init_42 : decode b_MParting_init 42 = .ok (.sipush 1800, 3) := by decide +kernel
theorem d_MParting_init_45 : decode b_MParting_init 45 = .ok (.newarray .byte, 2) := by decide +kernel
theorem d_MParting_init_47 : decode b_MParting_init 47 = .ok (.putfield 27, 3) := by decide +kernel
theorem d_MParting_init_50 : decode b_MParting_init 50 = .ok (.aload_n 0, 1) := by decide +kernel
theorem d_MParting_init_51 : decode b_MParting_init 51 = .ok (.bipush 60, 2) := by decide +kernel
theorem d_MParting_init_53 : decode b_MParting_init 53 = .ok (.newarray .int, 2) := by decide +kernel
theorem d_MParting_init_55 : decode b_MParting_init 55 = .ok (.putfield 30, 3) := by decide +kernel
theorem d_MParting_init_58 : decode b_MParting_init 58 = .ok (.aload_n 0, 1) := by decide +kernel
theorem d_MParting_init_59 : decode b_MParting_init 59 = .ok (.sipush 1860, 3) := by decide +kernel
theorem d_MParting_init_62 : decode b_MParting_init 62 = .ok (.newarray .boolean, 2) := by decide +kernel
theorem d_MParting_init_64 : decode b_MParting_init 64 = .ok (.putfield 33, 3) := by decide +kernel
theorem d_MParting_init_67 : decode b_MParting_init 67 = .ok (.aload_n 0, 1) := by decide +kernel
theorem d_MParting_init_68 : decode b_MParting_init 68 = .ok (.bipush 64, 2) := by decide +kernel
theorem d_MParting_init_70 : decode b_MParting_init 70 = .ok (.newarray .byte, 2) := by decide +kernel
theorem d_MParting_init_72 : decode b_MParting_init 72 = .ok (.putfield 37, 3) := by decide +kernel
theorem d_MParting_init_75 : decode b_MParting_init 75 = .ok (.aload_n 0, 1) := by decide +kernel
theorem d_MParting_init_76 : decode b_MParting_init 76 = .ok (.bipush 64, 2) := by decide +kernel
theorem d_MParting_init_78 : decode b_MParting_init 78 = .ok (.newarray .byte, 2) := by decide +kernel
theorem d_MParting_init_80 : decode b_MParting_init 80 = .ok (.putfield 40, 3) := by decide +kernel
theorem d_MParting_init_83 : decode b_MParting_init 83 = .ok (.aload_n 0, 1) := by decide +kernel
theorem d_MParting_init_84 : decode b_MParting_init 84 = .ok (.bipush 64, 2) := by decide +kernel
theorem d_MParting_init_86 : decode b_MParting_init 86 = .ok (.newarray .boolean, 2) := by decide +kernel
theorem d_MParting_init_88 : decode b_MParting_init 88 = .ok (.putfield 43, 3) := by decide +kernel
theorem d_MParting_init_91 : decode b_MParting_init 91 = .ok (.return_, 1) := by decide +kernel
theorem d_MSigns_init_0 : decode b_MSigns_init 0 = .ok (.aload_n 0, 1) := by decide +kernel
theorem d_MSigns_init_1 : decode b_MSigns_init 1 = .ok (.invokespecial 1, 3) := by decide +kernel
theorem d_MSigns_init_4 : decode b_MSigns_init 4 = .ok (.return_, 1) := by decide +kernel
theorem d_PFont_init_0 : decode b_PFont_init 0 = .ok (.aload_n 0, 1) := by decide +kernel
theorem d_PFont_init_1 : decode b_PFont_init 1 = .ok (.invokespecial 1, 3) := by decide +kernel
theorem d_PFont_init_4 : decode b_PFont_init 4 = .ok (.aload_n 0, 1) := by decide +kernel
theorem d_PFont_init_5 : decode b_PFont_init 5 = .ok (.sipush 128, 3) := by decide +kernel
theorem d_PFont_init_8 : decode b_PFont_init 8 = .ok (.newarray .int, 2) := by decide +kernel
theorem d_PFont_init_10 : decode b_PFont_init 10 = .ok (.putfield 7, 3) := by decide +kernel
theorem d_PFont_init_13 : decode b_PFont_init 13 = .ok (.aload_n 0, 1) := by decide +kernel
theorem d_PFont_init_14 : decode b_PFont_init 14 = .ok (.sipush 128, 3) := by decide +kernel
theorem d_PFont_init_17 : decode b_PFont_init 17 = .ok (.newarray .boolean, 2) := by decide +kernel
theorem d_PFont_init_19 : decode b_PFont_init 19 = .ok (.putfield 13, 3) := by decide +kernel
theorem d_PFont_init_22 : decode b_PFont_init 22 = .ok (.aload_n 0, 1) := by decide +kernel
theorem d_PFont_init_23 : decode b_PFont_init 23 = .ok (.sipush 260, 3) := by decide +kernel
theorem d_PFont_init_26 : decode b_PFont_init 26 = .ok (.newarray .int, 2) := by decide +kernel
theorem d_PFont_init_28 : decode b_PFont_init 28 = .ok (.putfield 17, 3) := by decide +kernel
theorem d_PFont_init_31 : decode b_PFont_init 31 = .ok (.aload_n 0, 1) := by decide +kernel
theorem d_PFont_init_32 : decode b_PFont_init 32 = .ok (.sipush 260, 3) := by decide +kernel
theorem d_PFont_init_35 : decode b_PFont_init 35 = .ok (.newarray .int, 2) := by decide +kernel
theorem d_PFont_init_37 : decode b_PFont_init 37 = .ok (.putfield 20, 3) := by decide +kernel
theorem d_PFont_init_40 : decode b_PFont_init 40 = .ok (.aload_n 0, 1) := by decide +kernel
theorem d_PFont_init_41 : decode b_PFont_init 41 = .ok (.sipush 1024, 3) := by decide +kernel
theorem d_PFont_init_44 : decode b_PFont_init 44 = .ok (.newarray .int, 2) := by decide +kernel
theorem d_PFont_init_46 : decode b_PFont_init 46 = .ok (.putfield 23, 3) := by decide +kernel
theorem d_PFont_init_49 : decode b_PFont_init 49 = .ok (.aload_n 0, 1) := by decide +kernel
theorem d_PFont_init_50 : decode b_PFont_init 50 = .ok (.getfield 7, 3) := by decide +kernel
theorem d_PFont_init_53 : decode b_PFont_init 53 = .ok (.sipush 500, 3) := by decide +kernel
theorem d_PFont_init_56 : decode b_PFont_init 56 = .ok (.invokestatic 26, 3) := by decide +kernel
theorem d_PFont_init_59 : decode b_PFont_init 59 = .ok (.return_, 1) := by decide +kernel
theorem d_PHyphens_init_0 : decode b_PHyphens_init 0 = .ok (.aload_n 0, 1) := by decide +kernel
theorem d_PHyphens_init_1 : decode b_PHyphens_init 1 = .ok (.invokespecial 1, 3) := by decide +kernel
theorem d_PHyphens_init_4 : decode b_PHyphens_init 4 = .ok (.aload_n 0, 1) := by decide +kernel
theorem d_PHyphens_init_5 : decode b_PHyphens_init 5 = .ok (.iconst 2, 1) := by decide +kernel
theorem d_PHyphens_init_6 : decode b_PHyphens_init 6 = .ok (.putfield 7, 3) := by decide +kernel
theorem d_PHyphens_init_9 : decode b_PHyphens_init 9 = .ok (.aload_n 0, 1) := by decide +kernel
theorem d_PHyphens_init_10 : decode b_PHyphens_init 10 = .ok (.iconst 3, 1) := by decide +kernel
theorem d_PHyphens_init_11 : decode b_PHyphens_init 11 = .ok (.putfield 13, 3) := by decide +kernel
theorem d_PHyphens_init_14 : decode b_PHyphens_init 14 = .ok (.aload_n 0, 1) := by decide +kernel
theorem d_PHyphens_init_15 : decode b_PHyphens_init 15 = .ok (.sipush 4515, 3) := by decide +kernel
theorem d_PHyphens_init_18 : decode b_PHyphens_init 18 = .ok (.newarray .byte, 2) := by decide +kernel
theorem d_PHyphens_init_20 : decode b_PHyphens_init 20 = .ok (.putfield 16, 3) := by decide +kernel
theorem d_PHyphens_init_23 : decode b_PHyphens_init 23 = .ok (.aload_n 0, 1) := by decide +kernel
theorem d_PHyphens_init_24 : decode b_PHyphens_init 24 = .ok (.sipush 4515, 3) := by decide +kernel
theorem d_PHyphens_init_27 : decode b_PHyphens_init 27 = .ok (.newarray .byte, 2) := by decide +kernel
theorem d_PHyphens_init_29 : decode b_PHyphens_init 29 = .ok (.putfield 20, 3) := by decide +kernel
theorem d_PHyphens_init_32 : decode b_PHyphens_init 32 = .ok (.aload_n 0, 1) := by decide +kernel
theorem d_PHyphens_init_33 : decode b_PHyphens_init 33 = .ok (.sipush 301, 3) := by decide +kernel
theorem d_PHyphens_init_36 : decode b_PHyphens_init 36 = .ok (.newarray .int, 2) := by decide +kernel
theorem d_PHyphens_init_38 : decode b_PHyphens_init 38 = .ok (.putfield 23, 3) := by decide +kernel
theorem d_PHyphens_init_41 : decode b_PHyphens_init 41 = .ok (.aload_n 0, 1) := by decide +kernel
theorem d_PHyphens_init_42 : decode b_PHyphens_init 42 = .ok (.sipush 300, 3) := by decide +kernel
theorem d_PHyphens_init_45 : decode b_PHyphens_init 45 = .ok (.newarray .int, 2) := by decide +kernel
theorem d_PHyphens_init_47 : decode b_PHyphens_init 47 = .ok (.putfield 27, 3) := by decide +kernel
theorem d_PHyphens_init_50 : decode b_PHyphens_init 50 = .ok (.aload_n 0, 1) := by decide +kernel
theorem d_PHyphens_init_51 : decode b_PHyphens_init 51 = .ok (.sipush 128, 3) := by decide +kernel
theorem d_PHyphens_init_54 : decode b_PHyphens_init 54 = .ok (.newarray .int, 2) := by decide +kernel
theorem d_PHyphens_init_56 : decode b_PHyphens_init 56 = .ok (.putfield 30, 3) := by decide +kernel
theorem d_PHyphens_init_59 : decode b_PHyphens_init 59 = .ok (.aload_n 0, 1) := by decide +kernel
theorem d_PHyphens_init_60 : decode b_PHyphens_init 60 = .ok (.sipush 1830, 3) := by decide +kernel
theorem d_PHyphens_init_63 : decode b_PHyphens_init 63 = .ok (.newarray .byte, 2) := by decide +kernel
theorem d_PHyphens_init_65 : decode b_PHyphens_init 65 = .ok (.putfield 33, 3) := by decide +kernel
theorem d_PHyphens_init_68 : decode b_PHyphens_init 68 = .ok (.aload_n 0, 1) := by decide +kernel
theorem d_PHyphens_init_69 : decode b_PHyphens_init 69 = .ok (.bipush 61, 2) := by decide +kernel
theorem d_PHyphens_init_71 : decode b_PHyphens_init 71 = .ok (.newarray .int, 2) := by decide +kernel
theorem d_PHyphens_init_73 : decode b_PHyphens_init 73 = .ok (.putfield 36, 3) := by decide +kernel
theorem d_PHyphens_init_76 : decode b_PHyphens_init 76 = .ok (.aload_n 0, 1) := by decide +kernel
theorem d_PHyphens_init_77 : decode b_PHyphens_init 77 = .ok (.bipush 61, 2) := by decide +kernel
theorem d_PHyphens_init_79 : decode b_PHyphens_init 79 = .ok (.newarray .int, 2) := by decide +kernel
theorem d_PHyphens_init_81 : decode b_PHyphens_init 81 = .ok (.putfield 39, 3) := by decide +kernel
theorem d_PHyphens_init_84 : decode b_PHyphens_init 84 = .ok (.aload_n 0, 1) := by decide +kernel
theorem d_PHyphens_init_85 : decode b_PHyphens_init 85 = .ok (.getfield 30, 3) := by decide +kernel
theorem d_PHyphens_init_88 : decode b_PHyphens_init 88 = .ok (.iconst (-1), 1) := by decide +kernel
theorem d_PHyphens_init_89 : decode b_PHyphens_init 89 = .ok (.invokestatic 42, 3) := by decide +kernel
theorem d_PHyphens_init_92 : decode b_PHyphens_init 92 = .ok (.return_, 1) := by decide +kernel
theorem d_PSigns_init_0 : decode b_PSigns_init 0 = .ok (.aload_n 0, 1) := by decide +kernel
theorem d_PSigns_init_1 : decode b_PSigns_init 1 = .ok (.invokespecial 1, 3) := by decide +kernel
theorem d_PSigns_init_4 : decode b_PSigns_init 4 = .ok (.return_, 1) := by decide +kernel
theorem d_PSource_init_0 : decode b_PSource_init 0 = .ok (.aload_n 0, 1) := by decide +kernel
theorem d_PSource_init_1 : decode b_PSource_init 1 = .ok (.invokespecial 3, 3) := by decide +kernel
theorem d_PSource_init_4 : decode b_PSource_init 4 = .ok (.aload_n 0, 1) := by decide +kernel
theorem d_PSource_init_5 : decode b_PSource_init 5 = .ok (.sipush 16384, 3) := by decide +kernel
theorem d_PSource_init_8 : decode b_PSource_init 8 = .ok (.newarray .byte, 2) := by decide +kernel
theorem d_PSource_init_10 : decode b_PSource_init 10 = .ok (.putfield 9, 3) := by decide +kernel
theorem d_PSource_init_13 : decode b_PSource_init 13 = .ok (.aload_n 0, 1) := by decide +kernel
theorem d_PSource_init_14 : decode b_PSource_init 14 = .ok (.sipush 16384, 3) := by decide +kernel
theorem d_PSource_init_17 : decode b_PSource_init 17 = .ok (.newarray .int, 2) := by decide +kernel
theorem d_PSource_init_19 : decode b_PSource_init 19 = .ok (.putfield 15, 3) := by decide +kernel
theorem d_PSource_init_22 : decode b_PSource_init 22 = .ok (.aload_n 0, 1) := by decide +kernel
theorem d_PSource_init_23 : decode b_PSource_init 23 = .ok (.sipush 500, 3) := by decide +kernel
theorem d_PSource_init_26 : decode b_PSource_init 26 = .ok (.newarray .long, 2) := by decide +kernel
theorem d_PSource_init_28 : decode b_PSource_init 28 = .ok (.putfield 19, 3) := by decide +kernel
theorem d_PSource_init_31 : decode b_PSource_init 31 = .ok (.aload_n 0, 1) := by decide +kernel
theorem d_PSource_init_32 : decode b_PSource_init 32 = .ok (.sipush 5500, 3) := by decide +kernel
theorem d_PSource_init_35 : decode b_PSource_init 35 = .ok (.newarray .int, 2) := by decide +kernel
theorem d_PSource_init_37 : decode b_PSource_init 37 = .ok (.putfield 23, 3) := by decide +kernel
theorem d_PSource_init_40 : decode b_PSource_init 40 = .ok (.aload_n 0, 1) := by decide +kernel
theorem d_PSource_init_41 : decode b_PSource_init 41 = .ok (.sipush 3000, 3) := by decide +kernel
theorem d_PSource_init_44 : decode b_PSource_init 44 = .ok (.newarray .long, 2) := by decide +kernel
theorem d_PSource_init_46 : decode b_PSource_init 46 = .ok (.putfield 26, 3) := by decide +kernel
theorem d_PSource_init_49 : decode b_PSource_init 49 = .ok (.aload_n 0, 1) := by decide +kernel
theorem d_PSource_init_50 : decode b_PSource_init 50 = .ok (.sipush 3000, 3) := by decide +kernel
theorem d_PSource_init_53 : decode b_PSource_init 53 = .ok (.newarray .int, 2) := by decide +kernel
theorem d_PSource_init_55 : decode b_PSource_init 55 = .ok (.putfield 29, 3) := by decide +kernel
theorem d_PSource_init_58 : decode b_PSource_init 58 = .ok (.aload_n 0, 1) := by decide +kernel
theorem d_PSource_init_59 : decode b_PSource_init 59 = .ok (.bipush 40, 2) := by decide +kernel
theorem d_PSource_init_61 : decode b_PSource_init 61 = .ok (.newarray .long, 2) := by decide +kernel
theorem d_PSource_init_63 : decode b_PSource_init 63 = .ok (.putfield 32, 3) := by decide +kernel
theorem d_PSource_init_66 : decode b_PSource_init 66 = .ok (.aload_n 0, 1) := by decide +kernel
theorem d_PSource_init_67 : decode b_PSource_init 67 = .ok (.bipush 40, 2) := by decide +kernel
theorem d_PSource_init_69 : decode b_PSource_init 69 = .ok (.newarray .int, 2) := by decide +kernel
theorem d_PSource_init_71 : decode b_PSource_init 71 = .ok (.putfield 35, 3) := by decide +kernel
theorem d_PSource_init_74 : decode b_PSource_init 74 = .ok (.return_, 1) := by decide +kernel
