abbrev b_PStyle_init : ByteArray := prog_10_method_1_code
abbrev y_PStyle_init : MethodName := ⟨"ScholarsPress$Style", "<init>", "()V"⟩
abbrev w_PStyle_init : Cond := .code y_PStyle_init b_PStyle_init 1 none
theorem kw_PStyle_init : w_PStyle_init ∈ tt := tt_mem 343 (by decide +kernel) (by decide +kernel)
abbrev b_SP_init : ByteArray := prog_1_method_1_code
abbrev y_SP_init : MethodName := ⟨"ScholarsPress", "<init>", "()V"⟩
abbrev w_SP_init : Cond := .code y_SP_init b_SP_init 1 none
theorem kw_SP_init : w_SP_init ∈ tt := tt_mem 287 (by decide +kernel) (by decide +kernel)
theorem k_241 : Cond.initialized "ScholarsPress$Signs" ∈ tt := tt_mem 241 (by decide +kernel) (by decide +kernel)
theorem k_242 : Cond.initialized "ScholarsPress$Style" ∈ tt := tt_mem 242 (by decide +kernel) (by decide +kernel)
theorem k_243 : Cond.initialized "java/lang/System" ∈ tt := tt_mem 243 (by decide +kernel) (by decide +kernel)
theorem k_244 : Cond.initialized "ScholarsPress$Font" ∈ tt := tt_mem 244 (by decide +kernel) (by decide +kernel)
theorem k_246 : Cond.initialized "ScholarsPress$Hyphens" ∈ tt := tt_mem 246 (by decide +kernel) (by decide +kernel)
theorem k_288 : Cond.methodLink "ScholarsPress" 1 ⟨"java/lang/Object", "<init>", "()V"⟩ ∈ tt := tt_mem 288 (by decide +kernel) (by decide +kernel)
theorem k_291 : Cond.classLink "ScholarsPress" 17 "ScholarsPress$Signs" ∈ tt := tt_mem 291 (by decide +kernel) (by decide +kernel)
theorem k_292 : Cond.instantiable "ScholarsPress$Signs" 8 ∈ tt := tt_mem 292 (by decide +kernel) (by decide +kernel)
theorem k_293 : Cond.methodLinkNest "ScholarsPress" 19 ⟨"ScholarsPress$Signs", "<init>", "()V"⟩ "ScholarsPress" ∈ tt := tt_mem 293 (by decide +kernel) (by decide +kernel)
theorem k_294 : Cond.instanceMethod ⟨"ScholarsPress$Signs", "<init>", "()V"⟩ ∈ tt := tt_mem 294 (by decide +kernel) (by decide +kernel)
theorem k_339 : Cond.classLink "ScholarsPress" 24 "ScholarsPress$Style" ∈ tt := tt_mem 339 (by decide +kernel) (by decide +kernel)
theorem k_340 : Cond.instantiable "ScholarsPress$Style" 15 ∈ tt := tt_mem 340 (by decide +kernel) (by decide +kernel)
theorem k_341 : Cond.methodLink "ScholarsPress" 26 ⟨"ScholarsPress$Style", "<init>", "()V"⟩ ∈ tt := tt_mem 341 (by decide +kernel) (by decide +kernel)
theorem k_342 : Cond.instanceMethod ⟨"ScholarsPress$Style", "<init>", "()V"⟩ ∈ tt := tt_mem 342 (by decide +kernel) (by decide +kernel)
theorem k_344 : Cond.methodLink "ScholarsPress$Style" 3 ⟨"java/lang/Object", "<init>", "()V"⟩ ∈ tt := tt_mem 344 (by decide +kernel) (by decide +kernel)
theorem k_345 : Cond.fieldLink "ScholarsPress$Style" 44 "ScholarsPress$Style" "PAGE_BEGINNING" "[I" ∈ tt := tt_mem 345 (by decide +kernel) (by decide +kernel)
theorem k_347 : Cond.methodLink "ScholarsPress$Style" 47 ⟨"java/lang/System", "arraycopy", "(Ljava/lang/Object;ILjava/lang/Object;II)V"⟩ ∈ tt := tt_mem 347 (by decide +kernel) (by decide +kernel)
theorem k_348 : Cond.static ⟨"java/lang/System", "arraycopy", "(Ljava/lang/Object;ILjava/lang/Object;II)V"⟩ ∈ tt := tt_mem 348 (by decide +kernel) (by decide +kernel)
theorem k_349 : Cond.native ⟨"java/lang/System", "arraycopy", "(Ljava/lang/Object;ILjava/lang/Object;II)V"⟩ ∈ tt := tt_mem 349 (by decide +kernel) (by decide +kernel)
theorem k_350 : Cond.fieldLink "ScholarsPress$Style" 9 "ScholarsPress$Style" "text" "[B" ∈ tt := tt_mem 350 (by decide +kernel) (by decide +kernel)
theorem k_353 : Cond.fieldLink "ScholarsPress$Style" 15 "ScholarsPress$Style" "page" "[I" ∈ tt := tt_mem 353 (by decide +kernel) (by decide +kernel)
theorem k_358 : Cond.fieldLink "ScholarsPress$Style" 19 "ScholarsPress$Style" "selector" "[I" ∈ tt := tt_mem 358 (by decide +kernel) (by decide +kernel)
theorem k_361 : Cond.fieldLink "ScholarsPress$Style" 22 "ScholarsPress$Style" "stepNames" "[J" ∈ tt := tt_mem 361 (by decide +kernel) (by decide +kernel)
theorem k_363 : Cond.fieldLink "ScholarsPress$Style" 26 "ScholarsPress$Style" "step" "[I" ∈ tt := tt_mem 363 (by decide +kernel) (by decide +kernel)
theorem k_366 : Cond.fieldLink "ScholarsPress$Style" 29 "ScholarsPress$Style" "conditionNames" "[J" ∈ tt := tt_mem 366 (by decide +kernel) (by decide +kernel)
theorem k_368 : Cond.fieldLink "ScholarsPress$Style" 32 "ScholarsPress$Style" "condition" "[I" ∈ tt := tt_mem 368 (by decide +kernel) (by decide +kernel)
theorem k_371 : Cond.fieldLink "ScholarsPress$Style" 35 "ScholarsPress$Style" "toldProperty" "[I" ∈ tt := tt_mem 371 (by decide +kernel) (by decide +kernel)
theorem k_373 : Cond.fieldLink "ScholarsPress$Style" 38 "ScholarsPress$Style" "toldValue" "[I" ∈ tt := tt_mem 373 (by decide +kernel) (by decide +kernel)
theorem k_376 : Cond.fieldLink "ScholarsPress$Style" 41 "ScholarsPress$Style" "counterNames" "[J" ∈ tt := tt_mem 376 (by decide +kernel) (by decide +kernel)
theorem k_410 : Cond.classLink "ScholarsPress" 31 "ScholarsPress$Font" ∈ tt := tt_mem 410 (by decide +kernel) (by decide +kernel)
theorem k_411 : Cond.instantiable "ScholarsPress$Font" 8 ∈ tt := tt_mem 411 (by decide +kernel) (by decide +kernel)
theorem k_412 : Cond.methodLink "ScholarsPress" 33 ⟨"ScholarsPress$Font", "<init>", "()V"⟩ ∈ tt := tt_mem 412 (by decide +kernel) (by decide +kernel)
theorem k_413 : Cond.instanceMethod ⟨"ScholarsPress$Font", "<init>", "()V"⟩ ∈ tt := tt_mem 413 (by decide +kernel) (by decide +kernel)
theorem k_447 : Cond.classLink "ScholarsPress" 38 "ScholarsPress$Hyphens" ∈ tt := tt_mem 447 (by decide +kernel) (by decide +kernel)
theorem k_448 : Cond.instantiable "ScholarsPress$Hyphens" 14 ∈ tt := tt_mem 448 (by decide +kernel) (by decide +kernel)
theorem k_449 : Cond.methodLink "ScholarsPress" 40 ⟨"ScholarsPress$Hyphens", "<init>", "()V"⟩ ∈ tt := tt_mem 449 (by decide +kernel) (by decide +kernel)
theorem k_450 : Cond.instanceMethod ⟨"ScholarsPress$Hyphens", "<init>", "()V"⟩ ∈ tt := tt_mem 450 (by decide +kernel) (by decide +kernel)
theorem k_503 : Cond.fieldLink "ScholarsPress" 20 "ScholarsPress" "signs" "LScholarsPress$Signs;" ∈ tt := tt_mem 503 (by decide +kernel) (by decide +kernel)
theorem k_506 : Cond.fieldLink "ScholarsPress" 27 "ScholarsPress" "styleNow" "LScholarsPress$Style;" ∈ tt := tt_mem 506 (by decide +kernel) (by decide +kernel)
theorem k_508 : Cond.fieldLink "ScholarsPress" 34 "ScholarsPress" "fontNow" "LScholarsPress$Font;" ∈ tt := tt_mem 508 (by decide +kernel) (by decide +kernel)
theorem k_510 : Cond.fieldLink "ScholarsPress" 41 "ScholarsPress" "hyphensNow" "LScholarsPress$Hyphens;" ∈ tt := tt_mem 510 (by decide +kernel) (by decide +kernel)
theorem d_PStyle_init_0 : decode b_PStyle_init 0 = .ok (.aload_n 0, 1) := by decide +kernel
theorem d_PStyle_init_1 : decode b_PStyle_init 1 = .ok (.invokespecial 3, 3) := by decide +kernel
theorem d_PStyle_init_4 : decode b_PStyle_init 4 = .ok (.aload_n 0, 1) := by decide +kernel
theorem d_PStyle_init_5 : decode b_PStyle_init 5 = .ok (.sipush 16384, 3) := by decide +kernel
theorem d_PStyle_init_8 : decode b_PStyle_init 8 = .ok (.newarray .byte, 2) := by decide +kernel
theorem d_PStyle_init_10 : decode b_PStyle_init 10 = .ok (.putfield 9, 3) := by decide +kernel
theorem d_PStyle_init_13 : decode b_PStyle_init 13 = .ok (.aload_n 0, 1) := by decide +kernel
theorem d_PStyle_init_14 : decode b_PStyle_init 14 = .ok (.bipush 6, 2) := by decide +kernel
theorem d_PStyle_init_16 : decode b_PStyle_init 16 = .ok (.newarray .int, 2) := by decide +kernel
theorem d_PStyle_init_18 : decode b_PStyle_init 18 = .ok (.putfield 15, 3) := by decide +kernel
theorem d_PStyle_init_21 : decode b_PStyle_init 21 = .ok (.aload_n 0, 1) := by decide +kernel
theorem d_PStyle_init_22 : decode b_PStyle_init 22 = .ok (.sipush 600, 3) := by decide +kernel
theorem d_PStyle_init_25 : decode b_PStyle_init 25 = .ok (.newarray .int, 2) := by decide +kernel
theorem d_PStyle_init_27 : decode b_PStyle_init 27 = .ok (.putfield 19, 3) := by decide +kernel
theorem d_PStyle_init_30 : decode b_PStyle_init 30 = .ok (.aload_n 0, 1) := by decide +kernel
theorem d_PStyle_init_31 : decode b_PStyle_init 31 = .ok (.sipush 960, 3) := by decide +kernel
theorem d_PStyle_init_34 : decode b_PStyle_init 34 = .ok (.newarray .long, 2) := by decide +kernel
theorem d_PStyle_init_36 : decode b_PStyle_init 36 = .ok (.putfield 22, 3) := by decide +kernel
theorem d_PStyle_init_39 : decode b_PStyle_init 39 = .ok (.aload_n 0, 1) := by decide +kernel
theorem d_PStyle_init_40 : decode b_PStyle_init 40 = .ok (.sipush 2880, 3) := by decide +kernel
theorem d_PStyle_init_43 : decode b_PStyle_init 43 = .ok (.newarray .int, 2) := by decide +kernel
theorem d_PStyle_init_45 : decode b_PStyle_init 45 = .ok (.putfield 26, 3) := by decide +kernel
theorem d_PStyle_init_48 : decode b_PStyle_init 48 = .ok (.aload_n 0, 1) := by decide +kernel
theorem d_PStyle_init_49 : decode b_PStyle_init 49 = .ok (.sipush 3840, 3) := by decide +kernel
theorem d_PStyle_init_52 : decode b_PStyle_init 52 = .ok (.newarray .long, 2) := by decide +kernel
theorem d_PStyle_init_54 : decode b_PStyle_init 54 = .ok (.putfield 29, 3) := by decide +kernel
theorem d_PStyle_init_57 : decode b_PStyle_init 57 = .ok (.aload_n 0, 1) := by decide +kernel
theorem d_PStyle_init_58 : decode b_PStyle_init 58 = .ok (.sipush 11520, 3) := by decide +kernel
theorem d_PStyle_init_61 : decode b_PStyle_init 61 = .ok (.newarray .int, 2) := by decide +kernel
theorem d_PStyle_init_63 : decode b_PStyle_init 63 = .ok (.putfield 32, 3) := by decide +kernel
theorem d_PStyle_init_66 : decode b_PStyle_init 66 = .ok (.aload_n 0, 1) := by decide +kernel
theorem d_PStyle_init_67 : decode b_PStyle_init 67 = .ok (.sipush 600, 3) := by decide +kernel
theorem d_PStyle_init_70 : decode b_PStyle_init 70 = .ok (.newarray .int, 2) := by decide +kernel
theorem d_PStyle_init_72 : decode b_PStyle_init 72 = .ok (.putfield 35, 3) := by decide +kernel
theorem d_PStyle_init_75 : decode b_PStyle_init 75 = .ok (.aload_n 0, 1) := by decide +kernel
theorem d_PStyle_init_76 : decode b_PStyle_init 76 = .ok (.sipush 600, 3) := by decide +kernel
theorem d_PStyle_init_79 : decode b_PStyle_init 79 = .ok (.newarray .int, 2) := by decide +kernel
theorem d_PStyle_init_81 : decode b_PStyle_init 81 = .ok (.putfield 38, 3) := by decide +kernel
theorem d_PStyle_init_84 : decode b_PStyle_init 84 = .ok (.aload_n 0, 1) := by decide +kernel
theorem d_PStyle_init_85 : decode b_PStyle_init 85 = .ok (.bipush 12, 2) := by decide +kernel
theorem d_PStyle_init_87 : decode b_PStyle_init 87 = .ok (.newarray .long, 2) := by decide +kernel
theorem d_PStyle_init_89 : decode b_PStyle_init 89 = .ok (.putfield 41, 3) := by decide +kernel
theorem d_PStyle_init_92 : decode b_PStyle_init 92 = .ok (.getstatic 44, 3) := by decide +kernel
theorem d_PStyle_init_95 : decode b_PStyle_init 95 = .ok (.iconst 0, 1) := by decide +kernel
theorem d_PStyle_init_96 : decode b_PStyle_init 96 = .ok (.aload_n 0, 1) := by decide +kernel
theorem d_PStyle_init_97 : decode b_PStyle_init 97 = .ok (.getfield 15, 3) := by decide +kernel
theorem d_PStyle_init_100 : decode b_PStyle_init 100 = .ok (.iconst 0, 1) := by decide +kernel
theorem d_PStyle_init_101 : decode b_PStyle_init 101 = .ok (.bipush 6, 2) := by decide +kernel
theorem d_PStyle_init_103 : decode b_PStyle_init 103 = .ok (.invokestatic 47, 3) := by decide +kernel
theorem d_PStyle_init_106 : decode b_PStyle_init 106 = .ok (.return_, 1) := by decide +kernel
theorem d_SP_init_0 : decode b_SP_init 0 = .ok (.aload_n 0, 1) := by decide +kernel
theorem d_SP_init_1 : decode b_SP_init 1 = .ok (.invokespecial 1, 3) := by decide +kernel
theorem d_SP_init_4 : decode b_SP_init 4 = .ok (.aload_n 0, 1) := by decide +kernel
theorem d_SP_init_5 : decode b_SP_init 5 = .ok (.sipush 16384, 3) := by decide +kernel
theorem d_SP_init_8 : decode b_SP_init 8 = .ok (.newarray .byte, 2) := by decide +kernel
theorem d_SP_init_10 : decode b_SP_init 10 = .ok (.putfield 9, 3) := by decide +kernel
theorem d_SP_init_13 : decode b_SP_init 13 = .ok (.aload_n 0, 1) := by decide +kernel
theorem d_SP_init_14 : decode b_SP_init 14 = .ok (.iconst (-1), 1) := by decide +kernel
theorem d_SP_init_15 : decode b_SP_init 15 = .ok (.putfield 13, 3) := by decide +kernel
theorem d_SP_init_18 : decode b_SP_init 18 = .ok (.aload_n 0, 1) := by decide +kernel
theorem d_SP_init_19 : decode b_SP_init 19 = .ok (.new 17, 3) := by decide +kernel
theorem d_SP_init_22 : decode b_SP_init 22 = .ok (.dup, 1) := by decide +kernel
theorem d_SP_init_23 : decode b_SP_init 23 = .ok (.invokespecial 19, 3) := by decide +kernel
theorem d_SP_init_26 : decode b_SP_init 26 = .ok (.putfield 20, 3) := by decide +kernel
theorem d_SP_init_29 : decode b_SP_init 29 = .ok (.aload_n 0, 1) := by decide +kernel
theorem d_SP_init_30 : decode b_SP_init 30 = .ok (.new 24, 3) := by decide +kernel
theorem d_SP_init_33 : decode b_SP_init 33 = .ok (.dup, 1) := by decide +kernel
theorem d_SP_init_34 : decode b_SP_init 34 = .ok (.invokespecial 26, 3) := by decide +kernel
theorem d_SP_init_37 : decode b_SP_init 37 = .ok (.putfield 27, 3) := by decide +kernel
theorem d_SP_init_40 : decode b_SP_init 40 = .ok (.aload_n 0, 1) := by decide +kernel
theorem d_SP_init_41 : decode b_SP_init 41 = .ok (.new 31, 3) := by decide +kernel
theorem d_SP_init_44 : decode b_SP_init 44 = .ok (.dup, 1) := by decide +kernel
theorem d_SP_init_45 : decode b_SP_init 45 = .ok (.invokespecial 33, 3) := by decide +kernel
theorem d_SP_init_48 : decode b_SP_init 48 = .ok (.putfield 34, 3) := by decide +kernel
theorem d_SP_init_51 : decode b_SP_init 51 = .ok (.aload_n 0, 1) := by decide +kernel
theorem d_SP_init_52 : decode b_SP_init 52 = .ok (.new 38, 3) := by decide +kernel
theorem d_SP_init_55 : decode b_SP_init 55 = .ok (.dup, 1) := by decide +kernel
theorem d_SP_init_56 : decode b_SP_init 56 = .ok (.invokespecial 40, 3) := by decide +kernel
theorem d_SP_init_59 : decode b_SP_init 59 = .ok (.putfield 41, 3) := by decide +kernel
theorem d_SP_init_62 : decode b_SP_init 62 = .ok (.return_, 1) := by decide +kernel
