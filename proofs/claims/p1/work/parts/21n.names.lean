abbrev b_MLetters_init : ByteArray := prog_17_method_1_code
abbrev y_MLetters_init : MethodName := ⟨"ScholarsPressModel$Letters", "<init>", "()V"⟩
abbrev w_MLetters_init : Cond := .code y_MLetters_init b_MLetters_init 1 none
theorem kw_MLetters_init : w_MLetters_init ∈ tt := tt_mem 2709 (by decide +kernel) (by decide +kernel)
theorem k_248 : Cond.initialized "ScholarsPressModel$Letters" ∈ tt := tt_mem 248 (by decide +kernel) (by decide +kernel)
theorem k_2710 : Cond.methodLink "ScholarsPressModel$Letters" 1 ⟨"java/lang/Object", "<init>", "()V"⟩ ∈ tt := tt_mem 2710 (by decide +kernel) (by decide +kernel)
theorem k_2711 : Cond.classLink "ScholarsPressModel$Letters" 29 "ScholarsPressModel$Signs" ∈ tt := tt_mem 2711 (by decide +kernel) (by decide +kernel)
theorem k_2713 : Cond.methodLinkNest "ScholarsPressModel$Letters" 31 ⟨"ScholarsPressModel$Signs", "<init>", "()V"⟩ "ScholarsPressModel" ∈ tt := tt_mem 2713 (by decide +kernel) (by decide +kernel)
theorem k_2750 : Cond.methodLink "ScholarsPressModel$Letters" 36 ⟨"ScholarsPressModel$Letters", "clear", "()V"⟩ ∈ tt := tt_mem 2750 (by decide +kernel) (by decide +kernel)
theorem k_2751 : Cond.instanceMethod ⟨"ScholarsPressModel$Letters", "clear", "()V"⟩ ∈ tt := tt_mem 2751 (by decide +kernel) (by decide +kernel)
theorem k_2752 : Cond.selects "ScholarsPressModel$Letters" ⟨"ScholarsPressModel$Letters", "clear", "()V"⟩ ⟨"ScholarsPressModel$Letters", "clear", "()V"⟩ ∈ tt := tt_mem 2752 (by decide +kernel) (by decide +kernel)
theorem k_2759 : Cond.fieldLink "ScholarsPressModel$Letters" 17 "ScholarsPressModel$Letters" "kernOf" "[I" ∈ tt := tt_mem 2759 (by decide +kernel) (by decide +kernel)
theorem k_2760 : Cond.fieldLink "ScholarsPressModel$Letters" 20 "ScholarsPressModel$Letters" "kern" "[I" ∈ tt := tt_mem 2760 (by decide +kernel) (by decide +kernel)
theorem k_2761 : Cond.fieldLink "ScholarsPressModel$Letters" 23 "ScholarsPressModel$Letters" "joinOf" "[I" ∈ tt := tt_mem 2761 (by decide +kernel) (by decide +kernel)
theorem k_2762 : Cond.fieldLink "ScholarsPressModel$Letters" 26 "ScholarsPressModel$Letters" "join" "[I" ∈ tt := tt_mem 2762 (by decide +kernel) (by decide +kernel)
theorem k_2763 : Cond.fieldLink "ScholarsPressModel$Letters" 32 "ScholarsPressModel$Letters" "signs" "LScholarsPressModel$Signs;" ∈ tt := tt_mem 2763 (by decide +kernel) (by decide +kernel)
theorem d_MLetters_init_0 : decode b_MLetters_init 0 = .ok (.aload_n 0, 1) := by decide +kernel
theorem d_MLetters_init_1 : decode b_MLetters_init 1 = .ok (.invokespecial 1, 3) := by decide +kernel
theorem d_MLetters_init_4 : decode b_MLetters_init 4 = .ok (.aload_n 0, 1) := by decide +kernel
theorem d_MLetters_init_5 : decode b_MLetters_init 5 = .ok (.sipush 256, 3) := by decide +kernel
theorem d_MLetters_init_8 : decode b_MLetters_init 8 = .ok (.newarray .int, 2) := by decide +kernel
theorem d_MLetters_init_10 : decode b_MLetters_init 10 = .ok (.putfield 7, 3) := by decide +kernel
theorem d_MLetters_init_13 : decode b_MLetters_init 13 = .ok (.aload_n 0, 1) := by decide +kernel
theorem d_MLetters_init_14 : decode b_MLetters_init 14 = .ok (.sipush 256, 3) := by decide +kernel
theorem d_MLetters_init_17 : decode b_MLetters_init 17 = .ok (.newarray .boolean, 2) := by decide +kernel
theorem d_MLetters_init_19 : decode b_MLetters_init 19 = .ok (.putfield 13, 3) := by decide +kernel
theorem d_MLetters_init_22 : decode b_MLetters_init 22 = .ok (.aload_n 0, 1) := by decide +kernel
theorem d_MLetters_init_23 : decode b_MLetters_init 23 = .ok (.sipush 200, 3) := by decide +kernel
theorem d_MLetters_init_26 : decode b_MLetters_init 26 = .ok (.newarray .int, 2) := by decide +kernel
theorem d_MLetters_init_28 : decode b_MLetters_init 28 = .ok (.putfield 17, 3) := by decide +kernel
theorem d_MLetters_init_31 : decode b_MLetters_init 31 = .ok (.aload_n 0, 1) := by decide +kernel
theorem d_MLetters_init_32 : decode b_MLetters_init 32 = .ok (.sipush 200, 3) := by decide +kernel
theorem d_MLetters_init_35 : decode b_MLetters_init 35 = .ok (.newarray .int, 2) := by decide +kernel
theorem d_MLetters_init_37 : decode b_MLetters_init 37 = .ok (.putfield 20, 3) := by decide +kernel
theorem d_MLetters_init_40 : decode b_MLetters_init 40 = .ok (.aload_n 0, 1) := by decide +kernel
theorem d_MLetters_init_41 : decode b_MLetters_init 41 = .ok (.bipush 60, 2) := by decide +kernel
theorem d_MLetters_init_43 : decode b_MLetters_init 43 = .ok (.newarray .int, 2) := by decide +kernel
theorem d_MLetters_init_45 : decode b_MLetters_init 45 = .ok (.putfield 23, 3) := by decide +kernel
theorem d_MLetters_init_48 : decode b_MLetters_init 48 = .ok (.aload_n 0, 1) := by decide +kernel
theorem d_MLetters_init_49 : decode b_MLetters_init 49 = .ok (.bipush 60, 2) := by decide +kernel
theorem d_MLetters_init_51 : decode b_MLetters_init 51 = .ok (.newarray .int, 2) := by decide +kernel
theorem d_MLetters_init_53 : decode b_MLetters_init 53 = .ok (.putfield 26, 3) := by decide +kernel
theorem d_MLetters_init_56 : decode b_MLetters_init 56 = .ok (.aload_n 0, 1) := by decide +kernel
theorem d_MLetters_init_57 : decode b_MLetters_init 57 = .ok (.new 29, 3) := by decide +kernel
theorem d_MLetters_init_60 : decode b_MLetters_init 60 = .ok (.dup, 1) := by decide +kernel
theorem d_MLetters_init_61 : decode b_MLetters_init 61 = .ok (.invokespecial 31, 3) := by decide +kernel
theorem d_MLetters_init_64 : decode b_MLetters_init 64 = .ok (.putfield 32, 3) := by decide +kernel
theorem d_MLetters_init_67 : decode b_MLetters_init 67 = .ok (.aload_n 0, 1) := by decide +kernel
theorem d_MLetters_init_68 : decode b_MLetters_init 68 = .ok (.invokevirtual 36, 3) := by decide +kernel
theorem d_MLetters_init_71 : decode b_MLetters_init 71 = .ok (.return_, 1) := by decide +kernel
