abbrev b_MStyle_clear : ByteArray := prog_22_method_2_code
abbrev y_MStyle_clear : MethodName := ⟨"ScholarsPressModel$Style", "clear", "()V"⟩
abbrev w_MStyle_clear : Cond := .code y_MStyle_clear b_MStyle_clear 1 none
theorem kw_MStyle_clear : w_MStyle_clear ∈ tt := tt_mem 2845 (by decide +kernel) (by decide +kernel)
theorem k_2846 : Cond.constant "ScholarsPressModel$Style" 86 (300000 : Int32) ∈ tt := tt_mem 2846 (by decide +kernel) (by decide +kernel)
theorem k_2847 : Cond.constant "ScholarsPressModel$Style" 87 (400000 : Int32) ∈ tt := tt_mem 2847 (by decide +kernel) (by decide +kernel)
theorem k_2851 : Cond.fieldLink "ScholarsPressModel$Style" 22 "ScholarsPressModel$Style" "page" "[I" ∈ tt := tt_mem 2851 (by decide +kernel) (by decide +kernel)
theorem k_2853 : Cond.fieldLink "ScholarsPressModel$Style" 88 "ScholarsPressModel$Style" "selectors" "I" ∈ tt := tt_mem 2853 (by decide +kernel) (by decide +kernel)
theorem k_2856 : Cond.fieldLink "ScholarsPressModel$Style" 92 "ScholarsPressModel$Style" "steps" "I" ∈ tt := tt_mem 2856 (by decide +kernel) (by decide +kernel)
theorem k_2857 : Cond.fieldLink "ScholarsPressModel$Style" 95 "ScholarsPressModel$Style" "tests" "I" ∈ tt := tt_mem 2857 (by decide +kernel) (by decide +kernel)
theorem k_2858 : Cond.fieldLink "ScholarsPressModel$Style" 98 "ScholarsPressModel$Style" "bodies" "I" ∈ tt := tt_mem 2858 (by decide +kernel) (by decide +kernel)
theorem k_2859 : Cond.fieldLink "ScholarsPressModel$Style" 101 "ScholarsPressModel$Style" "props" "I" ∈ tt := tt_mem 2859 (by decide +kernel) (by decide +kernel)
theorem k_2860 : Cond.fieldLink "ScholarsPressModel$Style" 104 "ScholarsPressModel$Style" "counters" "I" ∈ tt := tt_mem 2860 (by decide +kernel) (by decide +kernel)
theorem k_2861 : Cond.fieldLink "ScholarsPressModel$Style" 26 "ScholarsPressModel$Style" "selectorFrom" "[I" ∈ tt := tt_mem 2861 (by decide +kernel) (by decide +kernel)
theorem k_2871 : Cond.fieldLink "ScholarsPressModel$Style" 41 "ScholarsPressModel$Style" "stepTests" "[I" ∈ tt := tt_mem 2871 (by decide +kernel) (by decide +kernel)
theorem k_2885 : Cond.fieldLink "ScholarsPressModel$Style" 62 "ScholarsPressModel$Style" "bodyFrom" "[I" ∈ tt := tt_mem 2885 (by decide +kernel) (by decide +kernel)
theorem d_MStyle_clear_0 : decode b_MStyle_clear 0 = .ok (.aload_n 0, 1) := by decide +kernel
theorem d_MStyle_clear_1 : decode b_MStyle_clear 1 = .ok (.getfield 22, 3) := by decide +kernel
theorem d_MStyle_clear_4 : decode b_MStyle_clear 4 = .ok (.iconst 0, 1) := by decide +kernel
theorem d_MStyle_clear_5 : decode b_MStyle_clear 5 = .ok (.ldc 86, 2) := by decide +kernel
theorem d_MStyle_clear_7 : decode b_MStyle_clear 7 = .ok (.iastore, 1) := by decide +kernel
theorem d_MStyle_clear_8 : decode b_MStyle_clear 8 = .ok (.aload_n 0, 1) := by decide +kernel
theorem d_MStyle_clear_9 : decode b_MStyle_clear 9 = .ok (.getfield 22, 3) := by decide +kernel
theorem d_MStyle_clear_12 : decode b_MStyle_clear 12 = .ok (.iconst 1, 1) := by decide +kernel
theorem d_MStyle_clear_13 : decode b_MStyle_clear 13 = .ok (.ldc 87, 2) := by decide +kernel
theorem d_MStyle_clear_15 : decode b_MStyle_clear 15 = .ok (.iastore, 1) := by decide +kernel
theorem d_MStyle_clear_16 : decode b_MStyle_clear 16 = .ok (.aload_n 0, 1) := by decide +kernel
theorem d_MStyle_clear_17 : decode b_MStyle_clear 17 = .ok (.getfield 22, 3) := by decide +kernel
theorem d_MStyle_clear_20 : decode b_MStyle_clear 20 = .ok (.iconst 2, 1) := by decide +kernel
theorem d_MStyle_clear_21 : decode b_MStyle_clear 21 = .ok (.iconst 1, 1) := by decide +kernel
theorem d_MStyle_clear_22 : decode b_MStyle_clear 22 = .ok (.iastore, 1) := by decide +kernel
theorem d_MStyle_clear_23 : decode b_MStyle_clear 23 = .ok (.aload_n 0, 1) := by decide +kernel
theorem d_MStyle_clear_24 : decode b_MStyle_clear 24 = .ok (.getfield 22, 3) := by decide +kernel
theorem d_MStyle_clear_27 : decode b_MStyle_clear 27 = .ok (.iconst 3, 1) := by decide +kernel
theorem d_MStyle_clear_28 : decode b_MStyle_clear 28 = .ok (.sipush 10000, 3) := by decide +kernel
theorem d_MStyle_clear_31 : decode b_MStyle_clear 31 = .ok (.iastore, 1) := by decide +kernel
theorem d_MStyle_clear_32 : decode b_MStyle_clear 32 = .ok (.aload_n 0, 1) := by decide +kernel
theorem d_MStyle_clear_33 : decode b_MStyle_clear 33 = .ok (.getfield 22, 3) := by decide +kernel
theorem d_MStyle_clear_36 : decode b_MStyle_clear 36 = .ok (.iconst 4, 1) := by decide +kernel
theorem d_MStyle_clear_37 : decode b_MStyle_clear 37 = .ok (.sipush 6000, 3) := by decide +kernel
theorem d_MStyle_clear_40 : decode b_MStyle_clear 40 = .ok (.iastore, 1) := by decide +kernel
theorem d_MStyle_clear_41 : decode b_MStyle_clear 41 = .ok (.aload_n 0, 1) := by decide +kernel
theorem d_MStyle_clear_42 : decode b_MStyle_clear 42 = .ok (.getfield 22, 3) := by decide +kernel
theorem d_MStyle_clear_45 : decode b_MStyle_clear 45 = .ok (.iconst 5, 1) := by decide +kernel
theorem d_MStyle_clear_46 : decode b_MStyle_clear 46 = .ok (.iconst 0, 1) := by decide +kernel
theorem d_MStyle_clear_47 : decode b_MStyle_clear 47 = .ok (.iastore, 1) := by decide +kernel
theorem d_MStyle_clear_48 : decode b_MStyle_clear 48 = .ok (.aload_n 0, 1) := by decide +kernel
theorem d_MStyle_clear_49 : decode b_MStyle_clear 49 = .ok (.iconst 0, 1) := by decide +kernel
theorem d_MStyle_clear_50 : decode b_MStyle_clear 50 = .ok (.putfield 88, 3) := by decide +kernel
theorem d_MStyle_clear_53 : decode b_MStyle_clear 53 = .ok (.aload_n 0, 1) := by decide +kernel
theorem d_MStyle_clear_54 : decode b_MStyle_clear 54 = .ok (.iconst 0, 1) := by decide +kernel
theorem d_MStyle_clear_55 : decode b_MStyle_clear 55 = .ok (.putfield 92, 3) := by decide +kernel
theorem d_MStyle_clear_58 : decode b_MStyle_clear 58 = .ok (.aload_n 0, 1) := by decide +kernel
theorem d_MStyle_clear_59 : decode b_MStyle_clear 59 = .ok (.iconst 0, 1) := by decide +kernel
theorem d_MStyle_clear_60 : decode b_MStyle_clear 60 = .ok (.putfield 95, 3) := by decide +kernel
theorem d_MStyle_clear_63 : decode b_MStyle_clear 63 = .ok (.aload_n 0, 1) := by decide +kernel
theorem d_MStyle_clear_64 : decode b_MStyle_clear 64 = .ok (.iconst 0, 1) := by decide +kernel
theorem d_MStyle_clear_65 : decode b_MStyle_clear 65 = .ok (.putfield 98, 3) := by decide +kernel
theorem d_MStyle_clear_68 : decode b_MStyle_clear 68 = .ok (.aload_n 0, 1) := by decide +kernel
theorem d_MStyle_clear_69 : decode b_MStyle_clear 69 = .ok (.iconst 0, 1) := by decide +kernel
theorem d_MStyle_clear_70 : decode b_MStyle_clear 70 = .ok (.putfield 101, 3) := by decide +kernel
theorem d_MStyle_clear_73 : decode b_MStyle_clear 73 = .ok (.aload_n 0, 1) := by decide +kernel
theorem d_MStyle_clear_74 : decode b_MStyle_clear 74 = .ok (.iconst 0, 1) := by decide +kernel
theorem d_MStyle_clear_75 : decode b_MStyle_clear 75 = .ok (.putfield 104, 3) := by decide +kernel
theorem d_MStyle_clear_78 : decode b_MStyle_clear 78 = .ok (.aload_n 0, 1) := by decide +kernel
theorem d_MStyle_clear_79 : decode b_MStyle_clear 79 = .ok (.getfield 62, 3) := by decide +kernel
theorem d_MStyle_clear_82 : decode b_MStyle_clear 82 = .ok (.iconst 0, 1) := by decide +kernel
theorem d_MStyle_clear_83 : decode b_MStyle_clear 83 = .ok (.iconst 0, 1) := by decide +kernel
theorem d_MStyle_clear_84 : decode b_MStyle_clear 84 = .ok (.iastore, 1) := by decide +kernel
theorem d_MStyle_clear_85 : decode b_MStyle_clear 85 = .ok (.aload_n 0, 1) := by decide +kernel
theorem d_MStyle_clear_86 : decode b_MStyle_clear 86 = .ok (.getfield 41, 3) := by decide +kernel
theorem d_MStyle_clear_89 : decode b_MStyle_clear 89 = .ok (.iconst 0, 1) := by decide +kernel
theorem d_MStyle_clear_90 : decode b_MStyle_clear 90 = .ok (.iconst 0, 1) := by decide +kernel
theorem d_MStyle_clear_91 : decode b_MStyle_clear 91 = .ok (.iastore, 1) := by decide +kernel
theorem d_MStyle_clear_92 : decode b_MStyle_clear 92 = .ok (.aload_n 0, 1) := by decide +kernel
theorem d_MStyle_clear_93 : decode b_MStyle_clear 93 = .ok (.getfield 26, 3) := by decide +kernel
theorem d_MStyle_clear_96 : decode b_MStyle_clear 96 = .ok (.iconst 0, 1) := by decide +kernel
theorem d_MStyle_clear_97 : decode b_MStyle_clear 97 = .ok (.iconst 0, 1) := by decide +kernel
theorem d_MStyle_clear_98 : decode b_MStyle_clear 98 = .ok (.iastore, 1) := by decide +kernel
theorem d_MStyle_clear_99 : decode b_MStyle_clear 99 = .ok (.return_, 1) := by decide +kernel
