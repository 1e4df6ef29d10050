abbrev b_SM_init : ByteArray := prog_14_method_1_code
abbrev y_SM_init : MethodName := ⟨"ScholarsPressModel", "<init>", "()V"⟩
abbrev w_SM_init : Cond := .code y_SM_init b_SM_init 1 none
theorem kw_SM_init : w_SM_init ∈ tt := tt_mem 2703 (by decide +kernel) (by decide +kernel)
theorem k_250 : Cond.initialized "ScholarsPressModel$Parting" ∈ tt := tt_mem 250 (by decide +kernel) (by decide +kernel)
theorem k_254 : Cond.initialized "ScholarsPressModel$Setting" ∈ tt := tt_mem 254 (by decide +kernel) (by decide +kernel)
theorem k_2704 : Cond.methodLink "ScholarsPressModel" 1 ⟨"java/lang/Object", "<init>", "()V"⟩ ∈ tt := tt_mem 2704 (by decide +kernel) (by decide +kernel)
theorem k_2705 : Cond.classLink "ScholarsPressModel" 17 "ScholarsPressModel$Letters" ∈ tt := tt_mem 2705 (by decide +kernel) (by decide +kernel)
theorem k_2706 : Cond.instantiable "ScholarsPressModel$Letters" 9 ∈ tt := tt_mem 2706 (by decide +kernel) (by decide +kernel)
theorem k_2707 : Cond.methodLink "ScholarsPressModel" 19 ⟨"ScholarsPressModel$Letters", "<init>", "()V"⟩ ∈ tt := tt_mem 2707 (by decide +kernel) (by decide +kernel)
theorem k_2708 : Cond.instanceMethod ⟨"ScholarsPressModel$Letters", "<init>", "()V"⟩ ∈ tt := tt_mem 2708 (by decide +kernel) (by decide +kernel)
theorem k_2783 : Cond.classLink "ScholarsPressModel" 27 "ScholarsPressModel$Parting" ∈ tt := tt_mem 2783 (by decide +kernel) (by decide +kernel)
theorem k_2784 : Cond.instantiable "ScholarsPressModel$Parting" 14 ∈ tt := tt_mem 2784 (by decide +kernel) (by decide +kernel)
theorem k_2785 : Cond.methodLinkNest "ScholarsPressModel" 29 ⟨"ScholarsPressModel$Parting", "<init>", "()V"⟩ "ScholarsPressModel" ∈ tt := tt_mem 2785 (by decide +kernel) (by decide +kernel)
theorem k_2786 : Cond.instanceMethod ⟨"ScholarsPressModel$Parting", "<init>", "()V"⟩ ∈ tt := tt_mem 2786 (by decide +kernel) (by decide +kernel)
theorem k_2834 : Cond.classLink "ScholarsPressModel" 37 "ScholarsPressModel$Style" ∈ tt := tt_mem 2834 (by decide +kernel) (by decide +kernel)
theorem k_2835 : Cond.instantiable "ScholarsPressModel$Style" 28 ∈ tt := tt_mem 2835 (by decide +kernel) (by decide +kernel)
theorem k_2836 : Cond.methodLink "ScholarsPressModel" 39 ⟨"ScholarsPressModel$Style", "<init>", "()V"⟩ ∈ tt := tt_mem 2836 (by decide +kernel) (by decide +kernel)
theorem k_2837 : Cond.instanceMethod ⟨"ScholarsPressModel$Style", "<init>", "()V"⟩ ∈ tt := tt_mem 2837 (by decide +kernel) (by decide +kernel)
theorem k_2954 : Cond.classLink "ScholarsPressModel" 47 "ScholarsPressModel$Source" ∈ tt := tt_mem 2954 (by decide +kernel) (by decide +kernel)
theorem k_2956 : Cond.methodLinkNest "ScholarsPressModel" 49 ⟨"ScholarsPressModel$Source", "<init>", "()V"⟩ "ScholarsPressModel" ∈ tt := tt_mem 2956 (by decide +kernel) (by decide +kernel)
theorem k_3078 : Cond.classLink "ScholarsPressModel" 60 "ScholarsPressModel$Tree" ∈ tt := tt_mem 3078 (by decide +kernel) (by decide +kernel)
theorem k_3080 : Cond.methodLinkNest "ScholarsPressModel" 62 ⟨"ScholarsPressModel$Tree", "<init>", "()V"⟩ "ScholarsPressModel" ∈ tt := tt_mem 3080 (by decide +kernel) (by decide +kernel)
theorem k_3197 : Cond.classLink "ScholarsPressModel" 67 "ScholarsPressModel$Setting" ∈ tt := tt_mem 3197 (by decide +kernel) (by decide +kernel)
theorem k_3198 : Cond.instantiable "ScholarsPressModel$Setting" 141 ∈ tt := tt_mem 3198 (by decide +kernel) (by decide +kernel)
theorem k_3199 : Cond.methodLinkNest "ScholarsPressModel" 69 ⟨"ScholarsPressModel$Setting", "<init>", "()V"⟩ "ScholarsPressModel" ∈ tt := tt_mem 3199 (by decide +kernel) (by decide +kernel)
theorem k_3200 : Cond.instanceMethod ⟨"ScholarsPressModel$Setting", "<init>", "()V"⟩ ∈ tt := tt_mem 3200 (by decide +kernel) (by decide +kernel)
theorem k_3684 : Cond.fieldLink "ScholarsPressModel" 20 "ScholarsPressModel" "letters" "LScholarsPressModel$Letters;" ∈ tt := tt_mem 3684 (by decide +kernel) (by decide +kernel)
theorem k_3685 : Cond.fieldLink "ScholarsPressModel" 24 "ScholarsPressModel" "letters2" "LScholarsPressModel$Letters;" ∈ tt := tt_mem 3685 (by decide +kernel) (by decide +kernel)
theorem k_3686 : Cond.fieldLink "ScholarsPressModel" 30 "ScholarsPressModel" "parting" "LScholarsPressModel$Parting;" ∈ tt := tt_mem 3686 (by decide +kernel) (by decide +kernel)
theorem k_3687 : Cond.fieldLink "ScholarsPressModel" 34 "ScholarsPressModel" "parting2" "LScholarsPressModel$Parting;" ∈ tt := tt_mem 3687 (by decide +kernel) (by decide +kernel)
theorem k_3688 : Cond.fieldLink "ScholarsPressModel" 40 "ScholarsPressModel" "style" "LScholarsPressModel$Style;" ∈ tt := tt_mem 3688 (by decide +kernel) (by decide +kernel)
theorem k_3689 : Cond.fieldLink "ScholarsPressModel" 44 "ScholarsPressModel" "style2" "LScholarsPressModel$Style;" ∈ tt := tt_mem 3689 (by decide +kernel) (by decide +kernel)
theorem k_3691 : Cond.fieldLink "ScholarsPressModel" 54 "ScholarsPressModel" "source2" "LScholarsPressModel$Source;" ∈ tt := tt_mem 3691 (by decide +kernel) (by decide +kernel)
theorem k_3692 : Cond.fieldLink "ScholarsPressModel" 57 "ScholarsPressModel" "joined" "[B" ∈ tt := tt_mem 3692 (by decide +kernel) (by decide +kernel)
theorem k_3693 : Cond.fieldLink "ScholarsPressModel" 63 "ScholarsPressModel" "tree" "LScholarsPressModel$Tree;" ∈ tt := tt_mem 3693 (by decide +kernel) (by decide +kernel)
theorem k_3695 : Cond.fieldLink "ScholarsPressModel" 70 "ScholarsPressModel" "setting" "LScholarsPressModel$Setting;" ∈ tt := tt_mem 3695 (by decide +kernel) (by decide +kernel)
theorem k_3696 : Cond.fieldLink "ScholarsPressModel" 74 "ScholarsPressModel" "other" "LScholarsPressModel$Setting;" ∈ tt := tt_mem 3696 (by decide +kernel) (by decide +kernel)
theorem k_3698 : Cond.fieldLink "ScholarsPressModel" 77 "ScholarsPressModel" "out" "[B" ∈ tt := tt_mem 3698 (by decide +kernel) (by decide +kernel)
theorem k_3700 : Cond.fieldLink "ScholarsPressModel" 80 "ScholarsPressModel" "made" "[B" ∈ tt := tt_mem 3700 (by decide +kernel) (by decide +kernel)
theorem k_3702 : Cond.fieldLink "ScholarsPressModel" 83 "ScholarsPressModel" "chosen" "[I" ∈ tt := tt_mem 3702 (by decide +kernel) (by decide +kernel)
theorem d_SM_init_0 : decode b_SM_init 0 = .ok (.aload_n 0, 1) := by decide +kernel
theorem d_SM_init_1 : decode b_SM_init 1 = .ok (.invokespecial 1, 3) := by decide +kernel
theorem d_SM_init_4 : decode b_SM_init 4 = .ok (.aload_n 0, 1) := by decide +kernel
theorem d_SM_init_5 : decode b_SM_init 5 = .ok (.iconst (-1), 1) := by decide +kernel
theorem d_SM_init_6 : decode b_SM_init 6 = .ok (.putfield 7, 3) := by decide +kernel
theorem d_SM_init_9 : decode b_SM_init 9 = .ok (.aload_n 0, 1) := by decide +kernel
theorem d_SM_init_10 : decode b_SM_init 10 = .ok (.sipush 16384, 3) := by decide +kernel
theorem d_SM_init_13 : decode b_SM_init 13 = .ok (.newarray .byte, 2) := by decide +kernel
theorem d_SM_init_15 : decode b_SM_init 15 = .ok (.putfield 13, 3) := by decide +kernel
theorem d_SM_init_18 : decode b_SM_init 18 = .ok (.aload_n 0, 1) := by decide +kernel
theorem d_SM_init_19 : decode b_SM_init 19 = .ok (.new 17, 3) := by decide +kernel
theorem d_SM_init_22 : decode b_SM_init 22 = .ok (.dup, 1) := by decide +kernel
theorem d_SM_init_23 : decode b_SM_init 23 = .ok (.invokespecial 19, 3) := by decide +kernel
theorem d_SM_init_26 : decode b_SM_init 26 = .ok (.putfield 20, 3) := by decide +kernel
theorem d_SM_init_29 : decode b_SM_init 29 = .ok (.aload_n 0, 1) := by decide +kernel
theorem d_SM_init_30 : decode b_SM_init 30 = .ok (.new 17, 3) := by decide +kernel
theorem d_SM_init_33 : decode b_SM_init 33 = .ok (.dup, 1) := by decide +kernel
theorem d_SM_init_34 : decode b_SM_init 34 = .ok (.invokespecial 19, 3) := by decide +kernel
theorem d_SM_init_37 : decode b_SM_init 37 = .ok (.putfield 24, 3) := by decide +kernel
theorem d_SM_init_40 : decode b_SM_init 40 = .ok (.aload_n 0, 1) := by decide +kernel
theorem d_SM_init_41 : decode b_SM_init 41 = .ok (.new 27, 3) := by decide +kernel
theorem d_SM_init_44 : decode b_SM_init 44 = .ok (.dup, 1) := by decide +kernel
theorem d_SM_init_45 : decode b_SM_init 45 = .ok (.invokespecial 29, 3) := by decide +kernel
theorem d_SM_init_48 : decode b_SM_init 48 = .ok (.putfield 30, 3) := by decide +kernel
theorem d_SM_init_51 : decode b_SM_init 51 = .ok (.aload_n 0, 1) := by decide +kernel
theorem d_SM_init_52 : decode b_SM_init 52 = .ok (.new 27, 3) := by decide +kernel
theorem d_SM_init_55 : decode b_SM_init 55 = .ok (.dup, 1) := by decide +kernel
theorem d_SM_init_56 : decode b_SM_init 56 = .ok (.invokespecial 29, 3) := by decide +kernel
theorem d_SM_init_59 : decode b_SM_init 59 = .ok (.putfield 34, 3) := by decide +kernel
theorem d_SM_init_62 : decode b_SM_init 62 = .ok (.aload_n 0, 1) := by decide +kernel
theorem d_SM_init_63 : decode b_SM_init 63 = .ok (.new 37, 3) := by decide +kernel
theorem d_SM_init_66 : decode b_SM_init 66 = .ok (.dup, 1) := by decide +kernel
theorem d_SM_init_67 : decode b_SM_init 67 = .ok (.invokespecial 39, 3) := by decide +kernel
theorem d_SM_init_70 : decode b_SM_init 70 = .ok (.putfield 40, 3) := by decide +kernel
theorem d_SM_init_73 : decode b_SM_init 73 = .ok (.aload_n 0, 1) := by decide +kernel
theorem d_SM_init_74 : decode b_SM_init 74 = .ok (.new 37, 3) := by decide +kernel
theorem d_SM_init_77 : decode b_SM_init 77 = .ok (.dup, 1) := by decide +kernel
theorem d_SM_init_78 : decode b_SM_init 78 = .ok (.invokespecial 39, 3) := by decide +kernel
theorem d_SM_init_81 : decode b_SM_init 81 = .ok (.putfield 44, 3) := by decide +kernel
theorem d_SM_init_84 : decode b_SM_init 84 = .ok (.aload_n 0, 1) := by decide +kernel
theorem d_SM_init_85 : decode b_SM_init 85 = .ok (.new 47, 3) := by decide +kernel
theorem d_SM_init_88 : decode b_SM_init 88 = .ok (.dup, 1) := by decide +kernel
theorem d_SM_init_89 : decode b_SM_init 89 = .ok (.invokespecial 49, 3) := by decide +kernel
theorem d_SM_init_92 : decode b_SM_init 92 = .ok (.putfield 50, 3) := by decide +kernel
theorem d_SM_init_95 : decode b_SM_init 95 = .ok (.aload_n 0, 1) := by decide +kernel
theorem d_SM_init_96 : decode b_SM_init 96 = .ok (.new 47, 3) := by decide +kernel
theorem d_SM_init_99 : decode b_SM_init 99 = .ok (.dup, 1) := by decide +kernel
theorem d_SM_init_100 : decode b_SM_init 100 = .ok (.invokespecial 49, 3) := by decide +kernel
theorem d_SM_init_103 : decode b_SM_init 103 = .ok (.putfield 54, 3) := by decide +kernel
theorem d_SM_init_106 : decode b_SM_init 106 = .ok (.aload_n 0, 1) := by decide +kernel
theorem d_SM_init_107 : decode b_SM_init 107 = .ok (.sipush 16384, 3) := by decide +kernel
theorem d_SM_init_110 : decode b_SM_init 110 = .ok (.newarray .byte, 2) := by decide +kernel
theorem d_SM_init_112 : decode b_SM_init 112 = .ok (.putfield 57, 3) := by decide +kernel
theorem d_SM_init_115 : decode b_SM_init 115 = .ok (.aload_n 0, 1) := by decide +kernel
theorem d_SM_init_116 : decode b_SM_init 116 = .ok (.new 60, 3) := by decide +kernel
theorem d_SM_init_119 : decode b_SM_init 119 = .ok (.dup, 1) := by decide +kernel
theorem d_SM_init_120 : decode b_SM_init 120 = .ok (.invokespecial 62, 3) := by decide +kernel
theorem d_SM_init_123 : decode b_SM_init 123 = .ok (.putfield 63, 3) := by decide +kernel
theorem d_SM_init_126 : decode b_SM_init 126 = .ok (.aload_n 0, 1) := by decide +kernel
theorem d_SM_init_127 : decode b_SM_init 127 = .ok (.new 67, 3) := by decide +kernel
theorem d_SM_init_130 : decode b_SM_init 130 = .ok (.dup, 1) := by decide +kernel
theorem d_SM_init_131 : decode b_SM_init 131 = .ok (.invokespecial 69, 3) := by decide +kernel
theorem d_SM_init_134 : decode b_SM_init 134 = .ok (.putfield 70, 3) := by decide +kernel
theorem d_SM_init_137 : decode b_SM_init 137 = .ok (.aload_n 0, 1) := by decide +kernel
theorem d_SM_init_138 : decode b_SM_init 138 = .ok (.new 67, 3) := by decide +kernel
theorem d_SM_init_141 : decode b_SM_init 141 = .ok (.dup, 1) := by decide +kernel
theorem d_SM_init_142 : decode b_SM_init 142 = .ok (.invokespecial 69, 3) := by decide +kernel
theorem d_SM_init_145 : decode b_SM_init 145 = .ok (.putfield 74, 3) := by decide +kernel
theorem d_SM_init_148 : decode b_SM_init 148 = .ok (.aload_n 0, 1) := by decide +kernel
theorem d_SM_init_149 : decode b_SM_init 149 = .ok (.sipush 1024, 3) := by decide +kernel
theorem d_SM_init_152 : decode b_SM_init 152 = .ok (.newarray .byte, 2) := by decide +kernel
theorem d_SM_init_154 : decode b_SM_init 154 = .ok (.putfield 77, 3) := by decide +kernel
theorem d_SM_init_157 : decode b_SM_init 157 = .ok (.aload_n 0, 1) := by decide +kernel
theorem d_SM_init_158 : decode b_SM_init 158 = .ok (.sipush 1024, 3) := by decide +kernel
theorem d_SM_init_161 : decode b_SM_init 161 = .ok (.newarray .byte, 2) := by decide +kernel
theorem d_SM_init_163 : decode b_SM_init 163 = .ok (.putfield 80, 3) := by decide +kernel
theorem d_SM_init_166 : decode b_SM_init 166 = .ok (.aload_n 0, 1) := by decide +kernel
theorem d_SM_init_167 : decode b_SM_init 167 = .ok (.sipush 700, 3) := by decide +kernel
theorem d_SM_init_170 : decode b_SM_init 170 = .ok (.newarray .int, 2) := by decide +kernel
theorem d_SM_init_172 : decode b_SM_init 172 = .ok (.putfield 83, 3) := by decide +kernel
theorem d_SM_init_175 : decode b_SM_init 175 = .ok (.return_, 1) := by decide +kernel
