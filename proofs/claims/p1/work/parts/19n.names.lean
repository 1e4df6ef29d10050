abbrev b_MStyle_init : ByteArray := prog_22_method_1_code
abbrev y_MStyle_init : MethodName := ⟨"ScholarsPressModel$Style", "<init>", "()V"⟩
abbrev w_MStyle_init : Cond := .code y_MStyle_init b_MStyle_init 1 none
theorem kw_MStyle_init : w_MStyle_init ∈ tt := tt_mem 2838 (by decide +kernel) (by decide +kernel)
theorem k_249 : Cond.initialized "ScholarsPressModel$Signs" ∈ tt := tt_mem 249 (by decide +kernel) (by decide +kernel)
theorem k_251 : Cond.initialized "ScholarsPressModel$Style" ∈ tt := tt_mem 251 (by decide +kernel) (by decide +kernel)
theorem k_2712 : Cond.instantiable "ScholarsPressModel$Signs" 8 ∈ tt := tt_mem 2712 (by decide +kernel) (by decide +kernel)
theorem k_2714 : Cond.instanceMethod ⟨"ScholarsPressModel$Signs", "<init>", "()V"⟩ ∈ tt := tt_mem 2714 (by decide +kernel) (by decide +kernel)
theorem k_2839 : Cond.methodLink "ScholarsPressModel$Style" 3 ⟨"java/lang/Object", "<init>", "()V"⟩ ∈ tt := tt_mem 2839 (by decide +kernel) (by decide +kernel)
theorem k_2840 : Cond.classLink "ScholarsPressModel$Style" 15 "ScholarsPressModel$Signs" ∈ tt := tt_mem 2840 (by decide +kernel) (by decide +kernel)
theorem k_2841 : Cond.methodLinkNest "ScholarsPressModel$Style" 17 ⟨"ScholarsPressModel$Signs", "<init>", "()V"⟩ "ScholarsPressModel" ∈ tt := tt_mem 2841 (by decide +kernel) (by decide +kernel)
theorem k_2842 : Cond.methodLink "ScholarsPressModel$Style" 83 ⟨"ScholarsPressModel$Style", "clear", "()V"⟩ ∈ tt := tt_mem 2842 (by decide +kernel) (by decide +kernel)
theorem k_2843 : Cond.instanceMethod ⟨"ScholarsPressModel$Style", "clear", "()V"⟩ ∈ tt := tt_mem 2843 (by decide +kernel) (by decide +kernel)
theorem k_2844 : Cond.selects "ScholarsPressModel$Style" ⟨"ScholarsPressModel$Style", "clear", "()V"⟩ ⟨"ScholarsPressModel$Style", "clear", "()V"⟩ ∈ tt := tt_mem 2844 (by decide +kernel) (by decide +kernel)
theorem k_2848 : Cond.fieldLink "ScholarsPressModel$Style" 9 "ScholarsPressModel$Style" "text" "[B" ∈ tt := tt_mem 2848 (by decide +kernel) (by decide +kernel)
theorem k_2850 : Cond.fieldLink "ScholarsPressModel$Style" 18 "ScholarsPressModel$Style" "signs" "LScholarsPressModel$Signs;" ∈ tt := tt_mem 2850 (by decide +kernel) (by decide +kernel)
theorem k_2863 : Cond.fieldLink "ScholarsPressModel$Style" 29 "ScholarsPressModel$Style" "selectorBody" "[I" ∈ tt := tt_mem 2863 (by decide +kernel) (by decide +kernel)
theorem k_2865 : Cond.fieldLink "ScholarsPressModel$Style" 32 "ScholarsPressModel$Style" "stepName" "[I" ∈ tt := tt_mem 2865 (by decide +kernel) (by decide +kernel)
theorem k_2867 : Cond.fieldLink "ScholarsPressModel$Style" 35 "ScholarsPressModel$Style" "stepEnd" "[I" ∈ tt := tt_mem 2867 (by decide +kernel) (by decide +kernel)
theorem k_2869 : Cond.fieldLink "ScholarsPressModel$Style" 38 "ScholarsPressModel$Style" "stepLink" "[I" ∈ tt := tt_mem 2869 (by decide +kernel) (by decide +kernel)
theorem k_2873 : Cond.fieldLink "ScholarsPressModel$Style" 44 "ScholarsPressModel$Style" "test" "[I" ∈ tt := tt_mem 2873 (by decide +kernel) (by decide +kernel)
theorem k_2875 : Cond.fieldLink "ScholarsPressModel$Style" 47 "ScholarsPressModel$Style" "testName" "[I" ∈ tt := tt_mem 2875 (by decide +kernel) (by decide +kernel)
theorem k_2877 : Cond.fieldLink "ScholarsPressModel$Style" 50 "ScholarsPressModel$Style" "testEnd" "[I" ∈ tt := tt_mem 2877 (by decide +kernel) (by decide +kernel)
theorem k_2879 : Cond.fieldLink "ScholarsPressModel$Style" 53 "ScholarsPressModel$Style" "testText" "[I" ∈ tt := tt_mem 2879 (by decide +kernel) (by decide +kernel)
theorem k_2881 : Cond.fieldLink "ScholarsPressModel$Style" 56 "ScholarsPressModel$Style" "testTextEnd" "[I" ∈ tt := tt_mem 2881 (by decide +kernel) (by decide +kernel)
theorem k_2883 : Cond.fieldLink "ScholarsPressModel$Style" 59 "ScholarsPressModel$Style" "testNumber" "[I" ∈ tt := tt_mem 2883 (by decide +kernel) (by decide +kernel)
theorem k_2887 : Cond.fieldLink "ScholarsPressModel$Style" 65 "ScholarsPressModel$Style" "prop" "[I" ∈ tt := tt_mem 2887 (by decide +kernel) (by decide +kernel)
theorem k_2889 : Cond.fieldLink "ScholarsPressModel$Style" 68 "ScholarsPressModel$Style" "value" "[I" ∈ tt := tt_mem 2889 (by decide +kernel) (by decide +kernel)
theorem k_2891 : Cond.fieldLink "ScholarsPressModel$Style" 71 "ScholarsPressModel$Style" "label" "[I" ∈ tt := tt_mem 2891 (by decide +kernel) (by decide +kernel)
theorem k_2893 : Cond.fieldLink "ScholarsPressModel$Style" 74 "ScholarsPressModel$Style" "labelEnd" "[I" ∈ tt := tt_mem 2893 (by decide +kernel) (by decide +kernel)
theorem k_2895 : Cond.fieldLink "ScholarsPressModel$Style" 77 "ScholarsPressModel$Style" "counter" "[I" ∈ tt := tt_mem 2895 (by decide +kernel) (by decide +kernel)
theorem k_2896 : Cond.fieldLink "ScholarsPressModel$Style" 80 "ScholarsPressModel$Style" "counterEnd" "[I" ∈ tt := tt_mem 2896 (by decide +kernel) (by decide +kernel)
theorem d_MStyle_init_0 : decode b_MStyle_init 0 = .ok (.aload_n 0, 1) := by decide +kernel
theorem d_MStyle_init_1 : decode b_MStyle_init 1 = .ok (.invokespecial 3, 3) := by decide +kernel
theorem d_MStyle_init_4 : decode b_MStyle_init 4 = .ok (.aload_n 0, 1) := by decide +kernel
theorem d_MStyle_init_5 : decode b_MStyle_init 5 = .ok (.sipush 16384, 3) := by decide +kernel
theorem d_MStyle_init_8 : decode b_MStyle_init 8 = .ok (.newarray .byte, 2) := by decide +kernel
theorem d_MStyle_init_10 : decode b_MStyle_init 10 = .ok (.putfield 9, 3) := by decide +kernel
theorem d_MStyle_init_13 : decode b_MStyle_init 13 = .ok (.aload_n 0, 1) := by decide +kernel
theorem d_MStyle_init_14 : decode b_MStyle_init 14 = .ok (.new 15, 3) := by decide +kernel
theorem d_MStyle_init_17 : decode b_MStyle_init 17 = .ok (.dup, 1) := by decide +kernel
theorem d_MStyle_init_18 : decode b_MStyle_init 18 = .ok (.invokespecial 17, 3) := by decide +kernel
theorem d_MStyle_init_21 : decode b_MStyle_init 21 = .ok (.putfield 18, 3) := by decide +kernel
theorem d_MStyle_init_24 : decode b_MStyle_init 24 = .ok (.aload_n 0, 1) := by decide +kernel
theorem d_MStyle_init_25 : decode b_MStyle_init 25 = .ok (.bipush 6, 2) := by decide +kernel
theorem d_MStyle_init_27 : decode b_MStyle_init 27 = .ok (.newarray .int, 2) := by decide +kernel
theorem d_MStyle_init_29 : decode b_MStyle_init 29 = .ok (.putfield 22, 3) := by decide +kernel
theorem d_MStyle_init_32 : decode b_MStyle_init 32 = .ok (.aload_n 0, 1) := by decide +kernel
theorem d_MStyle_init_33 : decode b_MStyle_init 33 = .ok (.bipush 121, 2) := by decide +kernel
theorem d_MStyle_init_35 : decode b_MStyle_init 35 = .ok (.newarray .int, 2) := by decide +kernel
theorem d_MStyle_init_37 : decode b_MStyle_init 37 = .ok (.putfield 26, 3) := by decide +kernel
theorem d_MStyle_init_40 : decode b_MStyle_init 40 = .ok (.aload_n 0, 1) := by decide +kernel
theorem d_MStyle_init_41 : decode b_MStyle_init 41 = .ok (.bipush 121, 2) := by decide +kernel
theorem d_MStyle_init_43 : decode b_MStyle_init 43 = .ok (.newarray .int, 2) := by decide +kernel
theorem d_MStyle_init_45 : decode b_MStyle_init 45 = .ok (.putfield 29, 3) := by decide +kernel
theorem d_MStyle_init_48 : decode b_MStyle_init 48 = .ok (.aload_n 0, 1) := by decide +kernel
theorem d_MStyle_init_49 : decode b_MStyle_init 49 = .ok (.sipush 970, 3) := by decide +kernel
theorem d_MStyle_init_52 : decode b_MStyle_init 52 = .ok (.newarray .int, 2) := by decide +kernel
theorem d_MStyle_init_54 : decode b_MStyle_init 54 = .ok (.putfield 32, 3) := by decide +kernel
theorem d_MStyle_init_57 : decode b_MStyle_init 57 = .ok (.aload_n 0, 1) := by decide +kernel
theorem d_MStyle_init_58 : decode b_MStyle_init 58 = .ok (.sipush 970, 3) := by decide +kernel
theorem d_MStyle_init_61 : decode b_MStyle_init 61 = .ok (.newarray .int, 2) := by decide +kernel
theorem d_MStyle_init_63 : decode b_MStyle_init 63 = .ok (.putfield 35, 3) := by decide +kernel
theorem d_MStyle_init_66 : decode b_MStyle_init 66 = .ok (.aload_n 0, 1) := by decide +kernel
theorem d_MStyle_init_67 : decode b_MStyle_init 67 = .ok (.sipush 970, 3) := by decide +kernel
theorem d_MStyle_init_70 : decode b_MStyle_init 70 = .ok (.newarray .int, 2) := by decide +kernel
theorem d_MStyle_init_72 : decode b_MStyle_init 72 = .ok (.putfield 38, 3) := by decide +kernel
theorem d_MStyle_init_75 : decode b_MStyle_init 75 = .ok (.aload_n 0, 1) := by decide +kernel
theorem d_MStyle_init_76 : decode b_MStyle_init 76 = .ok (.sipush 971, 3) := by decide +kernel
theorem d_MStyle_init_79 : decode b_MStyle_init 79 = .ok (.newarray .int, 2) := by decide +kernel
theorem d_MStyle_init_81 : decode b_MStyle_init 81 = .ok (.putfield 41, 3) := by decide +kernel
theorem d_MStyle_init_84 : decode b_MStyle_init 84 = .ok (.aload_n 0, 1) := by decide +kernel
theorem d_MStyle_init_85 : decode b_MStyle_init 85 = .ok (.sipush 3850, 3) := by decide +kernel
theorem d_MStyle_init_88 : decode b_MStyle_init 88 = .ok (.newarray .int, 2) := by decide +kernel
theorem d_MStyle_init_90 : decode b_MStyle_init 90 = .ok (.putfield 44, 3) := by decide +kernel
theorem d_MStyle_init_93 : decode b_MStyle_init 93 = .ok (.aload_n 0, 1) := by decide +kernel
theorem d_MStyle_init_94 : decode b_MStyle_init 94 = .ok (.sipush 3850, 3) := by decide +kernel
theorem d_MStyle_init_97 : decode b_MStyle_init 97 = .ok (.newarray .int, 2) := by decide +kernel
theorem d_MStyle_init_99 : decode b_MStyle_init 99 = .ok (.putfield 47, 3) := by decide +kernel
theorem d_MStyle_init_102 : decode b_MStyle_init 102 = .ok (.aload_n 0, 1) := by decide +kernel
theorem d_MStyle_init_103 : decode b_MStyle_init 103 = .ok (.sipush 3850, 3) := by decide +kernel
theorem d_MStyle_init_106 : decode b_MStyle_init 106 = .ok (.newarray .int, 2) := by decide +kernel
theorem d_MStyle_init_108 : decode b_MStyle_init 108 = .ok (.putfield 50, 3) := by decide +kernel
theorem d_MStyle_init_111 : decode b_MStyle_init 111 = .ok (.aload_n 0, 1) := by decide +kernel
theorem d_MStyle_init_112 : decode b_MStyle_init 112 = .ok (.sipush 3850, 3) := by decide +kernel
theorem d_MStyle_init_115 : decode b_MStyle_init 115 = .ok (.newarray .int, 2) := by decide +kernel
theorem d_MStyle_init_117 : decode b_MStyle_init 117 = .ok (.putfield 53, 3) := by decide +kernel
theorem d_MStyle_init_120 : decode b_MStyle_init 120 = .ok (.aload_n 0, 1) := by decide +kernel
theorem d_MStyle_init_121 : decode b_MStyle_init 121 = .ok (.sipush 3850, 3) := by decide +kernel
theorem d_MStyle_init_124 : decode b_MStyle_init 124 = .ok (.newarray .int, 2) := by decide +kernel
theorem d_MStyle_init_126 : decode b_MStyle_init 126 = .ok (.putfield 56, 3) := by decide +kernel
theorem d_MStyle_init_129 : decode b_MStyle_init 129 = .ok (.aload_n 0, 1) := by decide +kernel
theorem d_MStyle_init_130 : decode b_MStyle_init 130 = .ok (.sipush 3850, 3) := by decide +kernel
theorem d_MStyle_init_133 : decode b_MStyle_init 133 = .ok (.newarray .int, 2) := by decide +kernel
theorem d_MStyle_init_135 : decode b_MStyle_init 135 = .ok (.putfield 59, 3) := by decide +kernel
theorem d_MStyle_init_138 : decode b_MStyle_init 138 = .ok (.aload_n 0, 1) := by decide +kernel
theorem d_MStyle_init_139 : decode b_MStyle_init 139 = .ok (.sipush 130, 3) := by decide +kernel
theorem d_MStyle_init_142 : decode b_MStyle_init 142 = .ok (.newarray .int, 2) := by decide +kernel
theorem d_MStyle_init_144 : decode b_MStyle_init 144 = .ok (.putfield 62, 3) := by decide +kernel
theorem d_MStyle_init_147 : decode b_MStyle_init 147 = .ok (.aload_n 0, 1) := by decide +kernel
theorem d_MStyle_init_148 : decode b_MStyle_init 148 = .ok (.sipush 600, 3) := by decide +kernel
theorem d_MStyle_init_151 : decode b_MStyle_init 151 = .ok (.newarray .int, 2) := by decide +kernel
theorem d_MStyle_init_153 : decode b_MStyle_init 153 = .ok (.putfield 65, 3) := by decide +kernel
theorem d_MStyle_init_156 : decode b_MStyle_init 156 = .ok (.aload_n 0, 1) := by decide +kernel
theorem d_MStyle_init_157 : decode b_MStyle_init 157 = .ok (.sipush 600, 3) := by decide +kernel
theorem d_MStyle_init_160 : decode b_MStyle_init 160 = .ok (.newarray .int, 2) := by decide +kernel
theorem d_MStyle_init_162 : decode b_MStyle_init 162 = .ok (.putfield 68, 3) := by decide +kernel
theorem d_MStyle_init_165 : decode b_MStyle_init 165 = .ok (.aload_n 0, 1) := by decide +kernel
theorem d_MStyle_init_166 : decode b_MStyle_init 166 = .ok (.sipush 600, 3) := by decide +kernel
theorem d_MStyle_init_169 : decode b_MStyle_init 169 = .ok (.newarray .int, 2) := by decide +kernel
theorem d_MStyle_init_171 : decode b_MStyle_init 171 = .ok (.putfield 71, 3) := by decide +kernel
theorem d_MStyle_init_174 : decode b_MStyle_init 174 = .ok (.aload_n 0, 1) := by decide +kernel
theorem d_MStyle_init_175 : decode b_MStyle_init 175 = .ok (.sipush 600, 3) := by decide +kernel
theorem d_MStyle_init_178 : decode b_MStyle_init 178 = .ok (.newarray .int, 2) := by decide +kernel
theorem d_MStyle_init_180 : decode b_MStyle_init 180 = .ok (.putfield 74, 3) := by decide +kernel
theorem d_MStyle_init_183 : decode b_MStyle_init 183 = .ok (.aload_n 0, 1) := by decide +kernel
theorem d_MStyle_init_184 : decode b_MStyle_init 184 = .ok (.bipush 12, 2) := by decide +kernel
theorem d_MStyle_init_186 : decode b_MStyle_init 186 = .ok (.newarray .int, 2) := by decide +kernel
theorem d_MStyle_init_188 : decode b_MStyle_init 188 = .ok (.putfield 77, 3) := by decide +kernel
theorem d_MStyle_init_191 : decode b_MStyle_init 191 = .ok (.aload_n 0, 1) := by decide +kernel
theorem d_MStyle_init_192 : decode b_MStyle_init 192 = .ok (.bipush 12, 2) := by decide +kernel
theorem d_MStyle_init_194 : decode b_MStyle_init 194 = .ok (.newarray .int, 2) := by decide +kernel
theorem d_MStyle_init_196 : decode b_MStyle_init 196 = .ok (.putfield 80, 3) := by decide +kernel
theorem d_MStyle_init_199 : decode b_MStyle_init 199 = .ok (.aload_n 0, 1) := by decide +kernel
theorem d_MStyle_init_200 : decode b_MStyle_init 200 = .ok (.invokevirtual 83, 3) := by decide +kernel
theorem d_MStyle_init_203 : decode b_MStyle_init 203 = .ok (.return_, 1) := by decide +kernel
