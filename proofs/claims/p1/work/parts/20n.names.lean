abbrev b_MLetters_clear : ByteArray := prog_17_method_2_code
abbrev y_MLetters_clear : MethodName := ⟨"ScholarsPressModel$Letters", "clear", "()V"⟩
abbrev w_MLetters_clear : Cond := .code y_MLetters_clear b_MLetters_clear 2 none
theorem kw_MLetters_clear : w_MLetters_clear ∈ tt := tt_mem 2753 (by decide +kernel) (by decide +kernel)
theorem k_2754 : Cond.fieldLink "ScholarsPressModel$Letters" 7 "ScholarsPressModel$Letters" "width" "[I" ∈ tt := tt_mem 2754 (by decide +kernel) (by decide +kernel)
theorem k_2756 : Cond.fieldLink "ScholarsPressModel$Letters" 13 "ScholarsPressModel$Letters" "told" "[Z" ∈ tt := tt_mem 2756 (by decide +kernel) (by decide +kernel)
theorem k_2757 : Cond.fieldLink "ScholarsPressModel$Letters" 39 "ScholarsPressModel$Letters" "kerns" "I" ∈ tt := tt_mem 2757 (by decide +kernel) (by decide +kernel)
theorem k_2758 : Cond.fieldLink "ScholarsPressModel$Letters" 43 "ScholarsPressModel$Letters" "joins" "I" ∈ tt := tt_mem 2758 (by decide +kernel) (by decide +kernel)
theorem d_MLetters_clear_0 : decode b_MLetters_clear 0 = .ok (.iconst 0, 1) := by decide +kernel
theorem d_MLetters_clear_1 : decode b_MLetters_clear 1 = .ok (.istore_n 1, 1) := by decide +kernel
theorem d_MLetters_clear_2 : decode b_MLetters_clear 2 = .ok (.iload_n 1, 1) := by decide +kernel
theorem d_MLetters_clear_3 : decode b_MLetters_clear 3 = .ok (.sipush 256, 3) := by decide +kernel
theorem d_MLetters_clear_6 : decode b_MLetters_clear 6 = .ok (.if_icmp .ge 25, 3) := by decide +kernel
theorem d_MLetters_clear_9 : decode b_MLetters_clear 9 = .ok (.aload_n 0, 1) := by decide +kernel
theorem d_MLetters_clear_10 : decode b_MLetters_clear 10 = .ok (.getfield 7, 3) := by decide +kernel
theorem d_MLetters_clear_13 : decode b_MLetters_clear 13 = .ok (.iload_n 1, 1) := by decide +kernel
theorem d_MLetters_clear_14 : decode b_MLetters_clear 14 = .ok (.sipush 500, 3) := by decide +kernel
theorem d_MLetters_clear_17 : decode b_MLetters_clear 17 = .ok (.iastore, 1) := by decide +kernel
theorem d_MLetters_clear_18 : decode b_MLetters_clear 18 = .ok (.aload_n 0, 1) := by decide +kernel
theorem d_MLetters_clear_19 : decode b_MLetters_clear 19 = .ok (.getfield 13, 3) := by decide +kernel
theorem d_MLetters_clear_22 : decode b_MLetters_clear 22 = .ok (.iload_n 1, 1) := by decide +kernel
theorem d_MLetters_clear_23 : decode b_MLetters_clear 23 = .ok (.iconst 0, 1) := by decide +kernel
theorem d_MLetters_clear_24 : decode b_MLetters_clear 24 = .ok (.bastore, 1) := by decide +kernel
theorem d_MLetters_clear_25 : decode b_MLetters_clear 25 = .ok (.iinc 1 1, 3) := by decide +kernel
theorem d_MLetters_clear_28 : decode b_MLetters_clear 28 = .ok (.goto (-26), 3) := by decide +kernel
theorem d_MLetters_clear_31 : decode b_MLetters_clear 31 = .ok (.aload_n 0, 1) := by decide +kernel
theorem d_MLetters_clear_32 : decode b_MLetters_clear 32 = .ok (.iconst 0, 1) := by decide +kernel
theorem d_MLetters_clear_33 : decode b_MLetters_clear 33 = .ok (.putfield 39, 3) := by decide +kernel
theorem d_MLetters_clear_36 : decode b_MLetters_clear 36 = .ok (.aload_n 0, 1) := by decide +kernel
theorem d_MLetters_clear_37 : decode b_MLetters_clear 37 = .ok (.iconst 0, 1) := by decide +kernel
theorem d_MLetters_clear_38 : decode b_MLetters_clear 38 = .ok (.putfield 43, 3) := by decide +kernel
theorem d_MLetters_clear_41 : decode b_MLetters_clear 41 = .ok (.return_, 1) := by decide +kernel
