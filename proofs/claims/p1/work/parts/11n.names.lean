abbrev b_SP_feedInt : ByteArray := prog_1_method_22_code
abbrev y_SP_feedInt : MethodName := ⟨"ScholarsPress", "feedInt", "(I)V"⟩
abbrev w_SP_feedInt : Cond := .code y_SP_feedInt b_SP_feedInt 3 none
theorem kw_SP_feedInt : w_SP_feedInt ∈ tt := tt_mem 649 (by decide +kernel) (by decide +kernel)
abbrev b_SM_four : ByteArray := prog_14_method_13_code
abbrev y_SM_four : MethodName := ⟨"ScholarsPressModel", "four", "(I)V"⟩
abbrev w_SM_four : Cond := .code y_SM_four b_SM_four 3 none
theorem kw_SM_four : w_SM_four ∈ tt := tt_mem 3765 (by decide +kernel) (by decide +kernel)
theorem k_500 : Cond.fieldLink "ScholarsPress" 9 "ScholarsPress" "tape" "[B" ∈ tt := tt_mem 500 (by decide +kernel) (by decide +kernel)
theorem k_3682 : Cond.fieldLink "ScholarsPressModel" 13 "ScholarsPressModel" "tape" "[B" ∈ tt := tt_mem 3682 (by decide +kernel) (by decide +kernel)
theorem d_SM_four_0 : decode b_SM_four 0 = .ok (.bipush 24, 2) := by decide +kernel
theorem d_SM_four_2 : decode b_SM_four 2 = .ok (.istore_n 2, 1) := by decide +kernel
theorem d_SM_four_3 : decode b_SM_four 3 = .ok (.iload_n 2, 1) := by decide +kernel
theorem d_SM_four_4 : decode b_SM_four 4 = .ok (.ifCond .lt 32, 3) := by decide +kernel
theorem d_SM_four_7 : decode b_SM_four 7 = .ok (.aload_n 0, 1) := by decide +kernel
theorem d_SM_four_8 : decode b_SM_four 8 = .ok (.getfield 13, 3) := by decide +kernel
theorem d_SM_four_11 : decode b_SM_four 11 = .ok (.aload_n 0, 1) := by decide +kernel
theorem d_SM_four_12 : decode b_SM_four 12 = .ok (.getfield 104, 3) := by decide +kernel
theorem d_SM_four_15 : decode b_SM_four 15 = .ok (.iload_n 1, 1) := by decide +kernel
theorem d_SM_four_16 : decode b_SM_four 16 = .ok (.iload_n 2, 1) := by decide +kernel
theorem d_SM_four_17 : decode b_SM_four 17 = .ok (.ishr, 1) := by decide +kernel
theorem d_SM_four_18 : decode b_SM_four 18 = .ok (.i2b, 1) := by decide +kernel
theorem d_SM_four_19 : decode b_SM_four 19 = .ok (.bastore, 1) := by decide +kernel
theorem d_SM_four_20 : decode b_SM_four 20 = .ok (.aload_n 0, 1) := by decide +kernel
theorem d_SM_four_21 : decode b_SM_four 21 = .ok (.dup, 1) := by decide +kernel
theorem d_SM_four_22 : decode b_SM_four 22 = .ok (.getfield 104, 3) := by decide +kernel
theorem d_SM_four_25 : decode b_SM_four 25 = .ok (.iconst 1, 1) := by decide +kernel
theorem d_SM_four_26 : decode b_SM_four 26 = .ok (.iadd, 1) := by decide +kernel
theorem d_SM_four_27 : decode b_SM_four 27 = .ok (.putfield 104, 3) := by decide +kernel
theorem d_SM_four_30 : decode b_SM_four 30 = .ok (.iinc 2 (-8), 3) := by decide +kernel
theorem d_SM_four_33 : decode b_SM_four 33 = .ok (.goto (-30), 3) := by decide +kernel
theorem d_SM_four_36 : decode b_SM_four 36 = .ok (.return_, 1) := by decide +kernel
theorem d_SP_feedInt_0 : decode b_SP_feedInt 0 = .ok (.bipush 24, 2) := by decide +kernel
theorem d_SP_feedInt_2 : decode b_SP_feedInt 2 = .ok (.istore_n 2, 1) := by decide +kernel
theorem d_SP_feedInt_3 : decode b_SP_feedInt 3 = .ok (.iload_n 2, 1) := by decide +kernel
theorem d_SP_feedInt_4 : decode b_SP_feedInt 4 = .ok (.ifCond .lt 32, 3) := by decide +kernel
theorem d_SP_feedInt_7 : decode b_SP_feedInt 7 = .ok (.aload_n 0, 1) := by decide +kernel
theorem d_SP_feedInt_8 : decode b_SP_feedInt 8 = .ok (.getfield 9, 3) := by decide +kernel
theorem d_SP_feedInt_11 : decode b_SP_feedInt 11 = .ok (.aload_n 0, 1) := by decide +kernel
theorem d_SP_feedInt_12 : decode b_SP_feedInt 12 = .ok (.getfield 45, 3) := by decide +kernel
theorem d_SP_feedInt_15 : decode b_SP_feedInt 15 = .ok (.iload_n 1, 1) := by decide +kernel
theorem d_SP_feedInt_16 : decode b_SP_feedInt 16 = .ok (.iload_n 2, 1) := by decide +kernel
theorem d_SP_feedInt_17 : decode b_SP_feedInt 17 = .ok (.ishr, 1) := by decide +kernel
theorem d_SP_feedInt_18 : decode b_SP_feedInt 18 = .ok (.i2b, 1) := by decide +kernel
theorem d_SP_feedInt_19 : decode b_SP_feedInt 19 = .ok (.bastore, 1) := by decide +kernel
theorem d_SP_feedInt_20 : decode b_SP_feedInt 20 = .ok (.aload_n 0, 1) := by decide +kernel
theorem d_SP_feedInt_21 : decode b_SP_feedInt 21 = .ok (.dup, 1) := by decide +kernel
theorem d_SP_feedInt_22 : decode b_SP_feedInt 22 = .ok (.getfield 45, 3) := by decide +kernel
theorem d_SP_feedInt_25 : decode b_SP_feedInt 25 = .ok (.iconst 1, 1) := by decide +kernel
theorem d_SP_feedInt_26 : decode b_SP_feedInt 26 = .ok (.iadd, 1) := by decide +kernel
theorem d_SP_feedInt_27 : decode b_SP_feedInt 27 = .ok (.putfield 45, 3) := by decide +kernel
theorem d_SP_feedInt_30 : decode b_SP_feedInt 30 = .ok (.iinc 2 (-8), 3) := by decide +kernel
theorem d_SP_feedInt_33 : decode b_SP_feedInt 33 = .ok (.goto (-30), 3) := by decide +kernel
theorem d_SP_feedInt_36 : decode b_SP_feedInt 36 = .ok (.return_, 1) := by decide +kernel
