abbrev b_SP_feed : ByteArray := prog_1_method_2_code
abbrev y_SP_feed : MethodName := ⟨"ScholarsPress", "feed", "(IIIII)I"⟩
abbrev w_SP_feed : Cond := .code y_SP_feed b_SP_feed 6 (some .int)
theorem kw_SP_feed : w_SP_feed ∈ tt := tt_mem 575 (by decide +kernel) (by decide +kernel)
abbrev b_SM_feed : ByteArray := prog_14_method_12_code
abbrev y_SM_feed : MethodName := ⟨"ScholarsPressModel", "feed", "(IIIII)I"⟩
abbrev w_SM_feed : Cond := .code y_SM_feed b_SM_feed 6 (some .int)
theorem kw_SM_feed : w_SM_feed ∈ tt := tt_mem 3757 (by decide +kernel) (by decide +kernel)
theorem k_1 : Cond.selects "ScholarsPress" ⟨"ScholarsPress", "feedInt", "(I)V"⟩ ⟨"ScholarsPress", "feedInt", "(I)V"⟩ ∈ tt := tt_mem 1 (by decide +kernel) (by decide +kernel)
theorem k_123 : Cond.selects "ScholarsPressModel" ⟨"ScholarsPressModel", "four", "(I)V"⟩ ⟨"ScholarsPressModel", "four", "(I)V"⟩ ∈ tt := tt_mem 123 (by decide +kernel) (by decide +kernel)
theorem k_646 : Cond.methodLink "ScholarsPress" 51 ⟨"ScholarsPress", "feedInt", "(I)V"⟩ ∈ tt := tt_mem 646 (by decide +kernel) (by decide +kernel)
theorem k_648 : Cond.instanceMethod ⟨"ScholarsPress", "feedInt", "(I)V"⟩ ∈ tt := tt_mem 648 (by decide +kernel) (by decide +kernel)
theorem k_3762 : Cond.methodLink "ScholarsPressModel" 111 ⟨"ScholarsPressModel", "four", "(I)V"⟩ ∈ tt := tt_mem 3762 (by decide +kernel) (by decide +kernel)
theorem k_3764 : Cond.instanceMethod ⟨"ScholarsPressModel", "four", "(I)V"⟩ ∈ tt := tt_mem 3764 (by decide +kernel) (by decide +kernel)
theorem d_SM_feed_0 : decode b_SM_feed 0 = .ok (.aload_n 0, 1) := by decide +kernel
theorem d_SM_feed_1 : decode b_SM_feed 1 = .ok (.getfield 104, 3) := by decide +kernel
theorem d_SM_feed_4 : decode b_SM_feed 4 = .ok (.bipush 20, 2) := by decide +kernel
theorem d_SM_feed_6 : decode b_SM_feed 6 = .ok (.iadd, 1) := by decide +kernel
theorem d_SM_feed_7 : decode b_SM_feed 7 = .ok (.sipush 16384, 3) := by decide +kernel
theorem d_SM_feed_10 : decode b_SM_feed 10 = .ok (.if_icmp .le 9, 3) := by decide +kernel
theorem d_SM_feed_19 : decode b_SM_feed 19 = .ok (.aload_n 0, 1) := by decide +kernel
theorem d_SM_feed_20 : decode b_SM_feed 20 = .ok (.iconst 0, 1) := by decide +kernel
theorem d_SM_feed_21 : decode b_SM_feed 21 = .ok (.putfield 87, 3) := by decide +kernel
theorem d_SM_feed_24 : decode b_SM_feed 24 = .ok (.aload_n 0, 1) := by decide +kernel
theorem d_SM_feed_25 : decode b_SM_feed 25 = .ok (.iload_n 1, 1) := by decide +kernel
theorem d_SM_feed_26 : decode b_SM_feed 26 = .ok (.invokevirtual 111, 3) := by decide +kernel
theorem d_SM_feed_29 : decode b_SM_feed 29 = .ok (.aload_n 0, 1) := by decide +kernel
theorem d_SM_feed_30 : decode b_SM_feed 30 = .ok (.iload_n 2, 1) := by decide +kernel
theorem d_SM_feed_31 : decode b_SM_feed 31 = .ok (.invokevirtual 111, 3) := by decide +kernel
theorem d_SM_feed_34 : decode b_SM_feed 34 = .ok (.aload_n 0, 1) := by decide +kernel
theorem d_SM_feed_35 : decode b_SM_feed 35 = .ok (.iload_n 3, 1) := by decide +kernel
theorem d_SM_feed_36 : decode b_SM_feed 36 = .ok (.invokevirtual 111, 3) := by decide +kernel
theorem d_SM_feed_39 : decode b_SM_feed 39 = .ok (.aload_n 0, 1) := by decide +kernel
theorem d_SM_feed_40 : decode b_SM_feed 40 = .ok (.iload 4, 2) := by decide +kernel
theorem d_SM_feed_42 : decode b_SM_feed 42 = .ok (.invokevirtual 111, 3) := by decide +kernel
theorem d_SM_feed_45 : decode b_SM_feed 45 = .ok (.aload_n 0, 1) := by decide +kernel
theorem d_SM_feed_46 : decode b_SM_feed 46 = .ok (.iload 5, 2) := by decide +kernel
theorem d_SM_feed_48 : decode b_SM_feed 48 = .ok (.invokevirtual 111, 3) := by decide +kernel
theorem d_SM_feed_51 : decode b_SM_feed 51 = .ok (.aload_n 0, 1) := by decide +kernel
theorem d_SM_feed_52 : decode b_SM_feed 52 = .ok (.getfield 104, 3) := by decide +kernel
theorem d_SM_feed_55 : decode b_SM_feed 55 = .ok (.ireturn, 1) := by decide +kernel
theorem d_SP_feed_0 : decode b_SP_feed 0 = .ok (.aload_n 0, 1) := by decide +kernel
theorem d_SP_feed_1 : decode b_SP_feed 1 = .ok (.getfield 45, 3) := by decide +kernel
theorem d_SP_feed_4 : decode b_SP_feed 4 = .ok (.bipush 20, 2) := by decide +kernel
theorem d_SP_feed_6 : decode b_SP_feed 6 = .ok (.iadd, 1) := by decide +kernel
theorem d_SP_feed_7 : decode b_SP_feed 7 = .ok (.sipush 16384, 3) := by decide +kernel
theorem d_SP_feed_10 : decode b_SP_feed 10 = .ok (.if_icmp .le 11, 3) := by decide +kernel
theorem d_SP_feed_21 : decode b_SP_feed 21 = .ok (.aload_n 0, 1) := by decide +kernel
theorem d_SP_feed_22 : decode b_SP_feed 22 = .ok (.iload_n 1, 1) := by decide +kernel
theorem d_SP_feed_23 : decode b_SP_feed 23 = .ok (.invokevirtual 51, 3) := by decide +kernel
theorem d_SP_feed_26 : decode b_SP_feed 26 = .ok (.aload_n 0, 1) := by decide +kernel
theorem d_SP_feed_27 : decode b_SP_feed 27 = .ok (.iload_n 2, 1) := by decide +kernel
theorem d_SP_feed_28 : decode b_SP_feed 28 = .ok (.invokevirtual 51, 3) := by decide +kernel
theorem d_SP_feed_31 : decode b_SP_feed 31 = .ok (.aload_n 0, 1) := by decide +kernel
theorem d_SP_feed_32 : decode b_SP_feed 32 = .ok (.iload_n 3, 1) := by decide +kernel
theorem d_SP_feed_33 : decode b_SP_feed 33 = .ok (.invokevirtual 51, 3) := by decide +kernel
theorem d_SP_feed_36 : decode b_SP_feed 36 = .ok (.aload_n 0, 1) := by decide +kernel
theorem d_SP_feed_37 : decode b_SP_feed 37 = .ok (.iload 4, 2) := by decide +kernel
theorem d_SP_feed_39 : decode b_SP_feed 39 = .ok (.invokevirtual 51, 3) := by decide +kernel
theorem d_SP_feed_42 : decode b_SP_feed 42 = .ok (.aload_n 0, 1) := by decide +kernel
theorem d_SP_feed_43 : decode b_SP_feed 43 = .ok (.iload 5, 2) := by decide +kernel
theorem d_SP_feed_45 : decode b_SP_feed 45 = .ok (.invokevirtual 51, 3) := by decide +kernel
theorem d_SP_feed_48 : decode b_SP_feed 48 = .ok (.aload_n 0, 1) := by decide +kernel
theorem d_SP_feed_49 : decode b_SP_feed 49 = .ok (.getfield 45, 3) := by decide +kernel
theorem d_SP_feed_52 : decode b_SP_feed 52 = .ok (.ireturn, 1) := by decide +kernel
