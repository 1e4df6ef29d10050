abbrev b_SM_thrown : ByteArray := prog_14_method_2_code
abbrev y_SM_thrown : MethodName := ⟨"ScholarsPressModel", "thrown", "()I"⟩
abbrev w_SM_thrown : Cond := .code y_SM_thrown b_SM_thrown 1 (some .int)
theorem kw_SM_thrown : w_SM_thrown ∈ tt := tt_mem 3753 (by decide +kernel) (by decide +kernel)
abbrev b_SM_refuse : ByteArray := prog_14_method_3_code
abbrev y_SM_refuse : MethodName := ⟨"ScholarsPressModel", "refuse", "(I)I"⟩
abbrev w_SM_refuse : Cond := .code y_SM_refuse b_SM_refuse 2 (some .int)
theorem kw_SM_refuse : w_SM_refuse ∈ tt := tt_mem 3761 (by decide +kernel) (by decide +kernel)
abbrev b_SM_in : ByteArray := prog_14_method_4_code
abbrev y_SM_in : MethodName := ⟨"ScholarsPressModel", "in", "(III)Z"⟩
abbrev w_SM_in : Cond := .code y_SM_in b_SM_in 3 (some .boolean)
theorem kw_SM_in : w_SM_in ∈ tt := tt_mem 4104 (by decide +kernel) (by decide +kernel)
abbrev b_SM_set : ByteArray := prog_14_method_24_code
abbrev y_SM_set : MethodName := ⟨"ScholarsPressModel", "set", "(I)I"⟩
abbrev w_SM_set : Cond := .codeWith y_SM_set b_SM_set 4 (some .int) [(32, 57, 60, 170), (32, 57, 67, 172)]
theorem kw_SM_set : w_SM_set ∈ tt := tt_mem 4099 (by decide +kernel) (by decide +kernel)
abbrev b_SM_element : ByteArray := prog_14_method_25_code
abbrev y_SM_element : MethodName := ⟨"ScholarsPressModel", "element", "(II)I"⟩
abbrev w_SM_element : Cond := .code y_SM_element b_SM_element 3 (some .int)
theorem kw_SM_element : w_SM_element ∈ tt := tt_mem 4579 (by decide +kernel) (by decide +kernel)
abbrev b_SM_line : ByteArray := prog_14_method_27_code
abbrev y_SM_line : MethodName := ⟨"ScholarsPressModel", "line", "(II)I"⟩
abbrev w_SM_line : Cond := .code y_SM_line b_SM_line 5 (some .int)
theorem kw_SM_line : w_SM_line ∈ tt := tt_mem 4590 (by decide +kernel) (by decide +kernel)
abbrev b_SM_change : ByteArray := prog_14_method_22_code
abbrev y_SM_change : MethodName := ⟨"ScholarsPressModel", "change", "(II)I"⟩
abbrev w_SM_change : Cond := .codeWith y_SM_change b_SM_change 5 (some .int) [(196, 208, 211, 122)]
theorem kw_SM_change : w_SM_change ∈ tt := tt_mem 4091 (by decide +kernel) (by decide +kernel)
abbrev b_SM_where : ByteArray := prog_14_method_31_code
abbrev y_SM_where : MethodName := ⟨"ScholarsPressModel", "where", "(I)I"⟩
abbrev w_SM_where : Cond := .code y_SM_where b_SM_where 3 (some .int)
theorem kw_SM_where : w_SM_where ∈ tt := tt_mem 4630 (by decide +kernel) (by decide +kernel)
abbrev b_SM_note : ByteArray := prog_14_method_32_code
abbrev y_SM_note : MethodName := ⟨"ScholarsPressModel", "note", "(II)I"⟩
abbrev w_SM_note : Cond := .code y_SM_note b_SM_note 4 (some .int)
theorem kw_SM_note : w_SM_note ∈ tt := tt_mem 4635 (by decide +kernel) (by decide +kernel)
abbrev b_SM_wavering : ByteArray := prog_14_method_33_code
abbrev y_SM_wavering : MethodName := ⟨"ScholarsPressModel", "wavering", "(I)I"⟩
abbrev w_SM_wavering : Cond := .code y_SM_wavering b_SM_wavering 4 (some .int)
theorem kw_SM_wavering : w_SM_wavering ∈ tt := tt_mem 4639 (by decide +kernel) (by decide +kernel)
abbrev b_SM_print : ByteArray := prog_14_method_39_code
abbrev y_SM_print : MethodName := ⟨"ScholarsPressModel", "print", "(I)I"⟩
abbrev w_SM_print : Cond := .code y_SM_print b_SM_print 5 (some .int)
theorem kw_SM_print : w_SM_print ∈ tt := tt_mem 4643 (by decide +kernel) (by decide +kernel)
abbrev b_SM_spot : ByteArray := prog_14_method_28_code
abbrev y_SM_spot : MethodName := ⟨"ScholarsPressModel", "spot", "(II)J"⟩
abbrev w_SM_spot : Cond := .code y_SM_spot b_SM_spot 5 (some .long)
theorem kw_SM_spot : w_SM_spot ∈ tt := tt_mem 4602 (by decide +kernel) (by decide +kernel)
abbrev b_SM_paragraph : ByteArray := prog_14_method_29_code
abbrev y_SM_paragraph : MethodName := ⟨"ScholarsPressModel", "paragraph", "(II)J"⟩
abbrev w_SM_paragraph : Cond := .code y_SM_paragraph b_SM_paragraph 3 (some .long)
theorem kw_SM_paragraph : w_SM_paragraph ∈ tt := tt_mem 4616 (by decide +kernel) (by decide +kernel)
abbrev b_SM_judge : ByteArray := prog_14_method_30_code
abbrev y_SM_judge : MethodName := ⟨"ScholarsPressModel", "judge", "(I)J"⟩
abbrev w_SM_judge : Cond := .code y_SM_judge b_SM_judge 7 (some .long)
theorem kw_SM_judge : w_SM_judge ∈ tt := tt_mem 4620 (by decide +kernel) (by decide +kernel)
abbrev b_SM_word : ByteArray := prog_14_method_40_code
abbrev y_SM_word : MethodName := ⟨"ScholarsPressModel", "word", "(I)J"⟩
abbrev w_SM_word : Cond := .code y_SM_word b_SM_word 5 (some .long)
theorem kw_SM_word : w_SM_word ∈ tt := tt_mem 4682 (by decide +kernel) (by decide +kernel)
abbrev b_SM_place : ByteArray := prog_14_method_23_code
abbrev y_SM_place : MethodName := ⟨"ScholarsPressModel", "place", "()I"⟩
abbrev w_SM_place : Cond := .code y_SM_place b_SM_place 1 (some .int)
theorem kw_SM_place : w_SM_place ∈ tt := tt_mem 4095 (by decide +kernel) (by decide +kernel)
abbrev b_SP_place : ByteArray := prog_1_method_9_code
abbrev y_SP_place : MethodName := ⟨"ScholarsPress", "place", "()I"⟩
abbrev w_SP_place : Cond := .code y_SP_place b_SP_place 1 (some .int)
theorem kw_SP_place : w_SP_place ∈ tt := tt_mem 567 (by decide +kernel) (by decide +kernel)
abbrev b_SM_end : ByteArray := prog_14_method_14_code
abbrev y_SM_end : MethodName := ⟨"ScholarsPressModel", "end", "(I)I"⟩
abbrev w_SM_end : Cond := .code y_SM_end b_SM_end 2 (some .int)
theorem kw_SM_end : w_SM_end ∈ tt := tt_mem 3769 (by decide +kernel) (by decide +kernel)
abbrev b_SM_count : ByteArray := prog_14_method_26_code
abbrev y_SM_count : MethodName := ⟨"ScholarsPressModel", "count", "(I)I"⟩
abbrev w_SM_count : Cond := .code y_SM_count b_SM_count 2 (some .int)
theorem kw_SM_count : w_SM_count ∈ tt := tt_mem 4586 (by decide +kernel) (by decide +kernel)
theorem k_122 : Cond.selects "ScholarsPressModel" ⟨"ScholarsPressModel", "refuse", "(I)I"⟩ ⟨"ScholarsPressModel", "refuse", "(I)I"⟩ ∈ tt := tt_mem 122 (by decide +kernel) (by decide +kernel)
theorem k_247 : Cond.initialized "ScholarsPressModel" ∈ tt := tt_mem 247 (by decide +kernel) (by decide +kernel)
theorem k_502 : Cond.fieldLink "ScholarsPress" 13 "ScholarsPress" "brokenAt" "I" ∈ tt := tt_mem 502 (by decide +kernel) (by decide +kernel)
theorem k_2976 : Cond.fieldLink "ScholarsPressModel" 154 "ScholarsPressModel$Source" "there" "Z" ∈ tt := tt_mem 2976 (by decide +kernel) (by decide +kernel)
theorem k_3680 : Cond.fieldLink "ScholarsPressModel" 87 "ScholarsPressModel" "thrown" "I" ∈ tt := tt_mem 3680 (by decide +kernel) (by decide +kernel)
theorem k_3681 : Cond.fieldLink "ScholarsPressModel" 7 "ScholarsPressModel" "place" "I" ∈ tt := tt_mem 3681 (by decide +kernel) (by decide +kernel)
theorem k_3683 : Cond.fieldLink "ScholarsPressModel" 104 "ScholarsPressModel" "taped" "I" ∈ tt := tt_mem 3683 (by decide +kernel) (by decide +kernel)
theorem k_3690 : Cond.fieldLink "ScholarsPressModel" 50 "ScholarsPressModel" "source" "LScholarsPressModel$Source;" ∈ tt := tt_mem 3690 (by decide +kernel) (by decide +kernel)
theorem k_3697 : Cond.fieldLink "ScholarsPressModel" 174 "ScholarsPressModel" "isSet" "Z" ∈ tt := tt_mem 3697 (by decide +kernel) (by decide +kernel)
theorem k_3699 : Cond.fieldLink "ScholarsPressModel" 442 "ScholarsPressModel" "outLong" "I" ∈ tt := tt_mem 3699 (by decide +kernel) (by decide +kernel)
theorem k_3758 : Cond.methodLink "ScholarsPressModel" 107 ⟨"ScholarsPressModel", "refuse", "(I)I"⟩ ∈ tt := tt_mem 3758 (by decide +kernel) (by decide +kernel)
theorem k_3760 : Cond.instanceMethod ⟨"ScholarsPressModel", "refuse", "(I)I"⟩ ∈ tt := tt_mem 3760 (by decide +kernel) (by decide +kernel)
theorem k_4102 : Cond.methodLink "ScholarsPressModel" 162 ⟨"ScholarsPressModel", "in", "(III)Z"⟩ ∈ tt := tt_mem 4102 (by decide +kernel) (by decide +kernel)
theorem k_4103 : Cond.static ⟨"ScholarsPressModel", "in", "(III)Z"⟩ ∈ tt := tt_mem 4103 (by decide +kernel) (by decide +kernel)
theorem d_SM_change_0 : decode b_SM_change 0 = .ok (.iload_n 1, 1) := by decide +kernel
theorem d_SM_change_1 : decode b_SM_change 1 = .ok (.ifCond .lt 29, 3) := by decide +kernel
theorem d_SM_change_4 : decode b_SM_change 4 = .ok (.iload_n 1, 1) := by decide +kernel
theorem d_SM_change_5 : decode b_SM_change 5 = .ok (.iload_n 2, 1) := by decide +kernel
theorem d_SM_change_6 : decode b_SM_change 6 = .ok (.if_icmp .gt 24, 3) := by decide +kernel
theorem d_SM_change_9 : decode b_SM_change 9 = .ok (.aload_n 0, 1) := by decide +kernel
theorem d_SM_change_10 : decode b_SM_change 10 = .ok (.getfield 50, 3) := by decide +kernel
theorem d_SM_change_13 : decode b_SM_change 13 = .ok (.getfield 154, 3) := by decide +kernel
theorem d_SM_change_16 : decode b_SM_change 16 = .ok (.ifCond .eq 20, 3) := by decide +kernel
theorem d_SM_change_30 : decode b_SM_change 30 = .ok (.aload_n 0, 1) := by decide +kernel
theorem d_SM_change_31 : decode b_SM_change 31 = .ok (.iconst 1, 1) := by decide +kernel
theorem d_SM_change_32 : decode b_SM_change 32 = .ok (.invokevirtual 107, 3) := by decide +kernel
theorem d_SM_change_35 : decode b_SM_change 35 = .ok (.ireturn, 1) := by decide +kernel
theorem d_SM_change_36 : decode b_SM_change 36 = .ok (.aload_n 0, 1) := by decide +kernel
theorem d_SM_change_37 : decode b_SM_change 37 = .ok (.getfield 50, 3) := by decide +kernel
theorem d_SM_change_40 : decode b_SM_change 40 = .ok (.getfield 154, 3) := by decide +kernel
theorem d_SM_change_43 : decode b_SM_change 43 = .ok (.ifCond .ne 9, 3) := by decide +kernel
theorem d_SM_change_46 : decode b_SM_change 46 = .ok (.aload_n 0, 1) := by decide +kernel
theorem d_SM_change_47 : decode b_SM_change 47 = .ok (.iconst 2, 1) := by decide +kernel
theorem d_SM_change_48 : decode b_SM_change 48 = .ok (.invokevirtual 107, 3) := by decide +kernel
theorem d_SM_change_51 : decode b_SM_change 51 = .ok (.ireturn, 1) := by decide +kernel
theorem d_SM_count_0 : decode b_SM_count 0 = .ok (.iload_n 1, 1) := by decide +kernel
theorem d_SM_count_1 : decode b_SM_count 1 = .ok (.iconst 0, 1) := by decide +kernel
theorem d_SM_count_2 : decode b_SM_count 2 = .ok (.bipush 11, 2) := by decide +kernel
theorem d_SM_count_4 : decode b_SM_count 4 = .ok (.invokestatic 162, 3) := by decide +kernel
theorem d_SM_count_7 : decode b_SM_count 7 = .ok (.ifCond .ne 9, 3) := by decide +kernel
theorem d_SM_count_10 : decode b_SM_count 10 = .ok (.aload_n 0, 1) := by decide +kernel
theorem d_SM_count_11 : decode b_SM_count 11 = .ok (.iconst 1, 1) := by decide +kernel
theorem d_SM_count_12 : decode b_SM_count 12 = .ok (.invokevirtual 107, 3) := by decide +kernel
theorem d_SM_count_15 : decode b_SM_count 15 = .ok (.ireturn, 1) := by decide +kernel
theorem d_SM_count_16 : decode b_SM_count 16 = .ok (.aload_n 0, 1) := by decide +kernel
theorem d_SM_count_17 : decode b_SM_count 17 = .ok (.iconst 0, 1) := by decide +kernel
theorem d_SM_count_18 : decode b_SM_count 18 = .ok (.putfield 87, 3) := by decide +kernel
theorem d_SM_count_21 : decode b_SM_count 21 = .ok (.iload_n 1, 1) := by decide +kernel
theorem d_SM_count_22 : decode b_SM_count 22 = .ok (.tableswitch 92 0 2 #[26, 48, 70], 26) := by decide +kernel
theorem d_SM_count_48 : decode b_SM_count 48 = .ok (.aload_n 0, 1) := by decide +kernel
theorem d_SM_count_49 : decode b_SM_count 49 = .ok (.getfield 50, 3) := by decide +kernel
theorem d_SM_count_52 : decode b_SM_count 52 = .ok (.getfield 154, 3) := by decide +kernel
theorem d_SM_count_55 : decode b_SM_count 55 = .ok (.ifCond .eq 13, 3) := by decide +kernel
theorem d_SM_count_68 : decode b_SM_count 68 = .ok (.iconst 0, 1) := by decide +kernel
theorem d_SM_count_69 : decode b_SM_count 69 = .ok (.ireturn, 1) := by decide +kernel
theorem d_SM_count_70 : decode b_SM_count 70 = .ok (.aload_n 0, 1) := by decide +kernel
theorem d_SM_count_71 : decode b_SM_count 71 = .ok (.getfield 50, 3) := by decide +kernel
theorem d_SM_count_74 : decode b_SM_count 74 = .ok (.getfield 154, 3) := by decide +kernel
theorem d_SM_count_77 : decode b_SM_count 77 = .ok (.ifCond .eq 13, 3) := by decide +kernel
theorem d_SM_count_90 : decode b_SM_count 90 = .ok (.iconst 0, 1) := by decide +kernel
theorem d_SM_count_91 : decode b_SM_count 91 = .ok (.ireturn, 1) := by decide +kernel
theorem d_SM_count_92 : decode b_SM_count 92 = .ok (.aload_n 0, 1) := by decide +kernel
theorem d_SM_count_93 : decode b_SM_count 93 = .ok (.getfield 50, 3) := by decide +kernel
theorem d_SM_count_96 : decode b_SM_count 96 = .ok (.getfield 154, 3) := by decide +kernel
theorem d_SM_count_99 : decode b_SM_count 99 = .ok (.ifCond .eq 13, 3) := by decide +kernel
theorem d_SM_count_112 : decode b_SM_count 112 = .ok (.iconst 0, 1) := by decide +kernel
theorem d_SM_count_113 : decode b_SM_count 113 = .ok (.ireturn, 1) := by decide +kernel
theorem d_SM_count_114 : decode b_SM_count 114 = .ok (.aload_n 0, 1) := by decide +kernel
theorem d_SM_count_115 : decode b_SM_count 115 = .ok (.getfield 174, 3) := by decide +kernel
theorem d_SM_count_118 : decode b_SM_count 118 = .ok (.ifCond .ne 5, 3) := by decide +kernel
theorem d_SM_count_121 : decode b_SM_count 121 = .ok (.iconst 0, 1) := by decide +kernel
theorem d_SM_count_122 : decode b_SM_count 122 = .ok (.ireturn, 1) := by decide +kernel
theorem d_SM_element_0 : decode b_SM_element 0 = .ok (.iload_n 1, 1) := by decide +kernel
theorem d_SM_element_1 : decode b_SM_element 1 = .ok (.ifCond .lt 45, 3) := by decide +kernel
theorem d_SM_element_4 : decode b_SM_element 4 = .ok (.aload_n 0, 1) := by decide +kernel
theorem d_SM_element_5 : decode b_SM_element 5 = .ok (.getfield 50, 3) := by decide +kernel
theorem d_SM_element_8 : decode b_SM_element 8 = .ok (.getfield 154, 3) := by decide +kernel
theorem d_SM_element_11 : decode b_SM_element 11 = .ok (.ifCond .eq 14, 3) := by decide +kernel
theorem d_SM_element_25 : decode b_SM_element 25 = .ok (.iload_n 2, 1) := by decide +kernel
theorem d_SM_element_26 : decode b_SM_element 26 = .ok (.iconst 0, 1) := by decide +kernel
theorem d_SM_element_27 : decode b_SM_element 27 = .ok (.bipush 7, 2) := by decide +kernel
theorem d_SM_element_29 : decode b_SM_element 29 = .ok (.invokestatic 162, 3) := by decide +kernel
theorem d_SM_element_32 : decode b_SM_element 32 = .ok (.ifCond .ne 20, 3) := by decide +kernel
theorem d_SM_element_35 : decode b_SM_element 35 = .ok (.iload_n 2, 1) := by decide +kernel
theorem d_SM_element_36 : decode b_SM_element 36 = .ok (.bipush 20, 2) := by decide +kernel
theorem d_SM_element_38 : decode b_SM_element 38 = .ok (.bipush 41, 2) := by decide +kernel
theorem d_SM_element_40 : decode b_SM_element 40 = .ok (.invokestatic 162, 3) := by decide +kernel
theorem d_SM_element_43 : decode b_SM_element 43 = .ok (.ifCond .ne 9, 3) := by decide +kernel
theorem d_SM_element_46 : decode b_SM_element 46 = .ok (.aload_n 0, 1) := by decide +kernel
theorem d_SM_element_47 : decode b_SM_element 47 = .ok (.iconst 1, 1) := by decide +kernel
theorem d_SM_element_48 : decode b_SM_element 48 = .ok (.invokevirtual 107, 3) := by decide +kernel
theorem d_SM_element_51 : decode b_SM_element 51 = .ok (.ireturn, 1) := by decide +kernel
theorem d_SM_element_52 : decode b_SM_element 52 = .ok (.aload_n 0, 1) := by decide +kernel
theorem d_SM_element_53 : decode b_SM_element 53 = .ok (.getfield 50, 3) := by decide +kernel
theorem d_SM_element_56 : decode b_SM_element 56 = .ok (.getfield 154, 3) := by decide +kernel
theorem d_SM_element_59 : decode b_SM_element 59 = .ok (.ifCond .ne 9, 3) := by decide +kernel
theorem d_SM_element_62 : decode b_SM_element 62 = .ok (.aload_n 0, 1) := by decide +kernel
theorem d_SM_element_63 : decode b_SM_element 63 = .ok (.iconst 2, 1) := by decide +kernel
theorem d_SM_element_64 : decode b_SM_element 64 = .ok (.invokevirtual 107, 3) := by decide +kernel
theorem d_SM_element_67 : decode b_SM_element 67 = .ok (.ireturn, 1) := by decide +kernel
theorem d_SM_end_0 : decode b_SM_end 0 = .ok (.iload_n 1, 1) := by decide +kernel
theorem d_SM_end_1 : decode b_SM_end 1 = .ok (.ifCond .lt 11, 3) := by decide +kernel
theorem d_SM_end_4 : decode b_SM_end 4 = .ok (.iload_n 1, 1) := by decide +kernel
theorem d_SM_end_5 : decode b_SM_end 5 = .ok (.aload_n 0, 1) := by decide +kernel
theorem d_SM_end_6 : decode b_SM_end 6 = .ok (.getfield 104, 3) := by decide +kernel
theorem d_SM_end_9 : decode b_SM_end 9 = .ok (.if_icmp .le 9, 3) := by decide +kernel
theorem d_SM_end_12 : decode b_SM_end 12 = .ok (.aload_n 0, 1) := by decide +kernel
theorem d_SM_end_13 : decode b_SM_end 13 = .ok (.iconst 1, 1) := by decide +kernel
theorem d_SM_end_14 : decode b_SM_end 14 = .ok (.invokevirtual 107, 3) := by decide +kernel
theorem d_SM_end_17 : decode b_SM_end 17 = .ok (.ireturn, 1) := by decide +kernel
theorem d_SM_end_18 : decode b_SM_end 18 = .ok (.aload_n 0, 1) := by decide +kernel
theorem d_SM_end_19 : decode b_SM_end 19 = .ok (.iconst 0, 1) := by decide +kernel
theorem d_SM_end_20 : decode b_SM_end 20 = .ok (.putfield 87, 3) := by decide +kernel
theorem d_SM_end_23 : decode b_SM_end 23 = .ok (.aload_n 0, 1) := by decide +kernel
theorem d_SM_end_24 : decode b_SM_end 24 = .ok (.iload_n 1, 1) := by decide +kernel
theorem d_SM_end_25 : decode b_SM_end 25 = .ok (.putfield 104, 3) := by decide +kernel
theorem d_SM_end_28 : decode b_SM_end 28 = .ok (.iload_n 1, 1) := by decide +kernel
theorem d_SM_end_29 : decode b_SM_end 29 = .ok (.ireturn, 1) := by decide +kernel
theorem d_SM_in_0 : decode b_SM_in 0 = .ok (.iload_n 0, 1) := by decide +kernel
theorem d_SM_in_1 : decode b_SM_in 1 = .ok (.iload_n 1, 1) := by decide +kernel
theorem d_SM_in_2 : decode b_SM_in 2 = .ok (.if_icmp .lt 12, 3) := by decide +kernel
theorem d_SM_in_5 : decode b_SM_in 5 = .ok (.iload_n 0, 1) := by decide +kernel
theorem d_SM_in_6 : decode b_SM_in 6 = .ok (.iload_n 2, 1) := by decide +kernel
theorem d_SM_in_7 : decode b_SM_in 7 = .ok (.if_icmp .gt 7, 3) := by decide +kernel
theorem d_SM_in_10 : decode b_SM_in 10 = .ok (.iconst 1, 1) := by decide +kernel
theorem d_SM_in_11 : decode b_SM_in 11 = .ok (.goto 4, 3) := by decide +kernel
theorem d_SM_in_14 : decode b_SM_in 14 = .ok (.iconst 0, 1) := by decide +kernel
theorem d_SM_in_15 : decode b_SM_in 15 = .ok (.ireturn, 1) := by decide +kernel
theorem d_SM_judge_0 : decode b_SM_judge 0 = .ok (.aload_n 0, 1) := by decide +kernel
theorem d_SM_judge_1 : decode b_SM_judge 1 = .ok (.getfield 174, 3) := by decide +kernel
theorem d_SM_judge_4 : decode b_SM_judge 4 = .ok (.ifCond .ne 10, 3) := by decide +kernel
theorem d_SM_judge_7 : decode b_SM_judge 7 = .ok (.aload_n 0, 1) := by decide +kernel
theorem d_SM_judge_8 : decode b_SM_judge 8 = .ok (.iconst 1, 1) := by decide +kernel
theorem d_SM_judge_9 : decode b_SM_judge 9 = .ok (.invokevirtual 107, 3) := by decide +kernel
theorem d_SM_judge_12 : decode b_SM_judge 12 = .ok (.i2l, 1) := by decide +kernel
theorem d_SM_judge_13 : decode b_SM_judge 13 = .ok (.lreturn, 1) := by decide +kernel
theorem d_SM_line_0 : decode b_SM_line 0 = .ok (.iload_n 2, 1) := by decide +kernel
theorem d_SM_line_1 : decode b_SM_line 1 = .ok (.iconst 0, 1) := by decide +kernel
theorem d_SM_line_2 : decode b_SM_line 2 = .ok (.bipush 6, 2) := by decide +kernel
theorem d_SM_line_4 : decode b_SM_line 4 = .ok (.invokestatic 162, 3) := by decide +kernel
theorem d_SM_line_7 : decode b_SM_line 7 = .ok (.ifCond .ne 9, 3) := by decide +kernel
theorem d_SM_line_10 : decode b_SM_line 10 = .ok (.aload_n 0, 1) := by decide +kernel
theorem d_SM_line_11 : decode b_SM_line 11 = .ok (.iconst 1, 1) := by decide +kernel
theorem d_SM_line_12 : decode b_SM_line 12 = .ok (.invokevirtual 107, 3) := by decide +kernel
theorem d_SM_line_15 : decode b_SM_line 15 = .ok (.ireturn, 1) := by decide +kernel
theorem d_SM_line_16 : decode b_SM_line 16 = .ok (.aload_n 0, 1) := by decide +kernel
theorem d_SM_line_17 : decode b_SM_line 17 = .ok (.getfield 174, 3) := by decide +kernel
theorem d_SM_line_20 : decode b_SM_line 20 = .ok (.ifCond .ne 9, 3) := by decide +kernel
theorem d_SM_line_23 : decode b_SM_line 23 = .ok (.aload_n 0, 1) := by decide +kernel
theorem d_SM_line_24 : decode b_SM_line 24 = .ok (.iconst 2, 1) := by decide +kernel
theorem d_SM_line_25 : decode b_SM_line 25 = .ok (.invokevirtual 107, 3) := by decide +kernel
theorem d_SM_line_28 : decode b_SM_line 28 = .ok (.ireturn, 1) := by decide +kernel
theorem d_SM_note_0 : decode b_SM_note 0 = .ok (.iload_n 2, 1) := by decide +kernel
theorem d_SM_note_1 : decode b_SM_note 1 = .ok (.iconst 0, 1) := by decide +kernel
theorem d_SM_note_2 : decode b_SM_note 2 = .ok (.iconst 5, 1) := by decide +kernel
theorem d_SM_note_3 : decode b_SM_note 3 = .ok (.invokestatic 162, 3) := by decide +kernel
theorem d_SM_note_6 : decode b_SM_note 6 = .ok (.ifCond .ne 20, 3) := by decide +kernel
theorem d_SM_note_9 : decode b_SM_note 9 = .ok (.iload_n 2, 1) := by decide +kernel
theorem d_SM_note_10 : decode b_SM_note 10 = .ok (.bipush 10, 2) := by decide +kernel
theorem d_SM_note_12 : decode b_SM_note 12 = .ok (.bipush 13, 2) := by decide +kernel
theorem d_SM_note_14 : decode b_SM_note 14 = .ok (.invokestatic 162, 3) := by decide +kernel
theorem d_SM_note_17 : decode b_SM_note 17 = .ok (.ifCond .ne 9, 3) := by decide +kernel
theorem d_SM_note_20 : decode b_SM_note 20 = .ok (.aload_n 0, 1) := by decide +kernel
theorem d_SM_note_21 : decode b_SM_note 21 = .ok (.iconst 1, 1) := by decide +kernel
theorem d_SM_note_22 : decode b_SM_note 22 = .ok (.invokevirtual 107, 3) := by decide +kernel
theorem d_SM_note_25 : decode b_SM_note 25 = .ok (.ireturn, 1) := by decide +kernel
theorem d_SM_note_26 : decode b_SM_note 26 = .ok (.aload_n 0, 1) := by decide +kernel
theorem d_SM_note_27 : decode b_SM_note 27 = .ok (.getfield 174, 3) := by decide +kernel
theorem d_SM_note_30 : decode b_SM_note 30 = .ok (.ifCond .ne 9, 3) := by decide +kernel
theorem d_SM_note_33 : decode b_SM_note 33 = .ok (.aload_n 0, 1) := by decide +kernel
theorem d_SM_note_34 : decode b_SM_note 34 = .ok (.iconst 2, 1) := by decide +kernel
theorem d_SM_note_35 : decode b_SM_note 35 = .ok (.invokevirtual 107, 3) := by decide +kernel
theorem d_SM_note_38 : decode b_SM_note 38 = .ok (.ireturn, 1) := by decide +kernel
theorem d_SM_paragraph_0 : decode b_SM_paragraph 0 = .ok (.iload_n 2, 1) := by decide +kernel
theorem d_SM_paragraph_1 : decode b_SM_paragraph 1 = .ok (.iconst 0, 1) := by decide +kernel
theorem d_SM_paragraph_2 : decode b_SM_paragraph 2 = .ok (.bipush 6, 2) := by decide +kernel
theorem d_SM_paragraph_4 : decode b_SM_paragraph 4 = .ok (.invokestatic 162, 3) := by decide +kernel
theorem d_SM_paragraph_7 : decode b_SM_paragraph 7 = .ok (.ifCond .ne 10, 3) := by decide +kernel
theorem d_SM_paragraph_10 : decode b_SM_paragraph 10 = .ok (.aload_n 0, 1) := by decide +kernel
theorem d_SM_paragraph_11 : decode b_SM_paragraph 11 = .ok (.iconst 1, 1) := by decide +kernel
theorem d_SM_paragraph_12 : decode b_SM_paragraph 12 = .ok (.invokevirtual 107, 3) := by decide +kernel
theorem d_SM_paragraph_15 : decode b_SM_paragraph 15 = .ok (.i2l, 1) := by decide +kernel
theorem d_SM_paragraph_16 : decode b_SM_paragraph 16 = .ok (.lreturn, 1) := by decide +kernel
theorem d_SM_paragraph_17 : decode b_SM_paragraph 17 = .ok (.aload_n 0, 1) := by decide +kernel
theorem d_SM_paragraph_18 : decode b_SM_paragraph 18 = .ok (.getfield 174, 3) := by decide +kernel
theorem d_SM_paragraph_21 : decode b_SM_paragraph 21 = .ok (.ifCond .ne 10, 3) := by decide +kernel
theorem d_SM_paragraph_24 : decode b_SM_paragraph 24 = .ok (.aload_n 0, 1) := by decide +kernel
theorem d_SM_paragraph_25 : decode b_SM_paragraph 25 = .ok (.iconst 2, 1) := by decide +kernel
theorem d_SM_paragraph_26 : decode b_SM_paragraph 26 = .ok (.invokevirtual 107, 3) := by decide +kernel
theorem d_SM_paragraph_29 : decode b_SM_paragraph 29 = .ok (.i2l, 1) := by decide +kernel
theorem d_SM_paragraph_30 : decode b_SM_paragraph 30 = .ok (.lreturn, 1) := by decide +kernel
theorem d_SM_place_0 : decode b_SM_place 0 = .ok (.aload_n 0, 1) := by decide +kernel
theorem d_SM_place_1 : decode b_SM_place 1 = .ok (.iconst 0, 1) := by decide +kernel
theorem d_SM_place_2 : decode b_SM_place 2 = .ok (.putfield 87, 3) := by decide +kernel
theorem d_SM_place_5 : decode b_SM_place 5 = .ok (.aload_n 0, 1) := by decide +kernel
theorem d_SM_place_6 : decode b_SM_place 6 = .ok (.getfield 7, 3) := by decide +kernel
theorem d_SM_place_9 : decode b_SM_place 9 = .ok (.ireturn, 1) := by decide +kernel
theorem d_SM_print_0 : decode b_SM_print 0 = .ok (.aload_n 0, 1) := by decide +kernel
theorem d_SM_print_1 : decode b_SM_print 1 = .ok (.getfield 174, 3) := by decide +kernel
theorem d_SM_print_4 : decode b_SM_print 4 = .ok (.ifCond .ne 9, 3) := by decide +kernel
theorem d_SM_print_7 : decode b_SM_print 7 = .ok (.aload_n 0, 1) := by decide +kernel
theorem d_SM_print_8 : decode b_SM_print 8 = .ok (.iconst 1, 1) := by decide +kernel
theorem d_SM_print_9 : decode b_SM_print 9 = .ok (.invokevirtual 107, 3) := by decide +kernel
theorem d_SM_print_12 : decode b_SM_print 12 = .ok (.ireturn, 1) := by decide +kernel
theorem d_SM_refuse_0 : decode b_SM_refuse 0 = .ok (.aload_n 0, 1) := by decide +kernel
theorem d_SM_refuse_1 : decode b_SM_refuse 1 = .ok (.iload_n 1, 1) := by decide +kernel
theorem d_SM_refuse_2 : decode b_SM_refuse 2 = .ok (.putfield 87, 3) := by decide +kernel
theorem d_SM_refuse_5 : decode b_SM_refuse 5 = .ok (.iconst 0, 1) := by decide +kernel
theorem d_SM_refuse_6 : decode b_SM_refuse 6 = .ok (.ireturn, 1) := by decide +kernel
theorem d_SM_set_0 : decode b_SM_set 0 = .ok (.iload_n 1, 1) := by decide +kernel
theorem d_SM_set_1 : decode b_SM_set 1 = .ok (.iconst 1, 1) := by decide +kernel
theorem d_SM_set_2 : decode b_SM_set 2 = .ok (.bipush 9, 2) := by decide +kernel
theorem d_SM_set_4 : decode b_SM_set 4 = .ok (.invokestatic 162, 3) := by decide +kernel
theorem d_SM_set_7 : decode b_SM_set 7 = .ok (.ifCond .ne 9, 3) := by decide +kernel
theorem d_SM_set_10 : decode b_SM_set 10 = .ok (.aload_n 0, 1) := by decide +kernel
theorem d_SM_set_11 : decode b_SM_set 11 = .ok (.iconst 1, 1) := by decide +kernel
theorem d_SM_set_12 : decode b_SM_set 12 = .ok (.invokevirtual 107, 3) := by decide +kernel
theorem d_SM_set_15 : decode b_SM_set 15 = .ok (.ireturn, 1) := by decide +kernel
theorem d_SM_set_16 : decode b_SM_set 16 = .ok (.aload_n 0, 1) := by decide +kernel
theorem d_SM_set_17 : decode b_SM_set 17 = .ok (.getfield 50, 3) := by decide +kernel
theorem d_SM_set_20 : decode b_SM_set 20 = .ok (.getfield 154, 3) := by decide +kernel
theorem d_SM_set_23 : decode b_SM_set 23 = .ok (.ifCond .ne 9, 3) := by decide +kernel
theorem d_SM_set_26 : decode b_SM_set 26 = .ok (.aload_n 0, 1) := by decide +kernel
theorem d_SM_set_27 : decode b_SM_set 27 = .ok (.iconst 2, 1) := by decide +kernel
theorem d_SM_set_28 : decode b_SM_set 28 = .ok (.invokevirtual 107, 3) := by decide +kernel
theorem d_SM_set_31 : decode b_SM_set 31 = .ok (.ireturn, 1) := by decide +kernel
theorem d_SM_spot_0 : decode b_SM_spot 0 = .ok (.aload_n 0, 1) := by decide +kernel
theorem d_SM_spot_1 : decode b_SM_spot 1 = .ok (.getfield 174, 3) := by decide +kernel
theorem d_SM_spot_4 : decode b_SM_spot 4 = .ok (.ifCond .ne 10, 3) := by decide +kernel
theorem d_SM_spot_7 : decode b_SM_spot 7 = .ok (.aload_n 0, 1) := by decide +kernel
theorem d_SM_spot_8 : decode b_SM_spot 8 = .ok (.iconst 1, 1) := by decide +kernel
theorem d_SM_spot_9 : decode b_SM_spot 9 = .ok (.invokevirtual 107, 3) := by decide +kernel
theorem d_SM_spot_12 : decode b_SM_spot 12 = .ok (.i2l, 1) := by decide +kernel
theorem d_SM_spot_13 : decode b_SM_spot 13 = .ok (.lreturn, 1) := by decide +kernel
theorem d_SM_thrown_0 : decode b_SM_thrown 0 = .ok (.aload_n 0, 1) := by decide +kernel
theorem d_SM_thrown_1 : decode b_SM_thrown 1 = .ok (.getfield 87, 3) := by decide +kernel
theorem d_SM_thrown_4 : decode b_SM_thrown 4 = .ok (.ireturn, 1) := by decide +kernel
theorem d_SM_wavering_0 : decode b_SM_wavering 0 = .ok (.aload_n 0, 1) := by decide +kernel
theorem d_SM_wavering_1 : decode b_SM_wavering 1 = .ok (.getfield 174, 3) := by decide +kernel
theorem d_SM_wavering_4 : decode b_SM_wavering 4 = .ok (.ifCond .ne 9, 3) := by decide +kernel
theorem d_SM_wavering_7 : decode b_SM_wavering 7 = .ok (.aload_n 0, 1) := by decide +kernel
theorem d_SM_wavering_8 : decode b_SM_wavering 8 = .ok (.iconst 1, 1) := by decide +kernel
theorem d_SM_wavering_9 : decode b_SM_wavering 9 = .ok (.invokevirtual 107, 3) := by decide +kernel
theorem d_SM_wavering_12 : decode b_SM_wavering 12 = .ok (.ireturn, 1) := by decide +kernel
theorem d_SM_where_0 : decode b_SM_where 0 = .ok (.iload_n 1, 1) := by decide +kernel
theorem d_SM_where_1 : decode b_SM_where 1 = .ok (.iconst 0, 1) := by decide +kernel
theorem d_SM_where_2 : decode b_SM_where 2 = .ok (.iconst 5, 1) := by decide +kernel
theorem d_SM_where_3 : decode b_SM_where 3 = .ok (.invokestatic 162, 3) := by decide +kernel
theorem d_SM_where_6 : decode b_SM_where 6 = .ok (.ifCond .ne 9, 3) := by decide +kernel
theorem d_SM_where_9 : decode b_SM_where 9 = .ok (.aload_n 0, 1) := by decide +kernel
theorem d_SM_where_10 : decode b_SM_where 10 = .ok (.iconst 1, 1) := by decide +kernel
theorem d_SM_where_11 : decode b_SM_where 11 = .ok (.invokevirtual 107, 3) := by decide +kernel
theorem d_SM_where_14 : decode b_SM_where 14 = .ok (.ireturn, 1) := by decide +kernel
theorem d_SM_where_15 : decode b_SM_where 15 = .ok (.aload_n 0, 1) := by decide +kernel
theorem d_SM_where_16 : decode b_SM_where 16 = .ok (.getfield 174, 3) := by decide +kernel
theorem d_SM_where_19 : decode b_SM_where 19 = .ok (.ifCond .ne 9, 3) := by decide +kernel
theorem d_SM_where_22 : decode b_SM_where 22 = .ok (.aload_n 0, 1) := by decide +kernel
theorem d_SM_where_23 : decode b_SM_where 23 = .ok (.iconst 2, 1) := by decide +kernel
theorem d_SM_where_24 : decode b_SM_where 24 = .ok (.invokevirtual 107, 3) := by decide +kernel
theorem d_SM_where_27 : decode b_SM_where 27 = .ok (.ireturn, 1) := by decide +kernel
theorem d_SM_word_0 : decode b_SM_word 0 = .ok (.iload_n 1, 1) := by decide +kernel
theorem d_SM_word_1 : decode b_SM_word 1 = .ok (.ifCond .lt 11, 3) := by decide +kernel
theorem d_SM_word_4 : decode b_SM_word 4 = .ok (.iload_n 1, 1) := by decide +kernel
theorem d_SM_word_5 : decode b_SM_word 5 = .ok (.aload_n 0, 1) := by decide +kernel
theorem d_SM_word_6 : decode b_SM_word 6 = .ok (.getfield 442, 3) := by decide +kernel
theorem d_SM_word_9 : decode b_SM_word 9 = .ok (.if_icmp .lt 10, 3) := by decide +kernel
theorem d_SM_word_12 : decode b_SM_word 12 = .ok (.aload_n 0, 1) := by decide +kernel
theorem d_SM_word_13 : decode b_SM_word 13 = .ok (.iconst 1, 1) := by decide +kernel
theorem d_SM_word_14 : decode b_SM_word 14 = .ok (.invokevirtual 107, 3) := by decide +kernel
theorem d_SM_word_17 : decode b_SM_word 17 = .ok (.i2l, 1) := by decide +kernel
theorem d_SM_word_18 : decode b_SM_word 18 = .ok (.lreturn, 1) := by decide +kernel
theorem d_SP_place_0 : decode b_SP_place 0 = .ok (.aload_n 0, 1) := by decide +kernel
theorem d_SP_place_1 : decode b_SP_place 1 = .ok (.getfield 13, 3) := by decide +kernel
theorem d_SP_place_4 : decode b_SP_place 4 = .ok (.ireturn, 1) := by decide +kernel
