abbrev b_SP_count : ByteArray := prog_1_method_12_code
abbrev y_SP_count : MethodName := ⟨"ScholarsPress", "count", "(I)I"⟩
abbrev w_SP_count : Cond := .code y_SP_count b_SP_count 2 (some .int)
theorem kw_SP_count : w_SP_count ∈ tt := tt_mem 2513 (by decide +kernel) (by decide +kernel)
abbrev b_SP_set : ByteArray := prog_1_method_10_code
abbrev y_SP_set : MethodName := ⟨"ScholarsPress", "set", "(I)I"⟩
abbrev w_SP_set : Cond := .code y_SP_set b_SP_set 6 (some .int)
theorem kw_SP_set : w_SP_set ∈ tt := tt_mem 1414 (by decide +kernel) (by decide +kernel)
abbrev b_SP_element : ByteArray := prog_1_method_11_code
abbrev y_SP_element : MethodName := ⟨"ScholarsPress", "element", "(II)I"⟩
abbrev w_SP_element : Cond := .code y_SP_element b_SP_element 4 (some .int)
theorem kw_SP_element : w_SP_element ∈ tt := tt_mem 2500 (by decide +kernel) (by decide +kernel)
abbrev b_SP_line : ByteArray := prog_1_method_13_code
abbrev y_SP_line : MethodName := ⟨"ScholarsPress", "line", "(II)I"⟩
abbrev w_SP_line : Cond := .code y_SP_line b_SP_line 6 (some .int)
theorem kw_SP_line : w_SP_line ∈ tt := tt_mem 2528 (by decide +kernel) (by decide +kernel)
abbrev b_SP_spot : ByteArray := prog_1_method_14_code
abbrev y_SP_spot : MethodName := ⟨"ScholarsPress", "spot", "(II)J"⟩
abbrev w_SP_spot : Cond := .code y_SP_spot b_SP_spot 5 (some .long)
theorem kw_SP_spot : w_SP_spot ∈ tt := tt_mem 2553 (by decide +kernel) (by decide +kernel)
abbrev b_SP_paragraph : ByteArray := prog_1_method_15_code
abbrev y_SP_paragraph : MethodName := ⟨"ScholarsPress", "paragraph", "(II)J"⟩
abbrev w_SP_paragraph : Cond := .code y_SP_paragraph b_SP_paragraph 4 (some .long)
theorem kw_SP_paragraph : w_SP_paragraph ∈ tt := tt_mem 2572 (by decide +kernel) (by decide +kernel)
abbrev b_SP_judge : ByteArray := prog_1_method_16_code
abbrev y_SP_judge : MethodName := ⟨"ScholarsPress", "judge", "(I)J"⟩
abbrev w_SP_judge : Cond := .code y_SP_judge b_SP_judge 3 (some .long)
theorem kw_SP_judge : w_SP_judge ∈ tt := tt_mem 2580 (by decide +kernel) (by decide +kernel)
abbrev b_SP_where : ByteArray := prog_1_method_17_code
abbrev y_SP_where : MethodName := ⟨"ScholarsPress", "where", "(I)I"⟩
abbrev w_SP_where : Cond := .code y_SP_where b_SP_where 4 (some .int)
theorem kw_SP_where : w_SP_where ∈ tt := tt_mem 2598 (by decide +kernel) (by decide +kernel)
abbrev b_SP_note : ByteArray := prog_1_method_18_code
abbrev y_SP_note : MethodName := ⟨"ScholarsPress", "note", "(II)I"⟩
abbrev w_SP_note : Cond := .code y_SP_note b_SP_note 4 (some .int)
theorem kw_SP_note : w_SP_note ∈ tt := tt_mem 2629 (by decide +kernel) (by decide +kernel)
abbrev b_SP_wavering : ByteArray := prog_1_method_19_code
abbrev y_SP_wavering : MethodName := ⟨"ScholarsPress", "wavering", "(I)I"⟩
abbrev w_SP_wavering : Cond := .code y_SP_wavering b_SP_wavering 2 (some .int)
theorem kw_SP_wavering : w_SP_wavering ∈ tt := tt_mem 2654 (by decide +kernel) (by decide +kernel)
abbrev b_SP_print : ByteArray := prog_1_method_20_code
abbrev y_SP_print : MethodName := ⟨"ScholarsPress", "print", "(I)I"⟩
abbrev w_SP_print : Cond := .code y_SP_print b_SP_print 3 (some .int)
theorem kw_SP_print : w_SP_print ∈ tt := tt_mem 2661 (by decide +kernel) (by decide +kernel)
abbrev b_SP_word : ByteArray := prog_1_method_21_code
abbrev y_SP_word : MethodName := ⟨"ScholarsPress", "word", "(I)J"⟩
abbrev w_SP_word : Cond := .code y_SP_word b_SP_word 5 (some .long)
theorem kw_SP_word : w_SP_word ∈ tt := tt_mem 2698 (by decide +kernel) (by decide +kernel)
abbrev b_SP_change : ByteArray := prog_1_method_8_code
abbrev y_SP_change : MethodName := ⟨"ScholarsPress", "change", "(II)I"⟩
abbrev w_SP_change : Cond := .code y_SP_change b_SP_change 6 (some .int)
theorem kw_SP_change : w_SP_change ∈ tt := tt_mem 1391 (by decide +kernel) (by decide +kernel)
abbrev b_SP_end : ByteArray := prog_1_method_3_code
abbrev y_SP_end : MethodName := ⟨"ScholarsPress", "end", "(I)I"⟩
abbrev w_SP_end : Cond := .code y_SP_end b_SP_end 2 (some .int)
theorem kw_SP_end : w_SP_end ∈ tt := tt_mem 657 (by decide +kernel) (by decide +kernel)
theorem k_501 : Cond.fieldLink "ScholarsPress" 45 "ScholarsPress" "tapeLength" "I" ∈ tt := tt_mem 501 (by decide +kernel) (by decide +kernel)
theorem k_504 : Cond.fieldLink "ScholarsPress" 135 "ScholarsPress" "sourceNow" "LScholarsPress$Source;" ∈ tt := tt_mem 504 (by decide +kernel) (by decide +kernel)
theorem k_514 : Cond.fieldLink "ScholarsPress" 172 "ScholarsPress" "pagesNow" "LScholarsPress$Pages;" ∈ tt := tt_mem 514 (by decide +kernel) (by decide +kernel)
theorem k_520 : Cond.fieldLink "ScholarsPress" 293 "ScholarsPress" "outLength" "I" ∈ tt := tt_mem 520 (by decide +kernel) (by decide +kernel)
theorem d_SP_change_0 : decode b_SP_change 0 = .ok (.iload_n 1, 1) := by decide +kernel
theorem d_SP_change_1 : decode b_SP_change 1 = .ok (.ifCond .lt 26, 3) := by decide +kernel
theorem d_SP_change_4 : decode b_SP_change 4 = .ok (.iload_n 2, 1) := by decide +kernel
theorem d_SP_change_5 : decode b_SP_change 5 = .ok (.iload_n 1, 1) := by decide +kernel
theorem d_SP_change_6 : decode b_SP_change 6 = .ok (.if_icmp .lt 21, 3) := by decide +kernel
theorem d_SP_change_9 : decode b_SP_change 9 = .ok (.aload_n 0, 1) := by decide +kernel
theorem d_SP_change_10 : decode b_SP_change 10 = .ok (.getfield 135, 3) := by decide +kernel
theorem d_SP_change_13 : decode b_SP_change 13 = .ok (.ifnull 22, 3) := by decide +kernel
theorem d_SP_change_27 : decode b_SP_change 27 = .ok (.new iN_IAE, 3) := by decide +kernel
theorem d_SP_change_30 : decode b_SP_change 30 = .ok (.dup, 1) := by decide +kernel
theorem d_SP_change_31 : decode b_SP_change 31 = .ok (.invokespecial ic_IAE, 3) := by decide +kernel
theorem d_SP_change_34 : decode b_SP_change 34 = .ok (.athrow, 1) := by decide +kernel
theorem d_SP_change_35 : decode b_SP_change 35 = .ok (.aload_n 0, 1) := by decide +kernel
theorem d_SP_change_36 : decode b_SP_change 36 = .ok (.getfield 135, 3) := by decide +kernel
theorem d_SP_change_39 : decode b_SP_change 39 = .ok (.ifnonnull 11, 3) := by decide +kernel
theorem d_SP_change_42 : decode b_SP_change 42 = .ok (.new iN_ISE, 3) := by decide +kernel
theorem d_SP_change_45 : decode b_SP_change 45 = .ok (.dup, 1) := by decide +kernel
theorem d_SP_change_46 : decode b_SP_change 46 = .ok (.invokespecial ic_ISE, 3) := by decide +kernel
theorem d_SP_change_49 : decode b_SP_change 49 = .ok (.athrow, 1) := by decide +kernel
theorem d_SP_count_0 : decode b_SP_count 0 = .ok (.iload_n 1, 1) := by decide +kernel
theorem d_SP_count_1 : decode b_SP_count 1 = .ok (.ifCond .lt 9, 3) := by decide +kernel
theorem d_SP_count_4 : decode b_SP_count 4 = .ok (.iload_n 1, 1) := by decide +kernel
theorem d_SP_count_5 : decode b_SP_count 5 = .ok (.bipush 11, 2) := by decide +kernel
theorem d_SP_count_7 : decode b_SP_count 7 = .ok (.if_icmp .le 11, 3) := by decide +kernel
theorem d_SP_count_10 : decode b_SP_count 10 = .ok (.new iN_IAE, 3) := by decide +kernel
theorem d_SP_count_13 : decode b_SP_count 13 = .ok (.dup, 1) := by decide +kernel
theorem d_SP_count_14 : decode b_SP_count 14 = .ok (.invokespecial ic_IAE, 3) := by decide +kernel
theorem d_SP_count_17 : decode b_SP_count 17 = .ok (.athrow, 1) := by decide +kernel
theorem d_SP_count_18 : decode b_SP_count 18 = .ok (.iload_n 1, 1) := by decide +kernel
theorem d_SP_count_19 : decode b_SP_count 19 = .ok (.iconst 2, 1) := by decide +kernel
theorem d_SP_count_20 : decode b_SP_count 20 = .ok (.if_icmp .gt 20, 3) := by decide +kernel
theorem d_SP_count_23 : decode b_SP_count 23 = .ok (.aload_n 0, 1) := by decide +kernel
theorem d_SP_count_24 : decode b_SP_count 24 = .ok (.getfield 135, 3) := by decide +kernel
theorem d_SP_count_27 : decode b_SP_count 27 = .ok (.ifnonnull 7, 3) := by decide +kernel
theorem d_SP_count_30 : decode b_SP_count 30 = .ok (.iconst 0, 1) := by decide +kernel
theorem d_SP_count_31 : decode b_SP_count 31 = .ok (.goto 8, 3) := by decide +kernel
theorem d_SP_count_39 : decode b_SP_count 39 = .ok (.ireturn, 1) := by decide +kernel
theorem d_SP_count_40 : decode b_SP_count 40 = .ok (.aload_n 0, 1) := by decide +kernel
theorem d_SP_count_41 : decode b_SP_count 41 = .ok (.getfield 172, 3) := by decide +kernel
theorem d_SP_count_44 : decode b_SP_count 44 = .ok (.ifnonnull 7, 3) := by decide +kernel
theorem d_SP_count_47 : decode b_SP_count 47 = .ok (.iconst 0, 1) := by decide +kernel
theorem d_SP_count_48 : decode b_SP_count 48 = .ok (.goto 11, 3) := by decide +kernel
theorem d_SP_count_59 : decode b_SP_count 59 = .ok (.ireturn, 1) := by decide +kernel
theorem d_SP_element_0 : decode b_SP_element 0 = .ok (.iload_n 2, 1) := by decide +kernel
theorem d_SP_element_1 : decode b_SP_element 1 = .ok (.ifCond .lt 9, 3) := by decide +kernel
theorem d_SP_element_4 : decode b_SP_element 4 = .ok (.iload_n 2, 1) := by decide +kernel
theorem d_SP_element_5 : decode b_SP_element 5 = .ok (.bipush 7, 2) := by decide +kernel
theorem d_SP_element_7 : decode b_SP_element 7 = .ok (.if_icmp .le 15, 3) := by decide +kernel
theorem d_SP_element_10 : decode b_SP_element 10 = .ok (.iload_n 2, 1) := by decide +kernel
theorem d_SP_element_11 : decode b_SP_element 11 = .ok (.bipush 20, 2) := by decide +kernel
theorem d_SP_element_13 : decode b_SP_element 13 = .ok (.if_icmp .lt 13, 3) := by decide +kernel
theorem d_SP_element_16 : decode b_SP_element 16 = .ok (.iload_n 2, 1) := by decide +kernel
theorem d_SP_element_17 : decode b_SP_element 17 = .ok (.bipush 41, 2) := by decide +kernel
theorem d_SP_element_19 : decode b_SP_element 19 = .ok (.if_icmp .gt 7, 3) := by decide +kernel
theorem d_SP_element_22 : decode b_SP_element 22 = .ok (.iconst 1, 1) := by decide +kernel
theorem d_SP_element_23 : decode b_SP_element 23 = .ok (.goto 4, 3) := by decide +kernel
theorem d_SP_element_26 : decode b_SP_element 26 = .ok (.iconst 0, 1) := by decide +kernel
theorem d_SP_element_27 : decode b_SP_element 27 = .ok (.istore_n 3, 1) := by decide +kernel
theorem d_SP_element_28 : decode b_SP_element 28 = .ok (.iload_n 3, 1) := by decide +kernel
theorem d_SP_element_29 : decode b_SP_element 29 = .ok (.ifCond .eq 25, 3) := by decide +kernel
theorem d_SP_element_32 : decode b_SP_element 32 = .ok (.iload_n 1, 1) := by decide +kernel
theorem d_SP_element_33 : decode b_SP_element 33 = .ok (.ifCond .lt 21, 3) := by decide +kernel
theorem d_SP_element_36 : decode b_SP_element 36 = .ok (.aload_n 0, 1) := by decide +kernel
theorem d_SP_element_37 : decode b_SP_element 37 = .ok (.getfield 135, 3) := by decide +kernel
theorem d_SP_element_40 : decode b_SP_element 40 = .ok (.ifnull 22, 3) := by decide +kernel
theorem d_SP_element_54 : decode b_SP_element 54 = .ok (.new iN_IAE, 3) := by decide +kernel
theorem d_SP_element_57 : decode b_SP_element 57 = .ok (.dup, 1) := by decide +kernel
theorem d_SP_element_58 : decode b_SP_element 58 = .ok (.invokespecial ic_IAE, 3) := by decide +kernel
theorem d_SP_element_61 : decode b_SP_element 61 = .ok (.athrow, 1) := by decide +kernel
theorem d_SP_element_62 : decode b_SP_element 62 = .ok (.aload_n 0, 1) := by decide +kernel
theorem d_SP_element_63 : decode b_SP_element 63 = .ok (.getfield 135, 3) := by decide +kernel
theorem d_SP_element_66 : decode b_SP_element 66 = .ok (.ifnonnull 11, 3) := by decide +kernel
theorem d_SP_element_69 : decode b_SP_element 69 = .ok (.new iN_ISE, 3) := by decide +kernel
theorem d_SP_element_72 : decode b_SP_element 72 = .ok (.dup, 1) := by decide +kernel
theorem d_SP_element_73 : decode b_SP_element 73 = .ok (.invokespecial ic_ISE, 3) := by decide +kernel
theorem d_SP_element_76 : decode b_SP_element 76 = .ok (.athrow, 1) := by decide +kernel
theorem d_SP_end_0 : decode b_SP_end 0 = .ok (.iload_n 1, 1) := by decide +kernel
theorem d_SP_end_1 : decode b_SP_end 1 = .ok (.ifCond .lt 11, 3) := by decide +kernel
theorem d_SP_end_4 : decode b_SP_end 4 = .ok (.iload_n 1, 1) := by decide +kernel
theorem d_SP_end_5 : decode b_SP_end 5 = .ok (.aload_n 0, 1) := by decide +kernel
theorem d_SP_end_6 : decode b_SP_end 6 = .ok (.getfield 45, 3) := by decide +kernel
theorem d_SP_end_9 : decode b_SP_end 9 = .ok (.if_icmp .le 11, 3) := by decide +kernel
theorem d_SP_end_12 : decode b_SP_end 12 = .ok (.new iN_IAE, 3) := by decide +kernel
theorem d_SP_end_15 : decode b_SP_end 15 = .ok (.dup, 1) := by decide +kernel
theorem d_SP_end_16 : decode b_SP_end 16 = .ok (.invokespecial ic_IAE, 3) := by decide +kernel
theorem d_SP_end_19 : decode b_SP_end 19 = .ok (.athrow, 1) := by decide +kernel
theorem d_SP_end_20 : decode b_SP_end 20 = .ok (.aload_n 0, 1) := by decide +kernel
theorem d_SP_end_21 : decode b_SP_end 21 = .ok (.iload_n 1, 1) := by decide +kernel
theorem d_SP_end_22 : decode b_SP_end 22 = .ok (.putfield 45, 3) := by decide +kernel
theorem d_SP_end_25 : decode b_SP_end 25 = .ok (.iload_n 1, 1) := by decide +kernel
theorem d_SP_end_26 : decode b_SP_end 26 = .ok (.ireturn, 1) := by decide +kernel
theorem d_SP_judge_0 : decode b_SP_judge 0 = .ok (.aload_n 0, 1) := by decide +kernel
theorem d_SP_judge_1 : decode b_SP_judge 1 = .ok (.getfield 172, 3) := by decide +kernel
theorem d_SP_judge_4 : decode b_SP_judge 4 = .ok (.ifnonnull 11, 3) := by decide +kernel
theorem d_SP_judge_7 : decode b_SP_judge 7 = .ok (.new iN_ISE, 3) := by decide +kernel
theorem d_SP_judge_10 : decode b_SP_judge 10 = .ok (.dup, 1) := by decide +kernel
theorem d_SP_judge_11 : decode b_SP_judge 11 = .ok (.invokespecial ic_ISE, 3) := by decide +kernel
theorem d_SP_judge_14 : decode b_SP_judge 14 = .ok (.athrow, 1) := by decide +kernel
theorem d_SP_line_0 : decode b_SP_line 0 = .ok (.iload_n 2, 1) := by decide +kernel
theorem d_SP_line_1 : decode b_SP_line 1 = .ok (.ifCond .lt 9, 3) := by decide +kernel
theorem d_SP_line_4 : decode b_SP_line 4 = .ok (.iload_n 2, 1) := by decide +kernel
theorem d_SP_line_5 : decode b_SP_line 5 = .ok (.bipush 6, 2) := by decide +kernel
theorem d_SP_line_7 : decode b_SP_line 7 = .ok (.if_icmp .le 11, 3) := by decide +kernel
theorem d_SP_line_10 : decode b_SP_line 10 = .ok (.new iN_IAE, 3) := by decide +kernel
theorem d_SP_line_13 : decode b_SP_line 13 = .ok (.dup, 1) := by decide +kernel
theorem d_SP_line_14 : decode b_SP_line 14 = .ok (.invokespecial ic_IAE, 3) := by decide +kernel
theorem d_SP_line_17 : decode b_SP_line 17 = .ok (.athrow, 1) := by decide +kernel
theorem d_SP_line_18 : decode b_SP_line 18 = .ok (.aload_n 0, 1) := by decide +kernel
theorem d_SP_line_19 : decode b_SP_line 19 = .ok (.getfield 172, 3) := by decide +kernel
theorem d_SP_line_22 : decode b_SP_line 22 = .ok (.ifnonnull 11, 3) := by decide +kernel
theorem d_SP_line_25 : decode b_SP_line 25 = .ok (.new iN_ISE, 3) := by decide +kernel
theorem d_SP_line_28 : decode b_SP_line 28 = .ok (.dup, 1) := by decide +kernel
theorem d_SP_line_29 : decode b_SP_line 29 = .ok (.invokespecial ic_ISE, 3) := by decide +kernel
theorem d_SP_line_32 : decode b_SP_line 32 = .ok (.athrow, 1) := by decide +kernel
theorem d_SP_note_0 : decode b_SP_note 0 = .ok (.iload_n 2, 1) := by decide +kernel
theorem d_SP_note_1 : decode b_SP_note 1 = .ok (.ifCond .lt 12, 3) := by decide +kernel
theorem d_SP_note_4 : decode b_SP_note 4 = .ok (.iload_n 2, 1) := by decide +kernel
theorem d_SP_note_5 : decode b_SP_note 5 = .ok (.iconst 5, 1) := by decide +kernel
theorem d_SP_note_6 : decode b_SP_note 6 = .ok (.if_icmp .gt 7, 3) := by decide +kernel
theorem d_SP_note_9 : decode b_SP_note 9 = .ok (.iconst 1, 1) := by decide +kernel
theorem d_SP_note_10 : decode b_SP_note 10 = .ok (.goto 4, 3) := by decide +kernel
theorem d_SP_note_13 : decode b_SP_note 13 = .ok (.iconst 0, 1) := by decide +kernel
theorem d_SP_note_14 : decode b_SP_note 14 = .ok (.istore_n 3, 1) := by decide +kernel
theorem d_SP_note_15 : decode b_SP_note 15 = .ok (.iload_n 3, 1) := by decide +kernel
theorem d_SP_note_16 : decode b_SP_note 16 = .ok (.ifCond .ne 23, 3) := by decide +kernel
theorem d_SP_note_19 : decode b_SP_note 19 = .ok (.iload_n 2, 1) := by decide +kernel
theorem d_SP_note_20 : decode b_SP_note 20 = .ok (.bipush 10, 2) := by decide +kernel
theorem d_SP_note_22 : decode b_SP_note 22 = .ok (.if_icmp .lt 9, 3) := by decide +kernel
theorem d_SP_note_25 : decode b_SP_note 25 = .ok (.iload_n 2, 1) := by decide +kernel
theorem d_SP_note_26 : decode b_SP_note 26 = .ok (.bipush 13, 2) := by decide +kernel
theorem d_SP_note_28 : decode b_SP_note 28 = .ok (.if_icmp .le 11, 3) := by decide +kernel
theorem d_SP_note_31 : decode b_SP_note 31 = .ok (.new iN_IAE, 3) := by decide +kernel
theorem d_SP_note_34 : decode b_SP_note 34 = .ok (.dup, 1) := by decide +kernel
theorem d_SP_note_35 : decode b_SP_note 35 = .ok (.invokespecial ic_IAE, 3) := by decide +kernel
theorem d_SP_note_38 : decode b_SP_note 38 = .ok (.athrow, 1) := by decide +kernel
theorem d_SP_note_39 : decode b_SP_note 39 = .ok (.aload_n 0, 1) := by decide +kernel
theorem d_SP_note_40 : decode b_SP_note 40 = .ok (.getfield 172, 3) := by decide +kernel
theorem d_SP_note_43 : decode b_SP_note 43 = .ok (.ifnonnull 11, 3) := by decide +kernel
theorem d_SP_note_46 : decode b_SP_note 46 = .ok (.new iN_ISE, 3) := by decide +kernel
theorem d_SP_note_49 : decode b_SP_note 49 = .ok (.dup, 1) := by decide +kernel
theorem d_SP_note_50 : decode b_SP_note 50 = .ok (.invokespecial ic_ISE, 3) := by decide +kernel
theorem d_SP_note_53 : decode b_SP_note 53 = .ok (.athrow, 1) := by decide +kernel
theorem d_SP_paragraph_0 : decode b_SP_paragraph 0 = .ok (.iload_n 2, 1) := by decide +kernel
theorem d_SP_paragraph_1 : decode b_SP_paragraph 1 = .ok (.ifCond .lt 9, 3) := by decide +kernel
theorem d_SP_paragraph_4 : decode b_SP_paragraph 4 = .ok (.iload_n 2, 1) := by decide +kernel
theorem d_SP_paragraph_5 : decode b_SP_paragraph 5 = .ok (.bipush 6, 2) := by decide +kernel
theorem d_SP_paragraph_7 : decode b_SP_paragraph 7 = .ok (.if_icmp .le 11, 3) := by decide +kernel
theorem d_SP_paragraph_10 : decode b_SP_paragraph 10 = .ok (.new iN_IAE, 3) := by decide +kernel
theorem d_SP_paragraph_13 : decode b_SP_paragraph 13 = .ok (.dup, 1) := by decide +kernel
theorem d_SP_paragraph_14 : decode b_SP_paragraph 14 = .ok (.invokespecial ic_IAE, 3) := by decide +kernel
theorem d_SP_paragraph_17 : decode b_SP_paragraph 17 = .ok (.athrow, 1) := by decide +kernel
theorem d_SP_paragraph_18 : decode b_SP_paragraph 18 = .ok (.aload_n 0, 1) := by decide +kernel
theorem d_SP_paragraph_19 : decode b_SP_paragraph 19 = .ok (.getfield 172, 3) := by decide +kernel
theorem d_SP_paragraph_22 : decode b_SP_paragraph 22 = .ok (.ifnonnull 11, 3) := by decide +kernel
theorem d_SP_paragraph_25 : decode b_SP_paragraph 25 = .ok (.new iN_ISE, 3) := by decide +kernel
theorem d_SP_paragraph_28 : decode b_SP_paragraph 28 = .ok (.dup, 1) := by decide +kernel
theorem d_SP_paragraph_29 : decode b_SP_paragraph 29 = .ok (.invokespecial ic_ISE, 3) := by decide +kernel
theorem d_SP_paragraph_32 : decode b_SP_paragraph 32 = .ok (.athrow, 1) := by decide +kernel
theorem d_SP_print_0 : decode b_SP_print 0 = .ok (.aload_n 0, 1) := by decide +kernel
theorem d_SP_print_1 : decode b_SP_print 1 = .ok (.getfield 172, 3) := by decide +kernel
theorem d_SP_print_4 : decode b_SP_print 4 = .ok (.ifnonnull 11, 3) := by decide +kernel
theorem d_SP_print_7 : decode b_SP_print 7 = .ok (.new iN_ISE, 3) := by decide +kernel
theorem d_SP_print_10 : decode b_SP_print 10 = .ok (.dup, 1) := by decide +kernel
theorem d_SP_print_11 : decode b_SP_print 11 = .ok (.invokespecial ic_ISE, 3) := by decide +kernel
theorem d_SP_print_14 : decode b_SP_print 14 = .ok (.athrow, 1) := by decide +kernel
theorem d_SP_set_0 : decode b_SP_set 0 = .ok (.iload_n 1, 1) := by decide +kernel
theorem d_SP_set_1 : decode b_SP_set 1 = .ok (.iconst 1, 1) := by decide +kernel
theorem d_SP_set_2 : decode b_SP_set 2 = .ok (.if_icmp .lt 9, 3) := by decide +kernel
theorem d_SP_set_5 : decode b_SP_set 5 = .ok (.iload_n 1, 1) := by decide +kernel
theorem d_SP_set_6 : decode b_SP_set 6 = .ok (.bipush 9, 2) := by decide +kernel
theorem d_SP_set_8 : decode b_SP_set 8 = .ok (.if_icmp .le 11, 3) := by decide +kernel
theorem d_SP_set_11 : decode b_SP_set 11 = .ok (.new iN_IAE, 3) := by decide +kernel
theorem d_SP_set_14 : decode b_SP_set 14 = .ok (.dup, 1) := by decide +kernel
theorem d_SP_set_15 : decode b_SP_set 15 = .ok (.invokespecial ic_IAE, 3) := by decide +kernel
theorem d_SP_set_18 : decode b_SP_set 18 = .ok (.athrow, 1) := by decide +kernel
theorem d_SP_set_19 : decode b_SP_set 19 = .ok (.aload_n 0, 1) := by decide +kernel
theorem d_SP_set_20 : decode b_SP_set 20 = .ok (.getfield 135, 3) := by decide +kernel
theorem d_SP_set_23 : decode b_SP_set 23 = .ok (.ifnonnull 11, 3) := by decide +kernel
theorem d_SP_set_26 : decode b_SP_set 26 = .ok (.new iN_ISE, 3) := by decide +kernel
theorem d_SP_set_29 : decode b_SP_set 29 = .ok (.dup, 1) := by decide +kernel
theorem d_SP_set_30 : decode b_SP_set 30 = .ok (.invokespecial ic_ISE, 3) := by decide +kernel
theorem d_SP_set_33 : decode b_SP_set 33 = .ok (.athrow, 1) := by decide +kernel
theorem d_SP_spot_0 : decode b_SP_spot 0 = .ok (.aload_n 0, 1) := by decide +kernel
theorem d_SP_spot_1 : decode b_SP_spot 1 = .ok (.getfield 172, 3) := by decide +kernel
theorem d_SP_spot_4 : decode b_SP_spot 4 = .ok (.ifnonnull 11, 3) := by decide +kernel
theorem d_SP_spot_7 : decode b_SP_spot 7 = .ok (.new iN_ISE, 3) := by decide +kernel
theorem d_SP_spot_10 : decode b_SP_spot 10 = .ok (.dup, 1) := by decide +kernel
theorem d_SP_spot_11 : decode b_SP_spot 11 = .ok (.invokespecial ic_ISE, 3) := by decide +kernel
theorem d_SP_spot_14 : decode b_SP_spot 14 = .ok (.athrow, 1) := by decide +kernel
theorem d_SP_wavering_0 : decode b_SP_wavering 0 = .ok (.aload_n 0, 1) := by decide +kernel
theorem d_SP_wavering_1 : decode b_SP_wavering 1 = .ok (.getfield 172, 3) := by decide +kernel
theorem d_SP_wavering_4 : decode b_SP_wavering 4 = .ok (.ifnonnull 11, 3) := by decide +kernel
theorem d_SP_wavering_7 : decode b_SP_wavering 7 = .ok (.new iN_ISE, 3) := by decide +kernel
theorem d_SP_wavering_10 : decode b_SP_wavering 10 = .ok (.dup, 1) := by decide +kernel
theorem d_SP_wavering_11 : decode b_SP_wavering 11 = .ok (.invokespecial ic_ISE, 3) := by decide +kernel
theorem d_SP_wavering_14 : decode b_SP_wavering 14 = .ok (.athrow, 1) := by decide +kernel
theorem d_SP_where_0 : decode b_SP_where 0 = .ok (.iload_n 1, 1) := by decide +kernel
theorem d_SP_where_1 : decode b_SP_where 1 = .ok (.ifCond .lt 8, 3) := by decide +kernel
theorem d_SP_where_4 : decode b_SP_where 4 = .ok (.iload_n 1, 1) := by decide +kernel
theorem d_SP_where_5 : decode b_SP_where 5 = .ok (.iconst 5, 1) := by decide +kernel
theorem d_SP_where_6 : decode b_SP_where 6 = .ok (.if_icmp .le 11, 3) := by decide +kernel
theorem d_SP_where_9 : decode b_SP_where 9 = .ok (.new iN_IAE, 3) := by decide +kernel
theorem d_SP_where_12 : decode b_SP_where 12 = .ok (.dup, 1) := by decide +kernel
theorem d_SP_where_13 : decode b_SP_where 13 = .ok (.invokespecial ic_IAE, 3) := by decide +kernel
theorem d_SP_where_16 : decode b_SP_where 16 = .ok (.athrow, 1) := by decide +kernel
theorem d_SP_where_17 : decode b_SP_where 17 = .ok (.aload_n 0, 1) := by decide +kernel
theorem d_SP_where_18 : decode b_SP_where 18 = .ok (.getfield 172, 3) := by decide +kernel
theorem d_SP_where_21 : decode b_SP_where 21 = .ok (.ifnonnull 11, 3) := by decide +kernel
theorem d_SP_where_24 : decode b_SP_where 24 = .ok (.new iN_ISE, 3) := by decide +kernel
theorem d_SP_where_27 : decode b_SP_where 27 = .ok (.dup, 1) := by decide +kernel
theorem d_SP_where_28 : decode b_SP_where 28 = .ok (.invokespecial ic_ISE, 3) := by decide +kernel
theorem d_SP_where_31 : decode b_SP_where 31 = .ok (.athrow, 1) := by decide +kernel
theorem d_SP_word_0 : decode b_SP_word 0 = .ok (.iload_n 1, 1) := by decide +kernel
theorem d_SP_word_1 : decode b_SP_word 1 = .ok (.ifCond .lt 11, 3) := by decide +kernel
theorem d_SP_word_4 : decode b_SP_word 4 = .ok (.iload_n 1, 1) := by decide +kernel
theorem d_SP_word_5 : decode b_SP_word 5 = .ok (.aload_n 0, 1) := by decide +kernel
theorem d_SP_word_6 : decode b_SP_word 6 = .ok (.getfield 293, 3) := by decide +kernel
theorem d_SP_word_9 : decode b_SP_word 9 = .ok (.if_icmp .lt 11, 3) := by decide +kernel
theorem d_SP_word_12 : decode b_SP_word 12 = .ok (.new iN_IOB, 3) := by decide +kernel
theorem d_SP_word_15 : decode b_SP_word 15 = .ok (.dup, 1) := by decide +kernel
theorem d_SP_word_16 : decode b_SP_word 16 = .ok (.invokespecial ic_IOB, 3) := by decide +kernel
theorem d_SP_word_19 : decode b_SP_word 19 = .ok (.athrow, 1) := by decide +kernel
