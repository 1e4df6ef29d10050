abbrev b_SP_count : ByteArray := prog_1_method_12_code
abbrev y_SP_count : MethodName := ⟨"ScholarsPress", "count", "(I)I"⟩
abbrev w_SP_count : Cond := .code y_SP_count b_SP_count 2 (some .int)
theorem kw_SP_count : w_SP_count ∈ tt := tt_mem 2513 (by decide +kernel) (by decide +kernel)
abbrev b_SP_set : ByteArray := prog_1_method_10_code
abbrev y_SP_set : MethodName := ⟨"ScholarsPress", "set", "(I)I"⟩
abbrev w_SP_set : Cond := .code y_SP_set b_SP_set 6 (some .int)
theorem kw_SP_set : w_SP_set ∈ tt := tt_mem 1414 (by decide +kernel) (by decide +kernel)
abbrev b_SP_element : ByteArray := prog_1_method_11_code
abbrev y_SP_element : MethodName := ⟨"ScholarsPress", "element", "(II)I"⟩
abbrev w_SP_element : Cond := .code y_SP_element b_SP_element 4 (some .int)
theorem kw_SP_element : w_SP_element ∈ tt := tt_mem 2500 (by decide +kernel) (by decide +kernel)
abbrev b_SP_line : ByteArray := prog_1_method_13_code
abbrev y_SP_line : MethodName := ⟨"ScholarsPress", "line", "(II)I"⟩
abbrev w_SP_line : Cond := .code y_SP_line b_SP_line 6 (some .int)
theorem kw_SP_line : w_SP_line ∈ tt := tt_mem 2528 (by decide +kernel) (by decide +kernel)
abbrev b_SP_spot : ByteArray := prog_1_method_14_code
abbrev y_SP_spot : MethodName := ⟨"ScholarsPress", "spot", "(II)J"⟩
abbrev w_SP_spot : Cond := .code y_SP_spot b_SP_spot 5 (some .long)
theorem kw_SP_spot : w_SP_spot ∈ tt := tt_mem 2553 (by decide +kernel) (by decide +kernel)
abbrev b_SP_paragraph : ByteArray := prog_1_method_15_code
abbrev y_SP_paragraph : MethodName := ⟨"ScholarsPress", "paragraph", "(II)J"⟩
abbrev w_SP_paragraph : Cond := .code y_SP_paragraph b_SP_paragraph 4 (some .long)
theorem kw_SP_paragraph : w_SP_paragraph ∈ tt := tt_mem 2572 (by decide +kernel) (by decide +kernel)
abbrev b_SP_judge : ByteArray := prog_1_method_16_code
abbrev y_SP_judge : MethodName := ⟨"ScholarsPress", "judge", "(I)J"⟩
abbrev w_SP_judge : Cond := .code y_SP_judge b_SP_judge 3 (some .long)
theorem kw_SP_judge : w_SP_judge ∈ tt := tt_mem 2580 (by decide +kernel) (by decide +kernel)
abbrev b_SP_where : ByteArray := prog_1_method_17_code
abbrev y_SP_where : MethodName := ⟨"ScholarsPress", "where", "(I)I"⟩
abbrev w_SP_where : Cond := .code y_SP_where b_SP_where 4 (some .int)
theorem kw_SP_where : w_SP_where ∈ tt := tt_mem 2598 (by decide +kernel) (by decide +kernel)
abbrev b_SP_note : ByteArray := prog_1_method_18_code
abbrev y_SP_note : MethodName := ⟨"ScholarsPress", "note", "(II)I"⟩
abbrev w_SP_note : Cond := .code y_SP_note b_SP_note 4 (some .int)
theorem kw_SP_note : w_SP_note ∈ tt := tt_mem 2629 (by decide +kernel) (by decide +kernel)
abbrev b_SP_wavering : ByteArray := prog_1_method_19_code
abbrev y_SP_wavering : MethodName := ⟨"ScholarsPress", "wavering", "(I)I"⟩
abbrev w_SP_wavering : Cond := .code y_SP_wavering b_SP_wavering 2 (some .int)
theorem kw_SP_wavering : w_SP_wavering ∈ tt := tt_mem 2654 (by decide +kernel) (by decide +kernel)
abbrev b_SP_print : ByteArray := prog_1_method_20_code
abbrev y_SP_print : MethodName := ⟨"ScholarsPress", "print", "(I)I"⟩
abbrev w_SP_print : Cond := .code y_SP_print b_SP_print 3 (some .int)
theorem kw_SP_print : w_SP_print ∈ tt := tt_mem 2661 (by decide +kernel) (by decide +kernel)
abbrev b_SP_word : ByteArray := prog_1_method_21_code
abbrev y_SP_word : MethodName := ⟨"ScholarsPress", "word", "(I)J"⟩
abbrev w_SP_word : Cond := .code y_SP_word b_SP_word 5 (some .long)
theorem kw_SP_word : w_SP_word ∈ tt := tt_mem 2698 (by decide +kernel) (by decide +kernel)
abbrev b_SP_change : ByteArray := prog_1_method_8_code
abbrev y_SP_change : MethodName := ⟨"ScholarsPress", "change", "(II)I"⟩
abbrev w_SP_change : Cond := .code y_SP_change b_SP_change 6 (some .int)
theorem kw_SP_change : w_SP_change ∈ tt := tt_mem 1391 (by decide +kernel) (by decide +kernel)
abbrev b_SP_end : ByteArray := prog_1_method_3_code
abbrev y_SP_end : MethodName := ⟨"ScholarsPress", "end", "(I)I"⟩
abbrev w_SP_end : Cond := .code y_SP_end b_SP_end 2 (some .int)
theorem kw_SP_end : w_SP_end ∈ tt := tt_mem 657 (by decide +kernel) (by decide +kernel)
abbrev b_SM_thrown : ByteArray := prog_14_method_2_code
abbrev y_SM_thrown : MethodName := ⟨"ScholarsPressModel", "thrown", "()I"⟩
abbrev w_SM_thrown : Cond := .code y_SM_thrown b_SM_thrown 1 (some .int)
theorem kw_SM_thrown : w_SM_thrown ∈ tt := tt_mem 3753 (by decide +kernel) (by decide +kernel)
abbrev b_SM_refuse : ByteArray := prog_14_method_3_code
abbrev y_SM_refuse : MethodName := ⟨"ScholarsPressModel", "refuse", "(I)I"⟩
abbrev w_SM_refuse : Cond := .code y_SM_refuse b_SM_refuse 2 (some .int)
theorem kw_SM_refuse : w_SM_refuse ∈ tt := tt_mem 3761 (by decide +kernel) (by decide +kernel)
abbrev b_SM_in : ByteArray := prog_14_method_4_code
abbrev y_SM_in : MethodName := ⟨"ScholarsPressModel", "in", "(III)Z"⟩
abbrev w_SM_in : Cond := .code y_SM_in b_SM_in 3 (some .boolean)
theorem kw_SM_in : w_SM_in ∈ tt := tt_mem 4104 (by decide +kernel) (by decide +kernel)
abbrev b_SM_set : ByteArray := prog_14_method_24_code
abbrev y_SM_set : MethodName := ⟨"ScholarsPressModel", "set", "(I)I"⟩
abbrev w_SM_set : Cond := .codeWith y_SM_set b_SM_set 4 (some .int) [(32, 57, 60, 170), (32, 57, 67, 172)]
theorem kw_SM_set : w_SM_set ∈ tt := tt_mem 4099 (by decide +kernel) (by decide +kernel)
abbrev b_SM_element : ByteArray := prog_14_method_25_code
abbrev y_SM_element : MethodName := ⟨"ScholarsPressModel", "element", "(II)I"⟩
abbrev w_SM_element : Cond := .code y_SM_element b_SM_element 3 (some .int)
theorem kw_SM_element : w_SM_element ∈ tt := tt_mem 4579 (by decide +kernel) (by decide +kernel)
abbrev b_SM_line : ByteArray := prog_14_method_27_code
abbrev y_SM_line : MethodName := ⟨"ScholarsPressModel", "line", "(II)I"⟩
abbrev w_SM_line : Cond := .code y_SM_line b_SM_line 5 (some .int)
theorem kw_SM_line : w_SM_line ∈ tt := tt_mem 4590 (by decide +kernel) (by decide +kernel)
abbrev b_SM_change : ByteArray := prog_14_method_22_code
abbrev y_SM_change : MethodName := ⟨"ScholarsPressModel", "change", "(II)I"⟩
abbrev w_SM_change : Cond := .codeWith y_SM_change b_SM_change 5 (some .int) [(196, 208, 211, 122)]
theorem kw_SM_change : w_SM_change ∈ tt := tt_mem 4091 (by decide +kernel) (by decide +kernel)
abbrev b_SM_where : ByteArray := prog_14_method_31_code
abbrev y_SM_where : MethodName := ⟨"ScholarsPressModel", "where", "(I)I"⟩
abbrev w_SM_where : Cond := .code y_SM_where b_SM_where 3 (some .int)
theorem kw_SM_where : w_SM_where ∈ tt := tt_mem 4630 (by decide +kernel) (by decide +kernel)
abbrev b_SM_note : ByteArray := prog_14_method_32_code
abbrev y_SM_note : MethodName := ⟨"ScholarsPressModel", "note", "(II)I"⟩
abbrev w_SM_note : Cond := .code y_SM_note b_SM_note 4 (some .int)
theorem kw_SM_note : w_SM_note ∈ tt := tt_mem 4635 (by decide +kernel) (by decide +kernel)
abbrev b_SM_wavering : ByteArray := prog_14_method_33_code
abbrev y_SM_wavering : MethodName := ⟨"ScholarsPressModel", "wavering", "(I)I"⟩
abbrev w_SM_wavering : Cond := .code y_SM_wavering b_SM_wavering 4 (some .int)
theorem kw_SM_wavering : w_SM_wavering ∈ tt := tt_mem 4639 (by decide +kernel) (by decide +kernel)
abbrev b_SM_print : ByteArray := prog_14_method_39_code
abbrev y_SM_print : MethodName := ⟨"ScholarsPressModel", "print", "(I)I"⟩
abbrev w_SM_print : Cond := .code y_SM_print b_SM_print 5 (some .int)
theorem kw_SM_print : w_SM_print ∈ tt := tt_mem 4643 (by decide +kernel) (by decide +kernel)
abbrev b_SM_spot : ByteArray := prog_14_method_28_code
abbrev y_SM_spot : MethodName := ⟨"ScholarsPressModel", "spot", "(II)J"⟩
abbrev w_SM_spot : Cond := .code y_SM_spot b_SM_spot 5 (some .long)
theorem kw_SM_spot : w_SM_spot ∈ tt := tt_mem 4602 (by decide +kernel) (by decide +kernel)
abbrev b_SM_paragraph : ByteArray := prog_14_method_29_code
abbrev y_SM_paragraph : MethodName := ⟨"ScholarsPressModel", "paragraph", "(II)J"⟩
abbrev w_SM_paragraph : Cond := .code y_SM_paragraph b_SM_paragraph 3 (some .long)
theorem kw_SM_paragraph : w_SM_paragraph ∈ tt := tt_mem 4616 (by decide +kernel) (by decide +kernel)
abbrev b_SM_judge : ByteArray := prog_14_method_30_code
abbrev y_SM_judge : MethodName := ⟨"ScholarsPressModel", "judge", "(I)J"⟩
abbrev w_SM_judge : Cond := .code y_SM_judge b_SM_judge 7 (some .long)
theorem kw_SM_judge : w_SM_judge ∈ tt := tt_mem 4620 (by decide +kernel) (by decide +kernel)
abbrev b_SM_word : ByteArray := prog_14_method_40_code
abbrev y_SM_word : MethodName := ⟨"ScholarsPressModel", "word", "(I)J"⟩
abbrev w_SM_word : Cond := .code y_SM_word b_SM_word 5 (some .long)
theorem kw_SM_word : w_SM_word ∈ tt := tt_mem 4682 (by decide +kernel) (by decide +kernel)
abbrev b_SM_place : ByteArray := prog_14_method_23_code
abbrev y_SM_place : MethodName := ⟨"ScholarsPressModel", "place", "()I"⟩
abbrev w_SM_place : Cond := .code y_SM_place b_SM_place 1 (some .int)
theorem kw_SM_place : w_SM_place ∈ tt := tt_mem 4095 (by decide +kernel) (by decide +kernel)
abbrev b_SP_place : ByteArray := prog_1_method_9_code
abbrev y_SP_place : MethodName := ⟨"ScholarsPress", "place", "()I"⟩
abbrev w_SP_place : Cond := .code y_SP_place b_SP_place 1 (some .int)
theorem kw_SP_place : w_SP_place ∈ tt := tt_mem 567 (by decide +kernel) (by decide +kernel)
abbrev b_SM_end : ByteArray := prog_14_method_14_code
abbrev y_SM_end : MethodName := ⟨"ScholarsPressModel", "end", "(I)I"⟩
abbrev w_SM_end : Cond := .code y_SM_end b_SM_end 2 (some .int)
theorem kw_SM_end : w_SM_end ∈ tt := tt_mem 3769 (by decide +kernel) (by decide +kernel)
abbrev b_SM_count : ByteArray := prog_14_method_26_code
abbrev y_SM_count : MethodName := ⟨"ScholarsPressModel", "count", "(I)I"⟩
abbrev w_SM_count : Cond := .code y_SM_count b_SM_count 2 (some .int)
theorem kw_SM_count : w_SM_count ∈ tt := tt_mem 4586 (by decide +kernel) (by decide +kernel)
abbrev b_LW_count : ByteArray := method_12_code
abbrev y_LW_count : MethodName := ⟨"ScholarsPressLaw", "count", "(LScholarsPress;I[J)I"⟩
abbrev w_LW_count : Cond := .codeWith y_LW_count b_LW_count 4 (some .int) [(0, 9, 12, 19)]
theorem kw_LW_count : w_LW_count ∈ tt := tt_mem 2509 (by decide +kernel) (by decide +kernel)
abbrev b_LW_set : ByteArray := method_10_code
abbrev y_LW_set : MethodName := ⟨"ScholarsPressLaw", "set", "(LScholarsPress;I[J)I"⟩
abbrev w_LW_set : Cond := .codeWith y_LW_set b_LW_set 4 (some .int) [(0, 9, 12, 19), (0, 9, 15, 40), (0, 9, 18, 13), (0, 9, 21, 45)]
theorem kw_LW_set : w_LW_set ∈ tt := tt_mem 1409 (by decide +kernel) (by decide +kernel)
abbrev b_LW_element : ByteArray := method_11_code
abbrev y_LW_element : MethodName := ⟨"ScholarsPressLaw", "element", "(LScholarsPress;II[J)I"⟩
abbrev w_LW_element : Cond := .codeWith y_LW_element b_LW_element 5 (some .int) [(0, 10, 13, 19), (0, 10, 17, 40)]
theorem kw_LW_element : w_LW_element ∈ tt := tt_mem 2496 (by decide +kernel) (by decide +kernel)
abbrev b_LW_line : ByteArray := method_13_code
abbrev y_LW_line : MethodName := ⟨"ScholarsPressLaw", "line", "(LScholarsPress;II[J)I"⟩
abbrev w_LW_line : Cond := .codeWith y_LW_line b_LW_line 5 (some .int) [(0, 10, 13, 19), (0, 10, 17, 40), (0, 10, 21, 13)]
theorem kw_LW_line : w_LW_line ∈ tt := tt_mem 2524 (by decide +kernel) (by decide +kernel)
abbrev b_LW_spot : ByteArray := method_14_code
abbrev y_LW_spot : MethodName := ⟨"ScholarsPressLaw", "spot", "(LScholarsPress;II[J)I"⟩
abbrev w_LW_spot : Cond := .codeWith y_LW_spot b_LW_spot 5 (some .int) [(0, 9, 12, 40), (0, 9, 16, 13)]
theorem kw_LW_spot : w_LW_spot ∈ tt := tt_mem 2549 (by decide +kernel) (by decide +kernel)
abbrev b_LW_paragraph : ByteArray := method_15_code
abbrev y_LW_paragraph : MethodName := ⟨"ScholarsPressLaw", "paragraph", "(LScholarsPress;II[J)I"⟩
abbrev w_LW_paragraph : Cond := .codeWith y_LW_paragraph b_LW_paragraph 5 (some .int) [(0, 9, 12, 19), (0, 9, 16, 40), (0, 9, 20, 13)]
theorem kw_LW_paragraph : w_LW_paragraph ∈ tt := tt_mem 2568 (by decide +kernel) (by decide +kernel)
abbrev b_LW_judge : ByteArray := method_16_code
abbrev y_LW_judge : MethodName := ⟨"ScholarsPressLaw", "judge", "(LScholarsPress;I[J)I"⟩
abbrev w_LW_judge : Cond := .codeWith y_LW_judge b_LW_judge 4 (some .int) [(0, 8, 11, 40), (0, 8, 14, 13), (0, 8, 17, 25)]
theorem kw_LW_judge : w_LW_judge ∈ tt := tt_mem 2576 (by decide +kernel) (by decide +kernel)
abbrev b_LW_where : ByteArray := method_17_code
abbrev y_LW_where : MethodName := ⟨"ScholarsPressLaw", "where", "(LScholarsPress;I[J)I"⟩
abbrev w_LW_where : Cond := .codeWith y_LW_where b_LW_where 4 (some .int) [(0, 9, 12, 19), (0, 9, 15, 40), (0, 9, 18, 70)]
theorem kw_LW_where : w_LW_where ∈ tt := tt_mem 2593 (by decide +kernel) (by decide +kernel)
abbrev b_LW_note : ByteArray := method_18_code
abbrev y_LW_note : MethodName := ⟨"ScholarsPressLaw", "note", "(LScholarsPress;II[J)I"⟩
abbrev w_LW_note : Cond := .codeWith y_LW_note b_LW_note 5 (some .int) [(0, 10, 13, 19), (0, 10, 17, 40), (0, 10, 21, 13)]
theorem kw_LW_note : w_LW_note ∈ tt := tt_mem 2625 (by decide +kernel) (by decide +kernel)
abbrev b_LW_wavering : ByteArray := method_19_code
abbrev y_LW_wavering : MethodName := ⟨"ScholarsPressLaw", "wavering", "(LScholarsPress;I[J)I"⟩
abbrev w_LW_wavering : Cond := .codeWith y_LW_wavering b_LW_wavering 4 (some .int) [(0, 9, 12, 40), (0, 9, 15, 13)]
theorem kw_LW_wavering : w_LW_wavering ∈ tt := tt_mem 2650 (by decide +kernel) (by decide +kernel)
abbrev b_LW_print : ByteArray := method_20_code
abbrev y_LW_print : MethodName := ⟨"ScholarsPressLaw", "print", "(LScholarsPress;I[J)I"⟩
abbrev w_LW_print : Cond := .codeWith y_LW_print b_LW_print 4 (some .int) [(0, 9, 12, 40), (0, 9, 15, 13)]
theorem kw_LW_print : w_LW_print ∈ tt := tt_mem 2657 (by decide +kernel) (by decide +kernel)
abbrev b_LW_word : ByteArray := method_21_code
abbrev y_LW_word : MethodName := ⟨"ScholarsPressLaw", "word", "(LScholarsPress;I[J)I"⟩
abbrev w_LW_word : Cond := .codeWith y_LW_word b_LW_word 4 (some .int) [(0, 8, 11, 13)]
theorem kw_LW_word : w_LW_word ∈ tt := tt_mem 2694 (by decide +kernel) (by decide +kernel)
abbrev b_LW_change : ByteArray := method_9_code
abbrev y_LW_change : MethodName := ⟨"ScholarsPressLaw", "change", "(LScholarsPress;II[J)I"⟩
abbrev w_LW_change : Cond := .codeWith y_LW_change b_LW_change 5 (some .int) [(0, 10, 13, 19), (0, 10, 17, 40), (0, 10, 21, 13), (0, 10, 25, 25)]
theorem kw_LW_change : w_LW_change ∈ tt := tt_mem 1386 (by decide +kernel) (by decide +kernel)
abbrev b_LW_end : ByteArray := method_4_code
abbrev y_LW_end : MethodName := ⟨"ScholarsPressLaw", "end", "(LScholarsPress;I[J)I"⟩
abbrev w_LW_end : Cond := .codeWith y_LW_end b_LW_end 4 (some .int) [(0, 9, 12, 19)]
theorem kw_LW_end : w_LW_end ∈ tt := tt_mem 652 (by decide +kernel) (by decide +kernel)
abbrev b_SP_feedInt : ByteArray := prog_1_method_22_code
abbrev y_SP_feedInt : MethodName := ⟨"ScholarsPress", "feedInt", "(I)V"⟩
abbrev w_SP_feedInt : Cond := .code y_SP_feedInt b_SP_feedInt 3 none
theorem kw_SP_feedInt : w_SP_feedInt ∈ tt := tt_mem 649 (by decide +kernel) (by decide +kernel)
abbrev b_SM_four : ByteArray := prog_14_method_13_code
abbrev y_SM_four : MethodName := ⟨"ScholarsPressModel", "four", "(I)V"⟩
abbrev w_SM_four : Cond := .code y_SM_four b_SM_four 3 none
theorem kw_SM_four : w_SM_four ∈ tt := tt_mem 3765 (by decide +kernel) (by decide +kernel)
theorem k_122 : Cond.selects "ScholarsPressModel" ⟨"ScholarsPressModel", "refuse", "(I)I"⟩ ⟨"ScholarsPressModel", "refuse", "(I)I"⟩ ∈ tt := tt_mem 122 (by decide +kernel) (by decide +kernel)
theorem k_240 : Cond.initialized "ScholarsPress" ∈ tt := tt_mem 240 (by decide +kernel) (by decide +kernel)
theorem k_247 : Cond.initialized "ScholarsPressModel" ∈ tt := tt_mem 247 (by decide +kernel) (by decide +kernel)
theorem k_500 : Cond.fieldLink "ScholarsPress" 9 "ScholarsPress" "tape" "[B" ∈ tt := tt_mem 500 (by decide +kernel) (by decide +kernel)
theorem k_501 : Cond.fieldLink "ScholarsPress" 45 "ScholarsPress" "tapeLength" "I" ∈ tt := tt_mem 501 (by decide +kernel) (by decide +kernel)
theorem k_502 : Cond.fieldLink "ScholarsPress" 13 "ScholarsPress" "brokenAt" "I" ∈ tt := tt_mem 502 (by decide +kernel) (by decide +kernel)
theorem k_504 : Cond.fieldLink "ScholarsPress" 135 "ScholarsPress" "sourceNow" "LScholarsPress$Source;" ∈ tt := tt_mem 504 (by decide +kernel) (by decide +kernel)
theorem k_514 : Cond.fieldLink "ScholarsPress" 172 "ScholarsPress" "pagesNow" "LScholarsPress$Pages;" ∈ tt := tt_mem 514 (by decide +kernel) (by decide +kernel)
theorem k_520 : Cond.fieldLink "ScholarsPress" 293 "ScholarsPress" "outLength" "I" ∈ tt := tt_mem 520 (by decide +kernel) (by decide +kernel)
theorem k_571 : Cond.classLink "ScholarsPressLaw" 13 "java/lang/IndexOutOfBoundsException" ∈ tt := tt_mem 571 (by decide +kernel) (by decide +kernel)
theorem k_653 : Cond.classLink "ScholarsPressLaw" 19 "java/lang/IllegalArgumentException" ∈ tt := tt_mem 653 (by decide +kernel) (by decide +kernel)
theorem k_654 : Cond.methodLink "ScholarsPressLaw" 15 ⟨"ScholarsPress", "end", "(I)I"⟩ ∈ tt := tt_mem 654 (by decide +kernel) (by decide +kernel)
theorem k_655 : Cond.instanceMethod ⟨"ScholarsPress", "end", "(I)I"⟩ ∈ tt := tt_mem 655 (by decide +kernel) (by decide +kernel)
theorem k_656 : Cond.selects "ScholarsPress" ⟨"ScholarsPress", "end", "(I)I"⟩ ⟨"ScholarsPress", "end", "(I)I"⟩ ∈ tt := tt_mem 656 (by decide +kernel) (by decide +kernel)
theorem k_1387 : Cond.classLink "ScholarsPressLaw" 40 "java/lang/IllegalStateException" ∈ tt := tt_mem 1387 (by decide +kernel) (by decide +kernel)
theorem k_1388 : Cond.methodLink "ScholarsPressLaw" 36 ⟨"ScholarsPress", "change", "(II)I"⟩ ∈ tt := tt_mem 1388 (by decide +kernel) (by decide +kernel)
theorem k_1389 : Cond.instanceMethod ⟨"ScholarsPress", "change", "(II)I"⟩ ∈ tt := tt_mem 1389 (by decide +kernel) (by decide +kernel)
theorem k_1390 : Cond.selects "ScholarsPress" ⟨"ScholarsPress", "change", "(II)I"⟩ ⟨"ScholarsPress", "change", "(II)I"⟩ ∈ tt := tt_mem 1390 (by decide +kernel) (by decide +kernel)
theorem k_1411 : Cond.methodLink "ScholarsPressLaw" 42 ⟨"ScholarsPress", "set", "(I)I"⟩ ∈ tt := tt_mem 1411 (by decide +kernel) (by decide +kernel)
theorem k_1412 : Cond.instanceMethod ⟨"ScholarsPress", "set", "(I)I"⟩ ∈ tt := tt_mem 1412 (by decide +kernel) (by decide +kernel)
theorem k_1413 : Cond.selects "ScholarsPress" ⟨"ScholarsPress", "set", "(I)I"⟩ ⟨"ScholarsPress", "set", "(I)I"⟩ ∈ tt := tt_mem 1413 (by decide +kernel) (by decide +kernel)
theorem k_2497 : Cond.methodLink "ScholarsPressLaw" 47 ⟨"ScholarsPress", "element", "(II)I"⟩ ∈ tt := tt_mem 2497 (by decide +kernel) (by decide +kernel)
theorem k_2498 : Cond.instanceMethod ⟨"ScholarsPress", "element", "(II)I"⟩ ∈ tt := tt_mem 2498 (by decide +kernel) (by decide +kernel)
theorem k_2499 : Cond.selects "ScholarsPress" ⟨"ScholarsPress", "element", "(II)I"⟩ ⟨"ScholarsPress", "element", "(II)I"⟩ ∈ tt := tt_mem 2499 (by decide +kernel) (by decide +kernel)
theorem k_2510 : Cond.methodLink "ScholarsPressLaw" 50 ⟨"ScholarsPress", "count", "(I)I"⟩ ∈ tt := tt_mem 2510 (by decide +kernel) (by decide +kernel)
theorem k_2511 : Cond.instanceMethod ⟨"ScholarsPress", "count", "(I)I"⟩ ∈ tt := tt_mem 2511 (by decide +kernel) (by decide +kernel)
theorem k_2512 : Cond.selects "ScholarsPress" ⟨"ScholarsPress", "count", "(I)I"⟩ ⟨"ScholarsPress", "count", "(I)I"⟩ ∈ tt := tt_mem 2512 (by decide +kernel) (by decide +kernel)
theorem k_2525 : Cond.methodLink "ScholarsPressLaw" 53 ⟨"ScholarsPress", "line", "(II)I"⟩ ∈ tt := tt_mem 2525 (by decide +kernel) (by decide +kernel)
theorem k_2526 : Cond.instanceMethod ⟨"ScholarsPress", "line", "(II)I"⟩ ∈ tt := tt_mem 2526 (by decide +kernel) (by decide +kernel)
theorem k_2527 : Cond.selects "ScholarsPress" ⟨"ScholarsPress", "line", "(II)I"⟩ ⟨"ScholarsPress", "line", "(II)I"⟩ ∈ tt := tt_mem 2527 (by decide +kernel) (by decide +kernel)
theorem k_2550 : Cond.methodLink "ScholarsPressLaw" 56 ⟨"ScholarsPress", "spot", "(II)J"⟩ ∈ tt := tt_mem 2550 (by decide +kernel) (by decide +kernel)
theorem k_2551 : Cond.instanceMethod ⟨"ScholarsPress", "spot", "(II)J"⟩ ∈ tt := tt_mem 2551 (by decide +kernel) (by decide +kernel)
theorem k_2552 : Cond.selects "ScholarsPress" ⟨"ScholarsPress", "spot", "(II)J"⟩ ⟨"ScholarsPress", "spot", "(II)J"⟩ ∈ tt := tt_mem 2552 (by decide +kernel) (by decide +kernel)
theorem k_2569 : Cond.methodLink "ScholarsPressLaw" 60 ⟨"ScholarsPress", "paragraph", "(II)J"⟩ ∈ tt := tt_mem 2569 (by decide +kernel) (by decide +kernel)
theorem k_2570 : Cond.instanceMethod ⟨"ScholarsPress", "paragraph", "(II)J"⟩ ∈ tt := tt_mem 2570 (by decide +kernel) (by decide +kernel)
theorem k_2571 : Cond.selects "ScholarsPress" ⟨"ScholarsPress", "paragraph", "(II)J"⟩ ⟨"ScholarsPress", "paragraph", "(II)J"⟩ ∈ tt := tt_mem 2571 (by decide +kernel) (by decide +kernel)
theorem k_2577 : Cond.methodLink "ScholarsPressLaw" 63 ⟨"ScholarsPress", "judge", "(I)J"⟩ ∈ tt := tt_mem 2577 (by decide +kernel) (by decide +kernel)
theorem k_2578 : Cond.instanceMethod ⟨"ScholarsPress", "judge", "(I)J"⟩ ∈ tt := tt_mem 2578 (by decide +kernel) (by decide +kernel)
theorem k_2579 : Cond.selects "ScholarsPress" ⟨"ScholarsPress", "judge", "(I)J"⟩ ⟨"ScholarsPress", "judge", "(I)J"⟩ ∈ tt := tt_mem 2579 (by decide +kernel) (by decide +kernel)
theorem k_2595 : Cond.methodLink "ScholarsPressLaw" 67 ⟨"ScholarsPress", "where", "(I)I"⟩ ∈ tt := tt_mem 2595 (by decide +kernel) (by decide +kernel)
theorem k_2596 : Cond.instanceMethod ⟨"ScholarsPress", "where", "(I)I"⟩ ∈ tt := tt_mem 2596 (by decide +kernel) (by decide +kernel)
theorem k_2597 : Cond.selects "ScholarsPress" ⟨"ScholarsPress", "where", "(I)I"⟩ ⟨"ScholarsPress", "where", "(I)I"⟩ ∈ tt := tt_mem 2597 (by decide +kernel) (by decide +kernel)
theorem k_2626 : Cond.methodLink "ScholarsPressLaw" 72 ⟨"ScholarsPress", "note", "(II)I"⟩ ∈ tt := tt_mem 2626 (by decide +kernel) (by decide +kernel)
theorem k_2627 : Cond.instanceMethod ⟨"ScholarsPress", "note", "(II)I"⟩ ∈ tt := tt_mem 2627 (by decide +kernel) (by decide +kernel)
theorem k_2628 : Cond.selects "ScholarsPress" ⟨"ScholarsPress", "note", "(II)I"⟩ ⟨"ScholarsPress", "note", "(II)I"⟩ ∈ tt := tt_mem 2628 (by decide +kernel) (by decide +kernel)
theorem k_2651 : Cond.methodLink "ScholarsPressLaw" 75 ⟨"ScholarsPress", "wavering", "(I)I"⟩ ∈ tt := tt_mem 2651 (by decide +kernel) (by decide +kernel)
theorem k_2652 : Cond.instanceMethod ⟨"ScholarsPress", "wavering", "(I)I"⟩ ∈ tt := tt_mem 2652 (by decide +kernel) (by decide +kernel)
theorem k_2653 : Cond.selects "ScholarsPress" ⟨"ScholarsPress", "wavering", "(I)I"⟩ ⟨"ScholarsPress", "wavering", "(I)I"⟩ ∈ tt := tt_mem 2653 (by decide +kernel) (by decide +kernel)
theorem k_2658 : Cond.methodLink "ScholarsPressLaw" 78 ⟨"ScholarsPress", "print", "(I)I"⟩ ∈ tt := tt_mem 2658 (by decide +kernel) (by decide +kernel)
theorem k_2659 : Cond.instanceMethod ⟨"ScholarsPress", "print", "(I)I"⟩ ∈ tt := tt_mem 2659 (by decide +kernel) (by decide +kernel)
theorem k_2660 : Cond.selects "ScholarsPress" ⟨"ScholarsPress", "print", "(I)I"⟩ ⟨"ScholarsPress", "print", "(I)I"⟩ ∈ tt := tt_mem 2660 (by decide +kernel) (by decide +kernel)
theorem k_2695 : Cond.methodLink "ScholarsPressLaw" 81 ⟨"ScholarsPress", "word", "(I)J"⟩ ∈ tt := tt_mem 2695 (by decide +kernel) (by decide +kernel)
theorem k_2696 : Cond.instanceMethod ⟨"ScholarsPress", "word", "(I)J"⟩ ∈ tt := tt_mem 2696 (by decide +kernel) (by decide +kernel)
theorem k_2697 : Cond.selects "ScholarsPress" ⟨"ScholarsPress", "word", "(I)J"⟩ ⟨"ScholarsPress", "word", "(I)J"⟩ ∈ tt := tt_mem 2697 (by decide +kernel) (by decide +kernel)
theorem k_2976 : Cond.fieldLink "ScholarsPressModel" 154 "ScholarsPressModel$Source" "there" "Z" ∈ tt := tt_mem 2976 (by decide +kernel) (by decide +kernel)
theorem k_3680 : Cond.fieldLink "ScholarsPressModel" 87 "ScholarsPressModel" "thrown" "I" ∈ tt := tt_mem 3680 (by decide +kernel) (by decide +kernel)
theorem k_3681 : Cond.fieldLink "ScholarsPressModel" 7 "ScholarsPressModel" "place" "I" ∈ tt := tt_mem 3681 (by decide +kernel) (by decide +kernel)
theorem k_3682 : Cond.fieldLink "ScholarsPressModel" 13 "ScholarsPressModel" "tape" "[B" ∈ tt := tt_mem 3682 (by decide +kernel) (by decide +kernel)
theorem k_3683 : Cond.fieldLink "ScholarsPressModel" 104 "ScholarsPressModel" "taped" "I" ∈ tt := tt_mem 3683 (by decide +kernel) (by decide +kernel)
theorem k_3690 : Cond.fieldLink "ScholarsPressModel" 50 "ScholarsPressModel" "source" "LScholarsPressModel$Source;" ∈ tt := tt_mem 3690 (by decide +kernel) (by decide +kernel)
theorem k_3697 : Cond.fieldLink "ScholarsPressModel" 174 "ScholarsPressModel" "isSet" "Z" ∈ tt := tt_mem 3697 (by decide +kernel) (by decide +kernel)
theorem k_3699 : Cond.fieldLink "ScholarsPressModel" 442 "ScholarsPressModel" "outLong" "I" ∈ tt := tt_mem 3699 (by decide +kernel) (by decide +kernel)
theorem k_3758 : Cond.methodLink "ScholarsPressModel" 107 ⟨"ScholarsPressModel", "refuse", "(I)I"⟩ ∈ tt := tt_mem 3758 (by decide +kernel) (by decide +kernel)
theorem k_3760 : Cond.instanceMethod ⟨"ScholarsPressModel", "refuse", "(I)I"⟩ ∈ tt := tt_mem 3760 (by decide +kernel) (by decide +kernel)
theorem k_4102 : Cond.methodLink "ScholarsPressModel" 162 ⟨"ScholarsPressModel", "in", "(III)Z"⟩ ∈ tt := tt_mem 4102 (by decide +kernel) (by decide +kernel)
theorem k_4103 : Cond.static ⟨"ScholarsPressModel", "in", "(III)Z"⟩ ∈ tt := tt_mem 4103 (by decide +kernel) (by decide +kernel)
theorem d_LW_change_0 : decode b_LW_change 0 = .ok (.aload_n 3, 1) := by decide +kernel
theorem d_LW_change_1 : decode b_LW_change 1 = .ok (.iconst 0, 1) := by decide +kernel
theorem d_LW_change_2 : decode b_LW_change 2 = .ok (.aload_n 0, 1) := by decide +kernel
theorem d_LW_change_3 : decode b_LW_change 3 = .ok (.iload_n 1, 1) := by decide +kernel
theorem d_LW_change_4 : decode b_LW_change 4 = .ok (.iload_n 2, 1) := by decide +kernel
theorem d_LW_change_5 : decode b_LW_change 5 = .ok (.invokevirtual 36, 3) := by decide +kernel
theorem d_LW_change_13 : decode b_LW_change 13 = .ok (.astore 4, 2) := by decide +kernel
theorem d_LW_change_15 : decode b_LW_change 15 = .ok (.iconst 1, 1) := by decide +kernel
theorem d_LW_change_16 : decode b_LW_change 16 = .ok (.ireturn, 1) := by decide +kernel
theorem d_LW_change_17 : decode b_LW_change 17 = .ok (.astore 4, 2) := by decide +kernel
theorem d_LW_change_19 : decode b_LW_change 19 = .ok (.iconst 2, 1) := by decide +kernel
theorem d_LW_change_20 : decode b_LW_change 20 = .ok (.ireturn, 1) := by decide +kernel
theorem d_LW_count_0 : decode b_LW_count 0 = .ok (.aload_n 2, 1) := by decide +kernel
theorem d_LW_count_1 : decode b_LW_count 1 = .ok (.iconst 0, 1) := by decide +kernel
theorem d_LW_count_2 : decode b_LW_count 2 = .ok (.aload_n 0, 1) := by decide +kernel
theorem d_LW_count_3 : decode b_LW_count 3 = .ok (.iload_n 1, 1) := by decide +kernel
theorem d_LW_count_4 : decode b_LW_count 4 = .ok (.invokevirtual 50, 3) := by decide +kernel
theorem d_LW_count_7 : decode b_LW_count 7 = .ok (.i2l, 1) := by decide +kernel
theorem d_LW_count_8 : decode b_LW_count 8 = .ok (.lastore, 1) := by decide +kernel
theorem d_LW_count_9 : decode b_LW_count 9 = .ok (.goto 6, 3) := by decide +kernel
theorem d_LW_count_12 : decode b_LW_count 12 = .ok (.astore_n 3, 1) := by decide +kernel
theorem d_LW_count_13 : decode b_LW_count 13 = .ok (.iconst 1, 1) := by decide +kernel
theorem d_LW_count_14 : decode b_LW_count 14 = .ok (.ireturn, 1) := by decide +kernel
theorem d_LW_count_15 : decode b_LW_count 15 = .ok (.iconst 0, 1) := by decide +kernel
theorem d_LW_count_16 : decode b_LW_count 16 = .ok (.ireturn, 1) := by decide +kernel
theorem d_LW_element_0 : decode b_LW_element 0 = .ok (.aload_n 3, 1) := by decide +kernel
theorem d_LW_element_1 : decode b_LW_element 1 = .ok (.iconst 0, 1) := by decide +kernel
theorem d_LW_element_2 : decode b_LW_element 2 = .ok (.aload_n 0, 1) := by decide +kernel
theorem d_LW_element_3 : decode b_LW_element 3 = .ok (.iload_n 1, 1) := by decide +kernel
theorem d_LW_element_4 : decode b_LW_element 4 = .ok (.iload_n 2, 1) := by decide +kernel
theorem d_LW_element_5 : decode b_LW_element 5 = .ok (.invokevirtual 47, 3) := by decide +kernel
theorem d_LW_element_13 : decode b_LW_element 13 = .ok (.astore 4, 2) := by decide +kernel
theorem d_LW_element_15 : decode b_LW_element 15 = .ok (.iconst 1, 1) := by decide +kernel
theorem d_LW_element_16 : decode b_LW_element 16 = .ok (.ireturn, 1) := by decide +kernel
theorem d_LW_element_17 : decode b_LW_element 17 = .ok (.astore 4, 2) := by decide +kernel
theorem d_LW_element_19 : decode b_LW_element 19 = .ok (.iconst 2, 1) := by decide +kernel
theorem d_LW_element_20 : decode b_LW_element 20 = .ok (.ireturn, 1) := by decide +kernel
theorem d_LW_end_0 : decode b_LW_end 0 = .ok (.aload_n 2, 1) := by decide +kernel
theorem d_LW_end_1 : decode b_LW_end 1 = .ok (.iconst 0, 1) := by decide +kernel
theorem d_LW_end_2 : decode b_LW_end 2 = .ok (.aload_n 0, 1) := by decide +kernel
theorem d_LW_end_3 : decode b_LW_end 3 = .ok (.iload_n 1, 1) := by decide +kernel
theorem d_LW_end_4 : decode b_LW_end 4 = .ok (.invokevirtual 15, 3) := by decide +kernel
theorem d_LW_end_7 : decode b_LW_end 7 = .ok (.i2l, 1) := by decide +kernel
theorem d_LW_end_8 : decode b_LW_end 8 = .ok (.lastore, 1) := by decide +kernel
theorem d_LW_end_9 : decode b_LW_end 9 = .ok (.goto 6, 3) := by decide +kernel
theorem d_LW_end_12 : decode b_LW_end 12 = .ok (.astore_n 3, 1) := by decide +kernel
theorem d_LW_end_13 : decode b_LW_end 13 = .ok (.iconst 1, 1) := by decide +kernel
theorem d_LW_end_14 : decode b_LW_end 14 = .ok (.ireturn, 1) := by decide +kernel
theorem d_LW_end_15 : decode b_LW_end 15 = .ok (.iconst 0, 1) := by decide +kernel
theorem d_LW_end_16 : decode b_LW_end 16 = .ok (.ireturn, 1) := by decide +kernel
theorem d_LW_judge_0 : decode b_LW_judge 0 = .ok (.aload_n 2, 1) := by decide +kernel
theorem d_LW_judge_1 : decode b_LW_judge 1 = .ok (.iconst 0, 1) := by decide +kernel
theorem d_LW_judge_2 : decode b_LW_judge 2 = .ok (.aload_n 0, 1) := by decide +kernel
theorem d_LW_judge_3 : decode b_LW_judge 3 = .ok (.iload_n 1, 1) := by decide +kernel
theorem d_LW_judge_4 : decode b_LW_judge 4 = .ok (.invokevirtual 63, 3) := by decide +kernel
theorem d_LW_judge_11 : decode b_LW_judge 11 = .ok (.astore_n 3, 1) := by decide +kernel
theorem d_LW_judge_12 : decode b_LW_judge 12 = .ok (.iconst 1, 1) := by decide +kernel
theorem d_LW_judge_13 : decode b_LW_judge 13 = .ok (.ireturn, 1) := by decide +kernel
theorem d_LW_line_0 : decode b_LW_line 0 = .ok (.aload_n 3, 1) := by decide +kernel
theorem d_LW_line_1 : decode b_LW_line 1 = .ok (.iconst 0, 1) := by decide +kernel
theorem d_LW_line_2 : decode b_LW_line 2 = .ok (.aload_n 0, 1) := by decide +kernel
theorem d_LW_line_3 : decode b_LW_line 3 = .ok (.iload_n 1, 1) := by decide +kernel
theorem d_LW_line_4 : decode b_LW_line 4 = .ok (.iload_n 2, 1) := by decide +kernel
theorem d_LW_line_5 : decode b_LW_line 5 = .ok (.invokevirtual 53, 3) := by decide +kernel
theorem d_LW_line_13 : decode b_LW_line 13 = .ok (.astore 4, 2) := by decide +kernel
theorem d_LW_line_15 : decode b_LW_line 15 = .ok (.iconst 1, 1) := by decide +kernel
theorem d_LW_line_16 : decode b_LW_line 16 = .ok (.ireturn, 1) := by decide +kernel
theorem d_LW_line_17 : decode b_LW_line 17 = .ok (.astore 4, 2) := by decide +kernel
theorem d_LW_line_19 : decode b_LW_line 19 = .ok (.iconst 2, 1) := by decide +kernel
theorem d_LW_line_20 : decode b_LW_line 20 = .ok (.ireturn, 1) := by decide +kernel
theorem d_LW_note_0 : decode b_LW_note 0 = .ok (.aload_n 3, 1) := by decide +kernel
theorem d_LW_note_1 : decode b_LW_note 1 = .ok (.iconst 0, 1) := by decide +kernel
theorem d_LW_note_2 : decode b_LW_note 2 = .ok (.aload_n 0, 1) := by decide +kernel
theorem d_LW_note_3 : decode b_LW_note 3 = .ok (.iload_n 1, 1) := by decide +kernel
theorem d_LW_note_4 : decode b_LW_note 4 = .ok (.iload_n 2, 1) := by decide +kernel
theorem d_LW_note_5 : decode b_LW_note 5 = .ok (.invokevirtual 72, 3) := by decide +kernel
theorem d_LW_note_13 : decode b_LW_note 13 = .ok (.astore 4, 2) := by decide +kernel
theorem d_LW_note_15 : decode b_LW_note 15 = .ok (.iconst 1, 1) := by decide +kernel
theorem d_LW_note_16 : decode b_LW_note 16 = .ok (.ireturn, 1) := by decide +kernel
theorem d_LW_note_17 : decode b_LW_note 17 = .ok (.astore 4, 2) := by decide +kernel
theorem d_LW_note_19 : decode b_LW_note 19 = .ok (.iconst 2, 1) := by decide +kernel
theorem d_LW_note_20 : decode b_LW_note 20 = .ok (.ireturn, 1) := by decide +kernel
theorem d_LW_paragraph_0 : decode b_LW_paragraph 0 = .ok (.aload_n 3, 1) := by decide +kernel
theorem d_LW_paragraph_1 : decode b_LW_paragraph 1 = .ok (.iconst 0, 1) := by decide +kernel
theorem d_LW_paragraph_2 : decode b_LW_paragraph 2 = .ok (.aload_n 0, 1) := by decide +kernel
theorem d_LW_paragraph_3 : decode b_LW_paragraph 3 = .ok (.iload_n 1, 1) := by decide +kernel
theorem d_LW_paragraph_4 : decode b_LW_paragraph 4 = .ok (.iload_n 2, 1) := by decide +kernel
theorem d_LW_paragraph_5 : decode b_LW_paragraph 5 = .ok (.invokevirtual 60, 3) := by decide +kernel
theorem d_LW_paragraph_12 : decode b_LW_paragraph 12 = .ok (.astore 4, 2) := by decide +kernel
theorem d_LW_paragraph_14 : decode b_LW_paragraph 14 = .ok (.iconst 1, 1) := by decide +kernel
theorem d_LW_paragraph_15 : decode b_LW_paragraph 15 = .ok (.ireturn, 1) := by decide +kernel
theorem d_LW_paragraph_16 : decode b_LW_paragraph 16 = .ok (.astore 4, 2) := by decide +kernel
theorem d_LW_paragraph_18 : decode b_LW_paragraph 18 = .ok (.iconst 2, 1) := by decide +kernel
theorem d_LW_paragraph_19 : decode b_LW_paragraph 19 = .ok (.ireturn, 1) := by decide +kernel
theorem d_LW_print_0 : decode b_LW_print 0 = .ok (.aload_n 2, 1) := by decide +kernel
theorem d_LW_print_1 : decode b_LW_print 1 = .ok (.iconst 0, 1) := by decide +kernel
theorem d_LW_print_2 : decode b_LW_print 2 = .ok (.aload_n 0, 1) := by decide +kernel
theorem d_LW_print_3 : decode b_LW_print 3 = .ok (.iload_n 1, 1) := by decide +kernel
theorem d_LW_print_4 : decode b_LW_print 4 = .ok (.invokevirtual 78, 3) := by decide +kernel
theorem d_LW_print_12 : decode b_LW_print 12 = .ok (.astore_n 3, 1) := by decide +kernel
theorem d_LW_print_13 : decode b_LW_print 13 = .ok (.iconst 1, 1) := by decide +kernel
theorem d_LW_print_14 : decode b_LW_print 14 = .ok (.ireturn, 1) := by decide +kernel
theorem d_LW_set_0 : decode b_LW_set 0 = .ok (.aload_n 2, 1) := by decide +kernel
theorem d_LW_set_1 : decode b_LW_set 1 = .ok (.iconst 0, 1) := by decide +kernel
theorem d_LW_set_2 : decode b_LW_set 2 = .ok (.aload_n 0, 1) := by decide +kernel
theorem d_LW_set_3 : decode b_LW_set 3 = .ok (.iload_n 1, 1) := by decide +kernel
theorem d_LW_set_4 : decode b_LW_set 4 = .ok (.invokevirtual 42, 3) := by decide +kernel
theorem d_LW_set_12 : decode b_LW_set 12 = .ok (.astore_n 3, 1) := by decide +kernel
theorem d_LW_set_13 : decode b_LW_set 13 = .ok (.iconst 1, 1) := by decide +kernel
theorem d_LW_set_14 : decode b_LW_set 14 = .ok (.ireturn, 1) := by decide +kernel
theorem d_LW_set_15 : decode b_LW_set 15 = .ok (.astore_n 3, 1) := by decide +kernel
theorem d_LW_set_16 : decode b_LW_set 16 = .ok (.iconst 2, 1) := by decide +kernel
theorem d_LW_set_17 : decode b_LW_set 17 = .ok (.ireturn, 1) := by decide +kernel
theorem d_LW_spot_0 : decode b_LW_spot 0 = .ok (.aload_n 3, 1) := by decide +kernel
theorem d_LW_spot_1 : decode b_LW_spot 1 = .ok (.iconst 0, 1) := by decide +kernel
theorem d_LW_spot_2 : decode b_LW_spot 2 = .ok (.aload_n 0, 1) := by decide +kernel
theorem d_LW_spot_3 : decode b_LW_spot 3 = .ok (.iload_n 1, 1) := by decide +kernel
theorem d_LW_spot_4 : decode b_LW_spot 4 = .ok (.iload_n 2, 1) := by decide +kernel
theorem d_LW_spot_5 : decode b_LW_spot 5 = .ok (.invokevirtual 56, 3) := by decide +kernel
theorem d_LW_spot_12 : decode b_LW_spot 12 = .ok (.astore 4, 2) := by decide +kernel
theorem d_LW_spot_14 : decode b_LW_spot 14 = .ok (.iconst 1, 1) := by decide +kernel
theorem d_LW_spot_15 : decode b_LW_spot 15 = .ok (.ireturn, 1) := by decide +kernel
theorem d_LW_wavering_0 : decode b_LW_wavering 0 = .ok (.aload_n 2, 1) := by decide +kernel
theorem d_LW_wavering_1 : decode b_LW_wavering 1 = .ok (.iconst 0, 1) := by decide +kernel
theorem d_LW_wavering_2 : decode b_LW_wavering 2 = .ok (.aload_n 0, 1) := by decide +kernel
theorem d_LW_wavering_3 : decode b_LW_wavering 3 = .ok (.iload_n 1, 1) := by decide +kernel
theorem d_LW_wavering_4 : decode b_LW_wavering 4 = .ok (.invokevirtual 75, 3) := by decide +kernel
theorem d_LW_wavering_12 : decode b_LW_wavering 12 = .ok (.astore_n 3, 1) := by decide +kernel
theorem d_LW_wavering_13 : decode b_LW_wavering 13 = .ok (.iconst 1, 1) := by decide +kernel
theorem d_LW_wavering_14 : decode b_LW_wavering 14 = .ok (.ireturn, 1) := by decide +kernel
theorem d_LW_where_0 : decode b_LW_where 0 = .ok (.aload_n 2, 1) := by decide +kernel
theorem d_LW_where_1 : decode b_LW_where 1 = .ok (.iconst 0, 1) := by decide +kernel
theorem d_LW_where_2 : decode b_LW_where 2 = .ok (.aload_n 0, 1) := by decide +kernel
theorem d_LW_where_3 : decode b_LW_where 3 = .ok (.iload_n 1, 1) := by decide +kernel
theorem d_LW_where_4 : decode b_LW_where 4 = .ok (.invokevirtual 67, 3) := by decide +kernel
theorem d_LW_where_12 : decode b_LW_where 12 = .ok (.astore_n 3, 1) := by decide +kernel
theorem d_LW_where_13 : decode b_LW_where 13 = .ok (.iconst 1, 1) := by decide +kernel
theorem d_LW_where_14 : decode b_LW_where 14 = .ok (.ireturn, 1) := by decide +kernel
theorem d_LW_where_15 : decode b_LW_where 15 = .ok (.astore_n 3, 1) := by decide +kernel
theorem d_LW_where_16 : decode b_LW_where 16 = .ok (.iconst 2, 1) := by decide +kernel
theorem d_LW_where_17 : decode b_LW_where 17 = .ok (.ireturn, 1) := by decide +kernel
theorem d_LW_word_0 : decode b_LW_word 0 = .ok (.aload_n 2, 1) := by decide +kernel
theorem d_LW_word_1 : decode b_LW_word 1 = .ok (.iconst 0, 1) := by decide +kernel
theorem d_LW_word_2 : decode b_LW_word 2 = .ok (.aload_n 0, 1) := by decide +kernel
theorem d_LW_word_3 : decode b_LW_word 3 = .ok (.iload_n 1, 1) := by decide +kernel
theorem d_LW_word_4 : decode b_LW_word 4 = .ok (.invokevirtual 81, 3) := by decide +kernel
theorem d_LW_word_11 : decode b_LW_word 11 = .ok (.astore_n 3, 1) := by decide +kernel
theorem d_LW_word_12 : decode b_LW_word 12 = .ok (.iconst 1, 1) := by decide +kernel
theorem d_LW_word_13 : decode b_LW_word 13 = .ok (.ireturn, 1) := by decide +kernel
theorem d_SM_change_0 : decode b_SM_change 0 = .ok (.iload_n 1, 1) := by decide +kernel
theorem d_SM_change_1 : decode b_SM_change 1 = .ok (.ifCond .lt 29, 3) := by decide +kernel
theorem d_SM_change_4 : decode b_SM_change 4 = .ok (.iload_n 1, 1) := by decide +kernel
theorem d_SM_change_5 : decode b_SM_change 5 = .ok (.iload_n 2, 1) := by decide +kernel
theorem d_SM_change_6 : decode b_SM_change 6 = .ok (.if_icmp .gt 24, 3) := by decide +kernel
theorem d_SM_change_9 : decode b_SM_change 9 = .ok (.aload_n 0, 1) := by decide +kernel
theorem d_SM_change_10 : decode b_SM_change 10 = .ok (.getfield 50, 3) := by decide +kernel
theorem d_SM_change_13 : decode b_SM_change 13 = .ok (.getfield 154, 3) := by decide +kernel
theorem d_SM_change_16 : decode b_SM_change 16 = .ok (.ifCond .eq 20, 3) := by decide +kernel
theorem d_SM_change_30 : decode b_SM_change 30 = .ok (.aload_n 0, 1) := by decide +kernel
theorem d_SM_change_31 : decode b_SM_change 31 = .ok (.iconst 1, 1) := by decide +kernel
theorem d_SM_change_32 : decode b_SM_change 32 = .ok (.invokevirtual 107, 3) := by decide +kernel
theorem d_SM_change_35 : decode b_SM_change 35 = .ok (.ireturn, 1) := by decide +kernel
theorem d_SM_change_36 : decode b_SM_change 36 = .ok (.aload_n 0, 1) := by decide +kernel
theorem d_SM_change_37 : decode b_SM_change 37 = .ok (.getfield 50, 3) := by decide +kernel
theorem d_SM_change_40 : decode b_SM_change 40 = .ok (.getfield 154, 3) := by decide +kernel
theorem d_SM_change_43 : decode b_SM_change 43 = .ok (.ifCond .ne 9, 3) := by decide +kernel
theorem d_SM_change_46 : decode b_SM_change 46 = .ok (.aload_n 0, 1) := by decide +kernel
theorem d_SM_change_47 : decode b_SM_change 47 = .ok (.iconst 2, 1) := by decide +kernel
theorem d_SM_change_48 : decode b_SM_change 48 = .ok (.invokevirtual 107, 3) := by decide +kernel
theorem d_SM_change_51 : decode b_SM_change 51 = .ok (.ireturn, 1) := by decide +kernel
theorem d_SM_count_0 : decode b_SM_count 0 = .ok (.iload_n 1, 1) := by decide +kernel
theorem d_SM_count_1 : decode b_SM_count 1 = .ok (.iconst 0, 1) := by decide +kernel
theorem d_SM_count_2 : decode b_SM_count 2 = .ok (.bipush 11, 2) := by decide +kernel
theorem d_SM_count_4 : decode b_SM_count 4 = .ok (.invokestatic 162, 3) := by decide +kernel
theorem d_SM_count_7 : decode b_SM_count 7 = .ok (.ifCond .ne 9, 3) := by decide +kernel
theorem d_SM_count_10 : decode b_SM_count 10 = .ok (.aload_n 0, 1) := by decide +kernel
theorem d_SM_count_11 : decode b_SM_count 11 = .ok (.iconst 1, 1) := by decide +kernel
theorem d_SM_count_12 : decode b_SM_count 12 = .ok (.invokevirtual 107, 3) := by decide +kernel
theorem d_SM_count_15 : decode b_SM_count 15 = .ok (.ireturn, 1) := by decide +kernel
theorem d_SM_count_16 : decode b_SM_count 16 = .ok (.aload_n 0, 1) := by decide +kernel
theorem d_SM_count_17 : decode b_SM_count 17 = .ok (.iconst 0, 1) := by decide +kernel
theorem d_SM_count_18 : decode b_SM_count 18 = .ok (.putfield 87, 3) := by decide +kernel
theorem d_SM_count_21 : decode b_SM_count 21 = .ok (.iload_n 1, 1) := by decide +kernel
theorem d_SM_count_22 : decode b_SM_count 22 = .ok (.tableswitch 92 0 2 #[26, 48, 70], 26) := by decide +kernel
theorem d_SM_count_48 : decode b_SM_count 48 = .ok (.aload_n 0, 1) := by decide +kernel
theorem d_SM_count_49 : decode b_SM_count 49 = .ok (.getfield 50, 3) := by decide +kernel
theorem d_SM_count_52 : decode b_SM_count 52 = .ok (.getfield 154, 3) := by decide +kernel
theorem d_SM_count_55 : decode b_SM_count 55 = .ok (.ifCond .eq 13, 3) := by decide +kernel
theorem d_SM_count_68 : decode b_SM_count 68 = .ok (.iconst 0, 1) := by decide +kernel
theorem d_SM_count_69 : decode b_SM_count 69 = .ok (.ireturn, 1) := by decide +kernel
theorem d_SM_count_70 : decode b_SM_count 70 = .ok (.aload_n 0, 1) := by decide +kernel
theorem d_SM_count_71 : decode b_SM_count 71 = .ok (.getfield 50, 3) := by decide +kernel
theorem d_SM_count_74 : decode b_SM_count 74 = .ok (.getfield 154, 3) := by decide +kernel
theorem d_SM_count_77 : decode b_SM_count 77 = .ok (.ifCond .eq 13, 3) := by decide +kernel
theorem d_SM_count_90 : decode b_SM_count 90 = .ok (.iconst 0, 1) := by decide +kernel
theorem d_SM_count_91 : decode b_SM_count 91 = .ok (.ireturn, 1) := by decide +kernel
theorem d_SM_count_92 : decode b_SM_count 92 = .ok (.aload_n 0, 1) := by decide +kernel
theorem d_SM_count_93 : decode b_SM_count 93 = .ok (.getfield 50, 3) := by decide +kernel
theorem d_SM_count_96 : decode b_SM_count 96 = .ok (.getfield 154, 3) := by decide +kernel
theorem d_SM_count_99 : decode b_SM_count 99 = .ok (.ifCond .eq 13, 3) := by decide +kernel
theorem d_SM_count_112 : decode b_SM_count 112 = .ok (.iconst 0, 1) := by decide +kernel
theorem d_SM_count_113 : decode b_SM_count 113 = .ok (.ireturn, 1) := by decide +kernel
theorem d_SM_count_114 : decode b_SM_count 114 = .ok (.aload_n 0, 1) := by decide +kernel
theorem d_SM_count_115 : decode b_SM_count 115 = .ok (.getfield 174, 3) := by decide +kernel
theorem d_SM_count_118 : decode b_SM_count 118 = .ok (.ifCond .ne 5, 3) := by decide +kernel
theorem d_SM_count_121 : decode b_SM_count 121 = .ok (.iconst 0, 1) := by decide +kernel
theorem d_SM_count_122 : decode b_SM_count 122 = .ok (.ireturn, 1) := by decide +kernel
theorem d_SM_element_0 : decode b_SM_element 0 = .ok (.iload_n 1, 1) := by decide +kernel
theorem d_SM_element_1 : decode b_SM_element 1 = .ok (.ifCond .lt 45, 3) := by decide +kernel
theorem d_SM_element_4 : decode b_SM_element 4 = .ok (.aload_n 0, 1) := by decide +kernel
theorem d_SM_element_5 : decode b_SM_element 5 = .ok (.getfield 50, 3) := by decide +kernel
theorem d_SM_element_8 : decode b_SM_element 8 = .ok (.getfield 154, 3) := by decide +kernel
theorem d_SM_element_11 : decode b_SM_element 11 = .ok (.ifCond .eq 14, 3) := by decide +kernel
theorem d_SM_element_25 : decode b_SM_element 25 = .ok (.iload_n 2, 1) := by decide +kernel
theorem d_SM_element_26 : decode b_SM_element 26 = .ok (.iconst 0, 1) := by decide +kernel
theorem d_SM_element_27 : decode b_SM_element 27 = .ok (.bipush 7, 2) := by decide +kernel
theorem d_SM_element_29 : decode b_SM_element 29 = .ok (.invokestatic 162, 3) := by decide +kernel
theorem d_SM_element_32 : decode b_SM_element 32 = .ok (.ifCond .ne 20, 3) := by decide +kernel
theorem d_SM_element_35 : decode b_SM_element 35 = .ok (.iload_n 2, 1) := by decide +kernel
theorem d_SM_element_36 : decode b_SM_element 36 = .ok (.bipush 20, 2) := by decide +kernel
theorem d_SM_element_38 : decode b_SM_element 38 = .ok (.bipush 41, 2) := by decide +kernel
theorem d_SM_element_40 : decode b_SM_element 40 = .ok (.invokestatic 162, 3) := by decide +kernel
theorem d_SM_element_43 : decode b_SM_element 43 = .ok (.ifCond .ne 9, 3) := by decide +kernel
theorem d_SM_element_46 : decode b_SM_element 46 = .ok (.aload_n 0, 1) := by decide +kernel
theorem d_SM_element_47 : decode b_SM_element 47 = .ok (.iconst 1, 1) := by decide +kernel
theorem d_SM_element_48 : decode b_SM_element 48 = .ok (.invokevirtual 107, 3) := by decide +kernel
theorem d_SM_element_51 : decode b_SM_element 51 = .ok (.ireturn, 1) := by decide +kernel
theorem d_SM_element_52 : decode b_SM_element 52 = .ok (.aload_n 0, 1) := by decide +kernel
theorem d_SM_element_53 : decode b_SM_element 53 = .ok (.getfield 50, 3) := by decide +kernel
theorem d_SM_element_56 : decode b_SM_element 56 = .ok (.getfield 154, 3) := by decide +kernel
theorem d_SM_element_59 : decode b_SM_element 59 = .ok (.ifCond .ne 9, 3) := by decide +kernel
theorem d_SM_element_62 : decode b_SM_element 62 = .ok (.aload_n 0, 1) := by decide +kernel
theorem d_SM_element_63 : decode b_SM_element 63 = .ok (.iconst 2, 1) := by decide +kernel
theorem d_SM_element_64 : decode b_SM_element 64 = .ok (.invokevirtual 107, 3) := by decide +kernel
theorem d_SM_element_67 : decode b_SM_element 67 = .ok (.ireturn, 1) := by decide +kernel
theorem d_SM_end_0 : decode b_SM_end 0 = .ok (.iload_n 1, 1) := by decide +kernel
theorem d_SM_end_1 : decode b_SM_end 1 = .ok (.ifCond .lt 11, 3) := by decide +kernel
theorem d_SM_end_4 : decode b_SM_end 4 = .ok (.iload_n 1, 1) := by decide +kernel
theorem d_SM_end_5 : decode b_SM_end 5 = .ok (.aload_n 0, 1) := by decide +kernel
theorem d_SM_end_6 : decode b_SM_end 6 = .ok (.getfield 104, 3) := by decide +kernel
theorem d_SM_end_9 : decode b_SM_end 9 = .ok (.if_icmp .le 9, 3) := by decide +kernel
theorem d_SM_end_12 : decode b_SM_end 12 = .ok (.aload_n 0, 1) := by decide +kernel
theorem d_SM_end_13 : decode b_SM_end 13 = .ok (.iconst 1, 1) := by decide +kernel
theorem d_SM_end_14 : decode b_SM_end 14 = .ok (.invokevirtual 107, 3) := by decide +kernel
theorem d_SM_end_17 : decode b_SM_end 17 = .ok (.ireturn, 1) := by decide +kernel
theorem d_SM_end_18 : decode b_SM_end 18 = .ok (.aload_n 0, 1) := by decide +kernel
theorem d_SM_end_19 : decode b_SM_end 19 = .ok (.iconst 0, 1) := by decide +kernel
theorem d_SM_end_20 : decode b_SM_end 20 = .ok (.putfield 87, 3) := by decide +kernel
theorem d_SM_end_23 : decode b_SM_end 23 = .ok (.aload_n 0, 1) := by decide +kernel
theorem d_SM_end_24 : decode b_SM_end 24 = .ok (.iload_n 1, 1) := by decide +kernel
theorem d_SM_end_25 : decode b_SM_end 25 = .ok (.putfield 104, 3) := by decide +kernel
theorem d_SM_end_28 : decode b_SM_end 28 = .ok (.iload_n 1, 1) := by decide +kernel
theorem d_SM_end_29 : decode b_SM_end 29 = .ok (.ireturn, 1) := by decide +kernel
theorem d_SM_four_0 : decode b_SM_four 0 = .ok (.bipush 24, 2) := by decide +kernel
theorem d_SM_four_2 : decode b_SM_four 2 = .ok (.istore_n 2, 1) := by decide +kernel
theorem d_SM_four_3 : decode b_SM_four 3 = .ok (.iload_n 2, 1) := by decide +kernel
theorem d_SM_four_4 : decode b_SM_four 4 = .ok (.ifCond .lt 32, 3) := by decide +kernel
theorem d_SM_four_7 : decode b_SM_four 7 = .ok (.aload_n 0, 1) := by decide +kernel
theorem d_SM_four_8 : decode b_SM_four 8 = .ok (.getfield 13, 3) := by decide +kernel
theorem d_SM_four_11 : decode b_SM_four 11 = .ok (.aload_n 0, 1) := by decide +kernel
theorem d_SM_four_12 : decode b_SM_four 12 = .ok (.getfield 104, 3) := by decide +kernel
theorem d_SM_four_15 : decode b_SM_four 15 = .ok (.iload_n 1, 1) := by decide +kernel
theorem d_SM_four_16 : decode b_SM_four 16 = .ok (.iload_n 2, 1) := by decide +kernel
theorem d_SM_four_17 : decode b_SM_four 17 = .ok (.ishr, 1) := by decide +kernel
theorem d_SM_four_18 : decode b_SM_four 18 = .ok (.i2b, 1) := by decide +kernel
theorem d_SM_four_19 : decode b_SM_four 19 = .ok (.bastore, 1) := by decide +kernel
theorem d_SM_four_20 : decode b_SM_four 20 = .ok (.aload_n 0, 1) := by decide +kernel
theorem d_SM_four_21 : decode b_SM_four 21 = .ok (.dup, 1) := by decide +kernel
theorem d_SM_four_22 : decode b_SM_four 22 = .ok (.getfield 104, 3) := by decide +kernel
theorem d_SM_four_25 : decode b_SM_four 25 = .ok (.iconst 1, 1) := by decide +kernel
theorem d_SM_four_26 : decode b_SM_four 26 = .ok (.iadd, 1) := by decide +kernel
theorem d_SM_four_27 : decode b_SM_four 27 = .ok (.putfield 104, 3) := by decide +kernel
theorem d_SM_four_30 : decode b_SM_four 30 = .ok (.iinc 2 (-8), 3) := by decide +kernel
theorem d_SM_four_33 : decode b_SM_four 33 = .ok (.goto (-30), 3) := by decide +kernel
theorem d_SM_four_36 : decode b_SM_four 36 = .ok (.return_, 1) := by decide +kernel
theorem d_SM_in_0 : decode b_SM_in 0 = .ok (.iload_n 0, 1) := by decide +kernel
theorem d_SM_in_1 : decode b_SM_in 1 = .ok (.iload_n 1, 1) := by decide +kernel
theorem d_SM_in_2 : decode b_SM_in 2 = .ok (.if_icmp .lt 12, 3) := by decide +kernel
theorem d_SM_in_5 : decode b_SM_in 5 = .ok (.iload_n 0, 1) := by decide +kernel
theorem d_SM_in_6 : decode b_SM_in 6 = .ok (.iload_n 2, 1) := by decide +kernel
theorem d_SM_in_7 : decode b_SM_in 7 = .ok (.if_icmp .gt 7, 3) := by decide +kernel
theorem d_SM_in_10 : decode b_SM_in 10 = .ok (.iconst 1, 1) := by decide +kernel
theorem d_SM_in_11 : decode b_SM_in 11 = .ok (.goto 4, 3) := by decide +kernel
theorem d_SM_in_14 : decode b_SM_in 14 = .ok (.iconst 0, 1) := by decide +kernel
theorem d_SM_in_15 : decode b_SM_in 15 = .ok (.ireturn, 1) := by decide +kernel
theorem d_SM_judge_0 : decode b_SM_judge 0 = .ok (.aload_n 0, 1) := by decide +kernel
theorem d_SM_judge_1 : decode b_SM_judge 1 = .ok (.getfield 174, 3) := by decide +kernel
theorem d_SM_judge_4 : decode b_SM_judge 4 = .ok (.ifCond .ne 10, 3) := by decide +kernel
theorem d_SM_judge_7 : decode b_SM_judge 7 = .ok (.aload_n 0, 1) := by decide +kernel
theorem d_SM_judge_8 : decode b_SM_judge 8 = .ok (.iconst 1, 1) := by decide +kernel
theorem d_SM_judge_9 : decode b_SM_judge 9 = .ok (.invokevirtual 107, 3) := by decide +kernel
theorem d_SM_judge_12 : decode b_SM_judge 12 = .ok (.i2l, 1) := by decide +kernel
theorem d_SM_judge_13 : decode b_SM_judge 13 = .ok (.lreturn, 1) := by decide +kernel
theorem d_SM_line_0 : decode b_SM_line 0 = .ok (.iload_n 2, 1) := by decide +kernel
theorem d_SM_line_1 : decode b_SM_line 1 = .ok (.iconst 0, 1) := by decide +kernel
theorem d_SM_line_2 : decode b_SM_line 2 = .ok (.bipush 6, 2) := by decide +kernel
theorem d_SM_line_4 : decode b_SM_line 4 = .ok (.invokestatic 162, 3) := by decide +kernel
theorem d_SM_line_7 : decode b_SM_line 7 = .ok (.ifCond .ne 9, 3) := by decide +kernel
theorem d_SM_line_10 : decode b_SM_line 10 = .ok (.aload_n 0, 1) := by decide +kernel
theorem d_SM_line_11 : decode b_SM_line 11 = .ok (.iconst 1, 1) := by decide +kernel
theorem d_SM_line_12 : decode b_SM_line 12 = .ok (.invokevirtual 107, 3) := by decide +kernel
theorem d_SM_line_15 : decode b_SM_line 15 = .ok (.ireturn, 1) := by decide +kernel
theorem d_SM_line_16 : decode b_SM_line 16 = .ok (.aload_n 0, 1) := by decide +kernel
theorem d_SM_line_17 : decode b_SM_line 17 = .ok (.getfield 174, 3) := by decide +kernel
theorem d_SM_line_20 : decode b_SM_line 20 = .ok (.ifCond .ne 9, 3) := by decide +kernel
theorem d_SM_line_23 : decode b_SM_line 23 = .ok (.aload_n 0, 1) := by decide +kernel
theorem d_SM_line_24 : decode b_SM_line 24 = .ok (.iconst 2, 1) := by decide +kernel
theorem d_SM_line_25 : decode b_SM_line 25 = .ok (.invokevirtual 107, 3) := by decide +kernel
theorem d_SM_line_28 : decode b_SM_line 28 = .ok (.ireturn, 1) := by decide +kernel
theorem d_SM_note_0 : decode b_SM_note 0 = .ok (.iload_n 2, 1) := by decide +kernel
theorem d_SM_note_1 : decode b_SM_note 1 = .ok (.iconst 0, 1) := by decide +kernel
theorem d_SM_note_2 : decode b_SM_note 2 = .ok (.iconst 5, 1) := by decide +kernel
theorem d_SM_note_3 : decode b_SM_note 3 = .ok (.invokestatic 162, 3) := by decide +kernel
theorem d_SM_note_6 : decode b_SM_note 6 = .ok (.ifCond .ne 20, 3) := by decide +kernel
theorem d_SM_note_9 : decode b_SM_note 9 = .ok (.iload_n 2, 1) := by decide +kernel
theorem d_SM_note_10 : decode b_SM_note 10 = .ok (.bipush 10, 2) := by decide +kernel
theorem d_SM_note_12 : decode b_SM_note 12 = .ok (.bipush 13, 2) := by decide +kernel
theorem d_SM_note_14 : decode b_SM_note 14 = .ok (.invokestatic 162, 3) := by decide +kernel
theorem d_SM_note_17 : decode b_SM_note 17 = .ok (.ifCond .ne 9, 3) := by decide +kernel
theorem d_SM_note_20 : decode b_SM_note 20 = .ok (.aload_n 0, 1) := by decide +kernel
theorem d_SM_note_21 : decode b_SM_note 21 = .ok (.iconst 1, 1) := by decide +kernel
theorem d_SM_note_22 : decode b_SM_note 22 = .ok (.invokevirtual 107, 3) := by decide +kernel
theorem d_SM_note_25 : decode b_SM_note 25 = .ok (.ireturn, 1) := by decide +kernel
theorem d_SM_note_26 : decode b_SM_note 26 = .ok (.aload_n 0, 1) := by decide +kernel
theorem d_SM_note_27 : decode b_SM_note 27 = .ok (.getfield 174, 3) := by decide +kernel
theorem d_SM_note_30 : decode b_SM_note 30 = .ok (.ifCond .ne 9, 3) := by decide +kernel
theorem d_SM_note_33 : decode b_SM_note 33 = .ok (.aload_n 0, 1) := by decide +kernel
theorem d_SM_note_34 : decode b_SM_note 34 = .ok (.iconst 2, 1) := by decide +kernel
theorem d_SM_note_35 : decode b_SM_note 35 = .ok (.invokevirtual 107, 3) := by decide +kernel
theorem d_SM_note_38 : decode b_SM_note 38 = .ok (.ireturn, 1) := by decide +kernel
theorem d_SM_paragraph_0 : decode b_SM_paragraph 0 = .ok (.iload_n 2, 1) := by decide +kernel
theorem d_SM_paragraph_1 : decode b_SM_paragraph 1 = .ok (.iconst 0, 1) := by decide +kernel
theorem d_SM_paragraph_2 : decode b_SM_paragraph 2 = .ok (.bipush 6, 2) := by decide +kernel
theorem d_SM_paragraph_4 : decode b_SM_paragraph 4 = .ok (.invokestatic 162, 3) := by decide +kernel
theorem d_SM_paragraph_7 : decode b_SM_paragraph 7 = .ok (.ifCond .ne 10, 3) := by decide +kernel
theorem d_SM_paragraph_10 : decode b_SM_paragraph 10 = .ok (.aload_n 0, 1) := by decide +kernel
theorem d_SM_paragraph_11 : decode b_SM_paragraph 11 = .ok (.iconst 1, 1) := by decide +kernel
theorem d_SM_paragraph_12 : decode b_SM_paragraph 12 = .ok (.invokevirtual 107, 3) := by decide +kernel
theorem d_SM_paragraph_15 : decode b_SM_paragraph 15 = .ok (.i2l, 1) := by decide +kernel
theorem d_SM_paragraph_16 : decode b_SM_paragraph 16 = .ok (.lreturn, 1) := by decide +kernel
theorem d_SM_paragraph_17 : decode b_SM_paragraph 17 = .ok (.aload_n 0, 1) := by decide +kernel
theorem d_SM_paragraph_18 : decode b_SM_paragraph 18 = .ok (.getfield 174, 3) := by decide +kernel
theorem d_SM_paragraph_21 : decode b_SM_paragraph 21 = .ok (.ifCond .ne 10, 3) := by decide +kernel
theorem d_SM_paragraph_24 : decode b_SM_paragraph 24 = .ok (.aload_n 0, 1) := by decide +kernel
theorem d_SM_paragraph_25 : decode b_SM_paragraph 25 = .ok (.iconst 2, 1) := by decide +kernel
theorem d_SM_paragraph_26 : decode b_SM_paragraph 26 = .ok (.invokevirtual 107, 3) := by decide +kernel
theorem d_SM_paragraph_29 : decode b_SM_paragraph 29 = .ok (.i2l, 1) := by decide +kernel
theorem d_SM_paragraph_30 : decode b_SM_paragraph 30 = .ok (.lreturn, 1) := by decide +kernel
theorem d_SM_place_0 : decode b_SM_place 0 = .ok (.aload_n 0, 1) := by decide +kernel
theorem d_SM_place_1 : decode b_SM_place 1 = .ok (.iconst 0, 1) := by decide +kernel
theorem d_SM_place_2 : decode b_SM_place 2 = .ok (.putfield 87, 3) := by decide +kernel
theorem d_SM_place_5 : decode b_SM_place 5 = .ok (.aload_n 0, 1) := by decide +kernel
theorem d_SM_place_6 : decode b_SM_place 6 = .ok (.getfield 7, 3) := by decide +kernel
theorem d_SM_place_9 : decode b_SM_place 9 = .ok (.ireturn, 1) := by decide +kernel
theorem d_SM_print_0 : decode b_SM_print 0 = .ok (.aload_n 0, 1) := by decide +kernel
theorem d_SM_print_1 : decode b_SM_print 1 = .ok (.getfield 174, 3) := by decide +kernel
theorem d_SM_print_4 : decode b_SM_print 4 = .ok (.ifCond .ne 9, 3) := by decide +kernel
theorem d_SM_print_7 : decode b_SM_print 7 = .ok (.aload_n 0, 1) := by decide +kernel
theorem d_SM_print_8 : decode b_SM_print 8 = .ok (.iconst 1, 1) := by decide +kernel
theorem d_SM_print_9 : decode b_SM_print 9 = .ok (.invokevirtual 107, 3) := by decide +kernel
theorem d_SM_print_12 : decode b_SM_print 12 = .ok (.ireturn, 1) := by decide +kernel
theorem d_SM_refuse_0 : decode b_SM_refuse 0 = .ok (.aload_n 0, 1) := by decide +kernel
theorem d_SM_refuse_1 : decode b_SM_refuse 1 = .ok (.iload_n 1, 1) := by decide +kernel
theorem d_SM_refuse_2 : decode b_SM_refuse 2 = .ok (.putfield 87, 3) := by decide +kernel
theorem d_SM_refuse_5 : decode b_SM_refuse 5 = .ok (.iconst 0, 1) := by decide +kernel
theorem d_SM_refuse_6 : decode b_SM_refuse 6 = .ok (.ireturn, 1) := by decide +kernel
theorem d_SM_set_0 : decode b_SM_set 0 = .ok (.iload_n 1, 1) := by decide +kernel
theorem d_SM_set_1 : decode b_SM_set 1 = .ok (.iconst 1, 1) := by decide +kernel
theorem d_SM_set_2 : decode b_SM_set 2 = .ok (.bipush 9, 2) := by decide +kernel
theorem d_SM_set_4 : decode b_SM_set 4 = .ok (.invokestatic 162, 3) := by decide +kernel
theorem d_SM_set_7 : decode b_SM_set 7 = .ok (.ifCond .ne 9, 3) := by decide +kernel
theorem d_SM_set_10 : decode b_SM_set 10 = .ok (.aload_n 0, 1) := by decide +kernel
theorem d_SM_set_11 : decode b_SM_set 11 = .ok (.iconst 1, 1) := by decide +kernel
theorem d_SM_set_12 : decode b_SM_set 12 = .ok (.invokevirtual 107, 3) := by decide +kernel
theorem d_SM_set_15 : decode b_SM_set 15 = .ok (.ireturn, 1) := by decide +kernel
theorem d_SM_set_16 : decode b_SM_set 16 = .ok (.aload_n 0, 1) := by decide +kernel
theorem d_SM_set_17 : decode b_SM_set 17 = .ok (.getfield 50, 3) := by decide +kernel
theorem d_SM_set_20 : decode b_SM_set 20 = .ok (.getfield 154, 3) := by decide +kernel
theorem d_SM_set_23 : decode b_SM_set 23 = .ok (.ifCond .ne 9, 3) := by decide +kernel
theorem d_SM_set_26 : decode b_SM_set 26 = .ok (.aload_n 0, 1) := by decide +kernel
theorem d_SM_set_27 : decode b_SM_set 27 = .ok (.iconst 2, 1) := by decide +kernel
theorem d_SM_set_28 : decode b_SM_set 28 = .ok (.invokevirtual 107, 3) := by decide +kernel
theorem d_SM_set_31 : decode b_SM_set 31 = .ok (.ireturn, 1) := by decide +kernel
theorem d_SM_spot_0 : decode b_SM_spot 0 = .ok (.aload_n 0, 1) := by decide +kernel
theorem d_SM_spot_1 : decode b_SM_spot 1 = .ok (.getfield 174, 3) := by decide +kernel
theorem d_SM_spot_4 : decode b_SM_spot 4 = .ok (.ifCond .ne 10, 3) := by decide +kernel
theorem d_SM_spot_7 : decode b_SM_spot 7 = .ok (.aload_n 0, 1) := by decide +kernel
theorem d_SM_spot_8 : decode b_SM_spot 8 = .ok (.iconst 1, 1) := by decide +kernel
theorem d_SM_spot_9 : decode b_SM_spot 9 = .ok (.invokevirtual 107, 3) := by decide +kernel
theorem d_SM_spot_12 : decode b_SM_spot 12 = .ok (.i2l, 1) := by decide +kernel
theorem d_SM_spot_13 : decode b_SM_spot 13 = .ok (.lreturn, 1) := by decide +kernel
theorem d_SM_thrown_0 : decode b_SM_thrown 0 = .ok (.aload_n 0, 1) := by decide +kernel
theorem d_SM_thrown_1 : decode b_SM_thrown 1 = .ok (.getfield 87, 3) := by decide +kernel
theorem d_SM_thrown_4 : decode b_SM_thrown 4 = .ok (.ireturn, 1) := by decide +kernel
theorem d_SM_wavering_0 : decode b_SM_wavering 0 = .ok (.aload_n 0, 1) := by decide +kernel
theorem d_SM_wavering_1 : decode b_SM_wavering 1 = .ok (.getfield 174, 3) := by decide +kernel
theorem d_SM_wavering_4 : decode b_SM_wavering 4 = .ok (.ifCond .ne 9, 3) := by decide +kernel
theorem d_SM_wavering_7 : decode b_SM_wavering 7 = .ok (.aload_n 0, 1) := by decide +kernel
theorem d_SM_wavering_8 : decode b_SM_wavering 8 = .ok (.iconst 1, 1) := by decide +kernel
theorem d_SM_wavering_9 : decode b_SM_wavering 9 = .ok (.invokevirtual 107, 3) := by decide +kernel
theorem d_SM_wavering_12 : decode b_SM_wavering 12 = .ok (.ireturn, 1) := by decide +kernel
theorem d_SM_where_0 : decode b_SM_where 0 = .ok (.iload_n 1, 1) := by decide +kernel
theorem d_SM_where_1 : decode b_SM_where 1 = .ok (.iconst 0, 1) := by decide +kernel
theorem d_SM_where_2 : decode b_SM_where 2 = .ok (.iconst 5, 1) := by decide +kernel
theorem d_SM_where_3 : decode b_SM_where 3 = .ok (.invokestatic 162, 3) := by decide +kernel
theorem d_SM_where_6 : decode b_SM_where 6 = .ok (.ifCond .ne 9, 3) := by decide +kernel
theorem d_SM_where_9 : decode b_SM_where 9 = .ok (.aload_n 0, 1) := by decide +kernel
theorem d_SM_where_10 : decode b_SM_where 10 = .ok (.iconst 1, 1) := by decide +kernel
theorem d_SM_where_11 : decode b_SM_where 11 = .ok (.invokevirtual 107, 3) := by decide +kernel
theorem d_SM_where_14 : decode b_SM_where 14 = .ok (.ireturn, 1) := by decide +kernel
theorem d_SM_where_15 : decode b_SM_where 15 = .ok (.aload_n 0, 1) := by decide +kernel
theorem d_SM_where_16 : decode b_SM_where 16 = .ok (.getfield 174, 3) := by decide +kernel
theorem d_SM_where_19 : decode b_SM_where 19 = .ok (.ifCond .ne 9, 3) := by decide +kernel
theorem d_SM_where_22 : decode b_SM_where 22 = .ok (.aload_n 0, 1) := by decide +kernel
theorem d_SM_where_23 : decode b_SM_where 23 = .ok (.iconst 2, 1) := by decide +kernel
theorem d_SM_where_24 : decode b_SM_where 24 = .ok (.invokevirtual 107, 3) := by decide +kernel
theorem d_SM_where_27 : decode b_SM_where 27 = .ok (.ireturn, 1) := by decide +kernel
theorem d_SM_word_0 : decode b_SM_word 0 = .ok (.iload_n 1, 1) := by decide +kernel
theorem d_SM_word_1 : decode b_SM_word 1 = .ok (.ifCond .lt 11, 3) := by decide +kernel
theorem d_SM_word_4 : decode b_SM_word 4 = .ok (.iload_n 1, 1) := by decide +kernel
theorem d_SM_word_5 : decode b_SM_word 5 = .ok (.aload_n 0, 1) := by decide +kernel
theorem d_SM_word_6 : decode b_SM_word 6 = .ok (.getfield 442, 3) := by decide +kernel
theorem d_SM_word_9 : decode b_SM_word 9 = .ok (.if_icmp .lt 10, 3) := by decide +kernel
theorem d_SM_word_12 : decode b_SM_word 12 = .ok (.aload_n 0, 1) := by decide +kernel
theorem d_SM_word_13 : decode b_SM_word 13 = .ok (.iconst 1, 1) := by decide +kernel
theorem d_SM_word_14 : decode b_SM_word 14 = .ok (.invokevirtual 107, 3) := by decide +kernel
theorem d_SM_word_17 : decode b_SM_word 17 = .ok (.i2l, 1) := by decide +kernel
theorem d_SM_word_18 : decode b_SM_word 18 = .ok (.lreturn, 1) := by decide +kernel
theorem d_SP_change_0 : decode b_SP_change 0 = .ok (.iload_n 1, 1) := by decide +kernel
theorem d_SP_change_1 : decode b_SP_change 1 = .ok (.ifCond .lt 26, 3) := by decide +kernel
theorem d_SP_change_4 : decode b_SP_change 4 = .ok (.iload_n 2, 1) := by decide +kernel
theorem d_SP_change_5 : decode b_SP_change 5 = .ok (.iload_n 1, 1) := by decide +kernel
theorem d_SP_change_6 : decode b_SP_change 6 = .ok (.if_icmp .lt 21, 3) := by decide +kernel
theorem d_SP_change_9 : decode b_SP_change 9 = .ok (.aload_n 0, 1) := by decide +kernel
theorem d_SP_change_10 : decode b_SP_change 10 = .ok (.getfield 135, 3) := by decide +kernel
theorem d_SP_change_13 : decode b_SP_change 13 = .ok (.ifnull 22, 3) := by decide +kernel
theorem d_SP_change_27 : decode b_SP_change 27 = .ok (.new iN_IAE, 3) := by decide +kernel
theorem d_SP_change_30 : decode b_SP_change 30 = .ok (.dup, 1) := by decide +kernel
theorem d_SP_change_31 : decode b_SP_change 31 = .ok (.invokespecial ic_IAE, 3) := by decide +kernel
theorem d_SP_change_34 : decode b_SP_change 34 = .ok (.athrow, 1) := by decide +kernel
theorem d_SP_change_35 : decode b_SP_change 35 = .ok (.aload_n 0, 1) := by decide +kernel
theorem d_SP_change_36 : decode b_SP_change 36 = .ok (.getfield 135, 3) := by decide +kernel
theorem d_SP_change_39 : decode b_SP_change 39 = .ok (.ifnonnull 11, 3) := by decide +kernel
theorem d_SP_change_42 : decode b_SP_change 42 = .ok (.new iN_ISE, 3) := by decide +kernel
theorem d_SP_change_45 : decode b_SP_change 45 = .ok (.dup, 1) := by decide +kernel
theorem d_SP_change_46 : decode b_SP_change 46 = .ok (.invokespecial ic_ISE, 3) := by decide +kernel
theorem d_SP_change_49 : decode b_SP_change 49 = .ok (.athrow, 1) := by decide +kernel
theorem d_SP_count_0 : decode b_SP_count 0 = .ok (.iload_n 1, 1) := by decide +kernel
theorem d_SP_count_1 : decode b_SP_count 1 = .ok (.ifCond .lt 9, 3) := by decide +kernel
theorem d_SP_count_4 : decode b_SP_count 4 = .ok (.iload_n 1, 1) := by decide +kernel
theorem d_SP_count_5 : decode b_SP_count 5 = .ok (.bipush 11, 2) := by decide +kernel
theorem d_SP_count_7 : decode b_SP_count 7 = .ok (.if_icmp .le 11, 3) := by decide +kernel
theorem d_SP_count_10 : decode b_SP_count 10 = .ok (.new iN_IAE, 3) := by decide +kernel
theorem d_SP_count_13 : decode b_SP_count 13 = .ok (.dup, 1) := by decide +kernel
theorem d_SP_count_14 : decode b_SP_count 14 = .ok (.invokespecial ic_IAE, 3) := by decide +kernel
theorem d_SP_count_17 : decode b_SP_count 17 = .ok (.athrow, 1) := by decide +kernel
theorem d_SP_count_18 : decode b_SP_count 18 = .ok (.iload_n 1, 1) := by decide +kernel
theorem d_SP_count_19 : decode b_SP_count 19 = .ok (.iconst 2, 1) := by decide +kernel
theorem d_SP_count_20 : decode b_SP_count 20 = .ok (.if_icmp .gt 20, 3) := by decide +kernel
theorem d_SP_count_23 : decode b_SP_count 23 = .ok (.aload_n 0, 1) := by decide +kernel
theorem d_SP_count_24 : decode b_SP_count 24 = .ok (.getfield 135, 3) := by decide +kernel
theorem d_SP_count_27 : decode b_SP_count 27 = .ok (.ifnonnull 7, 3) := by decide +kernel
theorem d_SP_count_30 : decode b_SP_count 30 = .ok (.iconst 0, 1) := by decide +kernel
theorem d_SP_count_31 : decode b_SP_count 31 = .ok (.goto 8, 3) := by decide +kernel
theorem d_SP_count_39 : decode b_SP_count 39 = .ok (.ireturn, 1) := by decide +kernel
theorem d_SP_count_40 : decode b_SP_count 40 = .ok (.aload_n 0, 1) := by decide +kernel
theorem d_SP_count_41 : decode b_SP_count 41 = .ok (.getfield 172, 3) := by decide +kernel
theorem d_SP_count_44 : decode b_SP_count 44 = .ok (.ifnonnull 7, 3) := by decide +kernel
theorem d_SP_count_47 : decode b_SP_count 47 = .ok (.iconst 0, 1) := by decide +kernel
theorem d_SP_count_48 : decode b_SP_count 48 = .ok (.goto 11, 3) := by decide +kernel
theorem d_SP_count_59 : decode b_SP_count 59 = .ok (.ireturn, 1) := by decide +kernel
theorem d_SP_element_0 : decode b_SP_element 0 = .ok (.iload_n 2, 1) := by decide +kernel
theorem d_SP_element_1 : decode b_SP_element 1 = .ok (.ifCond .lt 9, 3) := by decide +kernel
theorem d_SP_element_4 : decode b_SP_element 4 = .ok (.iload_n 2, 1) := by decide +kernel
theorem d_SP_element_5 : decode b_SP_element 5 = .ok (.bipush 7, 2) := by decide +kernel
theorem d_SP_element_7 : decode b_SP_element 7 = .ok (.if_icmp .le 15, 3) := by decide +kernel
theorem d_SP_element_10 : decode b_SP_element 10 = .ok (.iload_n 2, 1) := by decide +kernel
theorem d_SP_element_11 : decode b_SP_element 11 = .ok (.bipush 20, 2) := by decide +kernel
theorem d_SP_element_13 : decode b_SP_element 13 = .ok (.if_icmp .lt 13, 3) := by decide +kernel
theorem d_SP_element_16 : decode b_SP_element 16 = .ok (.iload_n 2, 1) := by decide +kernel
theorem d_SP_element_17 : decode b_SP_element 17 = .ok (.bipush 41, 2) := by decide +kernel
theorem d_SP_element_19 : decode b_SP_element 19 = .ok (.if_icmp .gt 7, 3) := by decide +kernel
theorem d_SP_element_22 : decode b_SP_element 22 = .ok (.iconst 1, 1) := by decide +kernel
theorem d_SP_element_23 : decode b_SP_element 23 = .ok (.goto 4, 3) := by decide +kernel
theorem d_SP_element_26 : decode b_SP_element 26 = .ok (.iconst 0, 1) := by decide +kernel
theorem d_SP_element_27 : decode b_SP_element 27 = .ok (.istore_n 3, 1) := by decide +kernel
theorem d_SP_element_28 : decode b_SP_element 28 = .ok (.iload_n 3, 1) := by decide +kernel
theorem d_SP_element_29 : decode b_SP_element 29 = .ok (.ifCond .eq 25, 3) := by decide +kernel
theorem d_SP_element_32 : decode b_SP_element 32 = .ok (.iload_n 1, 1) := by decide +kernel
theorem d_SP_element_33 : decode b_SP_element 33 = .ok (.ifCond .lt 21, 3) := by decide +kernel
theorem d_SP_element_36 : decode b_SP_element 36 = .ok (.aload_n 0, 1) := by decide +kernel
theorem d_SP_element_37 : decode b_SP_element 37 = .ok (.getfield 135, 3) := by decide +kernel
theorem d_SP_element_40 : decode b_SP_element 40 = .ok (.ifnull 22, 3) := by decide +kernel
theorem d_SP_element_54 : decode b_SP_element 54 = .ok (.new iN_IAE, 3) := by decide +kernel
theorem d_SP_element_57 : decode b_SP_element 57 = .ok (.dup, 1) := by decide +kernel
theorem d_SP_element_58 : decode b_SP_element 58 = .ok (.invokespecial ic_IAE, 3) := by decide +kernel
theorem d_SP_element_61 : decode b_SP_element 61 = .ok (.athrow, 1) := by decide +kernel
theorem d_SP_element_62 : decode b_SP_element 62 = .ok (.aload_n 0, 1) := by decide +kernel
theorem d_SP_element_63 : decode b_SP_element 63 = .ok (.getfield 135, 3) := by decide +kernel
theorem d_SP_element_66 : decode b_SP_element 66 = .ok (.ifnonnull 11, 3) := by decide +kernel
theorem d_SP_element_69 : decode b_SP_element 69 = .ok (.new iN_ISE, 3) := by decide +kernel
theorem d_SP_element_72 : decode b_SP_element 72 = .ok (.dup, 1) := by decide +kernel
theorem d_SP_element_73 : decode b_SP_element 73 = .ok (.invokespecial ic_ISE, 3) := by decide +kernel
theorem d_SP_element_76 : decode b_SP_element 76 = .ok (.athrow, 1) := by decide +kernel
theorem d_SP_end_0 : decode b_SP_end 0 = .ok (.iload_n 1, 1) := by decide +kernel
theorem d_SP_end_1 : decode b_SP_end 1 = .ok (.ifCond .lt 11, 3) := by decide +kernel
theorem d_SP_end_4 : decode b_SP_end 4 = .ok (.iload_n 1, 1) := by decide +kernel
theorem d_SP_end_5 : decode b_SP_end 5 = .ok (.aload_n 0, 1) := by decide +kernel
theorem d_SP_end_6 : decode b_SP_end 6 = .ok (.getfield 45, 3) := by decide +kernel
theorem d_SP_end_9 : decode b_SP_end 9 = .ok (.if_icmp .le 11, 3) := by decide +kernel
theorem d_SP_end_12 : decode b_SP_end 12 = .ok (.new iN_IAE, 3) := by decide +kernel
theorem d_SP_end_15 : decode b_SP_end 15 = .ok (.dup, 1) := by decide +kernel
theorem d_SP_end_16 : decode b_SP_end 16 = .ok (.invokespecial ic_IAE, 3) := by decide +kernel
theorem d_SP_end_19 : decode b_SP_end 19 = .ok (.athrow, 1) := by decide +kernel
theorem d_SP_end_20 : decode b_SP_end 20 = .ok (.aload_n 0, 1) := by decide +kernel
theorem d_SP_end_21 : decode b_SP_end 21 = .ok (.iload_n 1, 1) := by decide +kernel
theorem d_SP_end_22 : decode b_SP_end 22 = .ok (.putfield 45, 3) := by decide +kernel
theorem d_SP_end_25 : decode b_SP_end 25 = .ok (.iload_n 1, 1) := by decide +kernel
theorem d_SP_end_26 : decode b_SP_end 26 = .ok (.ireturn, 1) := by decide +kernel
theorem d_SP_feedInt_0 : decode b_SP_feedInt 0 = .ok (.bipush 24, 2) := by decide +kernel
theorem d_SP_feedInt_2 : decode b_SP_feedInt 2 = .ok (.istore_n 2, 1) := by decide +kernel
theorem d_SP_feedInt_3 : decode b_SP_feedInt 3 = .ok (.iload_n 2, 1) := by decide +kernel
theorem d_SP_feedInt_4 : decode b_SP_feedInt 4 = .ok (.ifCond .lt 32, 3) := by decide +kernel
theorem d_SP_feedInt_7 : decode b_SP_feedInt 7 = .ok (.aload_n 0, 1) := by decide +kernel
theorem d_SP_feedInt_8 : decode b_SP_feedInt 8 = .ok (.getfield 9, 3) := by decide +kernel
theorem d_SP_feedInt_11 : decode b_SP_feedInt 11 = .ok (.aload_n 0, 1) := by decide +kernel
theorem d_SP_feedInt_12 : decode b_SP_feedInt 12 = .ok (.getfield 45, 3) := by decide +kernel
theorem d_SP_feedInt_15 : decode b_SP_feedInt 15 = .ok (.iload_n 1, 1) := by decide +kernel
theorem d_SP_feedInt_16 : decode b_SP_feedInt 16 = .ok (.iload_n 2, 1) := by decide +kernel
theorem d_SP_feedInt_17 : decode b_SP_feedInt 17 = .ok (.ishr, 1) := by decide +kernel
theorem d_SP_feedInt_18 : decode b_SP_feedInt 18 = .ok (.i2b, 1) := by decide +kernel
theorem d_SP_feedInt_19 : decode b_SP_feedInt 19 = .ok (.bastore, 1) := by decide +kernel
theorem d_SP_feedInt_20 : decode b_SP_feedInt 20 = .ok (.aload_n 0, 1) := by decide +kernel
theorem d_SP_feedInt_21 : decode b_SP_feedInt 21 = .ok (.dup, 1) := by decide +kernel
theorem d_SP_feedInt_22 : decode b_SP_feedInt 22 = .ok (.getfield 45, 3) := by decide +kernel
theorem d_SP_feedInt_25 : decode b_SP_feedInt 25 = .ok (.iconst 1, 1) := by decide +kernel
theorem d_SP_feedInt_26 : decode b_SP_feedInt 26 = .ok (.iadd, 1) := by decide +kernel
theorem d_SP_feedInt_27 : decode b_SP_feedInt 27 = .ok (.putfield 45, 3) := by decide +kernel
theorem d_SP_feedInt_30 : decode b_SP_feedInt 30 = .ok (.iinc 2 (-8), 3) := by decide +kernel
theorem d_SP_feedInt_33 : decode b_SP_feedInt 33 = .ok (.goto (-30), 3) := by decide +kernel
theorem d_SP_feedInt_36 : decode b_SP_feedInt 36 = .ok (.return_, 1) := by decide +kernel
theorem d_SP_judge_0 : decode b_SP_judge 0 = .ok (.aload_n 0, 1) := by decide +kernel
theorem d_SP_judge_1 : decode b_SP_judge 1 = .ok (.getfield 172, 3) := by decide +kernel
theorem d_SP_judge_4 : decode b_SP_judge 4 = .ok (.ifnonnull 11, 3) := by decide +kernel
theorem d_SP_judge_7 : decode b_SP_judge 7 = .ok (.new iN_ISE, 3) := by decide +kernel
theorem d_SP_judge_10 : decode b_SP_judge 10 = .ok (.dup, 1) := by decide +kernel
theorem d_SP_judge_11 : decode b_SP_judge 11 = .ok (.invokespecial ic_ISE, 3) := by decide +kernel
theorem d_SP_judge_14 : decode b_SP_judge 14 = .ok (.athrow, 1) := by decide +kernel
theorem d_SP_line_0 : decode b_SP_line 0 = .ok (.iload_n 2, 1) := by decide +kernel
theorem d_SP_line_1 : decode b_SP_line 1 = .ok (.ifCond .lt 9, 3) := by decide +kernel
theorem d_SP_line_4 : decode b_SP_line 4 = .ok (.iload_n 2, 1) := by decide +kernel
theorem d_SP_line_5 : decode b_SP_line 5 = .ok (.bipush 6, 2) := by decide +kernel
theorem d_SP_line_7 : decode b_SP_line 7 = .ok (.if_icmp .le 11, 3) := by decide +kernel
theorem d_SP_line_10 : decode b_SP_line 10 = .ok (.new iN_IAE, 3) := by decide +kernel
theorem d_SP_line_13 : decode b_SP_line 13 = .ok (.dup, 1) := by decide +kernel
theorem d_SP_line_14 : decode b_SP_line 14 = .ok (.invokespecial ic_IAE, 3) := by decide +kernel
theorem d_SP_line_17 : decode b_SP_line 17 = .ok (.athrow, 1) := by decide +kernel
theorem d_SP_line_18 : decode b_SP_line 18 = .ok (.aload_n 0, 1) := by decide +kernel
theorem d_SP_line_19 : decode b_SP_line 19 = .ok (.getfield 172, 3) := by decide +kernel
theorem d_SP_line_22 : decode b_SP_line 22 = .ok (.ifnonnull 11, 3) := by decide +kernel
theorem d_SP_line_25 : decode b_SP_line 25 = .ok (.new iN_ISE, 3) := by decide +kernel
theorem d_SP_line_28 : decode b_SP_line 28 = .ok (.dup, 1) := by decide +kernel
theorem d_SP_line_29 : decode b_SP_line 29 = .ok (.invokespecial ic_ISE, 3) := by decide +kernel
theorem d_SP_line_32 : decode b_SP_line 32 = .ok (.athrow, 1) := by decide +kernel
theorem d_SP_note_0 : decode b_SP_note 0 = .ok (.iload_n 2, 1) := by decide +kernel
theorem d_SP_note_1 : decode b_SP_note 1 = .ok (.ifCond .lt 12, 3) := by decide +kernel
theorem d_SP_note_4 : decode b_SP_note 4 = .ok (.iload_n 2, 1) := by decide +kernel
theorem d_SP_note_5 : decode b_SP_note 5 = .ok (.iconst 5, 1) := by decide +kernel
theorem d_SP_note_6 : decode b_SP_note 6 = .ok (.if_icmp .gt 7, 3) := by decide +kernel
theorem d_SP_note_9 : decode b_SP_note 9 = .ok (.iconst 1, 1) := by decide +kernel
theorem d_SP_note_10 : decode b_SP_note 10 = .ok (.goto 4, 3) := by decide +kernel
theorem d_SP_note_13 : decode b_SP_note 13 = .ok (.iconst 0, 1) := by decide +kernel
theorem d_SP_note_14 : decode b_SP_note 14 = .ok (.istore_n 3, 1) := by decide +kernel
theorem d_SP_note_15 : decode b_SP_note 15 = .ok (.iload_n 3, 1) := by decide +kernel
theorem d_SP_note_16 : decode b_SP_note 16 = .ok (.ifCond .ne 23, 3) := by decide +kernel
theorem d_SP_note_19 : decode b_SP_note 19 = .ok (.iload_n 2, 1) := by decide +kernel
theorem d_SP_note_20 : decode b_SP_note 20 = .ok (.bipush 10, 2) := by decide +kernel
theorem d_SP_note_22 : decode b_SP_note 22 = .ok (.if_icmp .lt 9, 3) := by decide +kernel
theorem d_SP_note_25 : decode b_SP_note 25 = .ok (.iload_n 2, 1) := by decide +kernel
theorem d_SP_note_26 : decode b_SP_note 26 = .ok (.bipush 13, 2) := by decide +kernel
theorem d_SP_note_28 : decode b_SP_note 28 = .ok (.if_icmp .le 11, 3) := by decide +kernel
theorem d_SP_note_31 : decode b_SP_note 31 = .ok (.new iN_IAE, 3) := by decide +kernel
theorem d_SP_note_34 : decode b_SP_note 34 = .ok (.dup, 1) := by decide +kernel
theorem d_SP_note_35 : decode b_SP_note 35 = .ok (.invokespecial ic_IAE, 3) := by decide +kernel
theorem d_SP_note_38 : decode b_SP_note 38 = .ok (.athrow, 1) := by decide +kernel
theorem d_SP_note_39 : decode b_SP_note 39 = .ok (.aload_n 0, 1) := by decide +kernel
theorem d_SP_note_40 : decode b_SP_note 40 = .ok (.getfield 172, 3) := by decide +kernel
theorem d_SP_note_43 : decode b_SP_note 43 = .ok (.ifnonnull 11, 3) := by decide +kernel
theorem d_SP_note_46 : decode b_SP_note 46 = .ok (.new iN_ISE, 3) := by decide +kernel
theorem d_SP_note_49 : decode b_SP_note 49 = .ok (.dup, 1) := by decide +kernel
theorem d_SP_note_50 : decode b_SP_note 50 = .ok (.invokespecial ic_ISE, 3) := by decide +kernel
theorem d_SP_note_53 : decode b_SP_note 53 = .ok (.athrow, 1) := by decide +kernel
theorem d_SP_paragraph_0 : decode b_SP_paragraph 0 = .ok (.iload_n 2, 1) := by decide +kernel
theorem d_SP_paragraph_1 : decode b_SP_paragraph 1 = .ok (.ifCond .lt 9, 3) := by decide +kernel
theorem d_SP_paragraph_4 : decode b_SP_paragraph 4 = .ok (.iload_n 2, 1) := by decide +kernel
theorem d_SP_paragraph_5 : decode b_SP_paragraph 5 = .ok (.bipush 6, 2) := by decide +kernel
theorem d_SP_paragraph_7 : decode b_SP_paragraph 7 = .ok (.if_icmp .le 11, 3) := by decide +kernel
theorem d_SP_paragraph_10 : decode b_SP_paragraph 10 = .ok (.new iN_IAE, 3) := by decide +kernel
theorem d_SP_paragraph_13 : decode b_SP_paragraph 13 = .ok (.dup, 1) := by decide +kernel
theorem d_SP_paragraph_14 : decode b_SP_paragraph 14 = .ok (.invokespecial ic_IAE, 3) := by decide +kernel
theorem d_SP_paragraph_17 : decode b_SP_paragraph 17 = .ok (.athrow, 1) := by decide +kernel
theorem d_SP_paragraph_18 : decode b_SP_paragraph 18 = .ok (.aload_n 0, 1) := by decide +kernel
theorem d_SP_paragraph_19 : decode b_SP_paragraph 19 = .ok (.getfield 172, 3) := by decide +kernel
theorem d_SP_paragraph_22 : decode b_SP_paragraph 22 = .ok (.ifnonnull 11, 3) := by decide +kernel
theorem d_SP_paragraph_25 : decode b_SP_paragraph 25 = .ok (.new iN_ISE, 3) := by decide +kernel
theorem d_SP_paragraph_28 : decode b_SP_paragraph 28 = .ok (.dup, 1) := by decide +kernel
theorem d_SP_paragraph_29 : decode b_SP_paragraph 29 = .ok (.invokespecial ic_ISE, 3) := by decide +kernel
theorem d_SP_paragraph_32 : decode b_SP_paragraph 32 = .ok (.athrow, 1) := by decide +kernel
theorem d_SP_place_0 : decode b_SP_place 0 = .ok (.aload_n 0, 1) := by decide +kernel
theorem d_SP_place_1 : decode b_SP_place 1 = .ok (.getfield 13, 3) := by decide +kernel
theorem d_SP_place_4 : decode b_SP_place 4 = .ok (.ireturn, 1) := by decide +kernel
theorem d_SP_print_0 : decode b_SP_print 0 = .ok (.aload_n 0, 1) := by decide +kernel
theorem d_SP_print_1 : decode b_SP_print 1 = .ok (.getfield 172, 3) := by decide +kernel
theorem d_SP_print_4 : decode b_SP_print 4 = .ok (.ifnonnull 11, 3) := by decide +kernel
theorem d_SP_print_7 : decode b_SP_print 7 = .ok (.new iN_ISE, 3) := by decide +kernel
theorem d_SP_print_10 : decode b_SP_print 10 = .ok (.dup, 1) := by decide +kernel
theorem d_SP_print_11 : decode b_SP_print 11 = .ok (.invokespecial ic_ISE, 3) := by decide +kernel
theorem d_SP_print_14 : decode b_SP_print 14 = .ok (.athrow, 1) := by decide +kernel
theorem d_SP_set_0 : decode b_SP_set 0 = .ok (.iload_n 1, 1) := by decide +kernel
theorem d_SP_set_1 : decode b_SP_set 1 = .ok (.iconst 1, 1) := by decide +kernel
theorem d_SP_set_2 : decode b_SP_set 2 = .ok (.if_icmp .lt 9, 3) := by decide +kernel
theorem d_SP_set_5 : decode b_SP_set 5 = .ok (.iload_n 1, 1) := by decide +kernel
theorem d_SP_set_6 : decode b_SP_set 6 = .ok (.bipush 9, 2) := by decide +kernel
theorem d_SP_set_8 : decode b_SP_set 8 = .ok (.if_icmp .le 11, 3) := by decide +kernel
theorem d_SP_set_11 : decode b_SP_set 11 = .ok (.new iN_IAE, 3) := by decide +kernel
theorem d_SP_set_14 : decode b_SP_set 14 = .ok (.dup, 1) := by decide +kernel
theorem d_SP_set_15 : decode b_SP_set 15 = .ok (.invokespecial ic_IAE, 3) := by decide +kernel
theorem d_SP_set_18 : decode b_SP_set 18 = .ok (.athrow, 1) := by decide +kernel
theorem d_SP_set_19 : decode b_SP_set 19 = .ok (.aload_n 0, 1) := by decide +kernel
theorem d_SP_set_20 : decode b_SP_set 20 = .ok (.getfield 135, 3) := by decide +kernel
theorem d_SP_set_23 : decode b_SP_set 23 = .ok (.ifnonnull 11, 3) := by decide +kernel
theorem d_SP_set_26 : decode b_SP_set 26 = .ok (.new iN_ISE, 3) := by decide +kernel
theorem d_SP_set_29 : decode b_SP_set 29 = .ok (.dup, 1) := by decide +kernel
theorem d_SP_set_30 : decode b_SP_set 30 = .ok (.invokespecial ic_ISE, 3) := by decide +kernel
theorem d_SP_set_33 : decode b_SP_set 33 = .ok (.athrow, 1) := by decide +kernel
theorem d_SP_spot_0 : decode b_SP_spot 0 = .ok (.aload_n 0, 1) := by decide +kernel
theorem d_SP_spot_1 : decode b_SP_spot 1 = .ok (.getfield 172, 3) := by decide +kernel
theorem d_SP_spot_4 : decode b_SP_spot 4 = .ok (.ifnonnull 11, 3) := by decide +kernel
theorem d_SP_spot_7 : decode b_SP_spot 7 = .ok (.new iN_ISE, 3) := by decide +kernel
theorem d_SP_spot_10 : decode b_SP_spot 10 = .ok (.dup, 1) := by decide +kernel
theorem d_SP_spot_11 : decode b_SP_spot 11 = .ok (.invokespecial ic_ISE, 3) := by decide +kernel
theorem d_SP_spot_14 : decode b_SP_spot 14 = .ok (.athrow, 1) := by decide +kernel
theorem d_SP_wavering_0 : decode b_SP_wavering 0 = .ok (.aload_n 0, 1) := by decide +kernel
theorem d_SP_wavering_1 : decode b_SP_wavering 1 = .ok (.getfield 172, 3) := by decide +kernel
theorem d_SP_wavering_4 : decode b_SP_wavering 4 = .ok (.ifnonnull 11, 3) := by decide +kernel
theorem d_SP_wavering_7 : decode b_SP_wavering 7 = .ok (.new iN_ISE, 3) := by decide +kernel
theorem d_SP_wavering_10 : decode b_SP_wavering 10 = .ok (.dup, 1) := by decide +kernel
theorem d_SP_wavering_11 : decode b_SP_wavering 11 = .ok (.invokespecial ic_ISE, 3) := by decide +kernel
theorem d_SP_wavering_14 : decode b_SP_wavering 14 = .ok (.athrow, 1) := by decide +kernel
theorem d_SP_where_0 : decode b_SP_where 0 = .ok (.iload_n 1, 1) := by decide +kernel
theorem d_SP_where_1 : decode b_SP_where 1 = .ok (.ifCond .lt 8, 3) := by decide +kernel
theorem d_SP_where_4 : decode b_SP_where 4 = .ok (.iload_n 1, 1) := by decide +kernel
theorem d_SP_where_5 : decode b_SP_where 5 = .ok (.iconst 5, 1) := by decide +kernel
theorem d_SP_where_6 : decode b_SP_where 6 = .ok (.if_icmp .le 11, 3) := by decide +kernel
theorem d_SP_where_9 : decode b_SP_where 9 = .ok (.new iN_IAE, 3) := by decide +kernel
theorem d_SP_where_12 : decode b_SP_where 12 = .ok (.dup, 1) := by decide +kernel
theorem d_SP_where_13 : decode b_SP_where 13 = .ok (.invokespecial ic_IAE, 3) := by decide +kernel
theorem d_SP_where_16 : decode b_SP_where 16 = .ok (.athrow, 1) := by decide +kernel
theorem d_SP_where_17 : decode b_SP_where 17 = .ok (.aload_n 0, 1) := by decide +kernel
theorem d_SP_where_18 : decode b_SP_where 18 = .ok (.getfield 172, 3) := by decide +kernel
theorem d_SP_where_21 : decode b_SP_where 21 = .ok (.ifnonnull 11, 3) := by decide +kernel
theorem d_SP_where_24 : decode b_SP_where 24 = .ok (.new iN_ISE, 3) := by decide +kernel
theorem d_SP_where_27 : decode b_SP_where 27 = .ok (.dup, 1) := by decide +kernel
theorem d_SP_where_28 : decode b_SP_where 28 = .ok (.invokespecial ic_ISE, 3) := by decide +kernel
theorem d_SP_where_31 : decode b_SP_where 31 = .ok (.athrow, 1) := by decide +kernel
theorem d_SP_word_0 : decode b_SP_word 0 = .ok (.iload_n 1, 1) := by decide +kernel
theorem d_SP_word_1 : decode b_SP_word 1 = .ok (.ifCond .lt 11, 3) := by decide +kernel
theorem d_SP_word_4 : decode b_SP_word 4 = .ok (.iload_n 1, 1) := by decide +kernel
theorem d_SP_word_5 : decode b_SP_word 5 = .ok (.aload_n 0, 1) := by decide +kernel
theorem d_SP_word_6 : decode b_SP_word 6 = .ok (.getfield 293, 3) := by decide +kernel
theorem d_SP_word_9 : decode b_SP_word 9 = .ok (.if_icmp .lt 11, 3) := by decide +kernel
theorem d_SP_word_12 : decode b_SP_word 12 = .ok (.new iN_IOB, 3) := by decide +kernel
theorem d_SP_word_15 : decode b_SP_word 15 = .ok (.dup, 1) := by decide +kernel
theorem d_SP_word_16 : decode b_SP_word 16 = .ok (.invokespecial ic_IOB, 3) := by decide +kernel
theorem d_SP_word_19 : decode b_SP_word 19 = .ok (.athrow, 1) := by decide +kernel
