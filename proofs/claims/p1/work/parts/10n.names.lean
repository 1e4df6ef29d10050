abbrev b_LW_count : ByteArray := method_12_code
abbrev y_LW_count : MethodName := ⟨"ScholarsPressLaw", "count", "(LScholarsPress;I[J)I"⟩
abbrev w_LW_count : Cond := .codeWith y_LW_count b_LW_count 4 (some .int) [(0, 9, 12, 19)]
theorem kw_LW_count : w_LW_count ∈ tt := tt_mem 2509 (by decide +kernel) (by decide +kernel)
abbrev b_LW_set : ByteArray := method_10_code
abbrev y_LW_set : MethodName := ⟨"ScholarsPressLaw", "set", "(LScholarsPress;I[J)I"⟩
abbrev w_LW_set : Cond := .codeWith y_LW_set b_LW_set 4 (some .int) [(0, 9, 12, 19), (0, 9, 15, 40), (0, 9, 18, 13), (0, 9, 21, 45)]
theorem kw_LW_set : w_LW_set ∈ tt := tt_mem 1409 (by decide +kernel) (by decide +kernel)
abbrev b_LW_element : ByteArray := method_11_code
abbrev y_LW_element : MethodName := ⟨"ScholarsPressLaw", "element", "(LScholarsPress;II[J)I"⟩
abbrev w_LW_element : Cond := .codeWith y_LW_element b_LW_element 5 (some .int) [(0, 10, 13, 19), (0, 10, 17, 40)]
theorem kw_LW_element : w_LW_element ∈ tt := tt_mem 2496 (by decide +kernel) (by decide +kernel)
abbrev b_LW_line : ByteArray := method_13_code
abbrev y_LW_line : MethodName := ⟨"ScholarsPressLaw", "line", "(LScholarsPress;II[J)I"⟩
abbrev w_LW_line : Cond := .codeWith y_LW_line b_LW_line 5 (some .int) [(0, 10, 13, 19), (0, 10, 17, 40), (0, 10, 21, 13)]
theorem kw_LW_line : w_LW_line ∈ tt := tt_mem 2524 (by decide +kernel) (by decide +kernel)
abbrev b_LW_spot : ByteArray := method_14_code
abbrev y_LW_spot : MethodName := ⟨"ScholarsPressLaw", "spot", "(LScholarsPress;II[J)I"⟩
abbrev w_LW_spot : Cond := .codeWith y_LW_spot b_LW_spot 5 (some .int) [(0, 9, 12, 40), (0, 9, 16, 13)]
theorem kw_LW_spot : w_LW_spot ∈ tt := tt_mem 2549 (by decide +kernel) (by decide +kernel)
abbrev b_LW_paragraph : ByteArray := method_15_code
abbrev y_LW_paragraph : MethodName := ⟨"ScholarsPressLaw", "paragraph", "(LScholarsPress;II[J)I"⟩
abbrev w_LW_paragraph : Cond := .codeWith y_LW_paragraph b_LW_paragraph 5 (some .int) [(0, 9, 12, 19), (0, 9, 16, 40), (0, 9, 20, 13)]
theorem kw_LW_paragraph : w_LW_paragraph ∈ tt := tt_mem 2568 (by decide +kernel) (by decide +kernel)
abbrev b_LW_judge : ByteArray := method_16_code
abbrev y_LW_judge : MethodName := ⟨"ScholarsPressLaw", "judge", "(LScholarsPress;I[J)I"⟩
abbrev w_LW_judge : Cond := .codeWith y_LW_judge b_LW_judge 4 (some .int) [(0, 8, 11, 40), (0, 8, 14, 13), (0, 8, 17, 25)]
theorem kw_LW_judge : w_LW_judge ∈ tt := tt_mem 2576 (by decide +kernel) (by decide +kernel)
abbrev b_LW_where : ByteArray := method_17_code
abbrev y_LW_where : MethodName := ⟨"ScholarsPressLaw", "where", "(LScholarsPress;I[J)I"⟩
abbrev w_LW_where : Cond := .codeWith y_LW_where b_LW_where 4 (some .int) [(0, 9, 12, 19), (0, 9, 15, 40), (0, 9, 18, 70)]
theorem kw_LW_where : w_LW_where ∈ tt := tt_mem 2593 (by decide +kernel) (by decide +kernel)
abbrev b_LW_note : ByteArray := method_18_code
abbrev y_LW_note : MethodName := ⟨"ScholarsPressLaw", "note", "(LScholarsPress;II[J)I"⟩
abbrev w_LW_note : Cond := .codeWith y_LW_note b_LW_note 5 (some .int) [(0, 10, 13, 19), (0, 10, 17, 40), (0, 10, 21, 13)]
theorem kw_LW_note : w_LW_note ∈ tt := tt_mem 2625 (by decide +kernel) (by decide +kernel)
abbrev b_LW_wavering : ByteArray := method_19_code
abbrev y_LW_wavering : MethodName := ⟨"ScholarsPressLaw", "wavering", "(LScholarsPress;I[J)I"⟩
abbrev w_LW_wavering : Cond := .codeWith y_LW_wavering b_LW_wavering 4 (some .int) [(0, 9, 12, 40), (0, 9, 15, 13)]
theorem kw_LW_wavering : w_LW_wavering ∈ tt := tt_mem 2650 (by decide +kernel) (by decide +kernel)
abbrev b_LW_print : ByteArray := method_20_code
abbrev y_LW_print : MethodName := ⟨"ScholarsPressLaw", "print", "(LScholarsPress;I[J)I"⟩
abbrev w_LW_print : Cond := .codeWith y_LW_print b_LW_print 4 (some .int) [(0, 9, 12, 40), (0, 9, 15, 13)]
theorem kw_LW_print : w_LW_print ∈ tt := tt_mem 2657 (by decide +kernel) (by decide +kernel)
abbrev b_LW_word : ByteArray := method_21_code
abbrev y_LW_word : MethodName := ⟨"ScholarsPressLaw", "word", "(LScholarsPress;I[J)I"⟩
abbrev w_LW_word : Cond := .codeWith y_LW_word b_LW_word 4 (some .int) [(0, 8, 11, 13)]
theorem kw_LW_word : w_LW_word ∈ tt := tt_mem 2694 (by decide +kernel) (by decide +kernel)
abbrev b_LW_change : ByteArray := method_9_code
abbrev y_LW_change : MethodName := ⟨"ScholarsPressLaw", "change", "(LScholarsPress;II[J)I"⟩
abbrev w_LW_change : Cond := .codeWith y_LW_change b_LW_change 5 (some .int) [(0, 10, 13, 19), (0, 10, 17, 40), (0, 10, 21, 13), (0, 10, 25, 25)]
theorem kw_LW_change : w_LW_change ∈ tt := tt_mem 1386 (by decide +kernel) (by decide +kernel)
abbrev b_LW_end : ByteArray := method_4_code
abbrev y_LW_end : MethodName := ⟨"ScholarsPressLaw", "end", "(LScholarsPress;I[J)I"⟩
abbrev w_LW_end : Cond := .codeWith y_LW_end b_LW_end 4 (some .int) [(0, 9, 12, 19)]
theorem kw_LW_end : w_LW_end ∈ tt := tt_mem 652 (by decide +kernel) (by decide +kernel)
theorem k_240 : Cond.initialized "ScholarsPress" ∈ tt := tt_mem 240 (by decide +kernel) (by decide +kernel)
theorem k_571 : Cond.classLink "ScholarsPressLaw" 13 "java/lang/IndexOutOfBoundsException" ∈ tt := tt_mem 571 (by decide +kernel) (by decide +kernel)
theorem k_653 : Cond.classLink "ScholarsPressLaw" 19 "java/lang/IllegalArgumentException" ∈ tt := tt_mem 653 (by decide +kernel) (by decide +kernel)
theorem k_654 : Cond.methodLink "ScholarsPressLaw" 15 ⟨"ScholarsPress", "end", "(I)I"⟩ ∈ tt := tt_mem 654 (by decide +kernel) (by decide +kernel)
theorem k_655 : Cond.instanceMethod ⟨"ScholarsPress", "end", "(I)I"⟩ ∈ tt := tt_mem 655 (by decide +kernel) (by decide +kernel)
theorem k_656 : Cond.selects "ScholarsPress" ⟨"ScholarsPress", "end", "(I)I"⟩ ⟨"ScholarsPress", "end", "(I)I"⟩ ∈ tt := tt_mem 656 (by decide +kernel) (by decide +kernel)
theorem k_1387 : Cond.classLink "ScholarsPressLaw" 40 "java/lang/IllegalStateException" ∈ tt := tt_mem 1387 (by decide +kernel) (by decide +kernel)
theorem k_1388 : Cond.methodLink "ScholarsPressLaw" 36 ⟨"ScholarsPress", "change", "(II)I"⟩ ∈ tt := tt_mem 1388 (by decide +kernel) (by decide +kernel)
theorem k_1389 : Cond.instanceMethod ⟨"ScholarsPress", "change", "(II)I"⟩ ∈ tt := tt_mem 1389 (by decide +kernel) (by decide +kernel)
theorem k_1390 : Cond.selects "ScholarsPress" ⟨"ScholarsPress", "change", "(II)I"⟩ ⟨"ScholarsPress", "change", "(II)I"⟩ ∈ tt := tt_mem 1390 (by decide +kernel) (by decide +kernel)
theorem k_1411 : Cond.methodLink "ScholarsPressLaw" 42 ⟨"ScholarsPress", "set", "(I)I"⟩ ∈ tt := tt_mem 1411 (by decide +kernel) (by decide +kernel)
theorem k_1412 : Cond.instanceMethod ⟨"ScholarsPress", "set", "(I)I"⟩ ∈ tt := tt_mem 1412 (by decide +kernel) (by decide +kernel)
theorem k_1413 : Cond.selects "ScholarsPress" ⟨"ScholarsPress", "set", "(I)I"⟩ ⟨"ScholarsPress", "set", "(I)I"⟩ ∈ tt := tt_mem 1413 (by decide +kernel) (by decide +kernel)
theorem k_2497 : Cond.methodLink "ScholarsPressLaw" 47 ⟨"ScholarsPress", "element", "(II)I"⟩ ∈ tt := tt_mem 2497 (by decide +kernel) (by decide +kernel)
theorem k_2498 : Cond.instanceMethod ⟨"ScholarsPress", "element", "(II)I"⟩ ∈ tt := tt_mem 2498 (by decide +kernel) (by decide +kernel)
theorem k_2499 : Cond.selects "ScholarsPress" ⟨"ScholarsPress", "element", "(II)I"⟩ ⟨"ScholarsPress", "element", "(II)I"⟩ ∈ tt := tt_mem 2499 (by decide +kernel) (by decide +kernel)
theorem k_2510 : Cond.methodLink "ScholarsPressLaw" 50 ⟨"ScholarsPress", "count", "(I)I"⟩ ∈ tt := tt_mem 2510 (by decide +kernel) (by decide +kernel)
theorem k_2511 : Cond.instanceMethod ⟨"ScholarsPress", "count", "(I)I"⟩ ∈ tt := tt_mem 2511 (by decide +kernel) (by decide +kernel)
theorem k_2512 : Cond.selects "ScholarsPress" ⟨"ScholarsPress", "count", "(I)I"⟩ ⟨"ScholarsPress", "count", "(I)I"⟩ ∈ tt := tt_mem 2512 (by decide +kernel) (by decide +kernel)
theorem k_2525 : Cond.methodLink "ScholarsPressLaw" 53 ⟨"ScholarsPress", "line", "(II)I"⟩ ∈ tt := tt_mem 2525 (by decide +kernel) (by decide +kernel)
theorem k_2526 : Cond.instanceMethod ⟨"ScholarsPress", "line", "(II)I"⟩ ∈ tt := tt_mem 2526 (by decide +kernel) (by decide +kernel)
theorem k_2527 : Cond.selects "ScholarsPress" ⟨"ScholarsPress", "line", "(II)I"⟩ ⟨"ScholarsPress", "line", "(II)I"⟩ ∈ tt := tt_mem 2527 (by decide +kernel) (by decide +kernel)
theorem k_2550 : Cond.methodLink "ScholarsPressLaw" 56 ⟨"ScholarsPress", "spot", "(II)J"⟩ ∈ tt := tt_mem 2550 (by decide +kernel) (by decide +kernel)
theorem k_2551 : Cond.instanceMethod ⟨"ScholarsPress", "spot", "(II)J"⟩ ∈ tt := tt_mem 2551 (by decide +kernel) (by decide +kernel)
theorem k_2552 : Cond.selects "ScholarsPress" ⟨"ScholarsPress", "spot", "(II)J"⟩ ⟨"ScholarsPress", "spot", "(II)J"⟩ ∈ tt := tt_mem 2552 (by decide +kernel) (by decide +kernel)
theorem k_2569 : Cond.methodLink "ScholarsPressLaw" 60 ⟨"ScholarsPress", "paragraph", "(II)J"⟩ ∈ tt := tt_mem 2569 (by decide +kernel) (by decide +kernel)
theorem k_2570 : Cond.instanceMethod ⟨"ScholarsPress", "paragraph", "(II)J"⟩ ∈ tt := tt_mem 2570 (by decide +kernel) (by decide +kernel)
theorem k_2571 : Cond.selects "ScholarsPress" ⟨"ScholarsPress", "paragraph", "(II)J"⟩ ⟨"ScholarsPress", "paragraph", "(II)J"⟩ ∈ tt := tt_mem 2571 (by decide +kernel) (by decide +kernel)
theorem k_2577 : Cond.methodLink "ScholarsPressLaw" 63 ⟨"ScholarsPress", "judge", "(I)J"⟩ ∈ tt := tt_mem 2577 (by decide +kernel) (by decide +kernel)
theorem k_2578 : Cond.instanceMethod ⟨"ScholarsPress", "judge", "(I)J"⟩ ∈ tt := tt_mem 2578 (by decide +kernel) (by decide +kernel)
theorem k_2579 : Cond.selects "ScholarsPress" ⟨"ScholarsPress", "judge", "(I)J"⟩ ⟨"ScholarsPress", "judge", "(I)J"⟩ ∈ tt := tt_mem 2579 (by decide +kernel) (by decide +kernel)
theorem k_2595 : Cond.methodLink "ScholarsPressLaw" 67 ⟨"ScholarsPress", "where", "(I)I"⟩ ∈ tt := tt_mem 2595 (by decide +kernel) (by decide +kernel)
theorem k_2596 : Cond.instanceMethod ⟨"ScholarsPress", "where", "(I)I"⟩ ∈ tt := tt_mem 2596 (by decide +kernel) (by decide +kernel)
theorem k_2597 : Cond.selects "ScholarsPress" ⟨"ScholarsPress", "where", "(I)I"⟩ ⟨"ScholarsPress", "where", "(I)I"⟩ ∈ tt := tt_mem 2597 (by decide +kernel) (by decide +kernel)
theorem k_2626 : Cond.methodLink "ScholarsPressLaw" 72 ⟨"ScholarsPress", "note", "(II)I"⟩ ∈ tt := tt_mem 2626 (by decide +kernel) (by decide +kernel)
theorem k_2627 : Cond.instanceMethod ⟨"ScholarsPress", "note", "(II)I"⟩ ∈ tt := tt_mem 2627 (by decide +kernel) (by decide +kernel)
theorem k_2628 : Cond.selects "ScholarsPress" ⟨"ScholarsPress", "note", "(II)I"⟩ ⟨"ScholarsPress", "note", "(II)I"⟩ ∈ tt := tt_mem 2628 (by decide +kernel) (by decide +kernel)
theorem k_2651 : Cond.methodLink "ScholarsPressLaw" 75 ⟨"ScholarsPress", "wavering", "(I)I"⟩ ∈ tt := tt_mem 2651 (by decide +kernel) (by decide +kernel)
theorem k_2652 : Cond.instanceMethod ⟨"ScholarsPress", "wavering", "(I)I"⟩ ∈ tt := tt_mem 2652 (by decide +kernel) (by decide +kernel)
theorem k_2653 : Cond.selects "ScholarsPress" ⟨"ScholarsPress", "wavering", "(I)I"⟩ ⟨"ScholarsPress", "wavering", "(I)I"⟩ ∈ tt := tt_mem 2653 (by decide +kernel) (by decide +kernel)
theorem k_2658 : Cond.methodLink "ScholarsPressLaw" 78 ⟨"ScholarsPress", "print", "(I)I"⟩ ∈ tt := tt_mem 2658 (by decide +kernel) (by decide +kernel)
theorem k_2659 : Cond.instanceMethod ⟨"ScholarsPress", "print", "(I)I"⟩ ∈ tt := tt_mem 2659 (by decide +kernel) (by decide +kernel)
theorem k_2660 : Cond.selects "ScholarsPress" ⟨"ScholarsPress", "print", "(I)I"⟩ ⟨"ScholarsPress", "print", "(I)I"⟩ ∈ tt := tt_mem 2660 (by decide +kernel) (by decide +kernel)
theorem k_2695 : Cond.methodLink "ScholarsPressLaw" 81 ⟨"ScholarsPress", "word", "(I)J"⟩ ∈ tt := tt_mem 2695 (by decide +kernel) (by decide +kernel)
theorem k_2696 : Cond.instanceMethod ⟨"ScholarsPress", "word", "(I)J"⟩ ∈ tt := tt_mem 2696 (by decide +kernel) (by decide +kernel)
theorem k_2697 : Cond.selects "ScholarsPress" ⟨"ScholarsPress", "word", "(I)J"⟩ ⟨"ScholarsPress", "word", "(I)J"⟩ ∈ tt := tt_mem 2697 (by decide +kernel) (by decide +kernel)
theorem d_LW_change_0 : decode b_LW_change 0 = .ok (.aload_n 3, 1) := by decide +kernel
theorem d_LW_change_1 : decode b_LW_change 1 = .ok (.iconst 0, 1) := by decide +kernel
theorem d_LW_change_2 : decode b_LW_change 2 = .ok (.aload_n 0, 1) := by decide +kernel
theorem d_LW_change_3 : decode b_LW_change 3 = .ok (.iload_n 1, 1) := by decide +kernel
theorem d_LW_change_4 : decode b_LW_change 4 = .ok (.iload_n 2, 1) := by decide +kernel
theorem d_LW_change_5 : decode b_LW_change 5 = .ok (.invokevirtual 36, 3) := by decide +kernel
theorem d_LW_change_13 : decode b_LW_change 13 = .ok (.astore 4, 2) := by decide +kernel
theorem d_LW_change_15 : decode b_LW_change 15 = .ok (.iconst 1, 1) := by decide +kernel
theorem d_LW_change_16 : decode b_LW_change 16 = .ok (.ireturn, 1) := by decide +kernel
theorem d_LW_change_17 : decode b_LW_change 17 = .ok (.astore 4, 2) := by decide +kernel
theorem d_LW_change_19 : decode b_LW_change 19 = .ok (.iconst 2, 1) := by decide +kernel
theorem d_LW_change_20 : decode b_LW_change 20 = .ok (.ireturn, 1) := by decide +kernel
theorem d_LW_count_0 : decode b_LW_count 0 = .ok (.aload_n 2, 1) := by decide +kernel
theorem d_LW_count_1 : decode b_LW_count 1 = .ok (.iconst 0, 1) := by decide +kernel
theorem d_LW_count_2 : decode b_LW_count 2 = .ok (.aload_n 0, 1) := by decide +kernel
theorem d_LW_count_3 : decode b_LW_count 3 = .ok (.iload_n 1, 1) := by decide +kernel
theorem d_LW_count_4 : decode b_LW_count 4 = .ok (.invokevirtual 50, 3) := by decide +kernel
theorem d_LW_count_7 : decode b_LW_count 7 = .ok (.i2l, 1) := by decide +kernel
theorem d_LW_count_8 : decode b_LW_count 8 = .ok (.lastore, 1) := by decide +kernel
theorem d_LW_count_9 : decode b_LW_count 9 = .ok (.goto 6, 3) := by decide +kernel
theorem d_LW_count_12 : decode b_LW_count 12 = .ok (.astore_n 3, 1) := by decide +kernel
theorem d_LW_count_13 : decode b_LW_count 13 = .ok (.iconst 1, 1) := by decide +kernel
theorem d_LW_count_14 : decode b_LW_count 14 = .ok (.ireturn, 1) := by decide +kernel
theorem d_LW_count_15 : decode b_LW_count 15 = .ok (.iconst 0, 1) := by decide +kernel
theorem d_LW_count_16 : decode b_LW_count 16 = .ok (.ireturn, 1) := by decide +kernel
theorem d_LW_element_0 : decode b_LW_element 0 = .ok (.aload_n 3, 1) := by decide +kernel
theorem d_LW_element_1 : decode b_LW_element 1 = .ok (.iconst 0, 1) := by decide +kernel
theorem d_LW_element_2 : decode b_LW_element 2 = .ok (.aload_n 0, 1) := by decide +kernel
theorem d_LW_element_3 : decode b_LW_element 3 = .ok (.iload_n 1, 1) := by decide +kernel
theorem d_LW_element_4 : decode b_LW_element 4 = .ok (.iload_n 2, 1) := by decide +kernel
theorem d_LW_element_5 : decode b_LW_element 5 = .ok (.invokevirtual 47, 3) := by decide +kernel
theorem d_LW_element_13 : decode b_LW_element 13 = .ok (.astore 4, 2) := by decide +kernel
theorem d_LW_element_15 : decode b_LW_element 15 = .ok (.iconst 1, 1) := by decide +kernel
theorem d_LW_element_16 : decode b_LW_element 16 = .ok (.ireturn, 1) := by decide +kernel
theorem d_LW_element_17 : decode b_LW_element 17 = .ok (.astore 4, 2) := by decide +kernel
theorem d_LW_element_19 : decode b_LW_element 19 = .ok (.iconst 2, 1) := by decide +kernel
theorem d_LW_element_20 : decode b_LW_element 20 = .ok (.ireturn, 1) := by decide +kernel
theorem d_LW_end_0 : decode b_LW_end 0 = .ok (.aload_n 2, 1) := by decide +kernel
theorem d_LW_end_1 : decode b_LW_end 1 = .ok (.iconst 0, 1) := by decide +kernel
theorem d_LW_end_2 : decode b_LW_end 2 = .ok (.aload_n 0, 1) := by decide +kernel
theorem d_LW_end_3 : decode b_LW_end 3 = .ok (.iload_n 1, 1) := by decide +kernel
theorem d_LW_end_4 : decode b_LW_end 4 = .ok (.invokevirtual 15, 3) := by decide +kernel
theorem d_LW_end_7 : decode b_LW_end 7 = .ok (.i2l, 1) := by decide +kernel
theorem d_LW_end_8 : decode b_LW_end 8 = .ok (.lastore, 1) := by decide +kernel
theorem d_LW_end_9 : decode b_LW_end 9 = .ok (.goto 6, 3) := by decide +kernel
theorem d_LW_end_12 : decode b_LW_end 12 = .ok (.astore_n 3, 1) := by decide +kernel
theorem d_LW_end_13 : decode b_LW_end 13 = .ok (.iconst 1, 1) := by decide +kernel
theorem d_LW_end_14 : decode b_LW_end 14 = .ok (.ireturn, 1) := by decide +kernel
theorem d_LW_end_15 : decode b_LW_end 15 = .ok (.iconst 0, 1) := by decide +kernel
theorem d_LW_end_16 : decode b_LW_end 16 = .ok (.ireturn, 1) := by decide +kernel
theorem d_LW_judge_0 : decode b_LW_judge 0 = .ok (.aload_n 2, 1) := by decide +kernel
theorem d_LW_judge_1 : decode b_LW_judge 1 = .ok (.iconst 0, 1) := by decide +kernel
theorem d_LW_judge_2 : decode b_LW_judge 2 = .ok (.aload_n 0, 1) := by decide +kernel
theorem d_LW_judge_3 : decode b_LW_judge 3 = .ok (.iload_n 1, 1) := by decide +kernel
theorem d_LW_judge_4 : decode b_LW_judge 4 = .ok (.invokevirtual 63, 3) := by decide +kernel
theorem d_LW_judge_11 : decode b_LW_judge 11 = .ok (.astore_n 3, 1) := by decide +kernel
theorem d_LW_judge_12 : decode b_LW_judge 12 = .ok (.iconst 1, 1) := by decide +kernel
theorem d_LW_judge_13 : decode b_LW_judge 13 = .ok (.ireturn, 1) := by decide +kernel
theorem d_LW_line_0 : decode b_LW_line 0 = .ok (.aload_n 3, 1) := by decide +kernel
theorem d_LW_line_1 : decode b_LW_line 1 = .ok (.iconst 0, 1) := by decide +kernel
theorem d_LW_line_2 : decode b_LW_line 2 = .ok (.aload_n 0, 1) := by decide +kernel
theorem d_LW_line_3 : decode b_LW_line 3 = .ok (.iload_n 1, 1) := by decide +kernel
theorem d_LW_line_4 : decode b_LW_line 4 = .ok (.iload_n 2, 1) := by decide +kernel
theorem d_LW_line_5 : decode b_LW_line 5 = .ok (.invokevirtual 53, 3) := by decide +kernel
theorem d_LW_line_13 : decode b_LW_line 13 = .ok (.astore 4, 2) := by decide +kernel
theorem d_LW_line_15 : decode b_LW_line 15 = .ok (.iconst 1, 1) := by decide +kernel
theorem d_LW_line_16 : decode b_LW_line 16 = .ok (.ireturn, 1) := by decide +kernel
theorem d_LW_line_17 : decode b_LW_line 17 = .ok (.astore 4, 2) := by decide +kernel
theorem d_LW_line_19 : decode b_LW_line 19 = .ok (.iconst 2, 1) := by decide +kernel
theorem d_LW_line_20 : decode b_LW_line 20 = .ok (.ireturn, 1) := by decide +kernel
theorem d_LW_note_0 : decode b_LW_note 0 = .ok (.aload_n 3, 1) := by decide +kernel
theorem d_LW_note_1 : decode b_LW_note 1 = .ok (.iconst 0, 1) := by decide +kernel
theorem d_LW_note_2 : decode b_LW_note 2 = .ok (.aload_n 0, 1) := by decide +kernel
theorem d_LW_note_3 : decode b_LW_note 3 = .ok (.iload_n 1, 1) := by decide +kernel
theorem d_LW_note_4 : decode b_LW_note 4 = .ok (.iload_n 2, 1) := by decide +kernel
theorem d_LW_note_5 : decode b_LW_note 5 = .ok (.invokevirtual 72, 3) := by decide +kernel
theorem d_LW_note_13 : decode b_LW_note 13 = .ok (.astore 4, 2) := by decide +kernel
theorem d_LW_note_15 : decode b_LW_note 15 = .ok (.iconst 1, 1) := by decide +kernel
theorem d_LW_note_16 : decode b_LW_note 16 = .ok (.ireturn, 1) := by decide +kernel
theorem d_LW_note_17 : decode b_LW_note 17 = .ok (.astore 4, 2) := by decide +kernel
theorem d_LW_note_19 : decode b_LW_note 19 = .ok (.iconst 2, 1) := by decide +kernel
theorem d_LW_note_20 : decode b_LW_note 20 = .ok (.ireturn, 1) := by decide +kernel
theorem d_LW_paragraph_0 : decode b_LW_paragraph 0 = .ok (.aload_n 3, 1) := by decide +kernel
theorem d_LW_paragraph_1 : decode b_LW_paragraph 1 = .ok (.iconst 0, 1) := by decide +kernel
theorem d_LW_paragraph_2 : decode b_LW_paragraph 2 = .ok (.aload_n 0, 1) := by decide +kernel
theorem d_LW_paragraph_3 : decode b_LW_paragraph 3 = .ok (.iload_n 1, 1) := by decide +kernel
theorem d_LW_paragraph_4 : decode b_LW_paragraph 4 = .ok (.iload_n 2, 1) := by decide +kernel
theorem d_LW_paragraph_5 : decode b_LW_paragraph 5 = .ok (.invokevirtual 60, 3) := by decide +kernel
theorem d_LW_paragraph_12 : decode b_LW_paragraph 12 = .ok (.astore 4, 2) := by decide +kernel
theorem d_LW_paragraph_14 : decode b_LW_paragraph 14 = .ok (.iconst 1, 1) := by decide +kernel
theorem d_LW_paragraph_15 : decode b_LW_paragraph 15 = .ok (.ireturn, 1) := by decide +kernel
theorem d_LW_paragraph_16 : decode b_LW_paragraph 16 = .ok (.astore 4, 2) := by decide +kernel
theorem d_LW_paragraph_18 : decode b_LW_paragraph 18 = .ok (.iconst 2, 1) := by decide +kernel
theorem d_LW_paragraph_19 : decode b_LW_paragraph 19 = .ok (.ireturn, 1) := by decide +kernel
theorem d_LW_print_0 : decode b_LW_print 0 = .ok (.aload_n 2, 1) := by decide +kernel
theorem d_LW_print_1 : decode b_LW_print 1 = .ok (.iconst 0, 1) := by decide +kernel
theorem d_LW_print_2 : decode b_LW_print 2 = .ok (.aload_n 0, 1) := by decide +kernel
theorem d_LW_print_3 : decode b_LW_print 3 = .ok (.iload_n 1, 1) := by decide +kernel
theorem d_LW_print_4 : decode b_LW_print 4 = .ok (.invokevirtual 78, 3) := by decide +kernel
theorem d_LW_print_12 : decode b_LW_print 12 = .ok (.astore_n 3, 1) := by decide +kernel
theorem d_LW_print_13 : decode b_LW_print 13 = .ok (.iconst 1, 1) := by decide +kernel
theorem d_LW_print_14 : decode b_LW_print 14 = .ok (.ireturn, 1) := by decide +kernel
theorem d_LW_set_0 : decode b_LW_set 0 = .ok (.aload_n 2, 1) := by decide +kernel
theorem d_LW_set_1 : decode b_LW_set 1 = .ok (.iconst 0, 1) := by decide +kernel
theorem d_LW_set_2 : decode b_LW_set 2 = .ok (.aload_n 0, 1) := by decide +kernel
theorem d_LW_set_3 : decode b_LW_set 3 = .ok (.iload_n 1, 1) := by decide +kernel
theorem d_LW_set_4 : decode b_LW_set 4 = .ok (.invokevirtual 42, 3) := by decide +kernel
theorem d_LW_set_12 : decode b_LW_set 12 = .ok (.astore_n 3, 1) := by decide +kernel
theorem d_LW_set_13 : decode b_LW_set 13 = .ok (.iconst 1, 1) := by decide +kernel
theorem d_LW_set_14 : decode b_LW_set 14 = .ok (.ireturn, 1) := by decide +kernel
theorem d_LW_set_15 : decode b_LW_set 15 = .ok (.astore_n 3, 1) := by decide +kernel
theorem d_LW_set_16 : decode b_LW_set 16 = .ok (.iconst 2, 1) := by decide +kernel
theorem d_LW_set_17 : decode b_LW_set 17 = .ok (.ireturn, 1) := by decide +kernel
theorem d_LW_spot_0 : decode b_LW_spot 0 = .ok (.aload_n 3, 1) := by decide +kernel
theorem d_LW_spot_1 : decode b_LW_spot 1 = .ok (.iconst 0, 1) := by decide +kernel
theorem d_LW_spot_2 : decode b_LW_spot 2 = .ok (.aload_n 0, 1) := by decide +kernel
theorem d_LW_spot_3 : decode b_LW_spot 3 = .ok (.iload_n 1, 1) := by decide +kernel
theorem d_LW_spot_4 : decode b_LW_spot 4 = .ok (.iload_n 2, 1) := by decide +kernel
theorem d_LW_spot_5 : decode b_LW_spot 5 = .ok (.invokevirtual 56, 3) := by decide +kernel
theorem d_LW_spot_12 : decode b_LW_spot 12 = .ok (.astore 4, 2) := by decide +kernel
theorem d_LW_spot_14 : decode b_LW_spot 14 = .ok (.iconst 1, 1) := by decide +kernel
theorem d_LW_spot_15 : decode b_LW_spot 15 = .ok (.ireturn, 1) := by decide +kernel
theorem d_LW_wavering_0 : decode b_LW_wavering 0 = .ok (.aload_n 2, 1) := by decide +kernel
theorem d_LW_wavering_1 : decode b_LW_wavering 1 = .ok (.iconst 0, 1) := by decide +kernel
theorem d_LW_wavering_2 : decode b_LW_wavering 2 = .ok (.aload_n 0, 1) := by decide +kernel
theorem d_LW_wavering_3 : decode b_LW_wavering 3 = .ok (.iload_n 1, 1) := by decide +kernel
theorem d_LW_wavering_4 : decode b_LW_wavering 4 = .ok (.invokevirtual 75, 3) := by decide +kernel
theorem d_LW_wavering_12 : decode b_LW_wavering 12 = .ok (.astore_n 3, 1) := by decide +kernel
theorem d_LW_wavering_13 : decode b_LW_wavering 13 = .ok (.iconst 1, 1) := by decide +kernel
theorem d_LW_wavering_14 : decode b_LW_wavering 14 = .ok (.ireturn, 1) := by decide +kernel
theorem d_LW_where_0 : decode b_LW_where 0 = .ok (.aload_n 2, 1) := by decide +kernel
theorem d_LW_where_1 : decode b_LW_where 1 = .ok (.iconst 0, 1) := by decide +kernel
theorem d_LW_where_2 : decode b_LW_where 2 = .ok (.aload_n 0, 1) := by decide +kernel
theorem d_LW_where_3 : decode b_LW_where 3 = .ok (.iload_n 1, 1) := by decide +kernel
theorem d_LW_where_4 : decode b_LW_where 4 = .ok (.invokevirtual 67, 3) := by decide +kernel
theorem d_LW_where_12 : decode b_LW_where 12 = .ok (.astore_n 3, 1) := by decide +kernel
theorem d_LW_where_13 : decode b_LW_where 13 = .ok (.iconst 1, 1) := by decide +kernel
theorem d_LW_where_14 : decode b_LW_where 14 = .ok (.ireturn, 1) := by decide +kernel
theorem d_LW_where_15 : decode b_LW_where 15 = .ok (.astore_n 3, 1) := by decide +kernel
theorem d_LW_where_16 : decode b_LW_where 16 = .ok (.iconst 2, 1) := by decide +kernel
theorem d_LW_where_17 : decode b_LW_where 17 = .ok (.ireturn, 1) := by decide +kernel
theorem d_LW_word_0 : decode b_LW_word 0 = .ok (.aload_n 2, 1) := by decide +kernel
theorem d_LW_word_1 : decode b_LW_word 1 = .ok (.iconst 0, 1) := by decide +kernel
theorem d_LW_word_2 : decode b_LW_word 2 = .ok (.aload_n 0, 1) := by decide +kernel
theorem d_LW_word_3 : decode b_LW_word 3 = .ok (.iload_n 1, 1) := by decide +kernel
theorem d_LW_word_4 : decode b_LW_word 4 = .ok (.invokevirtual 81, 3) := by decide +kernel
theorem d_LW_word_11 : decode b_LW_word 11 = .ok (.astore_n 3, 1) := by decide +kernel
theorem d_LW_word_12 : decode b_LW_word 12 = .ok (.iconst 1, 1) := by decide +kernel
theorem d_LW_word_13 : decode b_LW_word 13 = .ok (.ireturn, 1) := by decide +kernel
