abbrev b_LW_font : ByteArray := method_5_code
abbrev y_LW_font : MethodName := ⟨"ScholarsPressLaw", "font", "(LScholarsPress;[J)I"⟩
abbrev w_LW_font : Cond := .codeWith y_LW_font b_LW_font 3 (some .int) [(0, 8, 11, 25)]
theorem kw_LW_font : w_LW_font ∈ tt := tt_mem 675 (by decide +kernel) (by decide +kernel)
abbrev b_LW_hyphens : ByteArray := method_6_code
abbrev y_LW_hyphens : MethodName := ⟨"ScholarsPressLaw", "hyphens", "(LScholarsPress;[J)I"⟩
abbrev w_LW_hyphens : Cond := .codeWith y_LW_hyphens b_LW_hyphens 3 (some .int) [(0, 8, 11, 25)]
theorem kw_LW_hyphens : w_LW_hyphens ∈ tt := tt_mem 801 (by decide +kernel) (by decide +kernel)
abbrev b_LW_style : ByteArray := method_7_code
abbrev y_LW_style : MethodName := ⟨"ScholarsPressLaw", "style", "(LScholarsPress;[J)I"⟩
abbrev w_LW_style : Cond := .codeWith y_LW_style b_LW_style 3 (some .int) [(0, 8, 11, 25)]
theorem kw_LW_style : w_LW_style ∈ tt := tt_mem 1110 (by decide +kernel) (by decide +kernel)
abbrev b_LW_source : ByteArray := method_8_code
abbrev y_LW_source : MethodName := ⟨"ScholarsPressLaw", "source", "(LScholarsPress;[J)I"⟩
abbrev w_LW_source : Cond := .codeWith y_LW_source b_LW_source 3 (some .int) [(0, 8, 11, 25)]
theorem kw_LW_source : w_LW_source ∈ tt := tt_mem 1198 (by decide +kernel) (by decide +kernel)
abbrev b_LW_feed : ByteArray := method_3_code
abbrev y_LW_feed : MethodName := ⟨"ScholarsPressLaw", "feed", "(LScholarsPress;IIIII[J)I"⟩
abbrev w_LW_feed : Cond := .codeWith y_LW_feed b_LW_feed 8 (some .int) [(0, 16, 19, 13)]
theorem kw_LW_feed : w_LW_feed ∈ tt := tt_mem 570 (by decide +kernel) (by decide +kernel)
theorem k_572 : Cond.methodLink "ScholarsPressLaw" 7 ⟨"ScholarsPress", "feed", "(IIIII)I"⟩ ∈ tt := tt_mem 572 (by decide +kernel) (by decide +kernel)
theorem k_573 : Cond.instanceMethod ⟨"ScholarsPress", "feed", "(IIIII)I"⟩ ∈ tt := tt_mem 573 (by decide +kernel) (by decide +kernel)
theorem k_574 : Cond.selects "ScholarsPress" ⟨"ScholarsPress", "feed", "(IIIII)I"⟩ ⟨"ScholarsPress", "feed", "(IIIII)I"⟩ ∈ tt := tt_mem 574 (by decide +kernel) (by decide +kernel)
theorem k_677 : Cond.methodLink "ScholarsPressLaw" 21 ⟨"ScholarsPress", "font", "()I"⟩ ∈ tt := tt_mem 677 (by decide +kernel) (by decide +kernel)
theorem k_678 : Cond.instanceMethod ⟨"ScholarsPress", "font", "()I"⟩ ∈ tt := tt_mem 678 (by decide +kernel) (by decide +kernel)
theorem k_679 : Cond.selects "ScholarsPress" ⟨"ScholarsPress", "font", "()I"⟩ ⟨"ScholarsPress", "font", "()I"⟩ ∈ tt := tt_mem 679 (by decide +kernel) (by decide +kernel)
theorem k_802 : Cond.methodLink "ScholarsPressLaw" 27 ⟨"ScholarsPress", "hyphens", "()I"⟩ ∈ tt := tt_mem 802 (by decide +kernel) (by decide +kernel)
theorem k_803 : Cond.instanceMethod ⟨"ScholarsPress", "hyphens", "()I"⟩ ∈ tt := tt_mem 803 (by decide +kernel) (by decide +kernel)
theorem k_804 : Cond.selects "ScholarsPress" ⟨"ScholarsPress", "hyphens", "()I"⟩ ⟨"ScholarsPress", "hyphens", "()I"⟩ ∈ tt := tt_mem 804 (by decide +kernel) (by decide +kernel)
theorem k_1111 : Cond.methodLink "ScholarsPressLaw" 30 ⟨"ScholarsPress", "style", "()I"⟩ ∈ tt := tt_mem 1111 (by decide +kernel) (by decide +kernel)
theorem k_1112 : Cond.instanceMethod ⟨"ScholarsPress", "style", "()I"⟩ ∈ tt := tt_mem 1112 (by decide +kernel) (by decide +kernel)
theorem k_1113 : Cond.selects "ScholarsPress" ⟨"ScholarsPress", "style", "()I"⟩ ⟨"ScholarsPress", "style", "()I"⟩ ∈ tt := tt_mem 1113 (by decide +kernel) (by decide +kernel)
theorem k_1199 : Cond.methodLink "ScholarsPressLaw" 33 ⟨"ScholarsPress", "source", "()I"⟩ ∈ tt := tt_mem 1199 (by decide +kernel) (by decide +kernel)
theorem k_1200 : Cond.instanceMethod ⟨"ScholarsPress", "source", "()I"⟩ ∈ tt := tt_mem 1200 (by decide +kernel) (by decide +kernel)
theorem k_1201 : Cond.selects "ScholarsPress" ⟨"ScholarsPress", "source", "()I"⟩ ⟨"ScholarsPress", "source", "()I"⟩ ∈ tt := tt_mem 1201 (by decide +kernel) (by decide +kernel)
theorem d_LW_feed_0 : decode b_LW_feed 0 = .ok (.aload 6, 2) := by decide +kernel
theorem d_LW_feed_2 : decode b_LW_feed 2 = .ok (.iconst 0, 1) := by decide +kernel
theorem d_LW_feed_3 : decode b_LW_feed 3 = .ok (.aload_n 0, 1) := by decide +kernel
theorem d_LW_feed_4 : decode b_LW_feed 4 = .ok (.iload_n 1, 1) := by decide +kernel
theorem d_LW_feed_5 : decode b_LW_feed 5 = .ok (.iload_n 2, 1) := by decide +kernel
theorem d_LW_feed_6 : decode b_LW_feed 6 = .ok (.iload_n 3, 1) := by decide +kernel
theorem d_LW_feed_7 : decode b_LW_feed 7 = .ok (.iload 4, 2) := by decide +kernel
theorem d_LW_feed_9 : decode b_LW_feed 9 = .ok (.iload 5, 2) := by decide +kernel
theorem d_LW_feed_11 : decode b_LW_feed 11 = .ok (.invokevirtual 7, 3) := by decide +kernel
theorem d_LW_feed_14 : decode b_LW_feed 14 = .ok (.i2l, 1) := by decide +kernel
theorem d_LW_feed_15 : decode b_LW_feed 15 = .ok (.lastore, 1) := by decide +kernel
theorem d_LW_feed_16 : decode b_LW_feed 16 = .ok (.goto 7, 3) := by decide +kernel
theorem d_LW_feed_23 : decode b_LW_feed 23 = .ok (.iconst 0, 1) := by decide +kernel
theorem d_LW_feed_24 : decode b_LW_feed 24 = .ok (.ireturn, 1) := by decide +kernel
theorem d_LW_font_0 : decode b_LW_font 0 = .ok (.aload_n 1, 1) := by decide +kernel
theorem d_LW_font_1 : decode b_LW_font 1 = .ok (.iconst 0, 1) := by decide +kernel
theorem d_LW_font_2 : decode b_LW_font 2 = .ok (.aload_n 0, 1) := by decide +kernel
theorem d_LW_font_3 : decode b_LW_font 3 = .ok (.invokevirtual 21, 3) := by decide +kernel
theorem d_LW_font_6 : decode b_LW_font 6 = .ok (.i2l, 1) := by decide +kernel
theorem d_LW_font_7 : decode b_LW_font 7 = .ok (.lastore, 1) := by decide +kernel
theorem d_LW_font_8 : decode b_LW_font 8 = .ok (.goto 6, 3) := by decide +kernel
theorem d_LW_font_14 : decode b_LW_font 14 = .ok (.iconst 0, 1) := by decide +kernel
theorem d_LW_font_15 : decode b_LW_font 15 = .ok (.ireturn, 1) := by decide +kernel
theorem d_LW_hyphens_0 : decode b_LW_hyphens 0 = .ok (.aload_n 1, 1) := by decide +kernel
theorem d_LW_hyphens_1 : decode b_LW_hyphens 1 = .ok (.iconst 0, 1) := by decide +kernel
theorem d_LW_hyphens_2 : decode b_LW_hyphens 2 = .ok (.aload_n 0, 1) := by decide +kernel
theorem d_LW_hyphens_3 : decode b_LW_hyphens 3 = .ok (.invokevirtual 27, 3) := by decide +kernel
theorem d_LW_hyphens_6 : decode b_LW_hyphens 6 = .ok (.i2l, 1) := by decide +kernel
theorem d_LW_hyphens_7 : decode b_LW_hyphens 7 = .ok (.lastore, 1) := by decide +kernel
theorem d_LW_hyphens_8 : decode b_LW_hyphens 8 = .ok (.goto 6, 3) := by decide +kernel
theorem d_LW_hyphens_14 : decode b_LW_hyphens 14 = .ok (.iconst 0, 1) := by decide +kernel
theorem d_LW_hyphens_15 : decode b_LW_hyphens 15 = .ok (.ireturn, 1) := by decide +kernel
theorem d_LW_source_0 : decode b_LW_source 0 = .ok (.aload_n 1, 1) := by decide +kernel
theorem d_LW_source_1 : decode b_LW_source 1 = .ok (.iconst 0, 1) := by decide +kernel
theorem d_LW_source_2 : decode b_LW_source 2 = .ok (.aload_n 0, 1) := by decide +kernel
theorem d_LW_source_3 : decode b_LW_source 3 = .ok (.invokevirtual 33, 3) := by decide +kernel
theorem d_LW_source_6 : decode b_LW_source 6 = .ok (.i2l, 1) := by decide +kernel
theorem d_LW_source_7 : decode b_LW_source 7 = .ok (.lastore, 1) := by decide +kernel
theorem d_LW_source_8 : decode b_LW_source 8 = .ok (.goto 6, 3) := by decide +kernel
theorem d_LW_source_14 : decode b_LW_source 14 = .ok (.iconst 0, 1) := by decide +kernel
theorem d_LW_source_15 : decode b_LW_source 15 = .ok (.ireturn, 1) := by decide +kernel
theorem d_LW_style_0 : decode b_LW_style 0 = .ok (.aload_n 1, 1) := by decide +kernel
theorem d_LW_style_1 : decode b_LW_style 1 = .ok (.iconst 0, 1) := by decide +kernel
theorem d_LW_style_2 : decode b_LW_style 2 = .ok (.aload_n 0, 1) := by decide +kernel
theorem d_LW_style_3 : decode b_LW_style 3 = .ok (.invokevirtual 30, 3) := by decide +kernel
theorem d_LW_style_6 : decode b_LW_style 6 = .ok (.i2l, 1) := by decide +kernel
theorem d_LW_style_7 : decode b_LW_style 7 = .ok (.lastore, 1) := by decide +kernel
theorem d_LW_style_8 : decode b_LW_style 8 = .ok (.goto 6, 3) := by decide +kernel
theorem d_LW_style_14 : decode b_LW_style 14 = .ok (.iconst 0, 1) := by decide +kernel
theorem d_LW_style_15 : decode b_LW_style 15 = .ok (.ireturn, 1) := by decide +kernel
