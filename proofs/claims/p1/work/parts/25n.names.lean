abbrev b_MSigns_next : ByteArray := prog_20_method_4_code
abbrev y_MSigns_next : MethodName := ⟨"ScholarsPressModel$Signs", "next", "()V"⟩
abbrev w_MSigns_next : Cond := .code y_MSigns_next b_MSigns_next 2 none
theorem kw_MSigns_next : w_MSigns_next ∈ tt := List.mem_filter.mpr ⟨List.mem_append_right _ (List.mem_append_right _ (List.mem_append_right _ (List.mem_append_right _ (List.mem_append_right _ (List.mem_append_right _ (List.mem_append_right _ (List.mem_append_right _ (List.mem_append_right _ (List.mem_append_right _ (List.mem_append_right _ (List.mem_append_right _ (List.mem_append_right _ (List.mem_append_right _ (List.mem_append_right _ (List.mem_append_left _ (List.mem_of_getElem? (i := 187) rfl)))))))))))))))), by decide +kernel⟩
abbrev b_MSigns_open : ByteArray := prog_20_method_2_code
abbrev y_MSigns_open : MethodName := ⟨"ScholarsPressModel$Signs", "open", "([BI)V"⟩
abbrev w_MSigns_open : Cond := .code y_MSigns_open b_MSigns_open 3 none
theorem kw_MSigns_open : w_MSigns_open ∈ tt := tt_mem 3782 (by decide +kernel) (by decide +kernel)
abbrev b_MLetters_read : ByteArray := prog_17_method_6_code
abbrev y_MLetters_read : MethodName := ⟨"ScholarsPressModel$Letters", "read", "([BI)V"⟩
abbrev w_MLetters_read : Cond := .code y_MLetters_read b_MLetters_read 3 none
theorem kw_MLetters_read : w_MLetters_read ∈ tt := tt_mem 3778 (by decide +kernel) (by decide +kernel)
abbrev b_MLetters_all : ByteArray := prog_17_method_8_code
abbrev y_MLetters_all : MethodName := ⟨"ScholarsPressModel$Letters", "all", "()I"⟩
abbrev w_MLetters_all : Cond := .code y_MLetters_all b_MLetters_all 3 (some .int)
theorem kw_MLetters_all : w_MLetters_all ∈ tt := tt_mem 3883 (by decide +kernel) (by decide +kernel)
abbrev b_MParting_clear : ByteArray := prog_18_method_2_code
abbrev y_MParting_clear : MethodName := ⟨"ScholarsPressModel$Parting", "clear", "()V"⟩
abbrev w_MParting_clear : Cond := .code y_MParting_clear b_MParting_clear 1 none
theorem kw_MParting_clear : w_MParting_clear ∈ tt := tt_mem 3895 (by decide +kernel) (by decide +kernel)
abbrev b_MParting_read : ByteArray := prog_18_method_4_code
abbrev y_MParting_read : MethodName := ⟨"ScholarsPressModel$Parting", "read", "([BI)V"⟩
abbrev w_MParting_read : Cond := .code y_MParting_read b_MParting_read 7 none
theorem kw_MParting_read : w_MParting_read ∈ tt := tt_mem 3891 (by decide +kernel) (by decide +kernel)
abbrev b_MStyle_read : ByteArray := prog_22_method_3_code
abbrev y_MStyle_read : MethodName := ⟨"ScholarsPressModel$Style", "read", "([BI)V"⟩
abbrev w_MStyle_read : Cond := .code y_MStyle_read b_MStyle_read 4 none
theorem kw_MStyle_read : w_MStyle_read ∈ tt := tt_mem 3921 (by decide +kernel) (by decide +kernel)
abbrev b_MSource_read : ByteArray := prog_21_method_9_code
abbrev y_MSource_read : MethodName := ⟨"ScholarsPressModel$Source", "read", "([BI)V"⟩
abbrev w_MSource_read : Cond := .code y_MSource_read b_MSource_read 4 none
theorem kw_MSource_read : w_MSource_read ∈ tt := tt_mem 4010 (by decide +kernel) (by decide +kernel)
abbrev b_SM_wasRead : ByteArray := prog_14_method_15_code
abbrev y_SM_wasRead : MethodName := ⟨"ScholarsPressModel", "wasRead", "(I)V"⟩
abbrev w_SM_wasRead : Cond := .code y_SM_wasRead b_SM_wasRead 2 none
theorem kw_SM_wasRead : w_SM_wasRead ∈ tt := tt_mem 3879 (by decide +kernel) (by decide +kernel)
abbrev b_SM_font : ByteArray := prog_14_method_17_code
abbrev y_SM_font : MethodName := ⟨"ScholarsPressModel", "font", "()I"⟩
abbrev w_SM_font : Cond := .codeWith y_SM_font b_SM_font 2 (some .int) [(0, 15, 18, 122)]
theorem kw_SM_font : w_SM_font ∈ tt := tt_mem 3773 (by decide +kernel) (by decide +kernel)
abbrev b_SM_hyphens : ByteArray := prog_14_method_18_code
abbrev y_SM_hyphens : MethodName := ⟨"ScholarsPressModel", "hyphens", "()I"⟩
abbrev w_SM_hyphens : Cond := .codeWith y_SM_hyphens b_SM_hyphens 2 (some .int) [(0, 15, 18, 122)]
theorem kw_SM_hyphens : w_SM_hyphens ∈ tt := tt_mem 3887 (by decide +kernel) (by decide +kernel)
abbrev b_SM_style : ByteArray := prog_14_method_19_code
abbrev y_SM_style : MethodName := ⟨"ScholarsPressModel", "style", "()I"⟩
abbrev w_SM_style : Cond := .codeWith y_SM_style b_SM_style 2 (some .int) [(0, 15, 18, 122)]
theorem kw_SM_style : w_SM_style ∈ tt := tt_mem 3917 (by decide +kernel) (by decide +kernel)
abbrev b_SM_taken : ByteArray := prog_14_method_20_code
abbrev y_SM_taken : MethodName := ⟨"ScholarsPressModel", "taken", "()I"⟩
abbrev w_SM_taken : Cond := .code y_SM_taken b_SM_taken 2 (some .int)
theorem kw_SM_taken : w_SM_taken ∈ tt := tt_mem 4087 (by decide +kernel) (by decide +kernel)
abbrev b_SM_source : ByteArray := prog_14_method_21_code
abbrev y_SM_source : MethodName := ⟨"ScholarsPressModel", "source", "()I"⟩
abbrev w_SM_source : Cond := .codeWith y_SM_source b_SM_source 2 (some .int) [(0, 15, 18, 122)]
theorem kw_SM_source : w_SM_source ∈ tt := tt_mem 4006 (by decide +kernel) (by decide +kernel)
theorem k_127 : Cond.selects "ScholarsPressModel" ⟨"ScholarsPressModel", "wasRead", "(I)V"⟩ ⟨"ScholarsPressModel", "wasRead", "(I)V"⟩ ∈ tt := tt_mem 127 (by decide +kernel) (by decide +kernel)
theorem k_157 : Cond.selects "ScholarsPressModel" ⟨"ScholarsPressModel", "taken", "()I"⟩ ⟨"ScholarsPressModel", "taken", "()I"⟩ ∈ tt := tt_mem 157 (by decide +kernel) (by decide +kernel)
theorem k_2717 : Cond.fieldLink "ScholarsPressModel$Signs" 7 "ScholarsPressModel$Signs" "text" "[B" ∈ tt := tt_mem 2717 (by decide +kernel) (by decide +kernel)
theorem k_2719 : Cond.fieldLink "ScholarsPressModel$Signs" 13 "ScholarsPressModel$Signs" "length" "I" ∈ tt := tt_mem 2719 (by decide +kernel) (by decide +kernel)
theorem k_2720 : Cond.fieldLink "ScholarsPressModel$Signs" 17 "ScholarsPressModel$Signs" "at" "I" ∈ tt := tt_mem 2720 (by decide +kernel) (by decide +kernel)
theorem k_2721 : Cond.fieldLink "ScholarsPressModel$Style" 111 "ScholarsPressModel$Signs" "kind" "I" ∈ tt := tt_mem 2721 (by decide +kernel) (by decide +kernel)
theorem k_2722 : Cond.fieldLink "ScholarsPressModel$Letters" 46 "ScholarsPressModel$Signs" "kind" "I" ∈ tt := tt_mem 2722 (by decide +kernel) (by decide +kernel)
theorem k_2723 : Cond.fieldLink "ScholarsPressModel$Signs" 39 "ScholarsPressModel$Signs" "kind" "I" ∈ tt := tt_mem 2723 (by decide +kernel) (by decide +kernel)
theorem k_2724 : Cond.fieldLink "ScholarsPressModel$Signs" 33 "ScholarsPressModel$Signs" "from" "I" ∈ tt := tt_mem 2724 (by decide +kernel) (by decide +kernel)
theorem k_2727 : Cond.fieldLink "ScholarsPressModel$Signs" 36 "ScholarsPressModel$Signs" "to" "I" ∈ tt := tt_mem 2727 (by decide +kernel) (by decide +kernel)
theorem k_2791 : Cond.fieldLink "ScholarsPressModel$Parting" 46 "ScholarsPressModel$Parting" "patterns" "I" ∈ tt := tt_mem 2791 (by decide +kernel) (by decide +kernel)
theorem k_2792 : Cond.fieldLink "ScholarsPressModel" 133 "ScholarsPressModel$Parting" "patterns" "I" ∈ tt := tt_mem 2792 (by decide +kernel) (by decide +kernel)
theorem k_2793 : Cond.fieldLink "ScholarsPressModel$Parting" 49 "ScholarsPressModel$Parting" "exceptions" "I" ∈ tt := tt_mem 2793 (by decide +kernel) (by decide +kernel)
theorem k_2794 : Cond.fieldLink "ScholarsPressModel" 136 "ScholarsPressModel$Parting" "exceptions" "I" ∈ tt := tt_mem 2794 (by decide +kernel) (by decide +kernel)
theorem k_2855 : Cond.fieldLink "ScholarsPressModel" 144 "ScholarsPressModel$Style" "selectors" "I" ∈ tt := tt_mem 2855 (by decide +kernel) (by decide +kernel)
theorem k_2964 : Cond.fieldLink "ScholarsPressModel$Source" 73 "ScholarsPressModel$Source" "length" "I" ∈ tt := tt_mem 2964 (by decide +kernel) (by decide +kernel)
theorem k_2966 : Cond.fieldLink "ScholarsPressModel$Source" 77 "ScholarsPressModel$Source" "items" "I" ∈ tt := tt_mem 2966 (by decide +kernel) (by decide +kernel)
theorem k_2969 : Cond.fieldLink "ScholarsPressModel$Source" 80 "ScholarsPressModel$Source" "elements" "I" ∈ tt := tt_mem 2969 (by decide +kernel) (by decide +kernel)
theorem k_2972 : Cond.fieldLink "ScholarsPressModel" 147 "ScholarsPressModel$Source" "elements" "I" ∈ tt := tt_mem 2972 (by decide +kernel) (by decide +kernel)
theorem k_2973 : Cond.fieldLink "ScholarsPressModel$Source" 83 "ScholarsPressModel$Source" "entities" "I" ∈ tt := tt_mem 2973 (by decide +kernel) (by decide +kernel)
theorem k_2975 : Cond.fieldLink "ScholarsPressModel$Source" 86 "ScholarsPressModel$Source" "there" "Z" ∈ tt := tt_mem 2975 (by decide +kernel) (by decide +kernel)
theorem k_3018 : Cond.fieldLink "ScholarsPressModel$Source" 109 "ScholarsPressModel$Source" "at" "I" ∈ tt := tt_mem 3018 (by decide +kernel) (by decide +kernel)
theorem k_3019 : Cond.fieldLink "ScholarsPressModel$Source" 112 "ScholarsPressModel$Source" "open" "I" ∈ tt := tt_mem 3019 (by decide +kernel) (by decide +kernel)
theorem k_3020 : Cond.fieldLink "ScholarsPressModel$Source" 115 "ScholarsPressModel$Source" "depth" "I" ∈ tt := tt_mem 3020 (by decide +kernel) (by decide +kernel)
theorem k_3694 : Cond.fieldLink "ScholarsPressModel" 140 "ScholarsPressModel" "treeIs" "Z" ∈ tt := tt_mem 3694 (by decide +kernel) (by decide +kernel)
theorem k_3775 : Cond.methodLink "ScholarsPressModel" 118 ⟨"ScholarsPressModel$Letters", "read", "([BI)V"⟩ ∈ tt := tt_mem 3775 (by decide +kernel) (by decide +kernel)
theorem k_3776 : Cond.instanceMethod ⟨"ScholarsPressModel$Letters", "read", "([BI)V"⟩ ∈ tt := tt_mem 3776 (by decide +kernel) (by decide +kernel)
theorem k_3777 : Cond.selects "ScholarsPressModel$Letters" ⟨"ScholarsPressModel$Letters", "read", "([BI)V"⟩ ⟨"ScholarsPressModel$Letters", "read", "([BI)V"⟩ ∈ tt := tt_mem 3777 (by decide +kernel) (by decide +kernel)
theorem k_3779 : Cond.methodLink "ScholarsPressModel$Letters" 67 ⟨"ScholarsPressModel$Signs", "open", "([BI)V"⟩ ∈ tt := tt_mem 3779 (by decide +kernel) (by decide +kernel)
theorem k_3780 : Cond.instanceMethod ⟨"ScholarsPressModel$Signs", "open", "([BI)V"⟩ ∈ tt := tt_mem 3780 (by decide +kernel) (by decide +kernel)
theorem k_3781 : Cond.selects "ScholarsPressModel$Signs" ⟨"ScholarsPressModel$Signs", "open", "([BI)V"⟩ ⟨"ScholarsPressModel$Signs", "open", "([BI)V"⟩ ∈ tt := tt_mem 3781 (by decide +kernel) (by decide +kernel)
theorem k_3783 : Cond.methodLink "ScholarsPressModel$Signs" 20 ⟨"ScholarsPressModel$Signs", "next", "()V"⟩ ∈ tt := tt_mem 3783 (by decide +kernel) (by decide +kernel)
theorem k_3784 : Cond.instanceMethod ⟨"ScholarsPressModel$Signs", "next", "()V"⟩ ∈ tt := tt_mem 3784 (by decide +kernel) (by decide +kernel)
theorem k_3785 : Cond.selects "ScholarsPressModel$Signs" ⟨"ScholarsPressModel$Signs", "next", "()V"⟩ ⟨"ScholarsPressModel$Signs", "next", "()V"⟩ ∈ tt := tt_mem 3785 (by decide +kernel) (by decide +kernel)
theorem k_3876 : Cond.methodLink "ScholarsPressModel" 115 ⟨"ScholarsPressModel", "wasRead", "(I)V"⟩ ∈ tt := tt_mem 3876 (by decide +kernel) (by decide +kernel)
theorem k_3878 : Cond.instanceMethod ⟨"ScholarsPressModel", "wasRead", "(I)V"⟩ ∈ tt := tt_mem 3878 (by decide +kernel) (by decide +kernel)
theorem k_3880 : Cond.methodLink "ScholarsPressModel" 129 ⟨"ScholarsPressModel$Letters", "all", "()I"⟩ ∈ tt := tt_mem 3880 (by decide +kernel) (by decide +kernel)
theorem k_3881 : Cond.instanceMethod ⟨"ScholarsPressModel$Letters", "all", "()I"⟩ ∈ tt := tt_mem 3881 (by decide +kernel) (by decide +kernel)
theorem k_3882 : Cond.selects "ScholarsPressModel$Letters" ⟨"ScholarsPressModel$Letters", "all", "()I"⟩ ⟨"ScholarsPressModel$Letters", "all", "()I"⟩ ∈ tt := tt_mem 3882 (by decide +kernel) (by decide +kernel)
theorem k_3888 : Cond.methodLink "ScholarsPressModel" 132 ⟨"ScholarsPressModel$Parting", "read", "([BI)V"⟩ ∈ tt := tt_mem 3888 (by decide +kernel) (by decide +kernel)
theorem k_3889 : Cond.instanceMethod ⟨"ScholarsPressModel$Parting", "read", "([BI)V"⟩ ∈ tt := tt_mem 3889 (by decide +kernel) (by decide +kernel)
theorem k_3890 : Cond.selects "ScholarsPressModel$Parting" ⟨"ScholarsPressModel$Parting", "read", "([BI)V"⟩ ⟨"ScholarsPressModel$Parting", "read", "([BI)V"⟩ ∈ tt := tt_mem 3890 (by decide +kernel) (by decide +kernel)
theorem k_3892 : Cond.methodLink "ScholarsPressModel$Parting" 52 ⟨"ScholarsPressModel$Parting", "clear", "()V"⟩ ∈ tt := tt_mem 3892 (by decide +kernel) (by decide +kernel)
theorem k_3893 : Cond.instanceMethod ⟨"ScholarsPressModel$Parting", "clear", "()V"⟩ ∈ tt := tt_mem 3893 (by decide +kernel) (by decide +kernel)
theorem k_3894 : Cond.selects "ScholarsPressModel$Parting" ⟨"ScholarsPressModel$Parting", "clear", "()V"⟩ ⟨"ScholarsPressModel$Parting", "clear", "()V"⟩ ∈ tt := tt_mem 3894 (by decide +kernel) (by decide +kernel)
theorem k_3918 : Cond.methodLink "ScholarsPressModel" 139 ⟨"ScholarsPressModel$Style", "read", "([BI)V"⟩ ∈ tt := tt_mem 3918 (by decide +kernel) (by decide +kernel)
theorem k_3919 : Cond.instanceMethod ⟨"ScholarsPressModel$Style", "read", "([BI)V"⟩ ∈ tt := tt_mem 3919 (by decide +kernel) (by decide +kernel)
theorem k_3920 : Cond.selects "ScholarsPressModel$Style" ⟨"ScholarsPressModel$Style", "read", "([BI)V"⟩ ⟨"ScholarsPressModel$Style", "read", "([BI)V"⟩ ∈ tt := tt_mem 3920 (by decide +kernel) (by decide +kernel)
theorem k_3922 : Cond.methodLink "ScholarsPressModel$Style" 107 ⟨"ScholarsPressModel$Signs", "open", "([BI)V"⟩ ∈ tt := tt_mem 3922 (by decide +kernel) (by decide +kernel)
theorem k_4007 : Cond.methodLink "ScholarsPressModel" 150 ⟨"ScholarsPressModel$Source", "read", "([BI)V"⟩ ∈ tt := tt_mem 4007 (by decide +kernel) (by decide +kernel)
theorem k_4008 : Cond.instanceMethod ⟨"ScholarsPressModel$Source", "read", "([BI)V"⟩ ∈ tt := tt_mem 4008 (by decide +kernel) (by decide +kernel)
theorem k_4009 : Cond.selects "ScholarsPressModel$Source" ⟨"ScholarsPressModel$Source", "read", "([BI)V"⟩ ⟨"ScholarsPressModel$Source", "read", "([BI)V"⟩ ∈ tt := tt_mem 4009 (by decide +kernel) (by decide +kernel)
theorem k_4084 : Cond.methodLink "ScholarsPressModel" 151 ⟨"ScholarsPressModel", "taken", "()I"⟩ ∈ tt := tt_mem 4084 (by decide +kernel) (by decide +kernel)
theorem k_4086 : Cond.instanceMethod ⟨"ScholarsPressModel", "taken", "()I"⟩ ∈ tt := tt_mem 4086 (by decide +kernel) (by decide +kernel)
theorem d_MLetters_all_0 : decode b_MLetters_all 0 = .ok (.aload_n 0, 1) := by decide +kernel
theorem d_MLetters_all_1 : decode b_MLetters_all 1 = .ok (.getfield 39, 3) := by decide +kernel
theorem d_MLetters_all_4 : decode b_MLetters_all 4 = .ok (.aload_n 0, 1) := by decide +kernel
theorem d_MLetters_all_5 : decode b_MLetters_all 5 = .ok (.getfield 43, 3) := by decide +kernel
theorem d_MLetters_all_8 : decode b_MLetters_all 8 = .ok (.iadd, 1) := by decide +kernel
theorem d_MLetters_all_9 : decode b_MLetters_all 9 = .ok (.istore_n 1, 1) := by decide +kernel
theorem d_MLetters_all_10 : decode b_MLetters_all 10 = .ok (.iconst 0, 1) := by decide +kernel
theorem d_MLetters_all_11 : decode b_MLetters_all 11 = .ok (.istore_n 2, 1) := by decide +kernel
theorem d_MLetters_all_12 : decode b_MLetters_all 12 = .ok (.iload_n 2, 1) := by decide +kernel
theorem d_MLetters_all_13 : decode b_MLetters_all 13 = .ok (.sipush 256, 3) := by decide +kernel
theorem d_MLetters_all_16 : decode b_MLetters_all 16 = .ok (.if_icmp .ge 26, 3) := by decide +kernel
theorem d_MLetters_all_19 : decode b_MLetters_all 19 = .ok (.iload_n 1, 1) := by decide +kernel
theorem d_MLetters_all_20 : decode b_MLetters_all 20 = .ok (.aload_n 0, 1) := by decide +kernel
theorem d_MLetters_all_21 : decode b_MLetters_all 21 = .ok (.getfield 13, 3) := by decide +kernel
theorem d_MLetters_all_24 : decode b_MLetters_all 24 = .ok (.iload_n 2, 1) := by decide +kernel
theorem d_MLetters_all_25 : decode b_MLetters_all 25 = .ok (.baload, 1) := by decide +kernel
theorem d_MLetters_all_26 : decode b_MLetters_all 26 = .ok (.ifCond .eq 7, 3) := by decide +kernel
theorem d_MLetters_all_33 : decode b_MLetters_all 33 = .ok (.iconst 0, 1) := by decide +kernel
theorem d_MLetters_all_34 : decode b_MLetters_all 34 = .ok (.iadd, 1) := by decide +kernel
theorem d_MLetters_all_35 : decode b_MLetters_all 35 = .ok (.istore_n 1, 1) := by decide +kernel
theorem d_MLetters_all_36 : decode b_MLetters_all 36 = .ok (.iinc 2 1, 3) := by decide +kernel
theorem d_MLetters_all_39 : decode b_MLetters_all 39 = .ok (.goto (-27), 3) := by decide +kernel
theorem d_MLetters_all_42 : decode b_MLetters_all 42 = .ok (.iload_n 1, 1) := by decide +kernel
theorem d_MLetters_all_43 : decode b_MLetters_all 43 = .ok (.ireturn, 1) := by decide +kernel
theorem d_MLetters_read_0 : decode b_MLetters_read 0 = .ok (.aload_n 0, 1) := by decide +kernel
theorem d_MLetters_read_1 : decode b_MLetters_read 1 = .ok (.invokevirtual 36, 3) := by decide +kernel
theorem d_MLetters_read_4 : decode b_MLetters_read 4 = .ok (.aload_n 0, 1) := by decide +kernel
theorem d_MLetters_read_5 : decode b_MLetters_read 5 = .ok (.getfield 32, 3) := by decide +kernel
theorem d_MLetters_read_8 : decode b_MLetters_read 8 = .ok (.aload_n 1, 1) := by decide +kernel
theorem d_MLetters_read_9 : decode b_MLetters_read 9 = .ok (.iload_n 2, 1) := by decide +kernel
theorem d_MLetters_read_10 : decode b_MLetters_read 10 = .ok (.invokevirtual 67, 3) := by decide +kernel
theorem d_MLetters_read_13 : decode b_MLetters_read 13 = .ok (.aload_n 0, 1) := by decide +kernel
theorem d_MLetters_read_14 : decode b_MLetters_read 14 = .ok (.getfield 32, 3) := by decide +kernel
theorem d_MLetters_read_17 : decode b_MLetters_read 17 = .ok (.getfield 46, 3) := by decide +kernel
theorem d_MLetters_read_20 : decode b_MLetters_read 20 = .ok (.iconst 5, 1) := by decide +kernel
theorem d_MLetters_read_21 : decode b_MLetters_read 21 = .ok (.if_icmp .eq 10, 3) := by decide +kernel
theorem d_MLetters_read_31 : decode b_MLetters_read 31 = .ok (.return_, 1) := by decide +kernel
theorem d_MParting_clear_0 : decode b_MParting_clear 0 = .ok (.aload_n 0, 1) := by decide +kernel
theorem d_MParting_clear_1 : decode b_MParting_clear 1 = .ok (.iconst 2, 1) := by decide +kernel
theorem d_MParting_clear_2 : decode b_MParting_clear 2 = .ok (.putfield 7, 3) := by decide +kernel
theorem d_MParting_clear_5 : decode b_MParting_clear 5 = .ok (.aload_n 0, 1) := by decide +kernel
theorem d_MParting_clear_6 : decode b_MParting_clear 6 = .ok (.iconst 3, 1) := by decide +kernel
theorem d_MParting_clear_7 : decode b_MParting_clear 7 = .ok (.putfield 13, 3) := by decide +kernel
theorem d_MParting_clear_10 : decode b_MParting_clear 10 = .ok (.aload_n 0, 1) := by decide +kernel
theorem d_MParting_clear_11 : decode b_MParting_clear 11 = .ok (.iconst 0, 1) := by decide +kernel
theorem d_MParting_clear_12 : decode b_MParting_clear 12 = .ok (.putfield 46, 3) := by decide +kernel
theorem d_MParting_clear_15 : decode b_MParting_clear 15 = .ok (.aload_n 0, 1) := by decide +kernel
theorem d_MParting_clear_16 : decode b_MParting_clear 16 = .ok (.iconst 0, 1) := by decide +kernel
theorem d_MParting_clear_17 : decode b_MParting_clear 17 = .ok (.putfield 49, 3) := by decide +kernel
theorem d_MParting_clear_20 : decode b_MParting_clear 20 = .ok (.return_, 1) := by decide +kernel
theorem d_MParting_read_0 : decode b_MParting_read 0 = .ok (.aload_n 0, 1) := by decide +kernel
theorem d_MParting_read_1 : decode b_MParting_read 1 = .ok (.invokevirtual 52, 3) := by decide +kernel
theorem d_MParting_read_4 : decode b_MParting_read 4 = .ok (.iconst 0, 1) := by decide +kernel
theorem d_MParting_read_5 : decode b_MParting_read 5 = .ok (.istore_n 3, 1) := by decide +kernel
theorem d_MParting_read_6 : decode b_MParting_read 6 = .ok (.iconst 0, 1) := by decide +kernel
theorem d_MParting_read_7 : decode b_MParting_read 7 = .ok (.istore 4, 2) := by decide +kernel
theorem d_MParting_read_9 : decode b_MParting_read 9 = .ok (.iload_n 3, 1) := by decide +kernel
theorem d_MParting_read_10 : decode b_MParting_read 10 = .ok (.iload_n 2, 1) := by decide +kernel
theorem d_MParting_read_11 : decode b_MParting_read 11 = .ok (.if_icmp .ge 18, 3) := by decide +kernel
theorem d_MParting_read_29 : decode b_MParting_read 29 = .ok (.iload_n 3, 1) := by decide +kernel
theorem d_MParting_read_30 : decode b_MParting_read 30 = .ok (.iload_n 2, 1) := by decide +kernel
theorem d_MParting_read_31 : decode b_MParting_read 31 = .ok (.if_icmp .ne 6, 3) := by decide +kernel
theorem d_MParting_read_34 : decode b_MParting_read 34 = .ok (.goto 208, 3) := by decide +kernel
theorem d_MParting_read_242 : decode b_MParting_read 242 = .ok (.iload 4, 2) := by decide +kernel
theorem d_MParting_read_244 : decode b_MParting_read 244 = .ok (.ifCond .eq 12, 3) := by decide +kernel
theorem d_MParting_read_256 : decode b_MParting_read 256 = .ok (.return_, 1) := by decide +kernel
theorem d_MSigns_next_0 : decode b_MSigns_next 0 = .ok (.aload_n 0, 1) := by decide +kernel
theorem d_MSigns_next_1 : decode b_MSigns_next 1 = .ok (.getfield 17, 3) := by decide +kernel
theorem d_MSigns_next_4 : decode b_MSigns_next 4 = .ok (.aload_n 0, 1) := by decide +kernel
theorem d_MSigns_next_5 : decode b_MSigns_next 5 = .ok (.getfield 13, 3) := by decide +kernel
theorem d_MSigns_next_8 : decode b_MSigns_next 8 = .ok (.if_icmp .ge 30, 3) := by decide +kernel
theorem d_MSigns_next_38 : decode b_MSigns_next 38 = .ok (.aload_n 0, 1) := by decide +kernel
theorem d_MSigns_next_39 : decode b_MSigns_next 39 = .ok (.aload_n 0, 1) := by decide +kernel
theorem d_MSigns_next_40 : decode b_MSigns_next 40 = .ok (.getfield 17, 3) := by decide +kernel
theorem d_MSigns_next_43 : decode b_MSigns_next 43 = .ok (.putfield 33, 3) := by decide +kernel
theorem d_MSigns_next_46 : decode b_MSigns_next 46 = .ok (.aload_n 0, 1) := by decide +kernel
theorem d_MSigns_next_47 : decode b_MSigns_next 47 = .ok (.aload_n 0, 1) := by decide +kernel
theorem d_MSigns_next_48 : decode b_MSigns_next 48 = .ok (.getfield 17, 3) := by decide +kernel
theorem d_MSigns_next_51 : decode b_MSigns_next 51 = .ok (.putfield 36, 3) := by decide +kernel
theorem d_MSigns_next_54 : decode b_MSigns_next 54 = .ok (.aload_n 0, 1) := by decide +kernel
theorem d_MSigns_next_55 : decode b_MSigns_next 55 = .ok (.getfield 17, 3) := by decide +kernel
theorem d_MSigns_next_58 : decode b_MSigns_next 58 = .ok (.aload_n 0, 1) := by decide +kernel
theorem d_MSigns_next_59 : decode b_MSigns_next 59 = .ok (.getfield 13, 3) := by decide +kernel
theorem d_MSigns_next_62 : decode b_MSigns_next 62 = .ok (.if_icmp .ne 9, 3) := by decide +kernel
theorem d_MSigns_next_65 : decode b_MSigns_next 65 = .ok (.aload_n 0, 1) := by decide +kernel
theorem d_MSigns_next_66 : decode b_MSigns_next 66 = .ok (.iconst 5, 1) := by decide +kernel
theorem d_MSigns_next_67 : decode b_MSigns_next 67 = .ok (.putfield 39, 3) := by decide +kernel
theorem d_MSigns_next_70 : decode b_MSigns_next 70 = .ok (.return_, 1) := by decide +kernel
theorem d_MSigns_open_0 : decode b_MSigns_open 0 = .ok (.aload_n 0, 1) := by decide +kernel
theorem d_MSigns_open_1 : decode b_MSigns_open 1 = .ok (.aload_n 1, 1) := by decide +kernel
theorem d_MSigns_open_2 : decode b_MSigns_open 2 = .ok (.putfield 7, 3) := by decide +kernel
theorem d_MSigns_open_5 : decode b_MSigns_open 5 = .ok (.aload_n 0, 1) := by decide +kernel
theorem d_MSigns_open_6 : decode b_MSigns_open 6 = .ok (.iload_n 2, 1) := by decide +kernel
theorem d_MSigns_open_7 : decode b_MSigns_open 7 = .ok (.putfield 13, 3) := by decide +kernel
theorem d_MSigns_open_10 : decode b_MSigns_open 10 = .ok (.aload_n 0, 1) := by decide +kernel
theorem d_MSigns_open_11 : decode b_MSigns_open 11 = .ok (.iconst 0, 1) := by decide +kernel
theorem d_MSigns_open_12 : decode b_MSigns_open 12 = .ok (.putfield 17, 3) := by decide +kernel
theorem d_MSigns_open_15 : decode b_MSigns_open 15 = .ok (.aload_n 0, 1) := by decide +kernel
theorem d_MSigns_open_16 : decode b_MSigns_open 16 = .ok (.invokevirtual 20, 3) := by decide +kernel
theorem d_MSigns_open_19 : decode b_MSigns_open 19 = .ok (.return_, 1) := by decide +kernel
theorem d_MSource_read_0 : decode b_MSource_read 0 = .ok (.aload_n 0, 1) := by decide +kernel
theorem d_MSource_read_1 : decode b_MSource_read 1 = .ok (.iconst 1, 1) := by decide +kernel
theorem d_MSource_read_2 : decode b_MSource_read 2 = .ok (.putfield 86, 3) := by decide +kernel
theorem d_MSource_read_5 : decode b_MSource_read 5 = .ok (.aload_n 0, 1) := by decide +kernel
theorem d_MSource_read_6 : decode b_MSource_read 6 = .ok (.iload_n 2, 1) := by decide +kernel
theorem d_MSource_read_7 : decode b_MSource_read 7 = .ok (.putfield 73, 3) := by decide +kernel
theorem d_MSource_read_10 : decode b_MSource_read 10 = .ok (.iconst 0, 1) := by decide +kernel
theorem d_MSource_read_11 : decode b_MSource_read 11 = .ok (.istore_n 3, 1) := by decide +kernel
theorem d_MSource_read_12 : decode b_MSource_read 12 = .ok (.iload_n 3, 1) := by decide +kernel
theorem d_MSource_read_13 : decode b_MSource_read 13 = .ok (.iload_n 2, 1) := by decide +kernel
theorem d_MSource_read_14 : decode b_MSource_read 14 = .ok (.if_icmp .ge 18, 3) := by decide +kernel
theorem d_MSource_read_32 : decode b_MSource_read 32 = .ok (.aload_n 0, 1) := by decide +kernel
theorem d_MSource_read_33 : decode b_MSource_read 33 = .ok (.iconst 0, 1) := by decide +kernel
theorem d_MSource_read_34 : decode b_MSource_read 34 = .ok (.putfield 77, 3) := by decide +kernel
theorem d_MSource_read_37 : decode b_MSource_read 37 = .ok (.aload_n 0, 1) := by decide +kernel
theorem d_MSource_read_38 : decode b_MSource_read 38 = .ok (.iconst 0, 1) := by decide +kernel
theorem d_MSource_read_39 : decode b_MSource_read 39 = .ok (.putfield 80, 3) := by decide +kernel
theorem d_MSource_read_42 : decode b_MSource_read 42 = .ok (.aload_n 0, 1) := by decide +kernel
theorem d_MSource_read_43 : decode b_MSource_read 43 = .ok (.iconst 0, 1) := by decide +kernel
theorem d_MSource_read_44 : decode b_MSource_read 44 = .ok (.putfield 83, 3) := by decide +kernel
theorem d_MSource_read_47 : decode b_MSource_read 47 = .ok (.aload_n 0, 1) := by decide +kernel
theorem d_MSource_read_48 : decode b_MSource_read 48 = .ok (.iconst 0, 1) := by decide +kernel
theorem d_MSource_read_49 : decode b_MSource_read 49 = .ok (.putfield 109, 3) := by decide +kernel
theorem d_MSource_read_52 : decode b_MSource_read 52 = .ok (.aload_n 0, 1) := by decide +kernel
theorem d_MSource_read_53 : decode b_MSource_read 53 = .ok (.iconst (-1), 1) := by decide +kernel
theorem d_MSource_read_54 : decode b_MSource_read 54 = .ok (.putfield 112, 3) := by decide +kernel
theorem d_MSource_read_57 : decode b_MSource_read 57 = .ok (.aload_n 0, 1) := by decide +kernel
theorem d_MSource_read_58 : decode b_MSource_read 58 = .ok (.iconst 0, 1) := by decide +kernel
theorem d_MSource_read_59 : decode b_MSource_read 59 = .ok (.putfield 115, 3) := by decide +kernel
theorem d_MSource_read_62 : decode b_MSource_read 62 = .ok (.aload_n 0, 1) := by decide +kernel
theorem d_MSource_read_63 : decode b_MSource_read 63 = .ok (.getfield 109, 3) := by decide +kernel
theorem d_MSource_read_66 : decode b_MSource_read 66 = .ok (.iload_n 2, 1) := by decide +kernel
theorem d_MSource_read_67 : decode b_MSource_read 67 = .ok (.if_icmp .ge 78, 3) := by decide +kernel
theorem d_MSource_read_145 : decode b_MSource_read 145 = .ok (.aload_n 0, 1) := by decide +kernel
theorem d_MSource_read_146 : decode b_MSource_read 146 = .ok (.getfield 112, 3) := by decide +kernel
theorem d_MSource_read_149 : decode b_MSource_read 149 = .ok (.ifCond .lt 12, 3) := by decide +kernel
theorem d_MSource_read_161 : decode b_MSource_read 161 = .ok (.return_, 1) := by decide +kernel
theorem d_MStyle_read_0 : decode b_MStyle_read 0 = .ok (.iconst 0, 1) := by decide +kernel
theorem d_MStyle_read_1 : decode b_MStyle_read 1 = .ok (.istore_n 3, 1) := by decide +kernel
theorem d_MStyle_read_2 : decode b_MStyle_read 2 = .ok (.iload_n 3, 1) := by decide +kernel
theorem d_MStyle_read_3 : decode b_MStyle_read 3 = .ok (.iload_n 2, 1) := by decide +kernel
theorem d_MStyle_read_4 : decode b_MStyle_read 4 = .ok (.if_icmp .ge 18, 3) := by decide +kernel
theorem d_MStyle_read_22 : decode b_MStyle_read 22 = .ok (.aload_n 0, 1) := by decide +kernel
theorem d_MStyle_read_23 : decode b_MStyle_read 23 = .ok (.invokevirtual 83, 3) := by decide +kernel
theorem d_MStyle_read_26 : decode b_MStyle_read 26 = .ok (.aload_n 0, 1) := by decide +kernel
theorem d_MStyle_read_27 : decode b_MStyle_read 27 = .ok (.getfield 18, 3) := by decide +kernel
theorem d_MStyle_read_30 : decode b_MStyle_read 30 = .ok (.aload_n 0, 1) := by decide +kernel
theorem d_MStyle_read_31 : decode b_MStyle_read 31 = .ok (.getfield 9, 3) := by decide +kernel
theorem d_MStyle_read_34 : decode b_MStyle_read 34 = .ok (.iload_n 2, 1) := by decide +kernel
theorem d_MStyle_read_35 : decode b_MStyle_read 35 = .ok (.invokevirtual 107, 3) := by decide +kernel
theorem d_MStyle_read_38 : decode b_MStyle_read 38 = .ok (.aload_n 0, 1) := by decide +kernel
theorem d_MStyle_read_39 : decode b_MStyle_read 39 = .ok (.getfield 18, 3) := by decide +kernel
theorem d_MStyle_read_42 : decode b_MStyle_read 42 = .ok (.getfield 111, 3) := by decide +kernel
theorem d_MStyle_read_45 : decode b_MStyle_read 45 = .ok (.iconst 5, 1) := by decide +kernel
theorem d_MStyle_read_46 : decode b_MStyle_read 46 = .ok (.if_icmp .eq 36, 3) := by decide +kernel
theorem d_MStyle_read_82 : decode b_MStyle_read 82 = .ok (.return_, 1) := by decide +kernel
theorem d_SM_font_0 : decode b_SM_font 0 = .ok (.aload_n 0, 1) := by decide +kernel
theorem d_SM_font_1 : decode b_SM_font 1 = .ok (.getfield 24, 3) := by decide +kernel
theorem d_SM_font_4 : decode b_SM_font 4 = .ok (.aload_n 0, 1) := by decide +kernel
theorem d_SM_font_5 : decode b_SM_font 5 = .ok (.getfield 13, 3) := by decide +kernel
theorem d_SM_font_8 : decode b_SM_font 8 = .ok (.aload_n 0, 1) := by decide +kernel
theorem d_SM_font_9 : decode b_SM_font 9 = .ok (.getfield 104, 3) := by decide +kernel
theorem d_SM_font_12 : decode b_SM_font 12 = .ok (.invokevirtual 118, 3) := by decide +kernel
theorem d_SM_font_15 : decode b_SM_font 15 = .ok (.goto 14, 3) := by decide +kernel
theorem d_SM_font_29 : decode b_SM_font 29 = .ok (.aload_n 0, 1) := by decide +kernel
theorem d_SM_font_30 : decode b_SM_font 30 = .ok (.iconst 0, 1) := by decide +kernel
theorem d_SM_font_31 : decode b_SM_font 31 = .ok (.putfield 87, 3) := by decide +kernel
theorem d_SM_font_34 : decode b_SM_font 34 = .ok (.aload_n 0, 1) := by decide +kernel
theorem d_SM_font_35 : decode b_SM_font 35 = .ok (.iconst (-1), 1) := by decide +kernel
theorem d_SM_font_36 : decode b_SM_font 36 = .ok (.invokevirtual 115, 3) := by decide +kernel
theorem d_SM_font_39 : decode b_SM_font 39 = .ok (.aload_n 0, 1) := by decide +kernel
theorem d_SM_font_40 : decode b_SM_font 40 = .ok (.getfield 20, 3) := by decide +kernel
theorem d_SM_font_43 : decode b_SM_font 43 = .ok (.astore_n 1, 1) := by decide +kernel
theorem d_SM_font_44 : decode b_SM_font 44 = .ok (.aload_n 0, 1) := by decide +kernel
theorem d_SM_font_45 : decode b_SM_font 45 = .ok (.aload_n 0, 1) := by decide +kernel
theorem d_SM_font_46 : decode b_SM_font 46 = .ok (.getfield 24, 3) := by decide +kernel
theorem d_SM_font_49 : decode b_SM_font 49 = .ok (.putfield 20, 3) := by decide +kernel
theorem d_SM_font_52 : decode b_SM_font 52 = .ok (.aload_n 0, 1) := by decide +kernel
theorem d_SM_font_53 : decode b_SM_font 53 = .ok (.aload_n 1, 1) := by decide +kernel
theorem d_SM_font_54 : decode b_SM_font 54 = .ok (.putfield 24, 3) := by decide +kernel
theorem d_SM_font_57 : decode b_SM_font 57 = .ok (.aload_n 0, 1) := by decide +kernel
theorem d_SM_font_58 : decode b_SM_font 58 = .ok (.getfield 20, 3) := by decide +kernel
theorem d_SM_font_61 : decode b_SM_font 61 = .ok (.invokevirtual 129, 3) := by decide +kernel
theorem d_SM_font_64 : decode b_SM_font 64 = .ok (.ireturn, 1) := by decide +kernel
theorem d_SM_hyphens_0 : decode b_SM_hyphens 0 = .ok (.aload_n 0, 1) := by decide +kernel
theorem d_SM_hyphens_1 : decode b_SM_hyphens 1 = .ok (.getfield 34, 3) := by decide +kernel
theorem d_SM_hyphens_4 : decode b_SM_hyphens 4 = .ok (.aload_n 0, 1) := by decide +kernel
theorem d_SM_hyphens_5 : decode b_SM_hyphens 5 = .ok (.getfield 13, 3) := by decide +kernel
theorem d_SM_hyphens_8 : decode b_SM_hyphens 8 = .ok (.aload_n 0, 1) := by decide +kernel
theorem d_SM_hyphens_9 : decode b_SM_hyphens 9 = .ok (.getfield 104, 3) := by decide +kernel
theorem d_SM_hyphens_12 : decode b_SM_hyphens 12 = .ok (.invokevirtual 132, 3) := by decide +kernel
theorem d_SM_hyphens_15 : decode b_SM_hyphens 15 = .ok (.goto 14, 3) := by decide +kernel
theorem d_SM_hyphens_29 : decode b_SM_hyphens 29 = .ok (.aload_n 0, 1) := by decide +kernel
theorem d_SM_hyphens_30 : decode b_SM_hyphens 30 = .ok (.iconst 0, 1) := by decide +kernel
theorem d_SM_hyphens_31 : decode b_SM_hyphens 31 = .ok (.putfield 87, 3) := by decide +kernel
theorem d_SM_hyphens_34 : decode b_SM_hyphens 34 = .ok (.aload_n 0, 1) := by decide +kernel
theorem d_SM_hyphens_35 : decode b_SM_hyphens 35 = .ok (.iconst (-1), 1) := by decide +kernel
theorem d_SM_hyphens_36 : decode b_SM_hyphens 36 = .ok (.invokevirtual 115, 3) := by decide +kernel
theorem d_SM_hyphens_39 : decode b_SM_hyphens 39 = .ok (.aload_n 0, 1) := by decide +kernel
theorem d_SM_hyphens_40 : decode b_SM_hyphens 40 = .ok (.getfield 30, 3) := by decide +kernel
theorem d_SM_hyphens_43 : decode b_SM_hyphens 43 = .ok (.astore_n 1, 1) := by decide +kernel
theorem d_SM_hyphens_44 : decode b_SM_hyphens 44 = .ok (.aload_n 0, 1) := by decide +kernel
theorem d_SM_hyphens_45 : decode b_SM_hyphens 45 = .ok (.aload_n 0, 1) := by decide +kernel
theorem d_SM_hyphens_46 : decode b_SM_hyphens 46 = .ok (.getfield 34, 3) := by decide +kernel
theorem d_SM_hyphens_49 : decode b_SM_hyphens 49 = .ok (.putfield 30, 3) := by decide +kernel
theorem d_SM_hyphens_52 : decode b_SM_hyphens 52 = .ok (.aload_n 0, 1) := by decide +kernel
theorem d_SM_hyphens_53 : decode b_SM_hyphens 53 = .ok (.aload_n 1, 1) := by decide +kernel
theorem d_SM_hyphens_54 : decode b_SM_hyphens 54 = .ok (.putfield 34, 3) := by decide +kernel
theorem d_SM_hyphens_57 : decode b_SM_hyphens 57 = .ok (.aload_n 0, 1) := by decide +kernel
theorem d_SM_hyphens_58 : decode b_SM_hyphens 58 = .ok (.getfield 30, 3) := by decide +kernel
theorem d_SM_hyphens_61 : decode b_SM_hyphens 61 = .ok (.getfield 133, 3) := by decide +kernel
theorem d_SM_hyphens_64 : decode b_SM_hyphens 64 = .ok (.aload_n 0, 1) := by decide +kernel
theorem d_SM_hyphens_65 : decode b_SM_hyphens 65 = .ok (.getfield 30, 3) := by decide +kernel
theorem d_SM_hyphens_68 : decode b_SM_hyphens 68 = .ok (.getfield 136, 3) := by decide +kernel
theorem d_SM_hyphens_71 : decode b_SM_hyphens 71 = .ok (.iadd, 1) := by decide +kernel
theorem d_SM_hyphens_72 : decode b_SM_hyphens 72 = .ok (.ireturn, 1) := by decide +kernel
theorem d_SM_source_0 : decode b_SM_source 0 = .ok (.aload_n 0, 1) := by decide +kernel
theorem d_SM_source_1 : decode b_SM_source 1 = .ok (.getfield 54, 3) := by decide +kernel
theorem d_SM_source_4 : decode b_SM_source 4 = .ok (.aload_n 0, 1) := by decide +kernel
theorem d_SM_source_5 : decode b_SM_source 5 = .ok (.getfield 13, 3) := by decide +kernel
theorem d_SM_source_8 : decode b_SM_source 8 = .ok (.aload_n 0, 1) := by decide +kernel
theorem d_SM_source_9 : decode b_SM_source 9 = .ok (.getfield 104, 3) := by decide +kernel
theorem d_SM_source_12 : decode b_SM_source 12 = .ok (.invokevirtual 150, 3) := by decide +kernel
theorem d_SM_source_15 : decode b_SM_source 15 = .ok (.goto 14, 3) := by decide +kernel
theorem d_SM_source_29 : decode b_SM_source 29 = .ok (.aload_n 0, 1) := by decide +kernel
theorem d_SM_source_30 : decode b_SM_source 30 = .ok (.invokevirtual 151, 3) := by decide +kernel
theorem d_SM_source_33 : decode b_SM_source 33 = .ok (.ireturn, 1) := by decide +kernel
theorem d_SM_style_0 : decode b_SM_style 0 = .ok (.aload_n 0, 1) := by decide +kernel
theorem d_SM_style_1 : decode b_SM_style 1 = .ok (.getfield 44, 3) := by decide +kernel
theorem d_SM_style_4 : decode b_SM_style 4 = .ok (.aload_n 0, 1) := by decide +kernel
theorem d_SM_style_5 : decode b_SM_style 5 = .ok (.getfield 13, 3) := by decide +kernel
theorem d_SM_style_8 : decode b_SM_style 8 = .ok (.aload_n 0, 1) := by decide +kernel
theorem d_SM_style_9 : decode b_SM_style 9 = .ok (.getfield 104, 3) := by decide +kernel
theorem d_SM_style_12 : decode b_SM_style 12 = .ok (.invokevirtual 139, 3) := by decide +kernel
theorem d_SM_style_15 : decode b_SM_style 15 = .ok (.goto 14, 3) := by decide +kernel
theorem d_SM_style_29 : decode b_SM_style 29 = .ok (.aload_n 0, 1) := by decide +kernel
theorem d_SM_style_30 : decode b_SM_style 30 = .ok (.iconst 0, 1) := by decide +kernel
theorem d_SM_style_31 : decode b_SM_style 31 = .ok (.putfield 87, 3) := by decide +kernel
theorem d_SM_style_34 : decode b_SM_style 34 = .ok (.aload_n 0, 1) := by decide +kernel
theorem d_SM_style_35 : decode b_SM_style 35 = .ok (.iconst (-1), 1) := by decide +kernel
theorem d_SM_style_36 : decode b_SM_style 36 = .ok (.invokevirtual 115, 3) := by decide +kernel
theorem d_SM_style_39 : decode b_SM_style 39 = .ok (.aload_n 0, 1) := by decide +kernel
theorem d_SM_style_40 : decode b_SM_style 40 = .ok (.getfield 40, 3) := by decide +kernel
theorem d_SM_style_43 : decode b_SM_style 43 = .ok (.astore_n 1, 1) := by decide +kernel
theorem d_SM_style_44 : decode b_SM_style 44 = .ok (.aload_n 0, 1) := by decide +kernel
theorem d_SM_style_45 : decode b_SM_style 45 = .ok (.aload_n 0, 1) := by decide +kernel
theorem d_SM_style_46 : decode b_SM_style 46 = .ok (.getfield 44, 3) := by decide +kernel
theorem d_SM_style_49 : decode b_SM_style 49 = .ok (.putfield 40, 3) := by decide +kernel
theorem d_SM_style_52 : decode b_SM_style 52 = .ok (.aload_n 0, 1) := by decide +kernel
theorem d_SM_style_53 : decode b_SM_style 53 = .ok (.aload_n 1, 1) := by decide +kernel
theorem d_SM_style_54 : decode b_SM_style 54 = .ok (.putfield 44, 3) := by decide +kernel
theorem d_SM_style_57 : decode b_SM_style 57 = .ok (.aload_n 0, 1) := by decide +kernel
theorem d_SM_style_58 : decode b_SM_style 58 = .ok (.iconst 0, 1) := by decide +kernel
theorem d_SM_style_59 : decode b_SM_style 59 = .ok (.putfield 140, 3) := by decide +kernel
theorem d_SM_style_62 : decode b_SM_style 62 = .ok (.aload_n 0, 1) := by decide +kernel
theorem d_SM_style_63 : decode b_SM_style 63 = .ok (.getfield 40, 3) := by decide +kernel
theorem d_SM_style_66 : decode b_SM_style 66 = .ok (.getfield 144, 3) := by decide +kernel
theorem d_SM_style_69 : decode b_SM_style 69 = .ok (.ireturn, 1) := by decide +kernel
theorem d_SM_taken_0 : decode b_SM_taken 0 = .ok (.aload_n 0, 1) := by decide +kernel
theorem d_SM_taken_1 : decode b_SM_taken 1 = .ok (.iconst 0, 1) := by decide +kernel
theorem d_SM_taken_2 : decode b_SM_taken 2 = .ok (.putfield 87, 3) := by decide +kernel
theorem d_SM_taken_5 : decode b_SM_taken 5 = .ok (.aload_n 0, 1) := by decide +kernel
theorem d_SM_taken_6 : decode b_SM_taken 6 = .ok (.iconst (-1), 1) := by decide +kernel
theorem d_SM_taken_7 : decode b_SM_taken 7 = .ok (.invokevirtual 115, 3) := by decide +kernel
theorem d_SM_taken_10 : decode b_SM_taken 10 = .ok (.aload_n 0, 1) := by decide +kernel
theorem d_SM_taken_11 : decode b_SM_taken 11 = .ok (.getfield 50, 3) := by decide +kernel
theorem d_SM_taken_14 : decode b_SM_taken 14 = .ok (.astore_n 1, 1) := by decide +kernel
theorem d_SM_taken_15 : decode b_SM_taken 15 = .ok (.aload_n 0, 1) := by decide +kernel
theorem d_SM_taken_16 : decode b_SM_taken 16 = .ok (.aload_n 0, 1) := by decide +kernel
theorem d_SM_taken_17 : decode b_SM_taken 17 = .ok (.getfield 54, 3) := by decide +kernel
theorem d_SM_taken_20 : decode b_SM_taken 20 = .ok (.putfield 50, 3) := by decide +kernel
theorem d_SM_taken_23 : decode b_SM_taken 23 = .ok (.aload_n 0, 1) := by decide +kernel
theorem d_SM_taken_24 : decode b_SM_taken 24 = .ok (.aload_n 1, 1) := by decide +kernel
theorem d_SM_taken_25 : decode b_SM_taken 25 = .ok (.putfield 54, 3) := by decide +kernel
theorem d_SM_taken_28 : decode b_SM_taken 28 = .ok (.aload_n 0, 1) := by decide +kernel
theorem d_SM_taken_29 : decode b_SM_taken 29 = .ok (.iconst 0, 1) := by decide +kernel
theorem d_SM_taken_30 : decode b_SM_taken 30 = .ok (.putfield 140, 3) := by decide +kernel
theorem d_SM_taken_33 : decode b_SM_taken 33 = .ok (.aload_n 0, 1) := by decide +kernel
theorem d_SM_taken_34 : decode b_SM_taken 34 = .ok (.getfield 50, 3) := by decide +kernel
theorem d_SM_taken_37 : decode b_SM_taken 37 = .ok (.getfield 147, 3) := by decide +kernel
theorem d_SM_taken_40 : decode b_SM_taken 40 = .ok (.ireturn, 1) := by decide +kernel
theorem d_SM_wasRead_0 : decode b_SM_wasRead 0 = .ok (.aload_n 0, 1) := by decide +kernel
theorem d_SM_wasRead_1 : decode b_SM_wasRead 1 = .ok (.iconst 0, 1) := by decide +kernel
theorem d_SM_wasRead_2 : decode b_SM_wasRead 2 = .ok (.putfield 104, 3) := by decide +kernel
theorem d_SM_wasRead_5 : decode b_SM_wasRead 5 = .ok (.aload_n 0, 1) := by decide +kernel
theorem d_SM_wasRead_6 : decode b_SM_wasRead 6 = .ok (.iload_n 1, 1) := by decide +kernel
theorem d_SM_wasRead_7 : decode b_SM_wasRead 7 = .ok (.putfield 7, 3) := by decide +kernel
theorem d_SM_wasRead_10 : decode b_SM_wasRead 10 = .ok (.return_, 1) := by decide +kernel
