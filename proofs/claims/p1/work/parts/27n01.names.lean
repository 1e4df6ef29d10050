theorem k_4003 : Cond.methodLink "ScholarsPressLaw" 113 ⟨"ScholarsPressModel", "source", "()I"⟩ ∈ tt := tt_mem 4003 (by decide +kernel) (by decide +kernel)
theorem k_4004 : Cond.instanceMethod ⟨"ScholarsPressModel", "source", "()I"⟩ ∈ tt := tt_mem 4004 (by decide +kernel) (by decide +kernel)
theorem k_4005 : Cond.selects "ScholarsPressModel" ⟨"ScholarsPressModel", "source", "()I"⟩ ⟨"ScholarsPressModel", "source", "()I"⟩ ∈ tt := tt_mem 4005 (by decide +kernel) (by decide +kernel)
theorem k_4088 : Cond.methodLink "ScholarsPressLaw" 117 ⟨"ScholarsPressModel", "change", "(II)I"⟩ ∈ tt := tt_mem 4088 (by decide +kernel) (by decide +kernel)
theorem k_4089 : Cond.instanceMethod ⟨"ScholarsPressModel", "change", "(II)I"⟩ ∈ tt := tt_mem 4089 (by decide +kernel) (by decide +kernel)
theorem k_4090 : Cond.selects "ScholarsPressModel" ⟨"ScholarsPressModel", "change", "(II)I"⟩ ⟨"ScholarsPressModel", "change", "(II)I"⟩ ∈ tt := tt_mem 4090 (by decide +kernel) (by decide +kernel)
theorem k_4092 : Cond.methodLink "ScholarsPressLaw" 121 ⟨"ScholarsPressModel", "place", "()I"⟩ ∈ tt := tt_mem 4092 (by decide +kernel) (by decide +kernel)
theorem k_4093 : Cond.instanceMethod ⟨"ScholarsPressModel", "place", "()I"⟩ ∈ tt := tt_mem 4093 (by decide +kernel) (by decide +kernel)
theorem k_4094 : Cond.selects "ScholarsPressModel" ⟨"ScholarsPressModel", "place", "()I"⟩ ⟨"ScholarsPressModel", "place", "()I"⟩ ∈ tt := tt_mem 4094 (by decide +kernel) (by decide +kernel)
theorem k_4096 : Cond.methodLink "ScholarsPressLaw" 124 ⟨"ScholarsPressModel", "set", "(I)I"⟩ ∈ tt := tt_mem 4096 (by decide +kernel) (by decide +kernel)
theorem k_4097 : Cond.instanceMethod ⟨"ScholarsPressModel", "set", "(I)I"⟩ ∈ tt := tt_mem 4097 (by decide +kernel) (by decide +kernel)
theorem k_4098 : Cond.selects "ScholarsPressModel" ⟨"ScholarsPressModel", "set", "(I)I"⟩ ⟨"ScholarsPressModel", "set", "(I)I"⟩ ∈ tt := tt_mem 4098 (by decide +kernel) (by decide +kernel)
theorem k_4576 : Cond.methodLink "ScholarsPressLaw" 127 ⟨"ScholarsPressModel", "element", "(II)I"⟩ ∈ tt := tt_mem 4576 (by decide +kernel) (by decide +kernel)
theorem k_4577 : Cond.instanceMethod ⟨"ScholarsPressModel", "element", "(II)I"⟩ ∈ tt := tt_mem 4577 (by decide +kernel) (by decide +kernel)
theorem k_4578 : Cond.selects "ScholarsPressModel" ⟨"ScholarsPressModel", "element", "(II)I"⟩ ⟨"ScholarsPressModel", "element", "(II)I"⟩ ∈ tt := tt_mem 4578 (by decide +kernel) (by decide +kernel)
theorem k_4583 : Cond.methodLink "ScholarsPressLaw" 130 ⟨"ScholarsPressModel", "count", "(I)I"⟩ ∈ tt := tt_mem 4583 (by decide +kernel) (by decide +kernel)
theorem k_4584 : Cond.instanceMethod ⟨"ScholarsPressModel", "count", "(I)I"⟩ ∈ tt := tt_mem 4584 (by decide +kernel) (by decide +kernel)
theorem k_4585 : Cond.selects "ScholarsPressModel" ⟨"ScholarsPressModel", "count", "(I)I"⟩ ⟨"ScholarsPressModel", "count", "(I)I"⟩ ∈ tt := tt_mem 4585 (by decide +kernel) (by decide +kernel)
theorem k_4587 : Cond.methodLink "ScholarsPressLaw" 133 ⟨"ScholarsPressModel", "line", "(II)I"⟩ ∈ tt := tt_mem 4587 (by decide +kernel) (by decide +kernel)
theorem k_4588 : Cond.instanceMethod ⟨"ScholarsPressModel", "line", "(II)I"⟩ ∈ tt := tt_mem 4588 (by decide +kernel) (by decide +kernel)
theorem k_4589 : Cond.selects "ScholarsPressModel" ⟨"ScholarsPressModel", "line", "(II)I"⟩ ⟨"ScholarsPressModel", "line", "(II)I"⟩ ∈ tt := tt_mem 4589 (by decide +kernel) (by decide +kernel)
theorem k_4599 : Cond.methodLink "ScholarsPressLaw" 136 ⟨"ScholarsPressModel", "spot", "(II)J"⟩ ∈ tt := tt_mem 4599 (by decide +kernel) (by decide +kernel)
theorem k_4600 : Cond.instanceMethod ⟨"ScholarsPressModel", "spot", "(II)J"⟩ ∈ tt := tt_mem 4600 (by decide +kernel) (by decide +kernel)
theorem k_4601 : Cond.selects "ScholarsPressModel" ⟨"ScholarsPressModel", "spot", "(II)J"⟩ ⟨"ScholarsPressModel", "spot", "(II)J"⟩ ∈ tt := tt_mem 4601 (by decide +kernel) (by decide +kernel)
theorem k_4613 : Cond.methodLink "ScholarsPressLaw" 139 ⟨"ScholarsPressModel", "paragraph", "(II)J"⟩ ∈ tt := tt_mem 4613 (by decide +kernel) (by decide +kernel)
theorem k_4614 : Cond.instanceMethod ⟨"ScholarsPressModel", "paragraph", "(II)J"⟩ ∈ tt := tt_mem 4614 (by decide +kernel) (by decide +kernel)
theorem k_4615 : Cond.selects "ScholarsPressModel" ⟨"ScholarsPressModel", "paragraph", "(II)J"⟩ ⟨"ScholarsPressModel", "paragraph", "(II)J"⟩ ∈ tt := tt_mem 4615 (by decide +kernel) (by decide +kernel)
theorem k_4617 : Cond.methodLink "ScholarsPressLaw" 142 ⟨"ScholarsPressModel", "judge", "(I)J"⟩ ∈ tt := tt_mem 4617 (by decide +kernel) (by decide +kernel)
theorem k_4618 : Cond.instanceMethod ⟨"ScholarsPressModel", "judge", "(I)J"⟩ ∈ tt := tt_mem 4618 (by decide +kernel) (by decide +kernel)
theorem k_4619 : Cond.selects "ScholarsPressModel" ⟨"ScholarsPressModel", "judge", "(I)J"⟩ ⟨"ScholarsPressModel", "judge", "(I)J"⟩ ∈ tt := tt_mem 4619 (by decide +kernel) (by decide +kernel)
theorem k_4627 : Cond.methodLink "ScholarsPressLaw" 145 ⟨"ScholarsPressModel", "where", "(I)I"⟩ ∈ tt := tt_mem 4627 (by decide +kernel) (by decide +kernel)
theorem k_4628 : Cond.instanceMethod ⟨"ScholarsPressModel", "where", "(I)I"⟩ ∈ tt := tt_mem 4628 (by decide +kernel) (by decide +kernel)
theorem k_4629 : Cond.selects "ScholarsPressModel" ⟨"ScholarsPressModel", "where", "(I)I"⟩ ⟨"ScholarsPressModel", "where", "(I)I"⟩ ∈ tt := tt_mem 4629 (by decide +kernel) (by decide +kernel)
theorem k_4632 : Cond.methodLink "ScholarsPressLaw" 148 ⟨"ScholarsPressModel", "note", "(II)I"⟩ ∈ tt := tt_mem 4632 (by decide +kernel) (by decide +kernel)
theorem k_4633 : Cond.instanceMethod ⟨"ScholarsPressModel", "note", "(II)I"⟩ ∈ tt := tt_mem 4633 (by decide +kernel) (by decide +kernel)
theorem k_4634 : Cond.selects "ScholarsPressModel" ⟨"ScholarsPressModel", "note", "(II)I"⟩ ⟨"ScholarsPressModel", "note", "(II)I"⟩ ∈ tt := tt_mem 4634 (by decide +kernel) (by decide +kernel)
theorem k_4636 : Cond.methodLink "ScholarsPressLaw" 151 ⟨"ScholarsPressModel", "wavering", "(I)I"⟩ ∈ tt := tt_mem 4636 (by decide +kernel) (by decide +kernel)
theorem k_4637 : Cond.instanceMethod ⟨"ScholarsPressModel", "wavering", "(I)I"⟩ ∈ tt := tt_mem 4637 (by decide +kernel) (by decide +kernel)
theorem k_4638 : Cond.selects "ScholarsPressModel" ⟨"ScholarsPressModel", "wavering", "(I)I"⟩ ⟨"ScholarsPressModel", "wavering", "(I)I"⟩ ∈ tt := tt_mem 4638 (by decide +kernel) (by decide +kernel)
theorem k_4640 : Cond.methodLink "ScholarsPressLaw" 154 ⟨"ScholarsPressModel", "print", "(I)I"⟩ ∈ tt := tt_mem 4640 (by decide +kernel) (by decide +kernel)
theorem k_4641 : Cond.instanceMethod ⟨"ScholarsPressModel", "print", "(I)I"⟩ ∈ tt := tt_mem 4641 (by decide +kernel) (by decide +kernel)
theorem k_4642 : Cond.selects "ScholarsPressModel" ⟨"ScholarsPressModel", "print", "(I)I"⟩ ⟨"ScholarsPressModel", "print", "(I)I"⟩ ∈ tt := tt_mem 4642 (by decide +kernel) (by decide +kernel)
theorem k_4679 : Cond.methodLink "ScholarsPressLaw" 157 ⟨"ScholarsPressModel", "word", "(I)J"⟩ ∈ tt := tt_mem 4679 (by decide +kernel) (by decide +kernel)
theorem k_4680 : Cond.instanceMethod ⟨"ScholarsPressModel", "word", "(I)J"⟩ ∈ tt := tt_mem 4680 (by decide +kernel) (by decide +kernel)
theorem k_4681 : Cond.selects "ScholarsPressModel" ⟨"ScholarsPressModel", "word", "(I)J"⟩ ⟨"ScholarsPressModel", "word", "(I)J"⟩ ∈ tt := tt_mem 4681 (by decide +kernel) (by decide +kernel)
theorem d_law_23 : decode b_law 23 = .ok (.iload 4, 2) := by decide +kernel
theorem d_law_25 : decode b_law 25 = .ok (.aload_n 0, 1) := by decide +kernel
theorem d_law_26 : decode b_law 26 = .ok (.arraylength, 1) := by decide +kernel
theorem d_law_27 : decode b_law 27 = .ok (.bipush 6, 2) := by decide +kernel
theorem d_law_29 : decode b_law 29 = .ok (.isub, 1) := by decide +kernel
theorem d_law_30 : decode b_law 30 = .ok (.if_icmp .gt 1257, 3) := by decide +kernel
theorem d_law_136 : decode b_law 136 = .ok (.aload_n 1, 1) := by decide +kernel
theorem d_law_137 : decode b_law 137 = .ok (.aload_n 0, 1) := by decide +kernel
theorem d_law_138 : decode b_law 138 = .ok (.iload 4, 2) := by decide +kernel
theorem d_law_140 : decode b_law 140 = .ok (.iconst 1, 1) := by decide +kernel
theorem d_law_141 : decode b_law 141 = .ok (.iadd, 1) := by decide +kernel
theorem d_law_142 : decode b_law 142 = .ok (.iaload, 1) := by decide +kernel
theorem d_law_143 : decode b_law 143 = .ok (.aload_n 0, 1) := by decide +kernel
theorem d_law_144 : decode b_law 144 = .ok (.iload 4, 2) := by decide +kernel
theorem d_law_146 : decode b_law 146 = .ok (.iconst 2, 1) := by decide +kernel
