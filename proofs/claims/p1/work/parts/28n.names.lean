theorem k_283 : Cond.classLink "ScholarsPressLaw" 8 "ScholarsPress" ∈ tt := tt_mem 283 (by decide +kernel) (by decide +kernel)
theorem k_284 : Cond.instantiable "ScholarsPress" 21 ∈ tt := tt_mem 284 (by decide +kernel) (by decide +kernel)
theorem k_285 : Cond.methodLink "ScholarsPressLaw" 84 ⟨"ScholarsPress", "<init>", "()V"⟩ ∈ tt := tt_mem 285 (by decide +kernel) (by decide +kernel)
theorem k_286 : Cond.instanceMethod ⟨"ScholarsPress", "<init>", "()V"⟩ ∈ tt := tt_mem 286 (by decide +kernel) (by decide +kernel)
theorem k_2699 : Cond.classLink "ScholarsPressLaw" 85 "ScholarsPressModel" ∈ tt := tt_mem 2699 (by decide +kernel) (by decide +kernel)
theorem k_2700 : Cond.instantiable "ScholarsPressModel" 23 ∈ tt := tt_mem 2700 (by decide +kernel) (by decide +kernel)
theorem k_2701 : Cond.methodLink "ScholarsPressLaw" 87 ⟨"ScholarsPressModel", "<init>", "()V"⟩ ∈ tt := tt_mem 2701 (by decide +kernel) (by decide +kernel)
theorem k_2702 : Cond.instanceMethod ⟨"ScholarsPressModel", "<init>", "()V"⟩ ∈ tt := tt_mem 2702 (by decide +kernel) (by decide +kernel)
theorem d_law_0 : decode b_law 0 = .ok (.new 8, 3) := by decide +kernel
theorem d_law_3 : decode b_law 3 = .ok (.dup, 1) := by decide +kernel
theorem d_law_4 : decode b_law 4 = .ok (.invokespecial 84, 3) := by decide +kernel
theorem d_law_7 : decode b_law 7 = .ok (.astore_n 1, 1) := by decide +kernel
theorem d_law_8 : decode b_law 8 = .ok (.new 85, 3) := by decide +kernel
theorem d_law_11 : decode b_law 11 = .ok (.dup, 1) := by decide +kernel
theorem d_law_12 : decode b_law 12 = .ok (.invokespecial 87, 3) := by decide +kernel
theorem d_law_15 : decode b_law 15 = .ok (.astore_n 2, 1) := by decide +kernel
theorem d_law_16 : decode b_law 16 = .ok (.iconst 1, 1) := by decide +kernel
theorem d_law_17 : decode b_law 17 = .ok (.newarray .long, 2) := by decide +kernel
theorem d_law_19 : decode b_law 19 = .ok (.astore_n 3, 1) := by decide +kernel
theorem d_law_20 : decode b_law 20 = .ok (.iconst 0, 1) := by decide +kernel
theorem d_law_21 : decode b_law 21 = .ok (.istore 4, 2) := by decide +kernel
theorem d_law_33 : decode b_law 33 = .ok (.aload_n 0, 1) := by decide +kernel
theorem d_law_34 : decode b_law 34 = .ok (.iload 4, 2) := by decide +kernel
theorem d_law_36 : decode b_law 36 = .ok (.iaload, 1) := by decide +kernel
theorem d_law_37 : decode b_law 37 = .ok (.bipush 31, 2) := by decide +kernel
theorem d_law_39 : decode b_law 39 = .ok (.iand, 1) := by decide +kernel
theorem d_law_40 : decode b_law 40 = .ok (.tableswitch 1241 0 19 #[96, 200, 256, 300, 344, 388, 432, 500, 513, 569, 637, 693, 761, 828, 895, 950, 1006, 1074, 1130, 1186], 96) := by decide +kernel
