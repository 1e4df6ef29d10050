theorem d_SP_style_77 : decode b_SP_style 77 = .ok (.aload_n 0, 1) := by decide +kernel
theorem d_SP_style_78 : decode b_SP_style 78 = .ok (.iconst 0, 1) := by decide +kernel
theorem d_SP_style_79 : decode b_SP_style 79 = .ok (.putfield 106, 3) := by decide +kernel
theorem d_SP_style_82 : decode b_SP_style 82 = .ok (.aload_n 1, 1) := by decide +kernel
theorem d_SP_style_83 : decode b_SP_style 83 = .ok (.getfield 110, 3) := by decide +kernel
theorem d_SP_style_86 : decode b_SP_style 86 = .ok (.ireturn, 1) := by decide +kernel
theorem d_SP_takeSource_0 : decode b_SP_takeSource 0 = .ok (.aload_n 0, 1) := by decide +kernel
theorem d_SP_takeSource_1 : decode b_SP_takeSource 1 = .ok (.getfield 116, 3) := by decide +kernel
theorem d_SP_takeSource_4 : decode b_SP_takeSource 4 = .ok (.iload_n 1, 1) := by decide +kernel
theorem d_SP_takeSource_5 : decode b_SP_takeSource 5 = .ok (.invokevirtual 297, 3) := by decide +kernel
theorem d_SP_takeSource_8 : decode b_SP_takeSource 8 = .ok (.ifCond .ne 16, 3) := by decide +kernel
theorem d_SP_takeSource_24 : decode b_SP_takeSource 24 = .ok (.aload_n 0, 1) := by decide +kernel
theorem d_SP_takeSource_25 : decode b_SP_takeSource 25 = .ok (.getfield 116, 3) := by decide +kernel
theorem d_SP_takeSource_28 : decode b_SP_takeSource 28 = .ok (.astore_n 2, 1) := by decide +kernel
theorem d_SP_takeSource_29 : decode b_SP_takeSource 29 = .ok (.aload_n 0, 1) := by decide +kernel
theorem d_SP_takeSource_30 : decode b_SP_takeSource 30 = .ok (.aload_n 0, 1) := by decide +kernel
theorem d_SP_takeSource_31 : decode b_SP_takeSource 31 = .ok (.getfield 135, 3) := by decide +kernel
theorem d_SP_takeSource_34 : decode b_SP_takeSource 34 = .ok (.putfield 116, 3) := by decide +kernel
theorem d_SP_takeSource_37 : decode b_SP_takeSource 37 = .ok (.aload_n 0, 1) := by decide +kernel
theorem d_SP_takeSource_38 : decode b_SP_takeSource 38 = .ok (.aload_n 2, 1) := by decide +kernel
theorem d_SP_takeSource_39 : decode b_SP_takeSource 39 = .ok (.putfield 135, 3) := by decide +kernel
theorem d_SP_takeSource_42 : decode b_SP_takeSource 42 = .ok (.aload_n 0, 1) := by decide +kernel
theorem d_SP_takeSource_43 : decode b_SP_takeSource 43 = .ok (.iconst 0, 1) := by decide +kernel
theorem d_SP_takeSource_44 : decode b_SP_takeSource 44 = .ok (.putfield 106, 3) := by decide +kernel
theorem d_SP_takeSource_47 : decode b_SP_takeSource 47 = .ok (.iconst 1, 1) := by decide +kernel
theorem d_SP_takeSource_48 : decode b_SP_takeSource 48 = .ok (.ireturn, 1) := by decide +kernel
theorem d_SP_takeTape_0 : decode b_SP_takeTape 0 = .ok (.aload_n 0, 1) := by decide +kernel
theorem d_SP_takeTape_1 : decode b_SP_takeTape 1 = .ok (.getfield 45, 3) := by decide +kernel
theorem d_SP_takeTape_4 : decode b_SP_takeTape 4 = .ok (.istore_n 1, 1) := by decide +kernel
theorem d_SP_takeTape_5 : decode b_SP_takeTape 5 = .ok (.aload_n 0, 1) := by decide +kernel
theorem d_SP_takeTape_6 : decode b_SP_takeTape 6 = .ok (.iconst 0, 1) := by decide +kernel
theorem d_SP_takeTape_7 : decode b_SP_takeTape 7 = .ok (.putfield 45, 3) := by decide +kernel
theorem d_SP_takeTape_10 : decode b_SP_takeTape 10 = .ok (.aload_n 0, 1) := by decide +kernel
theorem d_SP_takeTape_11 : decode b_SP_takeTape 11 = .ok (.iconst (-1), 1) := by decide +kernel
theorem d_SP_takeTape_12 : decode b_SP_takeTape 12 = .ok (.putfield 13, 3) := by decide +kernel
theorem d_SP_takeTape_15 : decode b_SP_takeTape 15 = .ok (.iload_n 1, 1) := by decide +kernel
theorem d_SP_takeTape_16 : decode b_SP_takeTape 16 = .ok (.ireturn, 1) := by decide +kernel
