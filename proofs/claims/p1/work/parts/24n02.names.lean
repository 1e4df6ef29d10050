theorem d_PStyle_read_20 : decode b_PStyle_read 20 = .ok (.bipush 6, 2) := by decide +kernel
theorem d_PStyle_read_22 : decode b_PStyle_read 22 = .ok (.invokestatic 47, 3) := by decide +kernel
theorem d_PStyle_read_25 : decode b_PStyle_read 25 = .ok (.aload_n 0, 1) := by decide +kernel
theorem d_PStyle_read_26 : decode b_PStyle_read 26 = .ok (.iconst 0, 1) := by decide +kernel
theorem d_PStyle_read_27 : decode b_PStyle_read 27 = .ok (.putfield 53, 3) := by decide +kernel
theorem d_PStyle_read_30 : decode b_PStyle_read 30 = .ok (.aload_n 0, 1) := by decide +kernel
theorem d_PStyle_read_31 : decode b_PStyle_read 31 = .ok (.iconst 0, 1) := by decide +kernel
theorem d_PStyle_read_32 : decode b_PStyle_read 32 = .ok (.putfield 57, 3) := by decide +kernel
theorem d_PStyle_read_35 : decode b_PStyle_read 35 = .ok (.aload_n 0, 1) := by decide +kernel
theorem d_PStyle_read_36 : decode b_PStyle_read 36 = .ok (.iconst 0, 1) := by decide +kernel
theorem d_PStyle_read_37 : decode b_PStyle_read 37 = .ok (.putfield 60, 3) := by decide +kernel
theorem d_PStyle_read_40 : decode b_PStyle_read 40 = .ok (.aload_n 0, 1) := by decide +kernel
theorem d_PStyle_read_41 : decode b_PStyle_read 41 = .ok (.iconst 0, 1) := by decide +kernel
theorem d_PStyle_read_42 : decode b_PStyle_read 42 = .ok (.putfield 63, 3) := by decide +kernel
theorem d_PStyle_read_45 : decode b_PStyle_read 45 = .ok (.aload_n 0, 1) := by decide +kernel
theorem d_PStyle_read_46 : decode b_PStyle_read 46 = .ok (.iconst 0, 1) := by decide +kernel
theorem d_PStyle_read_47 : decode b_PStyle_read 47 = .ok (.putfield 66, 3) := by decide +kernel
theorem d_PStyle_read_50 : decode b_PStyle_read 50 = .ok (.aload_n 3, 1) := by decide +kernel
theorem d_PStyle_read_51 : decode b_PStyle_read 51 = .ok (.aload_n 0, 1) := by decide +kernel
theorem d_PStyle_read_52 : decode b_PStyle_read 52 = .ok (.getfield 9, 3) := by decide +kernel
theorem d_PStyle_read_55 : decode b_PStyle_read 55 = .ok (.iload_n 2, 1) := by decide +kernel
theorem d_PStyle_read_56 : decode b_PStyle_read 56 = .ok (.invokevirtual 69, 3) := by decide +kernel
theorem d_PStyle_read_59 : decode b_PStyle_read 59 = .ok (.iconst 0, 1) := by decide +kernel
theorem d_PStyle_read_60 : decode b_PStyle_read 60 = .ok (.istore 4, 2) := by decide +kernel
theorem d_PStyle_read_62 : decode b_PStyle_read 62 = .ok (.iload 4, 2) := by decide +kernel
theorem d_PStyle_read_64 : decode b_PStyle_read 64 = .ok (.iload_n 2, 1) := by decide +kernel
theorem d_PStyle_read_65 : decode b_PStyle_read 65 = .ok (.if_icmp .gt 26, 3) := by decide +kernel
theorem d_PStyle_read_68 : decode b_PStyle_read 68 = .ok (.aload_n 3, 1) := by decide +kernel
theorem d_PStyle_read_69 : decode b_PStyle_read 69 = .ok (.getfield 75, 3) := by decide +kernel
theorem d_PStyle_read_72 : decode b_PStyle_read 72 = .ok (.ifCond .eq 19, 3) := by decide +kernel
theorem d_PStyle_read_91 : decode b_PStyle_read 91 = .ok (.iconst 1, 1) := by decide +kernel
theorem d_PStyle_read_92 : decode b_PStyle_read 92 = .ok (.ireturn, 1) := by decide +kernel
theorem d_SP_font_0 : decode b_SP_font 0 = .ok (.aload_n 0, 1) := by decide +kernel
theorem d_SP_font_1 : decode b_SP_font 1 = .ok (.getfield 58, 3) := by decide +kernel
theorem d_SP_font_4 : decode b_SP_font 4 = .ok (.ifnonnull 14, 3) := by decide +kernel
theorem d_SP_font_7 : decode b_SP_font 7 = .ok (.aload_n 0, 1) := by decide +kernel
theorem d_SP_font_8 : decode b_SP_font 8 = .ok (.new 31, 3) := by decide +kernel
theorem d_SP_font_11 : decode b_SP_font 11 = .ok (.dup, 1) := by decide +kernel
theorem d_SP_font_12 : decode b_SP_font 12 = .ok (.invokespecial 33, 3) := by decide +kernel
theorem d_SP_font_15 : decode b_SP_font 15 = .ok (.putfield 58, 3) := by decide +kernel
theorem d_SP_font_18 : decode b_SP_font 18 = .ok (.aload_n 0, 1) := by decide +kernel
theorem d_SP_font_19 : decode b_SP_font 19 = .ok (.getfield 20, 3) := by decide +kernel
theorem d_SP_font_22 : decode b_SP_font 22 = .ok (.aload_n 0, 1) := by decide +kernel
theorem d_SP_font_23 : decode b_SP_font 23 = .ok (.getfield 9, 3) := by decide +kernel
theorem d_SP_font_26 : decode b_SP_font 26 = .ok (.aload_n 0, 1) := by decide +kernel
theorem d_SP_font_27 : decode b_SP_font 27 = .ok (.invokevirtual 61, 3) := by decide +kernel
theorem d_SP_font_30 : decode b_SP_font 30 = .ok (.invokevirtual 65, 3) := by decide +kernel
theorem d_SP_font_33 : decode b_SP_font 33 = .ok (.aload_n 0, 1) := by decide +kernel
theorem d_SP_font_34 : decode b_SP_font 34 = .ok (.getfield 58, 3) := by decide +kernel
theorem d_SP_font_37 : decode b_SP_font 37 = .ok (.aload_n 0, 1) := by decide +kernel
theorem d_SP_font_38 : decode b_SP_font 38 = .ok (.getfield 20, 3) := by decide +kernel
theorem d_SP_font_41 : decode b_SP_font 41 = .ok (.invokevirtual 69, 3) := by decide +kernel
theorem d_SP_font_44 : decode b_SP_font 44 = .ok (.ifCond .ne 22, 3) := by decide +kernel
theorem d_SP_font_66 : decode b_SP_font 66 = .ok (.aload_n 0, 1) := by decide +kernel
theorem d_SP_font_67 : decode b_SP_font 67 = .ok (.getfield 58, 3) := by decide +kernel
theorem d_SP_font_70 : decode b_SP_font 70 = .ok (.astore_n 1, 1) := by decide +kernel
theorem d_SP_font_71 : decode b_SP_font 71 = .ok (.aload_n 0, 1) := by decide +kernel
theorem d_SP_font_72 : decode b_SP_font 72 = .ok (.aload_n 0, 1) := by decide +kernel
theorem d_SP_font_73 : decode b_SP_font 73 = .ok (.getfield 34, 3) := by decide +kernel
theorem d_SP_font_76 : decode b_SP_font 76 = .ok (.putfield 58, 3) := by decide +kernel
theorem d_SP_font_79 : decode b_SP_font 79 = .ok (.aload_n 0, 1) := by decide +kernel
theorem d_SP_font_80 : decode b_SP_font 80 = .ok (.aload_n 1, 1) := by decide +kernel
theorem d_SP_font_81 : decode b_SP_font 81 = .ok (.putfield 34, 3) := by decide +kernel
theorem d_SP_font_84 : decode b_SP_font 84 = .ok (.aload_n 1, 1) := by decide +kernel
theorem d_SP_font_85 : decode b_SP_font 85 = .ok (.getfield 79, 3) := by decide +kernel
theorem d_SP_font_88 : decode b_SP_font 88 = .ok (.aload_n 1, 1) := by decide +kernel
theorem d_SP_font_89 : decode b_SP_font 89 = .ok (.getfield 82, 3) := by decide +kernel
theorem d_SP_font_92 : decode b_SP_font 92 = .ok (.iadd, 1) := by decide +kernel
theorem d_SP_font_93 : decode b_SP_font 93 = .ok (.ireturn, 1) := by decide +kernel
theorem d_SP_hyphens_0 : decode b_SP_hyphens 0 = .ok (.aload_n 0, 1) := by decide +kernel
theorem d_SP_hyphens_1 : decode b_SP_hyphens 1 = .ok (.getfield 85, 3) := by decide +kernel
theorem d_SP_hyphens_4 : decode b_SP_hyphens 4 = .ok (.ifnonnull 14, 3) := by decide +kernel
theorem d_SP_hyphens_7 : decode b_SP_hyphens 7 = .ok (.aload_n 0, 1) := by decide +kernel
theorem d_SP_hyphens_8 : decode b_SP_hyphens 8 = .ok (.new 38, 3) := by decide +kernel
theorem d_SP_hyphens_11 : decode b_SP_hyphens 11 = .ok (.dup, 1) := by decide +kernel
theorem d_SP_hyphens_12 : decode b_SP_hyphens 12 = .ok (.invokespecial 40, 3) := by decide +kernel
theorem d_SP_hyphens_15 : decode b_SP_hyphens 15 = .ok (.putfield 85, 3) := by decide +kernel
theorem d_SP_hyphens_18 : decode b_SP_hyphens 18 = .ok (.aload_n 0, 1) := by decide +kernel
theorem d_SP_hyphens_19 : decode b_SP_hyphens 19 = .ok (.getfield 85, 3) := by decide +kernel
theorem d_SP_hyphens_22 : decode b_SP_hyphens 22 = .ok (.aload_n 0, 1) := by decide +kernel
theorem d_SP_hyphens_23 : decode b_SP_hyphens 23 = .ok (.getfield 9, 3) := by decide +kernel
theorem d_SP_hyphens_26 : decode b_SP_hyphens 26 = .ok (.aload_n 0, 1) := by decide +kernel
theorem d_SP_hyphens_27 : decode b_SP_hyphens 27 = .ok (.invokevirtual 61, 3) := by decide +kernel
theorem d_SP_hyphens_30 : decode b_SP_hyphens 30 = .ok (.invokevirtual 88, 3) := by decide +kernel
theorem d_SP_hyphens_33 : decode b_SP_hyphens 33 = .ok (.ifCond .ne 22, 3) := by decide +kernel
theorem d_SP_hyphens_55 : decode b_SP_hyphens 55 = .ok (.aload_n 0, 1) := by decide +kernel
theorem d_SP_hyphens_56 : decode b_SP_hyphens 56 = .ok (.getfield 85, 3) := by decide +kernel
theorem d_SP_hyphens_59 : decode b_SP_hyphens 59 = .ok (.astore_n 1, 1) := by decide +kernel
theorem d_SP_hyphens_60 : decode b_SP_hyphens 60 = .ok (.aload_n 0, 1) := by decide +kernel
theorem d_SP_hyphens_61 : decode b_SP_hyphens 61 = .ok (.aload_n 0, 1) := by decide +kernel
theorem d_SP_hyphens_62 : decode b_SP_hyphens 62 = .ok (.getfield 41, 3) := by decide +kernel
theorem d_SP_hyphens_65 : decode b_SP_hyphens 65 = .ok (.putfield 85, 3) := by decide +kernel
theorem d_SP_hyphens_68 : decode b_SP_hyphens 68 = .ok (.aload_n 0, 1) := by decide +kernel
theorem d_SP_hyphens_69 : decode b_SP_hyphens 69 = .ok (.aload_n 1, 1) := by decide +kernel
theorem d_SP_hyphens_70 : decode b_SP_hyphens 70 = .ok (.putfield 41, 3) := by decide +kernel
theorem d_SP_hyphens_73 : decode b_SP_hyphens 73 = .ok (.aload_n 1, 1) := by decide +kernel
theorem d_SP_hyphens_74 : decode b_SP_hyphens 74 = .ok (.getfield 94, 3) := by decide +kernel
theorem d_SP_hyphens_77 : decode b_SP_hyphens 77 = .ok (.aload_n 1, 1) := by decide +kernel
theorem d_SP_hyphens_78 : decode b_SP_hyphens 78 = .ok (.getfield 97, 3) := by decide +kernel
theorem d_SP_hyphens_81 : decode b_SP_hyphens 81 = .ok (.iadd, 1) := by decide +kernel
theorem d_SP_hyphens_82 : decode b_SP_hyphens 82 = .ok (.ireturn, 1) := by decide +kernel
theorem d_SP_makeSpareSource_0 : decode b_SP_makeSpareSource 0 = .ok (.aload_n 0, 1) := by decide +kernel
theorem d_SP_makeSpareSource_1 : decode b_SP_makeSpareSource 1 = .ok (.getfield 116, 3) := by decide +kernel
theorem d_SP_makeSpareSource_4 : decode b_SP_makeSpareSource 4 = .ok (.ifnonnull 14, 3) := by decide +kernel
theorem d_SP_makeSpareSource_7 : decode b_SP_makeSpareSource 7 = .ok (.aload_n 0, 1) := by decide +kernel
theorem d_SP_makeSpareSource_8 : decode b_SP_makeSpareSource 8 = .ok (.new 121, 3) := by decide +kernel
theorem d_SP_makeSpareSource_11 : decode b_SP_makeSpareSource 11 = .ok (.dup, 1) := by decide +kernel
theorem d_SP_makeSpareSource_12 : decode b_SP_makeSpareSource 12 = .ok (.invokespecial 296, 3) := by decide +kernel
theorem d_SP_makeSpareSource_15 : decode b_SP_makeSpareSource 15 = .ok (.putfield 116, 3) := by decide +kernel
theorem d_SP_makeSpareSource_18 : decode b_SP_makeSpareSource 18 = .ok (.return_, 1) := by decide +kernel
theorem d_SP_source_0 : decode b_SP_source 0 = .ok (.aload_n 0, 1) := by decide +kernel
theorem d_SP_source_1 : decode b_SP_source 1 = .ok (.invokevirtual 113, 3) := by decide +kernel
theorem d_SP_source_4 : decode b_SP_source 4 = .ok (.aload_n 0, 1) := by decide +kernel
theorem d_SP_source_5 : decode b_SP_source 5 = .ok (.invokevirtual 61, 3) := by decide +kernel
theorem d_SP_source_8 : decode b_SP_source 8 = .ok (.istore_n 1, 1) := by decide +kernel
theorem d_SP_source_9 : decode b_SP_source 9 = .ok (.aload_n 0, 1) := by decide +kernel
theorem d_SP_source_10 : decode b_SP_source 10 = .ok (.getfield 9, 3) := by decide +kernel
theorem d_SP_source_13 : decode b_SP_source 13 = .ok (.iconst 0, 1) := by decide +kernel
theorem d_SP_source_14 : decode b_SP_source 14 = .ok (.aload_n 0, 1) := by decide +kernel
theorem d_SP_source_15 : decode b_SP_source 15 = .ok (.getfield 116, 3) := by decide +kernel
theorem d_SP_source_18 : decode b_SP_source 18 = .ok (.getfield 120, 3) := by decide +kernel
theorem d_SP_source_21 : decode b_SP_source 21 = .ok (.iconst 0, 1) := by decide +kernel
theorem d_SP_source_22 : decode b_SP_source 22 = .ok (.iload_n 1, 1) := by decide +kernel
theorem d_SP_source_23 : decode b_SP_source 23 = .ok (.invokestatic 125, 3) := by decide +kernel
theorem d_SP_source_26 : decode b_SP_source 26 = .ok (.aload_n 0, 1) := by decide +kernel
theorem d_SP_source_27 : decode b_SP_source 27 = .ok (.iload_n 1, 1) := by decide +kernel
theorem d_SP_source_28 : decode b_SP_source 28 = .ok (.invokevirtual 131, 3) := by decide +kernel
theorem d_SP_source_31 : decode b_SP_source 31 = .ok (.ifCond .ne 11, 3) := by decide +kernel
theorem d_SP_source_42 : decode b_SP_source 42 = .ok (.aload_n 0, 1) := by decide +kernel
theorem d_SP_source_43 : decode b_SP_source 43 = .ok (.getfield 135, 3) := by decide +kernel
theorem d_SP_source_46 : decode b_SP_source 46 = .ok (.getfield 138, 3) := by decide +kernel
theorem d_SP_source_49 : decode b_SP_source 49 = .ok (.ireturn, 1) := by decide +kernel
theorem d_SP_style_0 : decode b_SP_style 0 = .ok (.aload_n 0, 1) := by decide +kernel
theorem d_SP_style_1 : decode b_SP_style 1 = .ok (.getfield 100, 3) := by decide +kernel
theorem d_SP_style_4 : decode b_SP_style 4 = .ok (.ifnonnull 14, 3) := by decide +kernel
theorem d_SP_style_7 : decode b_SP_style 7 = .ok (.aload_n 0, 1) := by decide +kernel
theorem d_SP_style_8 : decode b_SP_style 8 = .ok (.new 24, 3) := by decide +kernel
theorem d_SP_style_11 : decode b_SP_style 11 = .ok (.dup, 1) := by decide +kernel
theorem d_SP_style_12 : decode b_SP_style 12 = .ok (.invokespecial 26, 3) := by decide +kernel
theorem d_SP_style_15 : decode b_SP_style 15 = .ok (.putfield 100, 3) := by decide +kernel
theorem d_SP_style_18 : decode b_SP_style 18 = .ok (.aload_n 0, 1) := by decide +kernel
theorem d_SP_style_19 : decode b_SP_style 19 = .ok (.getfield 100, 3) := by decide +kernel
theorem d_SP_style_22 : decode b_SP_style 22 = .ok (.aload_n 0, 1) := by decide +kernel
theorem d_SP_style_23 : decode b_SP_style 23 = .ok (.getfield 9, 3) := by decide +kernel
theorem d_SP_style_26 : decode b_SP_style 26 = .ok (.aload_n 0, 1) := by decide +kernel
theorem d_SP_style_27 : decode b_SP_style 27 = .ok (.invokevirtual 61, 3) := by decide +kernel
theorem d_SP_style_30 : decode b_SP_style 30 = .ok (.aload_n 0, 1) := by decide +kernel
theorem d_SP_style_31 : decode b_SP_style 31 = .ok (.getfield 20, 3) := by decide +kernel
theorem d_SP_style_34 : decode b_SP_style 34 = .ok (.invokevirtual 103, 3) := by decide +kernel
theorem d_SP_style_37 : decode b_SP_style 37 = .ok (.ifCond .ne 22, 3) := by decide +kernel
theorem d_SP_style_59 : decode b_SP_style 59 = .ok (.aload_n 0, 1) := by decide +kernel
theorem d_SP_style_60 : decode b_SP_style 60 = .ok (.getfield 100, 3) := by decide +kernel
theorem d_SP_style_63 : decode b_SP_style 63 = .ok (.astore_n 1, 1) := by decide +kernel
theorem d_SP_style_64 : decode b_SP_style 64 = .ok (.aload_n 0, 1) := by decide +kernel
theorem d_SP_style_65 : decode b_SP_style 65 = .ok (.aload_n 0, 1) := by decide +kernel
theorem d_SP_style_66 : decode b_SP_style 66 = .ok (.getfield 27, 3) := by decide +kernel
theorem d_SP_style_69 : decode b_SP_style 69 = .ok (.putfield 100, 3) := by decide +kernel
theorem d_SP_style_72 : decode b_SP_style 72 = .ok (.aload_n 0, 1) := by decide +kernel
theorem d_SP_style_73 : decode b_SP_style 73 = .ok (.aload_n 1, 1) := by decide +kernel
theorem d_SP_style_74 : decode b_SP_style 74 = .ok (.putfield 27, 3) := by decide +kernel
