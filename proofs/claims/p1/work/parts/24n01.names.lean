theorem d_PFont_read_50 : decode b_PFont_read 50 = .ok (.aload_n 0, 1) := by decide +kernel
theorem d_PFont_read_51 : decode b_PFont_read 51 = .ok (.iconst 0, 1) := by decide +kernel
theorem d_PFont_read_52 : decode b_PFont_read 52 = .ok (.putfield 39, 3) := by decide +kernel
theorem d_PFont_read_55 : decode b_PFont_read 55 = .ok (.iconst 0, 1) := by decide +kernel
theorem d_PFont_read_56 : decode b_PFont_read 56 = .ok (.istore_n 2, 1) := by decide +kernel
theorem d_PFont_read_57 : decode b_PFont_read 57 = .ok (.iload_n 2, 1) := by decide +kernel
theorem d_PFont_read_58 : decode b_PFont_read 58 = .ok (.aload_n 1, 1) := by decide +kernel
theorem d_PFont_read_59 : decode b_PFont_read 59 = .ok (.getfield 42, 3) := by decide +kernel
theorem d_PFont_read_62 : decode b_PFont_read 62 = .ok (.if_icmp .gt 26, 3) := by decide +kernel
theorem d_PFont_read_65 : decode b_PFont_read 65 = .ok (.aload_n 1, 1) := by decide +kernel
theorem d_PFont_read_66 : decode b_PFont_read 66 = .ok (.getfield 47, 3) := by decide +kernel
theorem d_PFont_read_69 : decode b_PFont_read 69 = .ok (.ifCond .eq 19, 3) := by decide +kernel
theorem d_PFont_read_88 : decode b_PFont_read 88 = .ok (.iconst 1, 1) := by decide +kernel
theorem d_PFont_read_89 : decode b_PFont_read 89 = .ok (.ireturn, 1) := by decide +kernel
theorem d_PHyphens_read_0 : decode b_PHyphens_read 0 = .ok (.aload_n 0, 1) := by decide +kernel
theorem d_PHyphens_read_1 : decode b_PHyphens_read 1 = .ok (.iconst 2, 1) := by decide +kernel
theorem d_PHyphens_read_2 : decode b_PHyphens_read 2 = .ok (.putfield 7, 3) := by decide +kernel
theorem d_PHyphens_read_5 : decode b_PHyphens_read 5 = .ok (.aload_n 0, 1) := by decide +kernel
theorem d_PHyphens_read_6 : decode b_PHyphens_read 6 = .ok (.iconst 3, 1) := by decide +kernel
theorem d_PHyphens_read_7 : decode b_PHyphens_read 7 = .ok (.putfield 13, 3) := by decide +kernel
theorem d_PHyphens_read_10 : decode b_PHyphens_read 10 = .ok (.aload_n 0, 1) := by decide +kernel
theorem d_PHyphens_read_11 : decode b_PHyphens_read 11 = .ok (.iconst 0, 1) := by decide +kernel
theorem d_PHyphens_read_12 : decode b_PHyphens_read 12 = .ok (.putfield 48, 3) := by decide +kernel
theorem d_PHyphens_read_15 : decode b_PHyphens_read 15 = .ok (.aload_n 0, 1) := by decide +kernel
theorem d_PHyphens_read_16 : decode b_PHyphens_read 16 = .ok (.iconst 0, 1) := by decide +kernel
theorem d_PHyphens_read_17 : decode b_PHyphens_read 17 = .ok (.putfield 52, 3) := by decide +kernel
theorem d_PHyphens_read_20 : decode b_PHyphens_read 20 = .ok (.aload_n 0, 1) := by decide +kernel
theorem d_PHyphens_read_21 : decode b_PHyphens_read 21 = .ok (.iconst 0, 1) := by decide +kernel
theorem d_PHyphens_read_22 : decode b_PHyphens_read 22 = .ok (.putfield 55, 3) := by decide +kernel
theorem d_PHyphens_read_25 : decode b_PHyphens_read 25 = .ok (.aload_n 0, 1) := by decide +kernel
theorem d_PHyphens_read_26 : decode b_PHyphens_read 26 = .ok (.getfield 30, 3) := by decide +kernel
theorem d_PHyphens_read_29 : decode b_PHyphens_read 29 = .ok (.iconst (-1), 1) := by decide +kernel
theorem d_PHyphens_read_30 : decode b_PHyphens_read 30 = .ok (.invokestatic 42, 3) := by decide +kernel
theorem d_PHyphens_read_33 : decode b_PHyphens_read 33 = .ok (.aload_n 0, 1) := by decide +kernel
theorem d_PHyphens_read_34 : decode b_PHyphens_read 34 = .ok (.iconst 0, 1) := by decide +kernel
theorem d_PHyphens_read_35 : decode b_PHyphens_read 35 = .ok (.putfield 58, 3) := by decide +kernel
theorem d_PHyphens_read_38 : decode b_PHyphens_read 38 = .ok (.iconst 0, 1) := by decide +kernel
theorem d_PHyphens_read_39 : decode b_PHyphens_read 39 = .ok (.istore_n 3, 1) := by decide +kernel
theorem d_PHyphens_read_40 : decode b_PHyphens_read 40 = .ok (.iload_n 3, 1) := by decide +kernel
theorem d_PHyphens_read_41 : decode b_PHyphens_read 41 = .ok (.iload_n 2, 1) := by decide +kernel
theorem d_PHyphens_read_42 : decode b_PHyphens_read 42 = .ok (.if_icmp .gt 109, 3) := by decide +kernel
theorem d_PHyphens_read_45 : decode b_PHyphens_read 45 = .ok (.aload_n 0, 1) := by decide +kernel
theorem d_PHyphens_read_46 : decode b_PHyphens_read 46 = .ok (.aload_n 1, 1) := by decide +kernel
theorem d_PHyphens_read_47 : decode b_PHyphens_read 47 = .ok (.aload_n 0, 1) := by decide +kernel
theorem d_PHyphens_read_48 : decode b_PHyphens_read 48 = .ok (.getfield 58, 3) := by decide +kernel
theorem d_PHyphens_read_51 : decode b_PHyphens_read 51 = .ok (.iload_n 2, 1) := by decide +kernel
theorem d_PHyphens_read_52 : decode b_PHyphens_read 52 = .ok (.invokestatic 61, 3) := by decide +kernel
theorem d_PHyphens_read_55 : decode b_PHyphens_read 55 = .ok (.putfield 58, 3) := by decide +kernel
theorem d_PHyphens_read_58 : decode b_PHyphens_read 58 = .ok (.aload_n 0, 1) := by decide +kernel
theorem d_PHyphens_read_59 : decode b_PHyphens_read 59 = .ok (.getfield 58, 3) := by decide +kernel
theorem d_PHyphens_read_62 : decode b_PHyphens_read 62 = .ok (.iload_n 2, 1) := by decide +kernel
theorem d_PHyphens_read_63 : decode b_PHyphens_read 63 = .ok (.if_icmp .lt 16, 3) := by decide +kernel
theorem d_PHyphens_read_66 : decode b_PHyphens_read 66 = .ok (.aload_n 0, 1) := by decide +kernel
theorem d_PHyphens_read_67 : decode b_PHyphens_read 67 = .ok (.getfield 48, 3) := by decide +kernel
theorem d_PHyphens_read_70 : decode b_PHyphens_read 70 = .ok (.ifCond .ne 7, 3) := by decide +kernel
theorem d_PHyphens_read_73 : decode b_PHyphens_read 73 = .ok (.iconst 1, 1) := by decide +kernel
theorem d_PHyphens_read_74 : decode b_PHyphens_read 74 = .ok (.goto 4, 3) := by decide +kernel
theorem d_PHyphens_read_78 : decode b_PHyphens_read 78 = .ok (.ireturn, 1) := by decide +kernel
theorem d_PSigns_begin_0 : decode b_PSigns_begin 0 = .ok (.aload_n 0, 1) := by decide +kernel
theorem d_PSigns_begin_1 : decode b_PSigns_begin 1 = .ok (.aload_n 1, 1) := by decide +kernel
theorem d_PSigns_begin_2 : decode b_PSigns_begin 2 = .ok (.putfield 21, 3) := by decide +kernel
theorem d_PSigns_begin_5 : decode b_PSigns_begin 5 = .ok (.aload_n 0, 1) := by decide +kernel
theorem d_PSigns_begin_6 : decode b_PSigns_begin 6 = .ok (.iload_n 2, 1) := by decide +kernel
theorem d_PSigns_begin_7 : decode b_PSigns_begin 7 = .ok (.putfield 27, 3) := by decide +kernel
theorem d_PSigns_begin_10 : decode b_PSigns_begin 10 = .ok (.aload_n 0, 1) := by decide +kernel
theorem d_PSigns_begin_11 : decode b_PSigns_begin 11 = .ok (.iconst 0, 1) := by decide +kernel
theorem d_PSigns_begin_12 : decode b_PSigns_begin 12 = .ok (.putfield 30, 3) := by decide +kernel
theorem d_PSigns_begin_15 : decode b_PSigns_begin 15 = .ok (.aload_n 0, 1) := by decide +kernel
theorem d_PSigns_begin_16 : decode b_PSigns_begin 16 = .ok (.invokevirtual 33, 3) := by decide +kernel
theorem d_PSigns_begin_19 : decode b_PSigns_begin 19 = .ok (.return_, 1) := by decide +kernel
theorem d_PSigns_behindBlanks_0 : decode b_PSigns_behindBlanks 0 = .ok (.iload_n 1, 1) := by decide +kernel
theorem d_PSigns_behindBlanks_1 : decode b_PSigns_behindBlanks 1 = .ok (.istore_n 3, 1) := by decide +kernel
theorem d_PSigns_behindBlanks_2 : decode b_PSigns_behindBlanks 2 = .ok (.iload_n 3, 1) := by decide +kernel
theorem d_PSigns_behindBlanks_3 : decode b_PSigns_behindBlanks 3 = .ok (.iload_n 2, 1) := by decide +kernel
theorem d_PSigns_behindBlanks_4 : decode b_PSigns_behindBlanks 4 = .ok (.if_icmp .ge 25, 3) := by decide +kernel
theorem d_PSigns_behindBlanks_29 : decode b_PSigns_behindBlanks 29 = .ok (.iload_n 3, 1) := by decide +kernel
theorem d_PSigns_behindBlanks_30 : decode b_PSigns_behindBlanks 30 = .ok (.ireturn, 1) := by decide +kernel
theorem d_PSigns_next_0 : decode b_PSigns_next 0 = .ok (.aload_n 0, 1) := by decide +kernel
theorem d_PSigns_next_1 : decode b_PSigns_next 1 = .ok (.aload_n 0, 1) := by decide +kernel
theorem d_PSigns_next_2 : decode b_PSigns_next 2 = .ok (.getfield 21, 3) := by decide +kernel
theorem d_PSigns_next_5 : decode b_PSigns_next 5 = .ok (.aload_n 0, 1) := by decide +kernel
theorem d_PSigns_next_6 : decode b_PSigns_next 6 = .ok (.getfield 30, 3) := by decide +kernel
theorem d_PSigns_next_9 : decode b_PSigns_next 9 = .ok (.aload_n 0, 1) := by decide +kernel
theorem d_PSigns_next_10 : decode b_PSigns_next 10 = .ok (.getfield 27, 3) := by decide +kernel
theorem d_PSigns_next_13 : decode b_PSigns_next 13 = .ok (.invokestatic 42, 3) := by decide +kernel
theorem d_PSigns_next_16 : decode b_PSigns_next 16 = .ok (.putfield 30, 3) := by decide +kernel
theorem d_PSigns_next_19 : decode b_PSigns_next 19 = .ok (.aload_n 0, 1) := by decide +kernel
theorem d_PSigns_next_20 : decode b_PSigns_next 20 = .ok (.aload_n 0, 1) := by decide +kernel
theorem d_PSigns_next_21 : decode b_PSigns_next 21 = .ok (.getfield 30, 3) := by decide +kernel
theorem d_PSigns_next_24 : decode b_PSigns_next 24 = .ok (.putfield 46, 3) := by decide +kernel
theorem d_PSigns_next_27 : decode b_PSigns_next 27 = .ok (.aload_n 0, 1) := by decide +kernel
theorem d_PSigns_next_28 : decode b_PSigns_next 28 = .ok (.getfield 30, 3) := by decide +kernel
theorem d_PSigns_next_31 : decode b_PSigns_next 31 = .ok (.aload_n 0, 1) := by decide +kernel
theorem d_PSigns_next_32 : decode b_PSigns_next 32 = .ok (.getfield 27, 3) := by decide +kernel
theorem d_PSigns_next_35 : decode b_PSigns_next 35 = .ok (.if_icmp .ge 19, 3) := by decide +kernel
theorem d_PSigns_next_54 : decode b_PSigns_next 54 = .ok (.iconst (-1), 1) := by decide +kernel
theorem d_PSigns_next_55 : decode b_PSigns_next 55 = .ok (.istore_n 1, 1) := by decide +kernel
theorem d_PSigns_next_56 : decode b_PSigns_next 56 = .ok (.iload_n 1, 1) := by decide +kernel
theorem d_PSigns_next_57 : decode b_PSigns_next 57 = .ok (.ifCond .ge 11, 3) := by decide +kernel
theorem d_PSigns_next_60 : decode b_PSigns_next 60 = .ok (.aload_n 0, 1) := by decide +kernel
theorem d_PSigns_next_61 : decode b_PSigns_next 61 = .ok (.iconst 0, 1) := by decide +kernel
theorem d_PSigns_next_62 : decode b_PSigns_next 62 = .ok (.putfield 36, 3) := by decide +kernel
theorem d_PSigns_next_65 : decode b_PSigns_next 65 = .ok (.goto 358, 3) := by decide +kernel
theorem d_PSigns_next_423 : decode b_PSigns_next 423 = .ok (.return_, 1) := by decide +kernel
theorem d_PSource_read_0 : decode b_PSource_read 0 = .ok (.aload_n 0, 1) := by decide +kernel
theorem d_PSource_read_1 : decode b_PSource_read 1 = .ok (.iload_n 1, 1) := by decide +kernel
theorem d_PSource_read_2 : decode b_PSource_read 2 = .ok (.putfield 65, 3) := by decide +kernel
theorem d_PSource_read_5 : decode b_PSource_read 5 = .ok (.aload_n 0, 1) := by decide +kernel
theorem d_PSource_read_6 : decode b_PSource_read 6 = .ok (.iconst 0, 1) := by decide +kernel
theorem d_PSource_read_7 : decode b_PSource_read 7 = .ok (.putfield 67, 3) := by decide +kernel
theorem d_PSource_read_10 : decode b_PSource_read 10 = .ok (.aload_n 0, 1) := by decide +kernel
theorem d_PSource_read_11 : decode b_PSource_read 11 = .ok (.iconst 0, 1) := by decide +kernel
theorem d_PSource_read_12 : decode b_PSource_read 12 = .ok (.putfield 70, 3) := by decide +kernel
theorem d_PSource_read_15 : decode b_PSource_read 15 = .ok (.aload_n 0, 1) := by decide +kernel
theorem d_PSource_read_16 : decode b_PSource_read 16 = .ok (.iconst 0, 1) := by decide +kernel
theorem d_PSource_read_17 : decode b_PSource_read 17 = .ok (.putfield 73, 3) := by decide +kernel
theorem d_PSource_read_20 : decode b_PSource_read 20 = .ok (.aload_n 0, 1) := by decide +kernel
theorem d_PSource_read_21 : decode b_PSource_read 21 = .ok (.iconst 0, 1) := by decide +kernel
theorem d_PSource_read_22 : decode b_PSource_read 22 = .ok (.putfield 76, 3) := by decide +kernel
theorem d_PSource_read_25 : decode b_PSource_read 25 = .ok (.aload_n 0, 1) := by decide +kernel
theorem d_PSource_read_26 : decode b_PSource_read 26 = .ok (.iconst 0, 1) := by decide +kernel
theorem d_PSource_read_27 : decode b_PSource_read 27 = .ok (.putfield 79, 3) := by decide +kernel
theorem d_PSource_read_30 : decode b_PSource_read 30 = .ok (.aload_n 0, 1) := by decide +kernel
theorem d_PSource_read_31 : decode b_PSource_read 31 = .ok (.iconst (-1), 1) := by decide +kernel
theorem d_PSource_read_32 : decode b_PSource_read 32 = .ok (.putfield 82, 3) := by decide +kernel
theorem d_PSource_read_35 : decode b_PSource_read 35 = .ok (.aload_n 0, 1) := by decide +kernel
theorem d_PSource_read_36 : decode b_PSource_read 36 = .ok (.iconst 0, 1) := by decide +kernel
theorem d_PSource_read_37 : decode b_PSource_read 37 = .ok (.putfield 85, 3) := by decide +kernel
theorem d_PSource_read_40 : decode b_PSource_read 40 = .ok (.aload_n 0, 1) := by decide +kernel
theorem d_PSource_read_41 : decode b_PSource_read 41 = .ok (.iconst (-1), 1) := by decide +kernel
theorem d_PSource_read_42 : decode b_PSource_read 42 = .ok (.putfield 42, 3) := by decide +kernel
theorem d_PSource_read_45 : decode b_PSource_read 45 = .ok (.iconst 0, 1) := by decide +kernel
theorem d_PSource_read_46 : decode b_PSource_read 46 = .ok (.istore_n 2, 1) := by decide +kernel
theorem d_PSource_read_47 : decode b_PSource_read 47 = .ok (.iload_n 2, 1) := by decide +kernel
theorem d_PSource_read_48 : decode b_PSource_read 48 = .ok (.aload_n 0, 1) := by decide +kernel
theorem d_PSource_read_49 : decode b_PSource_read 49 = .ok (.getfield 65, 3) := by decide +kernel
theorem d_PSource_read_52 : decode b_PSource_read 52 = .ok (.if_icmp .gt 126, 3) := by decide +kernel
theorem d_PSource_read_55 : decode b_PSource_read 55 = .ok (.aload_n 0, 1) := by decide +kernel
theorem d_PSource_read_56 : decode b_PSource_read 56 = .ok (.getfield 79, 3) := by decide +kernel
theorem d_PSource_read_59 : decode b_PSource_read 59 = .ok (.aload_n 0, 1) := by decide +kernel
theorem d_PSource_read_60 : decode b_PSource_read 60 = .ok (.getfield 65, 3) := by decide +kernel
theorem d_PSource_read_63 : decode b_PSource_read 63 = .ok (.if_icmp .ge 115, 3) := by decide +kernel
theorem d_PSource_read_178 : decode b_PSource_read 178 = .ok (.aload_n 0, 1) := by decide +kernel
theorem d_PSource_read_179 : decode b_PSource_read 179 = .ok (.getfield 82, 3) := by decide +kernel
theorem d_PSource_read_182 : decode b_PSource_read 182 = .ok (.ifCond .ge 7, 3) := by decide +kernel
theorem d_PSource_read_185 : decode b_PSource_read 185 = .ok (.iconst 1, 1) := by decide +kernel
theorem d_PSource_read_186 : decode b_PSource_read 186 = .ok (.goto 4, 3) := by decide +kernel
theorem d_PSource_read_190 : decode b_PSource_read 190 = .ok (.ireturn, 1) := by decide +kernel
theorem d_PStyle_read_0 : decode b_PStyle_read 0 = .ok (.aload_n 1, 1) := by decide +kernel
theorem d_PStyle_read_1 : decode b_PStyle_read 1 = .ok (.iconst 0, 1) := by decide +kernel
theorem d_PStyle_read_2 : decode b_PStyle_read 2 = .ok (.aload_n 0, 1) := by decide +kernel
theorem d_PStyle_read_3 : decode b_PStyle_read 3 = .ok (.getfield 9, 3) := by decide +kernel
theorem d_PStyle_read_6 : decode b_PStyle_read 6 = .ok (.iconst 0, 1) := by decide +kernel
theorem d_PStyle_read_7 : decode b_PStyle_read 7 = .ok (.iload_n 2, 1) := by decide +kernel
theorem d_PStyle_read_8 : decode b_PStyle_read 8 = .ok (.invokestatic 47, 3) := by decide +kernel
theorem d_PStyle_read_11 : decode b_PStyle_read 11 = .ok (.getstatic 44, 3) := by decide +kernel
theorem d_PStyle_read_14 : decode b_PStyle_read 14 = .ok (.iconst 0, 1) := by decide +kernel
theorem d_PStyle_read_15 : decode b_PStyle_read 15 = .ok (.aload_n 0, 1) := by decide +kernel
theorem d_PStyle_read_16 : decode b_PStyle_read 16 = .ok (.getfield 15, 3) := by decide +kernel
theorem d_PStyle_read_19 : decode b_PStyle_read 19 = .ok (.iconst 0, 1) := by decide +kernel
