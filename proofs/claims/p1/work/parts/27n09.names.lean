theorem d_law_953 : decode b_law 953 = .ok (.iadd, 1) := by decide +kernel
theorem d_law_954 : decode b_law 954 = .ok (.iaload, 1) := by decide +kernel
theorem d_law_955 : decode b_law 955 = .ok (.invokevirtual 142, 3) := by decide +kernel
theorem d_law_958 : decode b_law 958 = .ok (.lstore 6, 2) := by decide +kernel
theorem d_law_960 : decode b_law 960 = .ok (.aload_n 2, 1) := by decide +kernel
theorem d_law_961 : decode b_law 961 = .ok (.invokevirtual 94, 3) := by decide +kernel
theorem d_law_964 : decode b_law 964 = .ok (.iload 5, 2) := by decide +kernel
theorem d_law_966 : decode b_law 966 = .ok (.if_icmp .eq 5, 3) := by decide +kernel
theorem d_law_971 : decode b_law 971 = .ok (.iload 5, 2) := by decide +kernel
theorem d_law_973 : decode b_law 973 = .ok (.ifCond .ne 14, 3) := by decide +kernel
theorem d_law_987 : decode b_law 987 = .ok (.goto 294, 3) := by decide +kernel
theorem d_law_990 : decode b_law 990 = .ok (.aload_n 1, 1) := by decide +kernel
theorem d_law_991 : decode b_law 991 = .ok (.aload_n 0, 1) := by decide +kernel
theorem d_law_992 : decode b_law 992 = .ok (.iload 4, 2) := by decide +kernel
theorem d_law_994 : decode b_law 994 = .ok (.iconst 1, 1) := by decide +kernel
theorem d_law_995 : decode b_law 995 = .ok (.iadd, 1) := by decide +kernel
theorem d_law_996 : decode b_law 996 = .ok (.iaload, 1) := by decide +kernel
theorem d_law_997 : decode b_law 997 = .ok (.aload_n 3, 1) := by decide +kernel
theorem d_law_998 : decode b_law 998 = .ok (.invokestatic 143, 3) := by decide +kernel
theorem d_law_1001 : decode b_law 1001 = .ok (.istore 5, 2) := by decide +kernel
theorem d_law_1003 : decode b_law 1003 = .ok (.aload_n 2, 1) := by decide +kernel
theorem d_law_1004 : decode b_law 1004 = .ok (.aload_n 0, 1) := by decide +kernel
theorem d_law_1005 : decode b_law 1005 = .ok (.iload 4, 2) := by decide +kernel
theorem d_law_1007 : decode b_law 1007 = .ok (.iconst 1, 1) := by decide +kernel
theorem d_law_1008 : decode b_law 1008 = .ok (.iadd, 1) := by decide +kernel
theorem d_law_1009 : decode b_law 1009 = .ok (.iaload, 1) := by decide +kernel
theorem d_law_1010 : decode b_law 1010 = .ok (.invokevirtual 145, 3) := by decide +kernel
theorem d_law_1013 : decode b_law 1013 = .ok (.istore 6, 2) := by decide +kernel
theorem d_law_1015 : decode b_law 1015 = .ok (.aload_n 2, 1) := by decide +kernel
theorem d_law_1016 : decode b_law 1016 = .ok (.invokevirtual 94, 3) := by decide +kernel
theorem d_law_1019 : decode b_law 1019 = .ok (.iload 5, 2) := by decide +kernel
theorem d_law_1021 : decode b_law 1021 = .ok (.if_icmp .eq 5, 3) := by decide +kernel
theorem d_law_1026 : decode b_law 1026 = .ok (.iload 5, 2) := by decide +kernel
theorem d_law_1028 : decode b_law 1028 = .ok (.ifCond .ne 15, 3) := by decide +kernel
theorem d_law_1043 : decode b_law 1043 = .ok (.goto 238, 3) := by decide +kernel
theorem d_law_1046 : decode b_law 1046 = .ok (.aload_n 1, 1) := by decide +kernel
theorem d_law_1047 : decode b_law 1047 = .ok (.aload_n 0, 1) := by decide +kernel
theorem d_law_1048 : decode b_law 1048 = .ok (.iload 4, 2) := by decide +kernel
theorem d_law_1050 : decode b_law 1050 = .ok (.iconst 1, 1) := by decide +kernel
theorem d_law_1051 : decode b_law 1051 = .ok (.iadd, 1) := by decide +kernel
theorem d_law_1052 : decode b_law 1052 = .ok (.iaload, 1) := by decide +kernel
theorem d_law_1053 : decode b_law 1053 = .ok (.aload_n 0, 1) := by decide +kernel
theorem d_law_1054 : decode b_law 1054 = .ok (.iload 4, 2) := by decide +kernel
theorem d_law_1056 : decode b_law 1056 = .ok (.iconst 2, 1) := by decide +kernel
theorem d_law_1057 : decode b_law 1057 = .ok (.iadd, 1) := by decide +kernel
theorem d_law_1058 : decode b_law 1058 = .ok (.iaload, 1) := by decide +kernel
theorem d_law_1059 : decode b_law 1059 = .ok (.aload_n 3, 1) := by decide +kernel
theorem d_law_1060 : decode b_law 1060 = .ok (.invokestatic 146, 3) := by decide +kernel
theorem d_law_1063 : decode b_law 1063 = .ok (.istore 5, 2) := by decide +kernel
theorem d_law_1065 : decode b_law 1065 = .ok (.aload_n 2, 1) := by decide +kernel
theorem d_law_1066 : decode b_law 1066 = .ok (.aload_n 0, 1) := by decide +kernel
theorem d_law_1067 : decode b_law 1067 = .ok (.iload 4, 2) := by decide +kernel
theorem d_law_1069 : decode b_law 1069 = .ok (.iconst 1, 1) := by decide +kernel
theorem d_law_1070 : decode b_law 1070 = .ok (.iadd, 1) := by decide +kernel
theorem d_law_1071 : decode b_law 1071 = .ok (.iaload, 1) := by decide +kernel
theorem d_law_1072 : decode b_law 1072 = .ok (.aload_n 0, 1) := by decide +kernel
theorem d_law_1073 : decode b_law 1073 = .ok (.iload 4, 2) := by decide +kernel
theorem d_law_1075 : decode b_law 1075 = .ok (.iconst 2, 1) := by decide +kernel
theorem d_law_1076 : decode b_law 1076 = .ok (.iadd, 1) := by decide +kernel
theorem d_law_1077 : decode b_law 1077 = .ok (.iaload, 1) := by decide +kernel
