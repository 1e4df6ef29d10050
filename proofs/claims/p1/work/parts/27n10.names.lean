theorem d_law_1078 : decode b_law 1078 = .ok (.invokevirtual 148, 3) := by decide +kernel
theorem d_law_1081 : decode b_law 1081 = .ok (.istore 6, 2) := by decide +kernel
theorem d_law_1083 : decode b_law 1083 = .ok (.aload_n 2, 1) := by decide +kernel
theorem d_law_1084 : decode b_law 1084 = .ok (.invokevirtual 94, 3) := by decide +kernel
theorem d_law_1087 : decode b_law 1087 = .ok (.iload 5, 2) := by decide +kernel
theorem d_law_1089 : decode b_law 1089 = .ok (.if_icmp .eq 5, 3) := by decide +kernel
theorem d_law_1094 : decode b_law 1094 = .ok (.iload 5, 2) := by decide +kernel
theorem d_law_1096 : decode b_law 1096 = .ok (.ifCond .ne 15, 3) := by decide +kernel
theorem d_law_1111 : decode b_law 1111 = .ok (.goto 170, 3) := by decide +kernel
theorem d_law_1114 : decode b_law 1114 = .ok (.aload_n 1, 1) := by decide +kernel
theorem d_law_1115 : decode b_law 1115 = .ok (.aload_n 0, 1) := by decide +kernel
theorem d_law_1116 : decode b_law 1116 = .ok (.iload 4, 2) := by decide +kernel
theorem d_law_1118 : decode b_law 1118 = .ok (.iconst 1, 1) := by decide +kernel
theorem d_law_1119 : decode b_law 1119 = .ok (.iadd, 1) := by decide +kernel
theorem d_law_1120 : decode b_law 1120 = .ok (.iaload, 1) := by decide +kernel
theorem d_law_1121 : decode b_law 1121 = .ok (.aload_n 3, 1) := by decide +kernel
theorem d_law_1122 : decode b_law 1122 = .ok (.invokestatic 149, 3) := by decide +kernel
theorem d_law_1125 : decode b_law 1125 = .ok (.istore 5, 2) := by decide +kernel
theorem d_law_1127 : decode b_law 1127 = .ok (.aload_n 2, 1) := by decide +kernel
theorem d_law_1128 : decode b_law 1128 = .ok (.aload_n 0, 1) := by decide +kernel
theorem d_law_1129 : decode b_law 1129 = .ok (.iload 4, 2) := by decide +kernel
theorem d_law_1131 : decode b_law 1131 = .ok (.iconst 1, 1) := by decide +kernel
theorem d_law_1132 : decode b_law 1132 = .ok (.iadd, 1) := by decide +kernel
theorem d_law_1133 : decode b_law 1133 = .ok (.iaload, 1) := by decide +kernel
theorem d_law_1134 : decode b_law 1134 = .ok (.invokevirtual 151, 3) := by decide +kernel
theorem d_law_1137 : decode b_law 1137 = .ok (.istore 6, 2) := by decide +kernel
theorem d_law_1139 : decode b_law 1139 = .ok (.aload_n 2, 1) := by decide +kernel
theorem d_law_1140 : decode b_law 1140 = .ok (.invokevirtual 94, 3) := by decide +kernel
theorem d_law_1143 : decode b_law 1143 = .ok (.iload 5, 2) := by decide +kernel
theorem d_law_1145 : decode b_law 1145 = .ok (.if_icmp .eq 5, 3) := by decide +kernel
theorem d_law_1150 : decode b_law 1150 = .ok (.iload 5, 2) := by decide +kernel
theorem d_law_1152 : decode b_law 1152 = .ok (.ifCond .ne 15, 3) := by decide +kernel
theorem d_law_1167 : decode b_law 1167 = .ok (.goto 114, 3) := by decide +kernel
theorem d_law_1170 : decode b_law 1170 = .ok (.aload_n 1, 1) := by decide +kernel
theorem d_law_1171 : decode b_law 1171 = .ok (.aload_n 0, 1) := by decide +kernel
theorem d_law_1172 : decode b_law 1172 = .ok (.iload 4, 2) := by decide +kernel
theorem d_law_1174 : decode b_law 1174 = .ok (.iconst 1, 1) := by decide +kernel
theorem d_law_1175 : decode b_law 1175 = .ok (.iadd, 1) := by decide +kernel
theorem d_law_1176 : decode b_law 1176 = .ok (.iaload, 1) := by decide +kernel
theorem d_law_1177 : decode b_law 1177 = .ok (.aload_n 3, 1) := by decide +kernel
theorem d_law_1178 : decode b_law 1178 = .ok (.invokestatic 152, 3) := by decide +kernel
theorem d_law_1181 : decode b_law 1181 = .ok (.istore 5, 2) := by decide +kernel
theorem d_law_1183 : decode b_law 1183 = .ok (.aload_n 2, 1) := by decide +kernel
theorem d_law_1184 : decode b_law 1184 = .ok (.aload_n 0, 1) := by decide +kernel
theorem d_law_1185 : decode b_law 1185 = .ok (.iload 4, 2) := by decide +kernel
theorem d_law_1187 : decode b_law 1187 = .ok (.iconst 1, 1) := by decide +kernel
theorem d_law_1188 : decode b_law 1188 = .ok (.iadd, 1) := by decide +kernel
theorem d_law_1189 : decode b_law 1189 = .ok (.iaload, 1) := by decide +kernel
theorem d_law_1190 : decode b_law 1190 = .ok (.invokevirtual 154, 3) := by decide +kernel
theorem d_law_1193 : decode b_law 1193 = .ok (.istore 6, 2) := by decide +kernel
theorem d_law_1195 : decode b_law 1195 = .ok (.aload_n 2, 1) := by decide +kernel
theorem d_law_1196 : decode b_law 1196 = .ok (.invokevirtual 94, 3) := by decide +kernel
theorem d_law_1199 : decode b_law 1199 = .ok (.iload 5, 2) := by decide +kernel
theorem d_law_1201 : decode b_law 1201 = .ok (.if_icmp .eq 5, 3) := by decide +kernel
theorem d_law_1206 : decode b_law 1206 = .ok (.iload 5, 2) := by decide +kernel
theorem d_law_1208 : decode b_law 1208 = .ok (.ifCond .ne 15, 3) := by decide +kernel
theorem d_law_1223 : decode b_law 1223 = .ok (.goto 58, 3) := by decide +kernel
theorem d_law_1226 : decode b_law 1226 = .ok (.aload_n 1, 1) := by decide +kernel
theorem d_law_1227 : decode b_law 1227 = .ok (.aload_n 0, 1) := by decide +kernel
theorem d_law_1228 : decode b_law 1228 = .ok (.iload 4, 2) := by decide +kernel
