theorem d_law_1230 : decode b_law 1230 = .ok (.iconst 1, 1) := by decide +kernel
theorem d_law_1231 : decode b_law 1231 = .ok (.iadd, 1) := by decide +kernel
theorem d_law_1232 : decode b_law 1232 = .ok (.iaload, 1) := by decide +kernel
theorem d_law_1233 : decode b_law 1233 = .ok (.aload_n 3, 1) := by decide +kernel
theorem d_law_1234 : decode b_law 1234 = .ok (.invokestatic 155, 3) := by decide +kernel
theorem d_law_1237 : decode b_law 1237 = .ok (.istore 5, 2) := by decide +kernel
theorem d_law_1239 : decode b_law 1239 = .ok (.aload_n 2, 1) := by decide +kernel
theorem d_law_1240 : decode b_law 1240 = .ok (.aload_n 0, 1) := by decide +kernel
theorem d_law_1241 : decode b_law 1241 = .ok (.iload 4, 2) := by decide +kernel
theorem d_law_1243 : decode b_law 1243 = .ok (.iconst 1, 1) := by decide +kernel
theorem d_law_1244 : decode b_law 1244 = .ok (.iadd, 1) := by decide +kernel
theorem d_law_1245 : decode b_law 1245 = .ok (.iaload, 1) := by decide +kernel
theorem d_law_1246 : decode b_law 1246 = .ok (.invokevirtual 157, 3) := by decide +kernel
theorem d_law_1249 : decode b_law 1249 = .ok (.lstore 6, 2) := by decide +kernel
theorem d_law_1251 : decode b_law 1251 = .ok (.aload_n 2, 1) := by decide +kernel
theorem d_law_1252 : decode b_law 1252 = .ok (.invokevirtual 94, 3) := by decide +kernel
theorem d_law_1255 : decode b_law 1255 = .ok (.iload 5, 2) := by decide +kernel
theorem d_law_1257 : decode b_law 1257 = .ok (.if_icmp .eq 5, 3) := by decide +kernel
theorem d_law_1262 : decode b_law 1262 = .ok (.iload 5, 2) := by decide +kernel
theorem d_law_1264 : decode b_law 1264 = .ok (.ifCond .ne 14, 3) := by decide +kernel
theorem d_law_1278 : decode b_law 1278 = .ok (.goto 3, 3) := by decide +kernel
theorem d_law_1281 : decode b_law 1281 = .ok (.iinc 4 6, 3) := by decide +kernel
theorem d_law_1284 : decode b_law 1284 = .ok (.goto (-1261), 3) := by decide +kernel
theorem d_law_1287 : decode b_law 1287 = .ok (.iconst 1, 1) := by decide +kernel
theorem d_law_1288 : decode b_law 1288 = .ok (.ireturn, 1) := by decide +kernel
