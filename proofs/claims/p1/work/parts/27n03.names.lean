theorem d_law_232 : decode b_law 232 = .ok (.ifCond .eq 5, 3) := by decide +kernel
theorem d_law_237 : decode b_law 237 = .ok (.goto 1044, 3) := by decide +kernel
theorem d_law_240 : decode b_law 240 = .ok (.aload_n 1, 1) := by decide +kernel
theorem d_law_241 : decode b_law 241 = .ok (.aload_n 0, 1) := by decide +kernel
theorem d_law_242 : decode b_law 242 = .ok (.iload 4, 2) := by decide +kernel
theorem d_law_244 : decode b_law 244 = .ok (.iconst 1, 1) := by decide +kernel
theorem d_law_245 : decode b_law 245 = .ok (.iadd, 1) := by decide +kernel
theorem d_law_246 : decode b_law 246 = .ok (.iaload, 1) := by decide +kernel
theorem d_law_247 : decode b_law 247 = .ok (.aload_n 3, 1) := by decide +kernel
theorem d_law_248 : decode b_law 248 = .ok (.invokestatic 97, 3) := by decide +kernel
theorem d_law_251 : decode b_law 251 = .ok (.istore 5, 2) := by decide +kernel
theorem d_law_253 : decode b_law 253 = .ok (.aload_n 2, 1) := by decide +kernel
theorem d_law_254 : decode b_law 254 = .ok (.aload_n 0, 1) := by decide +kernel
theorem d_law_255 : decode b_law 255 = .ok (.iload 4, 2) := by decide +kernel
theorem d_law_257 : decode b_law 257 = .ok (.iconst 1, 1) := by decide +kernel
theorem d_law_258 : decode b_law 258 = .ok (.iadd, 1) := by decide +kernel
theorem d_law_259 : decode b_law 259 = .ok (.iaload, 1) := by decide +kernel
theorem d_law_260 : decode b_law 260 = .ok (.invokevirtual 100, 3) := by decide +kernel
theorem d_law_263 : decode b_law 263 = .ok (.istore 6, 2) := by decide +kernel
theorem d_law_265 : decode b_law 265 = .ok (.aload_n 2, 1) := by decide +kernel
theorem d_law_266 : decode b_law 266 = .ok (.invokevirtual 94, 3) := by decide +kernel
theorem d_law_269 : decode b_law 269 = .ok (.iload 5, 2) := by decide +kernel
theorem d_law_271 : decode b_law 271 = .ok (.if_icmp .eq 5, 3) := by decide +kernel
theorem d_law_276 : decode b_law 276 = .ok (.iload 5, 2) := by decide +kernel
theorem d_law_278 : decode b_law 278 = .ok (.ifCond .ne 15, 3) := by decide +kernel
theorem d_law_281 : decode b_law 281 = .ok (.aload_n 3, 1) := by decide +kernel
theorem d_law_282 : decode b_law 282 = .ok (.iconst 0, 1) := by decide +kernel
theorem d_law_283 : decode b_law 283 = .ok (.laload, 1) := by decide +kernel
theorem d_law_284 : decode b_law 284 = .ok (.iload 6, 2) := by decide +kernel
theorem d_law_286 : decode b_law 286 = .ok (.i2l, 1) := by decide +kernel
theorem d_law_287 : decode b_law 287 = .ok (.lcmp, 1) := by decide +kernel
theorem d_law_288 : decode b_law 288 = .ok (.ifCond .eq 5, 3) := by decide +kernel
theorem d_law_293 : decode b_law 293 = .ok (.goto 988, 3) := by decide +kernel
theorem d_law_296 : decode b_law 296 = .ok (.aload_n 1, 1) := by decide +kernel
theorem d_law_297 : decode b_law 297 = .ok (.aload_n 3, 1) := by decide +kernel
theorem d_law_298 : decode b_law 298 = .ok (.invokestatic 101, 3) := by decide +kernel
theorem d_law_301 : decode b_law 301 = .ok (.istore 5, 2) := by decide +kernel
theorem d_law_303 : decode b_law 303 = .ok (.aload_n 2, 1) := by decide +kernel
theorem d_law_304 : decode b_law 304 = .ok (.invokevirtual 104, 3) := by decide +kernel
theorem d_law_307 : decode b_law 307 = .ok (.istore 6, 2) := by decide +kernel
theorem d_law_309 : decode b_law 309 = .ok (.aload_n 2, 1) := by decide +kernel
theorem d_law_310 : decode b_law 310 = .ok (.invokevirtual 94, 3) := by decide +kernel
theorem d_law_313 : decode b_law 313 = .ok (.iload 5, 2) := by decide +kernel
theorem d_law_315 : decode b_law 315 = .ok (.if_icmp .eq 5, 3) := by decide +kernel
theorem d_law_320 : decode b_law 320 = .ok (.iload 5, 2) := by decide +kernel
theorem d_law_322 : decode b_law 322 = .ok (.ifCond .ne 15, 3) := by decide +kernel
theorem d_law_325 : decode b_law 325 = .ok (.aload_n 3, 1) := by decide +kernel
theorem d_law_326 : decode b_law 326 = .ok (.iconst 0, 1) := by decide +kernel
theorem d_law_327 : decode b_law 327 = .ok (.laload, 1) := by decide +kernel
theorem d_law_328 : decode b_law 328 = .ok (.iload 6, 2) := by decide +kernel
theorem d_law_330 : decode b_law 330 = .ok (.i2l, 1) := by decide +kernel
theorem d_law_331 : decode b_law 331 = .ok (.lcmp, 1) := by decide +kernel
theorem d_law_332 : decode b_law 332 = .ok (.ifCond .eq 5, 3) := by decide +kernel
theorem d_law_337 : decode b_law 337 = .ok (.goto 944, 3) := by decide +kernel
theorem d_law_340 : decode b_law 340 = .ok (.aload_n 1, 1) := by decide +kernel
theorem d_law_341 : decode b_law 341 = .ok (.aload_n 3, 1) := by decide +kernel
theorem d_law_342 : decode b_law 342 = .ok (.invokestatic 105, 3) := by decide +kernel
theorem d_law_345 : decode b_law 345 = .ok (.istore 5, 2) := by decide +kernel
theorem d_law_347 : decode b_law 347 = .ok (.aload_n 2, 1) := by decide +kernel
theorem d_law_348 : decode b_law 348 = .ok (.invokevirtual 107, 3) := by decide +kernel
