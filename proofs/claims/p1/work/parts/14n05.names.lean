theorem d_MTree_init_242 : decode b_MTree_init 242 = .ok (.dup, 1) := by decide +kernel
theorem d_MTree_init_243 : decode b_MTree_init 243 = .ok (.iconst 0, 1) := by decide +kernel
theorem d_MTree_init_244 : decode b_MTree_init 244 = .ok (.sipush 1000, 3) := by decide +kernel
theorem d_MTree_init_247 : decode b_MTree_init 247 = .ok (.iastore, 1) := by decide +kernel
theorem d_MTree_init_248 : decode b_MTree_init 248 = .ok (.dup, 1) := by decide +kernel
theorem d_MTree_init_249 : decode b_MTree_init 249 = .ok (.iconst 1, 1) := by decide +kernel
theorem d_MTree_init_250 : decode b_MTree_init 250 = .ok (.sipush 500, 3) := by decide +kernel
theorem d_MTree_init_253 : decode b_MTree_init 253 = .ok (.iastore, 1) := by decide +kernel
theorem d_MTree_init_254 : decode b_MTree_init 254 = .ok (.dup, 1) := by decide +kernel
theorem d_MTree_init_255 : decode b_MTree_init 255 = .ok (.iconst 2, 1) := by decide +kernel
theorem d_MTree_init_256 : decode b_MTree_init 256 = .ok (.bipush 100, 2) := by decide +kernel
theorem d_MTree_init_258 : decode b_MTree_init 258 = .ok (.iastore, 1) := by decide +kernel
theorem d_MTree_init_259 : decode b_MTree_init 259 = .ok (.dup, 1) := by decide +kernel
theorem d_MTree_init_260 : decode b_MTree_init 260 = .ok (.iconst 3, 1) := by decide +kernel
theorem d_MTree_init_261 : decode b_MTree_init 261 = .ok (.bipush 50, 2) := by decide +kernel
theorem d_MTree_init_263 : decode b_MTree_init 263 = .ok (.iastore, 1) := by decide +kernel
theorem d_MTree_init_264 : decode b_MTree_init 264 = .ok (.dup, 1) := by decide +kernel
theorem d_MTree_init_265 : decode b_MTree_init 265 = .ok (.iconst 4, 1) := by decide +kernel
theorem d_MTree_init_266 : decode b_MTree_init 266 = .ok (.bipush 10, 2) := by decide +kernel
theorem d_MTree_init_268 : decode b_MTree_init 268 = .ok (.iastore, 1) := by decide +kernel
theorem d_MTree_init_269 : decode b_MTree_init 269 = .ok (.dup, 1) := by decide +kernel
theorem d_MTree_init_270 : decode b_MTree_init 270 = .ok (.iconst 5, 1) := by decide +kernel
theorem d_MTree_init_271 : decode b_MTree_init 271 = .ok (.iconst 5, 1) := by decide +kernel
theorem d_MTree_init_272 : decode b_MTree_init 272 = .ok (.iastore, 1) := by decide +kernel
theorem d_MTree_init_273 : decode b_MTree_init 273 = .ok (.dup, 1) := by decide +kernel
theorem d_MTree_init_274 : decode b_MTree_init 274 = .ok (.bipush 6, 2) := by decide +kernel
theorem d_MTree_init_276 : decode b_MTree_init 276 = .ok (.iconst 1, 1) := by decide +kernel
theorem d_MTree_init_277 : decode b_MTree_init 277 = .ok (.iastore, 1) := by decide +kernel
theorem d_MTree_init_278 : decode b_MTree_init 278 = .ok (.putfield 96, 3) := by decide +kernel
theorem d_MTree_init_281 : decode b_MTree_init 281 = .ok (.aload_n 0, 1) := by decide +kernel
theorem d_MTree_init_282 : decode b_MTree_init 282 = .ok (.bipush 64, 2) := by decide +kernel
theorem d_MTree_init_284 : decode b_MTree_init 284 = .ok (.newarray .byte, 2) := by decide +kernel
theorem d_MTree_init_286 : decode b_MTree_init 286 = .ok (.putfield 99, 3) := by decide +kernel
theorem d_MTree_init_289 : decode b_MTree_init 289 = .ok (.return_, 1) := by decide +kernel
