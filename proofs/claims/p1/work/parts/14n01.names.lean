theorem k_3358 : Cond.fieldLink "ScholarsPressModel$Setting" 265 "ScholarsPressModel$Setting" "marks" "[Z" ∈ tt := tt_mem 3358 (by decide +kernel) (by decide +kernel)
theorem k_3360 : Cond.fieldLink "ScholarsPressModel$Setting" 268 "ScholarsPressModel$Setting" "sumPart" "[J" ∈ tt := tt_mem 3360 (by decide +kernel) (by decide +kernel)
theorem k_3361 : Cond.fieldLink "ScholarsPressModel$Setting" 271 "ScholarsPressModel$Setting" "sumGlue" "[J" ∈ tt := tt_mem 3361 (by decide +kernel) (by decide +kernel)
theorem k_3362 : Cond.fieldLink "ScholarsPressModel$Setting" 274 "ScholarsPressModel$Setting" "sumStretch" "[J" ∈ tt := tt_mem 3362 (by decide +kernel) (by decide +kernel)
theorem k_3363 : Cond.fieldLink "ScholarsPressModel$Setting" 277 "ScholarsPressModel$Setting" "sumShrink" "[J" ∈ tt := tt_mem 3363 (by decide +kernel) (by decide +kernel)
theorem k_3364 : Cond.fieldLink "ScholarsPressModel$Setting" 280 "ScholarsPressModel$Setting" "best" "[J" ∈ tt := tt_mem 3364 (by decide +kernel) (by decide +kernel)
theorem k_3365 : Cond.fieldLink "ScholarsPressModel$Setting" 283 "ScholarsPressModel$Setting" "reached" "[Z" ∈ tt := tt_mem 3365 (by decide +kernel) (by decide +kernel)
theorem k_3366 : Cond.fieldLink "ScholarsPressModel$Setting" 286 "ScholarsPressModel$Setting" "bestFrom" "[I" ∈ tt := tt_mem 3366 (by decide +kernel) (by decide +kernel)
theorem k_3367 : Cond.fieldLink "ScholarsPressModel$Setting" 289 "ScholarsPressModel$Setting" "bestClass" "[I" ∈ tt := tt_mem 3367 (by decide +kernel) (by decide +kernel)
theorem k_3377 : Cond.fieldLink "ScholarsPressModel$Setting" 292 "ScholarsPressModel$Setting" "parLine" "[I" ∈ tt := tt_mem 3377 (by decide +kernel) (by decide +kernel)
theorem k_3378 : Cond.fieldLink "ScholarsPressModel$Setting" 295 "ScholarsPressModel$Setting" "high" "[J" ∈ tt := tt_mem 3378 (by decide +kernel) (by decide +kernel)
theorem k_3379 : Cond.fieldLink "ScholarsPressModel$Setting" 298 "ScholarsPressModel$Setting" "notesTo" "[I" ∈ tt := tt_mem 3379 (by decide +kernel) (by decide +kernel)
theorem k_3380 : Cond.fieldLink "ScholarsPressModel$Setting" 301 "ScholarsPressModel$Setting" "floatsTo" "[I" ∈ tt := tt_mem 3380 (by decide +kernel) (by decide +kernel)
theorem k_3381 : Cond.fieldLink "ScholarsPressModel$Setting" 304 "ScholarsPressModel$Setting" "head" "[I" ∈ tt := tt_mem 3381 (by decide +kernel) (by decide +kernel)
theorem k_3383 : Cond.fieldLink "ScholarsPressModel$Setting" 307 "ScholarsPressModel$Setting" "stateLine" "[I" ∈ tt := tt_mem 3383 (by decide +kernel) (by decide +kernel)
theorem k_3384 : Cond.fieldLink "ScholarsPressModel$Setting" 310 "ScholarsPressModel$Setting" "stateFloat" "[I" ∈ tt := tt_mem 3384 (by decide +kernel) (by decide +kernel)
theorem k_3385 : Cond.fieldLink "ScholarsPressModel$Setting" 313 "ScholarsPressModel$Setting" "stateRest" "[I" ∈ tt := tt_mem 3385 (by decide +kernel) (by decide +kernel)
theorem k_3386 : Cond.fieldLink "ScholarsPressModel$Setting" 316 "ScholarsPressModel$Setting" "statePrev" "[I" ∈ tt := tt_mem 3386 (by decide +kernel) (by decide +kernel)
theorem k_3387 : Cond.fieldLink "ScholarsPressModel$Setting" 319 "ScholarsPressModel$Setting" "stateNext" "[I" ∈ tt := tt_mem 3387 (by decide +kernel) (by decide +kernel)
theorem k_3388 : Cond.fieldLink "ScholarsPressModel$Setting" 322 "ScholarsPressModel$Setting" "stateCost" "[J" ∈ tt := tt_mem 3388 (by decide +kernel) (by decide +kernel)
theorem k_3394 : Cond.fieldLink "ScholarsPressModel$Setting" 325 "ScholarsPressModel$Setting" "way" "[I" ∈ tt := tt_mem 3394 (by decide +kernel) (by decide +kernel)
theorem k_3395 : Cond.fieldLink "ScholarsPressModel$Setting" 328 "ScholarsPressModel$Setting" "spans" "[Z" ∈ tt := tt_mem 3395 (by decide +kernel) (by decide +kernel)
theorem k_3396 : Cond.fieldLink "ScholarsPressModel$Setting" 331 "ScholarsPressModel$Setting" "newSpans" "[Z" ∈ tt := tt_mem 3396 (by decide +kernel) (by decide +kernel)
theorem d_MSetting_init_0 : decode b_MSetting_init 0 = .ok (.aload_n 0, 1) := by decide +kernel
theorem d_MSetting_init_1 : decode b_MSetting_init 1 = .ok (.invokespecial 5, 3) := by decide +kernel
theorem d_MSetting_init_4 : decode b_MSetting_init 4 = .ok (.aload_n 0, 1) := by decide +kernel
theorem d_MSetting_init_5 : decode b_MSetting_init 5 = .ok (.new 11, 3) := by decide +kernel
theorem d_MSetting_init_8 : decode b_MSetting_init 8 = .ok (.dup, 1) := by decide +kernel
theorem d_MSetting_init_9 : decode b_MSetting_init 9 = .ok (.invokespecial 13, 3) := by decide +kernel
theorem d_MSetting_init_12 : decode b_MSetting_init 12 = .ok (.putfield 14, 3) := by decide +kernel
theorem d_MSetting_init_15 : decode b_MSetting_init 15 = .ok (.aload_n 0, 1) := by decide +kernel
theorem d_MSetting_init_16 : decode b_MSetting_init 16 = .ok (.sipush 24008, 3) := by decide +kernel
theorem d_MSetting_init_19 : decode b_MSetting_init 19 = .ok (.newarray .byte, 2) := by decide +kernel
theorem d_MSetting_init_21 : decode b_MSetting_init 21 = .ok (.putfield 18, 3) := by decide +kernel
theorem d_MSetting_init_24 : decode b_MSetting_init 24 = .ok (.aload_n 0, 1) := by decide +kernel
theorem d_MSetting_init_25 : decode b_MSetting_init 25 = .ok (.sipush 24008, 3) := by decide +kernel
theorem d_MSetting_init_28 : decode b_MSetting_init 28 = .ok (.newarray .int, 2) := by decide +kernel
theorem d_MSetting_init_30 : decode b_MSetting_init 30 = .ok (.putfield 22, 3) := by decide +kernel
theorem d_MSetting_init_33 : decode b_MSetting_init 33 = .ok (.aload_n 0, 1) := by decide +kernel
theorem d_MSetting_init_34 : decode b_MSetting_init 34 = .ok (.sipush 24008, 3) := by decide +kernel
theorem d_MSetting_init_37 : decode b_MSetting_init 37 = .ok (.newarray .int, 2) := by decide +kernel
theorem d_MSetting_init_39 : decode b_MSetting_init 39 = .ok (.putfield 26, 3) := by decide +kernel
theorem d_MSetting_init_42 : decode b_MSetting_init 42 = .ok (.aload_n 0, 1) := by decide +kernel
theorem d_MSetting_init_43 : decode b_MSetting_init 43 = .ok (.sipush 1200, 3) := by decide +kernel
theorem d_MSetting_init_46 : decode b_MSetting_init 46 = .ok (.newarray .int, 2) := by decide +kernel
theorem d_MSetting_init_48 : decode b_MSetting_init 48 = .ok (.putfield 29, 3) := by decide +kernel
theorem d_MSetting_init_51 : decode b_MSetting_init 51 = .ok (.aload_n 0, 1) := by decide +kernel
theorem d_MSetting_init_52 : decode b_MSetting_init 52 = .ok (.sipush 1200, 3) := by decide +kernel
theorem d_MSetting_init_55 : decode b_MSetting_init 55 = .ok (.newarray .int, 2) := by decide +kernel
theorem d_MSetting_init_57 : decode b_MSetting_init 57 = .ok (.putfield 32, 3) := by decide +kernel
theorem d_MSetting_init_60 : decode b_MSetting_init 60 = .ok (.aload_n 0, 1) := by decide +kernel
theorem d_MSetting_init_61 : decode b_MSetting_init 61 = .ok (.sipush 1200, 3) := by decide +kernel
theorem d_MSetting_init_64 : decode b_MSetting_init 64 = .ok (.newarray .int, 2) := by decide +kernel
theorem d_MSetting_init_66 : decode b_MSetting_init 66 = .ok (.putfield 35, 3) := by decide +kernel
theorem d_MSetting_init_69 : decode b_MSetting_init 69 = .ok (.aload_n 0, 1) := by decide +kernel
theorem d_MSetting_init_70 : decode b_MSetting_init 70 = .ok (.sipush 1200, 3) := by decide +kernel
theorem d_MSetting_init_73 : decode b_MSetting_init 73 = .ok (.newarray .int, 2) := by decide +kernel
theorem d_MSetting_init_75 : decode b_MSetting_init 75 = .ok (.putfield 38, 3) := by decide +kernel
theorem d_MSetting_init_78 : decode b_MSetting_init 78 = .ok (.aload_n 0, 1) := by decide +kernel
theorem d_MSetting_init_79 : decode b_MSetting_init 79 = .ok (.sipush 1200, 3) := by decide +kernel
theorem d_MSetting_init_82 : decode b_MSetting_init 82 = .ok (.newarray .int, 2) := by decide +kernel
theorem d_MSetting_init_84 : decode b_MSetting_init 84 = .ok (.putfield 41, 3) := by decide +kernel
theorem d_MSetting_init_87 : decode b_MSetting_init 87 = .ok (.aload_n 0, 1) := by decide +kernel
theorem d_MSetting_init_88 : decode b_MSetting_init 88 = .ok (.sipush 1200, 3) := by decide +kernel
theorem d_MSetting_init_91 : decode b_MSetting_init 91 = .ok (.newarray .int, 2) := by decide +kernel
theorem d_MSetting_init_93 : decode b_MSetting_init 93 = .ok (.putfield 44, 3) := by decide +kernel
theorem d_MSetting_init_96 : decode b_MSetting_init 96 = .ok (.aload_n 0, 1) := by decide +kernel
theorem d_MSetting_init_97 : decode b_MSetting_init 97 = .ok (.sipush 1201, 3) := by decide +kernel
theorem d_MSetting_init_100 : decode b_MSetting_init 100 = .ok (.newarray .int, 2) := by decide +kernel
theorem d_MSetting_init_102 : decode b_MSetting_init 102 = .ok (.putfield 47, 3) := by decide +kernel
theorem d_MSetting_init_105 : decode b_MSetting_init 105 = .ok (.aload_n 0, 1) := by decide +kernel
theorem d_MSetting_init_106 : decode b_MSetting_init 106 = .ok (.sipush 1200, 3) := by decide +kernel
theorem d_MSetting_init_109 : decode b_MSetting_init 109 = .ok (.newarray .int, 2) := by decide +kernel
theorem d_MSetting_init_111 : decode b_MSetting_init 111 = .ok (.putfield 50, 3) := by decide +kernel
theorem d_MSetting_init_114 : decode b_MSetting_init 114 = .ok (.aload_n 0, 1) := by decide +kernel
theorem d_MSetting_init_115 : decode b_MSetting_init 115 = .ok (.sipush 1201, 3) := by decide +kernel
theorem d_MSetting_init_118 : decode b_MSetting_init 118 = .ok (.newarray .int, 2) := by decide +kernel
theorem d_MSetting_init_120 : decode b_MSetting_init 120 = .ok (.putfield 53, 3) := by decide +kernel
theorem d_MSetting_init_123 : decode b_MSetting_init 123 = .ok (.aload_n 0, 1) := by decide +kernel
theorem d_MSetting_init_124 : decode b_MSetting_init 124 = .ok (.sipush 1200, 3) := by decide +kernel
theorem d_MSetting_init_127 : decode b_MSetting_init 127 = .ok (.newarray .int, 2) := by decide +kernel
theorem d_MSetting_init_129 : decode b_MSetting_init 129 = .ok (.putfield 56, 3) := by decide +kernel
theorem d_MSetting_init_132 : decode b_MSetting_init 132 = .ok (.aload_n 0, 1) := by decide +kernel
theorem d_MSetting_init_133 : decode b_MSetting_init 133 = .ok (.sipush 1200, 3) := by decide +kernel
theorem d_MSetting_init_136 : decode b_MSetting_init 136 = .ok (.newarray .int, 2) := by decide +kernel
theorem d_MSetting_init_138 : decode b_MSetting_init 138 = .ok (.putfield 59, 3) := by decide +kernel
theorem d_MSetting_init_141 : decode b_MSetting_init 141 = .ok (.aload_n 0, 1) := by decide +kernel
theorem d_MSetting_init_142 : decode b_MSetting_init 142 = .ok (.sipush 1200, 3) := by decide +kernel
theorem d_MSetting_init_145 : decode b_MSetting_init 145 = .ok (.newarray .long, 2) := by decide +kernel
theorem d_MSetting_init_147 : decode b_MSetting_init 147 = .ok (.putfield 62, 3) := by decide +kernel
theorem d_MSetting_init_150 : decode b_MSetting_init 150 = .ok (.aload_n 0, 1) := by decide +kernel
theorem d_MSetting_init_151 : decode b_MSetting_init 151 = .ok (.sipush 1200, 3) := by decide +kernel
theorem d_MSetting_init_154 : decode b_MSetting_init 154 = .ok (.newarray .long, 2) := by decide +kernel
theorem d_MSetting_init_156 : decode b_MSetting_init 156 = .ok (.putfield 66, 3) := by decide +kernel
theorem d_MSetting_init_159 : decode b_MSetting_init 159 = .ok (.aload_n 0, 1) := by decide +kernel
theorem d_MSetting_init_160 : decode b_MSetting_init 160 = .ok (.sipush 25208, 3) := by decide +kernel
theorem d_MSetting_init_163 : decode b_MSetting_init 163 = .ok (.newarray .int, 2) := by decide +kernel
theorem d_MSetting_init_165 : decode b_MSetting_init 165 = .ok (.putfield 69, 3) := by decide +kernel
theorem d_MSetting_init_168 : decode b_MSetting_init 168 = .ok (.aload_n 0, 1) := by decide +kernel
theorem d_MSetting_init_169 : decode b_MSetting_init 169 = .ok (.sipush 25208, 3) := by decide +kernel
theorem d_MSetting_init_172 : decode b_MSetting_init 172 = .ok (.newarray .int, 2) := by decide +kernel
theorem d_MSetting_init_174 : decode b_MSetting_init 174 = .ok (.putfield 72, 3) := by decide +kernel
theorem d_MSetting_init_177 : decode b_MSetting_init 177 = .ok (.aload_n 0, 1) := by decide +kernel
theorem d_MSetting_init_178 : decode b_MSetting_init 178 = .ok (.sipush 25208, 3) := by decide +kernel
theorem d_MSetting_init_181 : decode b_MSetting_init 181 = .ok (.newarray .long, 2) := by decide +kernel
theorem d_MSetting_init_183 : decode b_MSetting_init 183 = .ok (.putfield 75, 3) := by decide +kernel
theorem d_MSetting_init_186 : decode b_MSetting_init 186 = .ok (.aload_n 0, 1) := by decide +kernel
theorem d_MSetting_init_187 : decode b_MSetting_init 187 = .ok (.sipush 25208, 3) := by decide +kernel
theorem d_MSetting_init_190 : decode b_MSetting_init 190 = .ok (.newarray .long, 2) := by decide +kernel
theorem d_MSetting_init_192 : decode b_MSetting_init 192 = .ok (.putfield 78, 3) := by decide +kernel
theorem d_MSetting_init_195 : decode b_MSetting_init 195 = .ok (.aload_n 0, 1) := by decide +kernel
theorem d_MSetting_init_196 : decode b_MSetting_init 196 = .ok (.sipush 25208, 3) := by decide +kernel
theorem d_MSetting_init_199 : decode b_MSetting_init 199 = .ok (.newarray .long, 2) := by decide +kernel
theorem d_MSetting_init_201 : decode b_MSetting_init 201 = .ok (.putfield 81, 3) := by decide +kernel
theorem d_MSetting_init_204 : decode b_MSetting_init 204 = .ok (.aload_n 0, 1) := by decide +kernel
theorem d_MSetting_init_205 : decode b_MSetting_init 205 = .ok (.sipush 25208, 3) := by decide +kernel
theorem d_MSetting_init_208 : decode b_MSetting_init 208 = .ok (.newarray .int, 2) := by decide +kernel
theorem d_MSetting_init_210 : decode b_MSetting_init 210 = .ok (.putfield 84, 3) := by decide +kernel
theorem d_MSetting_init_213 : decode b_MSetting_init 213 = .ok (.aload_n 0, 1) := by decide +kernel
theorem d_MSetting_init_214 : decode b_MSetting_init 214 = .ok (.sipush 25208, 3) := by decide +kernel
theorem d_MSetting_init_217 : decode b_MSetting_init 217 = .ok (.newarray .int, 2) := by decide +kernel
theorem d_MSetting_init_219 : decode b_MSetting_init 219 = .ok (.putfield 87, 3) := by decide +kernel
theorem d_MSetting_init_222 : decode b_MSetting_init 222 = .ok (.aload_n 0, 1) := by decide +kernel
theorem d_MSetting_init_223 : decode b_MSetting_init 223 = .ok (.sipush 1700, 3) := by decide +kernel
theorem d_MSetting_init_226 : decode b_MSetting_init 226 = .ok (.newarray .int, 2) := by decide +kernel
theorem d_MSetting_init_228 : decode b_MSetting_init 228 = .ok (.putfield 90, 3) := by decide +kernel
theorem d_MSetting_init_231 : decode b_MSetting_init 231 = .ok (.aload_n 0, 1) := by decide +kernel
theorem d_MSetting_init_232 : decode b_MSetting_init 232 = .ok (.sipush 1700, 3) := by decide +kernel
theorem d_MSetting_init_235 : decode b_MSetting_init 235 = .ok (.newarray .int, 2) := by decide +kernel
theorem d_MSetting_init_237 : decode b_MSetting_init 237 = .ok (.putfield 93, 3) := by decide +kernel
theorem d_MSetting_init_240 : decode b_MSetting_init 240 = .ok (.aload_n 0, 1) := by decide +kernel
theorem d_MSetting_init_241 : decode b_MSetting_init 241 = .ok (.sipush 1700, 3) := by decide +kernel
theorem d_MSetting_init_244 : decode b_MSetting_init 244 = .ok (.newarray .int, 2) := by decide +kernel
theorem d_MSetting_init_246 : decode b_MSetting_init 246 = .ok (.putfield 96, 3) := by decide +kernel
theorem d_MSetting_init_249 : decode b_MSetting_init 249 = .ok (.aload_n 0, 1) := by decide +kernel
theorem d_MSetting_init_250 : decode b_MSetting_init 250 = .ok (.sipush 4000, 3) := by decide +kernel
theorem d_MSetting_init_253 : decode b_MSetting_init 253 = .ok (.newarray .int, 2) := by decide +kernel
theorem d_MSetting_init_255 : decode b_MSetting_init 255 = .ok (.putfield 99, 3) := by decide +kernel
theorem d_MSetting_init_258 : decode b_MSetting_init 258 = .ok (.aload_n 0, 1) := by decide +kernel
theorem d_MSetting_init_259 : decode b_MSetting_init 259 = .ok (.sipush 500, 3) := by decide +kernel
theorem d_MSetting_init_262 : decode b_MSetting_init 262 = .ok (.newarray .int, 2) := by decide +kernel
theorem d_MSetting_init_264 : decode b_MSetting_init 264 = .ok (.putfield 102, 3) := by decide +kernel
theorem d_MSetting_init_267 : decode b_MSetting_init 267 = .ok (.aload_n 0, 1) := by decide +kernel
theorem d_MSetting_init_268 : decode b_MSetting_init 268 = .ok (.sipush 500, 3) := by decide +kernel
theorem d_MSetting_init_271 : decode b_MSetting_init 271 = .ok (.newarray .int, 2) := by decide +kernel
theorem d_MSetting_init_273 : decode b_MSetting_init 273 = .ok (.putfield 105, 3) := by decide +kernel
theorem d_MSetting_init_276 : decode b_MSetting_init 276 = .ok (.aload_n 0, 1) := by decide +kernel
theorem d_MSetting_init_277 : decode b_MSetting_init 277 = .ok (.sipush 500, 3) := by decide +kernel
theorem d_MSetting_init_280 : decode b_MSetting_init 280 = .ok (.newarray .int, 2) := by decide +kernel
theorem d_MSetting_init_282 : decode b_MSetting_init 282 = .ok (.putfield 108, 3) := by decide +kernel
theorem d_MSetting_init_285 : decode b_MSetting_init 285 = .ok (.aload_n 0, 1) := by decide +kernel
theorem d_MSetting_init_286 : decode b_MSetting_init 286 = .ok (.sipush 500, 3) := by decide +kernel
theorem d_MSetting_init_289 : decode b_MSetting_init 289 = .ok (.newarray .boolean, 2) := by decide +kernel
theorem d_MSetting_init_291 : decode b_MSetting_init 291 = .ok (.putfield 111, 3) := by decide +kernel
theorem d_MSetting_init_294 : decode b_MSetting_init 294 = .ok (.aload_n 0, 1) := by decide +kernel
theorem d_MSetting_init_295 : decode b_MSetting_init 295 = .ok (.sipush 4000, 3) := by decide +kernel
theorem d_MSetting_init_298 : decode b_MSetting_init 298 = .ok (.newarray .long, 2) := by decide +kernel
theorem d_MSetting_init_300 : decode b_MSetting_init 300 = .ok (.putfield 115, 3) := by decide +kernel
theorem d_MSetting_init_303 : decode b_MSetting_init 303 = .ok (.aload_n 0, 1) := by decide +kernel
theorem d_MSetting_init_304 : decode b_MSetting_init 304 = .ok (.bipush 8, 2) := by decide +kernel
