/-! what each instruction is; laid by program -/
theorem d_Md_init_138 : decode b_Md_init 138 = .ok (.putfield 62, 3) := by decide +kernel
theorem d_Md_init_141 : decode b_Md_init 141 = .ok (.aload_n 0, 1) := by decide +kernel
theorem d_Md_init_142 : decode b_Md_init 142 = .ok (.iconst 2, 1) := by decide +kernel
theorem d_Md_init_143 : decode b_Md_init 143 = .ok (.newarray .int, 2) := by decide +kernel
theorem d_Md_init_145 : decode b_Md_init 145 = .ok (.putfield 65, 3) := by decide +kernel
theorem d_Md_init_148 : decode b_Md_init 148 = .ok (.aload_n 0, 1) := by decide +kernel
theorem d_Md_init_149 : decode b_Md_init 149 = .ok (.iconst 2, 1) := by decide +kernel
theorem d_Md_init_150 : decode b_Md_init 150 = .ok (.newarray .int, 2) := by decide +kernel
theorem d_Md_init_152 : decode b_Md_init 152 = .ok (.putfield 68, 3) := by decide +kernel
theorem d_Md_init_155 : decode b_Md_init 155 = .ok (.aload_n 0, 1) := by decide +kernel
theorem d_Md_init_156 : decode b_Md_init 156 = .ok (.bipush 64, 2) := by decide +kernel
theorem d_Md_init_158 : decode b_Md_init 158 = .ok (.newarray .long, 2) := by decide +kernel
theorem d_Md_init_160 : decode b_Md_init 160 = .ok (.putfield 71, 3) := by decide +kernel
theorem d_Md_init_163 : decode b_Md_init 163 = .ok (.aload_n 0, 1) := by decide +kernel
theorem d_Md_init_164 : decode b_Md_init 164 = .ok (.bipush 64, 2) := by decide +kernel
theorem d_Md_init_166 : decode b_Md_init 166 = .ok (.newarray .long, 2) := by decide +kernel
theorem d_Md_init_168 : decode b_Md_init 168 = .ok (.putfield 74, 3) := by decide +kernel
theorem d_Md_init_171 : decode b_Md_init 171 = .ok (.aload_n 0, 1) := by decide +kernel
theorem d_Md_init_172 : decode b_Md_init 172 = .ok (.bipush 64, 2) := by decide +kernel
theorem d_Md_init_174 : decode b_Md_init 174 = .ok (.newarray .long, 2) := by decide +kernel
theorem d_Md_init_176 : decode b_Md_init 176 = .ok (.putfield 77, 3) := by decide +kernel
theorem d_Md_init_179 : decode b_Md_init 179 = .ok (.aload_n 0, 1) := by decide +kernel
theorem d_Md_init_180 : decode b_Md_init 180 = .ok (.bipush 64, 2) := by decide +kernel
theorem d_Md_init_182 : decode b_Md_init 182 = .ok (.newarray .long, 2) := by decide +kernel
theorem d_Md_init_184 : decode b_Md_init 184 = .ok (.putfield 80, 3) := by decide +kernel
theorem d_Md_init_187 : decode b_Md_init 187 = .ok (.aload_n 0, 1) := by decide +kernel
theorem d_Md_init_188 : decode b_Md_init 188 = .ok (.sipush 2600, 3) := by decide +kernel
theorem d_Md_init_191 : decode b_Md_init 191 = .ok (.newarray .long, 2) := by decide +kernel
theorem d_Md_init_193 : decode b_Md_init 193 = .ok (.putfield 83, 3) := by decide +kernel
theorem d_Md_init_196 : decode b_Md_init 196 = .ok (.aload_n 0, 1) := by decide +kernel
theorem d_Md_init_197 : decode b_Md_init 197 = .ok (.bipush 26, 2) := by decide +kernel
theorem d_Md_init_199 : decode b_Md_init 199 = .ok (.newarray .int, 2) := by decide +kernel
theorem d_Md_init_201 : decode b_Md_init 201 = .ok (.putfield 86, 3) := by decide +kernel
theorem d_Md_init_204 : decode b_Md_init 204 = .ok (.aload_n 0, 1) := by decide +kernel
theorem d_Md_init_205 : decode b_Md_init 205 = .ok (.lconst 1, 1) := by decide +kernel
theorem d_Md_init_206 : decode b_Md_init 206 = .ok (.putfield 89, 3) := by decide +kernel
theorem d_Md_init_209 : decode b_Md_init 209 = .ok (.aload_n 0, 1) := by decide +kernel
theorem d_Md_init_210 : decode b_Md_init 210 = .ok (.bipush 13, 2) := by decide +kernel
theorem d_Md_init_212 : decode b_Md_init 212 = .ok (.newarray .int, 2) := by decide +kernel
theorem d_Md_init_214 : decode b_Md_init 214 = .ok (.putfield 93, 3) := by decide +kernel
theorem d_Md_init_217 : decode b_Md_init 217 = .ok (.aload_n 0, 1) := by decide +kernel
theorem d_Md_init_218 : decode b_Md_init 218 = .ok (.bipush 13, 2) := by decide +kernel
theorem d_Md_init_220 : decode b_Md_init 220 = .ok (.newarray .int, 2) := by decide +kernel
theorem d_Md_init_222 : decode b_Md_init 222 = .ok (.putfield 96, 3) := by decide +kernel
theorem d_Md_init_225 : decode b_Md_init 225 = .ok (.aload_n 0, 1) := by decide +kernel
theorem d_Md_init_226 : decode b_Md_init 226 = .ok (.bipush 64, 2) := by decide +kernel
theorem d_Md_init_228 : decode b_Md_init 228 = .ok (.newarray .long, 2) := by decide +kernel
theorem d_Md_init_230 : decode b_Md_init 230 = .ok (.putfield 99, 3) := by decide +kernel
theorem d_Md_init_233 : decode b_Md_init 233 = .ok (.aload_n 0, 1) := by decide +kernel
theorem d_Md_init_234 : decode b_Md_init 234 = .ok (.sipush 576, 3) := by decide +kernel
theorem d_Md_init_237 : decode b_Md_init 237 = .ok (.newarray .long, 2) := by decide +kernel
theorem d_Md_init_239 : decode b_Md_init 239 = .ok (.putfield 102, 3) := by decide +kernel
theorem d_Md_init_242 : decode b_Md_init 242 = .ok (.aload_n 0, 1) := by decide +kernel
theorem d_Md_init_243 : decode b_Md_init 243 = .ok (.sipush 576, 3) := by decide +kernel
theorem d_Md_init_246 : decode b_Md_init 246 = .ok (.newarray .long, 2) := by decide +kernel
theorem d_Md_init_248 : decode b_Md_init 248 = .ok (.putfield 105, 3) := by decide +kernel
theorem d_Md_init_251 : decode b_Md_init 251 = .ok (.aload_n 0, 1) := by decide +kernel
theorem d_Md_init_252 : decode b_Md_init 252 = .ok (.sipush 576, 3) := by decide +kernel
theorem d_Md_init_255 : decode b_Md_init 255 = .ok (.newarray .long, 2) := by decide +kernel
theorem d_Md_init_257 : decode b_Md_init 257 = .ok (.putfield 108, 3) := by decide +kernel
theorem d_Md_init_260 : decode b_Md_init 260 = .ok (.aload_n 0, 1) := by decide +kernel
theorem d_Md_init_261 : decode b_Md_init 261 = .ok (.bipush 64, 2) := by decide +kernel
theorem d_Md_init_263 : decode b_Md_init 263 = .ok (.newarray .long, 2) := by decide +kernel
theorem d_Md_init_265 : decode b_Md_init 265 = .ok (.putfield 111, 3) := by decide +kernel
theorem d_Md_init_268 : decode b_Md_init 268 = .ok (.aload_n 0, 1) := by decide +kernel
theorem d_Md_init_269 : decode b_Md_init 269 = .ok (.bipush 64, 2) := by decide +kernel
theorem d_Md_init_271 : decode b_Md_init 271 = .ok (.newarray .long, 2) := by decide +kernel
theorem d_Md_init_273 : decode b_Md_init 273 = .ok (.putfield 114, 3) := by decide +kernel
theorem d_Md_init_276 : decode b_Md_init 276 = .ok (.aload_n 0, 1) := by decide +kernel
theorem d_Md_init_277 : decode b_Md_init 277 = .ok (.bipush 9, 2) := by decide +kernel
theorem d_Md_init_279 : decode b_Md_init 279 = .ok (.newarray .long, 2) := by decide +kernel
theorem d_Md_init_281 : decode b_Md_init 281 = .ok (.putfield 117, 3) := by decide +kernel
theorem d_Md_init_284 : decode b_Md_init 284 = .ok (.aload_n 0, 1) := by decide +kernel
theorem d_Md_init_285 : decode b_Md_init 285 = .ok (.bipush 9, 2) := by decide +kernel
theorem d_Md_init_287 : decode b_Md_init 287 = .ok (.newarray .long, 2) := by decide +kernel
theorem d_Md_init_289 : decode b_Md_init 289 = .ok (.putfield 120, 3) := by decide +kernel
theorem d_Md_init_292 : decode b_Md_init 292 = .ok (.aload_n 0, 1) := by decide +kernel
theorem d_Md_init_293 : decode b_Md_init 293 = .ok (.bipush 9, 2) := by decide +kernel
theorem d_Md_init_295 : decode b_Md_init 295 = .ok (.newarray .long, 2) := by decide +kernel
theorem d_Md_init_297 : decode b_Md_init 297 = .ok (.putfield 123, 3) := by decide +kernel
theorem d_Md_init_300 : decode b_Md_init 300 = .ok (.aload_n 0, 1) := by decide +kernel
theorem d_Md_init_301 : decode b_Md_init 301 = .ok (.bipush 9, 2) := by decide +kernel
theorem d_Md_init_303 : decode b_Md_init 303 = .ok (.newarray .long, 2) := by decide +kernel
theorem d_Md_init_305 : decode b_Md_init 305 = .ok (.putfield 126, 3) := by decide +kernel
theorem d_Md_init_308 : decode b_Md_init 308 = .ok (.aload_n 0, 1) := by decide +kernel
theorem d_Md_init_309 : decode b_Md_init 309 = .ok (.sipush 400, 3) := by decide +kernel
theorem d_Md_init_312 : decode b_Md_init 312 = .ok (.newarray .int, 2) := by decide +kernel
theorem d_Md_init_314 : decode b_Md_init 314 = .ok (.putfield 129, 3) := by decide +kernel
theorem d_Md_init_317 : decode b_Md_init 317 = .ok (.aload_n 0, 1) := by decide +kernel
theorem d_Md_init_318 : decode b_Md_init 318 = .ok (.sipush 400, 3) := by decide +kernel
theorem d_Md_init_321 : decode b_Md_init 321 = .ok (.newarray .long, 2) := by decide +kernel
theorem d_Md_init_323 : decode b_Md_init 323 = .ok (.putfield 132, 3) := by decide +kernel
theorem d_Md_init_326 : decode b_Md_init 326 = .ok (.aload_n 0, 1) := by decide +kernel
theorem d_Md_init_327 : decode b_Md_init 327 = .ok (.sipush 400, 3) := by decide +kernel
theorem d_Md_init_330 : decode b_Md_init 330 = .ok (.newarray .long, 2) := by decide +kernel
theorem d_Md_init_332 : decode b_Md_init 332 = .ok (.putfield 135, 3) := by decide +kernel
theorem d_Md_init_335 : decode b_Md_init 335 = .ok (.aload_n 0, 1) := by decide +kernel
theorem d_Md_init_336 : decode b_Md_init 336 = .ok (.sipush 400, 3) := by decide +kernel
theorem d_Md_init_339 : decode b_Md_init 339 = .ok (.newarray .int, 2) := by decide +kernel
theorem d_Md_init_341 : decode b_Md_init 341 = .ok (.putfield 138, 3) := by decide +kernel
theorem d_Md_init_344 : decode b_Md_init 344 = .ok (.aload_n 0, 1) := by decide +kernel
theorem d_Md_init_345 : decode b_Md_init 345 = .ok (.sipush 420, 3) := by decide +kernel
theorem d_Md_init_348 : decode b_Md_init 348 = .ok (.newarray .int, 2) := by decide +kernel
theorem d_Md_init_350 : decode b_Md_init 350 = .ok (.putfield 141, 3) := by decide +kernel
theorem d_Md_init_353 : decode b_Md_init 353 = .ok (.aload_n 0, 1) := by decide +kernel
theorem d_Md_init_354 : decode b_Md_init 354 = .ok (.sipush 420, 3) := by decide +kernel
theorem d_Md_init_357 : decode b_Md_init 357 = .ok (.newarray .long, 2) := by decide +kernel
theorem d_Md_init_359 : decode b_Md_init 359 = .ok (.putfield 144, 3) := by decide +kernel
theorem d_Md_init_362 : decode b_Md_init 362 = .ok (.aload_n 0, 1) := by decide +kernel
theorem d_Md_init_363 : decode b_Md_init 363 = .ok (.bipush 16, 2) := by decide +kernel
theorem d_Md_init_365 : decode b_Md_init 365 = .ok (.lconst 0, 1) := by decide +kernel
theorem d_Md_init_366 : decode b_Md_init 366 = .ok (.invokevirtual 147, 3) := by decide +kernel
theorem d_Md_init_369 : decode b_Md_init 369 = .ok (.aload_n 0, 1) := by decide +kernel
theorem d_Md_init_370 : decode b_Md_init 370 = .ok (.invokevirtual 151, 3) := by decide +kernel
theorem d_Md_init_373 : decode b_Md_init 373 = .ok (.return_, 1) := by decide +kernel
theorem d_Md_isLine_0 : decode b_Md_isLine 0 = .ok (.aload_n 0, 1) := by decide +kernel
theorem d_Md_isLine_1 : decode b_Md_isLine 1 = .ok (.iconst 0, 1) := by decide +kernel
theorem d_Md_isLine_2 : decode b_Md_isLine 2 = .ok (.putfield 481, 3) := by decide +kernel
theorem d_Md_isLine_5 : decode b_Md_isLine 5 = .ok (.aload_n 0, 1) := by decide +kernel
theorem d_Md_isLine_6 : decode b_Md_isLine 6 = .ok (.iconst 0, 1) := by decide +kernel
theorem d_Md_isLine_7 : decode b_Md_isLine 7 = .ok (.putfield 487, 3) := by decide +kernel
theorem d_Md_isLine_10 : decode b_Md_isLine 10 = .ok (.aload_n 0, 1) := by decide +kernel
theorem d_Md_isLine_11 : decode b_Md_isLine 11 = .ok (.iconst 0, 1) := by decide +kernel
theorem d_Md_isLine_12 : decode b_Md_isLine 12 = .ok (.putfield 501, 3) := by decide +kernel
theorem d_Md_isLine_15 : decode b_Md_isLine 15 = .ok (.aload_n 0, 1) := by decide +kernel
theorem d_Md_isLine_16 : decode b_Md_isLine 16 = .ok (.iconst (-1), 1) := by decide +kernel
theorem d_Md_isLine_17 : decode b_Md_isLine 17 = .ok (.putfield 504, 3) := by decide +kernel
theorem d_Md_isLine_20 : decode b_Md_isLine 20 = .ok (.aload_n 0, 1) := by decide +kernel
theorem d_Md_isLine_21 : decode b_Md_isLine 21 = .ok (.iconst 0, 1) := by decide +kernel
theorem d_Md_isLine_22 : decode b_Md_isLine 22 = .ok (.putfield 507, 3) := by decide +kernel
theorem d_Md_isLine_25 : decode b_Md_isLine 25 = .ok (.iconst 0, 1) := by decide +kernel
theorem d_Md_isLine_26 : decode b_Md_isLine 26 = .ok (.istore_n 1, 1) := by decide +kernel
theorem d_Md_isLine_27 : decode b_Md_isLine 27 = .ok (.aload_n 0, 1) := by decide +kernel
theorem d_Md_isLine_28 : decode b_Md_isLine 28 = .ok (.invokevirtual 490, 3) := by decide +kernel
theorem d_Md_isLine_31 : decode b_Md_isLine 31 = .ok (.i2l, 1) := by decide +kernel
theorem d_Md_isLine_32 : decode b_Md_isLine 32 = .ok (.ldc2_w 510, 3) := by decide +kernel
theorem d_Md_isLine_35 : decode b_Md_isLine 35 = .ok (.ldc2_w 512, 3) := by decide +kernel
theorem d_Md_isLine_38 : decode b_Md_isLine 38 = .ok (.invokestatic 446, 3) := by decide +kernel
theorem d_Md_isLine_41 : decode b_Md_isLine 41 = .ok (.ifCond .eq 63, 3) := by decide +kernel
theorem d_Md_isLine_104 : decode b_Md_isLine 104 = .ok (.iconst 1, 1) := by decide +kernel
theorem d_Md_isLine_105 : decode b_Md_isLine 105 = .ok (.istore_n 2, 1) := by decide +kernel
theorem d_Md_isLine_106 : decode b_Md_isLine 106 = .ok (.aload_n 0, 1) := by decide +kernel
theorem d_Md_isLine_107 : decode b_Md_isLine 107 = .ok (.invokevirtual 490, 3) := by decide +kernel
theorem d_Md_isLine_110 : decode b_Md_isLine 110 = .ok (.istore_n 3, 1) := by decide +kernel
theorem d_Md_isLine_111 : decode b_Md_isLine 111 = .ok (.iload_n 2, 1) := by decide +kernel
theorem d_Md_isLine_112 : decode b_Md_isLine 112 = .ok (.ifCond .eq 40, 3) := by decide +kernel
theorem d_Md_isLine_115 : decode b_Md_isLine 115 = .ok (.aload_n 0, 1) := by decide +kernel
theorem d_Md_isLine_116 : decode b_Md_isLine 116 = .ok (.iload_n 3, 1) := by decide +kernel
theorem d_Md_isLine_117 : decode b_Md_isLine 117 = .ok (.invokevirtual 514, 3) := by decide +kernel
theorem d_Md_isLine_120 : decode b_Md_isLine 120 = .ok (.ifCond .ne 5, 3) := by decide +kernel
theorem d_Md_isLine_123 : decode b_Md_isLine 123 = .ok (.iconst 0, 1) := by decide +kernel
theorem d_Md_isLine_124 : decode b_Md_isLine 124 = .ok (.ireturn, 1) := by decide +kernel
theorem d_Md_isName_0 : decode b_Md_isName 0 = .ok (.iload_n 0, 1) := by decide +kernel
theorem d_Md_isName_1 : decode b_Md_isName 1 = .ok (.i2l, 1) := by decide +kernel
theorem d_Md_isName_2 : decode b_Md_isName 2 = .ok (.lconst 0, 1) := by decide +kernel
theorem d_Md_isName_3 : decode b_Md_isName 3 = .ok (.ldc2_w 592, 3) := by decide +kernel
theorem d_Md_isName_6 : decode b_Md_isName 6 = .ok (.invokestatic 446, 3) := by decide +kernel
theorem d_Md_isName_9 : decode b_Md_isName 9 = .ok (.ireturn, 1) := by decide +kernel
theorem d_Md_lands_0 : decode b_Md_lands 0 = .ok (.iconst 0, 1) := by decide +kernel
theorem d_Md_lands_1 : decode b_Md_lands 1 = .ok (.istore 4, 2) := by decide +kernel
theorem d_Md_lands_3 : decode b_Md_lands 3 = .ok (.iload 4, 2) := by decide +kernel
theorem d_Md_lands_5 : decode b_Md_lands 5 = .ok (.iload_n 2, 1) := by decide +kernel
theorem d_Md_lands_6 : decode b_Md_lands 6 = .ok (.if_icmp .ge 37, 3) := by decide +kernel
theorem d_Md_lands_9 : decode b_Md_lands 9 = .ok (.iload 4, 2) := by decide +kernel
theorem d_Md_lands_11 : decode b_Md_lands 11 = .ok (.sipush 660, 3) := by decide +kernel
theorem d_Md_lands_14 : decode b_Md_lands 14 = .ok (.if_icmp .ge 29, 3) := by decide +kernel
theorem d_Md_lands_17 : decode b_Md_lands 17 = .ok (.aload_n 0, 1) := by decide +kernel
theorem d_Md_lands_18 : decode b_Md_lands 18 = .ok (.getfield 38, 3) := by decide +kernel
theorem d_Md_lands_21 : decode b_Md_lands 21 = .ok (.sipush 660, 3) := by decide +kernel
theorem d_Md_lands_24 : decode b_Md_lands 24 = .ok (.iload_n 1, 1) := by decide +kernel
theorem d_Md_lands_25 : decode b_Md_lands 25 = .ok (.imul, 1) := by decide +kernel
theorem d_Md_lands_26 : decode b_Md_lands 26 = .ok (.iload 4, 2) := by decide +kernel
theorem d_Md_lands_28 : decode b_Md_lands 28 = .ok (.iadd, 1) := by decide +kernel
theorem d_Md_lands_29 : decode b_Md_lands 29 = .ok (.aload_n 0, 1) := by decide +kernel
theorem d_Md_lands_30 : decode b_Md_lands 30 = .ok (.getfield 47, 3) := by decide +kernel
theorem d_Md_lands_33 : decode b_Md_lands 33 = .ok (.iload 4, 2) := by decide +kernel
theorem d_Md_lands_35 : decode b_Md_lands 35 = .ok (.laload, 1) := by decide +kernel
theorem d_Md_lands_36 : decode b_Md_lands 36 = .ok (.lastore, 1) := by decide +kernel
theorem d_Md_lands_37 : decode b_Md_lands 37 = .ok (.iinc 4 1, 3) := by decide +kernel
theorem d_Md_lands_40 : decode b_Md_lands 40 = .ok (.goto (-37), 3) := by decide +kernel
theorem d_Md_lands_43 : decode b_Md_lands 43 = .ok (.aload_n 0, 1) := by decide +kernel
theorem d_Md_lands_44 : decode b_Md_lands 44 = .ok (.getfield 41, 3) := by decide +kernel
theorem d_Md_lands_47 : decode b_Md_lands 47 = .ok (.iload_n 1, 1) := by decide +kernel
theorem d_Md_lands_48 : decode b_Md_lands 48 = .ok (.iload_n 2, 1) := by decide +kernel
theorem d_Md_lands_49 : decode b_Md_lands 49 = .ok (.sipush 660, 3) := by decide +kernel
theorem d_Md_lands_52 : decode b_Md_lands 52 = .ok (.if_icmp .ge 7, 3) := by decide +kernel
theorem d_Md_lands_55 : decode b_Md_lands 55 = .ok (.iload_n 2, 1) := by decide +kernel
theorem d_Md_lands_56 : decode b_Md_lands 56 = .ok (.goto 6, 3) := by decide +kernel
theorem d_Md_lands_62 : decode b_Md_lands 62 = .ok (.iastore, 1) := by decide +kernel
theorem d_Md_lands_63 : decode b_Md_lands 63 = .ok (.aload_n 0, 1) := by decide +kernel
theorem d_Md_lands_64 : decode b_Md_lands 64 = .ok (.getfield 44, 3) := by decide +kernel
theorem d_Md_lands_67 : decode b_Md_lands 67 = .ok (.iload_n 1, 1) := by decide +kernel
theorem d_Md_lands_68 : decode b_Md_lands 68 = .ok (.iload_n 3, 1) := by decide +kernel
theorem d_Md_lands_69 : decode b_Md_lands 69 = .ok (.iastore, 1) := by decide +kernel
theorem d_Md_lands_70 : decode b_Md_lands 70 = .ok (.aload_n 0, 1) := by decide +kernel
theorem d_Md_lands_71 : decode b_Md_lands 71 = .ok (.iload_n 1, 1) := by decide +kernel
theorem d_Md_lands_72 : decode b_Md_lands 72 = .ok (.invokevirtual 159, 3) := by decide +kernel
theorem d_Md_lands_75 : decode b_Md_lands 75 = .ok (.return_, 1) := by decide +kernel
theorem d_Md_letter_0 : decode b_Md_letter 0 = .ok (.aload_n 0, 1) := by decide +kernel
theorem d_Md_letter_1 : decode b_Md_letter 1 = .ok (.getfield 13, 3) := by decide +kernel
theorem d_Md_letter_4 : decode b_Md_letter 4 = .ok (.aload_n 0, 1) := by decide +kernel
theorem d_Md_letter_5 : decode b_Md_letter 5 = .ok (.getfield 589, 3) := by decide +kernel
theorem d_Md_letter_8 : decode b_Md_letter 8 = .ok (.iload_n 1, 1) := by decide +kernel
theorem d_Md_letter_9 : decode b_Md_letter 9 = .ok (.iastore, 1) := by decide +kernel
theorem d_Md_letter_10 : decode b_Md_letter 10 = .ok (.aload_n 0, 1) := by decide +kernel
theorem d_Md_letter_11 : decode b_Md_letter 11 = .ok (.dup, 1) := by decide +kernel
theorem d_Md_letter_12 : decode b_Md_letter 12 = .ok (.getfield 589, 3) := by decide +kernel
theorem d_Md_letter_15 : decode b_Md_letter 15 = .ok (.iconst 1, 1) := by decide +kernel
theorem d_Md_letter_16 : decode b_Md_letter 16 = .ok (.iadd, 1) := by decide +kernel
theorem d_Md_letter_17 : decode b_Md_letter 17 = .ok (.putfield 589, 3) := by decide +kernel
theorem d_Md_letter_20 : decode b_Md_letter 20 = .ok (.return_, 1) := by decide +kernel
theorem d_Md_line_0 : decode b_Md_line 0 = .ok (.aload_n 0, 1) := by decide +kernel
theorem d_Md_line_1 : decode b_Md_line 1 = .ok (.iconst 0, 1) := by decide +kernel
theorem d_Md_line_2 : decode b_Md_line 2 = .ok (.putfield 154, 3) := by decide +kernel
theorem d_Md_line_5 : decode b_Md_line 5 = .ok (.aload_n 0, 1) := by decide +kernel
theorem d_Md_line_6 : decode b_Md_line 6 = .ok (.invokevirtual 570, 3) := by decide +kernel
theorem d_Md_line_9 : decode b_Md_line 9 = .ok (.istore_n 1, 1) := by decide +kernel
theorem d_Md_line_10 : decode b_Md_line 10 = .ok (.iload_n 1, 1) := by decide +kernel
theorem d_Md_line_11 : decode b_Md_line 11 = .ok (.ifCond .ne 11, 3) := by decide +kernel
theorem d_Md_line_14 : decode b_Md_line 14 = .ok (.aload_n 0, 1) := by decide +kernel
theorem d_Md_line_15 : decode b_Md_line 15 = .ok (.aload_n 0, 1) := by decide +kernel
theorem d_Md_line_16 : decode b_Md_line 16 = .ok (.getfield 481, 3) := by decide +kernel
theorem d_Md_line_19 : decode b_Md_line 19 = .ok (.putfield 16, 3) := by decide +kernel
theorem d_Md_line_22 : decode b_Md_line 22 = .ok (.aload_n 0, 1) := by decide +kernel
theorem d_Md_line_23 : decode b_Md_line 23 = .ok (.iconst 0, 1) := by decide +kernel
theorem d_Md_line_24 : decode b_Md_line 24 = .ok (.putfield 484, 3) := by decide +kernel
theorem d_Md_line_27 : decode b_Md_line 27 = .ok (.iload_n 1, 1) := by decide +kernel
theorem d_Md_line_28 : decode b_Md_line 28 = .ok (.ifCond .ne 5, 3) := by decide +kernel
theorem d_Md_line_31 : decode b_Md_line 31 = .ok (.iconst (-1), 1) := by decide +kernel
theorem d_Md_line_32 : decode b_Md_line 32 = .ok (.ireturn, 1) := by decide +kernel
theorem d_Md_look_0 : decode b_Md_look 0 = .ok (.aload_n 0, 1) := by decide +kernel
theorem d_Md_look_1 : decode b_Md_look 1 = .ok (.iload_n 1, 1) := by decide +kernel
theorem d_Md_look_2 : decode b_Md_look 2 = .ok (.i2l, 1) := by decide +kernel
theorem d_Md_look_3 : decode b_Md_look 3 = .ok (.lconst 0, 1) := by decide +kernel
theorem d_Md_look_4 : decode b_Md_look 4 = .ok (.ldc2_w 587, 3) := by decide +kernel
theorem d_Md_look_7 : decode b_Md_look 7 = .ok (.invokestatic 446, 3) := by decide +kernel
theorem d_Md_look_10 : decode b_Md_look 10 = .ok (.ifCond .ne 7, 3) := by decide +kernel
theorem d_Md_look_13 : decode b_Md_look 13 = .ok (.iconst 1, 1) := by decide +kernel
theorem d_Md_look_14 : decode b_Md_look 14 = .ok (.goto 4, 3) := by decide +kernel
theorem d_Md_look_17 : decode b_Md_look 17 = .ok (.iconst 0, 1) := by decide +kernel
theorem d_Md_look_18 : decode b_Md_look 18 = .ok (.iconst 1, 1) := by decide +kernel
theorem d_Md_look_19 : decode b_Md_look 19 = .ok (.invokevirtual 581, 3) := by decide +kernel
theorem d_Md_look_22 : decode b_Md_look 22 = .ok (.ifCond .eq 5, 3) := by decide +kernel
theorem d_Md_look_25 : decode b_Md_look 25 = .ok (.iconst 0, 1) := by decide +kernel
theorem d_Md_look_26 : decode b_Md_look 26 = .ok (.ireturn, 1) := by decide +kernel
theorem d_Md_look_27 : decode b_Md_look 27 = .ok (.iconst 0, 1) := by decide +kernel
theorem d_Md_look_28 : decode b_Md_look 28 = .ok (.istore_n 2, 1) := by decide +kernel
theorem d_Md_look_29 : decode b_Md_look 29 = .ok (.iconst 0, 1) := by decide +kernel
theorem d_Md_look_30 : decode b_Md_look 30 = .ok (.istore_n 3, 1) := by decide +kernel
theorem d_Md_look_31 : decode b_Md_look 31 = .ok (.iload_n 3, 1) := by decide +kernel
theorem d_Md_look_32 : decode b_Md_look 32 = .ok (.bipush 16, 2) := by decide +kernel
theorem d_Md_look_34 : decode b_Md_look 34 = .ok (.if_icmp .ge 26, 3) := by decide +kernel
theorem d_Md_look_37 : decode b_Md_look 37 = .ok (.iload_n 2, 1) := by decide +kernel
theorem d_Md_look_38 : decode b_Md_look 38 = .ok (.aload_n 0, 1) := by decide +kernel
theorem d_Md_look_39 : decode b_Md_look 39 = .ok (.getfield 20, 3) := by decide +kernel
theorem d_Md_look_42 : decode b_Md_look 42 = .ok (.iload_n 3, 1) := by decide +kernel
theorem d_Md_look_43 : decode b_Md_look 43 = .ok (.baload, 1) := by decide +kernel
theorem d_Md_look_44 : decode b_Md_look 44 = .ok (.ifCond .eq 7, 3) := by decide +kernel
theorem d_Md_look_51 : decode b_Md_look 51 = .ok (.iconst 0, 1) := by decide +kernel
theorem d_Md_look_52 : decode b_Md_look 52 = .ok (.iadd, 1) := by decide +kernel
theorem d_Md_look_53 : decode b_Md_look 53 = .ok (.istore_n 2, 1) := by decide +kernel
theorem d_Md_look_54 : decode b_Md_look 54 = .ok (.iinc 3 1, 3) := by decide +kernel
theorem d_Md_look_57 : decode b_Md_look 57 = .ok (.goto (-26), 3) := by decide +kernel
theorem d_Md_look_60 : decode b_Md_look 60 = .ok (.iload_n 1, 1) := by decide +kernel
theorem d_Md_look_61 : decode b_Md_look 61 = .ok (.ifCond .ne 7, 3) := by decide +kernel
theorem d_Md_look_64 : decode b_Md_look 64 = .ok (.iload_n 2, 1) := by decide +kernel
theorem d_Md_look_65 : decode b_Md_look 65 = .ok (.goto 43, 3) := by decide +kernel
theorem d_Md_look_68 : decode b_Md_look 68 = .ok (.iload_n 1, 1) := by decide +kernel
theorem d_Md_look_69 : decode b_Md_look 69 = .ok (.iconst 1, 1) := by decide +kernel
theorem d_Md_look_70 : decode b_Md_look 70 = .ok (.if_icmp .ne 10, 3) := by decide +kernel
theorem d_Md_look_73 : decode b_Md_look 73 = .ok (.aload_n 0, 1) := by decide +kernel
theorem d_Md_look_74 : decode b_Md_look 74 = .ok (.getfield 16, 3) := by decide +kernel
theorem d_Md_look_77 : decode b_Md_look 77 = .ok (.goto 31, 3) := by decide +kernel
theorem d_Md_look_80 : decode b_Md_look 80 = .ok (.iload_n 1, 1) := by decide +kernel
theorem d_Md_look_81 : decode b_Md_look 81 = .ok (.iconst 2, 1) := by decide +kernel
theorem d_Md_look_82 : decode b_Md_look 82 = .ok (.if_icmp .ne 10, 3) := by decide +kernel
theorem d_Md_look_85 : decode b_Md_look 85 = .ok (.aload_n 0, 1) := by decide +kernel
theorem d_Md_look_86 : decode b_Md_look 86 = .ok (.getfield 484, 3) := by decide +kernel
theorem d_Md_look_89 : decode b_Md_look 89 = .ok (.goto 19, 3) := by decide +kernel
theorem d_Md_look_92 : decode b_Md_look 92 = .ok (.iload_n 1, 1) := by decide +kernel
theorem d_Md_look_93 : decode b_Md_look 93 = .ok (.iconst 3, 1) := by decide +kernel
theorem d_Md_look_94 : decode b_Md_look 94 = .ok (.if_icmp .ne 10, 3) := by decide +kernel
theorem d_Md_look_97 : decode b_Md_look 97 = .ok (.aload_n 0, 1) := by decide +kernel
theorem d_Md_look_98 : decode b_Md_look 98 = .ok (.getfield 589, 3) := by decide +kernel
theorem d_Md_look_101 : decode b_Md_look 101 = .ok (.goto 7, 3) := by decide +kernel
theorem d_Md_look_104 : decode b_Md_look 104 = .ok (.aload_n 0, 1) := by decide +kernel
theorem d_Md_look_105 : decode b_Md_look 105 = .ok (.getfield 576, 3) := by decide +kernel
theorem d_Md_look_108 : decode b_Md_look 108 = .ok (.ireturn, 1) := by decide +kernel
theorem d_Md_multiplied_0 : decode b_Md_multiplied 0 = .ok (.aload_n 0, 1) := by decide +kernel
theorem d_Md_multiplied_1 : decode b_Md_multiplied 1 = .ok (.getfield 41, 3) := by decide +kernel
theorem d_Md_multiplied_4 : decode b_Md_multiplied 4 = .ok (.iload_n 2, 1) := by decide +kernel
theorem d_Md_multiplied_5 : decode b_Md_multiplied 5 = .ok (.iaload, 1) := by decide +kernel
theorem d_Md_multiplied_6 : decode b_Md_multiplied 6 = .ok (.aload_n 0, 1) := by decide +kernel
theorem d_Md_multiplied_7 : decode b_Md_multiplied 7 = .ok (.getfield 41, 3) := by decide +kernel
theorem d_Md_multiplied_10 : decode b_Md_multiplied 10 = .ok (.iload_n 3, 1) := by decide +kernel
theorem d_Md_multiplied_11 : decode b_Md_multiplied 11 = .ok (.iaload, 1) := by decide +kernel
theorem d_Md_multiplied_12 : decode b_Md_multiplied 12 = .ok (.iadd, 1) := by decide +kernel
theorem d_Md_multiplied_13 : decode b_Md_multiplied 13 = .ok (.istore 4, 2) := by decide +kernel
theorem d_Md_multiplied_15 : decode b_Md_multiplied 15 = .ok (.aload_n 0, 1) := by decide +kernel
theorem d_Md_multiplied_16 : decode b_Md_multiplied 16 = .ok (.getfield 44, 3) := by decide +kernel
theorem d_Md_multiplied_19 : decode b_Md_multiplied 19 = .ok (.iload_n 2, 1) := by decide +kernel
theorem d_Md_multiplied_20 : decode b_Md_multiplied 20 = .ok (.iaload, 1) := by decide +kernel
theorem d_Md_multiplied_21 : decode b_Md_multiplied 21 = .ok (.aload_n 0, 1) := by decide +kernel
theorem d_Md_multiplied_22 : decode b_Md_multiplied 22 = .ok (.getfield 44, 3) := by decide +kernel
theorem d_Md_multiplied_25 : decode b_Md_multiplied 25 = .ok (.iload_n 3, 1) := by decide +kernel
theorem d_Md_multiplied_26 : decode b_Md_multiplied 26 = .ok (.iaload, 1) := by decide +kernel
theorem d_Md_multiplied_27 : decode b_Md_multiplied 27 = .ok (.imul, 1) := by decide +kernel
theorem d_Md_multiplied_28 : decode b_Md_multiplied 28 = .ok (.istore 5, 2) := by decide +kernel
theorem d_Md_multiplied_30 : decode b_Md_multiplied 30 = .ok (.iconst 0, 1) := by decide +kernel
theorem d_Md_multiplied_31 : decode b_Md_multiplied 31 = .ok (.istore 6, 2) := by decide +kernel
theorem d_Md_multiplied_33 : decode b_Md_multiplied 33 = .ok (.iload 6, 2) := by decide +kernel
theorem d_Md_multiplied_35 : decode b_Md_multiplied 35 = .ok (.iload 4, 2) := by decide +kernel
theorem d_Md_multiplied_37 : decode b_Md_multiplied 37 = .ok (.if_icmp .ge 17, 3) := by decide +kernel
theorem d_Md_multiplied_40 : decode b_Md_multiplied 40 = .ok (.aload_n 0, 1) := by decide +kernel
theorem d_Md_multiplied_41 : decode b_Md_multiplied 41 = .ok (.getfield 47, 3) := by decide +kernel
theorem d_Md_multiplied_44 : decode b_Md_multiplied 44 = .ok (.iload 6, 2) := by decide +kernel
theorem d_Md_multiplied_46 : decode b_Md_multiplied 46 = .ok (.lconst 0, 1) := by decide +kernel
theorem d_Md_multiplied_47 : decode b_Md_multiplied 47 = .ok (.lastore, 1) := by decide +kernel
theorem d_Md_multiplied_48 : decode b_Md_multiplied 48 = .ok (.iinc 6 1, 3) := by decide +kernel
theorem d_Md_multiplied_51 : decode b_Md_multiplied 51 = .ok (.goto (-18), 3) := by decide +kernel
theorem d_Md_multiplied_54 : decode b_Md_multiplied 54 = .ok (.iconst 0, 1) := by decide +kernel
theorem d_Md_multiplied_55 : decode b_Md_multiplied 55 = .ok (.istore 6, 2) := by decide +kernel
theorem d_Md_multiplied_57 : decode b_Md_multiplied 57 = .ok (.iload 6, 2) := by decide +kernel
theorem d_Md_multiplied_59 : decode b_Md_multiplied 59 = .ok (.aload_n 0, 1) := by decide +kernel
theorem d_Md_multiplied_60 : decode b_Md_multiplied 60 = .ok (.getfield 41, 3) := by decide +kernel
theorem d_Md_multiplied_63 : decode b_Md_multiplied 63 = .ok (.iload_n 2, 1) := by decide +kernel
theorem d_Md_multiplied_64 : decode b_Md_multiplied 64 = .ok (.iaload, 1) := by decide +kernel
theorem d_Md_multiplied_65 : decode b_Md_multiplied 65 = .ok (.if_icmp .ge 114, 3) := by decide +kernel
theorem d_Md_multiplied_179 : decode b_Md_multiplied 179 = .ok (.aload_n 0, 1) := by decide +kernel
theorem d_Md_multiplied_180 : decode b_Md_multiplied 180 = .ok (.iload_n 1, 1) := by decide +kernel
theorem d_Md_multiplied_181 : decode b_Md_multiplied 181 = .ok (.iload 4, 2) := by decide +kernel
theorem d_Md_multiplied_183 : decode b_Md_multiplied 183 = .ok (.iload 5, 2) := by decide +kernel
theorem d_Md_multiplied_185 : decode b_Md_multiplied 185 = .ok (.invokevirtual 171, 3) := by decide +kernel
theorem d_Md_multiplied_188 : decode b_Md_multiplied 188 = .ok (.return_, 1) := by decide +kernel
theorem d_Md_number_0 : decode b_Md_number 0 = .ok (.aload_n 0, 1) := by decide +kernel
theorem d_Md_number_1 : decode b_Md_number 1 = .ok (.getfield 20, 3) := by decide +kernel
theorem d_Md_number_4 : decode b_Md_number 4 = .ok (.iload_n 1, 1) := by decide +kernel
theorem d_Md_number_5 : decode b_Md_number 5 = .ok (.iconst 1, 1) := by decide +kernel
theorem d_Md_number_6 : decode b_Md_number 6 = .ok (.bastore, 1) := by decide +kernel
theorem d_Md_number_7 : decode b_Md_number 7 = .ok (.aload_n 0, 1) := by decide +kernel
theorem d_Md_number_8 : decode b_Md_number 8 = .ok (.getfield 24, 3) := by decide +kernel
theorem d_Md_number_11 : decode b_Md_number 11 = .ok (.iload_n 1, 1) := by decide +kernel
theorem d_Md_number_12 : decode b_Md_number 12 = .ok (.iconst 1, 1) := by decide +kernel
theorem d_Md_number_13 : decode b_Md_number 13 = .ok (.iastore, 1) := by decide +kernel
theorem d_Md_number_14 : decode b_Md_number 14 = .ok (.aload_n 0, 1) := by decide +kernel
theorem d_Md_number_15 : decode b_Md_number 15 = .ok (.getfield 27, 3) := by decide +kernel
theorem d_Md_number_18 : decode b_Md_number 18 = .ok (.bipush 7, 2) := by decide +kernel
theorem d_Md_number_20 : decode b_Md_number 20 = .ok (.iload_n 1, 1) := by decide +kernel
theorem d_Md_number_21 : decode b_Md_number 21 = .ok (.imul, 1) := by decide +kernel
theorem d_Md_number_22 : decode b_Md_number 22 = .ok (.lload_n 2, 1) := by decide +kernel
theorem d_Md_number_23 : decode b_Md_number 23 = .ok (.lneg, 1) := by decide +kernel
theorem d_Md_number_24 : decode b_Md_number 24 = .ok (.lastore, 1) := by decide +kernel
theorem d_Md_number_25 : decode b_Md_number 25 = .ok (.aload_n 0, 1) := by decide +kernel
theorem d_Md_number_26 : decode b_Md_number 26 = .ok (.getfield 27, 3) := by decide +kernel
theorem d_Md_number_29 : decode b_Md_number 29 = .ok (.bipush 7, 2) := by decide +kernel
theorem d_Md_number_31 : decode b_Md_number 31 = .ok (.iload_n 1, 1) := by decide +kernel
theorem d_Md_number_32 : decode b_Md_number 32 = .ok (.imul, 1) := by decide +kernel
theorem d_Md_number_33 : decode b_Md_number 33 = .ok (.iconst 1, 1) := by decide +kernel
theorem d_Md_number_34 : decode b_Md_number 34 = .ok (.iadd, 1) := by decide +kernel
theorem d_Md_number_35 : decode b_Md_number 35 = .ok (.lconst 1, 1) := by decide +kernel
theorem d_Md_number_36 : decode b_Md_number 36 = .ok (.lastore, 1) := by decide +kernel
theorem d_Md_number_37 : decode b_Md_number 37 = .ok (.aload_n 0, 1) := by decide +kernel
theorem d_Md_number_38 : decode b_Md_number 38 = .ok (.getfield 31, 3) := by decide +kernel
theorem d_Md_number_41 : decode b_Md_number 41 = .ok (.iload_n 1, 1) := by decide +kernel
theorem d_Md_number_42 : decode b_Md_number 42 = .ok (.iconst 0, 1) := by decide +kernel
theorem d_Md_number_43 : decode b_Md_number 43 = .ok (.iastore, 1) := by decide +kernel
theorem d_Md_number_44 : decode b_Md_number 44 = .ok (.aload_n 0, 1) := by decide +kernel
theorem d_Md_number_45 : decode b_Md_number 45 = .ok (.getfield 34, 3) := by decide +kernel
theorem d_Md_number_48 : decode b_Md_number 48 = .ok (.iload_n 1, 1) := by decide +kernel
theorem d_Md_number_49 : decode b_Md_number 49 = .ok (.iconst 1, 1) := by decide +kernel
theorem d_Md_number_50 : decode b_Md_number 50 = .ok (.iastore, 1) := by decide +kernel
theorem d_Md_number_51 : decode b_Md_number 51 = .ok (.return_, 1) := by decide +kernel
theorem d_Md_opens_0 : decode b_Md_opens 0 = .ok (.iload_n 1, 1) := by decide +kernel
theorem d_Md_opens_1 : decode b_Md_opens 1 = .ok (.i2l, 1) := by decide +kernel
theorem d_Md_opens_2 : decode b_Md_opens 2 = .ok (.ldc2_w 493, 3) := by decide +kernel
theorem d_Md_opens_5 : decode b_Md_opens 5 = .ok (.ldc2_w 495, 3) := by decide +kernel
theorem d_Md_opens_8 : decode b_Md_opens 8 = .ok (.invokestatic 446, 3) := by decide +kernel
theorem d_Md_opens_11 : decode b_Md_opens 11 = .ok (.ifCond .eq 26, 3) := by decide +kernel
theorem d_Md_opens_37 : decode b_Md_opens 37 = .ok (.iload_n 1, 1) := by decide +kernel
theorem d_Md_opens_38 : decode b_Md_opens 38 = .ok (.i2l, 1) := by decide +kernel
theorem d_Md_opens_39 : decode b_Md_opens 39 = .ok (.ldc2_w 510, 3) := by decide +kernel
theorem d_Md_opens_42 : decode b_Md_opens 42 = .ok (.ldc2_w 512, 3) := by decide +kernel
theorem d_Md_opens_45 : decode b_Md_opens 45 = .ok (.invokestatic 446, 3) := by decide +kernel
theorem d_Md_opens_48 : decode b_Md_opens 48 = .ok (.ifCond .eq 25, 3) := by decide +kernel
theorem d_Md_opens_73 : decode b_Md_opens 73 = .ok (.iload_n 1, 1) := by decide +kernel
theorem d_Md_opens_74 : decode b_Md_opens 74 = .ok (.bipush 45, 2) := by decide +kernel
theorem d_Md_opens_76 : decode b_Md_opens 76 = .ok (.if_icmp .ne 22, 3) := by decide +kernel
theorem d_Md_opens_98 : decode b_Md_opens 98 = .ok (.iload_n 1, 1) := by decide +kernel
theorem d_Md_opens_99 : decode b_Md_opens 99 = .ok (.bipush 35, 2) := by decide +kernel
theorem d_Md_opens_101 : decode b_Md_opens 101 = .ok (.if_icmp .ne 66, 3) := by decide +kernel
theorem d_Md_opens_167 : decode b_Md_opens 167 = .ok (.iload_n 1, 1) := by decide +kernel
theorem d_Md_opens_168 : decode b_Md_opens 168 = .ok (.bipush 40, 2) := by decide +kernel
theorem d_Md_opens_170 : decode b_Md_opens 170 = .ok (.if_icmp .ne 10, 3) := by decide +kernel
theorem d_Md_opens_180 : decode b_Md_opens 180 = .ok (.iload_n 1, 1) := by decide +kernel
theorem d_Md_opens_181 : decode b_Md_opens 181 = .ok (.bipush 64, 2) := by decide +kernel
theorem d_Md_opens_183 : decode b_Md_opens 183 = .ok (.if_icmp .ne 14, 3) := by decide +kernel
theorem d_Md_opens_197 : decode b_Md_opens 197 = .ok (.iconst 0, 1) := by decide +kernel
theorem d_Md_opens_198 : decode b_Md_opens 198 = .ok (.ireturn, 1) := by decide +kernel
theorem d_Md_out_0 : decode b_Md_out 0 = .ok (.aload_n 0, 1) := by decide +kernel
theorem d_Md_out_1 : decode b_Md_out 1 = .ok (.iload_n 1, 1) := by decide +kernel
theorem d_Md_out_2 : decode b_Md_out 2 = .ok (.i2l, 1) := by decide +kernel
theorem d_Md_out_3 : decode b_Md_out 3 = .ok (.lconst 0, 1) := by decide +kernel
theorem d_Md_out_4 : decode b_Md_out 4 = .ok (.aload_n 0, 1) := by decide +kernel
theorem d_Md_out_5 : decode b_Md_out 5 = .ok (.getfield 589, 3) := by decide +kernel
theorem d_Md_out_8 : decode b_Md_out 8 = .ok (.iconst 1, 1) := by decide +kernel
theorem d_Md_out_9 : decode b_Md_out 9 = .ok (.isub, 1) := by decide +kernel
theorem d_Md_out_10 : decode b_Md_out 10 = .ok (.i2l, 1) := by decide +kernel
theorem d_Md_out_11 : decode b_Md_out 11 = .ok (.invokestatic 446, 3) := by decide +kernel
theorem d_Md_out_14 : decode b_Md_out 14 = .ok (.ifCond .ne 7, 3) := by decide +kernel
theorem d_Md_out_17 : decode b_Md_out 17 = .ok (.iconst 1, 1) := by decide +kernel
theorem d_Md_out_18 : decode b_Md_out 18 = .ok (.goto 4, 3) := by decide +kernel
theorem d_Md_out_22 : decode b_Md_out 22 = .ok (.iconst 1, 1) := by decide +kernel
theorem d_Md_out_23 : decode b_Md_out 23 = .ok (.invokevirtual 581, 3) := by decide +kernel
theorem d_Md_out_26 : decode b_Md_out 26 = .ok (.ifCond .eq 5, 3) := by decide +kernel
theorem d_Md_out_29 : decode b_Md_out 29 = .ok (.lconst 0, 1) := by decide +kernel
theorem d_Md_out_30 : decode b_Md_out 30 = .ok (.lreturn, 1) := by decide +kernel
theorem d_Md_peek_0 : decode b_Md_peek 0 = .ok (.aload_n 0, 1) := by decide +kernel
theorem d_Md_peek_1 : decode b_Md_peek 1 = .ok (.getfield 481, 3) := by decide +kernel
theorem d_Md_peek_4 : decode b_Md_peek 4 = .ok (.aload_n 0, 1) := by decide +kernel
theorem d_Md_peek_5 : decode b_Md_peek 5 = .ok (.getfield 484, 3) := by decide +kernel
theorem d_Md_peek_8 : decode b_Md_peek 8 = .ok (.if_icmp .ge 30, 3) := by decide +kernel
theorem d_Md_peek_38 : decode b_Md_peek 38 = .ok (.aload_n 0, 1) := by decide +kernel
theorem d_Md_peek_39 : decode b_Md_peek 39 = .ok (.getfield 481, 3) := by decide +kernel
theorem d_Md_peek_42 : decode b_Md_peek 42 = .ok (.aload_n 0, 1) := by decide +kernel
theorem d_Md_peek_43 : decode b_Md_peek 43 = .ok (.getfield 484, 3) := by decide +kernel
theorem d_Md_peek_46 : decode b_Md_peek 46 = .ok (.if_icmp .ge 15, 3) := by decide +kernel
theorem d_Md_peek_61 : decode b_Md_peek 61 = .ok (.iconst (-1), 1) := by decide +kernel
theorem d_Md_peek_62 : decode b_Md_peek 62 = .ok (.ireturn, 1) := by decide +kernel
theorem d_Md_put_0 : decode b_Md_put 0 = .ok (.lload_n 2, 1) := by decide +kernel
theorem d_Md_put_1 : decode b_Md_put 1 = .ok (.lconst 0, 1) := by decide +kernel
theorem d_Md_put_2 : decode b_Md_put 2 = .ok (.lcmp, 1) := by decide +kernel
theorem d_Md_put_3 : decode b_Md_put 3 = .ok (.ifCond .ge 8, 3) := by decide +kernel
theorem d_Md_put_11 : decode b_Md_put 11 = .ok (.lload_n 2, 1) := by decide +kernel
theorem d_Md_put_12 : decode b_Md_put 12 = .ok (.lstore 4, 2) := by decide +kernel
theorem d_Md_put_14 : decode b_Md_put 14 = .ok (.aload_n 0, 1) := by decide +kernel
theorem d_Md_put_15 : decode b_Md_put 15 = .ok (.getfield 41, 3) := by decide +kernel
theorem d_Md_put_18 : decode b_Md_put 18 = .ok (.iload_n 1, 1) := by decide +kernel
theorem d_Md_put_19 : decode b_Md_put 19 = .ok (.iconst 3, 1) := by decide +kernel
theorem d_Md_put_20 : decode b_Md_put 20 = .ok (.iastore, 1) := by decide +kernel
theorem d_Md_put_21 : decode b_Md_put 21 = .ok (.aload_n 0, 1) := by decide +kernel
theorem d_Md_put_22 : decode b_Md_put 22 = .ok (.getfield 44, 3) := by decide +kernel
theorem d_Md_put_25 : decode b_Md_put 25 = .ok (.iload_n 1, 1) := by decide +kernel
theorem d_Md_put_26 : decode b_Md_put 26 = .ok (.lload_n 2, 1) := by decide +kernel
theorem d_Md_put_27 : decode b_Md_put 27 = .ok (.lconst 0, 1) := by decide +kernel
theorem d_Md_put_28 : decode b_Md_put 28 = .ok (.lcmp, 1) := by decide +kernel
theorem d_Md_put_29 : decode b_Md_put 29 = .ok (.ifCond .ge 7, 3) := by decide +kernel
theorem d_Md_put_36 : decode b_Md_put 36 = .ok (.iconst 1, 1) := by decide +kernel
theorem d_Md_put_37 : decode b_Md_put 37 = .ok (.iastore, 1) := by decide +kernel
theorem d_Md_put_38 : decode b_Md_put 38 = .ok (.iconst 0, 1) := by decide +kernel
theorem d_Md_put_39 : decode b_Md_put 39 = .ok (.istore 6, 2) := by decide +kernel
theorem d_Md_put_41 : decode b_Md_put 41 = .ok (.iload 6, 2) := by decide +kernel
theorem d_Md_put_43 : decode b_Md_put 43 = .ok (.iconst 3, 1) := by decide +kernel
theorem d_Md_put_44 : decode b_Md_put 44 = .ok (.if_icmp .ge 34, 3) := by decide +kernel
theorem d_Md_put_47 : decode b_Md_put 47 = .ok (.aload_n 0, 1) := by decide +kernel
