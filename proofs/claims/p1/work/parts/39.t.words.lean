/-! laid by program -/
theorem d_Law_law_0 : decode b_Law_law 0 = .ok (.new 8, 3) := by decide +kernel
theorem d_Law_law_3 : decode b_Law_law 3 = .ok (.dup, 1) := by decide +kernel
theorem d_Law_law_4 : decode b_Law_law 4 = .ok (.invokespecial 53, 3) := by decide +kernel
theorem d_Law_law_7 : decode b_Law_law 7 = .ok (.astore_n 1, 1) := by decide +kernel
theorem d_Law_law_8 : decode b_Law_law 8 = .ok (.new 54, 3) := by decide +kernel
theorem d_Law_law_11 : decode b_Law_law 11 = .ok (.dup, 1) := by decide +kernel
theorem d_Law_law_12 : decode b_Law_law 12 = .ok (.invokespecial 56, 3) := by decide +kernel
theorem d_Law_law_15 : decode b_Law_law 15 = .ok (.astore_n 2, 1) := by decide +kernel
theorem d_Law_law_16 : decode b_Law_law 16 = .ok (.iconst 1, 1) := by decide +kernel
theorem d_Law_law_17 : decode b_Law_law 17 = .ok (.newarray .long, 2) := by decide +kernel
theorem d_Law_law_19 : decode b_Law_law 19 = .ok (.astore_n 3, 1) := by decide +kernel
theorem d_Law_law_20 : decode b_Law_law 20 = .ok (.iconst 0, 1) := by decide +kernel
theorem d_Law_law_21 : decode b_Law_law 21 = .ok (.istore 4, 2) := by decide +kernel
theorem d_Law_law_23 : decode b_Law_law 23 = .ok (.iload 4, 2) := by decide +kernel
theorem d_Law_law_25 : decode b_Law_law 25 = .ok (.aload_n 0, 1) := by decide +kernel
theorem d_Law_law_26 : decode b_Law_law 26 = .ok (.arraylength, 1) := by decide +kernel
theorem d_Law_law_27 : decode b_Law_law 27 = .ok (.iconst 4, 1) := by decide +kernel
theorem d_Law_law_28 : decode b_Law_law 28 = .ok (.isub, 1) := by decide +kernel
theorem d_Law_law_29 : decode b_Law_law 29 = .ok (.if_icmp .gt 792, 3) := by decide +kernel
theorem d_Law_law_32 : decode b_Law_law 32 = .ok (.aload_n 0, 1) := by decide +kernel
theorem d_Law_law_33 : decode b_Law_law 33 = .ok (.iload 4, 2) := by decide +kernel
theorem d_Law_law_35 : decode b_Law_law 35 = .ok (.iaload, 1) := by decide +kernel
theorem d_Law_law_36 : decode b_Law_law 36 = .ok (.bipush 15, 2) := by decide +kernel
theorem d_Law_law_38 : decode b_Law_law 38 = .ok (.iand, 1) := by decide +kernel
theorem d_Law_law_39 : decode b_Law_law 39 = .ok (.tableswitch 776 0 11 #[61, 161, 174, 230, 286, 354, 410, 466, 534, 602, 658, 713], 61) := by decide +kernel
theorem d_Law_law_100 : decode b_Law_law 100 = .ok (.aload_n 1, 1) := by decide +kernel
theorem d_Law_law_101 : decode b_Law_law 101 = .ok (.aload_n 0, 1) := by decide +kernel
theorem d_Law_law_102 : decode b_Law_law 102 = .ok (.iload 4, 2) := by decide +kernel
theorem d_Law_law_104 : decode b_Law_law 104 = .ok (.iconst 1, 1) := by decide +kernel
theorem d_Law_law_105 : decode b_Law_law 105 = .ok (.iadd, 1) := by decide +kernel
theorem d_Law_law_106 : decode b_Law_law 106 = .ok (.iaload, 1) := by decide +kernel
theorem d_Law_law_107 : decode b_Law_law 107 = .ok (.aload_n 0, 1) := by decide +kernel
theorem d_Law_law_108 : decode b_Law_law 108 = .ok (.iload 4, 2) := by decide +kernel
theorem d_Law_law_110 : decode b_Law_law 110 = .ok (.iconst 2, 1) := by decide +kernel
theorem d_Law_law_111 : decode b_Law_law 111 = .ok (.iadd, 1) := by decide +kernel
theorem d_Law_law_112 : decode b_Law_law 112 = .ok (.iaload, 1) := by decide +kernel
theorem d_Law_law_113 : decode b_Law_law 113 = .ok (.i2l, 1) := by decide +kernel
theorem d_Law_law_114 : decode b_Law_law 114 = .ok (.bipush 32, 2) := by decide +kernel
theorem d_Law_law_116 : decode b_Law_law 116 = .ok (.lshl, 1) := by decide +kernel
theorem d_Law_law_117 : decode b_Law_law 117 = .ok (.aload_n 0, 1) := by decide +kernel
theorem d_Law_law_118 : decode b_Law_law 118 = .ok (.iload 4, 2) := by decide +kernel
theorem d_Law_law_120 : decode b_Law_law 120 = .ok (.iconst 3, 1) := by decide +kernel
theorem d_Law_law_121 : decode b_Law_law 121 = .ok (.iadd, 1) := by decide +kernel
theorem d_Law_law_122 : decode b_Law_law 122 = .ok (.iaload, 1) := by decide +kernel
theorem d_Law_law_123 : decode b_Law_law 123 = .ok (.i2l, 1) := by decide +kernel
theorem d_Law_law_124 : decode b_Law_law 124 = .ok (.ldc2_w 57, 3) := by decide +kernel
theorem d_Law_law_127 : decode b_Law_law 127 = .ok (.land, 1) := by decide +kernel
theorem d_Law_law_128 : decode b_Law_law 128 = .ok (.lor, 1) := by decide +kernel
theorem d_Law_law_129 : decode b_Law_law 129 = .ok (.aload_n 3, 1) := by decide +kernel
theorem d_Law_law_130 : decode b_Law_law 130 = .ok (.invokestatic 59, 3) := by decide +kernel
theorem d_Law_law_133 : decode b_Law_law 133 = .ok (.istore 5, 2) := by decide +kernel
theorem d_Law_law_135 : decode b_Law_law 135 = .ok (.aload_n 2, 1) := by decide +kernel
theorem d_Law_law_136 : decode b_Law_law 136 = .ok (.aload_n 0, 1) := by decide +kernel
theorem d_Law_law_137 : decode b_Law_law 137 = .ok (.iload 4, 2) := by decide +kernel
theorem d_Law_law_139 : decode b_Law_law 139 = .ok (.iconst 1, 1) := by decide +kernel
theorem d_Law_law_140 : decode b_Law_law 140 = .ok (.iadd, 1) := by decide +kernel
theorem d_Law_law_141 : decode b_Law_law 141 = .ok (.iaload, 1) := by decide +kernel
theorem d_Law_law_142 : decode b_Law_law 142 = .ok (.aload_n 0, 1) := by decide +kernel
theorem d_Law_law_143 : decode b_Law_law 143 = .ok (.iload 4, 2) := by decide +kernel
theorem d_Law_law_145 : decode b_Law_law 145 = .ok (.iconst 2, 1) := by decide +kernel
theorem d_Law_law_146 : decode b_Law_law 146 = .ok (.iadd, 1) := by decide +kernel
theorem d_Law_law_147 : decode b_Law_law 147 = .ok (.iaload, 1) := by decide +kernel
theorem d_Law_law_148 : decode b_Law_law 148 = .ok (.i2l, 1) := by decide +kernel
theorem d_Law_law_149 : decode b_Law_law 149 = .ok (.bipush 32, 2) := by decide +kernel
theorem d_Law_law_151 : decode b_Law_law 151 = .ok (.lshl, 1) := by decide +kernel
theorem d_Law_law_152 : decode b_Law_law 152 = .ok (.aload_n 0, 1) := by decide +kernel
theorem d_Law_law_153 : decode b_Law_law 153 = .ok (.iload 4, 2) := by decide +kernel
theorem d_Law_law_155 : decode b_Law_law 155 = .ok (.iconst 3, 1) := by decide +kernel
theorem d_Law_law_156 : decode b_Law_law 156 = .ok (.iadd, 1) := by decide +kernel
theorem d_Law_law_157 : decode b_Law_law 157 = .ok (.iaload, 1) := by decide +kernel
theorem d_Law_law_158 : decode b_Law_law 158 = .ok (.i2l, 1) := by decide +kernel
theorem d_Law_law_159 : decode b_Law_law 159 = .ok (.ldc2_w 57, 3) := by decide +kernel
theorem d_Law_law_162 : decode b_Law_law 162 = .ok (.land, 1) := by decide +kernel
theorem d_Law_law_163 : decode b_Law_law 163 = .ok (.lor, 1) := by decide +kernel
theorem d_Law_law_164 : decode b_Law_law 164 = .ok (.invokevirtual 64, 3) := by decide +kernel
theorem d_Law_law_167 : decode b_Law_law 167 = .ok (.istore 6, 2) := by decide +kernel
theorem d_Law_law_169 : decode b_Law_law 169 = .ok (.aload_n 2, 1) := by decide +kernel
theorem d_Law_law_170 : decode b_Law_law 170 = .ok (.invokevirtual 65, 3) := by decide +kernel
theorem d_Law_law_173 : decode b_Law_law 173 = .ok (.iload 5, 2) := by decide +kernel
theorem d_Law_law_175 : decode b_Law_law 175 = .ok (.if_icmp .eq 5, 3) := by decide +kernel
theorem d_Law_law_180 : decode b_Law_law 180 = .ok (.iload 5, 2) := by decide +kernel
theorem d_Law_law_182 : decode b_Law_law 182 = .ok (.ifCond .ne 15, 3) := by decide +kernel
theorem d_Law_law_185 : decode b_Law_law 185 = .ok (.aload_n 3, 1) := by decide +kernel
theorem d_Law_law_186 : decode b_Law_law 186 = .ok (.iconst 0, 1) := by decide +kernel
theorem d_Law_law_187 : decode b_Law_law 187 = .ok (.laload, 1) := by decide +kernel
theorem d_Law_law_188 : decode b_Law_law 188 = .ok (.iload 6, 2) := by decide +kernel
theorem d_Law_law_190 : decode b_Law_law 190 = .ok (.i2l, 1) := by decide +kernel
theorem d_Law_law_191 : decode b_Law_law 191 = .ok (.lcmp, 1) := by decide +kernel
theorem d_Law_law_192 : decode b_Law_law 192 = .ok (.ifCond .eq 5, 3) := by decide +kernel
theorem d_Law_law_197 : decode b_Law_law 197 = .ok (.goto 618, 3) := by decide +kernel
theorem d_Law_law_200 : decode b_Law_law 200 = .ok (.aload_n 1, 1) := by decide +kernel
theorem d_Law_law_201 : decode b_Law_law 201 = .ok (.invokevirtual 69, 3) := by decide +kernel
theorem d_Law_law_204 : decode b_Law_law 204 = .ok (.aload_n 2, 1) := by decide +kernel
theorem d_Law_law_205 : decode b_Law_law 205 = .ok (.invokevirtual 72, 3) := by decide +kernel
theorem d_Law_law_208 : decode b_Law_law 208 = .ok (.if_icmp .eq 607, 3) := by decide +kernel
theorem d_Law_law_213 : decode b_Law_law 213 = .ok (.aload_n 1, 1) := by decide +kernel
theorem d_Law_law_214 : decode b_Law_law 214 = .ok (.aload_n 0, 1) := by decide +kernel
theorem d_Law_law_215 : decode b_Law_law 215 = .ok (.iload 4, 2) := by decide +kernel
theorem d_Law_law_217 : decode b_Law_law 217 = .ok (.iconst 1, 1) := by decide +kernel
theorem d_Law_law_218 : decode b_Law_law 218 = .ok (.iadd, 1) := by decide +kernel
theorem d_Law_law_219 : decode b_Law_law 219 = .ok (.iaload, 1) := by decide +kernel
theorem d_Law_law_220 : decode b_Law_law 220 = .ok (.aload_n 3, 1) := by decide +kernel
theorem d_Law_law_221 : decode b_Law_law 221 = .ok (.invokestatic 73, 3) := by decide +kernel
theorem d_Law_law_224 : decode b_Law_law 224 = .ok (.istore 5, 2) := by decide +kernel
theorem d_Law_law_226 : decode b_Law_law 226 = .ok (.aload_n 2, 1) := by decide +kernel
theorem d_Law_law_227 : decode b_Law_law 227 = .ok (.aload_n 0, 1) := by decide +kernel
theorem d_Law_law_228 : decode b_Law_law 228 = .ok (.iload 4, 2) := by decide +kernel
theorem d_Law_law_230 : decode b_Law_law 230 = .ok (.iconst 1, 1) := by decide +kernel
theorem d_Law_law_231 : decode b_Law_law 231 = .ok (.iadd, 1) := by decide +kernel
theorem d_Law_law_232 : decode b_Law_law 232 = .ok (.iaload, 1) := by decide +kernel
theorem d_Law_law_233 : decode b_Law_law 233 = .ok (.invokevirtual 76, 3) := by decide +kernel
theorem d_Law_law_236 : decode b_Law_law 236 = .ok (.istore 6, 2) := by decide +kernel
theorem d_Law_law_238 : decode b_Law_law 238 = .ok (.aload_n 2, 1) := by decide +kernel
theorem d_Law_law_239 : decode b_Law_law 239 = .ok (.invokevirtual 65, 3) := by decide +kernel
theorem d_Law_law_242 : decode b_Law_law 242 = .ok (.iload 5, 2) := by decide +kernel
theorem d_Law_law_244 : decode b_Law_law 244 = .ok (.if_icmp .eq 5, 3) := by decide +kernel
theorem d_Law_law_249 : decode b_Law_law 249 = .ok (.iload 5, 2) := by decide +kernel
theorem d_Law_law_251 : decode b_Law_law 251 = .ok (.ifCond .ne 15, 3) := by decide +kernel
theorem d_Law_law_254 : decode b_Law_law 254 = .ok (.aload_n 3, 1) := by decide +kernel
theorem d_Law_law_255 : decode b_Law_law 255 = .ok (.iconst 0, 1) := by decide +kernel
theorem d_Law_law_256 : decode b_Law_law 256 = .ok (.laload, 1) := by decide +kernel
theorem d_Law_law_257 : decode b_Law_law 257 = .ok (.iload 6, 2) := by decide +kernel
theorem d_Law_law_259 : decode b_Law_law 259 = .ok (.i2l, 1) := by decide +kernel
theorem d_Law_law_260 : decode b_Law_law 260 = .ok (.lcmp, 1) := by decide +kernel
theorem d_Law_law_261 : decode b_Law_law 261 = .ok (.ifCond .eq 5, 3) := by decide +kernel
theorem d_Law_law_266 : decode b_Law_law 266 = .ok (.goto 549, 3) := by decide +kernel
theorem d_Law_law_269 : decode b_Law_law 269 = .ok (.aload_n 1, 1) := by decide +kernel
theorem d_Law_law_270 : decode b_Law_law 270 = .ok (.aload_n 0, 1) := by decide +kernel
theorem d_Law_law_271 : decode b_Law_law 271 = .ok (.iload 4, 2) := by decide +kernel
theorem d_Law_law_273 : decode b_Law_law 273 = .ok (.iconst 1, 1) := by decide +kernel
theorem d_Law_law_274 : decode b_Law_law 274 = .ok (.iadd, 1) := by decide +kernel
theorem d_Law_law_275 : decode b_Law_law 275 = .ok (.iaload, 1) := by decide +kernel
theorem d_Law_law_276 : decode b_Law_law 276 = .ok (.aload_n 3, 1) := by decide +kernel
theorem d_Law_law_277 : decode b_Law_law 277 = .ok (.invokestatic 77, 3) := by decide +kernel
theorem d_Law_law_280 : decode b_Law_law 280 = .ok (.istore 5, 2) := by decide +kernel
theorem d_Law_law_282 : decode b_Law_law 282 = .ok (.aload_n 2, 1) := by decide +kernel
theorem d_Law_law_283 : decode b_Law_law 283 = .ok (.aload_n 0, 1) := by decide +kernel
theorem d_Law_law_284 : decode b_Law_law 284 = .ok (.iload 4, 2) := by decide +kernel
theorem d_Law_law_286 : decode b_Law_law 286 = .ok (.iconst 1, 1) := by decide +kernel
theorem d_Law_law_287 : decode b_Law_law 287 = .ok (.iadd, 1) := by decide +kernel
theorem d_Law_law_288 : decode b_Law_law 288 = .ok (.iaload, 1) := by decide +kernel
theorem d_Law_law_289 : decode b_Law_law 289 = .ok (.invokevirtual 79, 3) := by decide +kernel
theorem d_Law_law_292 : decode b_Law_law 292 = .ok (.istore 6, 2) := by decide +kernel
theorem d_Law_law_294 : decode b_Law_law 294 = .ok (.aload_n 2, 1) := by decide +kernel
theorem d_Law_law_295 : decode b_Law_law 295 = .ok (.invokevirtual 65, 3) := by decide +kernel
theorem d_Law_law_298 : decode b_Law_law 298 = .ok (.iload 5, 2) := by decide +kernel
theorem d_Law_law_300 : decode b_Law_law 300 = .ok (.if_icmp .eq 5, 3) := by decide +kernel
theorem d_Law_law_305 : decode b_Law_law 305 = .ok (.iload 5, 2) := by decide +kernel
theorem d_Law_law_307 : decode b_Law_law 307 = .ok (.ifCond .ne 15, 3) := by decide +kernel
theorem d_Law_law_310 : decode b_Law_law 310 = .ok (.aload_n 3, 1) := by decide +kernel
theorem d_Law_law_311 : decode b_Law_law 311 = .ok (.iconst 0, 1) := by decide +kernel
theorem d_Law_law_312 : decode b_Law_law 312 = .ok (.laload, 1) := by decide +kernel
theorem d_Law_law_313 : decode b_Law_law 313 = .ok (.iload 6, 2) := by decide +kernel
theorem d_Law_law_315 : decode b_Law_law 315 = .ok (.i2l, 1) := by decide +kernel
theorem d_Law_law_316 : decode b_Law_law 316 = .ok (.lcmp, 1) := by decide +kernel
theorem d_Law_law_317 : decode b_Law_law 317 = .ok (.ifCond .eq 5, 3) := by decide +kernel
theorem d_Law_law_322 : decode b_Law_law 322 = .ok (.goto 493, 3) := by decide +kernel
theorem d_Law_law_325 : decode b_Law_law 325 = .ok (.aload_n 1, 1) := by decide +kernel
theorem d_Law_law_326 : decode b_Law_law 326 = .ok (.aload_n 0, 1) := by decide +kernel
theorem d_Law_law_327 : decode b_Law_law 327 = .ok (.iload 4, 2) := by decide +kernel
theorem d_Law_law_329 : decode b_Law_law 329 = .ok (.iconst 1, 1) := by decide +kernel
theorem d_Law_law_330 : decode b_Law_law 330 = .ok (.iadd, 1) := by decide +kernel
theorem d_Law_law_331 : decode b_Law_law 331 = .ok (.iaload, 1) := by decide +kernel
theorem d_Law_law_332 : decode b_Law_law 332 = .ok (.aload_n 0, 1) := by decide +kernel
theorem d_Law_law_333 : decode b_Law_law 333 = .ok (.iload 4, 2) := by decide +kernel
theorem d_Law_law_335 : decode b_Law_law 335 = .ok (.iconst 2, 1) := by decide +kernel
theorem d_Law_law_336 : decode b_Law_law 336 = .ok (.iadd, 1) := by decide +kernel
theorem d_Law_law_337 : decode b_Law_law 337 = .ok (.iaload, 1) := by decide +kernel
theorem d_Law_law_338 : decode b_Law_law 338 = .ok (.aload_n 3, 1) := by decide +kernel
theorem d_Law_law_339 : decode b_Law_law 339 = .ok (.invokestatic 80, 3) := by decide +kernel
theorem d_Law_law_342 : decode b_Law_law 342 = .ok (.istore 5, 2) := by decide +kernel
theorem d_Law_law_344 : decode b_Law_law 344 = .ok (.aload_n 2, 1) := by decide +kernel
theorem d_Law_law_345 : decode b_Law_law 345 = .ok (.aload_n 0, 1) := by decide +kernel
theorem d_Law_law_346 : decode b_Law_law 346 = .ok (.iload 4, 2) := by decide +kernel
theorem d_Law_law_348 : decode b_Law_law 348 = .ok (.iconst 1, 1) := by decide +kernel
theorem d_Law_law_349 : decode b_Law_law 349 = .ok (.iadd, 1) := by decide +kernel
theorem d_Law_law_350 : decode b_Law_law 350 = .ok (.iaload, 1) := by decide +kernel
theorem d_Law_law_351 : decode b_Law_law 351 = .ok (.aload_n 0, 1) := by decide +kernel
theorem d_Law_law_352 : decode b_Law_law 352 = .ok (.iload 4, 2) := by decide +kernel
theorem d_Law_law_354 : decode b_Law_law 354 = .ok (.iconst 2, 1) := by decide +kernel
theorem d_Law_law_355 : decode b_Law_law 355 = .ok (.iadd, 1) := by decide +kernel
theorem d_Law_law_356 : decode b_Law_law 356 = .ok (.iaload, 1) := by decide +kernel
theorem d_Law_law_357 : decode b_Law_law 357 = .ok (.invokevirtual 83, 3) := by decide +kernel
theorem d_Law_law_360 : decode b_Law_law 360 = .ok (.istore 6, 2) := by decide +kernel
theorem d_Law_law_362 : decode b_Law_law 362 = .ok (.aload_n 2, 1) := by decide +kernel
theorem d_Law_law_363 : decode b_Law_law 363 = .ok (.invokevirtual 65, 3) := by decide +kernel
theorem d_Law_law_366 : decode b_Law_law 366 = .ok (.iload 5, 2) := by decide +kernel
theorem d_Law_law_368 : decode b_Law_law 368 = .ok (.if_icmp .eq 5, 3) := by decide +kernel
theorem d_Law_law_373 : decode b_Law_law 373 = .ok (.iload 5, 2) := by decide +kernel
theorem d_Law_law_375 : decode b_Law_law 375 = .ok (.ifCond .ne 15, 3) := by decide +kernel
theorem d_Law_law_378 : decode b_Law_law 378 = .ok (.aload_n 3, 1) := by decide +kernel
theorem d_Law_law_379 : decode b_Law_law 379 = .ok (.iconst 0, 1) := by decide +kernel
theorem d_Law_law_380 : decode b_Law_law 380 = .ok (.laload, 1) := by decide +kernel
theorem d_Law_law_381 : decode b_Law_law 381 = .ok (.iload 6, 2) := by decide +kernel
theorem d_Law_law_383 : decode b_Law_law 383 = .ok (.i2l, 1) := by decide +kernel
theorem d_Law_law_384 : decode b_Law_law 384 = .ok (.lcmp, 1) := by decide +kernel
theorem d_Law_law_385 : decode b_Law_law 385 = .ok (.ifCond .eq 5, 3) := by decide +kernel
theorem d_Law_law_390 : decode b_Law_law 390 = .ok (.goto 425, 3) := by decide +kernel
theorem d_Law_law_393 : decode b_Law_law 393 = .ok (.aload_n 1, 1) := by decide +kernel
theorem d_Law_law_394 : decode b_Law_law 394 = .ok (.aload_n 0, 1) := by decide +kernel
theorem d_Law_law_395 : decode b_Law_law 395 = .ok (.iload 4, 2) := by decide +kernel
theorem d_Law_law_397 : decode b_Law_law 397 = .ok (.iconst 1, 1) := by decide +kernel
theorem d_Law_law_398 : decode b_Law_law 398 = .ok (.iadd, 1) := by decide +kernel
theorem d_Law_law_399 : decode b_Law_law 399 = .ok (.iaload, 1) := by decide +kernel
theorem d_Law_law_400 : decode b_Law_law 400 = .ok (.aload_n 3, 1) := by decide +kernel
theorem d_Law_law_401 : decode b_Law_law 401 = .ok (.invokestatic 84, 3) := by decide +kernel
theorem d_Law_law_404 : decode b_Law_law 404 = .ok (.istore 5, 2) := by decide +kernel
theorem d_Law_law_406 : decode b_Law_law 406 = .ok (.aload_n 2, 1) := by decide +kernel
theorem d_Law_law_407 : decode b_Law_law 407 = .ok (.aload_n 0, 1) := by decide +kernel
theorem d_Law_law_408 : decode b_Law_law 408 = .ok (.iload 4, 2) := by decide +kernel
theorem d_Law_law_410 : decode b_Law_law 410 = .ok (.iconst 1, 1) := by decide +kernel
theorem d_Law_law_411 : decode b_Law_law 411 = .ok (.iadd, 1) := by decide +kernel
theorem d_Law_law_412 : decode b_Law_law 412 = .ok (.iaload, 1) := by decide +kernel
theorem d_Law_law_413 : decode b_Law_law 413 = .ok (.invokevirtual 86, 3) := by decide +kernel
theorem d_Law_law_416 : decode b_Law_law 416 = .ok (.istore 6, 2) := by decide +kernel
theorem d_Law_law_418 : decode b_Law_law 418 = .ok (.aload_n 2, 1) := by decide +kernel
theorem d_Law_law_419 : decode b_Law_law 419 = .ok (.invokevirtual 65, 3) := by decide +kernel
theorem d_Law_law_422 : decode b_Law_law 422 = .ok (.iload 5, 2) := by decide +kernel
theorem d_Law_law_424 : decode b_Law_law 424 = .ok (.if_icmp .eq 5, 3) := by decide +kernel
theorem d_Law_law_429 : decode b_Law_law 429 = .ok (.iload 5, 2) := by decide +kernel
theorem d_Law_law_431 : decode b_Law_law 431 = .ok (.ifCond .ne 15, 3) := by decide +kernel
theorem d_Law_law_434 : decode b_Law_law 434 = .ok (.aload_n 3, 1) := by decide +kernel
theorem d_Law_law_435 : decode b_Law_law 435 = .ok (.iconst 0, 1) := by decide +kernel
theorem d_Law_law_436 : decode b_Law_law 436 = .ok (.laload, 1) := by decide +kernel
theorem d_Law_law_437 : decode b_Law_law 437 = .ok (.iload 6, 2) := by decide +kernel
theorem d_Law_law_439 : decode b_Law_law 439 = .ok (.i2l, 1) := by decide +kernel
theorem d_Law_law_440 : decode b_Law_law 440 = .ok (.lcmp, 1) := by decide +kernel
theorem d_Law_law_441 : decode b_Law_law 441 = .ok (.ifCond .eq 5, 3) := by decide +kernel
theorem d_Law_law_446 : decode b_Law_law 446 = .ok (.goto 369, 3) := by decide +kernel
theorem d_Law_law_449 : decode b_Law_law 449 = .ok (.aload_n 1, 1) := by decide +kernel
theorem d_Law_law_450 : decode b_Law_law 450 = .ok (.aload_n 0, 1) := by decide +kernel
theorem d_Law_law_451 : decode b_Law_law 451 = .ok (.iload 4, 2) := by decide +kernel
theorem d_Law_law_453 : decode b_Law_law 453 = .ok (.iconst 1, 1) := by decide +kernel
theorem d_Law_law_454 : decode b_Law_law 454 = .ok (.iadd, 1) := by decide +kernel
theorem d_Law_law_455 : decode b_Law_law 455 = .ok (.iaload, 1) := by decide +kernel
theorem d_Law_law_456 : decode b_Law_law 456 = .ok (.aload_n 3, 1) := by decide +kernel
theorem d_Law_law_457 : decode b_Law_law 457 = .ok (.invokestatic 87, 3) := by decide +kernel
theorem d_Law_law_460 : decode b_Law_law 460 = .ok (.istore 5, 2) := by decide +kernel
theorem d_Law_law_462 : decode b_Law_law 462 = .ok (.aload_n 2, 1) := by decide +kernel
theorem d_Law_law_463 : decode b_Law_law 463 = .ok (.aload_n 0, 1) := by decide +kernel
theorem d_Law_law_464 : decode b_Law_law 464 = .ok (.iload 4, 2) := by decide +kernel
theorem d_Law_law_466 : decode b_Law_law 466 = .ok (.iconst 1, 1) := by decide +kernel
theorem d_Law_law_467 : decode b_Law_law 467 = .ok (.iadd, 1) := by decide +kernel
theorem d_Law_law_468 : decode b_Law_law 468 = .ok (.iaload, 1) := by decide +kernel
theorem d_Law_law_469 : decode b_Law_law 469 = .ok (.invokevirtual 89, 3) := by decide +kernel
theorem d_Law_law_472 : decode b_Law_law 472 = .ok (.istore 6, 2) := by decide +kernel
theorem d_Law_law_474 : decode b_Law_law 474 = .ok (.aload_n 2, 1) := by decide +kernel
theorem d_Law_law_475 : decode b_Law_law 475 = .ok (.invokevirtual 65, 3) := by decide +kernel
theorem d_Law_law_478 : decode b_Law_law 478 = .ok (.iload 5, 2) := by decide +kernel
theorem d_Law_law_480 : decode b_Law_law 480 = .ok (.if_icmp .eq 5, 3) := by decide +kernel
theorem d_Law_law_485 : decode b_Law_law 485 = .ok (.iload 5, 2) := by decide +kernel
theorem d_Law_law_487 : decode b_Law_law 487 = .ok (.ifCond .ne 15, 3) := by decide +kernel
theorem d_Law_law_490 : decode b_Law_law 490 = .ok (.aload_n 3, 1) := by decide +kernel
theorem d_Law_law_491 : decode b_Law_law 491 = .ok (.iconst 0, 1) := by decide +kernel
theorem d_Law_law_492 : decode b_Law_law 492 = .ok (.laload, 1) := by decide +kernel
theorem d_Law_law_493 : decode b_Law_law 493 = .ok (.iload 6, 2) := by decide +kernel
theorem d_Law_law_495 : decode b_Law_law 495 = .ok (.i2l, 1) := by decide +kernel
theorem d_Law_law_496 : decode b_Law_law 496 = .ok (.lcmp, 1) := by decide +kernel
theorem d_Law_law_497 : decode b_Law_law 497 = .ok (.ifCond .eq 5, 3) := by decide +kernel
theorem d_Law_law_502 : decode b_Law_law 502 = .ok (.goto 313, 3) := by decide +kernel
theorem d_Law_law_505 : decode b_Law_law 505 = .ok (.aload_n 1, 1) := by decide +kernel
theorem d_Law_law_506 : decode b_Law_law 506 = .ok (.aload_n 0, 1) := by decide +kernel
theorem d_Law_law_507 : decode b_Law_law 507 = .ok (.iload 4, 2) := by decide +kernel
theorem d_Law_law_509 : decode b_Law_law 509 = .ok (.iconst 1, 1) := by decide +kernel
theorem d_Law_law_510 : decode b_Law_law 510 = .ok (.iadd, 1) := by decide +kernel
theorem d_Law_law_511 : decode b_Law_law 511 = .ok (.iaload, 1) := by decide +kernel
theorem d_Law_law_512 : decode b_Law_law 512 = .ok (.aload_n 0, 1) := by decide +kernel
theorem d_Law_law_513 : decode b_Law_law 513 = .ok (.iload 4, 2) := by decide +kernel
theorem d_Law_law_515 : decode b_Law_law 515 = .ok (.iconst 2, 1) := by decide +kernel
theorem d_Law_law_516 : decode b_Law_law 516 = .ok (.iadd, 1) := by decide +kernel
theorem d_Law_law_517 : decode b_Law_law 517 = .ok (.iaload, 1) := by decide +kernel
theorem d_Law_law_518 : decode b_Law_law 518 = .ok (.aload_n 3, 1) := by decide +kernel
theorem d_Law_law_519 : decode b_Law_law 519 = .ok (.invokestatic 90, 3) := by decide +kernel
theorem d_Law_law_522 : decode b_Law_law 522 = .ok (.istore 5, 2) := by decide +kernel
theorem d_Law_law_524 : decode b_Law_law 524 = .ok (.aload_n 2, 1) := by decide +kernel
theorem d_Law_law_525 : decode b_Law_law 525 = .ok (.aload_n 0, 1) := by decide +kernel
theorem d_Law_law_526 : decode b_Law_law 526 = .ok (.iload 4, 2) := by decide +kernel
theorem d_Law_law_528 : decode b_Law_law 528 = .ok (.iconst 1, 1) := by decide +kernel
theorem d_Law_law_529 : decode b_Law_law 529 = .ok (.iadd, 1) := by decide +kernel
theorem d_Law_law_530 : decode b_Law_law 530 = .ok (.iaload, 1) := by decide +kernel
theorem d_Law_law_531 : decode b_Law_law 531 = .ok (.aload_n 0, 1) := by decide +kernel
theorem d_Law_law_532 : decode b_Law_law 532 = .ok (.iload 4, 2) := by decide +kernel
theorem d_Law_law_534 : decode b_Law_law 534 = .ok (.iconst 2, 1) := by decide +kernel
theorem d_Law_law_535 : decode b_Law_law 535 = .ok (.iadd, 1) := by decide +kernel
theorem d_Law_law_536 : decode b_Law_law 536 = .ok (.iaload, 1) := by decide +kernel
theorem d_Law_law_537 : decode b_Law_law 537 = .ok (.invokevirtual 92, 3) := by decide +kernel
theorem d_Law_law_540 : decode b_Law_law 540 = .ok (.istore 6, 2) := by decide +kernel
theorem d_Law_law_542 : decode b_Law_law 542 = .ok (.aload_n 2, 1) := by decide +kernel
theorem d_Law_law_543 : decode b_Law_law 543 = .ok (.invokevirtual 65, 3) := by decide +kernel
theorem d_Law_law_546 : decode b_Law_law 546 = .ok (.iload 5, 2) := by decide +kernel
theorem d_Law_law_548 : decode b_Law_law 548 = .ok (.if_icmp .eq 5, 3) := by decide +kernel
theorem d_Law_law_553 : decode b_Law_law 553 = .ok (.iload 5, 2) := by decide +kernel
theorem d_Law_law_555 : decode b_Law_law 555 = .ok (.ifCond .ne 15, 3) := by decide +kernel
theorem d_Law_law_558 : decode b_Law_law 558 = .ok (.aload_n 3, 1) := by decide +kernel
theorem d_Law_law_559 : decode b_Law_law 559 = .ok (.iconst 0, 1) := by decide +kernel
theorem d_Law_law_560 : decode b_Law_law 560 = .ok (.laload, 1) := by decide +kernel
theorem d_Law_law_561 : decode b_Law_law 561 = .ok (.iload 6, 2) := by decide +kernel
theorem d_Law_law_563 : decode b_Law_law 563 = .ok (.i2l, 1) := by decide +kernel
theorem d_Law_law_564 : decode b_Law_law 564 = .ok (.lcmp, 1) := by decide +kernel
theorem d_Law_law_565 : decode b_Law_law 565 = .ok (.ifCond .eq 5, 3) := by decide +kernel
theorem d_Law_law_570 : decode b_Law_law 570 = .ok (.goto 245, 3) := by decide +kernel
theorem d_Law_law_573 : decode b_Law_law 573 = .ok (.aload_n 1, 1) := by decide +kernel
theorem d_Law_law_574 : decode b_Law_law 574 = .ok (.aload_n 0, 1) := by decide +kernel
theorem d_Law_law_575 : decode b_Law_law 575 = .ok (.iload 4, 2) := by decide +kernel
theorem d_Law_law_577 : decode b_Law_law 577 = .ok (.iconst 1, 1) := by decide +kernel
theorem d_Law_law_578 : decode b_Law_law 578 = .ok (.iadd, 1) := by decide +kernel
theorem d_Law_law_579 : decode b_Law_law 579 = .ok (.iaload, 1) := by decide +kernel
theorem d_Law_law_580 : decode b_Law_law 580 = .ok (.aload_n 0, 1) := by decide +kernel
theorem d_Law_law_581 : decode b_Law_law 581 = .ok (.iload 4, 2) := by decide +kernel
theorem d_Law_law_583 : decode b_Law_law 583 = .ok (.iconst 2, 1) := by decide +kernel
theorem d_Law_law_584 : decode b_Law_law 584 = .ok (.iadd, 1) := by decide +kernel
theorem d_Law_law_585 : decode b_Law_law 585 = .ok (.iaload, 1) := by decide +kernel
theorem d_Law_law_586 : decode b_Law_law 586 = .ok (.aload_n 3, 1) := by decide +kernel
theorem d_Law_law_587 : decode b_Law_law 587 = .ok (.invokestatic 93, 3) := by decide +kernel
theorem d_Law_law_590 : decode b_Law_law 590 = .ok (.istore 5, 2) := by decide +kernel
theorem d_Law_law_592 : decode b_Law_law 592 = .ok (.aload_n 2, 1) := by decide +kernel
theorem d_Law_law_593 : decode b_Law_law 593 = .ok (.aload_n 0, 1) := by decide +kernel
theorem d_Law_law_594 : decode b_Law_law 594 = .ok (.iload 4, 2) := by decide +kernel
theorem d_Law_law_596 : decode b_Law_law 596 = .ok (.iconst 1, 1) := by decide +kernel
theorem d_Law_law_597 : decode b_Law_law 597 = .ok (.iadd, 1) := by decide +kernel
theorem d_Law_law_598 : decode b_Law_law 598 = .ok (.iaload, 1) := by decide +kernel
theorem d_Law_law_599 : decode b_Law_law 599 = .ok (.aload_n 0, 1) := by decide +kernel
theorem d_Law_law_600 : decode b_Law_law 600 = .ok (.iload 4, 2) := by decide +kernel
theorem d_Law_law_602 : decode b_Law_law 602 = .ok (.iconst 2, 1) := by decide +kernel
theorem d_Law_law_603 : decode b_Law_law 603 = .ok (.iadd, 1) := by decide +kernel
theorem d_Law_law_604 : decode b_Law_law 604 = .ok (.iaload, 1) := by decide +kernel
theorem d_Law_law_605 : decode b_Law_law 605 = .ok (.invokevirtual 95, 3) := by decide +kernel
theorem d_Law_law_608 : decode b_Law_law 608 = .ok (.istore 6, 2) := by decide +kernel
theorem d_Law_law_610 : decode b_Law_law 610 = .ok (.aload_n 2, 1) := by decide +kernel
theorem d_Law_law_611 : decode b_Law_law 611 = .ok (.invokevirtual 65, 3) := by decide +kernel
theorem d_Law_law_614 : decode b_Law_law 614 = .ok (.iload 5, 2) := by decide +kernel
theorem d_Law_law_616 : decode b_Law_law 616 = .ok (.if_icmp .eq 5, 3) := by decide +kernel
theorem d_Law_law_621 : decode b_Law_law 621 = .ok (.iload 5, 2) := by decide +kernel
theorem d_Law_law_623 : decode b_Law_law 623 = .ok (.ifCond .ne 15, 3) := by decide +kernel
theorem d_Law_law_626 : decode b_Law_law 626 = .ok (.aload_n 3, 1) := by decide +kernel
theorem d_Law_law_627 : decode b_Law_law 627 = .ok (.iconst 0, 1) := by decide +kernel
theorem d_Law_law_628 : decode b_Law_law 628 = .ok (.laload, 1) := by decide +kernel
theorem d_Law_law_629 : decode b_Law_law 629 = .ok (.iload 6, 2) := by decide +kernel
theorem d_Law_law_631 : decode b_Law_law 631 = .ok (.i2l, 1) := by decide +kernel
theorem d_Law_law_632 : decode b_Law_law 632 = .ok (.lcmp, 1) := by decide +kernel
theorem d_Law_law_633 : decode b_Law_law 633 = .ok (.ifCond .eq 5, 3) := by decide +kernel
theorem d_Law_law_638 : decode b_Law_law 638 = .ok (.goto 177, 3) := by decide +kernel
theorem d_Law_law_641 : decode b_Law_law 641 = .ok (.aload_n 1, 1) := by decide +kernel
theorem d_Law_law_642 : decode b_Law_law 642 = .ok (.aload_n 0, 1) := by decide +kernel
theorem d_Law_law_643 : decode b_Law_law 643 = .ok (.iload 4, 2) := by decide +kernel
theorem d_Law_law_645 : decode b_Law_law 645 = .ok (.iconst 1, 1) := by decide +kernel
theorem d_Law_law_646 : decode b_Law_law 646 = .ok (.iadd, 1) := by decide +kernel
theorem d_Law_law_647 : decode b_Law_law 647 = .ok (.iaload, 1) := by decide +kernel
theorem d_Law_law_648 : decode b_Law_law 648 = .ok (.aload_n 3, 1) := by decide +kernel
theorem d_Law_law_649 : decode b_Law_law 649 = .ok (.invokestatic 96, 3) := by decide +kernel
theorem d_Law_law_652 : decode b_Law_law 652 = .ok (.istore 5, 2) := by decide +kernel
theorem d_Law_law_654 : decode b_Law_law 654 = .ok (.aload_n 2, 1) := by decide +kernel
theorem d_Law_law_655 : decode b_Law_law 655 = .ok (.aload_n 0, 1) := by decide +kernel
theorem d_Law_law_656 : decode b_Law_law 656 = .ok (.iload 4, 2) := by decide +kernel
theorem d_Law_law_658 : decode b_Law_law 658 = .ok (.iconst 1, 1) := by decide +kernel
theorem d_Law_law_659 : decode b_Law_law 659 = .ok (.iadd, 1) := by decide +kernel
theorem d_Law_law_660 : decode b_Law_law 660 = .ok (.iaload, 1) := by decide +kernel
theorem d_Law_law_661 : decode b_Law_law 661 = .ok (.invokevirtual 98, 3) := by decide +kernel
theorem d_Law_law_664 : decode b_Law_law 664 = .ok (.istore 6, 2) := by decide +kernel
theorem d_Law_law_666 : decode b_Law_law 666 = .ok (.aload_n 2, 1) := by decide +kernel
theorem d_Law_law_667 : decode b_Law_law 667 = .ok (.invokevirtual 65, 3) := by decide +kernel
theorem d_Law_law_670 : decode b_Law_law 670 = .ok (.iload 5, 2) := by decide +kernel
theorem d_Law_law_672 : decode b_Law_law 672 = .ok (.if_icmp .eq 5, 3) := by decide +kernel
theorem d_Law_law_677 : decode b_Law_law 677 = .ok (.iload 5, 2) := by decide +kernel
theorem d_Law_law_679 : decode b_Law_law 679 = .ok (.ifCond .ne 15, 3) := by decide +kernel
theorem d_Law_law_682 : decode b_Law_law 682 = .ok (.aload_n 3, 1) := by decide +kernel
theorem d_Law_law_683 : decode b_Law_law 683 = .ok (.iconst 0, 1) := by decide +kernel
theorem d_Law_law_684 : decode b_Law_law 684 = .ok (.laload, 1) := by decide +kernel
theorem d_Law_law_685 : decode b_Law_law 685 = .ok (.iload 6, 2) := by decide +kernel
theorem d_Law_law_687 : decode b_Law_law 687 = .ok (.i2l, 1) := by decide +kernel
theorem d_Law_law_688 : decode b_Law_law 688 = .ok (.lcmp, 1) := by decide +kernel
theorem d_Law_law_689 : decode b_Law_law 689 = .ok (.ifCond .eq 5, 3) := by decide +kernel
theorem d_Law_law_694 : decode b_Law_law 694 = .ok (.goto 121, 3) := by decide +kernel
theorem d_Law_law_697 : decode b_Law_law 697 = .ok (.aload_n 1, 1) := by decide +kernel
theorem d_Law_law_698 : decode b_Law_law 698 = .ok (.aload_n 0, 1) := by decide +kernel
theorem d_Law_law_699 : decode b_Law_law 699 = .ok (.iload 4, 2) := by decide +kernel
theorem d_Law_law_701 : decode b_Law_law 701 = .ok (.iconst 1, 1) := by decide +kernel
theorem d_Law_law_702 : decode b_Law_law 702 = .ok (.iadd, 1) := by decide +kernel
theorem d_Law_law_703 : decode b_Law_law 703 = .ok (.iaload, 1) := by decide +kernel
theorem d_Law_law_704 : decode b_Law_law 704 = .ok (.aload_n 3, 1) := by decide +kernel
theorem d_Law_law_705 : decode b_Law_law 705 = .ok (.invokestatic 99, 3) := by decide +kernel
theorem d_Law_law_708 : decode b_Law_law 708 = .ok (.istore 5, 2) := by decide +kernel
theorem d_Law_law_710 : decode b_Law_law 710 = .ok (.aload_n 2, 1) := by decide +kernel
theorem d_Law_law_711 : decode b_Law_law 711 = .ok (.aload_n 0, 1) := by decide +kernel
theorem d_Law_law_712 : decode b_Law_law 712 = .ok (.iload 4, 2) := by decide +kernel
theorem d_Law_law_714 : decode b_Law_law 714 = .ok (.iconst 1, 1) := by decide +kernel
theorem d_Law_law_715 : decode b_Law_law 715 = .ok (.iadd, 1) := by decide +kernel
theorem d_Law_law_716 : decode b_Law_law 716 = .ok (.iaload, 1) := by decide +kernel
theorem d_Law_law_717 : decode b_Law_law 717 = .ok (.invokevirtual 101, 3) := by decide +kernel
theorem d_Law_law_720 : decode b_Law_law 720 = .ok (.lstore 6, 2) := by decide +kernel
theorem d_Law_law_722 : decode b_Law_law 722 = .ok (.aload_n 2, 1) := by decide +kernel
theorem d_Law_law_723 : decode b_Law_law 723 = .ok (.invokevirtual 65, 3) := by decide +kernel
theorem d_Law_law_726 : decode b_Law_law 726 = .ok (.iload 5, 2) := by decide +kernel
theorem d_Law_law_728 : decode b_Law_law 728 = .ok (.if_icmp .eq 5, 3) := by decide +kernel
theorem d_Law_law_733 : decode b_Law_law 733 = .ok (.iload 5, 2) := by decide +kernel
theorem d_Law_law_735 : decode b_Law_law 735 = .ok (.ifCond .ne 14, 3) := by decide +kernel
theorem d_Law_law_749 : decode b_Law_law 749 = .ok (.goto 66, 3) := by decide +kernel
theorem d_Law_law_752 : decode b_Law_law 752 = .ok (.aload_n 1, 1) := by decide +kernel
theorem d_Law_law_753 : decode b_Law_law 753 = .ok (.aload_n 0, 1) := by decide +kernel
theorem d_Law_law_754 : decode b_Law_law 754 = .ok (.iload 4, 2) := by decide +kernel
theorem d_Law_law_756 : decode b_Law_law 756 = .ok (.iconst 1, 1) := by decide +kernel
theorem d_Law_law_757 : decode b_Law_law 757 = .ok (.iadd, 1) := by decide +kernel
theorem d_Law_law_758 : decode b_Law_law 758 = .ok (.iaload, 1) := by decide +kernel
theorem d_Law_law_759 : decode b_Law_law 759 = .ok (.aload_n 3, 1) := by decide +kernel
theorem d_Law_law_760 : decode b_Law_law 760 = .ok (.invokestatic 102, 3) := by decide +kernel
theorem d_Law_law_763 : decode b_Law_law 763 = .ok (.istore 5, 2) := by decide +kernel
theorem d_Law_law_765 : decode b_Law_law 765 = .ok (.aload_n 2, 1) := by decide +kernel
theorem d_Law_law_766 : decode b_Law_law 766 = .ok (.aload_n 0, 1) := by decide +kernel
theorem d_Law_law_767 : decode b_Law_law 767 = .ok (.iload 4, 2) := by decide +kernel
theorem d_Law_law_769 : decode b_Law_law 769 = .ok (.iconst 1, 1) := by decide +kernel
theorem d_Law_law_770 : decode b_Law_law 770 = .ok (.iadd, 1) := by decide +kernel
theorem d_Law_law_771 : decode b_Law_law 771 = .ok (.iaload, 1) := by decide +kernel
theorem d_Law_law_772 : decode b_Law_law 772 = .ok (.invokevirtual 104, 3) := by decide +kernel
theorem d_Law_law_775 : decode b_Law_law 775 = .ok (.istore 6, 2) := by decide +kernel
theorem d_Law_law_777 : decode b_Law_law 777 = .ok (.aload_n 2, 1) := by decide +kernel
theorem d_Law_law_778 : decode b_Law_law 778 = .ok (.invokevirtual 65, 3) := by decide +kernel
theorem d_Law_law_781 : decode b_Law_law 781 = .ok (.iload 5, 2) := by decide +kernel
theorem d_Law_law_783 : decode b_Law_law 783 = .ok (.if_icmp .eq 5, 3) := by decide +kernel
theorem d_Law_law_788 : decode b_Law_law 788 = .ok (.iload 5, 2) := by decide +kernel
theorem d_Law_law_790 : decode b_Law_law 790 = .ok (.ifCond .ne 22, 3) := by decide +kernel
theorem d_Law_law_793 : decode b_Law_law 793 = .ok (.aload_n 3, 1) := by decide +kernel
theorem d_Law_law_794 : decode b_Law_law 794 = .ok (.iconst 0, 1) := by decide +kernel
theorem d_Law_law_795 : decode b_Law_law 795 = .ok (.laload, 1) := by decide +kernel
theorem d_Law_law_796 : decode b_Law_law 796 = .ok (.iload 6, 2) := by decide +kernel
theorem d_Law_law_798 : decode b_Law_law 798 = .ok (.ifCond .eq 7, 3) := by decide +kernel
theorem d_Law_law_805 : decode b_Law_law 805 = .ok (.lconst 0, 1) := by decide +kernel
theorem d_Law_law_806 : decode b_Law_law 806 = .ok (.lcmp, 1) := by decide +kernel
theorem d_Law_law_807 : decode b_Law_law 807 = .ok (.ifCond .eq 5, 3) := by decide +kernel
theorem d_Law_law_812 : decode b_Law_law 812 = .ok (.goto 3, 3) := by decide +kernel
theorem d_Law_law_815 : decode b_Law_law 815 = .ok (.iinc 4 4, 3) := by decide +kernel
theorem d_Law_law_818 : decode b_Law_law 818 = .ok (.goto (-795), 3) := by decide +kernel
theorem d_Law_law_821 : decode b_Law_law 821 = .ok (.iconst 1, 1) := by decide +kernel
theorem d_Law_law_822 : decode b_Law_law 822 = .ok (.ireturn, 1) := by decide +kernel
set_option maxRecDepth 20000 in
theorem mw_490 : Cond.constantLong "RootAlgebraLaw" 57 4294967295 ∈ wA := wA_in (zt_9 _ (List.mem_of_getElem? (i := 129) rfl)) rfl
set_option maxRecDepth 20000 in
theorem mw_491 : Cond.codeWith y_Law_feed b_Law_feed 6 (some .int) [(0, 11, 14, 13), (0, 11, 18, 15)] ∈ wA := wA_in (zt_5 _ (List.mem_of_getElem? (i := 183) rfl)) rfl
set_option maxRecDepth 20000 in
theorem mw_492 : Cond.initialized "RootAlgebraLaw" ∈ wA := wA_in (zt_1 _ (List.mem_of_getElem? (i := 0) rfl)) rfl
set_option maxRecDepth 20000 in
theorem mw_493 : Cond.methodLink "RootAlgebraLaw" 59 y_Law_feed ∈ wA := wA_in (zt_5 _ (List.mem_of_getElem? (i := 181) rfl)) rfl
set_option maxRecDepth 20000 in
theorem mw_494 : Cond.static y_Law_feed ∈ wA := wA_in (zt_5 _ (List.mem_of_getElem? (i := 182) rfl)) rfl
set_option maxRecDepth 20000 in
theorem mw_495 : Cond.code y_Md_feed b_Md_feed 5 (some .int) ∈ wA := wA_in (zt_9 _ (List.mem_of_getElem? (i := 59) rfl)) rfl
set_option maxRecDepth 20000 in
theorem mw_496 : Cond.methodLink "RootAlgebraLaw" 64 y_Md_feed ∈ wA := wA_in (zt_9 _ (List.mem_of_getElem? (i := 56) rfl)) rfl
set_option maxRecDepth 20000 in
theorem mw_497 : Cond.instanceMethod y_Md_feed ∈ wA := wA_in (zt_9 _ (List.mem_of_getElem? (i := 57) rfl)) rfl
set_option maxRecDepth 20000 in
theorem mw_498 : Cond.selects "RootAlgebraModel" y_Md_feed y_Md_feed ∈ wA := wA_in (zt_9 _ (List.mem_of_getElem? (i := 58) rfl)) rfl
set_option maxRecDepth 20000 in
theorem mw_499 : Cond.code y_Md_thrown b_Md_thrown 1 (some .int) ∈ wA := wA_in (zt_7 _ (List.mem_of_getElem? (i := 118) rfl)) rfl
set_option maxRecDepth 20000 in
theorem mw_500 : Cond.methodLink "RootAlgebraLaw" 65 y_Md_thrown ∈ wA := wA_in (zt_7 _ (List.mem_of_getElem? (i := 115) rfl)) rfl
set_option maxRecDepth 20000 in
theorem mw_501 : Cond.instanceMethod y_Md_thrown ∈ wA := wA_in (zt_7 _ (List.mem_of_getElem? (i := 116) rfl)) rfl
set_option maxRecDepth 20000 in
theorem mw_502 : Cond.selects "RootAlgebraModel" y_Md_thrown y_Md_thrown ∈ wA := wA_in (zt_7 _ (List.mem_of_getElem? (i := 117) rfl)) rfl
set_option maxRecDepth 20000 in
theorem mw_503 : Cond.codeWith y_Law_look b_Law_look 4 (some .int) [(0, 9, 12, 13)] ∈ wA := wA_in (zt_6 _ (List.mem_of_getElem? (i := 30) rfl)) rfl
set_option maxRecDepth 20000 in
theorem mw_504 : Cond.methodLink "RootAlgebraLaw" 73 y_Law_look ∈ wA := wA_in (zt_6 _ (List.mem_of_getElem? (i := 28) rfl)) rfl
set_option maxRecDepth 20000 in
theorem mw_505 : Cond.static y_Law_look ∈ wA := wA_in (zt_6 _ (List.mem_of_getElem? (i := 29) rfl)) rfl
set_option maxRecDepth 20000 in
theorem mw_506 : Cond.code y_Md_look b_Md_look 4 (some .int) ∈ wA := wA_in (zt_9 _ (List.mem_of_getElem? (i := 69) rfl)) rfl
set_option maxRecDepth 20000 in
theorem mw_507 : Cond.methodLink "RootAlgebraLaw" 76 y_Md_look ∈ wA := wA_in (zt_9 _ (List.mem_of_getElem? (i := 66) rfl)) rfl
set_option maxRecDepth 20000 in
theorem mw_508 : Cond.instanceMethod y_Md_look ∈ wA := wA_in (zt_9 _ (List.mem_of_getElem? (i := 67) rfl)) rfl
set_option maxRecDepth 20000 in
theorem mw_509 : Cond.selects "RootAlgebraModel" y_Md_look y_Md_look ∈ wA := wA_in (zt_9 _ (List.mem_of_getElem? (i := 68) rfl)) rfl
set_option maxRecDepth 20000 in
theorem mw_510 : Cond.codeWith y_Law_degree b_Law_degree 4 (some .int) [(0, 9, 12, 13)] ∈ wA := wA_in (zt_6 _ (List.mem_of_getElem? (i := 41) rfl)) rfl
set_option maxRecDepth 20000 in
theorem mw_511 : Cond.methodLink "RootAlgebraLaw" 77 y_Law_degree ∈ wA := wA_in (zt_6 _ (List.mem_of_getElem? (i := 39) rfl)) rfl
set_option maxRecDepth 20000 in
theorem mw_512 : Cond.static y_Law_degree ∈ wA := wA_in (zt_6 _ (List.mem_of_getElem? (i := 40) rfl)) rfl
set_option maxRecDepth 20000 in
theorem mw_513 : Cond.code y_Md_degree b_Md_degree 2 (some .int) ∈ wA := wA_in (zt_9 _ (List.mem_of_getElem? (i := 74) rfl)) rfl
set_option maxRecDepth 20000 in
theorem mw_514 : Cond.methodLink "RootAlgebraLaw" 79 y_Md_degree ∈ wA := wA_in (zt_9 _ (List.mem_of_getElem? (i := 71) rfl)) rfl
set_option maxRecDepth 20000 in
theorem mw_515 : Cond.instanceMethod y_Md_degree ∈ wA := wA_in (zt_9 _ (List.mem_of_getElem? (i := 72) rfl)) rfl
set_option maxRecDepth 20000 in
theorem mw_516 : Cond.selects "RootAlgebraModel" y_Md_degree y_Md_degree ∈ wA := wA_in (zt_9 _ (List.mem_of_getElem? (i := 73) rfl)) rfl
set_option maxRecDepth 20000 in
theorem mw_517 : Cond.codeWith y_Law_coefficient b_Law_coefficient 5 (some .int) [(0, 10, 13, 13), (0, 10, 17, 28)] ∈ wA := wA_in (zt_6 _ (List.mem_of_getElem? (i := 52) rfl)) rfl
set_option maxRecDepth 20000 in
theorem mw_518 : Cond.methodLink "RootAlgebraLaw" 80 y_Law_coefficient ∈ wA := wA_in (zt_6 _ (List.mem_of_getElem? (i := 50) rfl)) rfl
set_option maxRecDepth 20000 in
theorem mw_519 : Cond.static y_Law_coefficient ∈ wA := wA_in (zt_6 _ (List.mem_of_getElem? (i := 51) rfl)) rfl
set_option maxRecDepth 20000 in
theorem mw_520 : Cond.code y_Md_coefficient b_Md_coefficient 3 (some .int) ∈ wA := wA_in (zt_9 _ (List.mem_of_getElem? (i := 82) rfl)) rfl
set_option maxRecDepth 20000 in
theorem mw_521 : Cond.methodLink "RootAlgebraLaw" 83 y_Md_coefficient ∈ wA := wA_in (zt_9 _ (List.mem_of_getElem? (i := 79) rfl)) rfl
set_option maxRecDepth 20000 in
theorem mw_522 : Cond.instanceMethod y_Md_coefficient ∈ wA := wA_in (zt_9 _ (List.mem_of_getElem? (i := 80) rfl)) rfl
set_option maxRecDepth 20000 in
theorem mw_523 : Cond.selects "RootAlgebraModel" y_Md_coefficient y_Md_coefficient ∈ wA := wA_in (zt_9 _ (List.mem_of_getElem? (i := 81) rfl)) rfl
set_option maxRecDepth 20000 in
theorem mw_524 : Cond.codeWith y_Law_index b_Law_index 4 (some .int) [(0, 9, 12, 13), (0, 9, 15, 28)] ∈ wA := wA_in (zt_6 _ (List.mem_of_getElem? (i := 75) rfl)) rfl
set_option maxRecDepth 20000 in
theorem mw_525 : Cond.methodLink "RootAlgebraLaw" 84 y_Law_index ∈ wA := wA_in (zt_6 _ (List.mem_of_getElem? (i := 73) rfl)) rfl
set_option maxRecDepth 20000 in
theorem mw_526 : Cond.static y_Law_index ∈ wA := wA_in (zt_6 _ (List.mem_of_getElem? (i := 74) rfl)) rfl
set_option maxRecDepth 20000 in
theorem mw_527 : Cond.code y_Md_index b_Md_index 2 (some .int) ∈ wA := wA_in (zt_9 _ (List.mem_of_getElem? (i := 90) rfl)) rfl
set_option maxRecDepth 20000 in
theorem mw_528 : Cond.methodLink "RootAlgebraLaw" 86 y_Md_index ∈ wA := wA_in (zt_9 _ (List.mem_of_getElem? (i := 87) rfl)) rfl
set_option maxRecDepth 20000 in
theorem mw_529 : Cond.instanceMethod y_Md_index ∈ wA := wA_in (zt_9 _ (List.mem_of_getElem? (i := 88) rfl)) rfl
set_option maxRecDepth 20000 in
theorem mw_530 : Cond.selects "RootAlgebraModel" y_Md_index y_Md_index ∈ wA := wA_in (zt_9 _ (List.mem_of_getElem? (i := 89) rfl)) rfl
set_option maxRecDepth 20000 in
theorem mw_531 : Cond.codeWith y_Law_roots b_Law_roots 4 (some .int) [(0, 9, 12, 13), (0, 9, 15, 28)] ∈ wA := wA_in (zt_6 _ (List.mem_of_getElem? (i := 82) rfl)) rfl
set_option maxRecDepth 20000 in
theorem mw_532 : Cond.methodLink "RootAlgebraLaw" 87 y_Law_roots ∈ wA := wA_in (zt_6 _ (List.mem_of_getElem? (i := 80) rfl)) rfl
set_option maxRecDepth 20000 in
theorem mw_533 : Cond.static y_Law_roots ∈ wA := wA_in (zt_6 _ (List.mem_of_getElem? (i := 81) rfl)) rfl
set_option maxRecDepth 20000 in
theorem mw_534 : Cond.code y_Md_roots b_Md_roots 2 (some .int) ∈ wA := wA_in (zt_9 _ (List.mem_of_getElem? (i := 94) rfl)) rfl
set_option maxRecDepth 20000 in
theorem mw_535 : Cond.methodLink "RootAlgebraLaw" 89 y_Md_roots ∈ wA := wA_in (zt_9 _ (List.mem_of_getElem? (i := 91) rfl)) rfl
set_option maxRecDepth 20000 in
theorem mw_536 : Cond.instanceMethod y_Md_roots ∈ wA := wA_in (zt_9 _ (List.mem_of_getElem? (i := 92) rfl)) rfl
set_option maxRecDepth 20000 in
theorem mw_537 : Cond.selects "RootAlgebraModel" y_Md_roots y_Md_roots ∈ wA := wA_in (zt_9 _ (List.mem_of_getElem? (i := 93) rfl)) rfl
set_option maxRecDepth 20000 in
theorem mw_538 : Cond.codeWith y_Law_compare b_Law_compare 5 (some .int) [(0, 10, 13, 13), (0, 10, 17, 28)] ∈ wA := wA_in (zt_6 _ (List.mem_of_getElem? (i := 89) rfl)) rfl
set_option maxRecDepth 20000 in
theorem mw_539 : Cond.methodLink "RootAlgebraLaw" 90 y_Law_compare ∈ wA := wA_in (zt_6 _ (List.mem_of_getElem? (i := 87) rfl)) rfl
set_option maxRecDepth 20000 in
theorem mw_540 : Cond.static y_Law_compare ∈ wA := wA_in (zt_6 _ (List.mem_of_getElem? (i := 88) rfl)) rfl
set_option maxRecDepth 20000 in
theorem mw_541 : Cond.code y_Md_compare b_Md_compare 3 (some .int) ∈ wA := wA_in (zt_9 _ (List.mem_of_getElem? (i := 98) rfl)) rfl
set_option maxRecDepth 20000 in
theorem mw_542 : Cond.methodLink "RootAlgebraLaw" 92 y_Md_compare ∈ wA := wA_in (zt_9 _ (List.mem_of_getElem? (i := 95) rfl)) rfl
set_option maxRecDepth 20000 in
theorem mw_543 : Cond.instanceMethod y_Md_compare ∈ wA := wA_in (zt_9 _ (List.mem_of_getElem? (i := 96) rfl)) rfl
set_option maxRecDepth 20000 in
theorem mw_544 : Cond.selects "RootAlgebraModel" y_Md_compare y_Md_compare ∈ wA := wA_in (zt_9 _ (List.mem_of_getElem? (i := 97) rfl)) rfl
set_option maxRecDepth 20000 in
theorem mw_545 : Cond.codeWith y_Law_floor b_Law_floor 5 (some .int) [(0, 10, 13, 13), (0, 10, 17, 28)] ∈ wA := wA_in (zt_6 _ (List.mem_of_getElem? (i := 97) rfl)) rfl
set_option maxRecDepth 20000 in
theorem mw_546 : Cond.methodLink "RootAlgebraLaw" 93 y_Law_floor ∈ wA := wA_in (zt_6 _ (List.mem_of_getElem? (i := 95) rfl)) rfl
set_option maxRecDepth 20000 in
theorem mw_547 : Cond.static y_Law_floor ∈ wA := wA_in (zt_6 _ (List.mem_of_getElem? (i := 96) rfl)) rfl
set_option maxRecDepth 20000 in
theorem mw_548 : Cond.code y_Md_floor b_Md_floor 4 (some .int) ∈ wA := wA_in (zt_9 _ (List.mem_of_getElem? (i := 102) rfl)) rfl
set_option maxRecDepth 20000 in
theorem mw_549 : Cond.methodLink "RootAlgebraLaw" 95 y_Md_floor ∈ wA := wA_in (zt_9 _ (List.mem_of_getElem? (i := 99) rfl)) rfl
set_option maxRecDepth 20000 in
theorem mw_550 : Cond.instanceMethod y_Md_floor ∈ wA := wA_in (zt_9 _ (List.mem_of_getElem? (i := 100) rfl)) rfl
set_option maxRecDepth 20000 in
theorem mw_551 : Cond.selects "RootAlgebraModel" y_Md_floor y_Md_floor ∈ wA := wA_in (zt_9 _ (List.mem_of_getElem? (i := 101) rfl)) rfl
set_option maxRecDepth 20000 in
theorem mw_552 : Cond.codeWith y_Law_write b_Law_write 4 (some .int) [(0, 9, 12, 13), (0, 9, 15, 28)] ∈ wA := wA_in (zt_6 _ (List.mem_of_getElem? (i := 124) rfl)) rfl
set_option maxRecDepth 20000 in
theorem mw_553 : Cond.methodLink "RootAlgebraLaw" 96 y_Law_write ∈ wA := wA_in (zt_6 _ (List.mem_of_getElem? (i := 122) rfl)) rfl
set_option maxRecDepth 20000 in
theorem mw_554 : Cond.static y_Law_write ∈ wA := wA_in (zt_6 _ (List.mem_of_getElem? (i := 123) rfl)) rfl
set_option maxRecDepth 20000 in
theorem mw_555 : Cond.code y_Md_write b_Md_write 3 (some .int) ∈ wA := wA_in (zt_9 _ (List.mem_of_getElem? (i := 119) rfl)) rfl
set_option maxRecDepth 20000 in
theorem mw_556 : Cond.methodLink "RootAlgebraLaw" 98 y_Md_write ∈ wA := wA_in (zt_9 _ (List.mem_of_getElem? (i := 116) rfl)) rfl
set_option maxRecDepth 20000 in
theorem mw_557 : Cond.instanceMethod y_Md_write ∈ wA := wA_in (zt_9 _ (List.mem_of_getElem? (i := 117) rfl)) rfl
set_option maxRecDepth 20000 in
theorem mw_558 : Cond.selects "RootAlgebraModel" y_Md_write y_Md_write ∈ wA := wA_in (zt_9 _ (List.mem_of_getElem? (i := 118) rfl)) rfl
set_option maxRecDepth 20000 in
theorem mw_559 : Cond.codeWith y_Law_out b_Law_out 4 (some .int) [(0, 8, 11, 28)] ∈ wA := wA_in (zt_6 _ (List.mem_of_getElem? (i := 132) rfl)) rfl
set_option maxRecDepth 20000 in
theorem mw_560 : Cond.methodLink "RootAlgebraLaw" 99 y_Law_out ∈ wA := wA_in (zt_6 _ (List.mem_of_getElem? (i := 130) rfl)) rfl
set_option maxRecDepth 20000 in
theorem mw_561 : Cond.static y_Law_out ∈ wA := wA_in (zt_6 _ (List.mem_of_getElem? (i := 131) rfl)) rfl
set_option maxRecDepth 20000 in
theorem mw_562 : Cond.code y_Md_out b_Md_out 5 (some .long) ∈ wA := wA_in (zt_9 _ (List.mem_of_getElem? (i := 123) rfl)) rfl
set_option maxRecDepth 20000 in
theorem mw_563 : Cond.methodLink "RootAlgebraLaw" 101 y_Md_out ∈ wA := wA_in (zt_9 _ (List.mem_of_getElem? (i := 120) rfl)) rfl
set_option maxRecDepth 20000 in
theorem mw_564 : Cond.instanceMethod y_Md_out ∈ wA := wA_in (zt_9 _ (List.mem_of_getElem? (i := 121) rfl)) rfl
set_option maxRecDepth 20000 in
theorem mw_565 : Cond.selects "RootAlgebraModel" y_Md_out y_Md_out ∈ wA := wA_in (zt_9 _ (List.mem_of_getElem? (i := 122) rfl)) rfl
set_option maxRecDepth 20000 in
theorem mw_566 : Cond.codeWith y_Law_drop b_Law_drop 4 (some .int) [(0, 16, 19, 13)] ∈ wA := wA_in (zt_6 _ (List.mem_of_getElem? (i := 139) rfl)) rfl
set_option maxRecDepth 20000 in
theorem mw_567 : Cond.methodLink "RootAlgebraLaw" 102 y_Law_drop ∈ wA := wA_in (zt_6 _ (List.mem_of_getElem? (i := 137) rfl)) rfl
set_option maxRecDepth 20000 in
theorem mw_568 : Cond.static y_Law_drop ∈ wA := wA_in (zt_6 _ (List.mem_of_getElem? (i := 138) rfl)) rfl
set_option maxRecDepth 20000 in
theorem mw_569 : Cond.code y_Md_drop b_Md_drop 3 (some .boolean) ∈ wA := wA_in (zt_9 _ (List.mem_of_getElem? (i := 127) rfl)) rfl
set_option maxRecDepth 20000 in
theorem mw_570 : Cond.methodLink "RootAlgebraLaw" 104 y_Md_drop ∈ wA := wA_in (zt_9 _ (List.mem_of_getElem? (i := 124) rfl)) rfl
set_option maxRecDepth 20000 in
theorem mw_571 : Cond.instanceMethod y_Md_drop ∈ wA := wA_in (zt_9 _ (List.mem_of_getElem? (i := 125) rfl)) rfl
set_option maxRecDepth 20000 in
theorem mw_572 : Cond.selects "RootAlgebraModel" y_Md_drop y_Md_drop ∈ wA := wA_in (zt_9 _ (List.mem_of_getElem? (i := 126) rfl)) rfl
set_option maxRecDepth 20000 in
theorem mw_573 : Cond.code y_RA_line b_RA_line 4 (some .int) ∈ wA := wA_in (zt_3 _ (List.mem_of_getElem? (i := 37) rfl)) rfl
set_option maxRecDepth 20000 in
theorem mw_574 : Cond.methodLink "RootAlgebraLaw" 69 y_RA_line ∈ wA := wA_in (zt_3 _ (List.mem_of_getElem? (i := 34) rfl)) rfl
set_option maxRecDepth 20000 in
theorem mw_575 : Cond.instanceMethod y_RA_line ∈ wA := wA_in (zt_3 _ (List.mem_of_getElem? (i := 35) rfl)) rfl
set_option maxRecDepth 20000 in
theorem mw_576 : Cond.selects "RootAlgebra" y_RA_line y_RA_line ∈ wA := wA_in (zt_3 _ (List.mem_of_getElem? (i := 36) rfl)) rfl
set_option maxRecDepth 20000 in
theorem mw_577 : Cond.code y_Md_line b_Md_line 4 (some .int) ∈ wA := wA_in (zt_7 _ (List.mem_of_getElem? (i := 122) rfl)) rfl
set_option maxRecDepth 20000 in
theorem mw_578 : Cond.methodLink "RootAlgebraLaw" 72 y_Md_line ∈ wA := wA_in (zt_7 _ (List.mem_of_getElem? (i := 119) rfl)) rfl
set_option maxRecDepth 20000 in
theorem mw_579 : Cond.instanceMethod y_Md_line ∈ wA := wA_in (zt_7 _ (List.mem_of_getElem? (i := 120) rfl)) rfl
set_option maxRecDepth 20000 in
theorem mw_580 : Cond.selects "RootAlgebraModel" y_Md_line y_Md_line ∈ wA := wA_in (zt_7 _ (List.mem_of_getElem? (i := 121) rfl)) rfl
set_option maxRecDepth 20000 in
theorem mw_581 : Cond.classLink "RootAlgebraLaw" 8 "RootAlgebra" ∈ wA := wA_in (zt_1 _ (List.mem_of_getElem? (i := 23) rfl)) rfl
set_option maxRecDepth 20000 in
theorem mw_582 : Cond.instantiable "RootAlgebra" 11 ∈ wA := wA_in (zt_1 _ (List.mem_of_getElem? (i := 24) rfl)) rfl
set_option maxRecDepth 20000 in
theorem mw_583 : Cond.code y_RA_init b_RA_init 2 none ∈ wA := wA_in (zt_1 _ (List.mem_of_getElem? (i := 27) rfl)) rfl
set_option maxRecDepth 20000 in
theorem mw_584 : Cond.methodLink "RootAlgebraLaw" 53 y_RA_init ∈ wA := wA_in (zt_1 _ (List.mem_of_getElem? (i := 25) rfl)) rfl
set_option maxRecDepth 20000 in
theorem mw_585 : Cond.instanceMethod y_RA_init ∈ wA := wA_in (zt_1 _ (List.mem_of_getElem? (i := 26) rfl)) rfl
set_option maxRecDepth 20000 in
theorem mw_586 : Cond.classLink "RootAlgebraLaw" 54 "RootAlgebraModel" ∈ wA := wA_in (zt_6 _ (List.mem_of_getElem? (i := 144) rfl)) rfl
set_option maxRecDepth 20000 in
theorem mw_587 : Cond.instantiable "RootAlgebraModel" 65 ∈ wA := wA_in (zt_6 _ (List.mem_of_getElem? (i := 145) rfl)) rfl
set_option maxRecDepth 20000 in
theorem mw_588 : Cond.code y_Md_init b_Md_init 1 none ∈ wA := wA_in (zt_6 _ (List.mem_of_getElem? (i := 148) rfl)) rfl
set_option maxRecDepth 20000 in
theorem mw_589 : Cond.methodLink "RootAlgebraLaw" 56 y_Md_init ∈ wA := wA_in (zt_6 _ (List.mem_of_getElem? (i := 146) rfl)) rfl
set_option maxRecDepth 20000 in
theorem mw_590 : Cond.instanceMethod y_Md_init ∈ wA := wA_in (zt_6 _ (List.mem_of_getElem? (i := 147) rfl)) rfl
theorem gc_74 : kCIW "RootAlgebraLaw" 59 y_Law_feed b_Law_feed 6 (some .int) [(0, 11, 14, 13), (0, 11, 18, 15)] 4 := ⟨mw_491, mw_492, mw_493, by decide +kernel⟩
theorem gc_75 : kCI "RootAlgebraLaw" 64 y_Md_feed b_Md_feed 5 (some .int) 2 := ⟨mw_495, mw_348, mw_496, by decide +kernel⟩
theorem gc_76 : kCI "RootAlgebraLaw" 65 y_Md_thrown b_Md_thrown 1 (some .int) 0 := ⟨mw_499, mw_348, mw_500, by decide +kernel⟩
theorem gc_77 : kCIW "RootAlgebraLaw" 73 y_Law_look b_Law_look 4 (some .int) [(0, 9, 12, 13)] 3 := ⟨mw_503, mw_492, mw_504, by decide +kernel⟩
theorem gc_78 : kCI "RootAlgebraLaw" 76 y_Md_look b_Md_look 4 (some .int) 1 := ⟨mw_506, mw_348, mw_507, by decide +kernel⟩
theorem gc_79 : kCIW "RootAlgebraLaw" 77 y_Law_degree b_Law_degree 4 (some .int) [(0, 9, 12, 13)] 3 := ⟨mw_510, mw_492, mw_511, by decide +kernel⟩
theorem gc_80 : kCI "RootAlgebraLaw" 79 y_Md_degree b_Md_degree 2 (some .int) 1 := ⟨mw_513, mw_348, mw_514, by decide +kernel⟩
theorem gc_81 : kCIW "RootAlgebraLaw" 80 y_Law_coefficient b_Law_coefficient 5 (some .int) [(0, 10, 13, 13), (0, 10, 17, 28)] 4 := ⟨mw_517, mw_492, mw_518, by decide +kernel⟩
theorem gc_82 : kCI "RootAlgebraLaw" 83 y_Md_coefficient b_Md_coefficient 3 (some .int) 2 := ⟨mw_520, mw_348, mw_521, by decide +kernel⟩
theorem gc_83 : kCIW "RootAlgebraLaw" 84 y_Law_index b_Law_index 4 (some .int) [(0, 9, 12, 13), (0, 9, 15, 28)] 3 := ⟨mw_524, mw_492, mw_525, by decide +kernel⟩
theorem gc_84 : kCI "RootAlgebraLaw" 86 y_Md_index b_Md_index 2 (some .int) 1 := ⟨mw_527, mw_348, mw_528, by decide +kernel⟩
theorem gc_85 : kCIW "RootAlgebraLaw" 87 y_Law_roots b_Law_roots 4 (some .int) [(0, 9, 12, 13), (0, 9, 15, 28)] 3 := ⟨mw_531, mw_492, mw_532, by decide +kernel⟩
theorem gc_86 : kCI "RootAlgebraLaw" 89 y_Md_roots b_Md_roots 2 (some .int) 1 := ⟨mw_534, mw_348, mw_535, by decide +kernel⟩
theorem gc_87 : kCIW "RootAlgebraLaw" 90 y_Law_compare b_Law_compare 5 (some .int) [(0, 10, 13, 13), (0, 10, 17, 28)] 4 := ⟨mw_538, mw_492, mw_539, by decide +kernel⟩
theorem gc_88 : kCI "RootAlgebraLaw" 92 y_Md_compare b_Md_compare 3 (some .int) 2 := ⟨mw_541, mw_348, mw_542, by decide +kernel⟩
theorem gc_89 : kCIW "RootAlgebraLaw" 93 y_Law_floor b_Law_floor 5 (some .int) [(0, 10, 13, 13), (0, 10, 17, 28)] 4 := ⟨mw_545, mw_492, mw_546, by decide +kernel⟩
theorem gc_90 : kCI "RootAlgebraLaw" 95 y_Md_floor b_Md_floor 4 (some .int) 2 := ⟨mw_548, mw_348, mw_549, by decide +kernel⟩
theorem gc_91 : kCIW "RootAlgebraLaw" 96 y_Law_write b_Law_write 4 (some .int) [(0, 9, 12, 13), (0, 9, 15, 28)] 3 := ⟨mw_552, mw_492, mw_553, by decide +kernel⟩
theorem gc_92 : kCI "RootAlgebraLaw" 98 y_Md_write b_Md_write 3 (some .int) 1 := ⟨mw_555, mw_348, mw_556, by decide +kernel⟩
theorem gc_93 : kCIW "RootAlgebraLaw" 99 y_Law_out b_Law_out 4 (some .int) [(0, 8, 11, 28)] 3 := ⟨mw_559, mw_492, mw_560, by decide +kernel⟩
theorem gc_94 : kCI "RootAlgebraLaw" 101 y_Md_out b_Md_out 5 (some .long) 1 := ⟨mw_562, mw_348, mw_563, by decide +kernel⟩
theorem gc_95 : kCIW "RootAlgebraLaw" 102 y_Law_drop b_Law_drop 4 (some .int) [(0, 16, 19, 13)] 3 := ⟨mw_566, mw_492, mw_567, by decide +kernel⟩
theorem gc_96 : kCI "RootAlgebraLaw" 104 y_Md_drop b_Md_drop 3 (some .boolean) 1 := ⟨mw_569, mw_348, mw_570, by decide +kernel⟩
theorem gc_97 : kCI "RootAlgebraLaw" 69 y_RA_line b_RA_line 4 (some .int) 0 := ⟨mw_573, mw_190, mw_574, by decide +kernel⟩
theorem gc_98 : kCI "RootAlgebraLaw" 72 y_Md_line b_Md_line 4 (some .int) 0 := ⟨mw_577, mw_348, mw_578, by decide +kernel⟩
theorem gc_99 : kCI "RootAlgebraLaw" 53 y_RA_init b_RA_init 2 none 0 := ⟨mw_583, mw_190, mw_584, by decide +kernel⟩
theorem gc_100 : kCI "RootAlgebraLaw" 56 y_Md_init b_Md_init 1 none 0 := ⟨mw_588, mw_348, mw_589, by decide +kernel⟩
theorem gi_Md_init : kI y_Md_init := ⟨rfl, mw_590⟩
theorem gi_RA_init : kI y_RA_init := ⟨rfl, mw_585⟩
theorem gv_Md_coefficient : kV "RootAlgebraModel" y_Md_coefficient := ⟨mw_522, mw_523⟩
theorem gv_Md_compare : kV "RootAlgebraModel" y_Md_compare := ⟨mw_543, mw_544⟩
theorem gv_Md_degree : kV "RootAlgebraModel" y_Md_degree := ⟨mw_515, mw_516⟩
theorem gv_Md_drop : kV "RootAlgebraModel" y_Md_drop := ⟨mw_571, mw_572⟩
theorem gv_Md_feed : kV "RootAlgebraModel" y_Md_feed := ⟨mw_497, mw_498⟩
theorem gv_Md_floor : kV "RootAlgebraModel" y_Md_floor := ⟨mw_550, mw_551⟩
theorem gv_Md_index : kV "RootAlgebraModel" y_Md_index := ⟨mw_529, mw_530⟩
theorem gv_Md_line : kV "RootAlgebraModel" y_Md_line := ⟨mw_579, mw_580⟩
theorem gv_Md_look : kV "RootAlgebraModel" y_Md_look := ⟨mw_508, mw_509⟩
theorem gv_Md_out : kV "RootAlgebraModel" y_Md_out := ⟨mw_564, mw_565⟩
theorem gv_Md_roots : kV "RootAlgebraModel" y_Md_roots := ⟨mw_536, mw_537⟩
theorem gv_Md_thrown : kV "RootAlgebraModel" y_Md_thrown := ⟨mw_501, mw_502⟩
theorem gv_Md_write : kV "RootAlgebraModel" y_Md_write := ⟨mw_557, mw_558⟩
theorem gv_RA_line : kV "RootAlgebra" y_RA_line := ⟨mw_575, mw_576⟩
theorem gs_Law_coefficient : kS y_Law_coefficient := mw_519
theorem gs_Law_compare : kS y_Law_compare := mw_540
theorem gs_Law_degree : kS y_Law_degree := mw_512
theorem gs_Law_drop : kS y_Law_drop := mw_568
theorem gs_Law_feed : kS y_Law_feed := mw_494
theorem gs_Law_floor : kS y_Law_floor := mw_547
theorem gs_Law_index : kS y_Law_index := mw_526
theorem gs_Law_look : kS y_Law_look := mw_505
theorem gs_Law_out : kS y_Law_out := mw_561
theorem gs_Law_roots : kS y_Law_roots := mw_533
theorem gs_Law_write : kS y_Law_write := mw_554
