/-! what each instruction is; laid by program -/
theorem d_Md_divided_223 : decode b_Md_divided 223 = .ok (.aload_n 0, 1) := by decide +kernel
theorem d_Md_divided_224 : decode b_Md_divided 224 = .ok (.getfield 50, 3) := by decide +kernel
theorem d_Md_divided_227 : decode b_Md_divided 227 = .ok (.iload 7, 2) := by decide +kernel
theorem d_Md_divided_229 : decode b_Md_divided 229 = .ok (.iconst 1, 1) := by decide +kernel
theorem d_Md_divided_230 : decode b_Md_divided 230 = .ok (.isub, 1) := by decide +kernel
theorem d_Md_divided_231 : decode b_Md_divided 231 = .ok (.laload, 1) := by decide +kernel
theorem d_Md_divided_232 : decode b_Md_divided 232 = .ok (.ldiv, 1) := by decide +kernel
theorem d_Md_divided_233 : decode b_Md_divided 233 = .ok (.lstore 14, 2) := by decide +kernel
theorem d_Md_divided_235 : decode b_Md_divided 235 = .ok (.lload 14, 2) := by decide +kernel
theorem d_Md_divided_237 : decode b_Md_divided 237 = .ok (.ldc2_w 157, 3) := by decide +kernel
theorem d_Md_divided_240 : decode b_Md_divided 240 = .ok (.lcmp, 1) := by decide +kernel
theorem d_Md_divided_241 : decode b_Md_divided 241 = .ok (.ifCond .le 9, 3) := by decide +kernel
theorem d_Md_divided_250 : decode b_Md_divided 250 = .ok (.lload 14, 2) := by decide +kernel
theorem d_Md_divided_252 : decode b_Md_divided 252 = .ok (.lstore 14, 2) := by decide +kernel
theorem d_Md_divided_254 : decode b_Md_divided 254 = .ok (.lconst 0, 1) := by decide +kernel
theorem d_Md_divided_255 : decode b_Md_divided 255 = .ok (.lstore 16, 2) := by decide +kernel
theorem d_Md_divided_257 : decode b_Md_divided 257 = .ok (.iconst 0, 1) := by decide +kernel
theorem d_Md_divided_258 : decode b_Md_divided 258 = .ok (.istore 18, 2) := by decide +kernel
theorem d_Md_divided_260 : decode b_Md_divided 260 = .ok (.iload 18, 2) := by decide +kernel
theorem d_Md_divided_262 : decode b_Md_divided 262 = .ok (.iload 7, 2) := by decide +kernel
theorem d_Md_divided_264 : decode b_Md_divided 264 = .ok (.if_icmp .ge 58, 3) := by decide +kernel
theorem d_Md_divided_267 : decode b_Md_divided 267 = .ok (.lload 16, 2) := by decide +kernel
theorem d_Md_divided_269 : decode b_Md_divided 269 = .ok (.aload_n 0, 1) := by decide +kernel
theorem d_Md_divided_270 : decode b_Md_divided 270 = .ok (.getfield 53, 3) := by decide +kernel
theorem d_Md_divided_273 : decode b_Md_divided 273 = .ok (.iload 11, 2) := by decide +kernel
theorem d_Md_divided_275 : decode b_Md_divided 275 = .ok (.iload 18, 2) := by decide +kernel
theorem d_Md_divided_277 : decode b_Md_divided 277 = .ok (.iadd, 1) := by decide +kernel
theorem d_Md_divided_278 : decode b_Md_divided 278 = .ok (.laload, 1) := by decide +kernel
theorem d_Md_divided_279 : decode b_Md_divided 279 = .ok (.lload 14, 2) := by decide +kernel
theorem d_Md_divided_281 : decode b_Md_divided 281 = .ok (.aload_n 0, 1) := by decide +kernel
theorem d_Md_divided_282 : decode b_Md_divided 282 = .ok (.getfield 50, 3) := by decide +kernel
theorem d_Md_divided_285 : decode b_Md_divided 285 = .ok (.iload 18, 2) := by decide +kernel
theorem d_Md_divided_287 : decode b_Md_divided 287 = .ok (.laload, 1) := by decide +kernel
theorem d_Md_divided_288 : decode b_Md_divided 288 = .ok (.lmul, 1) := by decide +kernel
theorem d_Md_divided_289 : decode b_Md_divided 289 = .ok (.lsub, 1) := by decide +kernel
theorem d_Md_divided_290 : decode b_Md_divided 290 = .ok (.ladd, 1) := by decide +kernel
theorem d_Md_divided_291 : decode b_Md_divided 291 = .ok (.lstore 16, 2) := by decide +kernel
theorem d_Md_divided_293 : decode b_Md_divided 293 = .ok (.aload_n 0, 1) := by decide +kernel
theorem d_Md_divided_294 : decode b_Md_divided 294 = .ok (.getfield 53, 3) := by decide +kernel
theorem d_Md_divided_297 : decode b_Md_divided 297 = .ok (.iload 11, 2) := by decide +kernel
theorem d_Md_divided_299 : decode b_Md_divided 299 = .ok (.iload 18, 2) := by decide +kernel
theorem d_Md_divided_301 : decode b_Md_divided 301 = .ok (.iadd, 1) := by decide +kernel
theorem d_Md_divided_302 : decode b_Md_divided 302 = .ok (.lload 16, 2) := by decide +kernel
theorem d_Md_divided_304 : decode b_Md_divided 304 = .ok (.ldc2_w 157, 3) := by decide +kernel
theorem d_Md_divided_307 : decode b_Md_divided 307 = .ok (.land, 1) := by decide +kernel
theorem d_Md_divided_308 : decode b_Md_divided 308 = .ok (.lastore, 1) := by decide +kernel
theorem d_Md_divided_309 : decode b_Md_divided 309 = .ok (.lload 16, 2) := by decide +kernel
theorem d_Md_divided_311 : decode b_Md_divided 311 = .ok (.bipush 28, 2) := by decide +kernel
theorem d_Md_divided_313 : decode b_Md_divided 313 = .ok (.lshr, 1) := by decide +kernel
theorem d_Md_divided_314 : decode b_Md_divided 314 = .ok (.lstore 16, 2) := by decide +kernel
theorem d_Md_divided_316 : decode b_Md_divided 316 = .ok (.iinc 18 1, 3) := by decide +kernel
theorem d_Md_divided_319 : decode b_Md_divided 319 = .ok (.goto (-59), 3) := by decide +kernel
theorem d_Md_divided_322 : decode b_Md_divided 322 = .ok (.aload_n 0, 1) := by decide +kernel
theorem d_Md_divided_323 : decode b_Md_divided 323 = .ok (.getfield 53, 3) := by decide +kernel
theorem d_Md_divided_326 : decode b_Md_divided 326 = .ok (.iload 11, 2) := by decide +kernel
theorem d_Md_divided_328 : decode b_Md_divided 328 = .ok (.iload 7, 2) := by decide +kernel
theorem d_Md_divided_330 : decode b_Md_divided 330 = .ok (.iadd, 1) := by decide +kernel
theorem d_Md_divided_331 : decode b_Md_divided 331 = .ok (.dup2, 1) := by decide +kernel
theorem d_Md_divided_332 : decode b_Md_divided 332 = .ok (.laload, 1) := by decide +kernel
theorem d_Md_divided_333 : decode b_Md_divided 333 = .ok (.lload 16, 2) := by decide +kernel
theorem d_Md_divided_335 : decode b_Md_divided 335 = .ok (.ladd, 1) := by decide +kernel
theorem d_Md_divided_336 : decode b_Md_divided 336 = .ok (.lastore, 1) := by decide +kernel
theorem d_Md_divided_337 : decode b_Md_divided 337 = .ok (.aload_n 0, 1) := by decide +kernel
theorem d_Md_divided_338 : decode b_Md_divided 338 = .ok (.getfield 53, 3) := by decide +kernel
theorem d_Md_divided_341 : decode b_Md_divided 341 = .ok (.iload 11, 2) := by decide +kernel
theorem d_Md_divided_343 : decode b_Md_divided 343 = .ok (.iload 7, 2) := by decide +kernel
theorem d_Md_divided_345 : decode b_Md_divided 345 = .ok (.iadd, 1) := by decide +kernel
theorem d_Md_divided_346 : decode b_Md_divided 346 = .ok (.laload, 1) := by decide +kernel
theorem d_Md_divided_347 : decode b_Md_divided 347 = .ok (.lconst 0, 1) := by decide +kernel
theorem d_Md_divided_348 : decode b_Md_divided 348 = .ok (.lcmp, 1) := by decide +kernel
theorem d_Md_divided_349 : decode b_Md_divided 349 = .ok (.ifCond .ge 92, 3) := by decide +kernel
theorem d_Md_divided_441 : decode b_Md_divided 441 = .ok (.aload_n 0, 1) := by decide +kernel
theorem d_Md_divided_442 : decode b_Md_divided 442 = .ok (.getfield 47, 3) := by decide +kernel
theorem d_Md_divided_445 : decode b_Md_divided 445 = .ok (.iload 11, 2) := by decide +kernel
theorem d_Md_divided_447 : decode b_Md_divided 447 = .ok (.lload 14, 2) := by decide +kernel
theorem d_Md_divided_449 : decode b_Md_divided 449 = .ok (.lastore, 1) := by decide +kernel
theorem d_Md_divided_450 : decode b_Md_divided 450 = .ok (.iinc 11 (-1), 3) := by decide +kernel
theorem d_Md_divided_453 : decode b_Md_divided 453 = .ok (.goto (-265), 3) := by decide +kernel
theorem d_Md_divided_456 : decode b_Md_divided 456 = .ok (.aload_n 0, 1) := by decide +kernel
theorem d_Md_divided_457 : decode b_Md_divided 457 = .ok (.iload_n 1, 1) := by decide +kernel
theorem d_Md_divided_458 : decode b_Md_divided 458 = .ok (.iload 10, 2) := by decide +kernel
theorem d_Md_divided_460 : decode b_Md_divided 460 = .ok (.ifCond .ge 7, 3) := by decide +kernel
theorem d_Md_divided_463 : decode b_Md_divided 463 = .ok (.iconst 0, 1) := by decide +kernel
theorem d_Md_divided_464 : decode b_Md_divided 464 = .ok (.goto 7, 3) := by decide +kernel
theorem d_Md_divided_467 : decode b_Md_divided 467 = .ok (.iload 10, 2) := by decide +kernel
theorem d_Md_divided_469 : decode b_Md_divided 469 = .ok (.iconst 1, 1) := by decide +kernel
theorem d_Md_divided_470 : decode b_Md_divided 470 = .ok (.iadd, 1) := by decide +kernel
theorem d_Md_divided_471 : decode b_Md_divided 471 = .ok (.iload 5, 2) := by decide +kernel
theorem d_Md_divided_473 : decode b_Md_divided 473 = .ok (.iload 6, 2) := by decide +kernel
theorem d_Md_divided_475 : decode b_Md_divided 475 = .ok (.imul, 1) := by decide +kernel
theorem d_Md_divided_476 : decode b_Md_divided 476 = .ok (.invokevirtual 171, 3) := by decide +kernel
theorem d_Md_divided_479 : decode b_Md_divided 479 = .ok (.iload 8, 2) := by decide +kernel
theorem d_Md_divided_481 : decode b_Md_divided 481 = .ok (.iload 7, 2) := by decide +kernel
theorem d_Md_divided_483 : decode b_Md_divided 483 = .ok (.if_icmp .ge 10, 3) := by decide +kernel
theorem d_Md_divided_486 : decode b_Md_divided 486 = .ok (.iload 8, 2) := by decide +kernel
theorem d_Md_divided_488 : decode b_Md_divided 488 = .ok (.iconst 1, 1) := by decide +kernel
theorem d_Md_divided_489 : decode b_Md_divided 489 = .ok (.iadd, 1) := by decide +kernel
theorem d_Md_divided_490 : decode b_Md_divided 490 = .ok (.goto 5, 3) := by decide +kernel
theorem d_Md_divided_493 : decode b_Md_divided 493 = .ok (.iload 7, 2) := by decide +kernel
theorem d_Md_divided_495 : decode b_Md_divided 495 = .ok (.istore 11, 2) := by decide +kernel
theorem d_Md_divided_497 : decode b_Md_divided 497 = .ok (.iconst 0, 1) := by decide +kernel
theorem d_Md_divided_498 : decode b_Md_divided 498 = .ok (.istore 12, 2) := by decide +kernel
theorem d_Md_divided_500 : decode b_Md_divided 500 = .ok (.iload 12, 2) := by decide +kernel
theorem d_Md_divided_502 : decode b_Md_divided 502 = .ok (.iload 11, 2) := by decide +kernel
theorem d_Md_divided_504 : decode b_Md_divided 504 = .ok (.if_icmp .ge 59, 3) := by decide +kernel
theorem d_Md_divided_507 : decode b_Md_divided 507 = .ok (.aload_n 0, 1) := by decide +kernel
theorem d_Md_divided_508 : decode b_Md_divided 508 = .ok (.getfield 47, 3) := by decide +kernel
theorem d_Md_divided_511 : decode b_Md_divided 511 = .ok (.iload 12, 2) := by decide +kernel
theorem d_Md_divided_513 : decode b_Md_divided 513 = .ok (.aload_n 0, 1) := by decide +kernel
theorem d_Md_divided_514 : decode b_Md_divided 514 = .ok (.getfield 53, 3) := by decide +kernel
theorem d_Md_divided_517 : decode b_Md_divided 517 = .ok (.iload 12, 2) := by decide +kernel
theorem d_Md_divided_519 : decode b_Md_divided 519 = .ok (.laload, 1) := by decide +kernel
theorem d_Md_divided_520 : decode b_Md_divided 520 = .ok (.iload 9, 2) := by decide +kernel
theorem d_Md_divided_522 : decode b_Md_divided 522 = .ok (.lshr, 1) := by decide +kernel
theorem d_Md_divided_523 : decode b_Md_divided 523 = .ok (.iload 12, 2) := by decide +kernel
theorem d_Md_divided_525 : decode b_Md_divided 525 = .ok (.iconst 1, 1) := by decide +kernel
theorem d_Md_divided_526 : decode b_Md_divided 526 = .ok (.iadd, 1) := by decide +kernel
theorem d_Md_divided_527 : decode b_Md_divided 527 = .ok (.iload 11, 2) := by decide +kernel
theorem d_Md_divided_529 : decode b_Md_divided 529 = .ok (.if_icmp .ge 15, 3) := by decide +kernel
theorem d_Md_divided_544 : decode b_Md_divided 544 = .ok (.lconst 0, 1) := by decide +kernel
theorem d_Md_divided_545 : decode b_Md_divided 545 = .ok (.bipush 28, 2) := by decide +kernel
theorem d_Md_divided_547 : decode b_Md_divided 547 = .ok (.iload 9, 2) := by decide +kernel
theorem d_Md_divided_549 : decode b_Md_divided 549 = .ok (.isub, 1) := by decide +kernel
theorem d_Md_divided_550 : decode b_Md_divided 550 = .ok (.lshl, 1) := by decide +kernel
theorem d_Md_divided_551 : decode b_Md_divided 551 = .ok (.lor, 1) := by decide +kernel
theorem d_Md_divided_552 : decode b_Md_divided 552 = .ok (.ldc2_w 157, 3) := by decide +kernel
theorem d_Md_divided_555 : decode b_Md_divided 555 = .ok (.land, 1) := by decide +kernel
theorem d_Md_divided_556 : decode b_Md_divided 556 = .ok (.lastore, 1) := by decide +kernel
theorem d_Md_divided_557 : decode b_Md_divided 557 = .ok (.iinc 12 1, 3) := by decide +kernel
theorem d_Md_divided_560 : decode b_Md_divided 560 = .ok (.goto (-60), 3) := by decide +kernel
theorem d_Md_divided_563 : decode b_Md_divided 563 = .ok (.aload_n 0, 1) := by decide +kernel
theorem d_Md_divided_564 : decode b_Md_divided 564 = .ok (.iload_n 2, 1) := by decide +kernel
theorem d_Md_divided_565 : decode b_Md_divided 565 = .ok (.iload 11, 2) := by decide +kernel
theorem d_Md_divided_567 : decode b_Md_divided 567 = .ok (.iload 5, 2) := by decide +kernel
theorem d_Md_divided_569 : decode b_Md_divided 569 = .ok (.invokevirtual 171, 3) := by decide +kernel
theorem d_Md_divided_572 : decode b_Md_divided 572 = .ok (.aload_n 0, 1) := by decide +kernel
theorem d_Md_divided_573 : decode b_Md_divided 573 = .ok (.getfield 44, 3) := by decide +kernel
theorem d_Md_divided_576 : decode b_Md_divided 576 = .ok (.iload_n 2, 1) := by decide +kernel
theorem d_Md_divided_577 : decode b_Md_divided 577 = .ok (.iaload, 1) := by decide +kernel
theorem d_Md_divided_578 : decode b_Md_divided 578 = .ok (.ifCond .eq 10, 3) := by decide +kernel
theorem d_Md_divided_581 : decode b_Md_divided 581 = .ok (.iload 5, 2) := by decide +kernel
theorem d_Md_divided_583 : decode b_Md_divided 583 = .ok (.iload 6, 2) := by decide +kernel
theorem d_Md_divided_585 : decode b_Md_divided 585 = .ok (.if_icmp .ne 4, 3) := by decide +kernel
theorem d_Md_divided_588 : decode b_Md_divided 588 = .ok (.return_, 1) := by decide +kernel
theorem d_Md_drop_0 : decode b_Md_drop 0 = .ok (.aload_n 0, 1) := by decide +kernel
theorem d_Md_drop_1 : decode b_Md_drop 1 = .ok (.iload_n 1, 1) := by decide +kernel
theorem d_Md_drop_2 : decode b_Md_drop 2 = .ok (.i2l, 1) := by decide +kernel
theorem d_Md_drop_3 : decode b_Md_drop 3 = .ok (.lconst 0, 1) := by decide +kernel
theorem d_Md_drop_4 : decode b_Md_drop 4 = .ok (.ldc2_w 611, 3) := by decide +kernel
theorem d_Md_drop_7 : decode b_Md_drop 7 = .ok (.invokestatic 446, 3) := by decide +kernel
theorem d_Md_drop_10 : decode b_Md_drop 10 = .ok (.ifCond .ne 7, 3) := by decide +kernel
theorem d_Md_drop_13 : decode b_Md_drop 13 = .ok (.iconst 1, 1) := by decide +kernel
theorem d_Md_drop_14 : decode b_Md_drop 14 = .ok (.goto 4, 3) := by decide +kernel
theorem d_Md_drop_17 : decode b_Md_drop 17 = .ok (.iconst 0, 1) := by decide +kernel
theorem d_Md_drop_18 : decode b_Md_drop 18 = .ok (.iconst 1, 1) := by decide +kernel
theorem d_Md_drop_19 : decode b_Md_drop 19 = .ok (.invokevirtual 581, 3) := by decide +kernel
theorem d_Md_drop_22 : decode b_Md_drop 22 = .ok (.ifCond .eq 5, 3) := by decide +kernel
theorem d_Md_drop_25 : decode b_Md_drop 25 = .ok (.iconst 0, 1) := by decide +kernel
theorem d_Md_drop_26 : decode b_Md_drop 26 = .ok (.ireturn, 1) := by decide +kernel
theorem d_Md_drop_27 : decode b_Md_drop 27 = .ok (.aload_n 0, 1) := by decide +kernel
theorem d_Md_drop_28 : decode b_Md_drop 28 = .ok (.getfield 20, 3) := by decide +kernel
theorem d_Md_drop_31 : decode b_Md_drop 31 = .ok (.iload_n 1, 1) := by decide +kernel
theorem d_Md_drop_32 : decode b_Md_drop 32 = .ok (.baload, 1) := by decide +kernel
theorem d_Md_drop_33 : decode b_Md_drop 33 = .ok (.istore_n 2, 1) := by decide +kernel
theorem d_Md_drop_34 : decode b_Md_drop 34 = .ok (.aload_n 0, 1) := by decide +kernel
theorem d_Md_drop_35 : decode b_Md_drop 35 = .ok (.getfield 20, 3) := by decide +kernel
theorem d_Md_drop_38 : decode b_Md_drop 38 = .ok (.iload_n 1, 1) := by decide +kernel
theorem d_Md_drop_39 : decode b_Md_drop 39 = .ok (.iconst 0, 1) := by decide +kernel
theorem d_Md_drop_40 : decode b_Md_drop 40 = .ok (.bastore, 1) := by decide +kernel
theorem d_Md_drop_41 : decode b_Md_drop 41 = .ok (.iload_n 2, 1) := by decide +kernel
theorem d_Md_drop_42 : decode b_Md_drop 42 = .ok (.ireturn, 1) := by decide +kernel
theorem d_Md_fails_0 : decode b_Md_fails 0 = .ok (.aload_n 0, 1) := by decide +kernel
theorem d_Md_fails_1 : decode b_Md_fails 1 = .ok (.iload_n 1, 1) := by decide +kernel
theorem d_Md_fails_2 : decode b_Md_fails 2 = .ok (.ifCond .eq 7, 3) := by decide +kernel
theorem d_Md_fails_5 : decode b_Md_fails 5 = .ok (.iload_n 2, 1) := by decide +kernel
theorem d_Md_fails_6 : decode b_Md_fails 6 = .ok (.goto 4, 3) := by decide +kernel
theorem d_Md_fails_9 : decode b_Md_fails 9 = .ok (.iconst 0, 1) := by decide +kernel
theorem d_Md_fails_10 : decode b_Md_fails 10 = .ok (.putfield 154, 3) := by decide +kernel
theorem d_Md_fails_13 : decode b_Md_fails 13 = .ok (.iload_n 1, 1) := by decide +kernel
theorem d_Md_fails_14 : decode b_Md_fails 14 = .ok (.ireturn, 1) := by decide +kernel
theorem d_Md_feed_0 : decode b_Md_feed 0 = .ok (.aload_n 0, 1) := by decide +kernel
theorem d_Md_feed_1 : decode b_Md_feed 1 = .ok (.iload_n 1, 1) := by decide +kernel
theorem d_Md_feed_2 : decode b_Md_feed 2 = .ok (.i2l, 1) := by decide +kernel
theorem d_Md_feed_3 : decode b_Md_feed 3 = .ok (.lconst 1, 1) := by decide +kernel
theorem d_Md_feed_4 : decode b_Md_feed 4 = .ok (.ldc2_w 579, 3) := by decide +kernel
theorem d_Md_feed_7 : decode b_Md_feed 7 = .ok (.invokestatic 446, 3) := by decide +kernel
theorem d_Md_feed_10 : decode b_Md_feed 10 = .ok (.ifCond .ne 7, 3) := by decide +kernel
theorem d_Md_feed_13 : decode b_Md_feed 13 = .ok (.iconst 1, 1) := by decide +kernel
theorem d_Md_feed_14 : decode b_Md_feed 14 = .ok (.goto 4, 3) := by decide +kernel
theorem d_Md_feed_17 : decode b_Md_feed 17 = .ok (.iconst 0, 1) := by decide +kernel
theorem d_Md_feed_18 : decode b_Md_feed 18 = .ok (.iconst 1, 1) := by decide +kernel
theorem d_Md_feed_19 : decode b_Md_feed 19 = .ok (.invokevirtual 581, 3) := by decide +kernel
theorem d_Md_feed_22 : decode b_Md_feed 22 = .ok (.ifCond .ne 28, 3) := by decide +kernel
theorem d_Md_feed_25 : decode b_Md_feed 25 = .ok (.aload_n 0, 1) := by decide +kernel
theorem d_Md_feed_26 : decode b_Md_feed 26 = .ok (.aload_n 0, 1) := by decide +kernel
theorem d_Md_feed_27 : decode b_Md_feed 27 = .ok (.getfield 484, 3) := by decide +kernel
theorem d_Md_feed_30 : decode b_Md_feed 30 = .ok (.iload_n 1, 1) := by decide +kernel
theorem d_Md_feed_31 : decode b_Md_feed 31 = .ok (.iadd, 1) := by decide +kernel
theorem d_Md_feed_32 : decode b_Md_feed 32 = .ok (.sipush 400, 3) := by decide +kernel
theorem d_Md_feed_35 : decode b_Md_feed 35 = .ok (.if_icmp .le 7, 3) := by decide +kernel
theorem d_Md_feed_42 : decode b_Md_feed 42 = .ok (.iconst 0, 1) := by decide +kernel
theorem d_Md_feed_43 : decode b_Md_feed 43 = .ok (.iconst 2, 1) := by decide +kernel
theorem d_Md_feed_44 : decode b_Md_feed 44 = .ok (.invokevirtual 581, 3) := by decide +kernel
theorem d_Md_feed_47 : decode b_Md_feed 47 = .ok (.ifCond .eq 5, 3) := by decide +kernel
theorem d_Md_feed_50 : decode b_Md_feed 50 = .ok (.iconst 0, 1) := by decide +kernel
theorem d_Md_feed_51 : decode b_Md_feed 51 = .ok (.ireturn, 1) := by decide +kernel
theorem d_Md_feed_52 : decode b_Md_feed 52 = .ok (.iconst 0, 1) := by decide +kernel
theorem d_Md_feed_53 : decode b_Md_feed 53 = .ok (.istore 4, 2) := by decide +kernel
theorem d_Md_feed_55 : decode b_Md_feed 55 = .ok (.iload 4, 2) := by decide +kernel
theorem d_Md_feed_57 : decode b_Md_feed 57 = .ok (.iload_n 1, 1) := by decide +kernel
theorem d_Md_feed_58 : decode b_Md_feed 58 = .ok (.if_icmp .ge 33, 3) := by decide +kernel
theorem d_Md_feed_61 : decode b_Md_feed 61 = .ok (.aload_n 0, 1) := by decide +kernel
theorem d_Md_feed_62 : decode b_Md_feed 62 = .ok (.getfield 7, 3) := by decide +kernel
theorem d_Md_feed_65 : decode b_Md_feed 65 = .ok (.aload_n 0, 1) := by decide +kernel
theorem d_Md_feed_66 : decode b_Md_feed 66 = .ok (.getfield 484, 3) := by decide +kernel
theorem d_Md_feed_69 : decode b_Md_feed 69 = .ok (.iload 4, 2) := by decide +kernel
theorem d_Md_feed_71 : decode b_Md_feed 71 = .ok (.iadd, 1) := by decide +kernel
theorem d_Md_feed_72 : decode b_Md_feed 72 = .ok (.lload_n 2, 1) := by decide +kernel
theorem d_Md_feed_73 : decode b_Md_feed 73 = .ok (.bipush 8, 2) := by decide +kernel
theorem d_Md_feed_75 : decode b_Md_feed 75 = .ok (.iload 4, 2) := by decide +kernel
theorem d_Md_feed_77 : decode b_Md_feed 77 = .ok (.imul, 1) := by decide +kernel
theorem d_Md_feed_78 : decode b_Md_feed 78 = .ok (.lshr, 1) := by decide +kernel
theorem d_Md_feed_79 : decode b_Md_feed 79 = .ok (.ldc2_w 585, 3) := by decide +kernel
theorem d_Md_feed_82 : decode b_Md_feed 82 = .ok (.land, 1) := by decide +kernel
theorem d_Md_feed_83 : decode b_Md_feed 83 = .ok (.l2i, 1) := by decide +kernel
theorem d_Md_feed_84 : decode b_Md_feed 84 = .ok (.iastore, 1) := by decide +kernel
theorem d_Md_feed_85 : decode b_Md_feed 85 = .ok (.iinc 4 1, 3) := by decide +kernel
theorem d_Md_feed_88 : decode b_Md_feed 88 = .ok (.goto (-33), 3) := by decide +kernel
theorem d_Md_feed_91 : decode b_Md_feed 91 = .ok (.aload_n 0, 1) := by decide +kernel
theorem d_Md_feed_92 : decode b_Md_feed 92 = .ok (.dup, 1) := by decide +kernel
theorem d_Md_feed_93 : decode b_Md_feed 93 = .ok (.getfield 484, 3) := by decide +kernel
theorem d_Md_feed_96 : decode b_Md_feed 96 = .ok (.iload_n 1, 1) := by decide +kernel
theorem d_Md_feed_97 : decode b_Md_feed 97 = .ok (.iadd, 1) := by decide +kernel
theorem d_Md_feed_98 : decode b_Md_feed 98 = .ok (.putfield 484, 3) := by decide +kernel
theorem d_Md_feed_101 : decode b_Md_feed 101 = .ok (.aload_n 0, 1) := by decide +kernel
theorem d_Md_feed_102 : decode b_Md_feed 102 = .ok (.getfield 484, 3) := by decide +kernel
theorem d_Md_feed_105 : decode b_Md_feed 105 = .ok (.ireturn, 1) := by decide +kernel
theorem d_Md_fix_0 : decode b_Md_fix 0 = .ok (.aload_n 0, 1) := by decide +kernel
theorem d_Md_fix_1 : decode b_Md_fix 1 = .ok (.getfield 41, 3) := by decide +kernel
theorem d_Md_fix_4 : decode b_Md_fix 4 = .ok (.iload_n 1, 1) := by decide +kernel
theorem d_Md_fix_5 : decode b_Md_fix 5 = .ok (.iaload, 1) := by decide +kernel
theorem d_Md_fix_6 : decode b_Md_fix 6 = .ok (.ifCond .le 40, 3) := by decide +kernel
theorem d_Md_fix_9 : decode b_Md_fix 9 = .ok (.aload_n 0, 1) := by decide +kernel
theorem d_Md_fix_10 : decode b_Md_fix 10 = .ok (.getfield 38, 3) := by decide +kernel
theorem d_Md_fix_13 : decode b_Md_fix 13 = .ok (.sipush 660, 3) := by decide +kernel
theorem d_Md_fix_16 : decode b_Md_fix 16 = .ok (.iload_n 1, 1) := by decide +kernel
theorem d_Md_fix_17 : decode b_Md_fix 17 = .ok (.imul, 1) := by decide +kernel
theorem d_Md_fix_18 : decode b_Md_fix 18 = .ok (.aload_n 0, 1) := by decide +kernel
theorem d_Md_fix_19 : decode b_Md_fix 19 = .ok (.getfield 41, 3) := by decide +kernel
theorem d_Md_fix_22 : decode b_Md_fix 22 = .ok (.iload_n 1, 1) := by decide +kernel
theorem d_Md_fix_23 : decode b_Md_fix 23 = .ok (.iaload, 1) := by decide +kernel
theorem d_Md_fix_24 : decode b_Md_fix 24 = .ok (.iadd, 1) := by decide +kernel
theorem d_Md_fix_25 : decode b_Md_fix 25 = .ok (.iconst 1, 1) := by decide +kernel
theorem d_Md_fix_26 : decode b_Md_fix 26 = .ok (.isub, 1) := by decide +kernel
theorem d_Md_fix_27 : decode b_Md_fix 27 = .ok (.laload, 1) := by decide +kernel
theorem d_Md_fix_28 : decode b_Md_fix 28 = .ok (.lconst 0, 1) := by decide +kernel
theorem d_Md_fix_29 : decode b_Md_fix 29 = .ok (.lcmp, 1) := by decide +kernel
theorem d_Md_fix_30 : decode b_Md_fix 30 = .ok (.ifCond .ne 16, 3) := by decide +kernel
theorem d_Md_fix_33 : decode b_Md_fix 33 = .ok (.aload_n 0, 1) := by decide +kernel
theorem d_Md_fix_34 : decode b_Md_fix 34 = .ok (.getfield 41, 3) := by decide +kernel
theorem d_Md_fix_37 : decode b_Md_fix 37 = .ok (.iload_n 1, 1) := by decide +kernel
theorem d_Md_fix_38 : decode b_Md_fix 38 = .ok (.dup2, 1) := by decide +kernel
theorem d_Md_fix_39 : decode b_Md_fix 39 = .ok (.iaload, 1) := by decide +kernel
theorem d_Md_fix_40 : decode b_Md_fix 40 = .ok (.iconst 1, 1) := by decide +kernel
theorem d_Md_fix_41 : decode b_Md_fix 41 = .ok (.isub, 1) := by decide +kernel
theorem d_Md_fix_42 : decode b_Md_fix 42 = .ok (.iastore, 1) := by decide +kernel
theorem d_Md_fix_43 : decode b_Md_fix 43 = .ok (.goto (-43), 3) := by decide +kernel
theorem d_Md_fix_46 : decode b_Md_fix 46 = .ok (.aload_n 0, 1) := by decide +kernel
theorem d_Md_fix_47 : decode b_Md_fix 47 = .ok (.getfield 41, 3) := by decide +kernel
theorem d_Md_fix_50 : decode b_Md_fix 50 = .ok (.iload_n 1, 1) := by decide +kernel
theorem d_Md_fix_51 : decode b_Md_fix 51 = .ok (.iaload, 1) := by decide +kernel
theorem d_Md_fix_52 : decode b_Md_fix 52 = .ok (.ifCond .ne 10, 3) := by decide +kernel
theorem d_Md_fix_55 : decode b_Md_fix 55 = .ok (.aload_n 0, 1) := by decide +kernel
theorem d_Md_fix_56 : decode b_Md_fix 56 = .ok (.getfield 44, 3) := by decide +kernel
theorem d_Md_fix_59 : decode b_Md_fix 59 = .ok (.iload_n 1, 1) := by decide +kernel
theorem d_Md_fix_60 : decode b_Md_fix 60 = .ok (.iconst 0, 1) := by decide +kernel
theorem d_Md_fix_61 : decode b_Md_fix 61 = .ok (.iastore, 1) := by decide +kernel
theorem d_Md_fix_62 : decode b_Md_fix 62 = .ok (.return_, 1) := by decide +kernel
theorem d_Md_floor_0 : decode b_Md_floor 0 = .ok (.aload_n 0, 1) := by decide +kernel
theorem d_Md_floor_1 : decode b_Md_floor 1 = .ok (.iload_n 1, 1) := by decide +kernel
theorem d_Md_floor_2 : decode b_Md_floor 2 = .ok (.invokestatic 594, 3) := by decide +kernel
theorem d_Md_floor_5 : decode b_Md_floor 5 = .ok (.ifCond .eq 15, 3) := by decide +kernel
theorem d_Md_floor_8 : decode b_Md_floor 8 = .ok (.iload_n 2, 1) := by decide +kernel
theorem d_Md_floor_9 : decode b_Md_floor 9 = .ok (.i2l, 1) := by decide +kernel
theorem d_Md_floor_10 : decode b_Md_floor 10 = .ok (.lconst 0, 1) := by decide +kernel
theorem d_Md_floor_11 : decode b_Md_floor 11 = .ok (.ldc2_w 600, 3) := by decide +kernel
theorem d_Md_floor_14 : decode b_Md_floor 14 = .ok (.invokestatic 446, 3) := by decide +kernel
theorem d_Md_floor_17 : decode b_Md_floor 17 = .ok (.ifCond .ne 7, 3) := by decide +kernel
theorem d_Md_floor_20 : decode b_Md_floor 20 = .ok (.iconst 1, 1) := by decide +kernel
theorem d_Md_floor_21 : decode b_Md_floor 21 = .ok (.goto 4, 3) := by decide +kernel
theorem d_Md_floor_24 : decode b_Md_floor 24 = .ok (.iconst 0, 1) := by decide +kernel
theorem d_Md_floor_25 : decode b_Md_floor 25 = .ok (.iconst 1, 1) := by decide +kernel
theorem d_Md_floor_26 : decode b_Md_floor 26 = .ok (.invokevirtual 581, 3) := by decide +kernel
theorem d_Md_floor_29 : decode b_Md_floor 29 = .ok (.ifCond .ne 25, 3) := by decide +kernel
theorem d_Md_floor_32 : decode b_Md_floor 32 = .ok (.aload_n 0, 1) := by decide +kernel
theorem d_Md_floor_33 : decode b_Md_floor 33 = .ok (.aload_n 0, 1) := by decide +kernel
theorem d_Md_floor_34 : decode b_Md_floor 34 = .ok (.getfield 20, 3) := by decide +kernel
theorem d_Md_floor_37 : decode b_Md_floor 37 = .ok (.iload_n 1, 1) := by decide +kernel
theorem d_Md_floor_38 : decode b_Md_floor 38 = .ok (.baload, 1) := by decide +kernel
theorem d_Md_floor_39 : decode b_Md_floor 39 = .ok (.ifCond .ne 7, 3) := by decide +kernel
theorem d_Md_floor_42 : decode b_Md_floor 42 = .ok (.iconst 1, 1) := by decide +kernel
theorem d_Md_floor_43 : decode b_Md_floor 43 = .ok (.goto 4, 3) := by decide +kernel
theorem d_Md_floor_46 : decode b_Md_floor 46 = .ok (.iconst 0, 1) := by decide +kernel
theorem d_Md_floor_47 : decode b_Md_floor 47 = .ok (.iconst 2, 1) := by decide +kernel
theorem d_Md_floor_48 : decode b_Md_floor 48 = .ok (.invokevirtual 581, 3) := by decide +kernel
theorem d_Md_floor_51 : decode b_Md_floor 51 = .ok (.ifCond .eq 5, 3) := by decide +kernel
theorem d_Md_floor_54 : decode b_Md_floor 54 = .ok (.iconst 0, 1) := by decide +kernel
theorem d_Md_floor_55 : decode b_Md_floor 55 = .ok (.ireturn, 1) := by decide +kernel
theorem d_Md_floor_56 : decode b_Md_floor 56 = .ok (.aload_n 0, 1) := by decide +kernel
theorem d_Md_floor_57 : decode b_Md_floor 57 = .ok (.getfield 24, 3) := by decide +kernel
theorem d_Md_floor_60 : decode b_Md_floor 60 = .ok (.iload_n 1, 1) := by decide +kernel
theorem d_Md_floor_61 : decode b_Md_floor 61 = .ok (.iaload, 1) := by decide +kernel
theorem d_Md_floor_62 : decode b_Md_floor 62 = .ok (.iconst 1, 1) := by decide +kernel
theorem d_Md_floor_63 : decode b_Md_floor 63 = .ok (.if_icmp .ne 78, 3) := by decide +kernel
theorem d_Md_floor_66 : decode b_Md_floor 66 = .ok (.aload_n 0, 1) := by decide +kernel
theorem d_Md_floor_67 : decode b_Md_floor 67 = .ok (.bipush 19, 2) := by decide +kernel
theorem d_Md_floor_69 : decode b_Md_floor 69 = .ok (.aload_n 0, 1) := by decide +kernel
theorem d_Md_floor_70 : decode b_Md_floor 70 = .ok (.getfield 27, 3) := by decide +kernel
theorem d_Md_floor_73 : decode b_Md_floor 73 = .ok (.bipush 7, 2) := by decide +kernel
theorem d_Md_floor_75 : decode b_Md_floor 75 = .ok (.iload_n 1, 1) := by decide +kernel
theorem d_Md_floor_76 : decode b_Md_floor 76 = .ok (.imul, 1) := by decide +kernel
theorem d_Md_floor_77 : decode b_Md_floor 77 = .ok (.laload, 1) := by decide +kernel
theorem d_Md_floor_78 : decode b_Md_floor 78 = .ok (.lneg, 1) := by decide +kernel
theorem d_Md_floor_79 : decode b_Md_floor 79 = .ok (.invokevirtual 175, 3) := by decide +kernel
theorem d_Md_floor_82 : decode b_Md_floor 82 = .ok (.aload_n 0, 1) := by decide +kernel
theorem d_Md_floor_83 : decode b_Md_floor 83 = .ok (.iconst 1, 1) := by decide +kernel
theorem d_Md_floor_84 : decode b_Md_floor 84 = .ok (.ldc2_w 499, 3) := by decide +kernel
theorem d_Md_floor_87 : decode b_Md_floor 87 = .ok (.invokevirtual 175, 3) := by decide +kernel
theorem d_Md_floor_90 : decode b_Md_floor 90 = .ok (.iconst 0, 1) := by decide +kernel
theorem d_Md_floor_91 : decode b_Md_floor 91 = .ok (.istore_n 3, 1) := by decide +kernel
theorem d_Md_floor_92 : decode b_Md_floor 92 = .ok (.iload_n 3, 1) := by decide +kernel
theorem d_Md_floor_93 : decode b_Md_floor 93 = .ok (.iload_n 2, 1) := by decide +kernel
theorem d_Md_floor_94 : decode b_Md_floor 94 = .ok (.if_icmp .ge 18, 3) := by decide +kernel
theorem d_Md_floor_97 : decode b_Md_floor 97 = .ok (.aload_n 0, 1) := by decide +kernel
theorem d_Md_floor_98 : decode b_Md_floor 98 = .ok (.bipush 19, 2) := by decide +kernel
theorem d_Md_floor_100 : decode b_Md_floor 100 = .ok (.bipush 19, 2) := by decide +kernel
theorem d_Md_floor_102 : decode b_Md_floor 102 = .ok (.iconst 1, 1) := by decide +kernel
theorem d_Md_floor_103 : decode b_Md_floor 103 = .ok (.invokevirtual 194, 3) := by decide +kernel
theorem d_Md_floor_106 : decode b_Md_floor 106 = .ok (.iinc 3 1, 3) := by decide +kernel
theorem d_Md_floor_109 : decode b_Md_floor 109 = .ok (.goto (-17), 3) := by decide +kernel
theorem d_Md_floor_112 : decode b_Md_floor 112 = .ok (.aload_n 0, 1) := by decide +kernel
theorem d_Md_floor_113 : decode b_Md_floor 113 = .ok (.iconst 1, 1) := by decide +kernel
theorem d_Md_floor_114 : decode b_Md_floor 114 = .ok (.aload_n 0, 1) := by decide +kernel
theorem d_Md_floor_115 : decode b_Md_floor 115 = .ok (.getfield 27, 3) := by decide +kernel
theorem d_Md_floor_118 : decode b_Md_floor 118 = .ok (.bipush 7, 2) := by decide +kernel
theorem d_Md_floor_120 : decode b_Md_floor 120 = .ok (.iload_n 1, 1) := by decide +kernel
theorem d_Md_floor_121 : decode b_Md_floor 121 = .ok (.imul, 1) := by decide +kernel
theorem d_Md_floor_122 : decode b_Md_floor 122 = .ok (.iconst 1, 1) := by decide +kernel
theorem d_Md_floor_123 : decode b_Md_floor 123 = .ok (.iadd, 1) := by decide +kernel
theorem d_Md_floor_124 : decode b_Md_floor 124 = .ok (.laload, 1) := by decide +kernel
theorem d_Md_floor_125 : decode b_Md_floor 125 = .ok (.invokevirtual 175, 3) := by decide +kernel
theorem d_Md_floor_128 : decode b_Md_floor 128 = .ok (.aload_n 0, 1) := by decide +kernel
theorem d_Md_floor_129 : decode b_Md_floor 129 = .ok (.bipush 19, 2) := by decide +kernel
theorem d_Md_floor_131 : decode b_Md_floor 131 = .ok (.iconst 2, 1) := by decide +kernel
theorem d_Md_floor_132 : decode b_Md_floor 132 = .ok (.bipush 19, 2) := by decide +kernel
theorem d_Md_floor_134 : decode b_Md_floor 134 = .ok (.iconst 1, 1) := by decide +kernel
theorem d_Md_floor_135 : decode b_Md_floor 135 = .ok (.invokevirtual 188, 3) := by decide +kernel
theorem d_Md_floor_138 : decode b_Md_floor 138 = .ok (.goto 69, 3) := by decide +kernel
theorem d_Md_floor_207 : decode b_Md_floor 207 = .ok (.aload_n 0, 1) := by decide +kernel
theorem d_Md_floor_208 : decode b_Md_floor 208 = .ok (.iconst 0, 1) := by decide +kernel
theorem d_Md_floor_209 : decode b_Md_floor 209 = .ok (.putfield 589, 3) := by decide +kernel
theorem d_Md_floor_212 : decode b_Md_floor 212 = .ok (.aload_n 0, 1) := by decide +kernel
theorem d_Md_floor_213 : decode b_Md_floor 213 = .ok (.invokevirtual 605, 3) := by decide +kernel
theorem d_Md_floor_216 : decode b_Md_floor 216 = .ok (.aload_n 0, 1) := by decide +kernel
theorem d_Md_floor_217 : decode b_Md_floor 217 = .ok (.getfield 589, 3) := by decide +kernel
theorem d_Md_floor_220 : decode b_Md_floor 220 = .ok (.ireturn, 1) := by decide +kernel
theorem d_Md_in_0 : decode b_Md_in 0 = .ok (.lload_n 0, 1) := by decide +kernel
theorem d_Md_in_1 : decode b_Md_in 1 = .ok (.lload_n 2, 1) := by decide +kernel
theorem d_Md_in_2 : decode b_Md_in 2 = .ok (.lcmp, 1) := by decide +kernel
theorem d_Md_in_3 : decode b_Md_in 3 = .ok (.ifCond .lt 14, 3) := by decide +kernel
theorem d_Md_in_6 : decode b_Md_in 6 = .ok (.lload_n 0, 1) := by decide +kernel
theorem d_Md_in_7 : decode b_Md_in 7 = .ok (.lload 4, 2) := by decide +kernel
theorem d_Md_in_9 : decode b_Md_in 9 = .ok (.lcmp, 1) := by decide +kernel
theorem d_Md_in_10 : decode b_Md_in 10 = .ok (.ifCond .gt 7, 3) := by decide +kernel
theorem d_Md_in_13 : decode b_Md_in 13 = .ok (.iconst 1, 1) := by decide +kernel
theorem d_Md_in_14 : decode b_Md_in 14 = .ok (.goto 4, 3) := by decide +kernel
theorem d_Md_in_17 : decode b_Md_in 17 = .ok (.iconst 0, 1) := by decide +kernel
theorem d_Md_in_18 : decode b_Md_in 18 = .ok (.ireturn, 1) := by decide +kernel
theorem d_Md_index_0 : decode b_Md_index 0 = .ok (.aload_n 0, 1) := by decide +kernel
theorem d_Md_index_1 : decode b_Md_index 1 = .ok (.iload_n 1, 1) := by decide +kernel
theorem d_Md_index_2 : decode b_Md_index 2 = .ok (.invokevirtual 597, 3) := by decide +kernel
theorem d_Md_index_5 : decode b_Md_index 5 = .ok (.ifCond .eq 7, 3) := by decide +kernel
theorem d_Md_index_8 : decode b_Md_index 8 = .ok (.iconst 0, 1) := by decide +kernel
theorem d_Md_index_9 : decode b_Md_index 9 = .ok (.goto 9, 3) := by decide +kernel
theorem d_Md_index_12 : decode b_Md_index 12 = .ok (.aload_n 0, 1) := by decide +kernel
theorem d_Md_index_13 : decode b_Md_index 13 = .ok (.getfield 31, 3) := by decide +kernel
theorem d_Md_index_16 : decode b_Md_index 16 = .ok (.iload_n 1, 1) := by decide +kernel
theorem d_Md_index_17 : decode b_Md_index 17 = .ok (.iaload, 1) := by decide +kernel
theorem d_Md_index_18 : decode b_Md_index 18 = .ok (.ireturn, 1) := by decide +kernel
theorem d_Md_init_0 : decode b_Md_init 0 = .ok (.aload_n 0, 1) := by decide +kernel
theorem d_Md_init_1 : decode b_Md_init 1 = .ok (.invokespecial 1, 3) := by decide +kernel
theorem d_Md_init_4 : decode b_Md_init 4 = .ok (.aload_n 0, 1) := by decide +kernel
theorem d_Md_init_5 : decode b_Md_init 5 = .ok (.sipush 400, 3) := by decide +kernel
theorem d_Md_init_8 : decode b_Md_init 8 = .ok (.newarray .int, 2) := by decide +kernel
theorem d_Md_init_10 : decode b_Md_init 10 = .ok (.putfield 7, 3) := by decide +kernel
theorem d_Md_init_13 : decode b_Md_init 13 = .ok (.aload_n 0, 1) := by decide +kernel
theorem d_Md_init_14 : decode b_Md_init 14 = .ok (.sipush 400, 3) := by decide +kernel
theorem d_Md_init_17 : decode b_Md_init 17 = .ok (.newarray .int, 2) := by decide +kernel
theorem d_Md_init_19 : decode b_Md_init 19 = .ok (.putfield 13, 3) := by decide +kernel
theorem d_Md_init_22 : decode b_Md_init 22 = .ok (.aload_n 0, 1) := by decide +kernel
theorem d_Md_init_23 : decode b_Md_init 23 = .ok (.iconst (-1), 1) := by decide +kernel
theorem d_Md_init_24 : decode b_Md_init 24 = .ok (.putfield 16, 3) := by decide +kernel
theorem d_Md_init_27 : decode b_Md_init 27 = .ok (.aload_n 0, 1) := by decide +kernel
theorem d_Md_init_28 : decode b_Md_init 28 = .ok (.bipush 80, 2) := by decide +kernel
theorem d_Md_init_30 : decode b_Md_init 30 = .ok (.newarray .boolean, 2) := by decide +kernel
theorem d_Md_init_32 : decode b_Md_init 32 = .ok (.putfield 20, 3) := by decide +kernel
theorem d_Md_init_35 : decode b_Md_init 35 = .ok (.aload_n 0, 1) := by decide +kernel
theorem d_Md_init_36 : decode b_Md_init 36 = .ok (.bipush 80, 2) := by decide +kernel
theorem d_Md_init_38 : decode b_Md_init 38 = .ok (.newarray .int, 2) := by decide +kernel
theorem d_Md_init_40 : decode b_Md_init 40 = .ok (.putfield 24, 3) := by decide +kernel
theorem d_Md_init_43 : decode b_Md_init 43 = .ok (.aload_n 0, 1) := by decide +kernel
theorem d_Md_init_44 : decode b_Md_init 44 = .ok (.sipush 560, 3) := by decide +kernel
theorem d_Md_init_47 : decode b_Md_init 47 = .ok (.newarray .long, 2) := by decide +kernel
theorem d_Md_init_49 : decode b_Md_init 49 = .ok (.putfield 27, 3) := by decide +kernel
theorem d_Md_init_52 : decode b_Md_init 52 = .ok (.aload_n 0, 1) := by decide +kernel
theorem d_Md_init_53 : decode b_Md_init 53 = .ok (.bipush 80, 2) := by decide +kernel
theorem d_Md_init_55 : decode b_Md_init 55 = .ok (.newarray .int, 2) := by decide +kernel
theorem d_Md_init_57 : decode b_Md_init 57 = .ok (.putfield 31, 3) := by decide +kernel
theorem d_Md_init_60 : decode b_Md_init 60 = .ok (.aload_n 0, 1) := by decide +kernel
theorem d_Md_init_61 : decode b_Md_init 61 = .ok (.bipush 80, 2) := by decide +kernel
theorem d_Md_init_63 : decode b_Md_init 63 = .ok (.newarray .int, 2) := by decide +kernel
theorem d_Md_init_65 : decode b_Md_init 65 = .ok (.putfield 34, 3) := by decide +kernel
theorem d_Md_init_68 : decode b_Md_init 68 = .ok (.aload_n 0, 1) := by decide +kernel
theorem d_Md_init_69 : decode b_Md_init 69 = .ok (.ldc 37, 2) := by decide +kernel
theorem d_Md_init_71 : decode b_Md_init 71 = .ok (.newarray .long, 2) := by decide +kernel
theorem d_Md_init_73 : decode b_Md_init 73 = .ok (.putfield 38, 3) := by decide +kernel
theorem d_Md_init_76 : decode b_Md_init 76 = .ok (.aload_n 0, 1) := by decide +kernel
theorem d_Md_init_77 : decode b_Md_init 77 = .ok (.bipush 124, 2) := by decide +kernel
theorem d_Md_init_79 : decode b_Md_init 79 = .ok (.newarray .int, 2) := by decide +kernel
theorem d_Md_init_81 : decode b_Md_init 81 = .ok (.putfield 41, 3) := by decide +kernel
theorem d_Md_init_84 : decode b_Md_init 84 = .ok (.aload_n 0, 1) := by decide +kernel
theorem d_Md_init_85 : decode b_Md_init 85 = .ok (.bipush 124, 2) := by decide +kernel
theorem d_Md_init_87 : decode b_Md_init 87 = .ok (.newarray .int, 2) := by decide +kernel
theorem d_Md_init_89 : decode b_Md_init 89 = .ok (.putfield 44, 3) := by decide +kernel
theorem d_Md_init_92 : decode b_Md_init 92 = .ok (.aload_n 0, 1) := by decide +kernel
theorem d_Md_init_93 : decode b_Md_init 93 = .ok (.sipush 1400, 3) := by decide +kernel
theorem d_Md_init_96 : decode b_Md_init 96 = .ok (.newarray .long, 2) := by decide +kernel
theorem d_Md_init_98 : decode b_Md_init 98 = .ok (.putfield 47, 3) := by decide +kernel
theorem d_Md_init_101 : decode b_Md_init 101 = .ok (.aload_n 0, 1) := by decide +kernel
theorem d_Md_init_102 : decode b_Md_init 102 = .ok (.sipush 700, 3) := by decide +kernel
theorem d_Md_init_105 : decode b_Md_init 105 = .ok (.newarray .long, 2) := by decide +kernel
theorem d_Md_init_107 : decode b_Md_init 107 = .ok (.putfield 50, 3) := by decide +kernel
theorem d_Md_init_110 : decode b_Md_init 110 = .ok (.aload_n 0, 1) := by decide +kernel
theorem d_Md_init_111 : decode b_Md_init 111 = .ok (.sipush 1400, 3) := by decide +kernel
theorem d_Md_init_114 : decode b_Md_init 114 = .ok (.newarray .long, 2) := by decide +kernel
theorem d_Md_init_116 : decode b_Md_init 116 = .ok (.putfield 53, 3) := by decide +kernel
theorem d_Md_init_119 : decode b_Md_init 119 = .ok (.aload_n 0, 1) := by decide +kernel
theorem d_Md_init_120 : decode b_Md_init 120 = .ok (.bipush 16, 2) := by decide +kernel
theorem d_Md_init_122 : decode b_Md_init 122 = .ok (.newarray .int, 2) := by decide +kernel
theorem d_Md_init_124 : decode b_Md_init 124 = .ok (.putfield 56, 3) := by decide +kernel
theorem d_Md_init_127 : decode b_Md_init 127 = .ok (.aload_n 0, 1) := by decide +kernel
theorem d_Md_init_128 : decode b_Md_init 128 = .ok (.iconst 2, 1) := by decide +kernel
theorem d_Md_init_129 : decode b_Md_init 129 = .ok (.newarray .int, 2) := by decide +kernel
theorem d_Md_init_131 : decode b_Md_init 131 = .ok (.putfield 59, 3) := by decide +kernel
theorem d_Md_init_134 : decode b_Md_init 134 = .ok (.aload_n 0, 1) := by decide +kernel
theorem d_Md_init_135 : decode b_Md_init 135 = .ok (.iconst 2, 1) := by decide +kernel
theorem d_Md_init_136 : decode b_Md_init 136 = .ok (.newarray .int, 2) := by decide +kernel
