/-! words of the tables, by their places; laid by program -/
set_option maxRecDepth 20000 in
theorem mw_300 : Cond.selects "RootAlgebra$Gauge" y_Gauge_order y_Gauge_order ∈ wA := wA_in (zt_3 _ (List.mem_of_getElem? (i := 176) rfl)) rfl
set_option maxRecDepth 20000 in
theorem mw_301 : Cond.fieldLink "RootAlgebraModel" 20 "RootAlgebraModel" "has" "[Z" ∈ wA := wA_in (zt_6 _ (List.mem_of_getElem? (i := 166) rfl)) rfl
set_option maxRecDepth 20000 in
theorem mw_302 : Cond.fieldLink "RootAlgebraModel" 24 "RootAlgebraModel" "valueDegree" "[I" ∈ wA := wA_in (zt_6 _ (List.mem_of_getElem? (i := 167) rfl)) rfl
set_option maxRecDepth 20000 in
theorem mw_303 : Cond.fieldLink "RootAlgebraModel" 27 "RootAlgebraModel" "valueC" "[J" ∈ wA := wA_in (zt_6 _ (List.mem_of_getElem? (i := 168) rfl)) rfl
set_option maxRecDepth 20000 in
theorem mw_304 : Cond.fieldLink "RootAlgebraModel" 31 "RootAlgebraModel" "valueIndex" "[I" ∈ wA := wA_in (zt_6 _ (List.mem_of_getElem? (i := 169) rfl)) rfl
set_option maxRecDepth 20000 in
theorem mw_305 : Cond.fieldLink "RootAlgebraModel" 34 "RootAlgebraModel" "valueRoots" "[I" ∈ wA := wA_in (zt_6 _ (List.mem_of_getElem? (i := 170) rfl)) rfl
set_option maxRecDepth 20000 in
theorem mw_306 : Cond.fieldLink "RootAlgebraModel" 59 "RootAlgebraModel" "baseOf" "[I" ∈ wA := wA_in (zt_6 _ (List.mem_of_getElem? (i := 179) rfl)) rfl
set_option maxRecDepth 20000 in
theorem mw_307 : Cond.fieldLink "RootAlgebraModel" 65 "RootAlgebraModel" "cell" "[I" ∈ wA := wA_in (zt_6 _ (List.mem_of_getElem? (i := 181) rfl)) rfl
set_option maxRecDepth 20000 in
theorem mw_308 : Cond.methodLink "RootAlgebraModel" 1 Lib.objectInit ∈ wA := wA_in (zt_6 _ (List.mem_of_getElem? (i := 149) rfl)) rfl
set_option maxRecDepth 20000 in
theorem mw_309 : Cond.fieldLink "RootAlgebraModel" 7 "RootAlgebraModel" "tape" "[I" ∈ wA := wA_in (zt_6 _ (List.mem_of_getElem? (i := 160) rfl)) rfl
set_option maxRecDepth 20000 in
theorem mw_310 : Cond.fieldLink "RootAlgebraModel" 13 "RootAlgebraModel" "text" "[I" ∈ wA := wA_in (zt_6 _ (List.mem_of_getElem? (i := 162) rfl)) rfl
set_option maxRecDepth 20000 in
theorem mw_311 : Cond.fieldLink "RootAlgebraModel" 16 "RootAlgebraModel" "place" "I" ∈ wA := wA_in (zt_6 _ (List.mem_of_getElem? (i := 164) rfl)) rfl
set_option maxRecDepth 20000 in
theorem mw_312 : Cond.constant "RootAlgebraModel" 37 81840 ∈ wA := wA_in (zt_6 _ (List.mem_of_getElem? (i := 150) rfl)) rfl
set_option maxRecDepth 20000 in
theorem mw_313 : Cond.fieldLink "RootAlgebraModel" 38 "RootAlgebraModel" "d" "[J" ∈ wA := wA_in (zt_6 _ (List.mem_of_getElem? (i := 171) rfl)) rfl
set_option maxRecDepth 20000 in
theorem mw_314 : Cond.fieldLink "RootAlgebraModel" 41 "RootAlgebraModel" "size" "[I" ∈ wA := wA_in (zt_6 _ (List.mem_of_getElem? (i := 172) rfl)) rfl
set_option maxRecDepth 20000 in
theorem mw_315 : Cond.fieldLink "RootAlgebraModel" 44 "RootAlgebraModel" "sgn" "[I" ∈ wA := wA_in (zt_6 _ (List.mem_of_getElem? (i := 173) rfl)) rfl
set_option maxRecDepth 20000 in
theorem mw_316 : Cond.fieldLink "RootAlgebraModel" 47 "RootAlgebraModel" "hold" "[J" ∈ wA := wA_in (zt_6 _ (List.mem_of_getElem? (i := 174) rfl)) rfl
set_option maxRecDepth 20000 in
theorem mw_317 : Cond.fieldLink "RootAlgebraModel" 50 "RootAlgebraModel" "divisor" "[J" ∈ wA := wA_in (zt_6 _ (List.mem_of_getElem? (i := 175) rfl)) rfl
set_option maxRecDepth 20000 in
theorem mw_318 : Cond.fieldLink "RootAlgebraModel" 53 "RootAlgebraModel" "dividend" "[J" ∈ wA := wA_in (zt_6 _ (List.mem_of_getElem? (i := 176) rfl)) rfl
set_option maxRecDepth 20000 in
theorem mw_319 : Cond.fieldLink "RootAlgebraModel" 56 "RootAlgebraModel" "rowDegree" "[I" ∈ wA := wA_in (zt_6 _ (List.mem_of_getElem? (i := 177) rfl)) rfl
set_option maxRecDepth 20000 in
theorem mw_320 : Cond.fieldLink "RootAlgebraModel" 62 "RootAlgebraModel" "degreeOf" "[I" ∈ wA := wA_in (zt_6 _ (List.mem_of_getElem? (i := 180) rfl)) rfl
set_option maxRecDepth 20000 in
theorem mw_321 : Cond.fieldLink "RootAlgebraModel" 68 "RootAlgebraModel" "fine" "[I" ∈ wA := wA_in (zt_6 _ (List.mem_of_getElem? (i := 182) rfl)) rfl
set_option maxRecDepth 20000 in
theorem mw_322 : Cond.fieldLink "RootAlgebraModel" 71 "RootAlgebraModel" "w" "[J" ∈ wA := wA_in (zt_6 _ (List.mem_of_getElem? (i := 183) rfl)) rfl
set_option maxRecDepth 20000 in
theorem mw_323 : Cond.fieldLink "RootAlgebraModel" 74 "RootAlgebraModel" "t" "[J" ∈ wA := wA_in (zt_6 _ (List.mem_of_getElem? (i := 184) rfl)) rfl
set_option maxRecDepth 20000 in
theorem mw_324 : Cond.fieldLink "RootAlgebraModel" 77 "RootAlgebraModel" "u" "[J" ∈ wA := wA_in (zt_6 _ (List.mem_of_getElem? (i := 185) rfl)) rfl
set_option maxRecDepth 20000 in
theorem mw_325 : Cond.fieldLink "RootAlgebraModel" 80 "RootAlgebraModel" "zero" "[J" ∈ wA := wA_in (zt_6 _ (List.mem_of_getElem? (i := 186) rfl)) rfl
set_option maxRecDepth 20000 in
theorem mw_326 : Cond.fieldLink "RootAlgebraModel" 83 "RootAlgebraModel" "cells" "[J" ∈ wA := wA_in (zt_6 _ (List.mem_of_getElem? (i := 187) rfl)) rfl
set_option maxRecDepth 20000 in
theorem mw_327 : Cond.fieldLink "RootAlgebraModel" 86 "RootAlgebraModel" "deg" "[I" ∈ wA := wA_in (zt_6 _ (List.mem_of_getElem? (i := 188) rfl)) rfl
set_option maxRecDepth 20000 in
theorem mw_328 : Cond.fieldLink "RootAlgebraModel" 89 "RootAlgebraModel" "chance" "J" ∈ wA := wA_in (zt_6 _ (List.mem_of_getElem? (i := 189) rfl)) rfl
set_option maxRecDepth 20000 in
theorem mw_329 : Cond.fieldLink "RootAlgebraModel" 93 "RootAlgebraModel" "times" "[I" ∈ wA := wA_in (zt_6 _ (List.mem_of_getElem? (i := 191) rfl)) rfl
set_option maxRecDepth 20000 in
theorem mw_330 : Cond.fieldLink "RootAlgebraModel" 96 "RootAlgebraModel" "taken" "[I" ∈ wA := wA_in (zt_6 _ (List.mem_of_getElem? (i := 192) rfl)) rfl
set_option maxRecDepth 20000 in
theorem mw_331 : Cond.fieldLink "RootAlgebraModel" 99 "RootAlgebraModel" "unit" "[J" ∈ wA := wA_in (zt_6 _ (List.mem_of_getElem? (i := 193) rfl)) rfl
set_option maxRecDepth 20000 in
theorem mw_332 : Cond.fieldLink "RootAlgebraModel" 102 "RootAlgebraModel" "matrix" "[J" ∈ wA := wA_in (zt_6 _ (List.mem_of_getElem? (i := 194) rfl)) rfl
set_option maxRecDepth 20000 in
theorem mw_333 : Cond.fieldLink "RootAlgebraModel" 105 "RootAlgebraModel" "power" "[J" ∈ wA := wA_in (zt_6 _ (List.mem_of_getElem? (i := 195) rfl)) rfl
set_option maxRecDepth 20000 in
theorem mw_334 : Cond.fieldLink "RootAlgebraModel" 108 "RootAlgebraModel" "next" "[J" ∈ wA := wA_in (zt_6 _ (List.mem_of_getElem? (i := 196) rfl)) rfl
set_option maxRecDepth 20000 in
theorem mw_335 : Cond.fieldLink "RootAlgebraModel" 111 "RootAlgebraModel" "one" "[J" ∈ wA := wA_in (zt_6 _ (List.mem_of_getElem? (i := 197) rfl)) rfl
set_option maxRecDepth 20000 in
theorem mw_336 : Cond.fieldLink "RootAlgebraModel" 114 "RootAlgebraModel" "factor" "[J" ∈ wA := wA_in (zt_6 _ (List.mem_of_getElem? (i := 198) rfl)) rfl
set_option maxRecDepth 20000 in
theorem mw_337 : Cond.fieldLink "RootAlgebraModel" 117 "RootAlgebraModel" "pa" "[J" ∈ wA := wA_in (zt_6 _ (List.mem_of_getElem? (i := 199) rfl)) rfl
set_option maxRecDepth 20000 in
theorem mw_338 : Cond.fieldLink "RootAlgebraModel" 120 "RootAlgebraModel" "pb" "[J" ∈ wA := wA_in (zt_6 _ (List.mem_of_getElem? (i := 200) rfl)) rfl
set_option maxRecDepth 20000 in
theorem mw_339 : Cond.fieldLink "RootAlgebraModel" 123 "RootAlgebraModel" "candidate" "[J" ∈ wA := wA_in (zt_6 _ (List.mem_of_getElem? (i := 203) rfl)) rfl
set_option maxRecDepth 20000 in
theorem mw_340 : Cond.fieldLink "RootAlgebraModel" 126 "RootAlgebraModel" "given" "[J" ∈ wA := wA_in (zt_6 _ (List.mem_of_getElem? (i := 210) rfl)) rfl
set_option maxRecDepth 20000 in
theorem mw_341 : Cond.fieldLink "RootAlgebraModel" 129 "RootAlgebraModel" "sign" "[I" ∈ wA := wA_in (zt_6 _ (List.mem_of_getElem? (i := 212) rfl)) rfl
set_option maxRecDepth 20000 in
theorem mw_342 : Cond.fieldLink "RootAlgebraModel" 132 "RootAlgebraModel" "brings" "[J" ∈ wA := wA_in (zt_6 _ (List.mem_of_getElem? (i := 213) rfl)) rfl
set_option maxRecDepth 20000 in
theorem mw_343 : Cond.fieldLink "RootAlgebraModel" 135 "RootAlgebraModel" "coefficient" "[J" ∈ wA := wA_in (zt_6 _ (List.mem_of_getElem? (i := 215) rfl)) rfl
set_option maxRecDepth 20000 in
theorem mw_344 : Cond.fieldLink "RootAlgebraModel" 138 "RootAlgebraModel" "coefficientMany" "[I" ∈ wA := wA_in (zt_6 _ (List.mem_of_getElem? (i := 216) rfl)) rfl
set_option maxRecDepth 20000 in
theorem mw_345 : Cond.fieldLink "RootAlgebraModel" 141 "RootAlgebraModel" "waiting" "[I" ∈ wA := wA_in (zt_6 _ (List.mem_of_getElem? (i := 222) rfl)) rfl
set_option maxRecDepth 20000 in
theorem mw_346 : Cond.fieldLink "RootAlgebraModel" 144 "RootAlgebraModel" "waitingWith" "[J" ∈ wA := wA_in (zt_6 _ (List.mem_of_getElem? (i := 223) rfl)) rfl
set_option maxRecDepth 20000 in
theorem mw_347 : Cond.code y_Md_number b_Md_number 4 none ∈ wA := wA_in (zt_6 _ (List.mem_of_getElem? (i := 154) rfl)) rfl
set_option maxRecDepth 20000 in
theorem mw_348 : Cond.initialized "RootAlgebraModel" ∈ wA := wA_in (zt_1 _ (List.mem_of_getElem? (i := 13) rfl)) rfl
set_option maxRecDepth 20000 in
theorem mw_349 : Cond.methodLink "RootAlgebraModel" 147 y_Md_number ∈ wA := wA_in (zt_6 _ (List.mem_of_getElem? (i := 151) rfl)) rfl
set_option maxRecDepth 20000 in
theorem mw_350 : Cond.instanceMethod y_Md_number ∈ wA := wA_in (zt_6 _ (List.mem_of_getElem? (i := 153) rfl)) rfl
theorem mw_351 : Cond.selects "RootAlgebraModel" y_Md_number y_Md_number ∈ wA := wA_in (List.mem_append_left _ (by decide +kernel)) rfl
set_option maxRecDepth 20000 in
theorem mw_352 : Cond.code y_Md_seats b_Md_seats 1 none ∈ wA := wA_in (zt_6 _ (List.mem_of_getElem? (i := 158) rfl)) rfl
set_option maxRecDepth 20000 in
theorem mw_353 : Cond.methodLink "RootAlgebraModel" 151 y_Md_seats ∈ wA := wA_in (zt_6 _ (List.mem_of_getElem? (i := 155) rfl)) rfl
set_option maxRecDepth 20000 in
theorem mw_354 : Cond.instanceMethod y_Md_seats ∈ wA := wA_in (zt_6 _ (List.mem_of_getElem? (i := 157) rfl)) rfl
theorem mw_355 : Cond.selects "RootAlgebraModel" y_Md_seats y_Md_seats ∈ wA := wA_in (List.mem_append_left _ (by decide +kernel)) rfl
set_option maxRecDepth 20000 in
theorem mw_356 : Cond.fieldLink "RootAlgebraModel" 154 "RootAlgebraModel" "thrown" "I" ∈ wA := wA_in (zt_6 _ (List.mem_of_getElem? (i := 159) rfl)) rfl
set_option maxRecDepth 20000 in
theorem mw_357 : Cond.constantLong "RootAlgebraModel" 592 16 ∈ wA := wA_in (zt_9 _ (List.mem_of_getElem? (i := 78) rfl)) rfl
set_option maxRecDepth 20000 in
theorem mw_358 : Cond.code y_Md_in b_Md_in 6 (some .boolean) ∈ wA := wA_in (zt_7 _ (List.mem_of_getElem? (i := 135) rfl)) rfl
set_option maxRecDepth 20000 in
theorem mw_359 : Cond.methodLink "RootAlgebraModel" 446 y_Md_in ∈ wA := wA_in (zt_7 _ (List.mem_of_getElem? (i := 133) rfl)) rfl
set_option maxRecDepth 20000 in
theorem mw_360 : Cond.static y_Md_in ∈ wA := wA_in (zt_7 _ (List.mem_of_getElem? (i := 134) rfl)) rfl
set_option maxRecDepth 20000 in
theorem mw_361 : Cond.code y_Md_isName b_Md_isName 1 (some .boolean) ∈ wA := wA_in (zt_9 _ (List.mem_of_getElem? (i := 77) rfl)) rfl
set_option maxRecDepth 20000 in
theorem mw_362 : Cond.methodLink "RootAlgebraModel" 594 y_Md_isName ∈ wA := wA_in (zt_9 _ (List.mem_of_getElem? (i := 75) rfl)) rfl
set_option maxRecDepth 20000 in
theorem mw_363 : Cond.static y_Md_isName ∈ wA := wA_in (zt_9 _ (List.mem_of_getElem? (i := 76) rfl)) rfl
set_option maxRecDepth 20000 in
theorem mw_364 : Cond.code y_Md_fails b_Md_fails 3 (some .boolean) ∈ wA := wA_in (zt_9 _ (List.mem_of_getElem? (i := 64) rfl)) rfl
set_option maxRecDepth 20000 in
theorem mw_365 : Cond.methodLink "RootAlgebraModel" 581 y_Md_fails ∈ wA := wA_in (zt_9 _ (List.mem_of_getElem? (i := 61) rfl)) rfl
set_option maxRecDepth 20000 in
theorem mw_366 : Cond.instanceMethod y_Md_fails ∈ wA := wA_in (zt_9 _ (List.mem_of_getElem? (i := 63) rfl)) rfl
theorem mw_367 : Cond.selects "RootAlgebraModel" y_Md_fails y_Md_fails ∈ wA := wA_in (List.mem_append_left _ (by decide +kernel)) rfl
set_option maxRecDepth 20000 in
theorem mw_368 : Cond.code y_Md_bars b_Md_bars 2 (some .boolean) ∈ wA := wA_in (zt_9 _ (List.mem_of_getElem? (i := 86) rfl)) rfl
set_option maxRecDepth 20000 in
theorem mw_369 : Cond.methodLink "RootAlgebraModel" 597 y_Md_bars ∈ wA := wA_in (zt_9 _ (List.mem_of_getElem? (i := 83) rfl)) rfl
set_option maxRecDepth 20000 in
theorem mw_370 : Cond.instanceMethod y_Md_bars ∈ wA := wA_in (zt_9 _ (List.mem_of_getElem? (i := 85) rfl)) rfl
theorem mw_371 : Cond.selects "RootAlgebraModel" y_Md_bars y_Md_bars ∈ wA := wA_in (List.mem_append_left _ (by decide +kernel)) rfl
set_option maxRecDepth 20000 in
theorem mw_372 : Cond.constantLong "RootAlgebraModel" 611 15 ∈ wA := wA_in (zt_9 _ (List.mem_of_getElem? (i := 128) rfl)) rfl
set_option maxRecDepth 20000 in
theorem mw_373 : Cond.fieldLink "RootAlgebraModel" 589 "RootAlgebraModel" "written" "I" ∈ wA := wA_in (zt_6 _ (List.mem_of_getElem? (i := 163) rfl)) rfl
set_option maxRecDepth 20000 in
theorem mw_374 : Cond.constantLong "RootAlgebraModel" 587 4 ∈ wA := wA_in (zt_9 _ (List.mem_of_getElem? (i := 70) rfl)) rfl
set_option maxRecDepth 20000 in
theorem mw_375 : Cond.fieldLink "RootAlgebraModel" 484 "RootAlgebraModel" "taped" "I" ∈ wA := wA_in (zt_6 _ (List.mem_of_getElem? (i := 161) rfl)) rfl
set_option maxRecDepth 20000 in
theorem mw_376 : Cond.fieldLink "RootAlgebraModel" 576 "RootAlgebraModel" "done" "I" ∈ wA := wA_in (zt_6 _ (List.mem_of_getElem? (i := 165) rfl)) rfl
set_option maxRecDepth 20000 in
theorem mw_377 : Cond.constantLong "RootAlgebraModel" 579 8 ∈ wA := wA_in (zt_9 _ (List.mem_of_getElem? (i := 60) rfl)) rfl
set_option maxRecDepth 20000 in
theorem mw_378 : Cond.constantLong "RootAlgebraModel" 585 255 ∈ wA := wA_in (zt_9 _ (List.mem_of_getElem? (i := 65) rfl)) rfl
set_option maxRecDepth 20000 in
theorem mw_379 : Cond.fieldLink "RootAlgebraModel" 481 "RootAlgebraModel" "at" "I" ∈ wA := wA_in (zt_6 _ (List.mem_of_getElem? (i := 218) rfl)) rfl
set_option maxRecDepth 20000 in
theorem mw_380 : Cond.constantLong "RootAlgebraModel" 493 48 ∈ wA := wA_in (zt_7 _ (List.mem_of_getElem? (i := 140) rfl)) rfl
set_option maxRecDepth 20000 in
theorem mw_381 : Cond.constantLong "RootAlgebraModel" 495 57 ∈ wA := wA_in (zt_7 _ (List.mem_of_getElem? (i := 141) rfl)) rfl
set_option maxRecDepth 20000 in
theorem mw_382 : Cond.constantLong "RootAlgebraModel" 510 97 ∈ wA := wA_in (zt_7 _ (List.mem_of_getElem? (i := 131) rfl)) rfl
set_option maxRecDepth 20000 in
theorem mw_383 : Cond.constantLong "RootAlgebraModel" 512 112 ∈ wA := wA_in (zt_7 _ (List.mem_of_getElem? (i := 132) rfl)) rfl
set_option maxRecDepth 20000 in
theorem mw_384 : Cond.fieldLink "RootAlgebraModel" 487 "RootAlgebraModel" "signs" "I" ∈ wA := wA_in (zt_6 _ (List.mem_of_getElem? (i := 211) rfl)) rfl
set_option maxRecDepth 20000 in
theorem mw_385 : Cond.fieldLink "RootAlgebraModel" 501 "RootAlgebraModel" "coefficients" "I" ∈ wA := wA_in (zt_6 _ (List.mem_of_getElem? (i := 214) rfl)) rfl
set_option maxRecDepth 20000 in
theorem mw_386 : Cond.fieldLink "RootAlgebraModel" 504 "RootAlgebraModel" "target" "I" ∈ wA := wA_in (zt_6 _ (List.mem_of_getElem? (i := 217) rfl)) rfl
set_option maxRecDepth 20000 in
theorem mw_387 : Cond.fieldLink "RootAlgebraModel" 507 "RootAlgebraModel" "open" "I" ∈ wA := wA_in (zt_6 _ (List.mem_of_getElem? (i := 219) rfl)) rfl
set_option maxRecDepth 20000 in
theorem mw_388 : Cond.code y_Md_peek b_Md_peek 1 (some .int) ∈ wA := wA_in (zt_7 _ (List.mem_of_getElem? (i := 130) rfl)) rfl
set_option maxRecDepth 20000 in
theorem mw_389 : Cond.methodLink "RootAlgebraModel" 490 y_Md_peek ∈ wA := wA_in (zt_7 _ (List.mem_of_getElem? (i := 127) rfl)) rfl
set_option maxRecDepth 20000 in
theorem mw_390 : Cond.instanceMethod y_Md_peek ∈ wA := wA_in (zt_7 _ (List.mem_of_getElem? (i := 129) rfl)) rfl
theorem mw_391 : Cond.selects "RootAlgebraModel" y_Md_peek y_Md_peek ∈ wA := wA_in (List.mem_append_left _ (by decide +kernel)) rfl
set_option maxRecDepth 20000 in
theorem mw_392 : Cond.code y_Md_opens b_Md_opens 4 (some .boolean) ∈ wA := wA_in (zt_7 _ (List.mem_of_getElem? (i := 139) rfl)) rfl
set_option maxRecDepth 20000 in
theorem mw_393 : Cond.methodLink "RootAlgebraModel" 514 y_Md_opens ∈ wA := wA_in (zt_7 _ (List.mem_of_getElem? (i := 136) rfl)) rfl
set_option maxRecDepth 20000 in
theorem mw_394 : Cond.instanceMethod y_Md_opens ∈ wA := wA_in (zt_7 _ (List.mem_of_getElem? (i := 138) rfl)) rfl
theorem mw_395 : Cond.selects "RootAlgebraModel" y_Md_opens y_Md_opens ∈ wA := wA_in (List.mem_append_left _ (by decide +kernel)) rfl
set_option maxRecDepth 20000 in
theorem mw_396 : Cond.code y_Md_isLine b_Md_isLine 4 (some .boolean) ∈ wA := wA_in (zt_7 _ (List.mem_of_getElem? (i := 126) rfl)) rfl
set_option maxRecDepth 20000 in
theorem mw_397 : Cond.methodLink "RootAlgebraModel" 570 y_Md_isLine ∈ wA := wA_in (zt_7 _ (List.mem_of_getElem? (i := 123) rfl)) rfl
set_option maxRecDepth 20000 in
theorem mw_398 : Cond.instanceMethod y_Md_isLine ∈ wA := wA_in (zt_7 _ (List.mem_of_getElem? (i := 125) rfl)) rfl
theorem mw_399 : Cond.selects "RootAlgebraModel" y_Md_isLine y_Md_isLine ∈ wA := wA_in (List.mem_append_left _ (by decide +kernel)) rfl
set_option maxRecDepth 20000 in
theorem mw_400 : Cond.code y_Md_against b_Md_against 6 (some .int) ∈ wA := wA_in (zt_9 _ (List.mem_of_getElem? (i := 12) rfl)) rfl
set_option maxRecDepth 20000 in
theorem mw_401 : Cond.methodLink "RootAlgebraModel" 475 y_Md_against ∈ wA := wA_in (zt_9 _ (List.mem_of_getElem? (i := 9) rfl)) rfl
set_option maxRecDepth 20000 in
theorem mw_402 : Cond.instanceMethod y_Md_against ∈ wA := wA_in (zt_9 _ (List.mem_of_getElem? (i := 11) rfl)) rfl
theorem mw_403 : Cond.selects "RootAlgebraModel" y_Md_against y_Md_against ∈ wA := wA_in (List.mem_append_left _ (by decide +kernel)) rfl
set_option maxRecDepth 20000 in
theorem mw_404 : Cond.constantLong "RootAlgebraModel" 157 268435455 ∈ wA := wA_in (zt_7 _ (List.mem_of_getElem? (i := 183) rfl)) rfl
set_option maxRecDepth 20000 in
theorem mw_405 : Cond.code y_Md_fix b_Md_fix 2 none ∈ wA := wA_in (zt_7 _ (List.mem_of_getElem? (i := 187) rfl)) rfl
set_option maxRecDepth 20000 in
theorem mw_406 : Cond.methodLink "RootAlgebraModel" 159 y_Md_fix ∈ wA := wA_in (zt_7 _ (List.mem_of_getElem? (i := 184) rfl)) rfl
set_option maxRecDepth 20000 in
theorem mw_407 : Cond.instanceMethod y_Md_fix ∈ wA := wA_in (zt_7 _ (List.mem_of_getElem? (i := 186) rfl)) rfl
theorem mw_408 : Cond.selects "RootAlgebraModel" y_Md_fix y_Md_fix ∈ wA := wA_in (List.mem_append_left _ (by decide +kernel)) rfl
set_option maxRecDepth 20000 in
theorem mw_409 : Cond.code y_Md_lands b_Md_lands 5 none ∈ wA := wA_in (zt_7 _ (List.mem_of_getElem? (i := 199) rfl)) rfl
set_option maxRecDepth 20000 in
theorem mw_410 : Cond.methodLink "RootAlgebraModel" 171 y_Md_lands ∈ wA := wA_in (zt_7 _ (List.mem_of_getElem? (i := 196) rfl)) rfl
set_option maxRecDepth 20000 in
theorem mw_411 : Cond.instanceMethod y_Md_lands ∈ wA := wA_in (zt_7 _ (List.mem_of_getElem? (i := 198) rfl)) rfl
theorem mw_412 : Cond.selects "RootAlgebraModel" y_Md_lands y_Md_lands ∈ wA := wA_in (List.mem_append_left _ (by decide +kernel)) rfl
set_option maxRecDepth 20000 in
theorem mw_413 : Cond.constantLong "RootAlgebraModel" 182 134217728 ∈ wA := wA_in (zt_7 _ (List.mem_of_getElem? (i := 216) rfl)) rfl
set_option maxRecDepth 20000 in
theorem mw_414 : Cond.code y_Md_digit b_Md_digit 3 (some .long) ∈ wA := wA_in (zt_7 _ (List.mem_of_getElem? (i := 220) rfl)) rfl
set_option maxRecDepth 20000 in
theorem mw_415 : Cond.methodLink "RootAlgebraModel" 167 y_Md_digit ∈ wA := wA_in (zt_7 _ (List.mem_of_getElem? (i := 217) rfl)) rfl
set_option maxRecDepth 20000 in
theorem mw_416 : Cond.instanceMethod y_Md_digit ∈ wA := wA_in (zt_7 _ (List.mem_of_getElem? (i := 219) rfl)) rfl
theorem mw_417 : Cond.selects "RootAlgebraModel" y_Md_digit y_Md_digit ∈ wA := wA_in (List.mem_append_left _ (by decide +kernel)) rfl
set_option maxRecDepth 20000 in
theorem mw_418 : Cond.constantLong "RootAlgebraModel" 499 10 ∈ wA := wA_in (zt_7 _ (List.mem_of_getElem? (i := 147) rfl)) rfl
set_option maxRecDepth 20000 in
theorem mw_419 : Cond.code y_Md_put b_Md_put 7 none ∈ wA := wA_in (zt_7 _ (List.mem_of_getElem? (i := 182) rfl)) rfl
set_option maxRecDepth 20000 in
theorem mw_420 : Cond.methodLink "RootAlgebraModel" 175 y_Md_put ∈ wA := wA_in (zt_7 _ (List.mem_of_getElem? (i := 179) rfl)) rfl
set_option maxRecDepth 20000 in
theorem mw_421 : Cond.instanceMethod y_Md_put ∈ wA := wA_in (zt_7 _ (List.mem_of_getElem? (i := 181) rfl)) rfl
theorem mw_422 : Cond.selects "RootAlgebraModel" y_Md_put y_Md_put ∈ wA := wA_in (List.mem_append_left _ (by decide +kernel)) rfl
set_option maxRecDepth 20000 in
theorem mw_423 : Cond.code y_Md_divided b_Md_divided 19 none ∈ wA := wA_in (zt_7 _ (List.mem_of_getElem? (i := 215) rfl)) rfl
set_option maxRecDepth 20000 in
theorem mw_424 : Cond.methodLink "RootAlgebraModel" 188 y_Md_divided ∈ wA := wA_in (zt_7 _ (List.mem_of_getElem? (i := 212) rfl)) rfl
set_option maxRecDepth 20000 in
theorem mw_425 : Cond.instanceMethod y_Md_divided ∈ wA := wA_in (zt_7 _ (List.mem_of_getElem? (i := 214) rfl)) rfl
theorem mw_426 : Cond.selects "RootAlgebraModel" y_Md_divided y_Md_divided ∈ wA := wA_in (List.mem_append_left _ (by decide +kernel)) rfl
set_option maxRecDepth 20000 in
theorem mw_427 : Cond.code y_Md_letter b_Md_letter 2 none ∈ wA := wA_in (zt_9 _ (List.mem_of_getElem? (i := 115) rfl)) rfl
set_option maxRecDepth 20000 in
theorem mw_428 : Cond.methodLink "RootAlgebraModel" 608 y_Md_letter ∈ wA := wA_in (zt_9 _ (List.mem_of_getElem? (i := 112) rfl)) rfl
set_option maxRecDepth 20000 in
theorem mw_429 : Cond.instanceMethod y_Md_letter ∈ wA := wA_in (zt_9 _ (List.mem_of_getElem? (i := 114) rfl)) rfl
theorem mw_430 : Cond.selects "RootAlgebraModel" y_Md_letter y_Md_letter ∈ wA := wA_in (List.mem_append_left _ (by decide +kernel)) rfl
set_option maxRecDepth 20000 in
theorem mw_431 : Cond.code y_Md_says b_Md_says 6 none ∈ wA := wA_in (zt_9 _ (List.mem_of_getElem? (i := 111) rfl)) rfl
set_option maxRecDepth 20000 in
theorem mw_432 : Cond.methodLink "RootAlgebraModel" 605 y_Md_says ∈ wA := wA_in (zt_9 _ (List.mem_of_getElem? (i := 108) rfl)) rfl
set_option maxRecDepth 20000 in
theorem mw_433 : Cond.instanceMethod y_Md_says ∈ wA := wA_in (zt_9 _ (List.mem_of_getElem? (i := 110) rfl)) rfl
theorem mw_434 : Cond.selects "RootAlgebraModel" y_Md_says y_Md_says ∈ wA := wA_in (List.mem_append_left _ (by decide +kernel)) rfl
set_option maxRecDepth 20000 in
theorem mw_435 : Cond.constantLong "RootAlgebraModel" 600 30 ∈ wA := wA_in (zt_9 _ (List.mem_of_getElem? (i := 103) rfl)) rfl
set_option maxRecDepth 20000 in
theorem mw_436 : Cond.code y_Md_multiplied b_Md_multiplied 10 none ∈ wA := wA_in (zt_7 _ (List.mem_of_getElem? (i := 195) rfl)) rfl
set_option maxRecDepth 20000 in
theorem mw_437 : Cond.methodLink "RootAlgebraModel" 194 y_Md_multiplied ∈ wA := wA_in (zt_7 _ (List.mem_of_getElem? (i := 192) rfl)) rfl
set_option maxRecDepth 20000 in
theorem mw_438 : Cond.instanceMethod y_Md_multiplied ∈ wA := wA_in (zt_7 _ (List.mem_of_getElem? (i := 194) rfl)) rfl
theorem mw_439 : Cond.selects "RootAlgebraModel" y_Md_multiplied y_Md_multiplied ∈ wA := wA_in (List.mem_append_left _ (by decide +kernel)) rfl
