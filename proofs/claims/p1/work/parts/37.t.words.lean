/-! laid by program -/
theorem d_Law_coefficient_0 : decode b_Law_coefficient 0 = .ok (.aload_n 3, 1) := by decide +kernel
theorem d_Law_coefficient_1 : decode b_Law_coefficient 1 = .ok (.iconst 0, 1) := by decide +kernel
theorem d_Law_coefficient_2 : decode b_Law_coefficient 2 = .ok (.aload_n 0, 1) := by decide +kernel
theorem d_Law_coefficient_3 : decode b_Law_coefficient 3 = .ok (.iload_n 1, 1) := by decide +kernel
theorem d_Law_coefficient_4 : decode b_Law_coefficient 4 = .ok (.iload_n 2, 1) := by decide +kernel
theorem d_Law_coefficient_5 : decode b_Law_coefficient 5 = .ok (.invokevirtual 24, 3) := by decide +kernel
theorem d_Law_coefficient_8 : decode b_Law_coefficient 8 = .ok (.i2l, 1) := by decide +kernel
theorem d_Law_coefficient_9 : decode b_Law_coefficient 9 = .ok (.lastore, 1) := by decide +kernel
theorem d_Law_coefficient_10 : decode b_Law_coefficient 10 = .ok (.goto 11, 3) := by decide +kernel
theorem d_Law_coefficient_13 : decode b_Law_coefficient 13 = .ok (.astore 4, 2) := by decide +kernel
theorem d_Law_coefficient_15 : decode b_Law_coefficient 15 = .ok (.iconst 1, 1) := by decide +kernel
theorem d_Law_coefficient_16 : decode b_Law_coefficient 16 = .ok (.ireturn, 1) := by decide +kernel
theorem d_Law_coefficient_17 : decode b_Law_coefficient 17 = .ok (.astore 4, 2) := by decide +kernel
theorem d_Law_coefficient_19 : decode b_Law_coefficient 19 = .ok (.iconst 2, 1) := by decide +kernel
theorem d_Law_coefficient_20 : decode b_Law_coefficient 20 = .ok (.ireturn, 1) := by decide +kernel
theorem d_Law_coefficient_21 : decode b_Law_coefficient 21 = .ok (.iconst 0, 1) := by decide +kernel
theorem d_Law_coefficient_22 : decode b_Law_coefficient 22 = .ok (.ireturn, 1) := by decide +kernel
theorem d_Law_compare_0 : decode b_Law_compare 0 = .ok (.aload_n 3, 1) := by decide +kernel
theorem d_Law_compare_1 : decode b_Law_compare 1 = .ok (.iconst 0, 1) := by decide +kernel
theorem d_Law_compare_2 : decode b_Law_compare 2 = .ok (.aload_n 0, 1) := by decide +kernel
theorem d_Law_compare_3 : decode b_Law_compare 3 = .ok (.iload_n 1, 1) := by decide +kernel
theorem d_Law_compare_4 : decode b_Law_compare 4 = .ok (.iload_n 2, 1) := by decide +kernel
theorem d_Law_compare_5 : decode b_Law_compare 5 = .ok (.invokevirtual 36, 3) := by decide +kernel
theorem d_Law_compare_8 : decode b_Law_compare 8 = .ok (.i2l, 1) := by decide +kernel
theorem d_Law_compare_9 : decode b_Law_compare 9 = .ok (.lastore, 1) := by decide +kernel
theorem d_Law_compare_10 : decode b_Law_compare 10 = .ok (.goto 11, 3) := by decide +kernel
theorem d_Law_compare_13 : decode b_Law_compare 13 = .ok (.astore 4, 2) := by decide +kernel
theorem d_Law_compare_15 : decode b_Law_compare 15 = .ok (.iconst 1, 1) := by decide +kernel
theorem d_Law_compare_16 : decode b_Law_compare 16 = .ok (.ireturn, 1) := by decide +kernel
theorem d_Law_compare_17 : decode b_Law_compare 17 = .ok (.astore 4, 2) := by decide +kernel
theorem d_Law_compare_19 : decode b_Law_compare 19 = .ok (.iconst 2, 1) := by decide +kernel
theorem d_Law_compare_20 : decode b_Law_compare 20 = .ok (.ireturn, 1) := by decide +kernel
theorem d_Law_compare_21 : decode b_Law_compare 21 = .ok (.iconst 0, 1) := by decide +kernel
theorem d_Law_compare_22 : decode b_Law_compare 22 = .ok (.ireturn, 1) := by decide +kernel
theorem d_Law_degree_0 : decode b_Law_degree 0 = .ok (.aload_n 2, 1) := by decide +kernel
theorem d_Law_degree_1 : decode b_Law_degree 1 = .ok (.iconst 0, 1) := by decide +kernel
theorem d_Law_degree_2 : decode b_Law_degree 2 = .ok (.aload_n 0, 1) := by decide +kernel
theorem d_Law_degree_3 : decode b_Law_degree 3 = .ok (.iload_n 1, 1) := by decide +kernel
theorem d_Law_degree_4 : decode b_Law_degree 4 = .ok (.invokevirtual 21, 3) := by decide +kernel
theorem d_Law_degree_7 : decode b_Law_degree 7 = .ok (.i2l, 1) := by decide +kernel
theorem d_Law_degree_8 : decode b_Law_degree 8 = .ok (.lastore, 1) := by decide +kernel
theorem d_Law_degree_9 : decode b_Law_degree 9 = .ok (.goto 6, 3) := by decide +kernel
theorem d_Law_degree_12 : decode b_Law_degree 12 = .ok (.astore_n 3, 1) := by decide +kernel
theorem d_Law_degree_13 : decode b_Law_degree 13 = .ok (.iconst 1, 1) := by decide +kernel
theorem d_Law_degree_14 : decode b_Law_degree 14 = .ok (.ireturn, 1) := by decide +kernel
theorem d_Law_degree_15 : decode b_Law_degree 15 = .ok (.iconst 0, 1) := by decide +kernel
theorem d_Law_degree_16 : decode b_Law_degree 16 = .ok (.ireturn, 1) := by decide +kernel
theorem d_Law_drop_0 : decode b_Law_drop 0 = .ok (.aload_n 2, 1) := by decide +kernel
theorem d_Law_drop_1 : decode b_Law_drop 1 = .ok (.iconst 0, 1) := by decide +kernel
theorem d_Law_drop_2 : decode b_Law_drop 2 = .ok (.aload_n 0, 1) := by decide +kernel
theorem d_Law_drop_3 : decode b_Law_drop 3 = .ok (.iload_n 1, 1) := by decide +kernel
theorem d_Law_drop_4 : decode b_Law_drop 4 = .ok (.invokevirtual 49, 3) := by decide +kernel
theorem d_Law_drop_7 : decode b_Law_drop 7 = .ok (.ifCond .eq 7, 3) := by decide +kernel
theorem d_Law_drop_14 : decode b_Law_drop 14 = .ok (.lconst 0, 1) := by decide +kernel
theorem d_Law_drop_15 : decode b_Law_drop 15 = .ok (.lastore, 1) := by decide +kernel
theorem d_Law_drop_16 : decode b_Law_drop 16 = .ok (.goto 6, 3) := by decide +kernel
theorem d_Law_drop_19 : decode b_Law_drop 19 = .ok (.astore_n 3, 1) := by decide +kernel
theorem d_Law_drop_20 : decode b_Law_drop 20 = .ok (.iconst 1, 1) := by decide +kernel
theorem d_Law_drop_21 : decode b_Law_drop 21 = .ok (.ireturn, 1) := by decide +kernel
theorem d_Law_drop_22 : decode b_Law_drop 22 = .ok (.iconst 0, 1) := by decide +kernel
theorem d_Law_drop_23 : decode b_Law_drop 23 = .ok (.ireturn, 1) := by decide +kernel
theorem d_Law_feed_0 : decode b_Law_feed 0 = .ok (.aload 4, 2) := by decide +kernel
theorem d_Law_feed_2 : decode b_Law_feed 2 = .ok (.iconst 0, 1) := by decide +kernel
theorem d_Law_feed_3 : decode b_Law_feed 3 = .ok (.aload_n 0, 1) := by decide +kernel
theorem d_Law_feed_4 : decode b_Law_feed 4 = .ok (.iload_n 1, 1) := by decide +kernel
theorem d_Law_feed_5 : decode b_Law_feed 5 = .ok (.lload_n 2, 1) := by decide +kernel
theorem d_Law_feed_6 : decode b_Law_feed 6 = .ok (.invokevirtual 7, 3) := by decide +kernel
theorem d_Law_feed_9 : decode b_Law_feed 9 = .ok (.i2l, 1) := by decide +kernel
theorem d_Law_feed_10 : decode b_Law_feed 10 = .ok (.lastore, 1) := by decide +kernel
theorem d_Law_feed_11 : decode b_Law_feed 11 = .ok (.goto 11, 3) := by decide +kernel
theorem d_Law_feed_14 : decode b_Law_feed 14 = .ok (.astore 5, 2) := by decide +kernel
theorem d_Law_feed_16 : decode b_Law_feed 16 = .ok (.iconst 1, 1) := by decide +kernel
theorem d_Law_feed_17 : decode b_Law_feed 17 = .ok (.ireturn, 1) := by decide +kernel
theorem d_Law_feed_22 : decode b_Law_feed 22 = .ok (.iconst 0, 1) := by decide +kernel
theorem d_Law_feed_23 : decode b_Law_feed 23 = .ok (.ireturn, 1) := by decide +kernel
theorem d_Law_floor_0 : decode b_Law_floor 0 = .ok (.aload_n 3, 1) := by decide +kernel
theorem d_Law_floor_1 : decode b_Law_floor 1 = .ok (.iconst 0, 1) := by decide +kernel
theorem d_Law_floor_2 : decode b_Law_floor 2 = .ok (.aload_n 0, 1) := by decide +kernel
theorem d_Law_floor_3 : decode b_Law_floor 3 = .ok (.iload_n 1, 1) := by decide +kernel
theorem d_Law_floor_4 : decode b_Law_floor 4 = .ok (.iload_n 2, 1) := by decide +kernel
theorem d_Law_floor_5 : decode b_Law_floor 5 = .ok (.invokevirtual 39, 3) := by decide +kernel
theorem d_Law_floor_8 : decode b_Law_floor 8 = .ok (.i2l, 1) := by decide +kernel
theorem d_Law_floor_9 : decode b_Law_floor 9 = .ok (.lastore, 1) := by decide +kernel
theorem d_Law_floor_10 : decode b_Law_floor 10 = .ok (.goto 11, 3) := by decide +kernel
theorem d_Law_floor_13 : decode b_Law_floor 13 = .ok (.astore 4, 2) := by decide +kernel
theorem d_Law_floor_15 : decode b_Law_floor 15 = .ok (.iconst 1, 1) := by decide +kernel
theorem d_Law_floor_16 : decode b_Law_floor 16 = .ok (.ireturn, 1) := by decide +kernel
theorem d_Law_floor_17 : decode b_Law_floor 17 = .ok (.astore 4, 2) := by decide +kernel
theorem d_Law_floor_19 : decode b_Law_floor 19 = .ok (.iconst 2, 1) := by decide +kernel
theorem d_Law_floor_20 : decode b_Law_floor 20 = .ok (.ireturn, 1) := by decide +kernel
theorem d_Law_floor_21 : decode b_Law_floor 21 = .ok (.iconst 0, 1) := by decide +kernel
theorem d_Law_floor_22 : decode b_Law_floor 22 = .ok (.ireturn, 1) := by decide +kernel
theorem d_Law_index_0 : decode b_Law_index 0 = .ok (.aload_n 2, 1) := by decide +kernel
theorem d_Law_index_1 : decode b_Law_index 1 = .ok (.iconst 0, 1) := by decide +kernel
theorem d_Law_index_2 : decode b_Law_index 2 = .ok (.aload_n 0, 1) := by decide +kernel
theorem d_Law_index_3 : decode b_Law_index 3 = .ok (.iload_n 1, 1) := by decide +kernel
theorem d_Law_index_4 : decode b_Law_index 4 = .ok (.invokevirtual 30, 3) := by decide +kernel
theorem d_Law_index_7 : decode b_Law_index 7 = .ok (.i2l, 1) := by decide +kernel
theorem d_Law_index_8 : decode b_Law_index 8 = .ok (.lastore, 1) := by decide +kernel
theorem d_Law_index_9 : decode b_Law_index 9 = .ok (.goto 9, 3) := by decide +kernel
theorem d_Law_index_12 : decode b_Law_index 12 = .ok (.astore_n 3, 1) := by decide +kernel
theorem d_Law_index_13 : decode b_Law_index 13 = .ok (.iconst 1, 1) := by decide +kernel
theorem d_Law_index_14 : decode b_Law_index 14 = .ok (.ireturn, 1) := by decide +kernel
theorem d_Law_index_15 : decode b_Law_index 15 = .ok (.astore_n 3, 1) := by decide +kernel
theorem d_Law_index_16 : decode b_Law_index 16 = .ok (.iconst 2, 1) := by decide +kernel
theorem d_Law_index_17 : decode b_Law_index 17 = .ok (.ireturn, 1) := by decide +kernel
theorem d_Law_index_18 : decode b_Law_index 18 = .ok (.iconst 0, 1) := by decide +kernel
theorem d_Law_index_19 : decode b_Law_index 19 = .ok (.ireturn, 1) := by decide +kernel
theorem d_Law_look_0 : decode b_Law_look 0 = .ok (.aload_n 2, 1) := by decide +kernel
theorem d_Law_look_1 : decode b_Law_look 1 = .ok (.iconst 0, 1) := by decide +kernel
theorem d_Law_look_2 : decode b_Law_look 2 = .ok (.aload_n 0, 1) := by decide +kernel
theorem d_Law_look_3 : decode b_Law_look 3 = .ok (.iload_n 1, 1) := by decide +kernel
theorem d_Law_look_4 : decode b_Law_look 4 = .ok (.invokevirtual 17, 3) := by decide +kernel
theorem d_Law_look_7 : decode b_Law_look 7 = .ok (.i2l, 1) := by decide +kernel
theorem d_Law_look_8 : decode b_Law_look 8 = .ok (.lastore, 1) := by decide +kernel
theorem d_Law_look_9 : decode b_Law_look 9 = .ok (.goto 6, 3) := by decide +kernel
theorem d_Law_look_12 : decode b_Law_look 12 = .ok (.astore_n 3, 1) := by decide +kernel
theorem d_Law_look_13 : decode b_Law_look 13 = .ok (.iconst 1, 1) := by decide +kernel
theorem d_Law_look_14 : decode b_Law_look 14 = .ok (.ireturn, 1) := by decide +kernel
theorem d_Law_look_15 : decode b_Law_look 15 = .ok (.iconst 0, 1) := by decide +kernel
theorem d_Law_look_16 : decode b_Law_look 16 = .ok (.ireturn, 1) := by decide +kernel
theorem d_Law_out_0 : decode b_Law_out 0 = .ok (.aload_n 2, 1) := by decide +kernel
theorem d_Law_out_1 : decode b_Law_out 1 = .ok (.iconst 0, 1) := by decide +kernel
theorem d_Law_out_2 : decode b_Law_out 2 = .ok (.aload_n 0, 1) := by decide +kernel
theorem d_Law_out_3 : decode b_Law_out 3 = .ok (.iload_n 1, 1) := by decide +kernel
theorem d_Law_out_4 : decode b_Law_out 4 = .ok (.invokevirtual 45, 3) := by decide +kernel
theorem d_Law_out_11 : decode b_Law_out 11 = .ok (.astore_n 3, 1) := by decide +kernel
theorem d_Law_out_12 : decode b_Law_out 12 = .ok (.iconst 1, 1) := by decide +kernel
theorem d_Law_out_13 : decode b_Law_out 13 = .ok (.ireturn, 1) := by decide +kernel
theorem d_Law_roots_0 : decode b_Law_roots 0 = .ok (.aload_n 2, 1) := by decide +kernel
theorem d_Law_roots_1 : decode b_Law_roots 1 = .ok (.iconst 0, 1) := by decide +kernel
theorem d_Law_roots_2 : decode b_Law_roots 2 = .ok (.aload_n 0, 1) := by decide +kernel
theorem d_Law_roots_3 : decode b_Law_roots 3 = .ok (.iload_n 1, 1) := by decide +kernel
theorem d_Law_roots_4 : decode b_Law_roots 4 = .ok (.invokevirtual 33, 3) := by decide +kernel
theorem d_Law_roots_7 : decode b_Law_roots 7 = .ok (.i2l, 1) := by decide +kernel
theorem d_Law_roots_8 : decode b_Law_roots 8 = .ok (.lastore, 1) := by decide +kernel
theorem d_Law_roots_9 : decode b_Law_roots 9 = .ok (.goto 9, 3) := by decide +kernel
theorem d_Law_roots_12 : decode b_Law_roots 12 = .ok (.astore_n 3, 1) := by decide +kernel
theorem d_Law_roots_13 : decode b_Law_roots 13 = .ok (.iconst 1, 1) := by decide +kernel
theorem d_Law_roots_14 : decode b_Law_roots 14 = .ok (.ireturn, 1) := by decide +kernel
theorem d_Law_roots_15 : decode b_Law_roots 15 = .ok (.astore_n 3, 1) := by decide +kernel
theorem d_Law_roots_16 : decode b_Law_roots 16 = .ok (.iconst 2, 1) := by decide +kernel
theorem d_Law_roots_17 : decode b_Law_roots 17 = .ok (.ireturn, 1) := by decide +kernel
theorem d_Law_roots_18 : decode b_Law_roots 18 = .ok (.iconst 0, 1) := by decide +kernel
theorem d_Law_roots_19 : decode b_Law_roots 19 = .ok (.ireturn, 1) := by decide +kernel
theorem d_Law_write_0 : decode b_Law_write 0 = .ok (.aload_n 2, 1) := by decide +kernel
theorem d_Law_write_1 : decode b_Law_write 1 = .ok (.iconst 0, 1) := by decide +kernel
theorem d_Law_write_2 : decode b_Law_write 2 = .ok (.aload_n 0, 1) := by decide +kernel
theorem d_Law_write_3 : decode b_Law_write 3 = .ok (.iload_n 1, 1) := by decide +kernel
theorem d_Law_write_4 : decode b_Law_write 4 = .ok (.invokevirtual 42, 3) := by decide +kernel
theorem d_Law_write_7 : decode b_Law_write 7 = .ok (.i2l, 1) := by decide +kernel
theorem d_Law_write_8 : decode b_Law_write 8 = .ok (.lastore, 1) := by decide +kernel
theorem d_Law_write_9 : decode b_Law_write 9 = .ok (.goto 9, 3) := by decide +kernel
theorem d_Law_write_12 : decode b_Law_write 12 = .ok (.astore_n 3, 1) := by decide +kernel
theorem d_Law_write_13 : decode b_Law_write 13 = .ok (.iconst 1, 1) := by decide +kernel
theorem d_Law_write_14 : decode b_Law_write 14 = .ok (.ireturn, 1) := by decide +kernel
theorem d_Law_write_15 : decode b_Law_write 15 = .ok (.astore_n 3, 1) := by decide +kernel
theorem d_Law_write_16 : decode b_Law_write 16 = .ok (.iconst 2, 1) := by decide +kernel
theorem d_Law_write_17 : decode b_Law_write 17 = .ok (.ireturn, 1) := by decide +kernel
theorem d_Law_write_18 : decode b_Law_write 18 = .ok (.iconst 0, 1) := by decide +kernel
theorem d_Law_write_19 : decode b_Law_write 19 = .ok (.ireturn, 1) := by decide +kernel
set_option maxRecDepth 20000 in
theorem mw_444 : Cond.code y_RA_feed b_RA_feed 5 (some .int) ∈ wA := wA_in (zt_5 _ (List.mem_of_getElem? (i := 189) rfl)) rfl
set_option maxRecDepth 20000 in
theorem mw_445 : Cond.methodLink "RootAlgebraLaw" 7 y_RA_feed ∈ wA := wA_in (zt_5 _ (List.mem_of_getElem? (i := 186) rfl)) rfl
set_option maxRecDepth 20000 in
theorem mw_446 : Cond.instanceMethod y_RA_feed ∈ wA := wA_in (zt_5 _ (List.mem_of_getElem? (i := 187) rfl)) rfl
set_option maxRecDepth 20000 in
theorem mw_447 : Cond.selects "RootAlgebra" y_RA_feed y_RA_feed ∈ wA := wA_in (zt_5 _ (List.mem_of_getElem? (i := 188) rfl)) rfl
set_option maxRecDepth 20000 in
theorem mw_448 : Cond.classLink "RootAlgebraLaw" 13 "java/lang/IllegalArgumentException" ∈ wA := wA_in (zt_5 _ (List.mem_of_getElem? (i := 184) rfl)) rfl
set_option maxRecDepth 20000 in
theorem mw_449 : Cond.code y_RA_look b_RA_look 2 (some .int) ∈ wA := wA_in (zt_6 _ (List.mem_of_getElem? (i := 34) rfl)) rfl
set_option maxRecDepth 20000 in
theorem mw_450 : Cond.methodLink "RootAlgebraLaw" 17 y_RA_look ∈ wA := wA_in (zt_6 _ (List.mem_of_getElem? (i := 31) rfl)) rfl
set_option maxRecDepth 20000 in
theorem mw_451 : Cond.instanceMethod y_RA_look ∈ wA := wA_in (zt_6 _ (List.mem_of_getElem? (i := 32) rfl)) rfl
set_option maxRecDepth 20000 in
theorem mw_452 : Cond.selects "RootAlgebra" y_RA_look y_RA_look ∈ wA := wA_in (zt_6 _ (List.mem_of_getElem? (i := 33) rfl)) rfl
set_option maxRecDepth 20000 in
theorem mw_453 : Cond.code y_RA_degree b_RA_degree 2 (some .int) ∈ wA := wA_in (zt_6 _ (List.mem_of_getElem? (i := 45) rfl)) rfl
set_option maxRecDepth 20000 in
theorem mw_454 : Cond.methodLink "RootAlgebraLaw" 21 y_RA_degree ∈ wA := wA_in (zt_6 _ (List.mem_of_getElem? (i := 42) rfl)) rfl
set_option maxRecDepth 20000 in
theorem mw_455 : Cond.instanceMethod y_RA_degree ∈ wA := wA_in (zt_6 _ (List.mem_of_getElem? (i := 43) rfl)) rfl
set_option maxRecDepth 20000 in
theorem mw_456 : Cond.selects "RootAlgebra" y_RA_degree y_RA_degree ∈ wA := wA_in (zt_6 _ (List.mem_of_getElem? (i := 44) rfl)) rfl
set_option maxRecDepth 20000 in
theorem mw_457 : Cond.code y_RA_coefficient b_RA_coefficient 4 (some .int) ∈ wA := wA_in (zt_6 _ (List.mem_of_getElem? (i := 57) rfl)) rfl
set_option maxRecDepth 20000 in
theorem mw_458 : Cond.methodLink "RootAlgebraLaw" 24 y_RA_coefficient ∈ wA := wA_in (zt_6 _ (List.mem_of_getElem? (i := 54) rfl)) rfl
set_option maxRecDepth 20000 in
theorem mw_459 : Cond.instanceMethod y_RA_coefficient ∈ wA := wA_in (zt_6 _ (List.mem_of_getElem? (i := 55) rfl)) rfl
set_option maxRecDepth 20000 in
theorem mw_460 : Cond.selects "RootAlgebra" y_RA_coefficient y_RA_coefficient ∈ wA := wA_in (zt_6 _ (List.mem_of_getElem? (i := 56) rfl)) rfl
set_option maxRecDepth 20000 in
theorem mw_461 : Cond.classLink "RootAlgebraLaw" 28 "java/util/NoSuchElementException" ∈ wA := wA_in (zt_6 _ (List.mem_of_getElem? (i := 53) rfl)) rfl
set_option maxRecDepth 20000 in
theorem mw_462 : Cond.code y_RA_index b_RA_index 2 (some .int) ∈ wA := wA_in (zt_6 _ (List.mem_of_getElem? (i := 79) rfl)) rfl
set_option maxRecDepth 20000 in
theorem mw_463 : Cond.methodLink "RootAlgebraLaw" 30 y_RA_index ∈ wA := wA_in (zt_6 _ (List.mem_of_getElem? (i := 76) rfl)) rfl
set_option maxRecDepth 20000 in
theorem mw_464 : Cond.instanceMethod y_RA_index ∈ wA := wA_in (zt_6 _ (List.mem_of_getElem? (i := 77) rfl)) rfl
set_option maxRecDepth 20000 in
theorem mw_465 : Cond.selects "RootAlgebra" y_RA_index y_RA_index ∈ wA := wA_in (zt_6 _ (List.mem_of_getElem? (i := 78) rfl)) rfl
set_option maxRecDepth 20000 in
theorem mw_466 : Cond.code y_RA_roots b_RA_roots 2 (some .int) ∈ wA := wA_in (zt_6 _ (List.mem_of_getElem? (i := 86) rfl)) rfl
set_option maxRecDepth 20000 in
theorem mw_467 : Cond.methodLink "RootAlgebraLaw" 33 y_RA_roots ∈ wA := wA_in (zt_6 _ (List.mem_of_getElem? (i := 83) rfl)) rfl
set_option maxRecDepth 20000 in
theorem mw_468 : Cond.instanceMethod y_RA_roots ∈ wA := wA_in (zt_6 _ (List.mem_of_getElem? (i := 84) rfl)) rfl
set_option maxRecDepth 20000 in
theorem mw_469 : Cond.selects "RootAlgebra" y_RA_roots y_RA_roots ∈ wA := wA_in (zt_6 _ (List.mem_of_getElem? (i := 85) rfl)) rfl
set_option maxRecDepth 20000 in
theorem mw_470 : Cond.code y_RA_compare b_RA_compare 3 (some .int) ∈ wA := wA_in (zt_6 _ (List.mem_of_getElem? (i := 93) rfl)) rfl
set_option maxRecDepth 20000 in
theorem mw_471 : Cond.methodLink "RootAlgebraLaw" 36 y_RA_compare ∈ wA := wA_in (zt_6 _ (List.mem_of_getElem? (i := 90) rfl)) rfl
set_option maxRecDepth 20000 in
theorem mw_472 : Cond.instanceMethod y_RA_compare ∈ wA := wA_in (zt_6 _ (List.mem_of_getElem? (i := 91) rfl)) rfl
set_option maxRecDepth 20000 in
theorem mw_473 : Cond.selects "RootAlgebra" y_RA_compare y_RA_compare ∈ wA := wA_in (zt_6 _ (List.mem_of_getElem? (i := 92) rfl)) rfl
set_option maxRecDepth 20000 in
theorem mw_474 : Cond.code y_RA_floor b_RA_floor 3 (some .int) ∈ wA := wA_in (zt_6 _ (List.mem_of_getElem? (i := 101) rfl)) rfl
set_option maxRecDepth 20000 in
theorem mw_475 : Cond.methodLink "RootAlgebraLaw" 39 y_RA_floor ∈ wA := wA_in (zt_6 _ (List.mem_of_getElem? (i := 98) rfl)) rfl
set_option maxRecDepth 20000 in
theorem mw_476 : Cond.instanceMethod y_RA_floor ∈ wA := wA_in (zt_6 _ (List.mem_of_getElem? (i := 99) rfl)) rfl
set_option maxRecDepth 20000 in
theorem mw_477 : Cond.selects "RootAlgebra" y_RA_floor y_RA_floor ∈ wA := wA_in (zt_6 _ (List.mem_of_getElem? (i := 100) rfl)) rfl
set_option maxRecDepth 20000 in
theorem mw_478 : Cond.code y_RA_write b_RA_write 4 (some .int) ∈ wA := wA_in (zt_6 _ (List.mem_of_getElem? (i := 128) rfl)) rfl
set_option maxRecDepth 20000 in
theorem mw_479 : Cond.methodLink "RootAlgebraLaw" 42 y_RA_write ∈ wA := wA_in (zt_6 _ (List.mem_of_getElem? (i := 125) rfl)) rfl
set_option maxRecDepth 20000 in
theorem mw_480 : Cond.instanceMethod y_RA_write ∈ wA := wA_in (zt_6 _ (List.mem_of_getElem? (i := 126) rfl)) rfl
set_option maxRecDepth 20000 in
theorem mw_481 : Cond.selects "RootAlgebra" y_RA_write y_RA_write ∈ wA := wA_in (zt_6 _ (List.mem_of_getElem? (i := 127) rfl)) rfl
set_option maxRecDepth 20000 in
theorem mw_482 : Cond.code y_RA_out b_RA_out 6 (some .long) ∈ wA := wA_in (zt_6 _ (List.mem_of_getElem? (i := 136) rfl)) rfl
set_option maxRecDepth 20000 in
theorem mw_483 : Cond.methodLink "RootAlgebraLaw" 45 y_RA_out ∈ wA := wA_in (zt_6 _ (List.mem_of_getElem? (i := 133) rfl)) rfl
set_option maxRecDepth 20000 in
theorem mw_484 : Cond.instanceMethod y_RA_out ∈ wA := wA_in (zt_6 _ (List.mem_of_getElem? (i := 134) rfl)) rfl
set_option maxRecDepth 20000 in
theorem mw_485 : Cond.selects "RootAlgebra" y_RA_out y_RA_out ∈ wA := wA_in (zt_6 _ (List.mem_of_getElem? (i := 135) rfl)) rfl
set_option maxRecDepth 20000 in
theorem mw_486 : Cond.code y_RA_drop b_RA_drop 3 (some .boolean) ∈ wA := wA_in (zt_6 _ (List.mem_of_getElem? (i := 143) rfl)) rfl
set_option maxRecDepth 20000 in
theorem mw_487 : Cond.methodLink "RootAlgebraLaw" 49 y_RA_drop ∈ wA := wA_in (zt_6 _ (List.mem_of_getElem? (i := 140) rfl)) rfl
set_option maxRecDepth 20000 in
theorem mw_488 : Cond.instanceMethod y_RA_drop ∈ wA := wA_in (zt_6 _ (List.mem_of_getElem? (i := 141) rfl)) rfl
set_option maxRecDepth 20000 in
theorem mw_489 : Cond.selects "RootAlgebra" y_RA_drop y_RA_drop ∈ wA := wA_in (zt_6 _ (List.mem_of_getElem? (i := 142) rfl)) rfl
theorem gc_63 : kCI "RootAlgebraLaw" 7 y_RA_feed b_RA_feed 5 (some .int) 2 := ⟨mw_444, mw_190, mw_445, by decide +kernel⟩
theorem gc_64 : kCI "RootAlgebraLaw" 17 y_RA_look b_RA_look 2 (some .int) 1 := ⟨mw_449, mw_190, mw_450, by decide +kernel⟩
theorem gc_65 : kCI "RootAlgebraLaw" 21 y_RA_degree b_RA_degree 2 (some .int) 1 := ⟨mw_453, mw_190, mw_454, by decide +kernel⟩
theorem gc_66 : kCI "RootAlgebraLaw" 24 y_RA_coefficient b_RA_coefficient 4 (some .int) 2 := ⟨mw_457, mw_190, mw_458, by decide +kernel⟩
theorem gc_67 : kCI "RootAlgebraLaw" 30 y_RA_index b_RA_index 2 (some .int) 1 := ⟨mw_462, mw_190, mw_463, by decide +kernel⟩
theorem gc_68 : kCI "RootAlgebraLaw" 33 y_RA_roots b_RA_roots 2 (some .int) 1 := ⟨mw_466, mw_190, mw_467, by decide +kernel⟩
theorem gc_69 : kCI "RootAlgebraLaw" 36 y_RA_compare b_RA_compare 3 (some .int) 2 := ⟨mw_470, mw_190, mw_471, by decide +kernel⟩
theorem gc_70 : kCI "RootAlgebraLaw" 39 y_RA_floor b_RA_floor 3 (some .int) 2 := ⟨mw_474, mw_190, mw_475, by decide +kernel⟩
theorem gc_71 : kCI "RootAlgebraLaw" 42 y_RA_write b_RA_write 4 (some .int) 1 := ⟨mw_478, mw_190, mw_479, by decide +kernel⟩
theorem gc_72 : kCI "RootAlgebraLaw" 45 y_RA_out b_RA_out 6 (some .long) 1 := ⟨mw_482, mw_190, mw_483, by decide +kernel⟩
theorem gc_73 : kCI "RootAlgebraLaw" 49 y_RA_drop b_RA_drop 3 (some .boolean) 1 := ⟨mw_486, mw_190, mw_487, by decide +kernel⟩
theorem gv_RA_coefficient : kV "RootAlgebra" y_RA_coefficient := ⟨mw_459, mw_460⟩
theorem gv_RA_compare : kV "RootAlgebra" y_RA_compare := ⟨mw_472, mw_473⟩
theorem gv_RA_degree : kV "RootAlgebra" y_RA_degree := ⟨mw_455, mw_456⟩
theorem gv_RA_drop : kV "RootAlgebra" y_RA_drop := ⟨mw_488, mw_489⟩
theorem gv_RA_feed : kV "RootAlgebra" y_RA_feed := ⟨mw_446, mw_447⟩
theorem gv_RA_floor : kV "RootAlgebra" y_RA_floor := ⟨mw_476, mw_477⟩
theorem gv_RA_index : kV "RootAlgebra" y_RA_index := ⟨mw_464, mw_465⟩
theorem gv_RA_look : kV "RootAlgebra" y_RA_look := ⟨mw_451, mw_452⟩
theorem gv_RA_out : kV "RootAlgebra" y_RA_out := ⟨mw_484, mw_485⟩
theorem gv_RA_roots : kV "RootAlgebra" y_RA_roots := ⟨mw_468, mw_469⟩
theorem gv_RA_write : kV "RootAlgebra" y_RA_write := ⟨mw_480, mw_481⟩
