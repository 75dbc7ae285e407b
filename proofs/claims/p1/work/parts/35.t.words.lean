/-! laid by program -/
theorem d_RA_coefficient_8 : decode b_RA_coefficient 8 = .ok (.new 59, 3) := by decide +kernel
theorem d_RA_coefficient_11 : decode b_RA_coefficient 11 = .ok (.dup, 1) := by decide +kernel
theorem d_RA_coefficient_12 : decode b_RA_coefficient 12 = .ok (.invokespecial 61, 3) := by decide +kernel
theorem d_RA_coefficient_15 : decode b_RA_coefficient 15 = .ok (.athrow, 1) := by decide +kernel
theorem d_RA_coefficient_42 : decode b_RA_coefficient 42 = .ok (.new 129, 3) := by decide +kernel
theorem d_RA_coefficient_45 : decode b_RA_coefficient 45 = .ok (.dup, 1) := by decide +kernel
theorem d_RA_coefficient_46 : decode b_RA_coefficient 46 = .ok (.invokespecial 131, 3) := by decide +kernel
theorem d_RA_coefficient_49 : decode b_RA_coefficient 49 = .ok (.athrow, 1) := by decide +kernel
theorem d_RA_compare_16 : decode b_RA_compare 16 = .ok (.new 59, 3) := by decide +kernel
theorem d_RA_compare_19 : decode b_RA_compare 19 = .ok (.dup, 1) := by decide +kernel
theorem d_RA_compare_20 : decode b_RA_compare 20 = .ok (.invokespecial 61, 3) := by decide +kernel
theorem d_RA_compare_23 : decode b_RA_compare 23 = .ok (.athrow, 1) := by decide +kernel
theorem d_RA_compare_48 : decode b_RA_compare 48 = .ok (.new 129, 3) := by decide +kernel
theorem d_RA_compare_51 : decode b_RA_compare 51 = .ok (.dup, 1) := by decide +kernel
theorem d_RA_compare_52 : decode b_RA_compare 52 = .ok (.invokespecial 131, 3) := by decide +kernel
theorem d_RA_compare_55 : decode b_RA_compare 55 = .ok (.athrow, 1) := by decide +kernel
theorem d_RA_degree_8 : decode b_RA_degree 8 = .ok (.new 59, 3) := by decide +kernel
theorem d_RA_degree_11 : decode b_RA_degree 11 = .ok (.dup, 1) := by decide +kernel
theorem d_RA_degree_12 : decode b_RA_degree 12 = .ok (.invokespecial 61, 3) := by decide +kernel
theorem d_RA_degree_15 : decode b_RA_degree 15 = .ok (.athrow, 1) := by decide +kernel
theorem d_RA_drop_10 : decode b_RA_drop 10 = .ok (.new 59, 3) := by decide +kernel
theorem d_RA_drop_13 : decode b_RA_drop 13 = .ok (.dup, 1) := by decide +kernel
theorem d_RA_drop_14 : decode b_RA_drop 14 = .ok (.invokespecial 61, 3) := by decide +kernel
theorem d_RA_drop_17 : decode b_RA_drop 17 = .ok (.athrow, 1) := by decide +kernel
theorem d_RA_feed_11 : decode b_RA_feed 11 = .ok (.new 59, 3) := by decide +kernel
theorem d_RA_feed_14 : decode b_RA_feed 14 = .ok (.dup, 1) := by decide +kernel
theorem d_RA_feed_15 : decode b_RA_feed 15 = .ok (.invokespecial 61, 3) := by decide +kernel
theorem d_RA_feed_18 : decode b_RA_feed 18 = .ok (.athrow, 1) := by decide +kernel
theorem d_RA_floor_18 : decode b_RA_floor 18 = .ok (.new 59, 3) := by decide +kernel
theorem d_RA_floor_21 : decode b_RA_floor 21 = .ok (.dup, 1) := by decide +kernel
theorem d_RA_floor_22 : decode b_RA_floor 22 = .ok (.invokespecial 61, 3) := by decide +kernel
theorem d_RA_floor_25 : decode b_RA_floor 25 = .ok (.athrow, 1) := by decide +kernel
theorem d_RA_floor_38 : decode b_RA_floor 38 = .ok (.new 129, 3) := by decide +kernel
theorem d_RA_floor_41 : decode b_RA_floor 41 = .ok (.dup, 1) := by decide +kernel
theorem d_RA_floor_42 : decode b_RA_floor 42 = .ok (.invokespecial 131, 3) := by decide +kernel
theorem d_RA_floor_45 : decode b_RA_floor 45 = .ok (.athrow, 1) := by decide +kernel
theorem d_RA_index_8 : decode b_RA_index 8 = .ok (.new 59, 3) := by decide +kernel
theorem d_RA_index_11 : decode b_RA_index 11 = .ok (.dup, 1) := by decide +kernel
theorem d_RA_index_12 : decode b_RA_index 12 = .ok (.invokespecial 61, 3) := by decide +kernel
theorem d_RA_index_15 : decode b_RA_index 15 = .ok (.athrow, 1) := by decide +kernel
theorem d_RA_index_28 : decode b_RA_index 28 = .ok (.new 129, 3) := by decide +kernel
theorem d_RA_index_31 : decode b_RA_index 31 = .ok (.dup, 1) := by decide +kernel
theorem d_RA_index_32 : decode b_RA_index 32 = .ok (.invokespecial 131, 3) := by decide +kernel
theorem d_RA_index_35 : decode b_RA_index 35 = .ok (.athrow, 1) := by decide +kernel
theorem d_RA_isName_14 : decode b_RA_isName 14 = .ok (.iconst 0, 1) := by decide +kernel
theorem d_RA_look_61 : decode b_RA_look 61 = .ok (.new 59, 3) := by decide +kernel
theorem d_RA_look_64 : decode b_RA_look 64 = .ok (.dup, 1) := by decide +kernel
theorem d_RA_look_65 : decode b_RA_look 65 = .ok (.invokespecial 61, 3) := by decide +kernel
theorem d_RA_look_68 : decode b_RA_look 68 = .ok (.athrow, 1) := by decide +kernel
theorem d_RA_out_0 : decode b_RA_out 0 = .ok (.iload_n 1, 1) := by decide +kernel
theorem d_RA_out_1 : decode b_RA_out 1 = .ok (.ifCond .lt 11, 3) := by decide +kernel
theorem d_RA_out_4 : decode b_RA_out 4 = .ok (.iload_n 1, 1) := by decide +kernel
theorem d_RA_out_5 : decode b_RA_out 5 = .ok (.aload_n 0, 1) := by decide +kernel
theorem d_RA_out_6 : decode b_RA_out 6 = .ok (.getfield 120, 3) := by decide +kernel
theorem d_RA_out_9 : decode b_RA_out 9 = .ok (.if_icmp .lt 11, 3) := by decide +kernel
theorem d_RA_out_12 : decode b_RA_out 12 = .ok (.new 129, 3) := by decide +kernel
theorem d_RA_out_15 : decode b_RA_out 15 = .ok (.dup, 1) := by decide +kernel
theorem d_RA_out_16 : decode b_RA_out 16 = .ok (.invokespecial 131, 3) := by decide +kernel
theorem d_RA_out_19 : decode b_RA_out 19 = .ok (.athrow, 1) := by decide +kernel
theorem d_RA_roots_8 : decode b_RA_roots 8 = .ok (.new 59, 3) := by decide +kernel
theorem d_RA_roots_11 : decode b_RA_roots 11 = .ok (.dup, 1) := by decide +kernel
theorem d_RA_roots_12 : decode b_RA_roots 12 = .ok (.invokespecial 61, 3) := by decide +kernel
theorem d_RA_roots_15 : decode b_RA_roots 15 = .ok (.athrow, 1) := by decide +kernel
theorem d_RA_roots_28 : decode b_RA_roots 28 = .ok (.new 129, 3) := by decide +kernel
theorem d_RA_roots_31 : decode b_RA_roots 31 = .ok (.dup, 1) := by decide +kernel
theorem d_RA_roots_32 : decode b_RA_roots 32 = .ok (.invokespecial 131, 3) := by decide +kernel
theorem d_RA_roots_35 : decode b_RA_roots 35 = .ok (.athrow, 1) := by decide +kernel
theorem d_RA_write_8 : decode b_RA_write 8 = .ok (.new 59, 3) := by decide +kernel
theorem d_RA_write_11 : decode b_RA_write 11 = .ok (.dup, 1) := by decide +kernel
theorem d_RA_write_12 : decode b_RA_write 12 = .ok (.invokespecial 61, 3) := by decide +kernel
theorem d_RA_write_15 : decode b_RA_write 15 = .ok (.athrow, 1) := by decide +kernel
theorem d_RA_write_30 : decode b_RA_write 30 = .ok (.new 129, 3) := by decide +kernel
theorem d_RA_write_33 : decode b_RA_write 33 = .ok (.dup, 1) := by decide +kernel
theorem d_RA_write_34 : decode b_RA_write 34 = .ok (.invokespecial 131, 3) := by decide +kernel
theorem d_RA_write_37 : decode b_RA_write 37 = .ok (.athrow, 1) := by decide +kernel
set_option maxRecDepth 20000 in
theorem mw_440 : Cond.classLink "RootAlgebra" 59 "java/lang/IllegalArgumentException" ∈ wA := wA_in (zt_5 _ (List.mem_of_getElem? (i := 190) rfl)) rfl
set_option maxRecDepth 20000 in
theorem mw_441 : Cond.initialized "java/lang/IllegalArgumentException" ∈ wA := wA_in (zt_1 _ (List.mem_of_getElem? (i := 17) rfl)) rfl
set_option maxRecDepth 20000 in
theorem mw_442 : Cond.classLink "RootAlgebra" 129 "java/util/NoSuchElementException" ∈ wA := wA_in (zt_6 _ (List.mem_of_getElem? (i := 58) rfl)) rfl
set_option maxRecDepth 20000 in
theorem mw_443 : Cond.initialized "java/util/NoSuchElementException" ∈ wA := wA_in (zt_1 _ (List.mem_of_getElem? (i := 22) rfl)) rfl
theorem ga_0 : ∀ w ∈ Bundle.ownAtoms0 "RootAlgebra" 61 "java/lang/IllegalArgumentException" zEN, zTW "java/lang/IllegalArgumentException" w := by decide +kernel
theorem ga_1 : ∀ w ∈ Bundle.ownAtoms0 "RootAlgebra" 131 "java/util/NoSuchElementException" zEN, zTW "java/util/NoSuchElementException" w := by decide +kernel
