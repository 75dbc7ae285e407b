/-! what each instruction is; laid by program -/
theorem d_RA_isName_11 : decode b_RA_isName 11 = .ok (.goto 4, 3) := by decide +kernel
theorem d_RA_isName_15 : decode b_RA_isName 15 = .ok (.ireturn, 1) := by decide +kernel
theorem d_RA_line_0 : decode b_RA_line 0 = .ok (.aload_n 0, 1) := by decide +kernel
theorem d_RA_line_1 : decode b_RA_line 1 = .ok (.getfield 62, 3) := by decide +kernel
theorem d_RA_line_4 : decode b_RA_line 4 = .ok (.istore_n 1, 1) := by decide +kernel
theorem d_RA_line_5 : decode b_RA_line 5 = .ok (.aload_n 0, 1) := by decide +kernel
theorem d_RA_line_6 : decode b_RA_line 6 = .ok (.iconst 0, 1) := by decide +kernel
theorem d_RA_line_7 : decode b_RA_line 7 = .ok (.putfield 62, 3) := by decide +kernel
theorem d_RA_line_10 : decode b_RA_line 10 = .ok (.aload_n 0, 1) := by decide +kernel
theorem d_RA_line_11 : decode b_RA_line 11 = .ok (.getfield 44, 3) := by decide +kernel
theorem d_RA_line_14 : decode b_RA_line 14 = .ok (.iload_n 1, 1) := by decide +kernel
theorem d_RA_line_15 : decode b_RA_line 15 = .ok (.invokevirtual 68, 3) := by decide +kernel
theorem d_RA_line_18 : decode b_RA_line 18 = .ok (.ifCond .ne 16, 3) := by decide +kernel
theorem d_RA_line_21 : decode b_RA_line 21 = .ok (.aload_n 0, 1) := by decide +kernel
theorem d_RA_line_22 : decode b_RA_line 22 = .ok (.aload_n 0, 1) := by decide +kernel
theorem d_RA_line_23 : decode b_RA_line 23 = .ok (.getfield 44, 3) := by decide +kernel
theorem d_RA_line_26 : decode b_RA_line 26 = .ok (.getfield 72, 3) := by decide +kernel
theorem d_RA_line_29 : decode b_RA_line 29 = .ok (.putfield 55, 3) := by decide +kernel
theorem d_RA_line_32 : decode b_RA_line 32 = .ok (.iconst (-1), 1) := by decide +kernel
theorem d_RA_line_33 : decode b_RA_line 33 = .ok (.ireturn, 1) := by decide +kernel
theorem d_RA_look_0 : decode b_RA_look 0 = .ok (.iload_n 1, 1) := by decide +kernel
theorem d_RA_look_1 : decode b_RA_look 1 = .ok (.tableswitch 60 0 4 #[35, 40, 45, 50, 55], 35) := by decide +kernel
theorem d_RA_look_36 : decode b_RA_look 36 = .ok (.aload_n 0, 1) := by decide +kernel
theorem d_RA_look_37 : decode b_RA_look 37 = .ok (.invokevirtual 117, 3) := by decide +kernel
theorem d_RA_look_40 : decode b_RA_look 40 = .ok (.ireturn, 1) := by decide +kernel
theorem d_RA_look_41 : decode b_RA_look 41 = .ok (.aload_n 0, 1) := by decide +kernel
theorem d_RA_look_42 : decode b_RA_look 42 = .ok (.getfield 55, 3) := by decide +kernel
theorem d_RA_look_45 : decode b_RA_look 45 = .ok (.ireturn, 1) := by decide +kernel
theorem d_RA_look_46 : decode b_RA_look 46 = .ok (.aload_n 0, 1) := by decide +kernel
theorem d_RA_look_47 : decode b_RA_look 47 = .ok (.getfield 62, 3) := by decide +kernel
theorem d_RA_look_50 : decode b_RA_look 50 = .ok (.ireturn, 1) := by decide +kernel
theorem d_RA_look_51 : decode b_RA_look 51 = .ok (.aload_n 0, 1) := by decide +kernel
theorem d_RA_look_52 : decode b_RA_look 52 = .ok (.getfield 120, 3) := by decide +kernel
theorem d_RA_look_55 : decode b_RA_look 55 = .ok (.ireturn, 1) := by decide +kernel
theorem d_RA_look_56 : decode b_RA_look 56 = .ok (.aload_n 0, 1) := by decide +kernel
theorem d_RA_look_57 : decode b_RA_look 57 = .ok (.getfield 114, 3) := by decide +kernel
theorem d_RA_look_60 : decode b_RA_look 60 = .ok (.ireturn, 1) := by decide +kernel
theorem d_RA_namesWithValue_0 : decode b_RA_namesWithValue 0 = .ok (.iconst 0, 1) := by decide +kernel
theorem d_RA_namesWithValue_1 : decode b_RA_namesWithValue 1 = .ok (.istore_n 1, 1) := by decide +kernel
theorem d_RA_namesWithValue_2 : decode b_RA_namesWithValue 2 = .ok (.iconst 0, 1) := by decide +kernel
theorem d_RA_namesWithValue_3 : decode b_RA_namesWithValue 3 = .ok (.istore_n 2, 1) := by decide +kernel
theorem d_RA_namesWithValue_4 : decode b_RA_namesWithValue 4 = .ok (.iload_n 2, 1) := by decide +kernel
theorem d_RA_namesWithValue_5 : decode b_RA_namesWithValue 5 = .ok (.bipush 16, 2) := by decide +kernel
theorem d_RA_namesWithValue_7 : decode b_RA_namesWithValue 7 = .ok (.if_icmp .ge 24, 3) := by decide +kernel
theorem d_RA_namesWithValue_10 : decode b_RA_namesWithValue 10 = .ok (.aload_n 0, 1) := by decide +kernel
theorem d_RA_namesWithValue_11 : decode b_RA_namesWithValue 11 = .ok (.getfield 30, 3) := by decide +kernel
theorem d_RA_namesWithValue_14 : decode b_RA_namesWithValue 14 = .ok (.iload_n 2, 1) := by decide +kernel
theorem d_RA_namesWithValue_15 : decode b_RA_namesWithValue 15 = .ok (.aaload, 1) := by decide +kernel
theorem d_RA_namesWithValue_16 : decode b_RA_namesWithValue 16 = .ok (.getfield 126, 3) := by decide +kernel
theorem d_RA_namesWithValue_19 : decode b_RA_namesWithValue 19 = .ok (.ifCond .eq 6, 3) := by decide +kernel
theorem d_RA_namesWithValue_25 : decode b_RA_namesWithValue 25 = .ok (.iinc 2 1, 3) := by decide +kernel
theorem d_RA_namesWithValue_28 : decode b_RA_namesWithValue 28 = .ok (.goto (-24), 3) := by decide +kernel
theorem d_RA_namesWithValue_31 : decode b_RA_namesWithValue 31 = .ok (.iload_n 1, 1) := by decide +kernel
theorem d_RA_namesWithValue_32 : decode b_RA_namesWithValue 32 = .ok (.ireturn, 1) := by decide +kernel
theorem d_RA_put_0 : decode b_RA_put 0 = .ok (.aload_n 0, 1) := by decide +kernel
theorem d_RA_put_1 : decode b_RA_put 1 = .ok (.getfield 120, 3) := by decide +kernel
theorem d_RA_put_4 : decode b_RA_put 4 = .ok (.sipush 128, 3) := by decide +kernel
theorem d_RA_put_7 : decode b_RA_put 7 = .ok (.if_icmp .ge 24, 3) := by decide +kernel
theorem d_RA_put_10 : decode b_RA_put 10 = .ok (.aload_n 0, 1) := by decide +kernel
theorem d_RA_put_11 : decode b_RA_put 11 = .ok (.getfield 13, 3) := by decide +kernel
theorem d_RA_put_14 : decode b_RA_put 14 = .ok (.aload_n 0, 1) := by decide +kernel
theorem d_RA_put_15 : decode b_RA_put 15 = .ok (.getfield 120, 3) := by decide +kernel
theorem d_RA_put_18 : decode b_RA_put 18 = .ok (.iload_n 1, 1) := by decide +kernel
theorem d_RA_put_19 : decode b_RA_put 19 = .ok (.i2b, 1) := by decide +kernel
theorem d_RA_put_20 : decode b_RA_put 20 = .ok (.bastore, 1) := by decide +kernel
theorem d_RA_put_21 : decode b_RA_put 21 = .ok (.aload_n 0, 1) := by decide +kernel
theorem d_RA_put_22 : decode b_RA_put 22 = .ok (.dup, 1) := by decide +kernel
theorem d_RA_put_23 : decode b_RA_put 23 = .ok (.getfield 120, 3) := by decide +kernel
theorem d_RA_put_26 : decode b_RA_put 26 = .ok (.iconst 1, 1) := by decide +kernel
theorem d_RA_put_27 : decode b_RA_put 27 = .ok (.iadd, 1) := by decide +kernel
theorem d_RA_put_28 : decode b_RA_put 28 = .ok (.putfield 120, 3) := by decide +kernel
theorem d_RA_put_31 : decode b_RA_put 31 = .ok (.return_, 1) := by decide +kernel
theorem d_RA_putRest_0 : decode b_RA_putRest 0 = .ok (.aload_n 0, 1) := by decide +kernel
theorem d_RA_putRest_1 : decode b_RA_putRest 1 = .ok (.getfield 24, 3) := by decide +kernel
theorem d_RA_putRest_4 : decode b_RA_putRest 4 = .ok (.getfield 169, 3) := by decide +kernel
theorem d_RA_putRest_7 : decode b_RA_putRest 7 = .ok (.ifCond .ge 9, 3) := by decide +kernel
theorem d_RA_putRest_16 : decode b_RA_putRest 16 = .ok (.iconst 0, 1) := by decide +kernel
theorem d_RA_putRest_17 : decode b_RA_putRest 17 = .ok (.istore_n 1, 1) := by decide +kernel
theorem d_RA_putRest_18 : decode b_RA_putRest 18 = .ok (.iconst 0, 1) := by decide +kernel
theorem d_RA_putRest_19 : decode b_RA_putRest 19 = .ok (.istore_n 2, 1) := by decide +kernel
theorem d_RA_putRest_20 : decode b_RA_putRest 20 = .ok (.iload_n 2, 1) := by decide +kernel
theorem d_RA_putRest_21 : decode b_RA_putRest 21 = .ok (.bipush 9, 2) := by decide +kernel
theorem d_RA_putRest_23 : decode b_RA_putRest 23 = .ok (.if_icmp .ge 89, 3) := by decide +kernel
theorem d_RA_putRest_26 : decode b_RA_putRest 26 = .ok (.aload_n 0, 1) := by decide +kernel
theorem d_RA_putRest_27 : decode b_RA_putRest 27 = .ok (.getfield 24, 3) := by decide +kernel
theorem d_RA_putRest_30 : decode b_RA_putRest 30 = .ok (.getfield 169, 3) := by decide +kernel
theorem d_RA_putRest_33 : decode b_RA_putRest 33 = .ok (.ifCond .ne 7, 3) := by decide +kernel
theorem d_RA_putRest_36 : decode b_RA_putRest 36 = .ok (.iload_n 2, 1) := by decide +kernel
theorem d_RA_putRest_37 : decode b_RA_putRest 37 = .ok (.ifCond .ne 75, 3) := by decide +kernel
theorem d_RA_putRest_40 : decode b_RA_putRest 40 = .ok (.aload_n 0, 1) := by decide +kernel
theorem d_RA_putRest_41 : decode b_RA_putRest 41 = .ok (.getfield 24, 3) := by decide +kernel
theorem d_RA_putRest_44 : decode b_RA_putRest 44 = .ok (.ldc 172, 2) := by decide +kernel
theorem d_RA_putRest_46 : decode b_RA_putRest 46 = .ok (.invokevirtual 173, 3) := by decide +kernel
theorem d_RA_putRest_49 : decode b_RA_putRest 49 = .ok (.istore_n 3, 1) := by decide +kernel
theorem d_RA_putRest_50 : decode b_RA_putRest 50 = .ok (.iconst 0, 1) := by decide +kernel
theorem d_RA_putRest_51 : decode b_RA_putRest 51 = .ok (.istore 4, 2) := by decide +kernel
theorem d_RA_putRest_53 : decode b_RA_putRest 53 = .ok (.iload 4, 2) := by decide +kernel
theorem d_RA_putRest_55 : decode b_RA_putRest 55 = .ok (.bipush 9, 2) := by decide +kernel
theorem d_RA_putRest_57 : decode b_RA_putRest 57 = .ok (.if_icmp .ge 49, 3) := by decide +kernel
theorem d_RA_putRest_60 : decode b_RA_putRest 60 = .ok (.iload_n 3, 1) := by decide +kernel
theorem d_RA_putRest_61 : decode b_RA_putRest 61 = .ok (.ifCond .ne 17, 3) := by decide +kernel
theorem d_RA_putRest_64 : decode b_RA_putRest 64 = .ok (.aload_n 0, 1) := by decide +kernel
theorem d_RA_putRest_65 : decode b_RA_putRest 65 = .ok (.getfield 24, 3) := by decide +kernel
theorem d_RA_putRest_68 : decode b_RA_putRest 68 = .ok (.getfield 169, 3) := by decide +kernel
theorem d_RA_putRest_71 : decode b_RA_putRest 71 = .ok (.ifCond .ne 7, 3) := by decide +kernel
theorem d_RA_putRest_74 : decode b_RA_putRest 74 = .ok (.iload_n 1, 1) := by decide +kernel
theorem d_RA_putRest_75 : decode b_RA_putRest 75 = .ok (.ifCond .ne 31, 3) := by decide +kernel
theorem d_RA_putRest_78 : decode b_RA_putRest 78 = .ok (.aload_n 0, 1) := by decide +kernel
theorem d_RA_putRest_79 : decode b_RA_putRest 79 = .ok (.getfield 16, 3) := by decide +kernel
theorem d_RA_putRest_82 : decode b_RA_putRest 82 = .ok (.iload_n 1, 1) := by decide +kernel
theorem d_RA_putRest_83 : decode b_RA_putRest 83 = .ok (.bipush 48, 2) := by decide +kernel
theorem d_RA_putRest_85 : decode b_RA_putRest 85 = .ok (.iload_n 3, 1) := by decide +kernel
theorem d_RA_putRest_86 : decode b_RA_putRest 86 = .ok (.bipush 10, 2) := by decide +kernel
theorem d_RA_putRest_88 : decode b_RA_putRest 88 = .ok (.irem, 1) := by decide +kernel
theorem d_RA_putRest_89 : decode b_RA_putRest 89 = .ok (.iadd, 1) := by decide +kernel
theorem d_RA_putRest_90 : decode b_RA_putRest 90 = .ok (.i2b, 1) := by decide +kernel
theorem d_RA_putRest_91 : decode b_RA_putRest 91 = .ok (.bastore, 1) := by decide +kernel
theorem d_RA_putRest_92 : decode b_RA_putRest 92 = .ok (.iload_n 3, 1) := by decide +kernel
theorem d_RA_putRest_93 : decode b_RA_putRest 93 = .ok (.bipush 10, 2) := by decide +kernel
theorem d_RA_putRest_95 : decode b_RA_putRest 95 = .ok (.idiv, 1) := by decide +kernel
theorem d_RA_putRest_96 : decode b_RA_putRest 96 = .ok (.istore_n 3, 1) := by decide +kernel
theorem d_RA_putRest_97 : decode b_RA_putRest 97 = .ok (.iinc 1 1, 3) := by decide +kernel
theorem d_RA_putRest_100 : decode b_RA_putRest 100 = .ok (.iinc 4 1, 3) := by decide +kernel
theorem d_RA_putRest_103 : decode b_RA_putRest 103 = .ok (.goto (-50), 3) := by decide +kernel
theorem d_RA_putRest_106 : decode b_RA_putRest 106 = .ok (.iinc 2 1, 3) := by decide +kernel
theorem d_RA_putRest_109 : decode b_RA_putRest 109 = .ok (.goto (-89), 3) := by decide +kernel
theorem d_RA_putRest_112 : decode b_RA_putRest 112 = .ok (.iload_n 1, 1) := by decide +kernel
theorem d_RA_putRest_113 : decode b_RA_putRest 113 = .ok (.iconst 1, 1) := by decide +kernel
theorem d_RA_putRest_114 : decode b_RA_putRest 114 = .ok (.isub, 1) := by decide +kernel
theorem d_RA_putRest_115 : decode b_RA_putRest 115 = .ok (.istore_n 2, 1) := by decide +kernel
theorem d_RA_putRest_116 : decode b_RA_putRest 116 = .ok (.iload_n 2, 1) := by decide +kernel
theorem d_RA_putRest_117 : decode b_RA_putRest 117 = .ok (.ifCond .lt 19, 3) := by decide +kernel
theorem d_RA_putRest_120 : decode b_RA_putRest 120 = .ok (.aload_n 0, 1) := by decide +kernel
theorem d_RA_putRest_121 : decode b_RA_putRest 121 = .ok (.aload_n 0, 1) := by decide +kernel
theorem d_RA_putRest_122 : decode b_RA_putRest 122 = .ok (.getfield 16, 3) := by decide +kernel
theorem d_RA_putRest_125 : decode b_RA_putRest 125 = .ok (.iload_n 2, 1) := by decide +kernel
theorem d_RA_putRest_126 : decode b_RA_putRest 126 = .ok (.baload, 1) := by decide +kernel
theorem d_RA_putRest_127 : decode b_RA_putRest 127 = .ok (.invokevirtual 162, 3) := by decide +kernel
theorem d_RA_putRest_130 : decode b_RA_putRest 130 = .ok (.iinc 2 (-1), 3) := by decide +kernel
theorem d_RA_putRest_133 : decode b_RA_putRest 133 = .ok (.goto (-17), 3) := by decide +kernel
theorem d_RA_putRest_136 : decode b_RA_putRest 136 = .ok (.return_, 1) := by decide +kernel
theorem d_RA_roots_0 : decode b_RA_roots 0 = .ok (.aload_n 0, 1) := by decide +kernel
theorem d_RA_roots_1 : decode b_RA_roots 1 = .ok (.iload_n 1, 1) := by decide +kernel
theorem d_RA_roots_2 : decode b_RA_roots 2 = .ok (.invokevirtual 123, 3) := by decide +kernel
theorem d_RA_roots_5 : decode b_RA_roots 5 = .ok (.ifCond .ne 11, 3) := by decide +kernel
theorem d_RA_roots_16 : decode b_RA_roots 16 = .ok (.aload_n 0, 1) := by decide +kernel
theorem d_RA_roots_17 : decode b_RA_roots 17 = .ok (.getfield 30, 3) := by decide +kernel
theorem d_RA_roots_20 : decode b_RA_roots 20 = .ok (.iload_n 1, 1) := by decide +kernel
theorem d_RA_roots_21 : decode b_RA_roots 21 = .ok (.aaload, 1) := by decide +kernel
theorem d_RA_roots_22 : decode b_RA_roots 22 = .ok (.getfield 126, 3) := by decide +kernel
theorem d_RA_roots_25 : decode b_RA_roots 25 = .ok (.ifCond .ne 11, 3) := by decide +kernel
theorem d_RA_roots_36 : decode b_RA_roots 36 = .ok (.aload_n 0, 1) := by decide +kernel
theorem d_RA_roots_37 : decode b_RA_roots 37 = .ok (.getfield 30, 3) := by decide +kernel
theorem d_RA_roots_40 : decode b_RA_roots 40 = .ok (.iload_n 1, 1) := by decide +kernel
theorem d_RA_roots_41 : decode b_RA_roots 41 = .ok (.aaload, 1) := by decide +kernel
theorem d_RA_roots_42 : decode b_RA_roots 42 = .ok (.getfield 138, 3) := by decide +kernel
theorem d_RA_roots_45 : decode b_RA_roots 45 = .ok (.ireturn, 1) := by decide +kernel
theorem d_RA_write_0 : decode b_RA_write 0 = .ok (.aload_n 0, 1) := by decide +kernel
theorem d_RA_write_1 : decode b_RA_write 1 = .ok (.iload_n 1, 1) := by decide +kernel
theorem d_RA_write_2 : decode b_RA_write 2 = .ok (.invokevirtual 123, 3) := by decide +kernel
theorem d_RA_write_5 : decode b_RA_write 5 = .ok (.ifCond .ne 11, 3) := by decide +kernel
theorem d_RA_write_16 : decode b_RA_write 16 = .ok (.aload_n 0, 1) := by decide +kernel
theorem d_RA_write_17 : decode b_RA_write 17 = .ok (.getfield 30, 3) := by decide +kernel
theorem d_RA_write_20 : decode b_RA_write 20 = .ok (.iload_n 1, 1) := by decide +kernel
theorem d_RA_write_21 : decode b_RA_write 21 = .ok (.aaload, 1) := by decide +kernel
theorem d_RA_write_22 : decode b_RA_write 22 = .ok (.astore_n 2, 1) := by decide +kernel
theorem d_RA_write_23 : decode b_RA_write 23 = .ok (.aload_n 2, 1) := by decide +kernel
theorem d_RA_write_24 : decode b_RA_write 24 = .ok (.getfield 126, 3) := by decide +kernel
theorem d_RA_write_27 : decode b_RA_write 27 = .ok (.ifCond .ne 11, 3) := by decide +kernel
theorem d_RA_write_38 : decode b_RA_write 38 = .ok (.aload_n 0, 1) := by decide +kernel
theorem d_RA_write_39 : decode b_RA_write 39 = .ok (.iconst 0, 1) := by decide +kernel
theorem d_RA_write_40 : decode b_RA_write 40 = .ok (.putfield 120, 3) := by decide +kernel
theorem d_RA_write_43 : decode b_RA_write 43 = .ok (.iconst 0, 1) := by decide +kernel
theorem d_RA_write_44 : decode b_RA_write 44 = .ok (.istore_n 3, 1) := by decide +kernel
theorem d_RA_write_45 : decode b_RA_write 45 = .ok (.iload_n 3, 1) := by decide +kernel
theorem d_RA_write_46 : decode b_RA_write 46 = .ok (.aload_n 2, 1) := by decide +kernel
theorem d_RA_write_47 : decode b_RA_write 47 = .ok (.getfield 126, 3) := by decide +kernel
theorem d_RA_write_50 : decode b_RA_write 50 = .ok (.if_icmp .gt 42, 3) := by decide +kernel
theorem d_RA_write_53 : decode b_RA_write 53 = .ok (.aload_n 0, 1) := by decide +kernel
theorem d_RA_write_54 : decode b_RA_write 54 = .ok (.iload_n 3, 1) := by decide +kernel
theorem d_RA_write_55 : decode b_RA_write 55 = .ok (.ifCond .ne 8, 3) := by decide +kernel
theorem d_RA_write_58 : decode b_RA_write 58 = .ok (.bipush 91, 2) := by decide +kernel
theorem d_RA_write_60 : decode b_RA_write 60 = .ok (.goto 5, 3) := by decide +kernel
theorem d_RA_write_63 : decode b_RA_write 63 = .ok (.bipush 44, 2) := by decide +kernel
theorem d_RA_write_65 : decode b_RA_write 65 = .ok (.invokevirtual 162, 3) := by decide +kernel
theorem d_RA_write_68 : decode b_RA_write 68 = .ok (.aload_n 0, 1) := by decide +kernel
theorem d_RA_write_69 : decode b_RA_write 69 = .ok (.getfield 24, 3) := by decide +kernel
theorem d_RA_write_72 : decode b_RA_write 72 = .ok (.aload_n 2, 1) := by decide +kernel
theorem d_RA_write_73 : decode b_RA_write 73 = .ok (.getfield 132, 3) := by decide +kernel
theorem d_RA_write_76 : decode b_RA_write 76 = .ok (.iload_n 3, 1) := by decide +kernel
theorem d_RA_write_77 : decode b_RA_write 77 = .ok (.iaload, 1) := by decide +kernel
theorem d_RA_write_78 : decode b_RA_write 78 = .ok (.i2l, 1) := by decide +kernel
theorem d_RA_write_79 : decode b_RA_write 79 = .ok (.invokevirtual 165, 3) := by decide +kernel
theorem d_RA_write_82 : decode b_RA_write 82 = .ok (.aload_n 0, 1) := by decide +kernel
theorem d_RA_write_83 : decode b_RA_write 83 = .ok (.invokevirtual 159, 3) := by decide +kernel
theorem d_RA_write_86 : decode b_RA_write 86 = .ok (.iinc 3 1, 3) := by decide +kernel
theorem d_RA_write_89 : decode b_RA_write 89 = .ok (.goto (-44), 3) := by decide +kernel
theorem d_RA_write_92 : decode b_RA_write 92 = .ok (.aload_n 0, 1) := by decide +kernel
theorem d_RA_write_93 : decode b_RA_write 93 = .ok (.bipush 93, 2) := by decide +kernel
theorem d_RA_write_95 : decode b_RA_write 95 = .ok (.invokevirtual 162, 3) := by decide +kernel
theorem d_RA_write_98 : decode b_RA_write 98 = .ok (.aload_n 0, 1) := by decide +kernel
theorem d_RA_write_99 : decode b_RA_write 99 = .ok (.bipush 35, 2) := by decide +kernel
theorem d_RA_write_101 : decode b_RA_write 101 = .ok (.invokevirtual 162, 3) := by decide +kernel
theorem d_RA_write_104 : decode b_RA_write 104 = .ok (.aload_n 0, 1) := by decide +kernel
theorem d_RA_write_105 : decode b_RA_write 105 = .ok (.getfield 24, 3) := by decide +kernel
theorem d_RA_write_108 : decode b_RA_write 108 = .ok (.aload_n 2, 1) := by decide +kernel
theorem d_RA_write_109 : decode b_RA_write 109 = .ok (.getfield 135, 3) := by decide +kernel
theorem d_RA_write_112 : decode b_RA_write 112 = .ok (.i2l, 1) := by decide +kernel
theorem d_RA_write_113 : decode b_RA_write 113 = .ok (.invokevirtual 165, 3) := by decide +kernel
theorem d_RA_write_116 : decode b_RA_write 116 = .ok (.aload_n 0, 1) := by decide +kernel
theorem d_RA_write_117 : decode b_RA_write 117 = .ok (.invokevirtual 159, 3) := by decide +kernel
theorem d_RA_write_120 : decode b_RA_write 120 = .ok (.aload_n 0, 1) := by decide +kernel
theorem d_RA_write_121 : decode b_RA_write 121 = .ok (.getfield 120, 3) := by decide +kernel
theorem d_RA_write_124 : decode b_RA_write 124 = .ok (.ireturn, 1) := by decide +kernel
theorem d_Reader_factor_0 : decode b_Reader_factor 0 = .ok (.iconst 0, 1) := by decide +kernel
theorem d_Reader_factor_1 : decode b_Reader_factor 1 = .ok (.istore_n 2, 1) := by decide +kernel
theorem d_Reader_factor_2 : decode b_Reader_factor 2 = .ok (.aload_n 0, 1) := by decide +kernel
theorem d_Reader_factor_3 : decode b_Reader_factor 3 = .ok (.invokevirtual 42, 3) := by decide +kernel
theorem d_Reader_factor_6 : decode b_Reader_factor 6 = .ok (.istore_n 3, 1) := by decide +kernel
theorem d_Reader_factor_7 : decode b_Reader_factor 7 = .ok (.iconst 0, 1) := by decide +kernel
theorem d_Reader_factor_8 : decode b_Reader_factor 8 = .ok (.istore 4, 2) := by decide +kernel
theorem d_Reader_factor_10 : decode b_Reader_factor 10 = .ok (.iload 4, 2) := by decide +kernel
theorem d_Reader_factor_12 : decode b_Reader_factor 12 = .ok (.sipush 400, 3) := by decide +kernel
theorem d_Reader_factor_15 : decode b_Reader_factor 15 = .ok (.if_icmp .ge 40, 3) := by decide +kernel
theorem d_Reader_factor_18 : decode b_Reader_factor 18 = .ok (.iload_n 3, 1) := by decide +kernel
theorem d_Reader_factor_19 : decode b_Reader_factor 19 = .ok (.bipush 45, 2) := by decide +kernel
theorem d_Reader_factor_21 : decode b_Reader_factor 21 = .ok (.if_icmp .ne 34, 3) := by decide +kernel
theorem d_Reader_factor_55 : decode b_Reader_factor 55 = .ok (.iconst 0, 1) := by decide +kernel
theorem d_Reader_factor_56 : decode b_Reader_factor 56 = .ok (.istore 4, 2) := by decide +kernel
theorem d_Reader_factor_58 : decode b_Reader_factor 58 = .ok (.iload_n 3, 1) := by decide +kernel
theorem d_Reader_factor_59 : decode b_Reader_factor 59 = .ok (.bipush 48, 2) := by decide +kernel
theorem d_Reader_factor_61 : decode b_Reader_factor 61 = .ok (.if_icmp .lt 31, 3) := by decide +kernel
theorem d_Reader_factor_92 : decode b_Reader_factor 92 = .ok (.iload_n 3, 1) := by decide +kernel
theorem d_Reader_factor_93 : decode b_Reader_factor 93 = .ok (.bipush 97, 2) := by decide +kernel
theorem d_Reader_factor_95 : decode b_Reader_factor 95 = .ok (.if_icmp .lt 38, 3) := by decide +kernel
theorem d_Reader_factor_133 : decode b_Reader_factor 133 = .ok (.iload_n 3, 1) := by decide +kernel
theorem d_Reader_factor_134 : decode b_Reader_factor 134 = .ok (.bipush 40, 2) := by decide +kernel
theorem d_Reader_factor_136 : decode b_Reader_factor 136 = .ok (.if_icmp .ne 13, 3) := by decide +kernel
theorem d_Reader_factor_149 : decode b_Reader_factor 149 = .ok (.iload_n 3, 1) := by decide +kernel
theorem d_Reader_factor_150 : decode b_Reader_factor 150 = .ok (.bipush 35, 2) := by decide +kernel
theorem d_Reader_factor_152 : decode b_Reader_factor 152 = .ok (.if_icmp .ne 13, 3) := by decide +kernel
theorem d_Reader_factor_165 : decode b_Reader_factor 165 = .ok (.iload_n 3, 1) := by decide +kernel
theorem d_Reader_factor_166 : decode b_Reader_factor 166 = .ok (.bipush 64, 2) := by decide +kernel
theorem d_Reader_factor_168 : decode b_Reader_factor 168 = .ok (.if_icmp .ne 10, 3) := by decide +kernel
theorem d_Reader_factor_178 : decode b_Reader_factor 178 = .ok (.iload_n 2, 1) := by decide +kernel
theorem d_Reader_factor_179 : decode b_Reader_factor 179 = .ok (.ifCond .eq 8, 3) := by decide +kernel
theorem d_Reader_factor_187 : decode b_Reader_factor 187 = .ok (.iload 4, 2) := by decide +kernel
theorem d_Reader_factor_189 : decode b_Reader_factor 189 = .ok (.ireturn, 1) := by decide +kernel
theorem d_Reader_init_0 : decode b_Reader_init 0 = .ok (.aload_n 0, 1) := by decide +kernel
theorem d_Reader_init_1 : decode b_Reader_init 1 = .ok (.invokespecial 3, 3) := by decide +kernel
theorem d_Reader_init_4 : decode b_Reader_init 4 = .ok (.aload_n 0, 1) := by decide +kernel
theorem d_Reader_init_5 : decode b_Reader_init 5 = .ok (.aload_n 1, 1) := by decide +kernel
theorem d_Reader_init_6 : decode b_Reader_init 6 = .ok (.putfield 9, 3) := by decide +kernel
theorem d_Reader_init_9 : decode b_Reader_init 9 = .ok (.aload_n 0, 1) := by decide +kernel
theorem d_Reader_init_10 : decode b_Reader_init 10 = .ok (.sipush 820, 3) := by decide +kernel
theorem d_Reader_init_13 : decode b_Reader_init 13 = .ok (.newarray .int, 2) := by decide +kernel
theorem d_Reader_init_15 : decode b_Reader_init 15 = .ok (.putfield 15, 3) := by decide +kernel
theorem d_Reader_init_18 : decode b_Reader_init 18 = .ok (.return_, 1) := by decide +kernel
theorem d_Reader_next_0 : decode b_Reader_next 0 = .ok (.aload_n 0, 1) := by decide +kernel
theorem d_Reader_next_1 : decode b_Reader_next 1 = .ok (.getfield 29, 3) := by decide +kernel
theorem d_Reader_next_4 : decode b_Reader_next 4 = .ok (.aload_n 0, 1) := by decide +kernel
theorem d_Reader_next_5 : decode b_Reader_next 5 = .ok (.getfield 25, 3) := by decide +kernel
theorem d_Reader_next_8 : decode b_Reader_next 8 = .ok (.if_icmp .ge 30, 3) := by decide +kernel
theorem d_Reader_next_38 : decode b_Reader_next 38 = .ok (.aload_n 0, 1) := by decide +kernel
theorem d_Reader_next_39 : decode b_Reader_next 39 = .ok (.getfield 29, 3) := by decide +kernel
theorem d_Reader_next_42 : decode b_Reader_next 42 = .ok (.aload_n 0, 1) := by decide +kernel
theorem d_Reader_next_43 : decode b_Reader_next 43 = .ok (.getfield 25, 3) := by decide +kernel
theorem d_Reader_next_46 : decode b_Reader_next 46 = .ok (.if_icmp .ge 19, 3) := by decide +kernel
theorem d_Reader_next_65 : decode b_Reader_next 65 = .ok (.iconst (-1), 1) := by decide +kernel
theorem d_Reader_next_66 : decode b_Reader_next 66 = .ok (.ireturn, 1) := by decide +kernel
theorem d_Reader_product_0 : decode b_Reader_product 0 = .ok (.aload_n 0, 1) := by decide +kernel
theorem d_Reader_product_1 : decode b_Reader_product 1 = .ok (.iload_n 1, 1) := by decide +kernel
theorem d_Reader_product_2 : decode b_Reader_product 2 = .ok (.invokevirtual 56, 3) := by decide +kernel
theorem d_Reader_product_5 : decode b_Reader_product 5 = .ok (.ifCond .ne 5, 3) := by decide +kernel
theorem d_Reader_product_8 : decode b_Reader_product 8 = .ok (.iconst 0, 1) := by decide +kernel
theorem d_Reader_product_9 : decode b_Reader_product 9 = .ok (.ireturn, 1) := by decide +kernel
theorem d_Reader_readTarget_0 : decode b_Reader_readTarget 0 = .ok (.aload_n 0, 1) := by decide +kernel
theorem d_Reader_readTarget_1 : decode b_Reader_readTarget 1 = .ok (.iconst (-1), 1) := by decide +kernel
theorem d_Reader_readTarget_2 : decode b_Reader_readTarget 2 = .ok (.putfield 50, 3) := by decide +kernel
theorem d_Reader_readTarget_5 : decode b_Reader_readTarget 5 = .ok (.aload_n 0, 1) := by decide +kernel
theorem d_Reader_readTarget_6 : decode b_Reader_readTarget 6 = .ok (.invokevirtual 42, 3) := by decide +kernel
theorem d_Reader_readTarget_9 : decode b_Reader_readTarget 9 = .ok (.istore_n 1, 1) := by decide +kernel
theorem d_Reader_readTarget_10 : decode b_Reader_readTarget 10 = .ok (.iload_n 1, 1) := by decide +kernel
theorem d_Reader_readTarget_11 : decode b_Reader_readTarget 11 = .ok (.bipush 97, 2) := by decide +kernel
theorem d_Reader_readTarget_13 : decode b_Reader_readTarget 13 = .ok (.if_icmp .lt 9, 3) := by decide +kernel
theorem d_Reader_readTarget_22 : decode b_Reader_readTarget 22 = .ok (.return_, 1) := by decide +kernel
theorem d_Reader_reads_0 : decode b_Reader_reads 0 = .ok (.aload_n 0, 1) := by decide +kernel
theorem d_Reader_reads_1 : decode b_Reader_reads 1 = .ok (.iload_n 1, 1) := by decide +kernel
theorem d_Reader_reads_2 : decode b_Reader_reads 2 = .ok (.aload_n 0, 1) := by decide +kernel
theorem d_Reader_reads_3 : decode b_Reader_reads 3 = .ok (.getfield 9, 3) := by decide +kernel
theorem d_Reader_reads_6 : decode b_Reader_reads 6 = .ok (.arraylength, 1) := by decide +kernel
theorem d_Reader_reads_7 : decode b_Reader_reads 7 = .ok (.invokestatic 19, 3) := by decide +kernel
theorem d_Reader_reads_10 : decode b_Reader_reads 10 = .ok (.putfield 25, 3) := by decide +kernel
theorem d_Reader_reads_13 : decode b_Reader_reads 13 = .ok (.aload_n 0, 1) := by decide +kernel
theorem d_Reader_reads_14 : decode b_Reader_reads 14 = .ok (.iconst 0, 1) := by decide +kernel
theorem d_Reader_reads_15 : decode b_Reader_reads 15 = .ok (.putfield 29, 3) := by decide +kernel
theorem d_Reader_reads_18 : decode b_Reader_reads 18 = .ok (.aload_n 0, 1) := by decide +kernel
theorem d_Reader_reads_19 : decode b_Reader_reads 19 = .ok (.iconst 0, 1) := by decide +kernel
theorem d_Reader_reads_20 : decode b_Reader_reads 20 = .ok (.putfield 32, 3) := by decide +kernel
theorem d_Reader_reads_23 : decode b_Reader_reads 23 = .ok (.aload_n 0, 1) := by decide +kernel
theorem d_Reader_reads_24 : decode b_Reader_reads 24 = .ok (.invokevirtual 35, 3) := by decide +kernel
theorem d_Reader_reads_27 : decode b_Reader_reads 27 = .ok (.aload_n 0, 1) := by decide +kernel
theorem d_Reader_reads_28 : decode b_Reader_reads 28 = .ok (.iconst 0, 1) := by decide +kernel
theorem d_Reader_reads_29 : decode b_Reader_reads 29 = .ok (.invokevirtual 38, 3) := by decide +kernel
theorem d_Reader_reads_32 : decode b_Reader_reads 32 = .ok (.ifCond .ne 5, 3) := by decide +kernel
theorem d_Reader_reads_35 : decode b_Reader_reads 35 = .ok (.iconst 0, 1) := by decide +kernel
theorem d_Reader_reads_36 : decode b_Reader_reads 36 = .ok (.ireturn, 1) := by decide +kernel
theorem d_Reader_sum_0 : decode b_Reader_sum 0 = .ok (.aload_n 0, 1) := by decide +kernel
theorem d_Reader_sum_1 : decode b_Reader_sum 1 = .ok (.iload_n 1, 1) := by decide +kernel
theorem d_Reader_sum_2 : decode b_Reader_sum 2 = .ok (.invokevirtual 53, 3) := by decide +kernel
theorem d_Reader_sum_5 : decode b_Reader_sum 5 = .ok (.ifCond .ne 5, 3) := by decide +kernel
theorem d_Reader_sum_8 : decode b_Reader_sum 8 = .ok (.iconst 0, 1) := by decide +kernel
theorem d_Reader_sum_9 : decode b_Reader_sum 9 = .ok (.ireturn, 1) := by decide +kernel
theorem d_Sums_init_0 : decode b_Sums_init 0 = .ok (.aload_n 0, 1) := by decide +kernel
theorem d_Sums_init_1 : decode b_Sums_init 1 = .ok (.invokespecial 1, 3) := by decide +kernel
theorem d_Sums_init_4 : decode b_Sums_init 4 = .ok (.aload_n 0, 1) := by decide +kernel
theorem d_Sums_init_5 : decode b_Sums_init 5 = .ok (.bipush 13, 2) := by decide +kernel
theorem d_Sums_init_7 : decode b_Sums_init 7 = .ok (.anewarray 9, 3) := by decide +kernel
theorem d_Sums_init_10 : decode b_Sums_init 10 = .ok (.putfield 11, 3) := by decide +kernel
theorem d_Sums_init_13 : decode b_Sums_init 13 = .ok (.aload_n 0, 1) := by decide +kernel
theorem d_Sums_init_14 : decode b_Sums_init 14 = .ok (.bipush 13, 2) := by decide +kernel
theorem d_Sums_init_16 : decode b_Sums_init 16 = .ok (.anewarray 9, 3) := by decide +kernel
theorem d_Sums_init_19 : decode b_Sums_init 19 = .ok (.putfield 17, 3) := by decide +kernel
theorem d_Sums_init_22 : decode b_Sums_init 22 = .ok (.aload_n 0, 1) := by decide +kernel
theorem d_Sums_init_23 : decode b_Sums_init 23 = .ok (.bipush 13, 2) := by decide +kernel
theorem d_Sums_init_25 : decode b_Sums_init 25 = .ok (.anewarray 9, 3) := by decide +kernel
theorem d_Sums_init_28 : decode b_Sums_init 28 = .ok (.putfield 20, 3) := by decide +kernel
theorem d_Sums_init_31 : decode b_Sums_init 31 = .ok (.iconst 0, 1) := by decide +kernel
theorem d_Sums_init_32 : decode b_Sums_init 32 = .ok (.istore_n 1, 1) := by decide +kernel
theorem d_Sums_init_33 : decode b_Sums_init 33 = .ok (.iload_n 1, 1) := by decide +kernel
theorem d_Sums_init_34 : decode b_Sums_init 34 = .ok (.bipush 12, 2) := by decide +kernel
theorem d_Sums_init_36 : decode b_Sums_init 36 = .ok (.if_icmp .gt 54, 3) := by decide +kernel
theorem d_Sums_init_39 : decode b_Sums_init 39 = .ok (.aload_n 0, 1) := by decide +kernel
theorem d_Sums_init_40 : decode b_Sums_init 40 = .ok (.getfield 11, 3) := by decide +kernel
theorem d_Sums_init_43 : decode b_Sums_init 43 = .ok (.iload_n 1, 1) := by decide +kernel
theorem d_Sums_init_44 : decode b_Sums_init 44 = .ok (.new 9, 3) := by decide +kernel
theorem d_Sums_init_47 : decode b_Sums_init 47 = .ok (.dup, 1) := by decide +kernel
theorem d_Sums_init_48 : decode b_Sums_init 48 = .ok (.bipush 28, 2) := by decide +kernel
theorem d_Sums_init_50 : decode b_Sums_init 50 = .ok (.invokespecial 23, 3) := by decide +kernel
theorem d_Sums_init_53 : decode b_Sums_init 53 = .ok (.aastore, 1) := by decide +kernel
theorem d_Sums_init_54 : decode b_Sums_init 54 = .ok (.aload_n 0, 1) := by decide +kernel
theorem d_Sums_init_55 : decode b_Sums_init 55 = .ok (.getfield 17, 3) := by decide +kernel
theorem d_Sums_init_58 : decode b_Sums_init 58 = .ok (.iload_n 1, 1) := by decide +kernel
theorem d_Sums_init_59 : decode b_Sums_init 59 = .ok (.new 9, 3) := by decide +kernel
theorem d_Sums_init_62 : decode b_Sums_init 62 = .ok (.dup, 1) := by decide +kernel
theorem d_Sums_init_63 : decode b_Sums_init 63 = .ok (.bipush 28, 2) := by decide +kernel
theorem d_Sums_init_65 : decode b_Sums_init 65 = .ok (.invokespecial 23, 3) := by decide +kernel
theorem d_Sums_init_68 : decode b_Sums_init 68 = .ok (.aastore, 1) := by decide +kernel
theorem d_Sums_init_69 : decode b_Sums_init 69 = .ok (.aload_n 0, 1) := by decide +kernel
theorem d_Sums_init_70 : decode b_Sums_init 70 = .ok (.getfield 20, 3) := by decide +kernel
theorem d_Sums_init_73 : decode b_Sums_init 73 = .ok (.iload_n 1, 1) := by decide +kernel
theorem d_Sums_init_74 : decode b_Sums_init 74 = .ok (.new 9, 3) := by decide +kernel
theorem d_Sums_init_77 : decode b_Sums_init 77 = .ok (.dup, 1) := by decide +kernel
theorem d_Sums_init_78 : decode b_Sums_init 78 = .ok (.bipush 28, 2) := by decide +kernel
theorem d_Sums_init_80 : decode b_Sums_init 80 = .ok (.invokespecial 23, 3) := by decide +kernel
theorem d_Sums_init_83 : decode b_Sums_init 83 = .ok (.aastore, 1) := by decide +kernel
theorem d_Sums_init_84 : decode b_Sums_init 84 = .ok (.iinc 1 1, 3) := by decide +kernel
theorem d_Sums_init_87 : decode b_Sums_init 87 = .ok (.goto (-54), 3) := by decide +kernel
theorem d_Sums_init_90 : decode b_Sums_init 90 = .ok (.aload_n 0, 1) := by decide +kernel
theorem d_Sums_init_91 : decode b_Sums_init 91 = .ok (.new 9, 3) := by decide +kernel
theorem d_Sums_init_94 : decode b_Sums_init 94 = .ok (.dup, 1) := by decide +kernel
theorem d_Sums_init_95 : decode b_Sums_init 95 = .ok (.bipush 56, 2) := by decide +kernel
theorem d_Sums_init_97 : decode b_Sums_init 97 = .ok (.invokespecial 23, 3) := by decide +kernel
theorem d_Sums_init_100 : decode b_Sums_init 100 = .ok (.putfield 26, 3) := by decide +kernel
theorem d_Sums_init_103 : decode b_Sums_init 103 = .ok (.return_, 1) := by decide +kernel
theorem d_Value_finishFraction_0 : decode b_Value_finishFraction 0 = .ok (.aload_n 0, 1) := by decide +kernel
theorem d_Value_finishFraction_1 : decode b_Value_finishFraction 1 = .ok (.iconst 0, 1) := by decide +kernel
theorem d_Value_finishFraction_2 : decode b_Value_finishFraction 2 = .ok (.putfield 31, 3) := by decide +kernel
theorem d_Value_finishFraction_5 : decode b_Value_finishFraction 5 = .ok (.aload_n 0, 1) := by decide +kernel
theorem d_Value_finishFraction_6 : decode b_Value_finishFraction 6 = .ok (.iconst 1, 1) := by decide +kernel
theorem d_Value_finishFraction_7 : decode b_Value_finishFraction 7 = .ok (.putfield 34, 3) := by decide +kernel
theorem d_Value_finishFraction_10 : decode b_Value_finishFraction 10 = .ok (.aload_n 0, 1) := by decide +kernel
theorem d_Value_finishFraction_11 : decode b_Value_finishFraction 11 = .ok (.aload_n 0, 1) := by decide +kernel
theorem d_Value_finishFraction_12 : decode b_Value_finishFraction 12 = .ok (.getfield 9, 3) := by decide +kernel
theorem d_Value_finishFraction_15 : decode b_Value_finishFraction 15 = .ok (.iconst 0, 1) := by decide +kernel
theorem d_Value_finishFraction_16 : decode b_Value_finishFraction 16 = .ok (.iaload, 1) := by decide +kernel
theorem d_Value_finishFraction_17 : decode b_Value_finishFraction 17 = .ok (.ifCond .le 7, 3) := by decide +kernel
theorem d_Value_finishFraction_24 : decode b_Value_finishFraction 24 = .ok (.iconst 0, 1) := by decide +kernel
theorem d_Value_finishFraction_25 : decode b_Value_finishFraction 25 = .ok (.putfield 37, 3) := by decide +kernel
theorem d_Value_finishFraction_28 : decode b_Value_finishFraction 28 = .ok (.aload_n 0, 1) := by decide +kernel
theorem d_Value_finishFraction_29 : decode b_Value_finishFraction 29 = .ok (.iconst 0, 1) := by decide +kernel
theorem d_Value_finishFraction_30 : decode b_Value_finishFraction 30 = .ok (.putfield 40, 3) := by decide +kernel
theorem d_Value_finishFraction_33 : decode b_Value_finishFraction 33 = .ok (.aload_n 0, 1) := by decide +kernel
theorem d_Value_finishFraction_34 : decode b_Value_finishFraction 34 = .ok (.getfield 20, 3) := by decide +kernel
theorem d_Value_finishFraction_37 : decode b_Value_finishFraction 37 = .ok (.lconst 0, 1) := by decide +kernel
theorem d_Value_finishFraction_38 : decode b_Value_finishFraction 38 = .ok (.invokevirtual 43, 3) := by decide +kernel
theorem d_Value_finishFraction_41 : decode b_Value_finishFraction 41 = .ok (.return_, 1) := by decide +kernel
theorem d_Value_hasPolynomialOf_0 : decode b_Value_hasPolynomialOf 0 = .ok (.aload_n 0, 1) := by decide +kernel
theorem d_Value_hasPolynomialOf_1 : decode b_Value_hasPolynomialOf 1 = .ok (.getfield 24, 3) := by decide +kernel
theorem d_Value_hasPolynomialOf_4 : decode b_Value_hasPolynomialOf 4 = .ok (.aload_n 1, 1) := by decide +kernel
theorem d_Value_hasPolynomialOf_5 : decode b_Value_hasPolynomialOf 5 = .ok (.getfield 24, 3) := by decide +kernel
theorem d_Value_hasPolynomialOf_8 : decode b_Value_hasPolynomialOf 8 = .ok (.if_icmp .eq 5, 3) := by decide +kernel
theorem d_Value_hasPolynomialOf_13 : decode b_Value_hasPolynomialOf 13 = .ok (.iconst 0, 1) := by decide +kernel
theorem d_Value_hasPolynomialOf_14 : decode b_Value_hasPolynomialOf 14 = .ok (.istore_n 2, 1) := by decide +kernel
theorem d_Value_hasPolynomialOf_15 : decode b_Value_hasPolynomialOf 15 = .ok (.iload_n 2, 1) := by decide +kernel
theorem d_Value_hasPolynomialOf_16 : decode b_Value_hasPolynomialOf 16 = .ok (.aload_n 0, 1) := by decide +kernel
theorem d_Value_hasPolynomialOf_17 : decode b_Value_hasPolynomialOf 17 = .ok (.getfield 24, 3) := by decide +kernel
theorem d_Value_hasPolynomialOf_20 : decode b_Value_hasPolynomialOf 20 = .ok (.if_icmp .gt 26, 3) := by decide +kernel
theorem d_Value_hasPolynomialOf_23 : decode b_Value_hasPolynomialOf 23 = .ok (.aload_n 0, 1) := by decide +kernel
theorem d_Value_hasPolynomialOf_24 : decode b_Value_hasPolynomialOf 24 = .ok (.getfield 9, 3) := by decide +kernel
theorem d_Value_hasPolynomialOf_27 : decode b_Value_hasPolynomialOf 27 = .ok (.iload_n 2, 1) := by decide +kernel
theorem d_Value_hasPolynomialOf_28 : decode b_Value_hasPolynomialOf 28 = .ok (.iaload, 1) := by decide +kernel
theorem d_Value_hasPolynomialOf_29 : decode b_Value_hasPolynomialOf 29 = .ok (.aload_n 1, 1) := by decide +kernel
theorem d_Value_hasPolynomialOf_30 : decode b_Value_hasPolynomialOf 30 = .ok (.getfield 9, 3) := by decide +kernel
theorem d_Value_hasPolynomialOf_33 : decode b_Value_hasPolynomialOf 33 = .ok (.iload_n 2, 1) := by decide +kernel
theorem d_Value_hasPolynomialOf_34 : decode b_Value_hasPolynomialOf 34 = .ok (.iaload, 1) := by decide +kernel
theorem d_Value_hasPolynomialOf_35 : decode b_Value_hasPolynomialOf 35 = .ok (.if_icmp .eq 5, 3) := by decide +kernel
theorem d_Value_hasPolynomialOf_40 : decode b_Value_hasPolynomialOf 40 = .ok (.iinc 2 1, 3) := by decide +kernel
theorem d_Value_hasPolynomialOf_43 : decode b_Value_hasPolynomialOf 43 = .ok (.goto (-28), 3) := by decide +kernel
theorem d_Value_hasPolynomialOf_46 : decode b_Value_hasPolynomialOf 46 = .ok (.iconst 1, 1) := by decide +kernel
theorem d_Value_hasPolynomialOf_47 : decode b_Value_hasPolynomialOf 47 = .ok (.ireturn, 1) := by decide +kernel
theorem d_Value_init_0 : decode b_Value_init 0 = .ok (.aload_n 0, 1) := by decide +kernel
theorem d_Value_init_1 : decode b_Value_init 1 = .ok (.invokespecial 3, 3) := by decide +kernel
theorem d_Value_init_4 : decode b_Value_init 4 = .ok (.aload_n 0, 1) := by decide +kernel
theorem d_Value_init_5 : decode b_Value_init 5 = .ok (.bipush 7, 2) := by decide +kernel
theorem d_Value_init_7 : decode b_Value_init 7 = .ok (.newarray .int, 2) := by decide +kernel
theorem d_Value_init_9 : decode b_Value_init 9 = .ok (.putfield 9, 3) := by decide +kernel
theorem d_Value_init_12 : decode b_Value_init 12 = .ok (.aload_n 0, 1) := by decide +kernel
theorem d_Value_init_13 : decode b_Value_init 13 = .ok (.new 15, 3) := by decide +kernel
theorem d_Value_init_16 : decode b_Value_init 16 = .ok (.dup, 1) := by decide +kernel
theorem d_Value_init_17 : decode b_Value_init 17 = .ok (.bipush 12, 2) := by decide +kernel
theorem d_Value_init_19 : decode b_Value_init 19 = .ok (.invokespecial 17, 3) := by decide +kernel
theorem d_Value_init_22 : decode b_Value_init 22 = .ok (.putfield 20, 3) := by decide +kernel
theorem d_Value_init_25 : decode b_Value_init 25 = .ok (.return_, 1) := by decide +kernel
theorem d_Value_setFraction_0 : decode b_Value_setFraction 0 = .ok (.aload_n 0, 1) := by decide +kernel
theorem d_Value_setFraction_1 : decode b_Value_setFraction 1 = .ok (.iconst 1, 1) := by decide +kernel
