/-! what each instruction is; laid by program -/
theorem d_Gauge_wholePart_13 : decode b_Gauge_wholePart 13 = .ok (.getfield 54, 3) := by decide +kernel
theorem d_Gauge_wholePart_16 : decode b_Gauge_wholePart 16 = .ok (.iconst 0, 1) := by decide +kernel
theorem d_Gauge_wholePart_17 : decode b_Gauge_wholePart 17 = .ok (.iaload, 1) := by decide +kernel
theorem d_Gauge_wholePart_18 : decode b_Gauge_wholePart 18 = .ok (.i2l, 1) := by decide +kernel
theorem d_Gauge_wholePart_19 : decode b_Gauge_wholePart 19 = .ok (.lneg, 1) := by decide +kernel
theorem d_Gauge_wholePart_20 : decode b_Gauge_wholePart 20 = .ok (.invokevirtual 58, 3) := by decide +kernel
theorem d_Gauge_wholePart_23 : decode b_Gauge_wholePart 23 = .ok (.aload_n 0, 1) := by decide +kernel
theorem d_Gauge_wholePart_24 : decode b_Gauge_wholePart 24 = .ok (.aload_n 0, 1) := by decide +kernel
theorem d_Gauge_wholePart_25 : decode b_Gauge_wholePart 25 = .ok (.getfield 42, 3) := by decide +kernel
theorem d_Gauge_wholePart_28 : decode b_Gauge_wholePart 28 = .ok (.iload_n 2, 1) := by decide +kernel
theorem d_Gauge_wholePart_29 : decode b_Gauge_wholePart 29 = .ok (.invokevirtual 147, 3) := by decide +kernel
theorem d_Gauge_wholePart_32 : decode b_Gauge_wholePart 32 = .ok (.aload_n 0, 1) := by decide +kernel
theorem d_Gauge_wholePart_33 : decode b_Gauge_wholePart 33 = .ok (.getfield 42, 3) := by decide +kernel
theorem d_Gauge_wholePart_36 : decode b_Gauge_wholePart 36 = .ok (.aload_n 1, 1) := by decide +kernel
theorem d_Gauge_wholePart_37 : decode b_Gauge_wholePart 37 = .ok (.getfield 54, 3) := by decide +kernel
theorem d_Gauge_wholePart_40 : decode b_Gauge_wholePart 40 = .ok (.iconst 1, 1) := by decide +kernel
theorem d_Gauge_wholePart_41 : decode b_Gauge_wholePart 41 = .ok (.iaload, 1) := by decide +kernel
theorem d_Gauge_wholePart_42 : decode b_Gauge_wholePart 42 = .ok (.invokevirtual 65, 3) := by decide +kernel
theorem d_Gauge_wholePart_45 : decode b_Gauge_wholePart 45 = .ok (.aload_n 0, 1) := by decide +kernel
theorem d_Gauge_wholePart_46 : decode b_Gauge_wholePart 46 = .ok (.getfield 42, 3) := by decide +kernel
theorem d_Gauge_wholePart_49 : decode b_Gauge_wholePart 49 = .ok (.areturn, 1) := by decide +kernel
theorem d_Integer_compare_0 : decode b_Integer_compare 0 = .ok (.iload_n 0, 1) := by decide +kernel
theorem d_Integer_compare_1 : decode b_Integer_compare 1 = .ok (.iload_n 1, 1) := by decide +kernel
theorem d_Integer_compare_2 : decode b_Integer_compare 2 = .ok (.if_icmp .ge 7, 3) := by decide +kernel
theorem d_Integer_compare_9 : decode b_Integer_compare 9 = .ok (.iload_n 0, 1) := by decide +kernel
theorem d_Integer_compare_10 : decode b_Integer_compare 10 = .ok (.iload_n 1, 1) := by decide +kernel
theorem d_Integer_compare_11 : decode b_Integer_compare 11 = .ok (.if_icmp .ne 7, 3) := by decide +kernel
theorem d_Integer_compare_14 : decode b_Integer_compare 14 = .ok (.iconst 0, 1) := by decide +kernel
theorem d_Integer_compare_15 : decode b_Integer_compare 15 = .ok (.goto 4, 3) := by decide +kernel
theorem d_Integer_compare_19 : decode b_Integer_compare 19 = .ok (.ireturn, 1) := by decide +kernel
theorem d_Isolator_init_0 : decode b_Isolator_init 0 = .ok (.aload_n 0, 1) := by decide +kernel
theorem d_Isolator_init_1 : decode b_Isolator_init 1 = .ok (.invokespecial 1, 3) := by decide +kernel
theorem d_Isolator_init_4 : decode b_Isolator_init 4 = .ok (.aload_n 0, 1) := by decide +kernel
theorem d_Isolator_init_5 : decode b_Isolator_init 5 = .ok (.bipush 13, 2) := by decide +kernel
theorem d_Isolator_init_7 : decode b_Isolator_init 7 = .ok (.anewarray 9, 3) := by decide +kernel
theorem d_Isolator_init_10 : decode b_Isolator_init 10 = .ok (.putfield 11, 3) := by decide +kernel
theorem d_Isolator_init_13 : decode b_Isolator_init 13 = .ok (.aload_n 0, 1) := by decide +kernel
theorem d_Isolator_init_14 : decode b_Isolator_init 14 = .ok (.bipush 13, 2) := by decide +kernel
theorem d_Isolator_init_16 : decode b_Isolator_init 16 = .ok (.anewarray 9, 3) := by decide +kernel
theorem d_Isolator_init_19 : decode b_Isolator_init 19 = .ok (.putfield 17, 3) := by decide +kernel
theorem d_Isolator_init_22 : decode b_Isolator_init 22 = .ok (.iconst 0, 1) := by decide +kernel
theorem d_Isolator_init_23 : decode b_Isolator_init 23 = .ok (.istore_n 1, 1) := by decide +kernel
theorem d_Isolator_init_24 : decode b_Isolator_init 24 = .ok (.iload_n 1, 1) := by decide +kernel
theorem d_Isolator_init_25 : decode b_Isolator_init 25 = .ok (.bipush 12, 2) := by decide +kernel
theorem d_Isolator_init_27 : decode b_Isolator_init 27 = .ok (.if_icmp .gt 39, 3) := by decide +kernel
theorem d_Isolator_init_30 : decode b_Isolator_init 30 = .ok (.aload_n 0, 1) := by decide +kernel
theorem d_Isolator_init_31 : decode b_Isolator_init 31 = .ok (.getfield 11, 3) := by decide +kernel
theorem d_Isolator_init_34 : decode b_Isolator_init 34 = .ok (.iload_n 1, 1) := by decide +kernel
theorem d_Isolator_init_35 : decode b_Isolator_init 35 = .ok (.new 9, 3) := by decide +kernel
theorem d_Isolator_init_38 : decode b_Isolator_init 38 = .ok (.dup, 1) := by decide +kernel
theorem d_Isolator_init_39 : decode b_Isolator_init 39 = .ok (.bipush 96, 2) := by decide +kernel
theorem d_Isolator_init_41 : decode b_Isolator_init 41 = .ok (.invokespecial 20, 3) := by decide +kernel
theorem d_Isolator_init_44 : decode b_Isolator_init 44 = .ok (.aastore, 1) := by decide +kernel
theorem d_Isolator_init_45 : decode b_Isolator_init 45 = .ok (.aload_n 0, 1) := by decide +kernel
theorem d_Isolator_init_46 : decode b_Isolator_init 46 = .ok (.getfield 17, 3) := by decide +kernel
theorem d_Isolator_init_49 : decode b_Isolator_init 49 = .ok (.iload_n 1, 1) := by decide +kernel
theorem d_Isolator_init_50 : decode b_Isolator_init 50 = .ok (.new 9, 3) := by decide +kernel
theorem d_Isolator_init_53 : decode b_Isolator_init 53 = .ok (.dup, 1) := by decide +kernel
theorem d_Isolator_init_54 : decode b_Isolator_init 54 = .ok (.bipush 96, 2) := by decide +kernel
theorem d_Isolator_init_56 : decode b_Isolator_init 56 = .ok (.invokespecial 20, 3) := by decide +kernel
theorem d_Isolator_init_59 : decode b_Isolator_init 59 = .ok (.aastore, 1) := by decide +kernel
theorem d_Isolator_init_60 : decode b_Isolator_init 60 = .ok (.iinc 1 1, 3) := by decide +kernel
theorem d_Isolator_init_63 : decode b_Isolator_init 63 = .ok (.goto (-39), 3) := by decide +kernel
theorem d_Isolator_init_66 : decode b_Isolator_init 66 = .ok (.aload_n 0, 1) := by decide +kernel
theorem d_Isolator_init_67 : decode b_Isolator_init 67 = .ok (.new 9, 3) := by decide +kernel
theorem d_Isolator_init_70 : decode b_Isolator_init 70 = .ok (.dup, 1) := by decide +kernel
theorem d_Isolator_init_71 : decode b_Isolator_init 71 = .ok (.bipush 12, 2) := by decide +kernel
theorem d_Isolator_init_73 : decode b_Isolator_init 73 = .ok (.invokespecial 20, 3) := by decide +kernel
theorem d_Isolator_init_76 : decode b_Isolator_init 76 = .ok (.putfield 25, 3) := by decide +kernel
theorem d_Isolator_init_79 : decode b_Isolator_init 79 = .ok (.aload_n 0, 1) := by decide +kernel
theorem d_Isolator_init_80 : decode b_Isolator_init 80 = .ok (.bipush 12, 2) := by decide +kernel
theorem d_Isolator_init_82 : decode b_Isolator_init 82 = .ok (.anewarray 9, 3) := by decide +kernel
theorem d_Isolator_init_85 : decode b_Isolator_init 85 = .ok (.putfield 29, 3) := by decide +kernel
theorem d_Isolator_init_88 : decode b_Isolator_init 88 = .ok (.iconst 0, 1) := by decide +kernel
theorem d_Isolator_init_89 : decode b_Isolator_init 89 = .ok (.istore_n 1, 1) := by decide +kernel
theorem d_Isolator_init_90 : decode b_Isolator_init 90 = .ok (.iload_n 1, 1) := by decide +kernel
theorem d_Isolator_init_91 : decode b_Isolator_init 91 = .ok (.bipush 12, 2) := by decide +kernel
theorem d_Isolator_init_93 : decode b_Isolator_init 93 = .ok (.if_icmp .ge 24, 3) := by decide +kernel
theorem d_Isolator_init_96 : decode b_Isolator_init 96 = .ok (.aload_n 0, 1) := by decide +kernel
theorem d_Isolator_init_97 : decode b_Isolator_init 97 = .ok (.getfield 29, 3) := by decide +kernel
theorem d_Isolator_init_100 : decode b_Isolator_init 100 = .ok (.iload_n 1, 1) := by decide +kernel
theorem d_Isolator_init_101 : decode b_Isolator_init 101 = .ok (.new 9, 3) := by decide +kernel
theorem d_Isolator_init_104 : decode b_Isolator_init 104 = .ok (.dup, 1) := by decide +kernel
theorem d_Isolator_init_105 : decode b_Isolator_init 105 = .ok (.bipush 12, 2) := by decide +kernel
theorem d_Isolator_init_107 : decode b_Isolator_init 107 = .ok (.invokespecial 20, 3) := by decide +kernel
theorem d_Isolator_init_110 : decode b_Isolator_init 110 = .ok (.aastore, 1) := by decide +kernel
theorem d_Isolator_init_111 : decode b_Isolator_init 111 = .ok (.iinc 1 1, 3) := by decide +kernel
theorem d_Isolator_init_114 : decode b_Isolator_init 114 = .ok (.goto (-24), 3) := by decide +kernel
theorem d_Isolator_init_117 : decode b_Isolator_init 117 = .ok (.aload_n 0, 1) := by decide +kernel
theorem d_Isolator_init_118 : decode b_Isolator_init 118 = .ok (.bipush 12, 2) := by decide +kernel
theorem d_Isolator_init_120 : decode b_Isolator_init 120 = .ok (.newarray .int, 2) := by decide +kernel
theorem d_Isolator_init_122 : decode b_Isolator_init 122 = .ok (.putfield 32, 3) := by decide +kernel
theorem d_Isolator_init_125 : decode b_Isolator_init 125 = .ok (.aload_n 0, 1) := by decide +kernel
theorem d_Isolator_init_126 : decode b_Isolator_init 126 = .ok (.bipush 12, 2) := by decide +kernel
theorem d_Isolator_init_128 : decode b_Isolator_init 128 = .ok (.newarray .boolean, 2) := by decide +kernel
theorem d_Isolator_init_130 : decode b_Isolator_init 130 = .ok (.putfield 36, 3) := by decide +kernel
theorem d_Isolator_init_133 : decode b_Isolator_init 133 = .ok (.return_, 1) := by decide +kernel
theorem d_Md_against_0 : decode b_Md_against 0 = .ok (.aload_n 0, 1) := by decide +kernel
theorem d_Md_against_1 : decode b_Md_against 1 = .ok (.getfield 24, 3) := by decide +kernel
theorem d_Md_against_4 : decode b_Md_against 4 = .ok (.iload_n 1, 1) := by decide +kernel
theorem d_Md_against_5 : decode b_Md_against 5 = .ok (.iaload, 1) := by decide +kernel
theorem d_Md_against_6 : decode b_Md_against 6 = .ok (.aload_n 0, 1) := by decide +kernel
theorem d_Md_against_7 : decode b_Md_against 7 = .ok (.getfield 24, 3) := by decide +kernel
theorem d_Md_against_10 : decode b_Md_against 10 = .ok (.iload_n 2, 1) := by decide +kernel
theorem d_Md_against_11 : decode b_Md_against 11 = .ok (.iaload, 1) := by decide +kernel
theorem d_Md_against_12 : decode b_Md_against 12 = .ok (.if_icmp .ne 7, 3) := by decide +kernel
theorem d_Md_against_15 : decode b_Md_against 15 = .ok (.iconst 1, 1) := by decide +kernel
theorem d_Md_against_16 : decode b_Md_against 16 = .ok (.goto 4, 3) := by decide +kernel
theorem d_Md_against_20 : decode b_Md_against 20 = .ok (.istore_n 3, 1) := by decide +kernel
theorem d_Md_against_21 : decode b_Md_against 21 = .ok (.iconst 0, 1) := by decide +kernel
theorem d_Md_against_22 : decode b_Md_against 22 = .ok (.istore 4, 2) := by decide +kernel
theorem d_Md_against_24 : decode b_Md_against 24 = .ok (.iload 4, 2) := by decide +kernel
theorem d_Md_against_26 : decode b_Md_against 26 = .ok (.bipush 7, 2) := by decide +kernel
theorem d_Md_against_28 : decode b_Md_against 28 = .ok (.if_icmp .ge 58, 3) := by decide +kernel
theorem d_Md_against_31 : decode b_Md_against 31 = .ok (.iload_n 3, 1) := by decide +kernel
theorem d_Md_against_32 : decode b_Md_against 32 = .ok (.ifCond .eq 46, 3) := by decide +kernel
theorem d_Md_against_35 : decode b_Md_against 35 = .ok (.iload 4, 2) := by decide +kernel
theorem d_Md_against_37 : decode b_Md_against 37 = .ok (.aload_n 0, 1) := by decide +kernel
theorem d_Md_against_38 : decode b_Md_against 38 = .ok (.getfield 24, 3) := by decide +kernel
theorem d_Md_against_41 : decode b_Md_against 41 = .ok (.iload_n 1, 1) := by decide +kernel
theorem d_Md_against_42 : decode b_Md_against 42 = .ok (.iaload, 1) := by decide +kernel
theorem d_Md_against_43 : decode b_Md_against 43 = .ok (.if_icmp .gt 31, 3) := by decide +kernel
theorem d_Md_against_46 : decode b_Md_against 46 = .ok (.aload_n 0, 1) := by decide +kernel
theorem d_Md_against_47 : decode b_Md_against 47 = .ok (.getfield 27, 3) := by decide +kernel
theorem d_Md_against_50 : decode b_Md_against 50 = .ok (.bipush 7, 2) := by decide +kernel
theorem d_Md_against_52 : decode b_Md_against 52 = .ok (.iload_n 1, 1) := by decide +kernel
theorem d_Md_against_53 : decode b_Md_against 53 = .ok (.imul, 1) := by decide +kernel
theorem d_Md_against_54 : decode b_Md_against 54 = .ok (.iload 4, 2) := by decide +kernel
theorem d_Md_against_56 : decode b_Md_against 56 = .ok (.iadd, 1) := by decide +kernel
theorem d_Md_against_57 : decode b_Md_against 57 = .ok (.laload, 1) := by decide +kernel
theorem d_Md_against_58 : decode b_Md_against 58 = .ok (.aload_n 0, 1) := by decide +kernel
theorem d_Md_against_59 : decode b_Md_against 59 = .ok (.getfield 27, 3) := by decide +kernel
theorem d_Md_against_62 : decode b_Md_against 62 = .ok (.bipush 7, 2) := by decide +kernel
theorem d_Md_against_64 : decode b_Md_against 64 = .ok (.iload_n 2, 1) := by decide +kernel
theorem d_Md_against_65 : decode b_Md_against 65 = .ok (.imul, 1) := by decide +kernel
theorem d_Md_against_66 : decode b_Md_against 66 = .ok (.iload 4, 2) := by decide +kernel
theorem d_Md_against_68 : decode b_Md_against 68 = .ok (.iadd, 1) := by decide +kernel
theorem d_Md_against_69 : decode b_Md_against 69 = .ok (.laload, 1) := by decide +kernel
theorem d_Md_against_70 : decode b_Md_against 70 = .ok (.lcmp, 1) := by decide +kernel
theorem d_Md_against_71 : decode b_Md_against 71 = .ok (.ifCond .ne 7, 3) := by decide +kernel
theorem d_Md_against_74 : decode b_Md_against 74 = .ok (.iconst 1, 1) := by decide +kernel
theorem d_Md_against_75 : decode b_Md_against 75 = .ok (.goto 4, 3) := by decide +kernel
theorem d_Md_against_79 : decode b_Md_against 79 = .ok (.istore_n 3, 1) := by decide +kernel
theorem d_Md_against_80 : decode b_Md_against 80 = .ok (.iinc 4 1, 3) := by decide +kernel
theorem d_Md_against_83 : decode b_Md_against 83 = .ok (.goto (-59), 3) := by decide +kernel
theorem d_Md_against_86 : decode b_Md_against 86 = .ok (.iload_n 3, 1) := by decide +kernel
theorem d_Md_against_87 : decode b_Md_against 87 = .ok (.ifCond .eq 43, 3) := by decide +kernel
theorem d_Md_against_90 : decode b_Md_against 90 = .ok (.aload_n 0, 1) := by decide +kernel
theorem d_Md_against_91 : decode b_Md_against 91 = .ok (.getfield 31, 3) := by decide +kernel
theorem d_Md_against_94 : decode b_Md_against 94 = .ok (.iload_n 1, 1) := by decide +kernel
theorem d_Md_against_95 : decode b_Md_against 95 = .ok (.iaload, 1) := by decide +kernel
theorem d_Md_against_96 : decode b_Md_against 96 = .ok (.aload_n 0, 1) := by decide +kernel
theorem d_Md_against_97 : decode b_Md_against 97 = .ok (.getfield 31, 3) := by decide +kernel
theorem d_Md_against_100 : decode b_Md_against 100 = .ok (.iload_n 2, 1) := by decide +kernel
theorem d_Md_against_101 : decode b_Md_against 101 = .ok (.iaload, 1) := by decide +kernel
theorem d_Md_against_102 : decode b_Md_against 102 = .ok (.if_icmp .ge 7, 3) := by decide +kernel
theorem d_Md_against_109 : decode b_Md_against 109 = .ok (.aload_n 0, 1) := by decide +kernel
theorem d_Md_against_110 : decode b_Md_against 110 = .ok (.getfield 31, 3) := by decide +kernel
theorem d_Md_against_113 : decode b_Md_against 113 = .ok (.iload_n 1, 1) := by decide +kernel
theorem d_Md_against_114 : decode b_Md_against 114 = .ok (.iaload, 1) := by decide +kernel
theorem d_Md_against_115 : decode b_Md_against 115 = .ok (.aload_n 0, 1) := by decide +kernel
theorem d_Md_against_116 : decode b_Md_against 116 = .ok (.getfield 31, 3) := by decide +kernel
theorem d_Md_against_119 : decode b_Md_against 119 = .ok (.iload_n 2, 1) := by decide +kernel
theorem d_Md_against_120 : decode b_Md_against 120 = .ok (.iaload, 1) := by decide +kernel
theorem d_Md_against_121 : decode b_Md_against 121 = .ok (.if_icmp .le 7, 3) := by decide +kernel
theorem d_Md_against_128 : decode b_Md_against 128 = .ok (.iconst 0, 1) := by decide +kernel
theorem d_Md_against_129 : decode b_Md_against 129 = .ok (.ireturn, 1) := by decide +kernel
theorem d_Md_bars_0 : decode b_Md_bars 0 = .ok (.aload_n 0, 1) := by decide +kernel
theorem d_Md_bars_1 : decode b_Md_bars 1 = .ok (.iload_n 1, 1) := by decide +kernel
theorem d_Md_bars_2 : decode b_Md_bars 2 = .ok (.invokestatic 594, 3) := by decide +kernel
theorem d_Md_bars_5 : decode b_Md_bars 5 = .ok (.ifCond .ne 7, 3) := by decide +kernel
theorem d_Md_bars_8 : decode b_Md_bars 8 = .ok (.iconst 1, 1) := by decide +kernel
theorem d_Md_bars_9 : decode b_Md_bars 9 = .ok (.goto 4, 3) := by decide +kernel
theorem d_Md_bars_12 : decode b_Md_bars 12 = .ok (.iconst 0, 1) := by decide +kernel
theorem d_Md_bars_13 : decode b_Md_bars 13 = .ok (.iconst 1, 1) := by decide +kernel
theorem d_Md_bars_14 : decode b_Md_bars 14 = .ok (.invokevirtual 581, 3) := by decide +kernel
theorem d_Md_bars_17 : decode b_Md_bars 17 = .ok (.ifCond .ne 25, 3) := by decide +kernel
theorem d_Md_bars_20 : decode b_Md_bars 20 = .ok (.aload_n 0, 1) := by decide +kernel
theorem d_Md_bars_21 : decode b_Md_bars 21 = .ok (.aload_n 0, 1) := by decide +kernel
theorem d_Md_bars_22 : decode b_Md_bars 22 = .ok (.getfield 20, 3) := by decide +kernel
theorem d_Md_bars_25 : decode b_Md_bars 25 = .ok (.iload_n 1, 1) := by decide +kernel
theorem d_Md_bars_26 : decode b_Md_bars 26 = .ok (.baload, 1) := by decide +kernel
theorem d_Md_bars_27 : decode b_Md_bars 27 = .ok (.ifCond .ne 7, 3) := by decide +kernel
theorem d_Md_bars_30 : decode b_Md_bars 30 = .ok (.iconst 1, 1) := by decide +kernel
theorem d_Md_bars_31 : decode b_Md_bars 31 = .ok (.goto 4, 3) := by decide +kernel
theorem d_Md_bars_34 : decode b_Md_bars 34 = .ok (.iconst 0, 1) := by decide +kernel
theorem d_Md_bars_35 : decode b_Md_bars 35 = .ok (.iconst 2, 1) := by decide +kernel
theorem d_Md_bars_36 : decode b_Md_bars 36 = .ok (.invokevirtual 581, 3) := by decide +kernel
theorem d_Md_bars_39 : decode b_Md_bars 39 = .ok (.ifCond .eq 7, 3) := by decide +kernel
theorem d_Md_bars_42 : decode b_Md_bars 42 = .ok (.iconst 1, 1) := by decide +kernel
theorem d_Md_bars_43 : decode b_Md_bars 43 = .ok (.goto 4, 3) := by decide +kernel
theorem d_Md_bars_46 : decode b_Md_bars 46 = .ok (.iconst 0, 1) := by decide +kernel
theorem d_Md_bars_47 : decode b_Md_bars 47 = .ok (.ireturn, 1) := by decide +kernel
theorem d_Md_coefficient_0 : decode b_Md_coefficient 0 = .ok (.aload_n 0, 1) := by decide +kernel
theorem d_Md_coefficient_1 : decode b_Md_coefficient 1 = .ok (.iload_n 1, 1) := by decide +kernel
theorem d_Md_coefficient_2 : decode b_Md_coefficient 2 = .ok (.invokevirtual 597, 3) := by decide +kernel
theorem d_Md_coefficient_5 : decode b_Md_coefficient 5 = .ok (.ifCond .ne 32, 3) := by decide +kernel
theorem d_Md_coefficient_8 : decode b_Md_coefficient 8 = .ok (.aload_n 0, 1) := by decide +kernel
theorem d_Md_coefficient_9 : decode b_Md_coefficient 9 = .ok (.iload_n 2, 1) := by decide +kernel
theorem d_Md_coefficient_10 : decode b_Md_coefficient 10 = .ok (.i2l, 1) := by decide +kernel
theorem d_Md_coefficient_11 : decode b_Md_coefficient 11 = .ok (.lconst 0, 1) := by decide +kernel
theorem d_Md_coefficient_12 : decode b_Md_coefficient 12 = .ok (.aload_n 0, 1) := by decide +kernel
theorem d_Md_coefficient_13 : decode b_Md_coefficient 13 = .ok (.getfield 24, 3) := by decide +kernel
theorem d_Md_coefficient_16 : decode b_Md_coefficient 16 = .ok (.iload_n 1, 1) := by decide +kernel
theorem d_Md_coefficient_17 : decode b_Md_coefficient 17 = .ok (.iaload, 1) := by decide +kernel
theorem d_Md_coefficient_18 : decode b_Md_coefficient 18 = .ok (.i2l, 1) := by decide +kernel
theorem d_Md_coefficient_19 : decode b_Md_coefficient 19 = .ok (.invokestatic 446, 3) := by decide +kernel
theorem d_Md_coefficient_22 : decode b_Md_coefficient 22 = .ok (.ifCond .ne 7, 3) := by decide +kernel
theorem d_Md_coefficient_25 : decode b_Md_coefficient 25 = .ok (.iconst 1, 1) := by decide +kernel
theorem d_Md_coefficient_26 : decode b_Md_coefficient 26 = .ok (.goto 4, 3) := by decide +kernel
theorem d_Md_coefficient_29 : decode b_Md_coefficient 29 = .ok (.iconst 0, 1) := by decide +kernel
theorem d_Md_coefficient_30 : decode b_Md_coefficient 30 = .ok (.iconst 2, 1) := by decide +kernel
theorem d_Md_coefficient_31 : decode b_Md_coefficient 31 = .ok (.invokevirtual 581, 3) := by decide +kernel
theorem d_Md_coefficient_34 : decode b_Md_coefficient 34 = .ok (.ifCond .eq 5, 3) := by decide +kernel
theorem d_Md_coefficient_37 : decode b_Md_coefficient 37 = .ok (.iconst 0, 1) := by decide +kernel
theorem d_Md_coefficient_38 : decode b_Md_coefficient 38 = .ok (.ireturn, 1) := by decide +kernel
theorem d_Md_coefficient_39 : decode b_Md_coefficient 39 = .ok (.aload_n 0, 1) := by decide +kernel
theorem d_Md_coefficient_40 : decode b_Md_coefficient 40 = .ok (.getfield 27, 3) := by decide +kernel
theorem d_Md_coefficient_43 : decode b_Md_coefficient 43 = .ok (.bipush 7, 2) := by decide +kernel
theorem d_Md_coefficient_45 : decode b_Md_coefficient 45 = .ok (.iload_n 1, 1) := by decide +kernel
theorem d_Md_coefficient_46 : decode b_Md_coefficient 46 = .ok (.imul, 1) := by decide +kernel
theorem d_Md_coefficient_47 : decode b_Md_coefficient 47 = .ok (.iload_n 2, 1) := by decide +kernel
theorem d_Md_coefficient_48 : decode b_Md_coefficient 48 = .ok (.iadd, 1) := by decide +kernel
theorem d_Md_coefficient_49 : decode b_Md_coefficient 49 = .ok (.laload, 1) := by decide +kernel
theorem d_Md_coefficient_50 : decode b_Md_coefficient 50 = .ok (.l2i, 1) := by decide +kernel
theorem d_Md_coefficient_51 : decode b_Md_coefficient 51 = .ok (.ireturn, 1) := by decide +kernel
theorem d_Md_compare_0 : decode b_Md_compare 0 = .ok (.aload_n 0, 1) := by decide +kernel
theorem d_Md_compare_1 : decode b_Md_compare 1 = .ok (.iload_n 1, 1) := by decide +kernel
theorem d_Md_compare_2 : decode b_Md_compare 2 = .ok (.invokestatic 594, 3) := by decide +kernel
theorem d_Md_compare_5 : decode b_Md_compare 5 = .ok (.ifCond .eq 10, 3) := by decide +kernel
theorem d_Md_compare_8 : decode b_Md_compare 8 = .ok (.iload_n 2, 1) := by decide +kernel
theorem d_Md_compare_9 : decode b_Md_compare 9 = .ok (.invokestatic 594, 3) := by decide +kernel
theorem d_Md_compare_12 : decode b_Md_compare 12 = .ok (.ifCond .ne 7, 3) := by decide +kernel
theorem d_Md_compare_15 : decode b_Md_compare 15 = .ok (.iconst 1, 1) := by decide +kernel
theorem d_Md_compare_16 : decode b_Md_compare 16 = .ok (.goto 4, 3) := by decide +kernel
theorem d_Md_compare_19 : decode b_Md_compare 19 = .ok (.iconst 0, 1) := by decide +kernel
theorem d_Md_compare_20 : decode b_Md_compare 20 = .ok (.iconst 1, 1) := by decide +kernel
theorem d_Md_compare_21 : decode b_Md_compare 21 = .ok (.invokevirtual 581, 3) := by decide +kernel
theorem d_Md_compare_24 : decode b_Md_compare 24 = .ok (.ifCond .ne 34, 3) := by decide +kernel
theorem d_Md_compare_27 : decode b_Md_compare 27 = .ok (.aload_n 0, 1) := by decide +kernel
theorem d_Md_compare_28 : decode b_Md_compare 28 = .ok (.aload_n 0, 1) := by decide +kernel
theorem d_Md_compare_29 : decode b_Md_compare 29 = .ok (.getfield 20, 3) := by decide +kernel
theorem d_Md_compare_32 : decode b_Md_compare 32 = .ok (.iload_n 1, 1) := by decide +kernel
theorem d_Md_compare_33 : decode b_Md_compare 33 = .ok (.baload, 1) := by decide +kernel
theorem d_Md_compare_34 : decode b_Md_compare 34 = .ok (.ifCond .eq 12, 3) := by decide +kernel
theorem d_Md_compare_37 : decode b_Md_compare 37 = .ok (.aload_n 0, 1) := by decide +kernel
theorem d_Md_compare_38 : decode b_Md_compare 38 = .ok (.getfield 20, 3) := by decide +kernel
theorem d_Md_compare_41 : decode b_Md_compare 41 = .ok (.iload_n 2, 1) := by decide +kernel
theorem d_Md_compare_42 : decode b_Md_compare 42 = .ok (.baload, 1) := by decide +kernel
theorem d_Md_compare_43 : decode b_Md_compare 43 = .ok (.ifCond .ne 7, 3) := by decide +kernel
theorem d_Md_compare_46 : decode b_Md_compare 46 = .ok (.iconst 1, 1) := by decide +kernel
theorem d_Md_compare_47 : decode b_Md_compare 47 = .ok (.goto 4, 3) := by decide +kernel
theorem d_Md_compare_50 : decode b_Md_compare 50 = .ok (.iconst 0, 1) := by decide +kernel
theorem d_Md_compare_51 : decode b_Md_compare 51 = .ok (.iconst 2, 1) := by decide +kernel
theorem d_Md_compare_52 : decode b_Md_compare 52 = .ok (.invokevirtual 581, 3) := by decide +kernel
theorem d_Md_compare_55 : decode b_Md_compare 55 = .ok (.ifCond .eq 5, 3) := by decide +kernel
theorem d_Md_compare_58 : decode b_Md_compare 58 = .ok (.iconst 0, 1) := by decide +kernel
theorem d_Md_compare_59 : decode b_Md_compare 59 = .ok (.ireturn, 1) := by decide +kernel
theorem d_Md_compare_60 : decode b_Md_compare 60 = .ok (.aload_n 0, 1) := by decide +kernel
theorem d_Md_compare_61 : decode b_Md_compare 61 = .ok (.iload_n 1, 1) := by decide +kernel
theorem d_Md_compare_62 : decode b_Md_compare 62 = .ok (.iload_n 2, 1) := by decide +kernel
theorem d_Md_compare_63 : decode b_Md_compare 63 = .ok (.invokevirtual 475, 3) := by decide +kernel
theorem d_Md_compare_66 : decode b_Md_compare 66 = .ok (.ireturn, 1) := by decide +kernel
theorem d_Md_degree_0 : decode b_Md_degree 0 = .ok (.aload_n 0, 1) := by decide +kernel
theorem d_Md_degree_1 : decode b_Md_degree 1 = .ok (.iload_n 1, 1) := by decide +kernel
theorem d_Md_degree_2 : decode b_Md_degree 2 = .ok (.invokestatic 594, 3) := by decide +kernel
theorem d_Md_degree_5 : decode b_Md_degree 5 = .ok (.ifCond .ne 7, 3) := by decide +kernel
theorem d_Md_degree_8 : decode b_Md_degree 8 = .ok (.iconst 1, 1) := by decide +kernel
theorem d_Md_degree_9 : decode b_Md_degree 9 = .ok (.goto 4, 3) := by decide +kernel
theorem d_Md_degree_12 : decode b_Md_degree 12 = .ok (.iconst 0, 1) := by decide +kernel
theorem d_Md_degree_13 : decode b_Md_degree 13 = .ok (.iconst 1, 1) := by decide +kernel
theorem d_Md_degree_14 : decode b_Md_degree 14 = .ok (.invokevirtual 581, 3) := by decide +kernel
theorem d_Md_degree_17 : decode b_Md_degree 17 = .ok (.ifCond .eq 5, 3) := by decide +kernel
theorem d_Md_degree_20 : decode b_Md_degree 20 = .ok (.iconst 0, 1) := by decide +kernel
theorem d_Md_degree_21 : decode b_Md_degree 21 = .ok (.ireturn, 1) := by decide +kernel
theorem d_Md_degree_22 : decode b_Md_degree 22 = .ok (.aload_n 0, 1) := by decide +kernel
theorem d_Md_degree_23 : decode b_Md_degree 23 = .ok (.getfield 20, 3) := by decide +kernel
theorem d_Md_degree_26 : decode b_Md_degree 26 = .ok (.iload_n 1, 1) := by decide +kernel
theorem d_Md_degree_27 : decode b_Md_degree 27 = .ok (.baload, 1) := by decide +kernel
theorem d_Md_degree_28 : decode b_Md_degree 28 = .ok (.ifCond .eq 12, 3) := by decide +kernel
theorem d_Md_degree_31 : decode b_Md_degree 31 = .ok (.aload_n 0, 1) := by decide +kernel
theorem d_Md_degree_32 : decode b_Md_degree 32 = .ok (.getfield 24, 3) := by decide +kernel
theorem d_Md_degree_35 : decode b_Md_degree 35 = .ok (.iload_n 1, 1) := by decide +kernel
theorem d_Md_degree_36 : decode b_Md_degree 36 = .ok (.iaload, 1) := by decide +kernel
theorem d_Md_degree_37 : decode b_Md_degree 37 = .ok (.goto 4, 3) := by decide +kernel
theorem d_Md_degree_40 : decode b_Md_degree 40 = .ok (.iconst 0, 1) := by decide +kernel
theorem d_Md_degree_41 : decode b_Md_degree 41 = .ok (.ireturn, 1) := by decide +kernel
theorem d_Md_digit_0 : decode b_Md_digit 0 = .ok (.iload_n 2, 1) := by decide +kernel
theorem d_Md_digit_1 : decode b_Md_digit 1 = .ok (.ifCond .lt 28, 3) := by decide +kernel
theorem d_Md_digit_4 : decode b_Md_digit 4 = .ok (.iload_n 2, 1) := by decide +kernel
theorem d_Md_digit_5 : decode b_Md_digit 5 = .ok (.aload_n 0, 1) := by decide +kernel
theorem d_Md_digit_6 : decode b_Md_digit 6 = .ok (.getfield 41, 3) := by decide +kernel
theorem d_Md_digit_9 : decode b_Md_digit 9 = .ok (.iload_n 1, 1) := by decide +kernel
theorem d_Md_digit_10 : decode b_Md_digit 10 = .ok (.iaload, 1) := by decide +kernel
theorem d_Md_digit_11 : decode b_Md_digit 11 = .ok (.if_icmp .ge 18, 3) := by decide +kernel
theorem d_Md_digit_14 : decode b_Md_digit 14 = .ok (.aload_n 0, 1) := by decide +kernel
theorem d_Md_digit_15 : decode b_Md_digit 15 = .ok (.getfield 38, 3) := by decide +kernel
theorem d_Md_digit_18 : decode b_Md_digit 18 = .ok (.sipush 660, 3) := by decide +kernel
theorem d_Md_digit_21 : decode b_Md_digit 21 = .ok (.iload_n 1, 1) := by decide +kernel
theorem d_Md_digit_22 : decode b_Md_digit 22 = .ok (.imul, 1) := by decide +kernel
theorem d_Md_digit_23 : decode b_Md_digit 23 = .ok (.iload_n 2, 1) := by decide +kernel
theorem d_Md_digit_24 : decode b_Md_digit 24 = .ok (.iadd, 1) := by decide +kernel
theorem d_Md_digit_25 : decode b_Md_digit 25 = .ok (.laload, 1) := by decide +kernel
theorem d_Md_digit_26 : decode b_Md_digit 26 = .ok (.goto 4, 3) := by decide +kernel
theorem d_Md_digit_29 : decode b_Md_digit 29 = .ok (.lconst 0, 1) := by decide +kernel
theorem d_Md_digit_30 : decode b_Md_digit 30 = .ok (.lreturn, 1) := by decide +kernel
theorem d_Md_divided_0 : decode b_Md_divided 0 = .ok (.aload_n 0, 1) := by decide +kernel
theorem d_Md_divided_1 : decode b_Md_divided 1 = .ok (.getfield 44, 3) := by decide +kernel
theorem d_Md_divided_4 : decode b_Md_divided 4 = .ok (.iload_n 3, 1) := by decide +kernel
theorem d_Md_divided_5 : decode b_Md_divided 5 = .ok (.iaload, 1) := by decide +kernel
theorem d_Md_divided_6 : decode b_Md_divided 6 = .ok (.istore 5, 2) := by decide +kernel
theorem d_Md_divided_8 : decode b_Md_divided 8 = .ok (.aload_n 0, 1) := by decide +kernel
theorem d_Md_divided_9 : decode b_Md_divided 9 = .ok (.getfield 44, 3) := by decide +kernel
theorem d_Md_divided_12 : decode b_Md_divided 12 = .ok (.iload 4, 2) := by decide +kernel
theorem d_Md_divided_14 : decode b_Md_divided 14 = .ok (.iaload, 1) := by decide +kernel
theorem d_Md_divided_15 : decode b_Md_divided 15 = .ok (.istore 6, 2) := by decide +kernel
theorem d_Md_divided_17 : decode b_Md_divided 17 = .ok (.aload_n 0, 1) := by decide +kernel
theorem d_Md_divided_18 : decode b_Md_divided 18 = .ok (.getfield 41, 3) := by decide +kernel
theorem d_Md_divided_21 : decode b_Md_divided 21 = .ok (.iload 4, 2) := by decide +kernel
theorem d_Md_divided_23 : decode b_Md_divided 23 = .ok (.iaload, 1) := by decide +kernel
theorem d_Md_divided_24 : decode b_Md_divided 24 = .ok (.istore 7, 2) := by decide +kernel
theorem d_Md_divided_26 : decode b_Md_divided 26 = .ok (.aload_n 0, 1) := by decide +kernel
theorem d_Md_divided_27 : decode b_Md_divided 27 = .ok (.getfield 41, 3) := by decide +kernel
theorem d_Md_divided_30 : decode b_Md_divided 30 = .ok (.iload_n 3, 1) := by decide +kernel
theorem d_Md_divided_31 : decode b_Md_divided 31 = .ok (.iaload, 1) := by decide +kernel
theorem d_Md_divided_32 : decode b_Md_divided 32 = .ok (.istore 8, 2) := by decide +kernel
theorem d_Md_divided_34 : decode b_Md_divided 34 = .ok (.iconst 0, 1) := by decide +kernel
theorem d_Md_divided_35 : decode b_Md_divided 35 = .ok (.istore 9, 2) := by decide +kernel
theorem d_Md_divided_37 : decode b_Md_divided 37 = .ok (.aload_n 0, 1) := by decide +kernel
theorem d_Md_divided_38 : decode b_Md_divided 38 = .ok (.getfield 38, 3) := by decide +kernel
theorem d_Md_divided_41 : decode b_Md_divided 41 = .ok (.sipush 660, 3) := by decide +kernel
theorem d_Md_divided_44 : decode b_Md_divided 44 = .ok (.iload 4, 2) := by decide +kernel
theorem d_Md_divided_46 : decode b_Md_divided 46 = .ok (.imul, 1) := by decide +kernel
theorem d_Md_divided_47 : decode b_Md_divided 47 = .ok (.iload 7, 2) := by decide +kernel
theorem d_Md_divided_49 : decode b_Md_divided 49 = .ok (.iadd, 1) := by decide +kernel
theorem d_Md_divided_50 : decode b_Md_divided 50 = .ok (.iconst 1, 1) := by decide +kernel
theorem d_Md_divided_51 : decode b_Md_divided 51 = .ok (.isub, 1) := by decide +kernel
theorem d_Md_divided_52 : decode b_Md_divided 52 = .ok (.laload, 1) := by decide +kernel
theorem d_Md_divided_53 : decode b_Md_divided 53 = .ok (.iload 9, 2) := by decide +kernel
theorem d_Md_divided_55 : decode b_Md_divided 55 = .ok (.lshl, 1) := by decide +kernel
theorem d_Md_divided_56 : decode b_Md_divided 56 = .ok (.ldc2_w 182, 3) := by decide +kernel
theorem d_Md_divided_59 : decode b_Md_divided 59 = .ok (.lcmp, 1) := by decide +kernel
theorem d_Md_divided_60 : decode b_Md_divided 60 = .ok (.ifCond .ge 9, 3) := by decide +kernel
theorem d_Md_divided_63 : decode b_Md_divided 63 = .ok (.iinc 9 1, 3) := by decide +kernel
theorem d_Md_divided_66 : decode b_Md_divided 66 = .ok (.goto (-29), 3) := by decide +kernel
theorem d_Md_divided_69 : decode b_Md_divided 69 = .ok (.iconst 0, 1) := by decide +kernel
theorem d_Md_divided_70 : decode b_Md_divided 70 = .ok (.istore 10, 2) := by decide +kernel
theorem d_Md_divided_72 : decode b_Md_divided 72 = .ok (.iload 10, 2) := by decide +kernel
theorem d_Md_divided_74 : decode b_Md_divided 74 = .ok (.iload 7, 2) := by decide +kernel
theorem d_Md_divided_76 : decode b_Md_divided 76 = .ok (.if_icmp .ge 48, 3) := by decide +kernel
theorem d_Md_divided_79 : decode b_Md_divided 79 = .ok (.aload_n 0, 1) := by decide +kernel
theorem d_Md_divided_80 : decode b_Md_divided 80 = .ok (.getfield 50, 3) := by decide +kernel
theorem d_Md_divided_83 : decode b_Md_divided 83 = .ok (.iload 10, 2) := by decide +kernel
theorem d_Md_divided_85 : decode b_Md_divided 85 = .ok (.aload_n 0, 1) := by decide +kernel
theorem d_Md_divided_86 : decode b_Md_divided 86 = .ok (.iload 4, 2) := by decide +kernel
theorem d_Md_divided_88 : decode b_Md_divided 88 = .ok (.iload 10, 2) := by decide +kernel
theorem d_Md_divided_90 : decode b_Md_divided 90 = .ok (.invokevirtual 167, 3) := by decide +kernel
theorem d_Md_divided_93 : decode b_Md_divided 93 = .ok (.iload 9, 2) := by decide +kernel
theorem d_Md_divided_95 : decode b_Md_divided 95 = .ok (.lshl, 1) := by decide +kernel
theorem d_Md_divided_96 : decode b_Md_divided 96 = .ok (.aload_n 0, 1) := by decide +kernel
theorem d_Md_divided_97 : decode b_Md_divided 97 = .ok (.iload 4, 2) := by decide +kernel
theorem d_Md_divided_99 : decode b_Md_divided 99 = .ok (.iload 10, 2) := by decide +kernel
theorem d_Md_divided_101 : decode b_Md_divided 101 = .ok (.iconst 1, 1) := by decide +kernel
theorem d_Md_divided_102 : decode b_Md_divided 102 = .ok (.isub, 1) := by decide +kernel
theorem d_Md_divided_103 : decode b_Md_divided 103 = .ok (.invokevirtual 167, 3) := by decide +kernel
theorem d_Md_divided_106 : decode b_Md_divided 106 = .ok (.bipush 28, 2) := by decide +kernel
theorem d_Md_divided_108 : decode b_Md_divided 108 = .ok (.iload 9, 2) := by decide +kernel
theorem d_Md_divided_110 : decode b_Md_divided 110 = .ok (.isub, 1) := by decide +kernel
theorem d_Md_divided_111 : decode b_Md_divided 111 = .ok (.lshr, 1) := by decide +kernel
theorem d_Md_divided_112 : decode b_Md_divided 112 = .ok (.lor, 1) := by decide +kernel
theorem d_Md_divided_113 : decode b_Md_divided 113 = .ok (.ldc2_w 157, 3) := by decide +kernel
theorem d_Md_divided_116 : decode b_Md_divided 116 = .ok (.land, 1) := by decide +kernel
theorem d_Md_divided_117 : decode b_Md_divided 117 = .ok (.lastore, 1) := by decide +kernel
theorem d_Md_divided_118 : decode b_Md_divided 118 = .ok (.iinc 10 1, 3) := by decide +kernel
theorem d_Md_divided_121 : decode b_Md_divided 121 = .ok (.goto (-49), 3) := by decide +kernel
theorem d_Md_divided_124 : decode b_Md_divided 124 = .ok (.iconst 0, 1) := by decide +kernel
theorem d_Md_divided_125 : decode b_Md_divided 125 = .ok (.istore 10, 2) := by decide +kernel
theorem d_Md_divided_127 : decode b_Md_divided 127 = .ok (.iload 10, 2) := by decide +kernel
theorem d_Md_divided_129 : decode b_Md_divided 129 = .ok (.iload 8, 2) := by decide +kernel
theorem d_Md_divided_131 : decode b_Md_divided 131 = .ok (.if_icmp .gt 46, 3) := by decide +kernel
theorem d_Md_divided_134 : decode b_Md_divided 134 = .ok (.aload_n 0, 1) := by decide +kernel
theorem d_Md_divided_135 : decode b_Md_divided 135 = .ok (.getfield 53, 3) := by decide +kernel
theorem d_Md_divided_138 : decode b_Md_divided 138 = .ok (.iload 10, 2) := by decide +kernel
theorem d_Md_divided_140 : decode b_Md_divided 140 = .ok (.aload_n 0, 1) := by decide +kernel
theorem d_Md_divided_141 : decode b_Md_divided 141 = .ok (.iload_n 3, 1) := by decide +kernel
theorem d_Md_divided_142 : decode b_Md_divided 142 = .ok (.iload 10, 2) := by decide +kernel
theorem d_Md_divided_144 : decode b_Md_divided 144 = .ok (.invokevirtual 167, 3) := by decide +kernel
theorem d_Md_divided_147 : decode b_Md_divided 147 = .ok (.iload 9, 2) := by decide +kernel
theorem d_Md_divided_149 : decode b_Md_divided 149 = .ok (.lshl, 1) := by decide +kernel
theorem d_Md_divided_150 : decode b_Md_divided 150 = .ok (.aload_n 0, 1) := by decide +kernel
theorem d_Md_divided_151 : decode b_Md_divided 151 = .ok (.iload_n 3, 1) := by decide +kernel
theorem d_Md_divided_152 : decode b_Md_divided 152 = .ok (.iload 10, 2) := by decide +kernel
theorem d_Md_divided_154 : decode b_Md_divided 154 = .ok (.iconst 1, 1) := by decide +kernel
theorem d_Md_divided_155 : decode b_Md_divided 155 = .ok (.isub, 1) := by decide +kernel
theorem d_Md_divided_156 : decode b_Md_divided 156 = .ok (.invokevirtual 167, 3) := by decide +kernel
theorem d_Md_divided_159 : decode b_Md_divided 159 = .ok (.bipush 28, 2) := by decide +kernel
theorem d_Md_divided_161 : decode b_Md_divided 161 = .ok (.iload 9, 2) := by decide +kernel
theorem d_Md_divided_163 : decode b_Md_divided 163 = .ok (.isub, 1) := by decide +kernel
theorem d_Md_divided_164 : decode b_Md_divided 164 = .ok (.lshr, 1) := by decide +kernel
theorem d_Md_divided_165 : decode b_Md_divided 165 = .ok (.lor, 1) := by decide +kernel
theorem d_Md_divided_166 : decode b_Md_divided 166 = .ok (.ldc2_w 157, 3) := by decide +kernel
theorem d_Md_divided_169 : decode b_Md_divided 169 = .ok (.land, 1) := by decide +kernel
theorem d_Md_divided_170 : decode b_Md_divided 170 = .ok (.lastore, 1) := by decide +kernel
theorem d_Md_divided_171 : decode b_Md_divided 171 = .ok (.iinc 10 1, 3) := by decide +kernel
theorem d_Md_divided_174 : decode b_Md_divided 174 = .ok (.goto (-47), 3) := by decide +kernel
theorem d_Md_divided_177 : decode b_Md_divided 177 = .ok (.iload 8, 2) := by decide +kernel
theorem d_Md_divided_179 : decode b_Md_divided 179 = .ok (.iload 7, 2) := by decide +kernel
theorem d_Md_divided_181 : decode b_Md_divided 181 = .ok (.isub, 1) := by decide +kernel
theorem d_Md_divided_182 : decode b_Md_divided 182 = .ok (.istore 10, 2) := by decide +kernel
theorem d_Md_divided_184 : decode b_Md_divided 184 = .ok (.iload 10, 2) := by decide +kernel
theorem d_Md_divided_186 : decode b_Md_divided 186 = .ok (.istore 11, 2) := by decide +kernel
theorem d_Md_divided_188 : decode b_Md_divided 188 = .ok (.iload 11, 2) := by decide +kernel
theorem d_Md_divided_190 : decode b_Md_divided 190 = .ok (.ifCond .lt 266, 3) := by decide +kernel
theorem d_Md_divided_193 : decode b_Md_divided 193 = .ok (.aload_n 0, 1) := by decide +kernel
theorem d_Md_divided_194 : decode b_Md_divided 194 = .ok (.getfield 53, 3) := by decide +kernel
theorem d_Md_divided_197 : decode b_Md_divided 197 = .ok (.iload 11, 2) := by decide +kernel
theorem d_Md_divided_199 : decode b_Md_divided 199 = .ok (.iload 7, 2) := by decide +kernel
theorem d_Md_divided_201 : decode b_Md_divided 201 = .ok (.iadd, 1) := by decide +kernel
theorem d_Md_divided_202 : decode b_Md_divided 202 = .ok (.laload, 1) := by decide +kernel
theorem d_Md_divided_203 : decode b_Md_divided 203 = .ok (.bipush 28, 2) := by decide +kernel
theorem d_Md_divided_205 : decode b_Md_divided 205 = .ok (.lshl, 1) := by decide +kernel
theorem d_Md_divided_206 : decode b_Md_divided 206 = .ok (.aload_n 0, 1) := by decide +kernel
theorem d_Md_divided_207 : decode b_Md_divided 207 = .ok (.getfield 53, 3) := by decide +kernel
theorem d_Md_divided_210 : decode b_Md_divided 210 = .ok (.iload 11, 2) := by decide +kernel
theorem d_Md_divided_212 : decode b_Md_divided 212 = .ok (.iload 7, 2) := by decide +kernel
theorem d_Md_divided_214 : decode b_Md_divided 214 = .ok (.iadd, 1) := by decide +kernel
theorem d_Md_divided_215 : decode b_Md_divided 215 = .ok (.iconst 1, 1) := by decide +kernel
theorem d_Md_divided_216 : decode b_Md_divided 216 = .ok (.isub, 1) := by decide +kernel
theorem d_Md_divided_217 : decode b_Md_divided 217 = .ok (.laload, 1) := by decide +kernel
theorem d_Md_divided_218 : decode b_Md_divided 218 = .ok (.lor, 1) := by decide +kernel
theorem d_Md_divided_219 : decode b_Md_divided 219 = .ok (.lstore 12, 2) := by decide +kernel
theorem d_Md_divided_221 : decode b_Md_divided 221 = .ok (.lload 12, 2) := by decide +kernel
