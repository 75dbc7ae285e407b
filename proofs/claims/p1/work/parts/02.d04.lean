/-! what each instruction is; laid by program -/
theorem d_Md_put_48 : decode b_Md_put 48 = .ok (.getfield 38, 3) := by decide +kernel
theorem d_Md_put_51 : decode b_Md_put 51 = .ok (.sipush 660, 3) := by decide +kernel
theorem d_Md_put_54 : decode b_Md_put 54 = .ok (.iload_n 1, 1) := by decide +kernel
theorem d_Md_put_55 : decode b_Md_put 55 = .ok (.imul, 1) := by decide +kernel
theorem d_Md_put_56 : decode b_Md_put 56 = .ok (.iload 6, 2) := by decide +kernel
theorem d_Md_put_58 : decode b_Md_put 58 = .ok (.iadd, 1) := by decide +kernel
theorem d_Md_put_59 : decode b_Md_put 59 = .ok (.lload 4, 2) := by decide +kernel
theorem d_Md_put_61 : decode b_Md_put 61 = .ok (.bipush 28, 2) := by decide +kernel
theorem d_Md_put_63 : decode b_Md_put 63 = .ok (.iload 6, 2) := by decide +kernel
theorem d_Md_put_65 : decode b_Md_put 65 = .ok (.imul, 1) := by decide +kernel
theorem d_Md_put_66 : decode b_Md_put 66 = .ok (.lushr, 1) := by decide +kernel
theorem d_Md_put_67 : decode b_Md_put 67 = .ok (.ldc2_w 157, 3) := by decide +kernel
theorem d_Md_put_70 : decode b_Md_put 70 = .ok (.land, 1) := by decide +kernel
theorem d_Md_put_71 : decode b_Md_put 71 = .ok (.lastore, 1) := by decide +kernel
theorem d_Md_put_72 : decode b_Md_put 72 = .ok (.iinc 6 1, 3) := by decide +kernel
theorem d_Md_put_75 : decode b_Md_put 75 = .ok (.goto (-34), 3) := by decide +kernel
theorem d_Md_put_78 : decode b_Md_put 78 = .ok (.aload_n 0, 1) := by decide +kernel
theorem d_Md_put_79 : decode b_Md_put 79 = .ok (.iload_n 1, 1) := by decide +kernel
theorem d_Md_put_80 : decode b_Md_put 80 = .ok (.invokevirtual 159, 3) := by decide +kernel
theorem d_Md_put_83 : decode b_Md_put 83 = .ok (.return_, 1) := by decide +kernel
theorem d_Md_roots_0 : decode b_Md_roots 0 = .ok (.aload_n 0, 1) := by decide +kernel
theorem d_Md_roots_1 : decode b_Md_roots 1 = .ok (.iload_n 1, 1) := by decide +kernel
theorem d_Md_roots_2 : decode b_Md_roots 2 = .ok (.invokevirtual 597, 3) := by decide +kernel
theorem d_Md_roots_5 : decode b_Md_roots 5 = .ok (.ifCond .eq 7, 3) := by decide +kernel
theorem d_Md_roots_8 : decode b_Md_roots 8 = .ok (.iconst 0, 1) := by decide +kernel
theorem d_Md_roots_9 : decode b_Md_roots 9 = .ok (.goto 9, 3) := by decide +kernel
theorem d_Md_roots_12 : decode b_Md_roots 12 = .ok (.aload_n 0, 1) := by decide +kernel
theorem d_Md_roots_13 : decode b_Md_roots 13 = .ok (.getfield 34, 3) := by decide +kernel
theorem d_Md_roots_16 : decode b_Md_roots 16 = .ok (.iload_n 1, 1) := by decide +kernel
theorem d_Md_roots_17 : decode b_Md_roots 17 = .ok (.iaload, 1) := by decide +kernel
theorem d_Md_roots_18 : decode b_Md_roots 18 = .ok (.ireturn, 1) := by decide +kernel
theorem d_Md_says_0 : decode b_Md_says 0 = .ok (.aload_n 0, 1) := by decide +kernel
theorem d_Md_says_1 : decode b_Md_says 1 = .ok (.getfield 44, 3) := by decide +kernel
theorem d_Md_says_4 : decode b_Md_says 4 = .ok (.bipush 19, 2) := by decide +kernel
theorem d_Md_says_6 : decode b_Md_says 6 = .ok (.iaload, 1) := by decide +kernel
theorem d_Md_says_7 : decode b_Md_says 7 = .ok (.ifCond .ge 9, 3) := by decide +kernel
theorem d_Md_says_16 : decode b_Md_says 16 = .ok (.aload_n 0, 1) := by decide +kernel
theorem d_Md_says_17 : decode b_Md_says 17 = .ok (.getfield 44, 3) := by decide +kernel
theorem d_Md_says_20 : decode b_Md_says 20 = .ok (.bipush 19, 2) := by decide +kernel
theorem d_Md_says_22 : decode b_Md_says 22 = .ok (.aload_n 0, 1) := by decide +kernel
theorem d_Md_says_23 : decode b_Md_says 23 = .ok (.getfield 44, 3) := by decide +kernel
theorem d_Md_says_26 : decode b_Md_says 26 = .ok (.bipush 19, 2) := by decide +kernel
theorem d_Md_says_28 : decode b_Md_says 28 = .ok (.iaload, 1) := by decide +kernel
theorem d_Md_says_29 : decode b_Md_says 29 = .ok (.ifCond .ne 7, 3) := by decide +kernel
theorem d_Md_says_32 : decode b_Md_says 32 = .ok (.iconst 0, 1) := by decide +kernel
theorem d_Md_says_33 : decode b_Md_says 33 = .ok (.goto 4, 3) := by decide +kernel
theorem d_Md_says_36 : decode b_Md_says 36 = .ok (.iconst 1, 1) := by decide +kernel
theorem d_Md_says_37 : decode b_Md_says 37 = .ok (.iastore, 1) := by decide +kernel
theorem d_Md_says_38 : decode b_Md_says 38 = .ok (.aload_n 0, 1) := by decide +kernel
theorem d_Md_says_39 : decode b_Md_says 39 = .ok (.getfield 589, 3) := by decide +kernel
theorem d_Md_says_42 : decode b_Md_says 42 = .ok (.istore_n 1, 1) := by decide +kernel
theorem d_Md_says_43 : decode b_Md_says 43 = .ok (.aload_n 0, 1) := by decide +kernel
theorem d_Md_says_44 : decode b_Md_says 44 = .ok (.iconst 1, 1) := by decide +kernel
theorem d_Md_says_45 : decode b_Md_says 45 = .ok (.ldc2_w 499, 3) := by decide +kernel
theorem d_Md_says_48 : decode b_Md_says 48 = .ok (.invokevirtual 175, 3) := by decide +kernel
theorem d_Md_says_51 : decode b_Md_says 51 = .ok (.iconst 1, 1) := by decide +kernel
theorem d_Md_says_52 : decode b_Md_says 52 = .ok (.istore_n 2, 1) := by decide +kernel
theorem d_Md_says_53 : decode b_Md_says 53 = .ok (.iload_n 2, 1) := by decide +kernel
theorem d_Md_says_54 : decode b_Md_says 54 = .ok (.ifCond .eq 46, 3) := by decide +kernel
theorem d_Md_says_57 : decode b_Md_says 57 = .ok (.aload_n 0, 1) := by decide +kernel
theorem d_Md_says_58 : decode b_Md_says 58 = .ok (.bipush 19, 2) := by decide +kernel
theorem d_Md_says_60 : decode b_Md_says 60 = .ok (.iconst 2, 1) := by decide +kernel
theorem d_Md_says_61 : decode b_Md_says 61 = .ok (.bipush 19, 2) := by decide +kernel
theorem d_Md_says_63 : decode b_Md_says 63 = .ok (.iconst 1, 1) := by decide +kernel
theorem d_Md_says_64 : decode b_Md_says 64 = .ok (.invokevirtual 188, 3) := by decide +kernel
theorem d_Md_says_67 : decode b_Md_says 67 = .ok (.aload_n 0, 1) := by decide +kernel
theorem d_Md_says_68 : decode b_Md_says 68 = .ok (.bipush 48, 2) := by decide +kernel
theorem d_Md_says_70 : decode b_Md_says 70 = .ok (.aload_n 0, 1) := by decide +kernel
theorem d_Md_says_71 : decode b_Md_says 71 = .ok (.iconst 2, 1) := by decide +kernel
theorem d_Md_says_72 : decode b_Md_says 72 = .ok (.iconst 0, 1) := by decide +kernel
theorem d_Md_says_73 : decode b_Md_says 73 = .ok (.invokevirtual 167, 3) := by decide +kernel
theorem d_Md_says_76 : decode b_Md_says 76 = .ok (.l2i, 1) := by decide +kernel
theorem d_Md_says_77 : decode b_Md_says 77 = .ok (.iadd, 1) := by decide +kernel
theorem d_Md_says_78 : decode b_Md_says 78 = .ok (.invokevirtual 608, 3) := by decide +kernel
theorem d_Md_says_81 : decode b_Md_says 81 = .ok (.aload_n 0, 1) := by decide +kernel
theorem d_Md_says_82 : decode b_Md_says 82 = .ok (.getfield 44, 3) := by decide +kernel
theorem d_Md_says_85 : decode b_Md_says 85 = .ok (.bipush 19, 2) := by decide +kernel
theorem d_Md_says_87 : decode b_Md_says 87 = .ok (.iaload, 1) := by decide +kernel
theorem d_Md_says_88 : decode b_Md_says 88 = .ok (.ifCond .eq 7, 3) := by decide +kernel
theorem d_Md_says_95 : decode b_Md_says 95 = .ok (.iconst 0, 1) := by decide +kernel
theorem d_Md_says_96 : decode b_Md_says 96 = .ok (.istore_n 2, 1) := by decide +kernel
theorem d_Md_says_97 : decode b_Md_says 97 = .ok (.goto (-44), 3) := by decide +kernel
theorem d_Md_says_100 : decode b_Md_says 100 = .ok (.iload_n 1, 1) := by decide +kernel
theorem d_Md_says_101 : decode b_Md_says 101 = .ok (.istore_n 3, 1) := by decide +kernel
theorem d_Md_says_102 : decode b_Md_says 102 = .ok (.aload_n 0, 1) := by decide +kernel
theorem d_Md_says_103 : decode b_Md_says 103 = .ok (.getfield 589, 3) := by decide +kernel
theorem d_Md_says_106 : decode b_Md_says 106 = .ok (.iconst 1, 1) := by decide +kernel
theorem d_Md_says_107 : decode b_Md_says 107 = .ok (.isub, 1) := by decide +kernel
theorem d_Md_says_108 : decode b_Md_says 108 = .ok (.istore 4, 2) := by decide +kernel
theorem d_Md_says_110 : decode b_Md_says 110 = .ok (.iload_n 3, 1) := by decide +kernel
theorem d_Md_says_111 : decode b_Md_says 111 = .ok (.iload 4, 2) := by decide +kernel
theorem d_Md_says_113 : decode b_Md_says 113 = .ok (.if_icmp .ge 42, 3) := by decide +kernel
theorem d_Md_says_155 : decode b_Md_says 155 = .ok (.return_, 1) := by decide +kernel
theorem d_Md_seats_0 : decode b_Md_seats 0 = .ok (.aload_n 0, 1) := by decide +kernel
theorem d_Md_seats_1 : decode b_Md_seats 1 = .ok (.getfield 59, 3) := by decide +kernel
theorem d_Md_seats_4 : decode b_Md_seats 4 = .ok (.iconst 0, 1) := by decide +kernel
theorem d_Md_seats_5 : decode b_Md_seats 5 = .ok (.bipush 101, 2) := by decide +kernel
theorem d_Md_seats_7 : decode b_Md_seats 7 = .ok (.iastore, 1) := by decide +kernel
theorem d_Md_seats_8 : decode b_Md_seats 8 = .ok (.aload_n 0, 1) := by decide +kernel
theorem d_Md_seats_9 : decode b_Md_seats 9 = .ok (.getfield 59, 3) := by decide +kernel
theorem d_Md_seats_12 : decode b_Md_seats 12 = .ok (.iconst 1, 1) := by decide +kernel
theorem d_Md_seats_13 : decode b_Md_seats 13 = .ok (.bipush 110, 2) := by decide +kernel
theorem d_Md_seats_15 : decode b_Md_seats 15 = .ok (.iastore, 1) := by decide +kernel
theorem d_Md_seats_16 : decode b_Md_seats 16 = .ok (.aload_n 0, 1) := by decide +kernel
theorem d_Md_seats_17 : decode b_Md_seats 17 = .ok (.getfield 65, 3) := by decide +kernel
theorem d_Md_seats_20 : decode b_Md_seats 20 = .ok (.iconst 0, 1) := by decide +kernel
theorem d_Md_seats_21 : decode b_Md_seats 21 = .ok (.bipush 119, 2) := by decide +kernel
theorem d_Md_seats_23 : decode b_Md_seats 23 = .ok (.iastore, 1) := by decide +kernel
theorem d_Md_seats_24 : decode b_Md_seats 24 = .ok (.aload_n 0, 1) := by decide +kernel
theorem d_Md_seats_25 : decode b_Md_seats 25 = .ok (.getfield 65, 3) := by decide +kernel
theorem d_Md_seats_28 : decode b_Md_seats 28 = .ok (.iconst 1, 1) := by decide +kernel
theorem d_Md_seats_29 : decode b_Md_seats 29 = .ok (.bipush 120, 2) := by decide +kernel
theorem d_Md_seats_31 : decode b_Md_seats 31 = .ok (.iastore, 1) := by decide +kernel
theorem d_Md_seats_32 : decode b_Md_seats 32 = .ok (.return_, 1) := by decide +kernel
theorem d_Md_thrown_0 : decode b_Md_thrown 0 = .ok (.aload_n 0, 1) := by decide +kernel
theorem d_Md_thrown_1 : decode b_Md_thrown 1 = .ok (.getfield 154, 3) := by decide +kernel
theorem d_Md_thrown_4 : decode b_Md_thrown 4 = .ok (.ireturn, 1) := by decide +kernel
theorem d_Md_write_0 : decode b_Md_write 0 = .ok (.aload_n 0, 1) := by decide +kernel
theorem d_Md_write_1 : decode b_Md_write 1 = .ok (.iload_n 1, 1) := by decide +kernel
theorem d_Md_write_2 : decode b_Md_write 2 = .ok (.invokevirtual 597, 3) := by decide +kernel
theorem d_Md_write_5 : decode b_Md_write 5 = .ok (.ifCond .eq 5, 3) := by decide +kernel
theorem d_Md_write_8 : decode b_Md_write 8 = .ok (.iconst 0, 1) := by decide +kernel
theorem d_Md_write_9 : decode b_Md_write 9 = .ok (.ireturn, 1) := by decide +kernel
theorem d_Md_write_10 : decode b_Md_write 10 = .ok (.aload_n 0, 1) := by decide +kernel
theorem d_Md_write_11 : decode b_Md_write 11 = .ok (.iconst 0, 1) := by decide +kernel
theorem d_Md_write_12 : decode b_Md_write 12 = .ok (.putfield 589, 3) := by decide +kernel
theorem d_Md_write_15 : decode b_Md_write 15 = .ok (.aload_n 0, 1) := by decide +kernel
theorem d_Md_write_16 : decode b_Md_write 16 = .ok (.bipush 91, 2) := by decide +kernel
theorem d_Md_write_18 : decode b_Md_write 18 = .ok (.invokevirtual 608, 3) := by decide +kernel
theorem d_Md_write_21 : decode b_Md_write 21 = .ok (.iconst 0, 1) := by decide +kernel
theorem d_Md_write_22 : decode b_Md_write 22 = .ok (.istore_n 2, 1) := by decide +kernel
theorem d_Md_write_23 : decode b_Md_write 23 = .ok (.iload_n 2, 1) := by decide +kernel
theorem d_Md_write_24 : decode b_Md_write 24 = .ok (.aload_n 0, 1) := by decide +kernel
theorem d_Md_write_25 : decode b_Md_write 25 = .ok (.getfield 24, 3) := by decide +kernel
theorem d_Md_write_28 : decode b_Md_write 28 = .ok (.iload_n 1, 1) := by decide +kernel
theorem d_Md_write_29 : decode b_Md_write 29 = .ok (.iaload, 1) := by decide +kernel
theorem d_Md_write_30 : decode b_Md_write 30 = .ok (.if_icmp .gt 40, 3) := by decide +kernel
theorem d_Md_write_33 : decode b_Md_write 33 = .ok (.iload_n 2, 1) := by decide +kernel
theorem d_Md_write_34 : decode b_Md_write 34 = .ok (.ifCond .le 9, 3) := by decide +kernel
theorem d_Md_write_37 : decode b_Md_write 37 = .ok (.aload_n 0, 1) := by decide +kernel
theorem d_Md_write_38 : decode b_Md_write 38 = .ok (.bipush 44, 2) := by decide +kernel
theorem d_Md_write_40 : decode b_Md_write 40 = .ok (.invokevirtual 608, 3) := by decide +kernel
theorem d_Md_write_43 : decode b_Md_write 43 = .ok (.aload_n 0, 1) := by decide +kernel
theorem d_Md_write_44 : decode b_Md_write 44 = .ok (.bipush 19, 2) := by decide +kernel
theorem d_Md_write_46 : decode b_Md_write 46 = .ok (.aload_n 0, 1) := by decide +kernel
theorem d_Md_write_47 : decode b_Md_write 47 = .ok (.getfield 27, 3) := by decide +kernel
theorem d_Md_write_50 : decode b_Md_write 50 = .ok (.bipush 7, 2) := by decide +kernel
theorem d_Md_write_52 : decode b_Md_write 52 = .ok (.iload_n 1, 1) := by decide +kernel
theorem d_Md_write_53 : decode b_Md_write 53 = .ok (.imul, 1) := by decide +kernel
theorem d_Md_write_54 : decode b_Md_write 54 = .ok (.iload_n 2, 1) := by decide +kernel
theorem d_Md_write_55 : decode b_Md_write 55 = .ok (.iadd, 1) := by decide +kernel
theorem d_Md_write_56 : decode b_Md_write 56 = .ok (.laload, 1) := by decide +kernel
theorem d_Md_write_57 : decode b_Md_write 57 = .ok (.invokevirtual 175, 3) := by decide +kernel
theorem d_Md_write_60 : decode b_Md_write 60 = .ok (.aload_n 0, 1) := by decide +kernel
theorem d_Md_write_61 : decode b_Md_write 61 = .ok (.invokevirtual 605, 3) := by decide +kernel
theorem d_Md_write_64 : decode b_Md_write 64 = .ok (.iinc 2 1, 3) := by decide +kernel
theorem d_Md_write_67 : decode b_Md_write 67 = .ok (.goto (-44), 3) := by decide +kernel
theorem d_Md_write_70 : decode b_Md_write 70 = .ok (.aload_n 0, 1) := by decide +kernel
theorem d_Md_write_71 : decode b_Md_write 71 = .ok (.bipush 93, 2) := by decide +kernel
theorem d_Md_write_73 : decode b_Md_write 73 = .ok (.invokevirtual 608, 3) := by decide +kernel
theorem d_Md_write_76 : decode b_Md_write 76 = .ok (.aload_n 0, 1) := by decide +kernel
theorem d_Md_write_77 : decode b_Md_write 77 = .ok (.bipush 35, 2) := by decide +kernel
theorem d_Md_write_79 : decode b_Md_write 79 = .ok (.invokevirtual 608, 3) := by decide +kernel
theorem d_Md_write_82 : decode b_Md_write 82 = .ok (.aload_n 0, 1) := by decide +kernel
theorem d_Md_write_83 : decode b_Md_write 83 = .ok (.bipush 19, 2) := by decide +kernel
theorem d_Md_write_85 : decode b_Md_write 85 = .ok (.aload_n 0, 1) := by decide +kernel
theorem d_Md_write_86 : decode b_Md_write 86 = .ok (.getfield 31, 3) := by decide +kernel
theorem d_Md_write_89 : decode b_Md_write 89 = .ok (.iload_n 1, 1) := by decide +kernel
theorem d_Md_write_90 : decode b_Md_write 90 = .ok (.iaload, 1) := by decide +kernel
theorem d_Md_write_91 : decode b_Md_write 91 = .ok (.i2l, 1) := by decide +kernel
theorem d_Md_write_92 : decode b_Md_write 92 = .ok (.invokevirtual 175, 3) := by decide +kernel
theorem d_Md_write_95 : decode b_Md_write 95 = .ok (.aload_n 0, 1) := by decide +kernel
theorem d_Md_write_96 : decode b_Md_write 96 = .ok (.invokevirtual 605, 3) := by decide +kernel
theorem d_Md_write_99 : decode b_Md_write 99 = .ok (.aload_n 0, 1) := by decide +kernel
theorem d_Md_write_100 : decode b_Md_write 100 = .ok (.getfield 589, 3) := by decide +kernel
theorem d_Md_write_103 : decode b_Md_write 103 = .ok (.ireturn, 1) := by decide +kernel
theorem d_Padic_init_0 : decode b_Padic_init 0 = .ok (.aload_n 0, 1) := by decide +kernel
theorem d_Padic_init_1 : decode b_Padic_init 1 = .ok (.invokespecial 7, 3) := by decide +kernel
theorem d_Padic_init_4 : decode b_Padic_init 4 = .ok (.aload_n 0, 1) := by decide +kernel
theorem d_Padic_init_5 : decode b_Padic_init 5 = .ok (.iconst 3, 1) := by decide +kernel
theorem d_Padic_init_6 : decode b_Padic_init 6 = .ok (.putfield 13, 3) := by decide +kernel
theorem d_Padic_init_9 : decode b_Padic_init 9 = .ok (.aload_n 0, 1) := by decide +kernel
theorem d_Padic_init_10 : decode b_Padic_init 10 = .ok (.new 17, 3) := by decide +kernel
theorem d_Padic_init_13 : decode b_Padic_init 13 = .ok (.dup, 1) := by decide +kernel
theorem d_Padic_init_14 : decode b_Padic_init 14 = .ok (.bipush 28, 2) := by decide +kernel
theorem d_Padic_init_16 : decode b_Padic_init 16 = .ok (.invokespecial 19, 3) := by decide +kernel
theorem d_Padic_init_19 : decode b_Padic_init 19 = .ok (.putfield 22, 3) := by decide +kernel
theorem d_Padic_init_22 : decode b_Padic_init 22 = .ok (.return_, 1) := by decide +kernel
theorem d_Poly_init_0 : decode b_Poly_init 0 = .ok (.aload_n 0, 1) := by decide +kernel
theorem d_Poly_init_1 : decode b_Poly_init 1 = .ok (.invokespecial 1, 3) := by decide +kernel
theorem d_Poly_init_4 : decode b_Poly_init 4 = .ok (.aload_n 0, 1) := by decide +kernel
theorem d_Poly_init_5 : decode b_Poly_init 5 = .ok (.bipush 13, 2) := by decide +kernel
theorem d_Poly_init_7 : decode b_Poly_init 7 = .ok (.anewarray 9, 3) := by decide +kernel
theorem d_Poly_init_10 : decode b_Poly_init 10 = .ok (.putfield 11, 3) := by decide +kernel
theorem d_Poly_init_13 : decode b_Poly_init 13 = .ok (.iconst 0, 1) := by decide +kernel
theorem d_Poly_init_14 : decode b_Poly_init 14 = .ok (.istore_n 1, 1) := by decide +kernel
theorem d_Poly_init_15 : decode b_Poly_init 15 = .ok (.iload_n 1, 1) := by decide +kernel
theorem d_Poly_init_16 : decode b_Poly_init 16 = .ok (.bipush 12, 2) := by decide +kernel
theorem d_Poly_init_18 : decode b_Poly_init 18 = .ok (.if_icmp .gt 24, 3) := by decide +kernel
theorem d_Poly_init_21 : decode b_Poly_init 21 = .ok (.aload_n 0, 1) := by decide +kernel
theorem d_Poly_init_22 : decode b_Poly_init 22 = .ok (.getfield 11, 3) := by decide +kernel
theorem d_Poly_init_25 : decode b_Poly_init 25 = .ok (.iload_n 1, 1) := by decide +kernel
theorem d_Poly_init_26 : decode b_Poly_init 26 = .ok (.new 9, 3) := by decide +kernel
theorem d_Poly_init_29 : decode b_Poly_init 29 = .ok (.dup, 1) := by decide +kernel
theorem d_Poly_init_30 : decode b_Poly_init 30 = .ok (.bipush 28, 2) := by decide +kernel
theorem d_Poly_init_32 : decode b_Poly_init 32 = .ok (.invokespecial 15, 3) := by decide +kernel
theorem d_Poly_init_35 : decode b_Poly_init 35 = .ok (.aastore, 1) := by decide +kernel
theorem d_Poly_init_36 : decode b_Poly_init 36 = .ok (.iinc 1 1, 3) := by decide +kernel
theorem d_Poly_init_39 : decode b_Poly_init 39 = .ok (.goto (-24), 3) := by decide +kernel
theorem d_Poly_init_42 : decode b_Poly_init 42 = .ok (.return_, 1) := by decide +kernel
theorem d_RA_coefficient_0 : decode b_RA_coefficient 0 = .ok (.aload_n 0, 1) := by decide +kernel
theorem d_RA_coefficient_1 : decode b_RA_coefficient 1 = .ok (.iload_n 1, 1) := by decide +kernel
theorem d_RA_coefficient_2 : decode b_RA_coefficient 2 = .ok (.invokevirtual 123, 3) := by decide +kernel
theorem d_RA_coefficient_5 : decode b_RA_coefficient 5 = .ok (.ifCond .ne 11, 3) := by decide +kernel
theorem d_RA_coefficient_16 : decode b_RA_coefficient 16 = .ok (.aload_n 0, 1) := by decide +kernel
theorem d_RA_coefficient_17 : decode b_RA_coefficient 17 = .ok (.getfield 30, 3) := by decide +kernel
theorem d_RA_coefficient_20 : decode b_RA_coefficient 20 = .ok (.iload_n 1, 1) := by decide +kernel
theorem d_RA_coefficient_21 : decode b_RA_coefficient 21 = .ok (.aaload, 1) := by decide +kernel
theorem d_RA_coefficient_22 : decode b_RA_coefficient 22 = .ok (.astore_n 3, 1) := by decide +kernel
theorem d_RA_coefficient_23 : decode b_RA_coefficient 23 = .ok (.aload_n 3, 1) := by decide +kernel
theorem d_RA_coefficient_24 : decode b_RA_coefficient 24 = .ok (.getfield 126, 3) := by decide +kernel
theorem d_RA_coefficient_27 : decode b_RA_coefficient 27 = .ok (.ifCond .eq 15, 3) := by decide +kernel
theorem d_RA_coefficient_30 : decode b_RA_coefficient 30 = .ok (.iload_n 2, 1) := by decide +kernel
theorem d_RA_coefficient_31 : decode b_RA_coefficient 31 = .ok (.ifCond .lt 11, 3) := by decide +kernel
theorem d_RA_coefficient_34 : decode b_RA_coefficient 34 = .ok (.iload_n 2, 1) := by decide +kernel
theorem d_RA_coefficient_35 : decode b_RA_coefficient 35 = .ok (.aload_n 3, 1) := by decide +kernel
theorem d_RA_coefficient_36 : decode b_RA_coefficient 36 = .ok (.getfield 126, 3) := by decide +kernel
theorem d_RA_coefficient_39 : decode b_RA_coefficient 39 = .ok (.if_icmp .le 11, 3) := by decide +kernel
theorem d_RA_coefficient_50 : decode b_RA_coefficient 50 = .ok (.aload_n 3, 1) := by decide +kernel
theorem d_RA_coefficient_51 : decode b_RA_coefficient 51 = .ok (.getfield 132, 3) := by decide +kernel
theorem d_RA_coefficient_54 : decode b_RA_coefficient 54 = .ok (.iload_n 2, 1) := by decide +kernel
theorem d_RA_coefficient_55 : decode b_RA_coefficient 55 = .ok (.iaload, 1) := by decide +kernel
theorem d_RA_coefficient_56 : decode b_RA_coefficient 56 = .ok (.ireturn, 1) := by decide +kernel
theorem d_RA_compare_0 : decode b_RA_compare 0 = .ok (.aload_n 0, 1) := by decide +kernel
theorem d_RA_compare_1 : decode b_RA_compare 1 = .ok (.iload_n 1, 1) := by decide +kernel
theorem d_RA_compare_2 : decode b_RA_compare 2 = .ok (.invokevirtual 123, 3) := by decide +kernel
theorem d_RA_compare_5 : decode b_RA_compare 5 = .ok (.ifCond .eq 11, 3) := by decide +kernel
theorem d_RA_compare_8 : decode b_RA_compare 8 = .ok (.aload_n 0, 1) := by decide +kernel
theorem d_RA_compare_9 : decode b_RA_compare 9 = .ok (.iload_n 2, 1) := by decide +kernel
theorem d_RA_compare_10 : decode b_RA_compare 10 = .ok (.invokevirtual 123, 3) := by decide +kernel
theorem d_RA_compare_13 : decode b_RA_compare 13 = .ok (.ifCond .ne 11, 3) := by decide +kernel
theorem d_RA_compare_24 : decode b_RA_compare 24 = .ok (.aload_n 0, 1) := by decide +kernel
theorem d_RA_compare_25 : decode b_RA_compare 25 = .ok (.getfield 30, 3) := by decide +kernel
theorem d_RA_compare_28 : decode b_RA_compare 28 = .ok (.iload_n 1, 1) := by decide +kernel
theorem d_RA_compare_29 : decode b_RA_compare 29 = .ok (.aaload, 1) := by decide +kernel
theorem d_RA_compare_30 : decode b_RA_compare 30 = .ok (.getfield 126, 3) := by decide +kernel
theorem d_RA_compare_33 : decode b_RA_compare 33 = .ok (.ifCond .eq 15, 3) := by decide +kernel
theorem d_RA_compare_36 : decode b_RA_compare 36 = .ok (.aload_n 0, 1) := by decide +kernel
theorem d_RA_compare_37 : decode b_RA_compare 37 = .ok (.getfield 30, 3) := by decide +kernel
theorem d_RA_compare_40 : decode b_RA_compare 40 = .ok (.iload_n 2, 1) := by decide +kernel
theorem d_RA_compare_41 : decode b_RA_compare 41 = .ok (.aaload, 1) := by decide +kernel
theorem d_RA_compare_42 : decode b_RA_compare 42 = .ok (.getfield 126, 3) := by decide +kernel
theorem d_RA_compare_45 : decode b_RA_compare 45 = .ok (.ifCond .ne 11, 3) := by decide +kernel
theorem d_RA_compare_56 : decode b_RA_compare 56 = .ok (.aload_n 0, 1) := by decide +kernel
theorem d_RA_compare_57 : decode b_RA_compare 57 = .ok (.getfield 51, 3) := by decide +kernel
theorem d_RA_compare_60 : decode b_RA_compare 60 = .ok (.getfield 141, 3) := by decide +kernel
theorem d_RA_compare_63 : decode b_RA_compare 63 = .ok (.aload_n 0, 1) := by decide +kernel
theorem d_RA_compare_64 : decode b_RA_compare 64 = .ok (.getfield 30, 3) := by decide +kernel
theorem d_RA_compare_67 : decode b_RA_compare 67 = .ok (.iload_n 1, 1) := by decide +kernel
theorem d_RA_compare_68 : decode b_RA_compare 68 = .ok (.aaload, 1) := by decide +kernel
theorem d_RA_compare_69 : decode b_RA_compare 69 = .ok (.aload_n 0, 1) := by decide +kernel
theorem d_RA_compare_70 : decode b_RA_compare 70 = .ok (.getfield 30, 3) := by decide +kernel
theorem d_RA_compare_73 : decode b_RA_compare 73 = .ok (.iload_n 2, 1) := by decide +kernel
theorem d_RA_compare_74 : decode b_RA_compare 74 = .ok (.aaload, 1) := by decide +kernel
theorem d_RA_compare_75 : decode b_RA_compare 75 = .ok (.invokevirtual 145, 3) := by decide +kernel
theorem d_RA_compare_78 : decode b_RA_compare 78 = .ok (.ireturn, 1) := by decide +kernel
theorem d_RA_degree_0 : decode b_RA_degree 0 = .ok (.aload_n 0, 1) := by decide +kernel
theorem d_RA_degree_1 : decode b_RA_degree 1 = .ok (.iload_n 1, 1) := by decide +kernel
theorem d_RA_degree_2 : decode b_RA_degree 2 = .ok (.invokevirtual 123, 3) := by decide +kernel
theorem d_RA_degree_5 : decode b_RA_degree 5 = .ok (.ifCond .ne 11, 3) := by decide +kernel
theorem d_RA_degree_16 : decode b_RA_degree 16 = .ok (.aload_n 0, 1) := by decide +kernel
theorem d_RA_degree_17 : decode b_RA_degree 17 = .ok (.getfield 30, 3) := by decide +kernel
theorem d_RA_degree_20 : decode b_RA_degree 20 = .ok (.iload_n 1, 1) := by decide +kernel
theorem d_RA_degree_21 : decode b_RA_degree 21 = .ok (.aaload, 1) := by decide +kernel
theorem d_RA_degree_22 : decode b_RA_degree 22 = .ok (.getfield 126, 3) := by decide +kernel
theorem d_RA_degree_25 : decode b_RA_degree 25 = .ok (.ireturn, 1) := by decide +kernel
theorem d_RA_drop_0 : decode b_RA_drop 0 = .ok (.iload_n 1, 1) := by decide +kernel
theorem d_RA_drop_1 : decode b_RA_drop 1 = .ok (.ifCond .lt 9, 3) := by decide +kernel
theorem d_RA_drop_4 : decode b_RA_drop 4 = .ok (.iload_n 1, 1) := by decide +kernel
theorem d_RA_drop_5 : decode b_RA_drop 5 = .ok (.bipush 16, 2) := by decide +kernel
theorem d_RA_drop_7 : decode b_RA_drop 7 = .ok (.if_icmp .lt 11, 3) := by decide +kernel
theorem d_RA_drop_18 : decode b_RA_drop 18 = .ok (.aload_n 0, 1) := by decide +kernel
theorem d_RA_drop_19 : decode b_RA_drop 19 = .ok (.getfield 30, 3) := by decide +kernel
theorem d_RA_drop_22 : decode b_RA_drop 22 = .ok (.iload_n 1, 1) := by decide +kernel
theorem d_RA_drop_23 : decode b_RA_drop 23 = .ok (.aaload, 1) := by decide +kernel
theorem d_RA_drop_24 : decode b_RA_drop 24 = .ok (.getfield 126, 3) := by decide +kernel
theorem d_RA_drop_27 : decode b_RA_drop 27 = .ok (.ifCond .eq 7, 3) := by decide +kernel
theorem d_RA_drop_34 : decode b_RA_drop 34 = .ok (.iconst 0, 1) := by decide +kernel
theorem d_RA_drop_35 : decode b_RA_drop 35 = .ok (.istore_n 2, 1) := by decide +kernel
theorem d_RA_drop_36 : decode b_RA_drop 36 = .ok (.aload_n 0, 1) := by decide +kernel
theorem d_RA_drop_37 : decode b_RA_drop 37 = .ok (.getfield 30, 3) := by decide +kernel
theorem d_RA_drop_40 : decode b_RA_drop 40 = .ok (.iload_n 1, 1) := by decide +kernel
theorem d_RA_drop_41 : decode b_RA_drop 41 = .ok (.aaload, 1) := by decide +kernel
theorem d_RA_drop_42 : decode b_RA_drop 42 = .ok (.iconst 0, 1) := by decide +kernel
theorem d_RA_drop_43 : decode b_RA_drop 43 = .ok (.putfield 126, 3) := by decide +kernel
theorem d_RA_drop_46 : decode b_RA_drop 46 = .ok (.iload_n 2, 1) := by decide +kernel
theorem d_RA_drop_47 : decode b_RA_drop 47 = .ok (.ireturn, 1) := by decide +kernel
theorem d_RA_feed_0 : decode b_RA_feed 0 = .ok (.iload_n 1, 1) := by decide +kernel
theorem d_RA_feed_1 : decode b_RA_feed 1 = .ok (.iconst 1, 1) := by decide +kernel
theorem d_RA_feed_2 : decode b_RA_feed 2 = .ok (.if_icmp .lt 9, 3) := by decide +kernel
theorem d_RA_feed_5 : decode b_RA_feed 5 = .ok (.iload_n 1, 1) := by decide +kernel
theorem d_RA_feed_6 : decode b_RA_feed 6 = .ok (.bipush 8, 2) := by decide +kernel
theorem d_RA_feed_8 : decode b_RA_feed 8 = .ok (.if_icmp .le 11, 3) := by decide +kernel
theorem d_RA_feed_19 : decode b_RA_feed 19 = .ok (.aload_n 0, 1) := by decide +kernel
theorem d_RA_feed_20 : decode b_RA_feed 20 = .ok (.getfield 62, 3) := by decide +kernel
theorem d_RA_feed_23 : decode b_RA_feed 23 = .ok (.iload_n 1, 1) := by decide +kernel
theorem d_RA_feed_24 : decode b_RA_feed 24 = .ok (.iadd, 1) := by decide +kernel
theorem d_RA_feed_25 : decode b_RA_feed 25 = .ok (.sipush 400, 3) := by decide +kernel
theorem d_RA_feed_28 : decode b_RA_feed 28 = .ok (.if_icmp .le 11, 3) := by decide +kernel
theorem d_RA_feed_39 : decode b_RA_feed 39 = .ok (.iconst 0, 1) := by decide +kernel
theorem d_RA_feed_40 : decode b_RA_feed 40 = .ok (.istore 4, 2) := by decide +kernel
theorem d_RA_feed_42 : decode b_RA_feed 42 = .ok (.iload 4, 2) := by decide +kernel
theorem d_RA_feed_44 : decode b_RA_feed 44 = .ok (.iload_n 1, 1) := by decide +kernel
theorem d_RA_feed_45 : decode b_RA_feed 45 = .ok (.if_icmp .ge 30, 3) := by decide +kernel
theorem d_RA_feed_48 : decode b_RA_feed 48 = .ok (.aload_n 0, 1) := by decide +kernel
theorem d_RA_feed_49 : decode b_RA_feed 49 = .ok (.getfield 9, 3) := by decide +kernel
theorem d_RA_feed_52 : decode b_RA_feed 52 = .ok (.aload_n 0, 1) := by decide +kernel
theorem d_RA_feed_53 : decode b_RA_feed 53 = .ok (.getfield 62, 3) := by decide +kernel
theorem d_RA_feed_56 : decode b_RA_feed 56 = .ok (.iload 4, 2) := by decide +kernel
theorem d_RA_feed_58 : decode b_RA_feed 58 = .ok (.iadd, 1) := by decide +kernel
theorem d_RA_feed_59 : decode b_RA_feed 59 = .ok (.lload_n 2, 1) := by decide +kernel
theorem d_RA_feed_60 : decode b_RA_feed 60 = .ok (.bipush 8, 2) := by decide +kernel
theorem d_RA_feed_62 : decode b_RA_feed 62 = .ok (.iload 4, 2) := by decide +kernel
theorem d_RA_feed_64 : decode b_RA_feed 64 = .ok (.imul, 1) := by decide +kernel
theorem d_RA_feed_65 : decode b_RA_feed 65 = .ok (.lushr, 1) := by decide +kernel
theorem d_RA_feed_66 : decode b_RA_feed 66 = .ok (.l2i, 1) := by decide +kernel
theorem d_RA_feed_67 : decode b_RA_feed 67 = .ok (.i2b, 1) := by decide +kernel
theorem d_RA_feed_68 : decode b_RA_feed 68 = .ok (.bastore, 1) := by decide +kernel
theorem d_RA_feed_69 : decode b_RA_feed 69 = .ok (.iinc 4 1, 3) := by decide +kernel
theorem d_RA_feed_72 : decode b_RA_feed 72 = .ok (.goto (-30), 3) := by decide +kernel
theorem d_RA_feed_75 : decode b_RA_feed 75 = .ok (.aload_n 0, 1) := by decide +kernel
theorem d_RA_feed_76 : decode b_RA_feed 76 = .ok (.dup, 1) := by decide +kernel
theorem d_RA_feed_77 : decode b_RA_feed 77 = .ok (.getfield 62, 3) := by decide +kernel
theorem d_RA_feed_80 : decode b_RA_feed 80 = .ok (.iload_n 1, 1) := by decide +kernel
theorem d_RA_feed_81 : decode b_RA_feed 81 = .ok (.iadd, 1) := by decide +kernel
theorem d_RA_feed_82 : decode b_RA_feed 82 = .ok (.putfield 62, 3) := by decide +kernel
theorem d_RA_feed_85 : decode b_RA_feed 85 = .ok (.aload_n 0, 1) := by decide +kernel
theorem d_RA_feed_86 : decode b_RA_feed 86 = .ok (.getfield 62, 3) := by decide +kernel
theorem d_RA_feed_89 : decode b_RA_feed 89 = .ok (.ireturn, 1) := by decide +kernel
theorem d_RA_floor_0 : decode b_RA_floor 0 = .ok (.aload_n 0, 1) := by decide +kernel
theorem d_RA_floor_1 : decode b_RA_floor 1 = .ok (.iload_n 1, 1) := by decide +kernel
theorem d_RA_floor_2 : decode b_RA_floor 2 = .ok (.invokevirtual 123, 3) := by decide +kernel
theorem d_RA_floor_5 : decode b_RA_floor 5 = .ok (.ifCond .eq 13, 3) := by decide +kernel
theorem d_RA_floor_8 : decode b_RA_floor 8 = .ok (.iload_n 2, 1) := by decide +kernel
theorem d_RA_floor_9 : decode b_RA_floor 9 = .ok (.ifCond .lt 9, 3) := by decide +kernel
theorem d_RA_floor_12 : decode b_RA_floor 12 = .ok (.iload_n 2, 1) := by decide +kernel
theorem d_RA_floor_13 : decode b_RA_floor 13 = .ok (.bipush 30, 2) := by decide +kernel
theorem d_RA_floor_15 : decode b_RA_floor 15 = .ok (.if_icmp .le 11, 3) := by decide +kernel
theorem d_RA_floor_26 : decode b_RA_floor 26 = .ok (.aload_n 0, 1) := by decide +kernel
theorem d_RA_floor_27 : decode b_RA_floor 27 = .ok (.getfield 30, 3) := by decide +kernel
theorem d_RA_floor_30 : decode b_RA_floor 30 = .ok (.iload_n 1, 1) := by decide +kernel
theorem d_RA_floor_31 : decode b_RA_floor 31 = .ok (.aaload, 1) := by decide +kernel
theorem d_RA_floor_32 : decode b_RA_floor 32 = .ok (.getfield 126, 3) := by decide +kernel
theorem d_RA_floor_35 : decode b_RA_floor 35 = .ok (.ifCond .ne 11, 3) := by decide +kernel
theorem d_RA_floor_46 : decode b_RA_floor 46 = .ok (.aload_n 0, 1) := by decide +kernel
theorem d_RA_floor_47 : decode b_RA_floor 47 = .ok (.iconst 0, 1) := by decide +kernel
theorem d_RA_floor_48 : decode b_RA_floor 48 = .ok (.putfield 120, 3) := by decide +kernel
theorem d_RA_floor_51 : decode b_RA_floor 51 = .ok (.aload_n 0, 1) := by decide +kernel
theorem d_RA_floor_52 : decode b_RA_floor 52 = .ok (.getfield 24, 3) := by decide +kernel
theorem d_RA_floor_55 : decode b_RA_floor 55 = .ok (.aload_n 0, 1) := by decide +kernel
theorem d_RA_floor_56 : decode b_RA_floor 56 = .ok (.getfield 51, 3) := by decide +kernel
theorem d_RA_floor_59 : decode b_RA_floor 59 = .ok (.getfield 141, 3) := by decide +kernel
theorem d_RA_floor_62 : decode b_RA_floor 62 = .ok (.aload_n 0, 1) := by decide +kernel
theorem d_RA_floor_63 : decode b_RA_floor 63 = .ok (.getfield 30, 3) := by decide +kernel
theorem d_RA_floor_66 : decode b_RA_floor 66 = .ok (.iload_n 1, 1) := by decide +kernel
theorem d_RA_floor_67 : decode b_RA_floor 67 = .ok (.aaload, 1) := by decide +kernel
theorem d_RA_floor_68 : decode b_RA_floor 68 = .ok (.iload_n 2, 1) := by decide +kernel
theorem d_RA_floor_69 : decode b_RA_floor 69 = .ok (.invokevirtual 151, 3) := by decide +kernel
theorem d_RA_floor_72 : decode b_RA_floor 72 = .ok (.invokevirtual 155, 3) := by decide +kernel
theorem d_RA_floor_75 : decode b_RA_floor 75 = .ok (.aload_n 0, 1) := by decide +kernel
theorem d_RA_floor_76 : decode b_RA_floor 76 = .ok (.invokevirtual 159, 3) := by decide +kernel
theorem d_RA_floor_79 : decode b_RA_floor 79 = .ok (.aload_n 0, 1) := by decide +kernel
theorem d_RA_floor_80 : decode b_RA_floor 80 = .ok (.getfield 120, 3) := by decide +kernel
theorem d_RA_floor_83 : decode b_RA_floor 83 = .ok (.ireturn, 1) := by decide +kernel
theorem d_RA_index_0 : decode b_RA_index 0 = .ok (.aload_n 0, 1) := by decide +kernel
theorem d_RA_index_1 : decode b_RA_index 1 = .ok (.iload_n 1, 1) := by decide +kernel
theorem d_RA_index_2 : decode b_RA_index 2 = .ok (.invokevirtual 123, 3) := by decide +kernel
theorem d_RA_index_5 : decode b_RA_index 5 = .ok (.ifCond .ne 11, 3) := by decide +kernel
theorem d_RA_index_16 : decode b_RA_index 16 = .ok (.aload_n 0, 1) := by decide +kernel
theorem d_RA_index_17 : decode b_RA_index 17 = .ok (.getfield 30, 3) := by decide +kernel
theorem d_RA_index_20 : decode b_RA_index 20 = .ok (.iload_n 1, 1) := by decide +kernel
theorem d_RA_index_21 : decode b_RA_index 21 = .ok (.aaload, 1) := by decide +kernel
theorem d_RA_index_22 : decode b_RA_index 22 = .ok (.getfield 126, 3) := by decide +kernel
theorem d_RA_index_25 : decode b_RA_index 25 = .ok (.ifCond .ne 11, 3) := by decide +kernel
theorem d_RA_index_36 : decode b_RA_index 36 = .ok (.aload_n 0, 1) := by decide +kernel
theorem d_RA_index_37 : decode b_RA_index 37 = .ok (.getfield 30, 3) := by decide +kernel
theorem d_RA_index_40 : decode b_RA_index 40 = .ok (.iload_n 1, 1) := by decide +kernel
theorem d_RA_index_41 : decode b_RA_index 41 = .ok (.aaload, 1) := by decide +kernel
theorem d_RA_index_42 : decode b_RA_index 42 = .ok (.getfield 135, 3) := by decide +kernel
theorem d_RA_index_45 : decode b_RA_index 45 = .ok (.ireturn, 1) := by decide +kernel
theorem d_RA_init_0 : decode b_RA_init 0 = .ok (.aload_n 0, 1) := by decide +kernel
theorem d_RA_init_1 : decode b_RA_init 1 = .ok (.invokespecial 1, 3) := by decide +kernel
theorem d_RA_init_4 : decode b_RA_init 4 = .ok (.aload_n 0, 1) := by decide +kernel
theorem d_RA_init_5 : decode b_RA_init 5 = .ok (.sipush 400, 3) := by decide +kernel
theorem d_RA_init_8 : decode b_RA_init 8 = .ok (.newarray .byte, 2) := by decide +kernel
theorem d_RA_init_10 : decode b_RA_init 10 = .ok (.putfield 9, 3) := by decide +kernel
theorem d_RA_init_13 : decode b_RA_init 13 = .ok (.aload_n 0, 1) := by decide +kernel
theorem d_RA_init_14 : decode b_RA_init 14 = .ok (.sipush 128, 3) := by decide +kernel
theorem d_RA_init_17 : decode b_RA_init 17 = .ok (.newarray .byte, 2) := by decide +kernel
theorem d_RA_init_19 : decode b_RA_init 19 = .ok (.putfield 13, 3) := by decide +kernel
theorem d_RA_init_22 : decode b_RA_init 22 = .ok (.aload_n 0, 1) := by decide +kernel
theorem d_RA_init_23 : decode b_RA_init 23 = .ok (.sipush 128, 3) := by decide +kernel
theorem d_RA_init_26 : decode b_RA_init 26 = .ok (.newarray .byte, 2) := by decide +kernel
theorem d_RA_init_28 : decode b_RA_init 28 = .ok (.putfield 16, 3) := by decide +kernel
theorem d_RA_init_31 : decode b_RA_init 31 = .ok (.aload_n 0, 1) := by decide +kernel
theorem d_RA_init_32 : decode b_RA_init 32 = .ok (.new 19, 3) := by decide +kernel
theorem d_RA_init_35 : decode b_RA_init 35 = .ok (.dup, 1) := by decide +kernel
theorem d_RA_init_36 : decode b_RA_init 36 = .ok (.bipush 8, 2) := by decide +kernel
theorem d_RA_init_38 : decode b_RA_init 38 = .ok (.invokespecial 21, 3) := by decide +kernel
theorem d_RA_init_41 : decode b_RA_init 41 = .ok (.putfield 24, 3) := by decide +kernel
theorem d_RA_init_44 : decode b_RA_init 44 = .ok (.aload_n 0, 1) := by decide +kernel
theorem d_RA_init_45 : decode b_RA_init 45 = .ok (.bipush 17, 2) := by decide +kernel
theorem d_RA_init_47 : decode b_RA_init 47 = .ok (.anewarray 28, 3) := by decide +kernel
theorem d_RA_init_50 : decode b_RA_init 50 = .ok (.putfield 30, 3) := by decide +kernel
theorem d_RA_init_53 : decode b_RA_init 53 = .ok (.iconst 0, 1) := by decide +kernel
theorem d_RA_init_54 : decode b_RA_init 54 = .ok (.istore_n 1, 1) := by decide +kernel
theorem d_RA_init_55 : decode b_RA_init 55 = .ok (.iload_n 1, 1) := by decide +kernel
theorem d_RA_init_56 : decode b_RA_init 56 = .ok (.bipush 16, 2) := by decide +kernel
theorem d_RA_init_58 : decode b_RA_init 58 = .ok (.if_icmp .gt 22, 3) := by decide +kernel
theorem d_RA_init_61 : decode b_RA_init 61 = .ok (.aload_n 0, 1) := by decide +kernel
theorem d_RA_init_62 : decode b_RA_init 62 = .ok (.getfield 30, 3) := by decide +kernel
theorem d_RA_init_65 : decode b_RA_init 65 = .ok (.iload_n 1, 1) := by decide +kernel
theorem d_RA_init_66 : decode b_RA_init 66 = .ok (.new 28, 3) := by decide +kernel
theorem d_RA_init_69 : decode b_RA_init 69 = .ok (.dup, 1) := by decide +kernel
theorem d_RA_init_70 : decode b_RA_init 70 = .ok (.invokespecial 34, 3) := by decide +kernel
theorem d_RA_init_73 : decode b_RA_init 73 = .ok (.aastore, 1) := by decide +kernel
theorem d_RA_init_74 : decode b_RA_init 74 = .ok (.iinc 1 1, 3) := by decide +kernel
theorem d_RA_init_77 : decode b_RA_init 77 = .ok (.goto (-22), 3) := by decide +kernel
theorem d_RA_init_80 : decode b_RA_init 80 = .ok (.aload_n 0, 1) := by decide +kernel
theorem d_RA_init_81 : decode b_RA_init 81 = .ok (.getfield 30, 3) := by decide +kernel
theorem d_RA_init_84 : decode b_RA_init 84 = .ok (.bipush 16, 2) := by decide +kernel
theorem d_RA_init_86 : decode b_RA_init 86 = .ok (.aaload, 1) := by decide +kernel
theorem d_RA_init_87 : decode b_RA_init 87 = .ok (.iconst 0, 1) := by decide +kernel
theorem d_RA_init_88 : decode b_RA_init 88 = .ok (.iconst 1, 1) := by decide +kernel
theorem d_RA_init_89 : decode b_RA_init 89 = .ok (.invokevirtual 35, 3) := by decide +kernel
theorem d_RA_init_92 : decode b_RA_init 92 = .ok (.aload_n 0, 1) := by decide +kernel
theorem d_RA_init_93 : decode b_RA_init 93 = .ok (.new 39, 3) := by decide +kernel
theorem d_RA_init_96 : decode b_RA_init 96 = .ok (.dup, 1) := by decide +kernel
theorem d_RA_init_97 : decode b_RA_init 97 = .ok (.aload_n 0, 1) := by decide +kernel
theorem d_RA_init_98 : decode b_RA_init 98 = .ok (.getfield 9, 3) := by decide +kernel
theorem d_RA_init_101 : decode b_RA_init 101 = .ok (.invokespecial 41, 3) := by decide +kernel
theorem d_RA_init_104 : decode b_RA_init 104 = .ok (.putfield 44, 3) := by decide +kernel
theorem d_RA_init_107 : decode b_RA_init 107 = .ok (.aload_n 0, 1) := by decide +kernel
theorem d_RA_init_108 : decode b_RA_init 108 = .ok (.new 48, 3) := by decide +kernel
theorem d_RA_init_111 : decode b_RA_init 111 = .ok (.dup, 1) := by decide +kernel
theorem d_RA_init_112 : decode b_RA_init 112 = .ok (.invokespecial 50, 3) := by decide +kernel
theorem d_RA_init_115 : decode b_RA_init 115 = .ok (.putfield 51, 3) := by decide +kernel
theorem d_RA_init_118 : decode b_RA_init 118 = .ok (.aload_n 0, 1) := by decide +kernel
theorem d_RA_init_119 : decode b_RA_init 119 = .ok (.iconst (-1), 1) := by decide +kernel
theorem d_RA_init_120 : decode b_RA_init 120 = .ok (.putfield 55, 3) := by decide +kernel
theorem d_RA_init_123 : decode b_RA_init 123 = .ok (.return_, 1) := by decide +kernel
theorem d_RA_isName_0 : decode b_RA_isName 0 = .ok (.iload_n 1, 1) := by decide +kernel
theorem d_RA_isName_1 : decode b_RA_isName 1 = .ok (.ifCond .lt 13, 3) := by decide +kernel
theorem d_RA_isName_4 : decode b_RA_isName 4 = .ok (.iload_n 1, 1) := by decide +kernel
theorem d_RA_isName_5 : decode b_RA_isName 5 = .ok (.bipush 16, 2) := by decide +kernel
theorem d_RA_isName_7 : decode b_RA_isName 7 = .ok (.if_icmp .gt 7, 3) := by decide +kernel
theorem d_RA_isName_10 : decode b_RA_isName 10 = .ok (.iconst 1, 1) := by decide +kernel
