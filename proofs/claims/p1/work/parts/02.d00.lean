/-! what each instruction is; laid by program -/
theorem d_Big_divide_0 : decode b_Big_divide 0 = .ok (.iload_n 1, 1) := by decide +kernel
theorem d_Big_divide_1 : decode b_Big_divide 1 = .ok (.ifCond .gt 5, 3) := by decide +kernel
theorem d_Big_divide_6 : decode b_Big_divide 6 = .ok (.lconst 0, 1) := by decide +kernel
theorem d_Big_divide_7 : decode b_Big_divide 7 = .ok (.lstore_n 2, 1) := by decide +kernel
theorem d_Big_divide_8 : decode b_Big_divide 8 = .ok (.aload_n 0, 1) := by decide +kernel
theorem d_Big_divide_9 : decode b_Big_divide 9 = .ok (.getfield 17, 3) := by decide +kernel
theorem d_Big_divide_12 : decode b_Big_divide 12 = .ok (.iconst 1, 1) := by decide +kernel
theorem d_Big_divide_13 : decode b_Big_divide 13 = .ok (.isub, 1) := by decide +kernel
theorem d_Big_divide_14 : decode b_Big_divide 14 = .ok (.istore 4, 2) := by decide +kernel
theorem d_Big_divide_16 : decode b_Big_divide 16 = .ok (.iload 4, 2) := by decide +kernel
theorem d_Big_divide_18 : decode b_Big_divide 18 = .ok (.ifCond .lt 47, 3) := by decide +kernel
theorem d_Big_divide_21 : decode b_Big_divide 21 = .ok (.lload_n 2, 1) := by decide +kernel
theorem d_Big_divide_22 : decode b_Big_divide 22 = .ok (.bipush 32, 2) := by decide +kernel
theorem d_Big_divide_24 : decode b_Big_divide 24 = .ok (.lshl, 1) := by decide +kernel
theorem d_Big_divide_25 : decode b_Big_divide 25 = .ok (.aload_n 0, 1) := by decide +kernel
theorem d_Big_divide_26 : decode b_Big_divide 26 = .ok (.getfield 7, 3) := by decide +kernel
theorem d_Big_divide_29 : decode b_Big_divide 29 = .ok (.iload 4, 2) := by decide +kernel
theorem d_Big_divide_31 : decode b_Big_divide 31 = .ok (.iaload, 1) := by decide +kernel
theorem d_Big_divide_32 : decode b_Big_divide 32 = .ok (.i2l, 1) := by decide +kernel
theorem d_Big_divide_33 : decode b_Big_divide 33 = .ok (.ldc2_w 35, 3) := by decide +kernel
theorem d_Big_divide_36 : decode b_Big_divide 36 = .ok (.land, 1) := by decide +kernel
theorem d_Big_divide_37 : decode b_Big_divide 37 = .ok (.lor, 1) := by decide +kernel
theorem d_Big_divide_38 : decode b_Big_divide 38 = .ok (.lstore 5, 2) := by decide +kernel
theorem d_Big_divide_40 : decode b_Big_divide 40 = .ok (.aload_n 0, 1) := by decide +kernel
theorem d_Big_divide_41 : decode b_Big_divide 41 = .ok (.getfield 7, 3) := by decide +kernel
theorem d_Big_divide_44 : decode b_Big_divide 44 = .ok (.iload 4, 2) := by decide +kernel
theorem d_Big_divide_46 : decode b_Big_divide 46 = .ok (.lload 5, 2) := by decide +kernel
theorem d_Big_divide_48 : decode b_Big_divide 48 = .ok (.iload_n 1, 1) := by decide +kernel
theorem d_Big_divide_49 : decode b_Big_divide 49 = .ok (.i2l, 1) := by decide +kernel
theorem d_Big_divide_50 : decode b_Big_divide 50 = .ok (.ldiv, 1) := by decide +kernel
theorem d_Big_divide_51 : decode b_Big_divide 51 = .ok (.l2i, 1) := by decide +kernel
theorem d_Big_divide_52 : decode b_Big_divide 52 = .ok (.iastore, 1) := by decide +kernel
theorem d_Big_divide_53 : decode b_Big_divide 53 = .ok (.lload 5, 2) := by decide +kernel
theorem d_Big_divide_55 : decode b_Big_divide 55 = .ok (.iload_n 1, 1) := by decide +kernel
theorem d_Big_divide_56 : decode b_Big_divide 56 = .ok (.i2l, 1) := by decide +kernel
theorem d_Big_divide_57 : decode b_Big_divide 57 = .ok (.lrem, 1) := by decide +kernel
theorem d_Big_divide_58 : decode b_Big_divide 58 = .ok (.lstore_n 2, 1) := by decide +kernel
theorem d_Big_divide_59 : decode b_Big_divide 59 = .ok (.iinc 4 (-1), 3) := by decide +kernel
theorem d_Big_divide_62 : decode b_Big_divide 62 = .ok (.goto (-46), 3) := by decide +kernel
theorem d_Big_divide_65 : decode b_Big_divide 65 = .ok (.aload_n 0, 1) := by decide +kernel
theorem d_Big_divide_66 : decode b_Big_divide 66 = .ok (.invokevirtual 32, 3) := by decide +kernel
theorem d_Big_divide_69 : decode b_Big_divide 69 = .ok (.lload_n 2, 1) := by decide +kernel
theorem d_Big_divide_70 : decode b_Big_divide 70 = .ok (.l2i, 1) := by decide +kernel
theorem d_Big_divide_71 : decode b_Big_divide 71 = .ok (.ireturn, 1) := by decide +kernel
theorem d_Big_divideDown_0 : decode b_Big_divideDown 0 = .ok (.aload_n 0, 1) := by decide +kernel
theorem d_Big_divideDown_1 : decode b_Big_divideDown 1 = .ok (.getfield 13, 3) := by decide +kernel
theorem d_Big_divideDown_4 : decode b_Big_divideDown 4 = .ok (.ifCond .ge 7, 3) := by decide +kernel
theorem d_Big_divideDown_11 : decode b_Big_divideDown 11 = .ok (.iconst 0, 1) := by decide +kernel
theorem d_Big_divideDown_12 : decode b_Big_divideDown 12 = .ok (.istore_n 2, 1) := by decide +kernel
theorem d_Big_divideDown_13 : decode b_Big_divideDown 13 = .ok (.aload_n 0, 1) := by decide +kernel
theorem d_Big_divideDown_14 : decode b_Big_divideDown 14 = .ok (.iload_n 1, 1) := by decide +kernel
theorem d_Big_divideDown_15 : decode b_Big_divideDown 15 = .ok (.invokevirtual 56, 3) := by decide +kernel
theorem d_Big_divideDown_18 : decode b_Big_divideDown 18 = .ok (.ifCond .eq 11, 3) := by decide +kernel
theorem d_Big_divideDown_29 : decode b_Big_divideDown 29 = .ok (.return_, 1) := by decide +kernel
theorem d_Big_init_0 : decode b_Big_init 0 = .ok (.aload_n 0, 1) := by decide +kernel
theorem d_Big_init_1 : decode b_Big_init 1 = .ok (.invokespecial 1, 3) := by decide +kernel
theorem d_Big_init_4 : decode b_Big_init 4 = .ok (.aload_n 0, 1) := by decide +kernel
theorem d_Big_init_5 : decode b_Big_init 5 = .ok (.iload_n 1, 1) := by decide +kernel
theorem d_Big_init_6 : decode b_Big_init 6 = .ok (.newarray .int, 2) := by decide +kernel
theorem d_Big_init_8 : decode b_Big_init 8 = .ok (.putfield 7, 3) := by decide +kernel
theorem d_Big_init_11 : decode b_Big_init 11 = .ok (.return_, 1) := by decide +kernel
theorem d_Big_scale_0 : decode b_Big_scale 0 = .ok (.iload_n 1, 1) := by decide +kernel
theorem d_Big_scale_1 : decode b_Big_scale 1 = .ok (.iconst 1, 1) := by decide +kernel
theorem d_Big_scale_2 : decode b_Big_scale 2 = .ok (.if_icmp .eq 10, 3) := by decide +kernel
theorem d_Big_scale_5 : decode b_Big_scale 5 = .ok (.aload_n 0, 1) := by decide +kernel
theorem d_Big_scale_6 : decode b_Big_scale 6 = .ok (.getfield 13, 3) := by decide +kernel
theorem d_Big_scale_9 : decode b_Big_scale 9 = .ok (.ifCond .ne 4, 3) := by decide +kernel
theorem d_Big_scale_12 : decode b_Big_scale 12 = .ok (.return_, 1) := by decide +kernel
theorem d_Big_set_0 : decode b_Big_set 0 = .ok (.aload_n 0, 1) := by decide +kernel
theorem d_Big_set_1 : decode b_Big_set 1 = .ok (.aload_n 1, 1) := by decide +kernel
theorem d_Big_set_2 : decode b_Big_set 2 = .ok (.getfield 17, 3) := by decide +kernel
theorem d_Big_set_5 : decode b_Big_set 5 = .ok (.aload_n 0, 1) := by decide +kernel
theorem d_Big_set_6 : decode b_Big_set 6 = .ok (.getfield 7, 3) := by decide +kernel
theorem d_Big_set_9 : decode b_Big_set 9 = .ok (.arraylength, 1) := by decide +kernel
theorem d_Big_set_10 : decode b_Big_set 10 = .ok (.invokestatic 20, 3) := by decide +kernel
theorem d_Big_set_13 : decode b_Big_set 13 = .ok (.putfield 17, 3) := by decide +kernel
theorem d_Big_set_16 : decode b_Big_set 16 = .ok (.aload_n 1, 1) := by decide +kernel
theorem d_Big_set_17 : decode b_Big_set 17 = .ok (.getfield 7, 3) := by decide +kernel
theorem d_Big_set_20 : decode b_Big_set 20 = .ok (.iconst 0, 1) := by decide +kernel
theorem d_Big_set_21 : decode b_Big_set 21 = .ok (.aload_n 0, 1) := by decide +kernel
theorem d_Big_set_22 : decode b_Big_set 22 = .ok (.getfield 7, 3) := by decide +kernel
theorem d_Big_set_25 : decode b_Big_set 25 = .ok (.iconst 0, 1) := by decide +kernel
theorem d_Big_set_26 : decode b_Big_set 26 = .ok (.aload_n 0, 1) := by decide +kernel
theorem d_Big_set_27 : decode b_Big_set 27 = .ok (.getfield 17, 3) := by decide +kernel
theorem d_Big_set_30 : decode b_Big_set 30 = .ok (.invokestatic 26, 3) := by decide +kernel
theorem d_Big_set_33 : decode b_Big_set 33 = .ok (.aload_n 0, 1) := by decide +kernel
theorem d_Big_set_34 : decode b_Big_set 34 = .ok (.aload_n 1, 1) := by decide +kernel
theorem d_Big_set_35 : decode b_Big_set 35 = .ok (.getfield 13, 3) := by decide +kernel
theorem d_Big_set_38 : decode b_Big_set 38 = .ok (.putfield 13, 3) := by decide +kernel
theorem d_Big_set_41 : decode b_Big_set 41 = .ok (.aload_n 0, 1) := by decide +kernel
theorem d_Big_set_42 : decode b_Big_set 42 = .ok (.invokevirtual 32, 3) := by decide +kernel
theorem d_Big_set_45 : decode b_Big_set 45 = .ok (.return_, 1) := by decide +kernel
theorem d_Big_setLong_0 : decode b_Big_setLong 0 = .ok (.aload_n 0, 1) := by decide +kernel
theorem d_Big_setLong_1 : decode b_Big_setLong 1 = .ok (.lload_n 1, 1) := by decide +kernel
theorem d_Big_setLong_2 : decode b_Big_setLong 2 = .ok (.lconst 0, 1) := by decide +kernel
theorem d_Big_setLong_3 : decode b_Big_setLong 3 = .ok (.lcmp, 1) := by decide +kernel
theorem d_Big_setLong_4 : decode b_Big_setLong 4 = .ok (.ifCond .ge 7, 3) := by decide +kernel
theorem d_Big_setLong_11 : decode b_Big_setLong 11 = .ok (.lload_n 1, 1) := by decide +kernel
theorem d_Big_setLong_12 : decode b_Big_setLong 12 = .ok (.lconst 0, 1) := by decide +kernel
theorem d_Big_setLong_13 : decode b_Big_setLong 13 = .ok (.lcmp, 1) := by decide +kernel
theorem d_Big_setLong_14 : decode b_Big_setLong 14 = .ok (.ifCond .le 7, 3) := by decide +kernel
theorem d_Big_setLong_17 : decode b_Big_setLong 17 = .ok (.iconst 1, 1) := by decide +kernel
theorem d_Big_setLong_18 : decode b_Big_setLong 18 = .ok (.goto 4, 3) := by decide +kernel
theorem d_Big_setLong_21 : decode b_Big_setLong 21 = .ok (.iconst 0, 1) := by decide +kernel
theorem d_Big_setLong_22 : decode b_Big_setLong 22 = .ok (.putfield 13, 3) := by decide +kernel
theorem d_Big_setLong_25 : decode b_Big_setLong 25 = .ok (.lload_n 1, 1) := by decide +kernel
theorem d_Big_setLong_26 : decode b_Big_setLong 26 = .ok (.lconst 0, 1) := by decide +kernel
theorem d_Big_setLong_27 : decode b_Big_setLong 27 = .ok (.lcmp, 1) := by decide +kernel
theorem d_Big_setLong_28 : decode b_Big_setLong 28 = .ok (.ifCond .ge 8, 3) := by decide +kernel
theorem d_Big_setLong_36 : decode b_Big_setLong 36 = .ok (.lload_n 1, 1) := by decide +kernel
theorem d_Big_setLong_37 : decode b_Big_setLong 37 = .ok (.lstore_n 3, 1) := by decide +kernel
theorem d_Big_setLong_38 : decode b_Big_setLong 38 = .ok (.aload_n 0, 1) := by decide +kernel
theorem d_Big_setLong_39 : decode b_Big_setLong 39 = .ok (.iconst 0, 1) := by decide +kernel
theorem d_Big_setLong_40 : decode b_Big_setLong 40 = .ok (.putfield 17, 3) := by decide +kernel
theorem d_Big_setLong_43 : decode b_Big_setLong 43 = .ok (.iconst 0, 1) := by decide +kernel
theorem d_Big_setLong_44 : decode b_Big_setLong 44 = .ok (.istore 5, 2) := by decide +kernel
theorem d_Big_setLong_46 : decode b_Big_setLong 46 = .ok (.iload 5, 2) := by decide +kernel
theorem d_Big_setLong_48 : decode b_Big_setLong 48 = .ok (.iconst 2, 1) := by decide +kernel
theorem d_Big_setLong_49 : decode b_Big_setLong 49 = .ok (.if_icmp .ge 47, 3) := by decide +kernel
theorem d_Big_setLong_52 : decode b_Big_setLong 52 = .ok (.iload 5, 2) := by decide +kernel
theorem d_Big_setLong_54 : decode b_Big_setLong 54 = .ok (.aload_n 0, 1) := by decide +kernel
theorem d_Big_setLong_55 : decode b_Big_setLong 55 = .ok (.getfield 7, 3) := by decide +kernel
theorem d_Big_setLong_58 : decode b_Big_setLong 58 = .ok (.arraylength, 1) := by decide +kernel
theorem d_Big_setLong_59 : decode b_Big_setLong 59 = .ok (.if_icmp .ge 37, 3) := by decide +kernel
theorem d_Big_setLong_62 : decode b_Big_setLong 62 = .ok (.lload_n 3, 1) := by decide +kernel
theorem d_Big_setLong_63 : decode b_Big_setLong 63 = .ok (.lconst 0, 1) := by decide +kernel
theorem d_Big_setLong_64 : decode b_Big_setLong 64 = .ok (.lcmp, 1) := by decide +kernel
theorem d_Big_setLong_65 : decode b_Big_setLong 65 = .ok (.ifCond .eq 31, 3) := by decide +kernel
theorem d_Big_setLong_68 : decode b_Big_setLong 68 = .ok (.aload_n 0, 1) := by decide +kernel
theorem d_Big_setLong_69 : decode b_Big_setLong 69 = .ok (.getfield 7, 3) := by decide +kernel
theorem d_Big_setLong_72 : decode b_Big_setLong 72 = .ok (.iload 5, 2) := by decide +kernel
theorem d_Big_setLong_74 : decode b_Big_setLong 74 = .ok (.lload_n 3, 1) := by decide +kernel
theorem d_Big_setLong_75 : decode b_Big_setLong 75 = .ok (.l2i, 1) := by decide +kernel
theorem d_Big_setLong_76 : decode b_Big_setLong 76 = .ok (.iastore, 1) := by decide +kernel
theorem d_Big_setLong_77 : decode b_Big_setLong 77 = .ok (.lload_n 3, 1) := by decide +kernel
theorem d_Big_setLong_78 : decode b_Big_setLong 78 = .ok (.bipush 32, 2) := by decide +kernel
theorem d_Big_setLong_80 : decode b_Big_setLong 80 = .ok (.lushr, 1) := by decide +kernel
theorem d_Big_setLong_81 : decode b_Big_setLong 81 = .ok (.lstore_n 3, 1) := by decide +kernel
theorem d_Big_setLong_82 : decode b_Big_setLong 82 = .ok (.aload_n 0, 1) := by decide +kernel
theorem d_Big_setLong_83 : decode b_Big_setLong 83 = .ok (.iload 5, 2) := by decide +kernel
theorem d_Big_setLong_85 : decode b_Big_setLong 85 = .ok (.iconst 1, 1) := by decide +kernel
theorem d_Big_setLong_86 : decode b_Big_setLong 86 = .ok (.iadd, 1) := by decide +kernel
theorem d_Big_setLong_87 : decode b_Big_setLong 87 = .ok (.putfield 17, 3) := by decide +kernel
theorem d_Big_setLong_90 : decode b_Big_setLong 90 = .ok (.iinc 5 1, 3) := by decide +kernel
theorem d_Big_setLong_93 : decode b_Big_setLong 93 = .ok (.goto (-47), 3) := by decide +kernel
theorem d_Big_setLong_96 : decode b_Big_setLong 96 = .ok (.return_, 1) := by decide +kernel
theorem d_Big_trim_0 : decode b_Big_trim 0 = .ok (.aload_n 0, 1) := by decide +kernel
theorem d_Big_trim_1 : decode b_Big_trim 1 = .ok (.getfield 17, 3) := by decide +kernel
theorem d_Big_trim_4 : decode b_Big_trim 4 = .ok (.ifCond .le 30, 3) := by decide +kernel
theorem d_Big_trim_7 : decode b_Big_trim 7 = .ok (.aload_n 0, 1) := by decide +kernel
theorem d_Big_trim_8 : decode b_Big_trim 8 = .ok (.getfield 7, 3) := by decide +kernel
theorem d_Big_trim_11 : decode b_Big_trim 11 = .ok (.aload_n 0, 1) := by decide +kernel
theorem d_Big_trim_12 : decode b_Big_trim 12 = .ok (.getfield 17, 3) := by decide +kernel
theorem d_Big_trim_15 : decode b_Big_trim 15 = .ok (.iconst 1, 1) := by decide +kernel
theorem d_Big_trim_16 : decode b_Big_trim 16 = .ok (.isub, 1) := by decide +kernel
theorem d_Big_trim_17 : decode b_Big_trim 17 = .ok (.iaload, 1) := by decide +kernel
theorem d_Big_trim_18 : decode b_Big_trim 18 = .ok (.ifCond .ne 16, 3) := by decide +kernel
theorem d_Big_trim_21 : decode b_Big_trim 21 = .ok (.aload_n 0, 1) := by decide +kernel
theorem d_Big_trim_22 : decode b_Big_trim 22 = .ok (.dup, 1) := by decide +kernel
theorem d_Big_trim_23 : decode b_Big_trim 23 = .ok (.getfield 17, 3) := by decide +kernel
theorem d_Big_trim_26 : decode b_Big_trim 26 = .ok (.iconst 1, 1) := by decide +kernel
theorem d_Big_trim_27 : decode b_Big_trim 27 = .ok (.isub, 1) := by decide +kernel
theorem d_Big_trim_28 : decode b_Big_trim 28 = .ok (.putfield 17, 3) := by decide +kernel
theorem d_Big_trim_31 : decode b_Big_trim 31 = .ok (.goto (-31), 3) := by decide +kernel
theorem d_Big_trim_34 : decode b_Big_trim 34 = .ok (.aload_n 0, 1) := by decide +kernel
theorem d_Big_trim_35 : decode b_Big_trim 35 = .ok (.getfield 17, 3) := by decide +kernel
theorem d_Big_trim_38 : decode b_Big_trim 38 = .ok (.ifCond .ne 8, 3) := by decide +kernel
theorem d_Big_trim_41 : decode b_Big_trim 41 = .ok (.aload_n 0, 1) := by decide +kernel
theorem d_Big_trim_42 : decode b_Big_trim 42 = .ok (.iconst 0, 1) := by decide +kernel
theorem d_Big_trim_43 : decode b_Big_trim 43 = .ok (.putfield 13, 3) := by decide +kernel
theorem d_Big_trim_46 : decode b_Big_trim 46 = .ok (.return_, 1) := by decide +kernel
theorem d_Desk_init_0 : decode b_Desk_init 0 = .ok (.aload_n 0, 1) := by decide +kernel
theorem d_Desk_init_1 : decode b_Desk_init 1 = .ok (.invokespecial 3, 3) := by decide +kernel
theorem d_Desk_init_4 : decode b_Desk_init 4 = .ok (.aload_n 0, 1) := by decide +kernel
theorem d_Desk_init_5 : decode b_Desk_init 5 = .ok (.bipush 32, 2) := by decide +kernel
theorem d_Desk_init_7 : decode b_Desk_init 7 = .ok (.anewarray 11, 3) := by decide +kernel
theorem d_Desk_init_10 : decode b_Desk_init 10 = .ok (.putfield 13, 3) := by decide +kernel
theorem d_Desk_init_13 : decode b_Desk_init 13 = .ok (.iconst 0, 1) := by decide +kernel
theorem d_Desk_init_14 : decode b_Desk_init 14 = .ok (.istore_n 1, 1) := by decide +kernel
theorem d_Desk_init_15 : decode b_Desk_init 15 = .ok (.iload_n 1, 1) := by decide +kernel
theorem d_Desk_init_16 : decode b_Desk_init 16 = .ok (.bipush 32, 2) := by decide +kernel
theorem d_Desk_init_18 : decode b_Desk_init 18 = .ok (.if_icmp .ge 22, 3) := by decide +kernel
theorem d_Desk_init_21 : decode b_Desk_init 21 = .ok (.aload_n 0, 1) := by decide +kernel
theorem d_Desk_init_22 : decode b_Desk_init 22 = .ok (.getfield 13, 3) := by decide +kernel
theorem d_Desk_init_25 : decode b_Desk_init 25 = .ok (.iload_n 1, 1) := by decide +kernel
theorem d_Desk_init_26 : decode b_Desk_init 26 = .ok (.new 11, 3) := by decide +kernel
theorem d_Desk_init_29 : decode b_Desk_init 29 = .ok (.dup, 1) := by decide +kernel
theorem d_Desk_init_30 : decode b_Desk_init 30 = .ok (.invokespecial 17, 3) := by decide +kernel
theorem d_Desk_init_33 : decode b_Desk_init 33 = .ok (.aastore, 1) := by decide +kernel
theorem d_Desk_init_34 : decode b_Desk_init 34 = .ok (.iinc 1 1, 3) := by decide +kernel
theorem d_Desk_init_37 : decode b_Desk_init 37 = .ok (.goto (-22), 3) := by decide +kernel
theorem d_Desk_init_40 : decode b_Desk_init 40 = .ok (.aload_n 0, 1) := by decide +kernel
theorem d_Desk_init_41 : decode b_Desk_init 41 = .ok (.new 11, 3) := by decide +kernel
theorem d_Desk_init_44 : decode b_Desk_init 44 = .ok (.dup, 1) := by decide +kernel
theorem d_Desk_init_45 : decode b_Desk_init 45 = .ok (.invokespecial 17, 3) := by decide +kernel
theorem d_Desk_init_48 : decode b_Desk_init 48 = .ok (.putfield 18, 3) := by decide +kernel
theorem d_Desk_init_51 : decode b_Desk_init 51 = .ok (.aload_n 0, 1) := by decide +kernel
theorem d_Desk_init_52 : decode b_Desk_init 52 = .ok (.new 22, 3) := by decide +kernel
theorem d_Desk_init_55 : decode b_Desk_init 55 = .ok (.dup, 1) := by decide +kernel
theorem d_Desk_init_56 : decode b_Desk_init 56 = .ok (.invokespecial 24, 3) := by decide +kernel
theorem d_Desk_init_59 : decode b_Desk_init 59 = .ok (.putfield 25, 3) := by decide +kernel
theorem d_Desk_init_62 : decode b_Desk_init 62 = .ok (.aload_n 0, 1) := by decide +kernel
theorem d_Desk_init_63 : decode b_Desk_init 63 = .ok (.new 22, 3) := by decide +kernel
theorem d_Desk_init_66 : decode b_Desk_init 66 = .ok (.dup, 1) := by decide +kernel
theorem d_Desk_init_67 : decode b_Desk_init 67 = .ok (.invokespecial 24, 3) := by decide +kernel
theorem d_Desk_init_70 : decode b_Desk_init 70 = .ok (.putfield 29, 3) := by decide +kernel
theorem d_Desk_init_73 : decode b_Desk_init 73 = .ok (.aload_n 0, 1) := by decide +kernel
theorem d_Desk_init_74 : decode b_Desk_init 74 = .ok (.new 22, 3) := by decide +kernel
theorem d_Desk_init_77 : decode b_Desk_init 77 = .ok (.dup, 1) := by decide +kernel
theorem d_Desk_init_78 : decode b_Desk_init 78 = .ok (.invokespecial 24, 3) := by decide +kernel
theorem d_Desk_init_81 : decode b_Desk_init 81 = .ok (.putfield 32, 3) := by decide +kernel
theorem d_Desk_init_84 : decode b_Desk_init 84 = .ok (.aload_n 0, 1) := by decide +kernel
theorem d_Desk_init_85 : decode b_Desk_init 85 = .ok (.new 35, 3) := by decide +kernel
theorem d_Desk_init_88 : decode b_Desk_init 88 = .ok (.dup, 1) := by decide +kernel
theorem d_Desk_init_89 : decode b_Desk_init 89 = .ok (.invokespecial 37, 3) := by decide +kernel
theorem d_Desk_init_92 : decode b_Desk_init 92 = .ok (.putfield 38, 3) := by decide +kernel
theorem d_Desk_init_95 : decode b_Desk_init 95 = .ok (.aload_n 0, 1) := by decide +kernel
theorem d_Desk_init_96 : decode b_Desk_init 96 = .ok (.new 42, 3) := by decide +kernel
theorem d_Desk_init_99 : decode b_Desk_init 99 = .ok (.dup, 1) := by decide +kernel
theorem d_Desk_init_100 : decode b_Desk_init 100 = .ok (.invokespecial 44, 3) := by decide +kernel
theorem d_Desk_init_103 : decode b_Desk_init 103 = .ok (.putfield 45, 3) := by decide +kernel
theorem d_Desk_init_106 : decode b_Desk_init 106 = .ok (.aload_n 0, 1) := by decide +kernel
theorem d_Desk_init_107 : decode b_Desk_init 107 = .ok (.new 49, 3) := by decide +kernel
theorem d_Desk_init_110 : decode b_Desk_init 110 = .ok (.dup, 1) := by decide +kernel
theorem d_Desk_init_111 : decode b_Desk_init 111 = .ok (.invokespecial 51, 3) := by decide +kernel
theorem d_Desk_init_114 : decode b_Desk_init 114 = .ok (.putfield 52, 3) := by decide +kernel
theorem d_Desk_init_117 : decode b_Desk_init 117 = .ok (.aload_n 0, 1) := by decide +kernel
theorem d_Desk_init_118 : decode b_Desk_init 118 = .ok (.new 56, 3) := by decide +kernel
theorem d_Desk_init_121 : decode b_Desk_init 121 = .ok (.dup, 1) := by decide +kernel
theorem d_Desk_init_122 : decode b_Desk_init 122 = .ok (.invokespecial 58, 3) := by decide +kernel
theorem d_Desk_init_125 : decode b_Desk_init 125 = .ok (.putfield 59, 3) := by decide +kernel
theorem d_Desk_init_128 : decode b_Desk_init 128 = .ok (.return_, 1) := by decide +kernel
theorem d_Factors_init_0 : decode b_Factors_init 0 = .ok (.aload_n 0, 1) := by decide +kernel
theorem d_Factors_init_1 : decode b_Factors_init 1 = .ok (.invokespecial 5, 3) := by decide +kernel
theorem d_Factors_init_4 : decode b_Factors_init 4 = .ok (.aload_n 0, 1) := by decide +kernel
theorem d_Factors_init_5 : decode b_Factors_init 5 = .ok (.new 11, 3) := by decide +kernel
theorem d_Factors_init_8 : decode b_Factors_init 8 = .ok (.dup, 1) := by decide +kernel
theorem d_Factors_init_9 : decode b_Factors_init 9 = .ok (.invokespecial 13, 3) := by decide +kernel
theorem d_Factors_init_12 : decode b_Factors_init 12 = .ok (.putfield 14, 3) := by decide +kernel
theorem d_Factors_init_15 : decode b_Factors_init 15 = .ok (.aload_n 0, 1) := by decide +kernel
theorem d_Factors_init_16 : decode b_Factors_init 16 = .ok (.new 20, 3) := by decide +kernel
theorem d_Factors_init_19 : decode b_Factors_init 19 = .ok (.dup, 1) := by decide +kernel
theorem d_Factors_init_20 : decode b_Factors_init 20 = .ok (.invokespecial 22, 3) := by decide +kernel
theorem d_Factors_init_23 : decode b_Factors_init 23 = .ok (.putfield 23, 3) := by decide +kernel
theorem d_Factors_init_26 : decode b_Factors_init 26 = .ok (.aload_n 0, 1) := by decide +kernel
theorem d_Factors_init_27 : decode b_Factors_init 27 = .ok (.new 27, 3) := by decide +kernel
theorem d_Factors_init_30 : decode b_Factors_init 30 = .ok (.dup, 1) := by decide +kernel
theorem d_Factors_init_31 : decode b_Factors_init 31 = .ok (.bipush 28, 2) := by decide +kernel
theorem d_Factors_init_33 : decode b_Factors_init 33 = .ok (.invokespecial 29, 3) := by decide +kernel
theorem d_Factors_init_36 : decode b_Factors_init 36 = .ok (.putfield 32, 3) := by decide +kernel
theorem d_Factors_init_39 : decode b_Factors_init 39 = .ok (.aload_n 0, 1) := by decide +kernel
theorem d_Factors_init_40 : decode b_Factors_init 40 = .ok (.bipush 52, 2) := by decide +kernel
theorem d_Factors_init_42 : decode b_Factors_init 42 = .ok (.newarray .long, 2) := by decide +kernel
theorem d_Factors_init_44 : decode b_Factors_init 44 = .ok (.putfield 36, 3) := by decide +kernel
theorem d_Factors_init_47 : decode b_Factors_init 47 = .ok (.aload_n 0, 1) := by decide +kernel
theorem d_Factors_init_48 : decode b_Factors_init 48 = .ok (.bipush 52, 2) := by decide +kernel
theorem d_Factors_init_50 : decode b_Factors_init 50 = .ok (.newarray .long, 2) := by decide +kernel
theorem d_Factors_init_52 : decode b_Factors_init 52 = .ok (.putfield 40, 3) := by decide +kernel
theorem d_Factors_init_55 : decode b_Factors_init 55 = .ok (.aload_n 0, 1) := by decide +kernel
theorem d_Factors_init_56 : decode b_Factors_init 56 = .ok (.bipush 28, 2) := by decide +kernel
theorem d_Factors_init_58 : decode b_Factors_init 58 = .ok (.newarray .long, 2) := by decide +kernel
theorem d_Factors_init_60 : decode b_Factors_init 60 = .ok (.putfield 43, 3) := by decide +kernel
theorem d_Factors_init_63 : decode b_Factors_init 63 = .ok (.aload_n 0, 1) := by decide +kernel
theorem d_Factors_init_64 : decode b_Factors_init 64 = .ok (.bipush 28, 2) := by decide +kernel
theorem d_Factors_init_66 : decode b_Factors_init 66 = .ok (.newarray .long, 2) := by decide +kernel
theorem d_Factors_init_68 : decode b_Factors_init 68 = .ok (.putfield 46, 3) := by decide +kernel
theorem d_Factors_init_71 : decode b_Factors_init 71 = .ok (.aload_n 0, 1) := by decide +kernel
theorem d_Factors_init_72 : decode b_Factors_init 72 = .ok (.bipush 28, 2) := by decide +kernel
theorem d_Factors_init_74 : decode b_Factors_init 74 = .ok (.newarray .long, 2) := by decide +kernel
theorem d_Factors_init_76 : decode b_Factors_init 76 = .ok (.putfield 49, 3) := by decide +kernel
theorem d_Factors_init_79 : decode b_Factors_init 79 = .ok (.aload_n 0, 1) := by decide +kernel
theorem d_Factors_init_80 : decode b_Factors_init 80 = .ok (.bipush 28, 2) := by decide +kernel
theorem d_Factors_init_82 : decode b_Factors_init 82 = .ok (.newarray .long, 2) := by decide +kernel
theorem d_Factors_init_84 : decode b_Factors_init 84 = .ok (.putfield 52, 3) := by decide +kernel
theorem d_Factors_init_87 : decode b_Factors_init 87 = .ok (.aload_n 0, 1) := by decide +kernel
theorem d_Factors_init_88 : decode b_Factors_init 88 = .ok (.bipush 12, 2) := by decide +kernel
theorem d_Factors_init_90 : decode b_Factors_init 90 = .ok (.bipush 12, 2) := by decide +kernel
theorem d_Factors_init_92 : decode b_Factors_init 92 = .ok (.multianewarray 55 2, 4) := by decide +kernel
theorem d_Factors_init_96 : decode b_Factors_init 96 = .ok (.putfield 57, 3) := by decide +kernel
theorem d_Factors_init_99 : decode b_Factors_init 99 = .ok (.aload_n 0, 1) := by decide +kernel
theorem d_Factors_init_100 : decode b_Factors_init 100 = .ok (.bipush 12, 2) := by decide +kernel
theorem d_Factors_init_102 : decode b_Factors_init 102 = .ok (.bipush 12, 2) := by decide +kernel
theorem d_Factors_init_104 : decode b_Factors_init 104 = .ok (.multianewarray 55 2, 4) := by decide +kernel
theorem d_Factors_init_108 : decode b_Factors_init 108 = .ok (.putfield 60, 3) := by decide +kernel
theorem d_Factors_init_111 : decode b_Factors_init 111 = .ok (.aload_n 0, 1) := by decide +kernel
theorem d_Factors_init_112 : decode b_Factors_init 112 = .ok (.bipush 12, 2) := by decide +kernel
theorem d_Factors_init_114 : decode b_Factors_init 114 = .ok (.bipush 13, 2) := by decide +kernel
theorem d_Factors_init_116 : decode b_Factors_init 116 = .ok (.multianewarray 55 2, 4) := by decide +kernel
theorem d_Factors_init_120 : decode b_Factors_init 120 = .ok (.putfield 63, 3) := by decide +kernel
theorem d_Factors_init_123 : decode b_Factors_init 123 = .ok (.aload_n 0, 1) := by decide +kernel
theorem d_Factors_init_124 : decode b_Factors_init 124 = .ok (.bipush 12, 2) := by decide +kernel
theorem d_Factors_init_126 : decode b_Factors_init 126 = .ok (.bipush 13, 2) := by decide +kernel
theorem d_Factors_init_128 : decode b_Factors_init 128 = .ok (.multianewarray 55 2, 4) := by decide +kernel
theorem d_Factors_init_132 : decode b_Factors_init 132 = .ok (.putfield 66, 3) := by decide +kernel
theorem d_Factors_init_135 : decode b_Factors_init 135 = .ok (.aload_n 0, 1) := by decide +kernel
theorem d_Factors_init_136 : decode b_Factors_init 136 = .ok (.bipush 12, 2) := by decide +kernel
theorem d_Factors_init_138 : decode b_Factors_init 138 = .ok (.bipush 52, 2) := by decide +kernel
theorem d_Factors_init_140 : decode b_Factors_init 140 = .ok (.multianewarray 55 2, 4) := by decide +kernel
theorem d_Factors_init_144 : decode b_Factors_init 144 = .ok (.putfield 69, 3) := by decide +kernel
theorem d_Factors_init_147 : decode b_Factors_init 147 = .ok (.aload_n 0, 1) := by decide +kernel
theorem d_Factors_init_148 : decode b_Factors_init 148 = .ok (.bipush 52, 2) := by decide +kernel
theorem d_Factors_init_150 : decode b_Factors_init 150 = .ok (.newarray .long, 2) := by decide +kernel
theorem d_Factors_init_152 : decode b_Factors_init 152 = .ok (.putfield 72, 3) := by decide +kernel
theorem d_Factors_init_155 : decode b_Factors_init 155 = .ok (.aload_n 0, 1) := by decide +kernel
theorem d_Factors_init_156 : decode b_Factors_init 156 = .ok (.bipush 12, 2) := by decide +kernel
theorem d_Factors_init_158 : decode b_Factors_init 158 = .ok (.newarray .int, 2) := by decide +kernel
theorem d_Factors_init_160 : decode b_Factors_init 160 = .ok (.putfield 75, 3) := by decide +kernel
theorem d_Factors_init_163 : decode b_Factors_init 163 = .ok (.return_, 1) := by decide +kernel
theorem d_Field_init_0 : decode b_Field_init 0 = .ok (.aload_n 0, 1) := by decide +kernel
theorem d_Field_init_1 : decode b_Field_init 1 = .ok (.invokespecial 1, 3) := by decide +kernel
theorem d_Field_init_4 : decode b_Field_init 4 = .ok (.aload_n 0, 1) := by decide +kernel
theorem d_Field_init_5 : decode b_Field_init 5 = .ok (.iconst 3, 1) := by decide +kernel
theorem d_Field_init_6 : decode b_Field_init 6 = .ok (.putfield 7, 3) := by decide +kernel
theorem d_Field_init_9 : decode b_Field_init 9 = .ok (.aload_n 0, 1) := by decide +kernel
theorem d_Field_init_10 : decode b_Field_init 10 = .ok (.bipush 28, 2) := by decide +kernel
theorem d_Field_init_12 : decode b_Field_init 12 = .ok (.newarray .long, 2) := by decide +kernel
theorem d_Field_init_14 : decode b_Field_init 14 = .ok (.putfield 13, 3) := by decide +kernel
theorem d_Field_init_17 : decode b_Field_init 17 = .ok (.aload_n 0, 1) := by decide +kernel
theorem d_Field_init_18 : decode b_Field_init 18 = .ok (.bipush 28, 2) := by decide +kernel
theorem d_Field_init_20 : decode b_Field_init 20 = .ok (.newarray .long, 2) := by decide +kernel
theorem d_Field_init_22 : decode b_Field_init 22 = .ok (.putfield 17, 3) := by decide +kernel
theorem d_Field_init_25 : decode b_Field_init 25 = .ok (.aload_n 0, 1) := by decide +kernel
theorem d_Field_init_26 : decode b_Field_init 26 = .ok (.bipush 28, 2) := by decide +kernel
theorem d_Field_init_28 : decode b_Field_init 28 = .ok (.newarray .long, 2) := by decide +kernel
theorem d_Field_init_30 : decode b_Field_init 30 = .ok (.putfield 20, 3) := by decide +kernel
theorem d_Field_init_33 : decode b_Field_init 33 = .ok (.aload_n 0, 1) := by decide +kernel
theorem d_Field_init_34 : decode b_Field_init 34 = .ok (.bipush 28, 2) := by decide +kernel
theorem d_Field_init_36 : decode b_Field_init 36 = .ok (.newarray .long, 2) := by decide +kernel
theorem d_Field_init_38 : decode b_Field_init 38 = .ok (.putfield 23, 3) := by decide +kernel
theorem d_Field_init_41 : decode b_Field_init 41 = .ok (.aload_n 0, 1) := by decide +kernel
theorem d_Field_init_42 : decode b_Field_init 42 = .ok (.bipush 28, 2) := by decide +kernel
theorem d_Field_init_44 : decode b_Field_init 44 = .ok (.newarray .long, 2) := by decide +kernel
theorem d_Field_init_46 : decode b_Field_init 46 = .ok (.putfield 26, 3) := by decide +kernel
theorem d_Field_init_49 : decode b_Field_init 49 = .ok (.aload_n 0, 1) := by decide +kernel
theorem d_Field_init_50 : decode b_Field_init 50 = .ok (.bipush 28, 2) := by decide +kernel
theorem d_Field_init_52 : decode b_Field_init 52 = .ok (.newarray .long, 2) := by decide +kernel
theorem d_Field_init_54 : decode b_Field_init 54 = .ok (.putfield 29, 3) := by decide +kernel
theorem d_Field_init_57 : decode b_Field_init 57 = .ok (.return_, 1) := by decide +kernel
theorem d_Gauge_init_0 : decode b_Gauge_init 0 = .ok (.aload_n 0, 1) := by decide +kernel
theorem d_Gauge_init_1 : decode b_Gauge_init 1 = .ok (.invokespecial 1, 3) := by decide +kernel
theorem d_Gauge_init_4 : decode b_Gauge_init 4 = .ok (.aload_n 0, 1) := by decide +kernel
theorem d_Gauge_init_5 : decode b_Gauge_init 5 = .ok (.new 7, 3) := by decide +kernel
theorem d_Gauge_init_8 : decode b_Gauge_init 8 = .ok (.dup, 1) := by decide +kernel
theorem d_Gauge_init_9 : decode b_Gauge_init 9 = .ok (.sipush 400, 3) := by decide +kernel
theorem d_Gauge_init_12 : decode b_Gauge_init 12 = .ok (.invokespecial 11, 3) := by decide +kernel
theorem d_Gauge_init_15 : decode b_Gauge_init 15 = .ok (.putfield 14, 3) := by decide +kernel
theorem d_Gauge_init_18 : decode b_Gauge_init 18 = .ok (.aload_n 0, 1) := by decide +kernel
theorem d_Gauge_init_19 : decode b_Gauge_init 19 = .ok (.new 7, 3) := by decide +kernel
theorem d_Gauge_init_22 : decode b_Gauge_init 22 = .ok (.dup, 1) := by decide +kernel
theorem d_Gauge_init_23 : decode b_Gauge_init 23 = .ok (.sipush 400, 3) := by decide +kernel
theorem d_Gauge_init_26 : decode b_Gauge_init 26 = .ok (.invokespecial 11, 3) := by decide +kernel
theorem d_Gauge_init_29 : decode b_Gauge_init 29 = .ok (.putfield 18, 3) := by decide +kernel
theorem d_Gauge_init_32 : decode b_Gauge_init 32 = .ok (.aload_n 0, 1) := by decide +kernel
theorem d_Gauge_init_33 : decode b_Gauge_init 33 = .ok (.new 7, 3) := by decide +kernel
theorem d_Gauge_init_36 : decode b_Gauge_init 36 = .ok (.dup, 1) := by decide +kernel
theorem d_Gauge_init_37 : decode b_Gauge_init 37 = .ok (.sipush 400, 3) := by decide +kernel
theorem d_Gauge_init_40 : decode b_Gauge_init 40 = .ok (.invokespecial 11, 3) := by decide +kernel
theorem d_Gauge_init_43 : decode b_Gauge_init 43 = .ok (.putfield 21, 3) := by decide +kernel
theorem d_Gauge_init_46 : decode b_Gauge_init 46 = .ok (.aload_n 0, 1) := by decide +kernel
theorem d_Gauge_init_47 : decode b_Gauge_init 47 = .ok (.new 7, 3) := by decide +kernel
theorem d_Gauge_init_50 : decode b_Gauge_init 50 = .ok (.dup, 1) := by decide +kernel
theorem d_Gauge_init_51 : decode b_Gauge_init 51 = .ok (.sipush 400, 3) := by decide +kernel
theorem d_Gauge_init_54 : decode b_Gauge_init 54 = .ok (.invokespecial 11, 3) := by decide +kernel
theorem d_Gauge_init_57 : decode b_Gauge_init 57 = .ok (.putfield 24, 3) := by decide +kernel
theorem d_Gauge_init_60 : decode b_Gauge_init 60 = .ok (.aload_n 0, 1) := by decide +kernel
theorem d_Gauge_init_61 : decode b_Gauge_init 61 = .ok (.new 7, 3) := by decide +kernel
theorem d_Gauge_init_64 : decode b_Gauge_init 64 = .ok (.dup, 1) := by decide +kernel
theorem d_Gauge_init_65 : decode b_Gauge_init 65 = .ok (.bipush 72, 2) := by decide +kernel
theorem d_Gauge_init_67 : decode b_Gauge_init 67 = .ok (.invokespecial 11, 3) := by decide +kernel
theorem d_Gauge_init_70 : decode b_Gauge_init 70 = .ok (.putfield 27, 3) := by decide +kernel
theorem d_Gauge_init_73 : decode b_Gauge_init 73 = .ok (.aload_n 0, 1) := by decide +kernel
theorem d_Gauge_init_74 : decode b_Gauge_init 74 = .ok (.new 7, 3) := by decide +kernel
theorem d_Gauge_init_77 : decode b_Gauge_init 77 = .ok (.dup, 1) := by decide +kernel
theorem d_Gauge_init_78 : decode b_Gauge_init 78 = .ok (.bipush 72, 2) := by decide +kernel
theorem d_Gauge_init_80 : decode b_Gauge_init 80 = .ok (.invokespecial 11, 3) := by decide +kernel
theorem d_Gauge_init_83 : decode b_Gauge_init 83 = .ok (.putfield 30, 3) := by decide +kernel
theorem d_Gauge_init_86 : decode b_Gauge_init 86 = .ok (.aload_n 0, 1) := by decide +kernel
theorem d_Gauge_init_87 : decode b_Gauge_init 87 = .ok (.new 7, 3) := by decide +kernel
theorem d_Gauge_init_90 : decode b_Gauge_init 90 = .ok (.dup, 1) := by decide +kernel
theorem d_Gauge_init_91 : decode b_Gauge_init 91 = .ok (.sipush 400, 3) := by decide +kernel
theorem d_Gauge_init_94 : decode b_Gauge_init 94 = .ok (.invokespecial 11, 3) := by decide +kernel
theorem d_Gauge_init_97 : decode b_Gauge_init 97 = .ok (.putfield 33, 3) := by decide +kernel
theorem d_Gauge_init_100 : decode b_Gauge_init 100 = .ok (.aload_n 0, 1) := by decide +kernel
theorem d_Gauge_init_101 : decode b_Gauge_init 101 = .ok (.new 7, 3) := by decide +kernel
theorem d_Gauge_init_104 : decode b_Gauge_init 104 = .ok (.dup, 1) := by decide +kernel
theorem d_Gauge_init_105 : decode b_Gauge_init 105 = .ok (.sipush 400, 3) := by decide +kernel
theorem d_Gauge_init_108 : decode b_Gauge_init 108 = .ok (.invokespecial 11, 3) := by decide +kernel
theorem d_Gauge_init_111 : decode b_Gauge_init 111 = .ok (.putfield 36, 3) := by decide +kernel
theorem d_Gauge_init_114 : decode b_Gauge_init 114 = .ok (.aload_n 0, 1) := by decide +kernel
theorem d_Gauge_init_115 : decode b_Gauge_init 115 = .ok (.new 7, 3) := by decide +kernel
theorem d_Gauge_init_118 : decode b_Gauge_init 118 = .ok (.dup, 1) := by decide +kernel
theorem d_Gauge_init_119 : decode b_Gauge_init 119 = .ok (.bipush 72, 2) := by decide +kernel
theorem d_Gauge_init_121 : decode b_Gauge_init 121 = .ok (.invokespecial 11, 3) := by decide +kernel
theorem d_Gauge_init_124 : decode b_Gauge_init 124 = .ok (.putfield 39, 3) := by decide +kernel
theorem d_Gauge_init_127 : decode b_Gauge_init 127 = .ok (.aload_n 0, 1) := by decide +kernel
theorem d_Gauge_init_128 : decode b_Gauge_init 128 = .ok (.new 7, 3) := by decide +kernel
theorem d_Gauge_init_131 : decode b_Gauge_init 131 = .ok (.dup, 1) := by decide +kernel
theorem d_Gauge_init_132 : decode b_Gauge_init 132 = .ok (.bipush 72, 2) := by decide +kernel
theorem d_Gauge_init_134 : decode b_Gauge_init 134 = .ok (.invokespecial 11, 3) := by decide +kernel
theorem d_Gauge_init_137 : decode b_Gauge_init 137 = .ok (.putfield 42, 3) := by decide +kernel
theorem d_Gauge_init_140 : decode b_Gauge_init 140 = .ok (.aload_n 0, 1) := by decide +kernel
theorem d_Gauge_init_141 : decode b_Gauge_init 141 = .ok (.new 7, 3) := by decide +kernel
theorem d_Gauge_init_144 : decode b_Gauge_init 144 = .ok (.dup, 1) := by decide +kernel
theorem d_Gauge_init_145 : decode b_Gauge_init 145 = .ok (.bipush 72, 2) := by decide +kernel
theorem d_Gauge_init_147 : decode b_Gauge_init 147 = .ok (.invokespecial 11, 3) := by decide +kernel
theorem d_Gauge_init_150 : decode b_Gauge_init 150 = .ok (.putfield 45, 3) := by decide +kernel
theorem d_Gauge_init_153 : decode b_Gauge_init 153 = .ok (.return_, 1) := by decide +kernel
theorem d_Gauge_order_0 : decode b_Gauge_order 0 = .ok (.aload_n 1, 1) := by decide +kernel
theorem d_Gauge_order_1 : decode b_Gauge_order 1 = .ok (.aload_n 2, 1) := by decide +kernel
theorem d_Gauge_order_2 : decode b_Gauge_order 2 = .ok (.invokevirtual 127, 3) := by decide +kernel
theorem d_Gauge_order_5 : decode b_Gauge_order 5 = .ok (.ifCond .eq 15, 3) := by decide +kernel
theorem d_Gauge_order_8 : decode b_Gauge_order 8 = .ok (.aload_n 1, 1) := by decide +kernel
theorem d_Gauge_order_9 : decode b_Gauge_order 9 = .ok (.getfield 131, 3) := by decide +kernel
theorem d_Gauge_order_12 : decode b_Gauge_order 12 = .ok (.aload_n 2, 1) := by decide +kernel
theorem d_Gauge_order_13 : decode b_Gauge_order 13 = .ok (.getfield 131, 3) := by decide +kernel
theorem d_Gauge_order_16 : decode b_Gauge_order 16 = .ok (.invokestatic 134, 3) := by decide +kernel
theorem d_Gauge_order_19 : decode b_Gauge_order 19 = .ok (.ireturn, 1) := by decide +kernel
theorem d_Gauge_timesTen_0 : decode b_Gauge_timesTen 0 = .ok (.iconst 0, 1) := by decide +kernel
theorem d_Gauge_timesTen_1 : decode b_Gauge_timesTen 1 = .ok (.istore_n 3, 1) := by decide +kernel
theorem d_Gauge_timesTen_2 : decode b_Gauge_timesTen 2 = .ok (.iload_n 3, 1) := by decide +kernel
theorem d_Gauge_timesTen_3 : decode b_Gauge_timesTen 3 = .ok (.iload_n 2, 1) := by decide +kernel
theorem d_Gauge_timesTen_4 : decode b_Gauge_timesTen 4 = .ok (.if_icmp .ge 15, 3) := by decide +kernel
theorem d_Gauge_timesTen_7 : decode b_Gauge_timesTen 7 = .ok (.aload_n 1, 1) := by decide +kernel
theorem d_Gauge_timesTen_8 : decode b_Gauge_timesTen 8 = .ok (.bipush 10, 2) := by decide +kernel
theorem d_Gauge_timesTen_10 : decode b_Gauge_timesTen 10 = .ok (.invokevirtual 150, 3) := by decide +kernel
theorem d_Gauge_timesTen_13 : decode b_Gauge_timesTen 13 = .ok (.iinc 3 1, 3) := by decide +kernel
theorem d_Gauge_timesTen_16 : decode b_Gauge_timesTen 16 = .ok (.goto (-14), 3) := by decide +kernel
theorem d_Gauge_timesTen_19 : decode b_Gauge_timesTen 19 = .ok (.return_, 1) := by decide +kernel
theorem d_Gauge_wholePart_0 : decode b_Gauge_wholePart 0 = .ok (.aload_n 1, 1) := by decide +kernel
theorem d_Gauge_wholePart_1 : decode b_Gauge_wholePart 1 = .ok (.getfield 48, 3) := by decide +kernel
theorem d_Gauge_wholePart_4 : decode b_Gauge_wholePart 4 = .ok (.iconst 1, 1) := by decide +kernel
theorem d_Gauge_wholePart_5 : decode b_Gauge_wholePart 5 = .ok (.if_icmp .ne 45, 3) := by decide +kernel
theorem d_Gauge_wholePart_8 : decode b_Gauge_wholePart 8 = .ok (.aload_n 0, 1) := by decide +kernel
theorem d_Gauge_wholePart_9 : decode b_Gauge_wholePart 9 = .ok (.getfield 42, 3) := by decide +kernel
theorem d_Gauge_wholePart_12 : decode b_Gauge_wholePart 12 = .ok (.aload_n 1, 1) := by decide +kernel
