theorem d181_0 : decode (xbc 181) 0 = .ok (.lload_n 0, 1) := by decide +kernel
theorem d181_1 : decode (xbc 181) 1 = .ok (.lload_n 2, 1) := by decide +kernel
theorem d181_2 : decode (xbc 181) 2 = .ok (.bipush 24, 2) := by decide +kernel
theorem d181_4 : decode (xbc 181) 4 = .ok (.bipush 127, 2) := by decide +kernel
theorem d181_6 : decode (xbc 181) 6 = .ok (.invokestatic 23, 3) := by decide +kernel
theorem d181_9 : decode (xbc 181) 9 = .ok (.l2i, 1) := by decide +kernel
theorem d181_10 : decode (xbc 181) 10 = .ok (.istore 4, 2) := by decide +kernel
theorem d181_12 : decode (xbc 181) 12 = .ok (.lload_n 0, 1) := by decide +kernel
theorem d181_13 : decode (xbc 181) 13 = .ok (.lconst 0, 1) := by decide +kernel
theorem d181_14 : decode (xbc 181) 14 = .ok (.lcmp, 1) := by decide +kernel
theorem d181_15 : decode (xbc 181) 15 = .ok (.ifCond .ge 12, 3) := by decide +kernel
theorem d181_18 : decode (xbc 181) 18 = .ok (.iload 4, 2) := by decide +kernel
theorem d181_20 : decode (xbc 181) 20 = .ok (.ldc 29, 2) := by decide +kernel
theorem d181_22 : decode (xbc 181) 22 = .ok (.ior, 1) := by decide +kernel
theorem d181_23 : decode (xbc 181) 23 = .ok (.i2l, 1) := by decide +kernel
theorem d181_24 : decode (xbc 181) 24 = .ok (.goto 6, 3) := by decide +kernel
theorem d181_27 : decode (xbc 181) 27 = .ok (.iload 4, 2) := by decide +kernel
theorem d181_29 : decode (xbc 181) 29 = .ok (.i2l, 1) := by decide +kernel
theorem d181_30 : decode (xbc 181) 30 = .ok (.lreturn, 1) := by decide +kernel
theorem d182_0 : decode (xbc 182) 0 = .ok (.lload_n 0, 1) := by decide +kernel
theorem d182_1 : decode (xbc 182) 1 = .ok (.lconst 0, 1) := by decide +kernel
theorem d182_2 : decode (xbc 182) 2 = .ok (.lcmp, 1) := by decide +kernel
theorem d182_3 : decode (xbc 182) 3 = .ok (.ifCond .eq 9, 3) := by decide +kernel
theorem d182_6 : decode (xbc 182) 6 = .ok (.lload_n 2, 1) := by decide +kernel
theorem d182_7 : decode (xbc 182) 7 = .ok (.lconst 0, 1) := by decide +kernel
theorem d182_8 : decode (xbc 182) 8 = .ok (.lcmp, 1) := by decide +kernel
theorem d182_9 : decode (xbc 182) 9 = .ok (.ifCond .gt 5, 3) := by decide +kernel
theorem d182_12 : decode (xbc 182) 12 = .ok (.lconst 0, 1) := by decide +kernel
theorem d182_13 : decode (xbc 182) 13 = .ok (.lreturn, 1) := by decide +kernel
theorem d182_14 : decode (xbc 182) 14 = .ok (.lload_n 0, 1) := by decide +kernel
theorem d182_15 : decode (xbc 182) 15 = .ok (.invokestatic 9, 3) := by decide +kernel
theorem d182_18 : decode (xbc 182) 18 = .ok (.lstore 6, 2) := by decide +kernel
theorem d182_20 : decode (xbc 182) 20 = .ok (.lload 6, 2) := by decide +kernel
theorem d182_22 : decode (xbc 182) 22 = .ok (.lload_n 2, 1) := by decide +kernel
theorem d182_23 : decode (xbc 182) 23 = .ok (.iload 4, 2) := by decide +kernel
theorem d182_25 : decode (xbc 182) 25 = .ok (.invokestatic 15, 3) := by decide +kernel
theorem d182_28 : decode (xbc 182) 28 = .ok (.istore 8, 2) := by decide +kernel
theorem d182_30 : decode (xbc 182) 30 = .ok (.lload 6, 2) := by decide +kernel
theorem d182_32 : decode (xbc 182) 32 = .ok (.iload 8, 2) := by decide +kernel
theorem d182_34 : decode (xbc 182) 34 = .ok (.lshl, 1) := by decide +kernel
theorem d182_35 : decode (xbc 182) 35 = .ok (.lload_n 2, 1) := by decide +kernel
theorem d182_36 : decode (xbc 182) 36 = .ok (.invokestatic 19, 3) := by decide +kernel
theorem d182_39 : decode (xbc 182) 39 = .ok (.lstore 9, 2) := by decide +kernel
theorem d182_41 : decode (xbc 182) 41 = .ok (.iload 4, 2) := by decide +kernel
theorem d182_43 : decode (xbc 182) 43 = .ok (.iconst 1, 1) := by decide +kernel
theorem d182_44 : decode (xbc 182) 44 = .ok (.isub, 1) := by decide +kernel
theorem d182_45 : decode (xbc 182) 45 = .ok (.iload 8, 2) := by decide +kernel
theorem d182_47 : decode (xbc 182) 47 = .ok (.isub, 1) := by decide +kernel
theorem d182_48 : decode (xbc 182) 48 = .ok (.iload 5, 2) := by decide +kernel
theorem d182_50 : decode (xbc 182) 50 = .ok (.iadd, 1) := by decide +kernel
theorem d182_51 : decode (xbc 182) 51 = .ok (.i2l, 1) := by decide +kernel
theorem d182_52 : decode (xbc 182) 52 = .ok (.lstore 11, 2) := by decide +kernel
theorem d182_54 : decode (xbc 182) 54 = .ok (.lload 11, 2) := by decide +kernel
theorem d182_56 : decode (xbc 182) 56 = .ok (.iload 4, 2) := by decide +kernel
theorem d182_58 : decode (xbc 182) 58 = .ok (.iconst 1, 1) := by decide +kernel
theorem d182_59 : decode (xbc 182) 59 = .ok (.isub, 1) := by decide +kernel
theorem d182_60 : decode (xbc 182) 60 = .ok (.lshl, 1) := by decide +kernel
theorem d182_61 : decode (xbc 182) 61 = .ok (.lload 9, 2) := by decide +kernel
theorem d182_63 : decode (xbc 182) 63 = .ok (.ladd, 1) := by decide +kernel
theorem d182_64 : decode (xbc 182) 64 = .ok (.lconst 1, 1) := by decide +kernel
theorem d182_65 : decode (xbc 182) 65 = .ok (.iload 4, 2) := by decide +kernel
theorem d182_67 : decode (xbc 182) 67 = .ok (.iconst 1, 1) := by decide +kernel
theorem d182_68 : decode (xbc 182) 68 = .ok (.isub, 1) := by decide +kernel
theorem d182_69 : decode (xbc 182) 69 = .ok (.lshl, 1) := by decide +kernel
theorem d182_70 : decode (xbc 182) 70 = .ok (.lsub, 1) := by decide +kernel
theorem d182_71 : decode (xbc 182) 71 = .ok (.lreturn, 1) := by decide +kernel
theorem d183_0 : decode (xbc 183) 0 = .ok (.iconst 0, 1) := by decide +kernel
theorem d183_1 : decode (xbc 183) 1 = .ok (.istore 5, 2) := by decide +kernel
theorem d183_3 : decode (xbc 183) 3 = .ok (.iload 5, 2) := by decide +kernel
theorem d183_5 : decode (xbc 183) 5 = .ok (.bipush 62, 2) := by decide +kernel
theorem d183_7 : decode (xbc 183) 7 = .ok (.if_icmp .ge 23, 3) := by decide +kernel
theorem d183_10 : decode (xbc 183) 10 = .ok (.lload_n 0, 1) := by decide +kernel
theorem d183_11 : decode (xbc 183) 11 = .ok (.iload 5, 2) := by decide +kernel
theorem d183_13 : decode (xbc 183) 13 = .ok (.lshl, 1) := by decide +kernel
theorem d183_14 : decode (xbc 183) 14 = .ok (.lload_n 2, 1) := by decide +kernel
theorem d183_15 : decode (xbc 183) 15 = .ok (.iload 4, 2) := by decide +kernel
theorem d183_17 : decode (xbc 183) 17 = .ok (.iconst 1, 1) := by decide +kernel
theorem d183_18 : decode (xbc 183) 18 = .ok (.isub, 1) := by decide +kernel
theorem d183_19 : decode (xbc 183) 19 = .ok (.lshl, 1) := by decide +kernel
theorem d183_20 : decode (xbc 183) 20 = .ok (.lcmp, 1) := by decide +kernel
theorem d183_21 : decode (xbc 183) 21 = .ok (.ifCond .ge 9, 3) := by decide +kernel
theorem d183_24 : decode (xbc 183) 24 = .ok (.iinc 5 1, 3) := by decide +kernel
theorem d183_27 : decode (xbc 183) 27 = .ok (.goto (-24), 3) := by decide +kernel
theorem d183_30 : decode (xbc 183) 30 = .ok (.iload 5, 2) := by decide +kernel
theorem d183_32 : decode (xbc 183) 32 = .ok (.ireturn, 1) := by decide +kernel
theorem d184_0 : decode (xbc 184) 0 = .ok (.lload_n 2, 1) := by decide +kernel
theorem d184_1 : decode (xbc 184) 1 = .ok (.lconst 0, 1) := by decide +kernel
theorem d184_2 : decode (xbc 184) 2 = .ok (.lcmp, 1) := by decide +kernel
theorem d184_3 : decode (xbc 184) 3 = .ok (.ifCond .gt 5, 3) := by decide +kernel
theorem d184_6 : decode (xbc 184) 6 = .ok (.lconst 0, 1) := by decide +kernel
theorem d184_7 : decode (xbc 184) 7 = .ok (.lreturn, 1) := by decide +kernel
theorem d184_8 : decode (xbc 184) 8 = .ok (.lload_n 0, 1) := by decide +kernel
theorem d184_9 : decode (xbc 184) 9 = .ok (.lload_n 2, 1) := by decide +kernel
theorem d184_10 : decode (xbc 184) 10 = .ok (.ldiv, 1) := by decide +kernel
theorem d184_11 : decode (xbc 184) 11 = .ok (.lstore 4, 2) := by decide +kernel
theorem d184_13 : decode (xbc 184) 13 = .ok (.ldc2_w 34, 3) := by decide +kernel
theorem d184_16 : decode (xbc 184) 16 = .ok (.lload_n 0, 1) := by decide +kernel
theorem d184_17 : decode (xbc 184) 17 = .ok (.lload_n 2, 1) := by decide +kernel
theorem d184_18 : decode (xbc 184) 18 = .ok (.lrem, 1) := by decide +kernel
theorem d184_19 : decode (xbc 184) 19 = .ok (.lmul, 1) := by decide +kernel
theorem d184_20 : decode (xbc 184) 20 = .ok (.lstore 6, 2) := by decide +kernel
theorem d184_22 : decode (xbc 184) 22 = .ok (.lload 6, 2) := by decide +kernel
theorem d184_24 : decode (xbc 184) 24 = .ok (.lload_n 2, 1) := by decide +kernel
theorem d184_25 : decode (xbc 184) 25 = .ok (.lcmp, 1) := by decide +kernel
theorem d184_26 : decode (xbc 184) 26 = .ok (.ifCond .gt 21, 3) := by decide +kernel
theorem d184_29 : decode (xbc 184) 29 = .ok (.lload 6, 2) := by decide +kernel
theorem d184_31 : decode (xbc 184) 31 = .ok (.lload_n 2, 1) := by decide +kernel
theorem d184_32 : decode (xbc 184) 32 = .ok (.lcmp, 1) := by decide +kernel
theorem d184_33 : decode (xbc 184) 33 = .ok (.ifCond .ne 18, 3) := by decide +kernel
theorem d184_36 : decode (xbc 184) 36 = .ok (.lload 4, 2) := by decide +kernel
theorem d184_38 : decode (xbc 184) 38 = .ok (.ldc2_w 34, 3) := by decide +kernel
theorem d184_41 : decode (xbc 184) 41 = .ok (.lrem, 1) := by decide +kernel
theorem d184_42 : decode (xbc 184) 42 = .ok (.lconst 1, 1) := by decide +kernel
theorem d184_43 : decode (xbc 184) 43 = .ok (.lcmp, 1) := by decide +kernel
theorem d184_44 : decode (xbc 184) 44 = .ok (.ifCond .ne 7, 3) := by decide +kernel
theorem d184_47 : decode (xbc 184) 47 = .ok (.iconst 1, 1) := by decide +kernel
theorem d184_48 : decode (xbc 184) 48 = .ok (.goto 4, 3) := by decide +kernel
theorem d184_51 : decode (xbc 184) 51 = .ok (.iconst 0, 1) := by decide +kernel
theorem d184_52 : decode (xbc 184) 52 = .ok (.istore 8, 2) := by decide +kernel
theorem d184_54 : decode (xbc 184) 54 = .ok (.iload 8, 2) := by decide +kernel
theorem d184_56 : decode (xbc 184) 56 = .ok (.ifCond .eq 10, 3) := by decide +kernel
theorem d184_59 : decode (xbc 184) 59 = .ok (.lload 4, 2) := by decide +kernel
theorem d184_61 : decode (xbc 184) 61 = .ok (.lconst 1, 1) := by decide +kernel
theorem d184_62 : decode (xbc 184) 62 = .ok (.ladd, 1) := by decide +kernel
theorem d184_63 : decode (xbc 184) 63 = .ok (.goto 5, 3) := by decide +kernel
theorem d184_66 : decode (xbc 184) 66 = .ok (.lload 4, 2) := by decide +kernel
theorem d184_68 : decode (xbc 184) 68 = .ok (.lreturn, 1) := by decide +kernel
theorem d185_0 : decode (xbc 185) 0 = .ok (.lload_n 0, 1) := by decide +kernel
theorem d185_1 : decode (xbc 185) 1 = .ok (.lload_n 2, 1) := by decide +kernel
theorem d185_2 : decode (xbc 185) 2 = .ok (.bipush 53, 2) := by decide +kernel
theorem d185_4 : decode (xbc 185) 4 = .ok (.sipush 1023, 3) := by decide +kernel
theorem d185_7 : decode (xbc 185) 7 = .ok (.invokestatic 23, 3) := by decide +kernel
theorem d185_10 : decode (xbc 185) 10 = .ok (.lstore 4, 2) := by decide +kernel
theorem d185_12 : decode (xbc 185) 12 = .ok (.lload_n 0, 1) := by decide +kernel
theorem d185_13 : decode (xbc 185) 13 = .ok (.lconst 0, 1) := by decide +kernel
theorem d185_14 : decode (xbc 185) 14 = .ok (.lcmp, 1) := by decide +kernel
theorem d185_15 : decode (xbc 185) 15 = .ok (.ifCond .ge 12, 3) := by decide +kernel
theorem d185_18 : decode (xbc 185) 18 = .ok (.lload 4, 2) := by decide +kernel
theorem d185_20 : decode (xbc 185) 20 = .ok (.ldc2_w 32, 3) := by decide +kernel
theorem d185_23 : decode (xbc 185) 23 = .ok (.lor, 1) := by decide +kernel
theorem d185_24 : decode (xbc 185) 24 = .ok (.goto 5, 3) := by decide +kernel
theorem d185_27 : decode (xbc 185) 27 = .ok (.lload 4, 2) := by decide +kernel
theorem d185_29 : decode (xbc 185) 29 = .ok (.lreturn, 1) := by decide +kernel
theorem d186_0 : decode (xbc 186) 0 = .ok (.lload_n 0, 1) := by decide +kernel
theorem d186_1 : decode (xbc 186) 1 = .ok (.lconst 0, 1) := by decide +kernel
theorem d186_2 : decode (xbc 186) 2 = .ok (.lcmp, 1) := by decide +kernel
theorem d186_3 : decode (xbc 186) 3 = .ok (.ifCond .eq 9, 3) := by decide +kernel
theorem d186_6 : decode (xbc 186) 6 = .ok (.lload_n 2, 1) := by decide +kernel
theorem d186_7 : decode (xbc 186) 7 = .ok (.lconst 0, 1) := by decide +kernel
theorem d186_8 : decode (xbc 186) 8 = .ok (.lcmp, 1) := by decide +kernel
theorem d186_9 : decode (xbc 186) 9 = .ok (.ifCond .gt 5, 3) := by decide +kernel
theorem d186_12 : decode (xbc 186) 12 = .ok (.lconst 0, 1) := by decide +kernel
theorem d186_13 : decode (xbc 186) 13 = .ok (.lreturn, 1) := by decide +kernel
theorem d186_14 : decode (xbc 186) 14 = .ok (.lload_n 0, 1) := by decide +kernel
theorem d186_15 : decode (xbc 186) 15 = .ok (.invokestatic 9, 3) := by decide +kernel
theorem d186_18 : decode (xbc 186) 18 = .ok (.lstore 4, 2) := by decide +kernel
theorem d186_20 : decode (xbc 186) 20 = .ok (.lload 4, 2) := by decide +kernel
theorem d186_22 : decode (xbc 186) 22 = .ok (.lload_n 2, 1) := by decide +kernel
theorem d186_23 : decode (xbc 186) 23 = .ok (.bipush 24, 2) := by decide +kernel
theorem d186_25 : decode (xbc 186) 25 = .ok (.invokestatic 15, 3) := by decide +kernel
theorem d186_28 : decode (xbc 186) 28 = .ok (.istore 6, 2) := by decide +kernel
theorem d186_30 : decode (xbc 186) 30 = .ok (.lload 4, 2) := by decide +kernel
theorem d186_32 : decode (xbc 186) 32 = .ok (.iload 6, 2) := by decide +kernel
theorem d186_34 : decode (xbc 186) 34 = .ok (.lshl, 1) := by decide +kernel
theorem d186_35 : decode (xbc 186) 35 = .ok (.lload_n 2, 1) := by decide +kernel
theorem d186_36 : decode (xbc 186) 36 = .ok (.invokestatic 19, 3) := by decide +kernel
theorem d186_39 : decode (xbc 186) 39 = .ok (.lstore 7, 2) := by decide +kernel
theorem d186_41 : decode (xbc 186) 41 = .ok (.iload 6, 2) := by decide +kernel
theorem d186_43 : decode (xbc 186) 43 = .ok (.bipush 30, 2) := by decide +kernel
theorem d186_45 : decode (xbc 186) 45 = .ok (.if_icmp .gt 14, 3) := by decide +kernel
theorem d186_48 : decode (xbc 186) 48 = .ok (.lload 7, 2) := by decide +kernel
theorem d186_50 : decode (xbc 186) 50 = .ok (.bipush 30, 2) := by decide +kernel
theorem d186_52 : decode (xbc 186) 52 = .ok (.iload 6, 2) := by decide +kernel
theorem d186_54 : decode (xbc 186) 54 = .ok (.isub, 1) := by decide +kernel
theorem d186_55 : decode (xbc 186) 55 = .ok (.lshl, 1) := by decide +kernel
theorem d186_56 : decode (xbc 186) 56 = .ok (.goto 11, 3) := by decide +kernel
theorem d186_59 : decode (xbc 186) 59 = .ok (.lload 7, 2) := by decide +kernel
theorem d186_61 : decode (xbc 186) 61 = .ok (.iload 6, 2) := by decide +kernel
theorem d186_63 : decode (xbc 186) 63 = .ok (.bipush 30, 2) := by decide +kernel
theorem d186_65 : decode (xbc 186) 65 = .ok (.isub, 1) := by decide +kernel
theorem d186_66 : decode (xbc 186) 66 = .ok (.lshr, 1) := by decide +kernel
theorem d186_67 : decode (xbc 186) 67 = .ok (.lstore 9, 2) := by decide +kernel
theorem d186_69 : decode (xbc 186) 69 = .ok (.lload_n 0, 1) := by decide +kernel
theorem d186_70 : decode (xbc 186) 70 = .ok (.lconst 0, 1) := by decide +kernel
theorem d186_71 : decode (xbc 186) 71 = .ok (.lcmp, 1) := by decide +kernel
theorem d186_72 : decode (xbc 186) 72 = .ok (.ifCond .ge 9, 3) := by decide +kernel
theorem d186_75 : decode (xbc 186) 75 = .ok (.lload 9, 2) := by decide +kernel
theorem d186_77 : decode (xbc 186) 77 = .ok (.lneg, 1) := by decide +kernel
theorem d186_78 : decode (xbc 186) 78 = .ok (.goto 5, 3) := by decide +kernel
theorem d186_81 : decode (xbc 186) 81 = .ok (.lload 9, 2) := by decide +kernel
theorem d186_83 : decode (xbc 186) 83 = .ok (.lreturn, 1) := by decide +kernel
theorem d187_0 : decode (xbc 187) 0 = .ok (.iconst 0, 1) := by decide +kernel
theorem d187_1 : decode (xbc 187) 1 = .ok (.istore_n 2, 1) := by decide +kernel
theorem d187_2 : decode (xbc 187) 2 = .ok (.aload_n 0, 1) := by decide +kernel
theorem d187_3 : decode (xbc 187) 3 = .ok (.arraylength, 1) := by decide +kernel
theorem d187_4 : decode (xbc 187) 4 = .ok (.istore_n 3, 1) := by decide +kernel
theorem d187_5 : decode (xbc 187) 5 = .ok (.iload_n 2, 1) := by decide +kernel
theorem d187_6 : decode (xbc 187) 6 = .ok (.iload_n 3, 1) := by decide +kernel
theorem d187_7 : decode (xbc 187) 7 = .ok (.if_icmp .ge 13, 3) := by decide +kernel
theorem d187_10 : decode (xbc 187) 10 = .ok (.aload_n 0, 1) := by decide +kernel
theorem d187_11 : decode (xbc 187) 11 = .ok (.iload_n 2, 1) := by decide +kernel
theorem d187_12 : decode (xbc 187) 12 = .ok (.iload_n 1, 1) := by decide +kernel
theorem d187_13 : decode (xbc 187) 13 = .ok (.iastore, 1) := by decide +kernel
theorem d187_14 : decode (xbc 187) 14 = .ok (.iinc 2 1, 3) := by decide +kernel
theorem d187_17 : decode (xbc 187) 17 = .ok (.goto (-12), 3) := by decide +kernel
theorem d187_20 : decode (xbc 187) 20 = .ok (.return_, 1) := by decide +kernel
