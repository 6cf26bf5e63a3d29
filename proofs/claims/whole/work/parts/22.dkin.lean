theorem d86_0 : decode (xbc 86) 0 = .ok (.aload_n 0, 1) := by decide +kernel
theorem d86_1 : decode (xbc 86) 1 = .ok (.invokespecial 1, 3) := by decide +kernel
theorem d86_4 : decode (xbc 86) 4 = .ok (.aload_n 0, 1) := by decide +kernel
theorem d86_5 : decode (xbc 86) 5 = .ok (.new 7, 3) := by decide +kernel
theorem d86_8 : decode (xbc 86) 8 = .ok (.dup, 1) := by decide +kernel
theorem d86_9 : decode (xbc 86) 9 = .ok (.invokespecial 9, 3) := by decide +kernel
theorem d86_12 : decode (xbc 86) 12 = .ok (.putfield 10, 3) := by decide +kernel
theorem d86_15 : decode (xbc 86) 15 = .ok (.aload_n 0, 1) := by decide +kernel
theorem d86_16 : decode (xbc 86) 16 = .ok (.new 16, 3) := by decide +kernel
theorem d86_19 : decode (xbc 86) 19 = .ok (.dup, 1) := by decide +kernel
theorem d86_20 : decode (xbc 86) 20 = .ok (.invokespecial 18, 3) := by decide +kernel
theorem d86_23 : decode (xbc 86) 23 = .ok (.putfield 19, 3) := by decide +kernel
theorem d86_26 : decode (xbc 86) 26 = .ok (.aload_n 0, 1) := by decide +kernel
theorem d86_27 : decode (xbc 86) 27 = .ok (.new 23, 3) := by decide +kernel
theorem d86_30 : decode (xbc 86) 30 = .ok (.dup, 1) := by decide +kernel
theorem d86_31 : decode (xbc 86) 31 = .ok (.invokespecial 25, 3) := by decide +kernel
theorem d86_34 : decode (xbc 86) 34 = .ok (.putfield 26, 3) := by decide +kernel
theorem d86_37 : decode (xbc 86) 37 = .ok (.aload_n 0, 1) := by decide +kernel
theorem d86_38 : decode (xbc 86) 38 = .ok (.new 30, 3) := by decide +kernel
theorem d86_41 : decode (xbc 86) 41 = .ok (.dup, 1) := by decide +kernel
theorem d86_42 : decode (xbc 86) 42 = .ok (.invokespecial 32, 3) := by decide +kernel
theorem d86_45 : decode (xbc 86) 45 = .ok (.putfield 33, 3) := by decide +kernel
theorem d86_48 : decode (xbc 86) 48 = .ok (.aload_n 0, 1) := by decide +kernel
theorem d86_49 : decode (xbc 86) 49 = .ok (.new 37, 3) := by decide +kernel
theorem d86_52 : decode (xbc 86) 52 = .ok (.dup, 1) := by decide +kernel
theorem d86_53 : decode (xbc 86) 53 = .ok (.invokespecial 39, 3) := by decide +kernel
theorem d86_56 : decode (xbc 86) 56 = .ok (.putfield 40, 3) := by decide +kernel
theorem d86_59 : decode (xbc 86) 59 = .ok (.aload_n 0, 1) := by decide +kernel
theorem d86_60 : decode (xbc 86) 60 = .ok (.iconst 2, 1) := by decide +kernel
theorem d86_61 : decode (xbc 86) 61 = .ok (.anewarray 44, 3) := by decide +kernel
theorem d86_64 : decode (xbc 86) 64 = .ok (.putfield 46, 3) := by decide +kernel
theorem d86_67 : decode (xbc 86) 67 = .ok (.iconst 0, 1) := by decide +kernel
theorem d86_68 : decode (xbc 86) 68 = .ok (.istore_n 1, 1) := by decide +kernel
theorem d86_69 : decode (xbc 86) 69 = .ok (.iload_n 1, 1) := by decide +kernel
theorem d86_70 : decode (xbc 86) 70 = .ok (.iconst 2, 1) := by decide +kernel
theorem d86_71 : decode (xbc 86) 71 = .ok (.if_icmp .ge 22, 3) := by decide +kernel
theorem d86_74 : decode (xbc 86) 74 = .ok (.aload_n 0, 1) := by decide +kernel
theorem d86_75 : decode (xbc 86) 75 = .ok (.getfield 46, 3) := by decide +kernel
theorem d86_78 : decode (xbc 86) 78 = .ok (.iload_n 1, 1) := by decide +kernel
theorem d86_79 : decode (xbc 86) 79 = .ok (.new 44, 3) := by decide +kernel
theorem d86_82 : decode (xbc 86) 82 = .ok (.dup, 1) := by decide +kernel
theorem d86_83 : decode (xbc 86) 83 = .ok (.invokespecial 50, 3) := by decide +kernel
theorem d86_86 : decode (xbc 86) 86 = .ok (.aastore, 1) := by decide +kernel
theorem d86_87 : decode (xbc 86) 87 = .ok (.iinc 1 1, 3) := by decide +kernel
theorem d86_90 : decode (xbc 86) 90 = .ok (.goto (-21), 3) := by decide +kernel
theorem d86_93 : decode (xbc 86) 93 = .ok (.return_, 1) := by decide +kernel
theorem d87_0 : decode (xbc 87) 0 = .ok (.iload_n 0, 1) := by decide +kernel
theorem d87_1 : decode (xbc 87) 1 = .ok (.iconst 1, 1) := by decide +kernel
theorem d87_2 : decode (xbc 87) 2 = .ok (.if_icmp .lt 13, 3) := by decide +kernel
theorem d87_5 : decode (xbc 87) 5 = .ok (.iload_n 0, 1) := by decide +kernel
theorem d87_6 : decode (xbc 87) 6 = .ok (.bipush 7, 2) := by decide +kernel
theorem d87_8 : decode (xbc 87) 8 = .ok (.if_icmp .gt 7, 3) := by decide +kernel
theorem d87_11 : decode (xbc 87) 11 = .ok (.iconst 1, 1) := by decide +kernel
theorem d87_12 : decode (xbc 87) 12 = .ok (.goto 4, 3) := by decide +kernel
theorem d87_15 : decode (xbc 87) 15 = .ok (.iconst 0, 1) := by decide +kernel
theorem d87_16 : decode (xbc 87) 16 = .ok (.ireturn, 1) := by decide +kernel
theorem d88_0 : decode (xbc 88) 0 = .ok (.iload_n 0, 1) := by decide +kernel
theorem d88_1 : decode (xbc 88) 1 = .ok (.ifCond .lt 13, 3) := by decide +kernel
theorem d88_4 : decode (xbc 88) 4 = .ok (.iload_n 0, 1) := by decide +kernel
theorem d88_5 : decode (xbc 88) 5 = .ok (.bipush 8, 2) := by decide +kernel
theorem d88_7 : decode (xbc 88) 7 = .ok (.if_icmp .ge 7, 3) := by decide +kernel
theorem d88_10 : decode (xbc 88) 10 = .ok (.iconst 1, 1) := by decide +kernel
theorem d88_11 : decode (xbc 88) 11 = .ok (.goto 4, 3) := by decide +kernel
theorem d88_14 : decode (xbc 88) 14 = .ok (.iconst 0, 1) := by decide +kernel
theorem d88_15 : decode (xbc 88) 15 = .ok (.ireturn, 1) := by decide +kernel
theorem d89_0 : decode (xbc 89) 0 = .ok (.iload_n 1, 1) := by decide +kernel
theorem d89_1 : decode (xbc 89) 1 = .ok (.invokestatic 51, 3) := by decide +kernel
theorem d89_4 : decode (xbc 89) 4 = .ok (.ifCond .ne 5, 3) := by decide +kernel
theorem d89_7 : decode (xbc 89) 7 = .ok (.iconst (-1), 1) := by decide +kernel
theorem d89_8 : decode (xbc 89) 8 = .ok (.ireturn, 1) := by decide +kernel
theorem d89_9 : decode (xbc 89) 9 = .ok (.iload_n 2, 1) := by decide +kernel
theorem d89_10 : decode (xbc 89) 10 = .ok (.ifCond .eq 8, 3) := by decide +kernel
theorem d89_13 : decode (xbc 89) 13 = .ok (.iload_n 2, 1) := by decide +kernel
theorem d89_14 : decode (xbc 89) 14 = .ok (.iconst 1, 1) := by decide +kernel
theorem d89_15 : decode (xbc 89) 15 = .ok (.if_icmp .ne 23, 3) := by decide +kernel
theorem d89_18 : decode (xbc 89) 18 = .ok (.iload_n 3, 1) := by decide +kernel
theorem d89_19 : decode (xbc 89) 19 = .ok (.sipush 1000, 3) := by decide +kernel
theorem d89_22 : decode (xbc 89) 22 = .ok (.invokestatic 55, 3) := by decide +kernel
theorem d89_25 : decode (xbc 89) 25 = .ok (.ifCond .eq 13, 3) := by decide +kernel
theorem d89_28 : decode (xbc 89) 28 = .ok (.iload 4, 2) := by decide +kernel
theorem d89_30 : decode (xbc 89) 30 = .ok (.bipush 50, 2) := by decide +kernel
theorem d89_32 : decode (xbc 89) 32 = .ok (.invokestatic 55, 3) := by decide +kernel
theorem d89_35 : decode (xbc 89) 35 = .ok (.ifCond .ne 6, 3) := by decide +kernel
theorem d89_38 : decode (xbc 89) 38 = .ok (.bipush (-2), 2) := by decide +kernel
theorem d89_40 : decode (xbc 89) 40 = .ok (.ireturn, 1) := by decide +kernel
theorem d89_41 : decode (xbc 89) 41 = .ok (.aload_n 0, 1) := by decide +kernel
theorem d89_42 : decode (xbc 89) 42 = .ok (.getfield 10, 3) := by decide +kernel
theorem d89_45 : decode (xbc 89) 45 = .ok (.iload_n 1, 1) := by decide +kernel
theorem d89_46 : decode (xbc 89) 46 = .ok (.invokevirtual 59, 3) := by decide +kernel
theorem d89_49 : decode (xbc 89) 49 = .ok (.iload_n 2, 1) := by decide +kernel
theorem d89_50 : decode (xbc 89) 50 = .ok (.invokestatic 63, 3) := by decide +kernel
theorem d89_53 : decode (xbc 89) 53 = .ok (.ifCond .ne 6, 3) := by decide +kernel
theorem d89_56 : decode (xbc 89) 56 = .ok (.bipush (-3), 2) := by decide +kernel
theorem d89_58 : decode (xbc 89) 58 = .ok (.ireturn, 1) := by decide +kernel
theorem d89_59 : decode (xbc 89) 59 = .ok (.bipush 10, 2) := by decide +kernel
theorem d89_61 : decode (xbc 89) 61 = .ok (.aload_n 0, 1) := by decide +kernel
theorem d89_62 : decode (xbc 89) 62 = .ok (.getfield 10, 3) := by decide +kernel
theorem d89_65 : decode (xbc 89) 65 = .ok (.iload_n 1, 1) := by decide +kernel
theorem d89_66 : decode (xbc 89) 66 = .ok (.invokevirtual 66, 3) := by decide +kernel
theorem d89_69 : decode (xbc 89) 69 = .ok (.imul, 1) := by decide +kernel
theorem d89_70 : decode (xbc 89) 70 = .ok (.aload_n 0, 1) := by decide +kernel
theorem d89_71 : decode (xbc 89) 71 = .ok (.getfield 10, 3) := by decide +kernel
theorem d89_74 : decode (xbc 89) 74 = .ok (.iload_n 1, 1) := by decide +kernel
theorem d89_75 : decode (xbc 89) 75 = .ok (.invokevirtual 69, 3) := by decide +kernel
theorem d89_78 : decode (xbc 89) 78 = .ok (.iadd, 1) := by decide +kernel
theorem d89_79 : decode (xbc 89) 79 = .ok (.istore 5, 2) := by decide +kernel
theorem d89_81 : decode (xbc 89) 81 = .ok (.aload_n 0, 1) := by decide +kernel
theorem d89_82 : decode (xbc 89) 82 = .ok (.getfield 10, 3) := by decide +kernel
theorem d89_85 : decode (xbc 89) 85 = .ok (.iload_n 1, 1) := by decide +kernel
theorem d89_86 : decode (xbc 89) 86 = .ok (.iload_n 2, 1) := by decide +kernel
theorem d89_87 : decode (xbc 89) 87 = .ok (.iload_n 3, 1) := by decide +kernel
theorem d89_88 : decode (xbc 89) 88 = .ok (.iload 4, 2) := by decide +kernel
theorem d89_90 : decode (xbc 89) 90 = .ok (.invokevirtual 72, 3) := by decide +kernel
theorem d89_93 : decode (xbc 89) 93 = .ok (.iload 5, 2) := by decide +kernel
theorem d89_95 : decode (xbc 89) 95 = .ok (.ireturn, 1) := by decide +kernel
theorem d90_0 : decode (xbc 90) 0 = .ok (.iload_n 0, 1) := by decide +kernel
theorem d90_1 : decode (xbc 90) 1 = .ok (.iload_n 1, 1) := by decide +kernel
theorem d90_2 : decode (xbc 90) 2 = .ok (.ineg, 1) := by decide +kernel
theorem d90_3 : decode (xbc 90) 3 = .ok (.if_icmp .lt 12, 3) := by decide +kernel
theorem d90_6 : decode (xbc 90) 6 = .ok (.iload_n 0, 1) := by decide +kernel
theorem d90_7 : decode (xbc 90) 7 = .ok (.iload_n 1, 1) := by decide +kernel
theorem d90_8 : decode (xbc 90) 8 = .ok (.if_icmp .gt 7, 3) := by decide +kernel
theorem d90_11 : decode (xbc 90) 11 = .ok (.iconst 1, 1) := by decide +kernel
theorem d90_12 : decode (xbc 90) 12 = .ok (.goto 4, 3) := by decide +kernel
theorem d90_15 : decode (xbc 90) 15 = .ok (.iconst 0, 1) := by decide +kernel
theorem d90_16 : decode (xbc 90) 16 = .ok (.ireturn, 1) := by decide +kernel
theorem d91_0 : decode (xbc 91) 0 = .ok (.iload_n 1, 1) := by decide +kernel
theorem d91_1 : decode (xbc 91) 1 = .ok (.bipush 33, 2) := by decide +kernel
theorem d91_3 : decode (xbc 91) 3 = .ok (.if_icmp .lt 9, 3) := by decide +kernel
theorem d91_6 : decode (xbc 91) 6 = .ok (.iload_n 1, 1) := by decide +kernel
theorem d91_7 : decode (xbc 91) 7 = .ok (.bipush 126, 2) := by decide +kernel
theorem d91_9 : decode (xbc 91) 9 = .ok (.if_icmp .le 6, 3) := by decide +kernel
theorem d91_12 : decode (xbc 91) 12 = .ok (.bipush (-2), 2) := by decide +kernel
theorem d91_14 : decode (xbc 91) 14 = .ok (.ireturn, 1) := by decide +kernel
theorem d91_15 : decode (xbc 91) 15 = .ok (.aload_n 0, 1) := by decide +kernel
theorem d91_16 : decode (xbc 91) 16 = .ok (.getfield 19, 3) := by decide +kernel
theorem d91_19 : decode (xbc 91) 19 = .ok (.iload_n 1, 1) := by decide +kernel
theorem d91_20 : decode (xbc 91) 20 = .ok (.invokevirtual 76, 3) := by decide +kernel
theorem d91_23 : decode (xbc 91) 23 = .ok (.ifCond .eq 13, 3) := by decide +kernel
theorem d91_26 : decode (xbc 91) 26 = .ok (.aload_n 0, 1) := by decide +kernel
theorem d91_27 : decode (xbc 91) 27 = .ok (.getfield 19, 3) := by decide +kernel
theorem d91_30 : decode (xbc 91) 30 = .ok (.invokevirtual 79, 3) := by decide +kernel
theorem d91_33 : decode (xbc 91) 33 = .ok (.goto 5, 3) := by decide +kernel
theorem d91_36 : decode (xbc 91) 36 = .ok (.bipush (-4), 2) := by decide +kernel
theorem d91_38 : decode (xbc 91) 38 = .ok (.ireturn, 1) := by decide +kernel
theorem d92_0 : decode (xbc 92) 0 = .ok (.aload_n 0, 1) := by decide +kernel
theorem d92_1 : decode (xbc 92) 1 = .ok (.getfield 19, 3) := by decide +kernel
theorem d92_4 : decode (xbc 92) 4 = .ok (.invokevirtual 79, 3) := by decide +kernel
theorem d92_7 : decode (xbc 92) 7 = .ok (.istore_n 1, 1) := by decide +kernel
theorem d92_8 : decode (xbc 92) 8 = .ok (.aload_n 0, 1) := by decide +kernel
theorem d92_9 : decode (xbc 92) 9 = .ok (.getfield 19, 3) := by decide +kernel
theorem d92_12 : decode (xbc 92) 12 = .ok (.invokevirtual 83, 3) := by decide +kernel
theorem d92_15 : decode (xbc 92) 15 = .ok (.iload_n 1, 1) := by decide +kernel
theorem d92_16 : decode (xbc 92) 16 = .ok (.ireturn, 1) := by decide +kernel
theorem d93_0 : decode (xbc 93) 0 = .ok (.aload_n 0, 1) := by decide +kernel
theorem d93_1 : decode (xbc 93) 1 = .ok (.getfield 19, 3) := by decide +kernel
theorem d93_4 : decode (xbc 93) 4 = .ok (.invokevirtual 86, 3) := by decide +kernel
theorem d93_7 : decode (xbc 93) 7 = .ok (.ireturn, 1) := by decide +kernel
theorem d94_0 : decode (xbc 94) 0 = .ok (.iload_n 1, 1) := by decide +kernel
theorem d94_1 : decode (xbc 94) 1 = .ok (.ifCond .eq 11, 3) := by decide +kernel
theorem d94_4 : decode (xbc 94) 4 = .ok (.iload_n 1, 1) := by decide +kernel
theorem d94_5 : decode (xbc 94) 5 = .ok (.iconst 1, 1) := by decide +kernel
theorem d94_6 : decode (xbc 94) 6 = .ok (.if_icmp .eq 6, 3) := by decide +kernel
theorem d94_9 : decode (xbc 94) 9 = .ok (.bipush (-2), 2) := by decide +kernel
theorem d94_11 : decode (xbc 94) 11 = .ok (.ireturn, 1) := by decide +kernel
theorem d94_12 : decode (xbc 94) 12 = .ok (.aload_n 0, 1) := by decide +kernel
theorem d94_13 : decode (xbc 94) 13 = .ok (.getfield 19, 3) := by decide +kernel
theorem d94_16 : decode (xbc 94) 16 = .ok (.invokevirtual 86, 3) := by decide +kernel
theorem d94_19 : decode (xbc 94) 19 = .ok (.bipush (-6), 2) := by decide +kernel
theorem d94_21 : decode (xbc 94) 21 = .ok (.if_icmp .eq 6, 3) := by decide +kernel
theorem d94_24 : decode (xbc 94) 24 = .ok (.bipush (-5), 2) := by decide +kernel
theorem d94_26 : decode (xbc 94) 26 = .ok (.ireturn, 1) := by decide +kernel
theorem d94_27 : decode (xbc 94) 27 = .ok (.aload_n 0, 1) := by decide +kernel
theorem d94_28 : decode (xbc 94) 28 = .ok (.getfield 33, 3) := by decide +kernel
theorem d94_31 : decode (xbc 94) 31 = .ok (.aload_n 0, 1) := by decide +kernel
theorem d94_32 : decode (xbc 94) 32 = .ok (.getfield 10, 3) := by decide +kernel
theorem d94_35 : decode (xbc 94) 35 = .ok (.aload_n 0, 1) := by decide +kernel
theorem d94_36 : decode (xbc 94) 36 = .ok (.getfield 19, 3) := by decide +kernel
theorem d94_39 : decode (xbc 94) 39 = .ok (.invokevirtual 89, 3) := by decide +kernel
theorem d94_42 : decode (xbc 94) 42 = .ok (.pop, 1) := by decide +kernel
theorem d94_43 : decode (xbc 94) 43 = .ok (.iload_n 1, 1) := by decide +kernel
theorem d94_44 : decode (xbc 94) 44 = .ok (.ifCond .ne 13, 3) := by decide +kernel
theorem d94_47 : decode (xbc 94) 47 = .ok (.aload_n 0, 1) := by decide +kernel
theorem d94_48 : decode (xbc 94) 48 = .ok (.getfield 33, 3) := by decide +kernel
theorem d94_51 : decode (xbc 94) 51 = .ok (.invokevirtual 93, 3) := by decide +kernel
theorem d94_54 : decode (xbc 94) 54 = .ok (.goto 10, 3) := by decide +kernel
theorem d94_57 : decode (xbc 94) 57 = .ok (.aload_n 0, 1) := by decide +kernel
theorem d94_58 : decode (xbc 94) 58 = .ok (.getfield 33, 3) := by decide +kernel
theorem d94_61 : decode (xbc 94) 61 = .ok (.invokevirtual 96, 3) := by decide +kernel
theorem d94_64 : decode (xbc 94) 64 = .ok (.ireturn, 1) := by decide +kernel
theorem d95_0 : decode (xbc 95) 0 = .ok (.aload_n 0, 1) := by decide +kernel
theorem d95_1 : decode (xbc 95) 1 = .ok (.getfield 33, 3) := by decide +kernel
theorem d95_4 : decode (xbc 95) 4 = .ok (.aload_n 0, 1) := by decide +kernel
theorem d95_5 : decode (xbc 95) 5 = .ok (.getfield 10, 3) := by decide +kernel
theorem d95_8 : decode (xbc 95) 8 = .ok (.aload_n 0, 1) := by decide +kernel
theorem d95_9 : decode (xbc 95) 9 = .ok (.getfield 19, 3) := by decide +kernel
theorem d95_12 : decode (xbc 95) 12 = .ok (.invokevirtual 89, 3) := by decide +kernel
theorem d95_15 : decode (xbc 95) 15 = .ok (.ifCond .ne 6, 3) := by decide +kernel
theorem d95_18 : decode (xbc 95) 18 = .ok (.bipush (-5), 2) := by decide +kernel
theorem d95_20 : decode (xbc 95) 20 = .ok (.ireturn, 1) := by decide +kernel
theorem d95_21 : decode (xbc 95) 21 = .ok (.aload_n 0, 1) := by decide +kernel
theorem d95_22 : decode (xbc 95) 22 = .ok (.getfield 10, 3) := by decide +kernel
theorem d95_25 : decode (xbc 95) 25 = .ok (.aload_n 0, 1) := by decide +kernel
theorem d95_26 : decode (xbc 95) 26 = .ok (.getfield 33, 3) := by decide +kernel
theorem d95_29 : decode (xbc 95) 29 = .ok (.invokevirtual 99, 3) := by decide +kernel
theorem d95_32 : decode (xbc 95) 32 = .ok (.invokevirtual 102, 3) := by decide +kernel
theorem d95_35 : decode (xbc 95) 35 = .ok (.aload_n 0, 1) := by decide +kernel
theorem d95_36 : decode (xbc 95) 36 = .ok (.getfield 19, 3) := by decide +kernel
theorem d95_39 : decode (xbc 95) 39 = .ok (.invokevirtual 83, 3) := by decide +kernel
theorem d95_42 : decode (xbc 95) 42 = .ok (.aload_n 0, 1) := by decide +kernel
theorem d95_43 : decode (xbc 95) 43 = .ok (.getfield 33, 3) := by decide +kernel
theorem d95_46 : decode (xbc 95) 46 = .ok (.invokevirtual 106, 3) := by decide +kernel
theorem d95_49 : decode (xbc 95) 49 = .ok (.ireturn, 1) := by decide +kernel
theorem d96_0 : decode (xbc 96) 0 = .ok (.iload_n 1, 1) := by decide +kernel
theorem d96_1 : decode (xbc 96) 1 = .ok (.invokestatic 51, 3) := by decide +kernel
theorem d96_4 : decode (xbc 96) 4 = .ok (.ifCond .ne 5, 3) := by decide +kernel
theorem d96_7 : decode (xbc 96) 7 = .ok (.iconst (-1), 1) := by decide +kernel
theorem d96_8 : decode (xbc 96) 8 = .ok (.ireturn, 1) := by decide +kernel
theorem d96_9 : decode (xbc 96) 9 = .ok (.iload_n 2, 1) := by decide +kernel
theorem d96_10 : decode (xbc 96) 10 = .ok (.ifCond .lt 8, 3) := by decide +kernel
theorem d96_13 : decode (xbc 96) 13 = .ok (.iload_n 2, 1) := by decide +kernel
theorem d96_14 : decode (xbc 96) 14 = .ok (.iconst 3, 1) := by decide +kernel
theorem d96_15 : decode (xbc 96) 15 = .ok (.if_icmp .le 6, 3) := by decide +kernel
theorem d96_18 : decode (xbc 96) 18 = .ok (.bipush (-2), 2) := by decide +kernel
theorem d96_20 : decode (xbc 96) 20 = .ok (.ireturn, 1) := by decide +kernel
theorem d96_21 : decode (xbc 96) 21 = .ok (.aload_n 0, 1) := by decide +kernel
theorem d96_22 : decode (xbc 96) 22 = .ok (.getfield 33, 3) := by decide +kernel
theorem d96_25 : decode (xbc 96) 25 = .ok (.aload_n 0, 1) := by decide +kernel
theorem d96_26 : decode (xbc 96) 26 = .ok (.getfield 10, 3) := by decide +kernel
theorem d96_29 : decode (xbc 96) 29 = .ok (.aload_n 0, 1) := by decide +kernel
theorem d96_30 : decode (xbc 96) 30 = .ok (.getfield 19, 3) := by decide +kernel
theorem d96_33 : decode (xbc 96) 33 = .ok (.invokevirtual 89, 3) := by decide +kernel
theorem d96_36 : decode (xbc 96) 36 = .ok (.ifCond .ne 6, 3) := by decide +kernel
theorem d96_39 : decode (xbc 96) 39 = .ok (.bipush (-5), 2) := by decide +kernel
theorem d96_41 : decode (xbc 96) 41 = .ok (.ireturn, 1) := by decide +kernel
theorem d96_42 : decode (xbc 96) 42 = .ok (.aload_n 0, 1) := by decide +kernel
theorem d96_43 : decode (xbc 96) 43 = .ok (.getfield 33, 3) := by decide +kernel
theorem d96_46 : decode (xbc 96) 46 = .ok (.invokevirtual 99, 3) := by decide +kernel
theorem d96_49 : decode (xbc 96) 49 = .ok (.astore_n 3, 1) := by decide +kernel
theorem d96_50 : decode (xbc 96) 50 = .ok (.iload_n 2, 1) := by decide +kernel
theorem d96_51 : decode (xbc 96) 51 = .ok (.tableswitch 43 0 2 #[25, 31, 37], 25) := by decide +kernel
theorem d96_76 : decode (xbc 96) 76 = .ok (.aload_n 3, 1) := by decide +kernel
theorem d96_77 : decode (xbc 96) 77 = .ok (.iload_n 1, 1) := by decide +kernel
theorem d96_78 : decode (xbc 96) 78 = .ok (.invokevirtual 69, 3) := by decide +kernel
theorem d96_81 : decode (xbc 96) 81 = .ok (.ireturn, 1) := by decide +kernel
theorem d96_82 : decode (xbc 96) 82 = .ok (.aload_n 3, 1) := by decide +kernel
theorem d96_83 : decode (xbc 96) 83 = .ok (.iload_n 1, 1) := by decide +kernel
theorem d96_84 : decode (xbc 96) 84 = .ok (.invokevirtual 59, 3) := by decide +kernel
theorem d96_87 : decode (xbc 96) 87 = .ok (.ireturn, 1) := by decide +kernel
theorem d96_88 : decode (xbc 96) 88 = .ok (.aload_n 3, 1) := by decide +kernel
theorem d96_89 : decode (xbc 96) 89 = .ok (.iload_n 1, 1) := by decide +kernel
theorem d96_90 : decode (xbc 96) 90 = .ok (.invokevirtual 109, 3) := by decide +kernel
theorem d96_93 : decode (xbc 96) 93 = .ok (.ireturn, 1) := by decide +kernel
theorem d96_94 : decode (xbc 96) 94 = .ok (.aload_n 3, 1) := by decide +kernel
theorem d96_95 : decode (xbc 96) 95 = .ok (.iload_n 1, 1) := by decide +kernel
theorem d96_96 : decode (xbc 96) 96 = .ok (.invokevirtual 112, 3) := by decide +kernel
theorem d96_99 : decode (xbc 96) 99 = .ok (.ireturn, 1) := by decide +kernel
theorem d97_0 : decode (xbc 97) 0 = .ok (.iload_n 1, 1) := by decide +kernel
theorem d97_1 : decode (xbc 97) 1 = .ok (.invokestatic 115, 3) := by decide +kernel
theorem d97_4 : decode (xbc 97) 4 = .ok (.ifCond .ne 5, 3) := by decide +kernel
theorem d97_7 : decode (xbc 97) 7 = .ok (.iconst (-1), 1) := by decide +kernel
theorem d97_8 : decode (xbc 97) 8 = .ok (.ireturn, 1) := by decide +kernel
theorem d97_9 : decode (xbc 97) 9 = .ok (.aload_n 0, 1) := by decide +kernel
theorem d97_10 : decode (xbc 97) 10 = .ok (.getfield 33, 3) := by decide +kernel
theorem d97_13 : decode (xbc 97) 13 = .ok (.aload_n 0, 1) := by decide +kernel
theorem d97_14 : decode (xbc 97) 14 = .ok (.getfield 10, 3) := by decide +kernel
theorem d97_17 : decode (xbc 97) 17 = .ok (.aload_n 0, 1) := by decide +kernel
theorem d97_18 : decode (xbc 97) 18 = .ok (.getfield 19, 3) := by decide +kernel
theorem d97_21 : decode (xbc 97) 21 = .ok (.invokevirtual 89, 3) := by decide +kernel
theorem d97_24 : decode (xbc 97) 24 = .ok (.ifCond .eq 17, 3) := by decide +kernel
theorem d97_27 : decode (xbc 97) 27 = .ok (.aload_n 0, 1) := by decide +kernel
theorem d97_28 : decode (xbc 97) 28 = .ok (.getfield 33, 3) := by decide +kernel
theorem d97_31 : decode (xbc 97) 31 = .ok (.invokevirtual 99, 3) := by decide +kernel
theorem d97_34 : decode (xbc 97) 34 = .ok (.iload_n 1, 1) := by decide +kernel
theorem d97_35 : decode (xbc 97) 35 = .ok (.invokevirtual 118, 3) := by decide +kernel
theorem d97_38 : decode (xbc 97) 38 = .ok (.goto 5, 3) := by decide +kernel
theorem d97_41 : decode (xbc 97) 41 = .ok (.bipush (-5), 2) := by decide +kernel
theorem d97_43 : decode (xbc 97) 43 = .ok (.ireturn, 1) := by decide +kernel
theorem d98_0 : decode (xbc 98) 0 = .ok (.iload_n 1, 1) := by decide +kernel
theorem d98_1 : decode (xbc 98) 1 = .ok (.ifCond .lt 9, 3) := by decide +kernel
theorem d98_4 : decode (xbc 98) 4 = .ok (.iload_n 1, 1) := by decide +kernel
theorem d98_5 : decode (xbc 98) 5 = .ok (.bipush 6, 2) := by decide +kernel
theorem d98_7 : decode (xbc 98) 7 = .ok (.if_icmp .le 6, 3) := by decide +kernel
theorem d98_10 : decode (xbc 98) 10 = .ok (.bipush (-2), 2) := by decide +kernel
theorem d98_12 : decode (xbc 98) 12 = .ok (.ireturn, 1) := by decide +kernel
theorem d98_13 : decode (xbc 98) 13 = .ok (.aload_n 0, 1) := by decide +kernel
theorem d98_14 : decode (xbc 98) 14 = .ok (.getfield 33, 3) := by decide +kernel
theorem d98_17 : decode (xbc 98) 17 = .ok (.aload_n 0, 1) := by decide +kernel
theorem d98_18 : decode (xbc 98) 18 = .ok (.getfield 10, 3) := by decide +kernel
theorem d98_21 : decode (xbc 98) 21 = .ok (.aload_n 0, 1) := by decide +kernel
theorem d98_22 : decode (xbc 98) 22 = .ok (.getfield 19, 3) := by decide +kernel
theorem d98_25 : decode (xbc 98) 25 = .ok (.invokevirtual 89, 3) := by decide +kernel
theorem d98_28 : decode (xbc 98) 28 = .ok (.ifCond .ne 6, 3) := by decide +kernel
theorem d98_31 : decode (xbc 98) 31 = .ok (.bipush (-5), 2) := by decide +kernel
theorem d98_33 : decode (xbc 98) 33 = .ok (.ireturn, 1) := by decide +kernel
theorem d98_34 : decode (xbc 98) 34 = .ok (.aload_n 0, 1) := by decide +kernel
theorem d98_35 : decode (xbc 98) 35 = .ok (.getfield 33, 3) := by decide +kernel
theorem d98_38 : decode (xbc 98) 38 = .ok (.invokevirtual 99, 3) := by decide +kernel
theorem d98_41 : decode (xbc 98) 41 = .ok (.astore_n 2, 1) := by decide +kernel
theorem d98_42 : decode (xbc 98) 42 = .ok (.aload_n 2, 1) := by decide +kernel
theorem d98_43 : decode (xbc 98) 43 = .ok (.invokevirtual 121, 3) := by decide +kernel
theorem d98_46 : decode (xbc 98) 46 = .ok (.astore_n 3, 1) := by decide +kernel
theorem d98_47 : decode (xbc 98) 47 = .ok (.iload_n 1, 1) := by decide +kernel
theorem d98_48 : decode (xbc 98) 48 = .ok (.tableswitch 71 0 5 #[40, 45, 51, 56, 61, 66], 40) := by decide +kernel
theorem d98_88 : decode (xbc 98) 88 = .ok (.aload_n 2, 1) := by decide +kernel
theorem d98_89 : decode (xbc 98) 89 = .ok (.invokevirtual 125, 3) := by decide +kernel
theorem d98_92 : decode (xbc 98) 92 = .ok (.ireturn, 1) := by decide +kernel
theorem d98_93 : decode (xbc 98) 93 = .ok (.aload_n 2, 1) := by decide +kernel
theorem d98_94 : decode (xbc 98) 94 = .ok (.iconst 1, 1) := by decide +kernel
theorem d98_95 : decode (xbc 98) 95 = .ok (.invokevirtual 118, 3) := by decide +kernel
theorem d98_98 : decode (xbc 98) 98 = .ok (.ireturn, 1) := by decide +kernel
theorem d98_99 : decode (xbc 98) 99 = .ok (.aload_n 3, 1) := by decide +kernel
theorem d98_100 : decode (xbc 98) 100 = .ok (.getfield 128, 3) := by decide +kernel
theorem d98_103 : decode (xbc 98) 103 = .ok (.ireturn, 1) := by decide +kernel
theorem d98_104 : decode (xbc 98) 104 = .ok (.aload_n 3, 1) := by decide +kernel
theorem d98_105 : decode (xbc 98) 105 = .ok (.getfield 134, 3) := by decide +kernel
theorem d98_108 : decode (xbc 98) 108 = .ok (.ireturn, 1) := by decide +kernel
theorem d98_109 : decode (xbc 98) 109 = .ok (.aload_n 3, 1) := by decide +kernel
theorem d98_110 : decode (xbc 98) 110 = .ok (.getfield 137, 3) := by decide +kernel
theorem d98_113 : decode (xbc 98) 113 = .ok (.ireturn, 1) := by decide +kernel
theorem d98_114 : decode (xbc 98) 114 = .ok (.aload_n 3, 1) := by decide +kernel
theorem d98_115 : decode (xbc 98) 115 = .ok (.getfield 140, 3) := by decide +kernel
theorem d98_118 : decode (xbc 98) 118 = .ok (.ireturn, 1) := by decide +kernel
theorem d98_119 : decode (xbc 98) 119 = .ok (.aload_n 3, 1) := by decide +kernel
theorem d98_120 : decode (xbc 98) 120 = .ok (.getfield 143, 3) := by decide +kernel
theorem d98_123 : decode (xbc 98) 123 = .ok (.ireturn, 1) := by decide +kernel
theorem d99_0 : decode (xbc 99) 0 = .ok (.iload_n 1, 1) := by decide +kernel
theorem d99_1 : decode (xbc 99) 1 = .ok (.iload_n 2, 1) := by decide +kernel
theorem d99_2 : decode (xbc 99) 2 = .ok (.invokestatic 146, 3) := by decide +kernel
theorem d99_5 : decode (xbc 99) 5 = .ok (.ifCond .eq 15, 3) := by decide +kernel
theorem d99_8 : decode (xbc 99) 8 = .ok (.aload_n 0, 1) := by decide +kernel
theorem d99_9 : decode (xbc 99) 9 = .ok (.getfield 10, 3) := by decide +kernel
theorem d99_12 : decode (xbc 99) 12 = .ok (.iload_n 1, 1) := by decide +kernel
theorem d99_13 : decode (xbc 99) 13 = .ok (.iload_n 2, 1) := by decide +kernel
theorem d99_14 : decode (xbc 99) 14 = .ok (.invokevirtual 149, 3) := by decide +kernel
theorem d99_17 : decode (xbc 99) 17 = .ok (.goto 5, 3) := by decide +kernel
theorem d99_20 : decode (xbc 99) 20 = .ok (.bipush (-2), 2) := by decide +kernel
theorem d99_22 : decode (xbc 99) 22 = .ok (.ireturn, 1) := by decide +kernel
theorem d100_0 : decode (xbc 100) 0 = .ok (.iload_n 0, 1) := by decide +kernel
theorem d100_1 : decode (xbc 100) 1 = .ok (.ifCond .lt 25, 3) := by decide +kernel
theorem d100_4 : decode (xbc 100) 4 = .ok (.iload_n 0, 1) := by decide +kernel
theorem d100_5 : decode (xbc 100) 5 = .ok (.sipush 9999, 3) := by decide +kernel
theorem d100_8 : decode (xbc 100) 8 = .ok (.if_icmp .gt 18, 3) := by decide +kernel
theorem d100_11 : decode (xbc 100) 11 = .ok (.iload_n 1, 1) := by decide +kernel
theorem d100_12 : decode (xbc 100) 12 = .ok (.iconst 1, 1) := by decide +kernel
theorem d100_13 : decode (xbc 100) 13 = .ok (.if_icmp .lt 13, 3) := by decide +kernel
theorem d100_16 : decode (xbc 100) 16 = .ok (.iload_n 1, 1) := by decide +kernel
theorem d100_17 : decode (xbc 100) 17 = .ok (.bipush 100, 2) := by decide +kernel
theorem d100_19 : decode (xbc 100) 19 = .ok (.if_icmp .gt 7, 3) := by decide +kernel
theorem d100_22 : decode (xbc 100) 22 = .ok (.iconst 1, 1) := by decide +kernel
theorem d100_23 : decode (xbc 100) 23 = .ok (.goto 4, 3) := by decide +kernel
theorem d100_26 : decode (xbc 100) 26 = .ok (.iconst 0, 1) := by decide +kernel
theorem d100_27 : decode (xbc 100) 27 = .ok (.ireturn, 1) := by decide +kernel
theorem d101_0 : decode (xbc 101) 0 = .ok (.iload_n 1, 1) := by decide +kernel
theorem d101_1 : decode (xbc 101) 1 = .ok (.invokestatic 153, 3) := by decide +kernel
theorem d101_4 : decode (xbc 101) 4 = .ok (.ifCond .ne 7, 3) := by decide +kernel
theorem d101_7 : decode (xbc 101) 7 = .ok (.ldc2_w 156, 3) := by decide +kernel
theorem d101_10 : decode (xbc 101) 10 = .ok (.lreturn, 1) := by decide +kernel
theorem d101_11 : decode (xbc 101) 11 = .ok (.aload_n 0, 1) := by decide +kernel
theorem d101_12 : decode (xbc 101) 12 = .ok (.getfield 10, 3) := by decide +kernel
theorem d101_15 : decode (xbc 101) 15 = .ok (.invokevirtual 158, 3) := by decide +kernel
theorem d101_18 : decode (xbc 101) 18 = .ok (.astore_n 2, 1) := by decide +kernel
theorem d101_19 : decode (xbc 101) 19 = .ok (.aload_n 2, 1) := by decide +kernel
theorem d101_20 : decode (xbc 101) 20 = .ok (.iconst 1, 1) := by decide +kernel
theorem d101_21 : decode (xbc 101) 21 = .ok (.invokevirtual 162, 3) := by decide +kernel
theorem d101_24 : decode (xbc 101) 24 = .ok (.istore_n 3, 1) := by decide +kernel
theorem d101_25 : decode (xbc 101) 25 = .ok (.iload_n 3, 1) := by decide +kernel
theorem d101_26 : decode (xbc 101) 26 = .ok (.bipush (-6), 2) := by decide +kernel
theorem d101_28 : decode (xbc 101) 28 = .ok (.if_icmp .ne 9, 3) := by decide +kernel
theorem d101_31 : decode (xbc 101) 31 = .ok (.ldc2_w 168, 3) := by decide +kernel
theorem d101_34 : decode (xbc 101) 34 = .ok (.goto 17, 3) := by decide +kernel
theorem d101_37 : decode (xbc 101) 37 = .ok (.aload_n 2, 1) := by decide +kernel
theorem d101_38 : decode (xbc 101) 38 = .ok (.iload_n 3, 1) := by decide +kernel
theorem d101_39 : decode (xbc 101) 39 = .ok (.invokevirtual 170, 3) := by decide +kernel
theorem d101_42 : decode (xbc 101) 42 = .ok (.aload_n 2, 1) := by decide +kernel
theorem d101_43 : decode (xbc 101) 43 = .ok (.iload_n 3, 1) := by decide +kernel
theorem d101_44 : decode (xbc 101) 44 = .ok (.invokevirtual 173, 3) := by decide +kernel
theorem d101_47 : decode (xbc 101) 47 = .ok (.iload_n 1, 1) := by decide +kernel
theorem d101_48 : decode (xbc 101) 48 = .ok (.invokestatic 176, 3) := by decide +kernel
theorem d101_51 : decode (xbc 101) 51 = .ok (.lreturn, 1) := by decide +kernel
theorem d102_0 : decode (xbc 102) 0 = .ok (.iload_n 0, 1) := by decide +kernel
theorem d102_1 : decode (xbc 102) 1 = .ok (.ifCond .eq 8, 3) := by decide +kernel
theorem d102_4 : decode (xbc 102) 4 = .ok (.iload_n 0, 1) := by decide +kernel
theorem d102_5 : decode (xbc 102) 5 = .ok (.iconst 1, 1) := by decide +kernel
theorem d102_6 : decode (xbc 102) 6 = .ok (.if_icmp .ne 7, 3) := by decide +kernel
theorem d102_9 : decode (xbc 102) 9 = .ok (.iconst 1, 1) := by decide +kernel
theorem d102_10 : decode (xbc 102) 10 = .ok (.goto 4, 3) := by decide +kernel
theorem d102_13 : decode (xbc 102) 13 = .ok (.iconst 0, 1) := by decide +kernel
theorem d102_14 : decode (xbc 102) 14 = .ok (.ireturn, 1) := by decide +kernel
theorem d103_0 : decode (xbc 103) 0 = .ok (.iload_n 1, 1) := by decide +kernel
theorem d103_1 : decode (xbc 103) 1 = .ok (.istore_n 3, 1) := by decide +kernel
theorem d103_2 : decode (xbc 103) 2 = .ok (.iload_n 0, 1) := by decide +kernel
theorem d103_3 : decode (xbc 103) 3 = .ok (.invokestatic 249, 3) := by decide +kernel
theorem d103_6 : decode (xbc 103) 6 = .ok (.istore 4, 2) := by decide +kernel
theorem d103_8 : decode (xbc 103) 8 = .ok (.iconst 0, 1) := by decide +kernel
theorem d103_9 : decode (xbc 103) 9 = .ok (.istore 5, 2) := by decide +kernel
theorem d103_11 : decode (xbc 103) 11 = .ok (.iload 5, 2) := by decide +kernel
theorem d103_13 : decode (xbc 103) 13 = .ok (.bipush 64, 2) := by decide +kernel
theorem d103_15 : decode (xbc 103) 15 = .ok (.if_icmp .ge 27, 3) := by decide +kernel
theorem d103_18 : decode (xbc 103) 18 = .ok (.iload 4, 2) := by decide +kernel
theorem d103_20 : decode (xbc 103) 20 = .ok (.ifCond .eq 22, 3) := by decide +kernel
theorem d103_23 : decode (xbc 103) 23 = .ok (.iload_n 3, 1) := by decide +kernel
theorem d103_24 : decode (xbc 103) 24 = .ok (.iload 4, 2) := by decide +kernel
theorem d103_26 : decode (xbc 103) 26 = .ok (.irem, 1) := by decide +kernel
theorem d103_27 : decode (xbc 103) 27 = .ok (.istore 6, 2) := by decide +kernel
theorem d103_29 : decode (xbc 103) 29 = .ok (.iload 4, 2) := by decide +kernel
theorem d103_31 : decode (xbc 103) 31 = .ok (.istore_n 3, 1) := by decide +kernel
theorem d103_32 : decode (xbc 103) 32 = .ok (.iload 6, 2) := by decide +kernel
theorem d103_34 : decode (xbc 103) 34 = .ok (.istore 4, 2) := by decide +kernel
theorem d103_36 : decode (xbc 103) 36 = .ok (.iinc 5 1, 3) := by decide +kernel
theorem d103_39 : decode (xbc 103) 39 = .ok (.goto (-28), 3) := by decide +kernel
theorem d103_42 : decode (xbc 103) 42 = .ok (.iload_n 3, 1) := by decide +kernel
theorem d103_43 : decode (xbc 103) 43 = .ok (.ifCond .ne 15, 3) := by decide +kernel
theorem d103_46 : decode (xbc 103) 46 = .ok (.iload_n 2, 1) := by decide +kernel
theorem d103_47 : decode (xbc 103) 47 = .ok (.ifCond .ne 8, 3) := by decide +kernel
theorem d103_50 : decode (xbc 103) 50 = .ok (.iload_n 0, 1) := by decide +kernel
theorem d103_51 : decode (xbc 103) 51 = .ok (.i2l, 1) := by decide +kernel
theorem d103_52 : decode (xbc 103) 52 = .ok (.goto 5, 3) := by decide +kernel
theorem d103_55 : decode (xbc 103) 55 = .ok (.iload_n 1, 1) := by decide +kernel
theorem d103_56 : decode (xbc 103) 56 = .ok (.i2l, 1) := by decide +kernel
theorem d103_57 : decode (xbc 103) 57 = .ok (.lreturn, 1) := by decide +kernel
theorem d103_58 : decode (xbc 103) 58 = .ok (.iload_n 2, 1) := by decide +kernel
theorem d103_59 : decode (xbc 103) 59 = .ok (.ifCond .ne 10, 3) := by decide +kernel
theorem d103_62 : decode (xbc 103) 62 = .ok (.iload_n 0, 1) := by decide +kernel
theorem d103_63 : decode (xbc 103) 63 = .ok (.iload_n 3, 1) := by decide +kernel
theorem d103_64 : decode (xbc 103) 64 = .ok (.idiv, 1) := by decide +kernel
theorem d103_65 : decode (xbc 103) 65 = .ok (.i2l, 1) := by decide +kernel
theorem d103_66 : decode (xbc 103) 66 = .ok (.goto 7, 3) := by decide +kernel
theorem d103_69 : decode (xbc 103) 69 = .ok (.iload_n 1, 1) := by decide +kernel
theorem d103_70 : decode (xbc 103) 70 = .ok (.iload_n 3, 1) := by decide +kernel
theorem d103_71 : decode (xbc 103) 71 = .ok (.idiv, 1) := by decide +kernel
theorem d103_72 : decode (xbc 103) 72 = .ok (.i2l, 1) := by decide +kernel
theorem d103_73 : decode (xbc 103) 73 = .ok (.lreturn, 1) := by decide +kernel
theorem d104_0 : decode (xbc 104) 0 = .ok (.aload_n 0, 1) := by decide +kernel
theorem d104_1 : decode (xbc 104) 1 = .ok (.getfield 10, 3) := by decide +kernel
theorem d104_4 : decode (xbc 104) 4 = .ok (.invokevirtual 158, 3) := by decide +kernel
theorem d104_7 : decode (xbc 104) 7 = .ok (.astore_n 1, 1) := by decide +kernel
theorem d104_8 : decode (xbc 104) 8 = .ok (.aload_n 1, 1) := by decide +kernel
theorem d104_9 : decode (xbc 104) 9 = .ok (.aload_n 1, 1) := by decide +kernel
theorem d104_10 : decode (xbc 104) 10 = .ok (.iconst 1, 1) := by decide +kernel
theorem d104_11 : decode (xbc 104) 11 = .ok (.invokevirtual 162, 3) := by decide +kernel
theorem d104_14 : decode (xbc 104) 14 = .ok (.invokevirtual 180, 3) := by decide +kernel
theorem d104_17 : decode (xbc 104) 17 = .ok (.ireturn, 1) := by decide +kernel
theorem d105_0 : decode (xbc 105) 0 = .ok (.iload_n 1, 1) := by decide +kernel
theorem d105_1 : decode (xbc 105) 1 = .ok (.iload_n 2, 1) := by decide +kernel
theorem d105_2 : decode (xbc 105) 2 = .ok (.invokestatic 146, 3) := by decide +kernel
theorem d105_5 : decode (xbc 105) 5 = .ok (.ifCond .eq 16, 3) := by decide +kernel
theorem d105_8 : decode (xbc 105) 8 = .ok (.iload_n 1, 1) := by decide +kernel
theorem d105_9 : decode (xbc 105) 9 = .ok (.aload_n 0, 1) := by decide +kernel
theorem d105_10 : decode (xbc 105) 10 = .ok (.getfield 10, 3) := by decide +kernel
theorem d105_13 : decode (xbc 105) 13 = .ok (.invokevirtual 125, 3) := by decide +kernel
theorem d105_16 : decode (xbc 105) 16 = .ok (.iload_n 2, 1) := by decide +kernel
theorem d105_17 : decode (xbc 105) 17 = .ok (.imul, 1) := by decide +kernel
theorem d105_18 : decode (xbc 105) 18 = .ok (.if_icmp .ge 6, 3) := by decide +kernel
theorem d105_21 : decode (xbc 105) 21 = .ok (.bipush (-2), 2) := by decide +kernel
theorem d105_23 : decode (xbc 105) 23 = .ok (.ireturn, 1) := by decide +kernel
theorem d105_24 : decode (xbc 105) 24 = .ok (.aload_n 0, 1) := by decide +kernel
theorem d105_25 : decode (xbc 105) 25 = .ok (.getfield 10, 3) := by decide +kernel
theorem d105_28 : decode (xbc 105) 28 = .ok (.iload_n 1, 1) := by decide +kernel
theorem d105_29 : decode (xbc 105) 29 = .ok (.iload_n 2, 1) := by decide +kernel
theorem d105_30 : decode (xbc 105) 30 = .ok (.invokevirtual 183, 3) := by decide +kernel
theorem d105_33 : decode (xbc 105) 33 = .ok (.ireturn, 1) := by decide +kernel
theorem d106_0 : decode (xbc 106) 0 = .ok (.iload_n 1, 1) := by decide +kernel
theorem d106_1 : decode (xbc 106) 1 = .ok (.invokestatic 51, 3) := by decide +kernel
theorem d106_4 : decode (xbc 106) 4 = .ok (.ifCond .ne 7, 3) := by decide +kernel
theorem d106_7 : decode (xbc 106) 7 = .ok (.ldc2_w 186, 3) := by decide +kernel
theorem d106_10 : decode (xbc 106) 10 = .ok (.lreturn, 1) := by decide +kernel
theorem d106_11 : decode (xbc 106) 11 = .ok (.iload_n 2, 1) := by decide +kernel
theorem d106_12 : decode (xbc 106) 12 = .ok (.iload_n 3, 1) := by decide +kernel
theorem d106_13 : decode (xbc 106) 13 = .ok (.invokestatic 146, 3) := by decide +kernel
theorem d106_16 : decode (xbc 106) 16 = .ok (.ifCond .eq 11, 3) := by decide +kernel
theorem d106_19 : decode (xbc 106) 19 = .ok (.iload 4, 2) := by decide +kernel
theorem d106_21 : decode (xbc 106) 21 = .ok (.invokestatic 153, 3) := by decide +kernel
theorem d106_24 : decode (xbc 106) 24 = .ok (.ifCond .ne 7, 3) := by decide +kernel
theorem d106_27 : decode (xbc 106) 27 = .ok (.ldc2_w 156, 3) := by decide +kernel
theorem d106_30 : decode (xbc 106) 30 = .ok (.lreturn, 1) := by decide +kernel
theorem d106_31 : decode (xbc 106) 31 = .ok (.aload_n 0, 1) := by decide +kernel
theorem d106_32 : decode (xbc 106) 32 = .ok (.getfield 10, 3) := by decide +kernel
theorem d106_35 : decode (xbc 106) 35 = .ok (.iload_n 1, 1) := by decide +kernel
theorem d106_36 : decode (xbc 106) 36 = .ok (.iload_n 2, 1) := by decide +kernel
theorem d106_37 : decode (xbc 106) 37 = .ok (.iload_n 3, 1) := by decide +kernel
theorem d106_38 : decode (xbc 106) 38 = .ok (.invokevirtual 188, 3) := by decide +kernel
theorem d106_41 : decode (xbc 106) 41 = .ok (.iload_n 3, 1) := by decide +kernel
theorem d106_42 : decode (xbc 106) 42 = .ok (.iload 4, 2) := by decide +kernel
theorem d106_44 : decode (xbc 106) 44 = .ok (.invokestatic 176, 3) := by decide +kernel
theorem d106_47 : decode (xbc 106) 47 = .ok (.lreturn, 1) := by decide +kernel
theorem d107_0 : decode (xbc 107) 0 = .ok (.iload_n 1, 1) := by decide +kernel
theorem d107_1 : decode (xbc 107) 1 = .ok (.invokestatic 51, 3) := by decide +kernel
theorem d107_4 : decode (xbc 107) 4 = .ok (.ifCond .ne 7, 3) := by decide +kernel
theorem d107_7 : decode (xbc 107) 7 = .ok (.ldc2_w 186, 3) := by decide +kernel
theorem d107_10 : decode (xbc 107) 10 = .ok (.lreturn, 1) := by decide +kernel
theorem d107_11 : decode (xbc 107) 11 = .ok (.iload_n 2, 1) := by decide +kernel
theorem d107_12 : decode (xbc 107) 12 = .ok (.iload_n 3, 1) := by decide +kernel
theorem d107_13 : decode (xbc 107) 13 = .ok (.invokestatic 146, 3) := by decide +kernel
theorem d107_16 : decode (xbc 107) 16 = .ok (.ifCond .eq 14, 3) := by decide +kernel
theorem d107_19 : decode (xbc 107) 19 = .ok (.iload 4, 2) := by decide +kernel
theorem d107_21 : decode (xbc 107) 21 = .ok (.ifCond .lt 9, 3) := by decide +kernel
theorem d107_24 : decode (xbc 107) 24 = .ok (.iload 4, 2) := by decide +kernel
theorem d107_26 : decode (xbc 107) 26 = .ok (.iconst 2, 1) := by decide +kernel
theorem d107_27 : decode (xbc 107) 27 = .ok (.if_icmp .le 7, 3) := by decide +kernel
theorem d107_30 : decode (xbc 107) 30 = .ok (.ldc2_w 156, 3) := by decide +kernel
theorem d107_33 : decode (xbc 107) 33 = .ok (.lreturn, 1) := by decide +kernel
theorem d107_34 : decode (xbc 107) 34 = .ok (.aload_n 0, 1) := by decide +kernel
theorem d107_35 : decode (xbc 107) 35 = .ok (.getfield 10, 3) := by decide +kernel
theorem d107_38 : decode (xbc 107) 38 = .ok (.iload_n 1, 1) := by decide +kernel
theorem d107_39 : decode (xbc 107) 39 = .ok (.iload_n 2, 1) := by decide +kernel
theorem d107_40 : decode (xbc 107) 40 = .ok (.iload_n 3, 1) := by decide +kernel
theorem d107_41 : decode (xbc 107) 41 = .ok (.invokevirtual 188, 3) := by decide +kernel
theorem d107_44 : decode (xbc 107) 44 = .ok (.istore 5, 2) := by decide +kernel
theorem d107_46 : decode (xbc 107) 46 = .ok (.iload 4, 2) := by decide +kernel
theorem d107_48 : decode (xbc 107) 48 = .ok (.lookupswitch 46 #[(0, 28), (1, 37)], 28) := by decide +kernel
theorem d107_76 : decode (xbc 107) 76 = .ok (.iload 5, 2) := by decide +kernel
theorem d107_78 : decode (xbc 107) 78 = .ok (.i2l, 1) := by decide +kernel
theorem d107_79 : decode (xbc 107) 79 = .ok (.iload_n 3, 1) := by decide +kernel
theorem d107_80 : decode (xbc 107) 80 = .ok (.i2l, 1) := by decide +kernel
theorem d107_81 : decode (xbc 107) 81 = .ok (.invokestatic 192, 3) := by decide +kernel
theorem d107_84 : decode (xbc 107) 84 = .ok (.lreturn, 1) := by decide +kernel
theorem d107_85 : decode (xbc 107) 85 = .ok (.iload 5, 2) := by decide +kernel
theorem d107_87 : decode (xbc 107) 87 = .ok (.i2l, 1) := by decide +kernel
theorem d107_88 : decode (xbc 107) 88 = .ok (.iload_n 3, 1) := by decide +kernel
theorem d107_89 : decode (xbc 107) 89 = .ok (.i2l, 1) := by decide +kernel
theorem d107_90 : decode (xbc 107) 90 = .ok (.invokestatic 198, 3) := by decide +kernel
theorem d107_93 : decode (xbc 107) 93 = .ok (.lreturn, 1) := by decide +kernel
theorem d107_94 : decode (xbc 107) 94 = .ok (.iload 5, 2) := by decide +kernel
theorem d107_96 : decode (xbc 107) 96 = .ok (.i2l, 1) := by decide +kernel
theorem d107_97 : decode (xbc 107) 97 = .ok (.iload_n 3, 1) := by decide +kernel
theorem d107_98 : decode (xbc 107) 98 = .ok (.i2l, 1) := by decide +kernel
theorem d107_99 : decode (xbc 107) 99 = .ok (.invokestatic 201, 3) := by decide +kernel
theorem d107_102 : decode (xbc 107) 102 = .ok (.ldc2_w 204, 3) := by decide +kernel
theorem d107_105 : decode (xbc 107) 105 = .ok (.ldiv, 1) := by decide +kernel
theorem d107_106 : decode (xbc 107) 106 = .ok (.lreturn, 1) := by decide +kernel
theorem d108_0 : decode (xbc 108) 0 = .ok (.iload_n 1, 1) := by decide +kernel
theorem d108_1 : decode (xbc 108) 1 = .ok (.iload_n 2, 1) := by decide +kernel
theorem d108_2 : decode (xbc 108) 2 = .ok (.invokestatic 146, 3) := by decide +kernel
theorem d108_5 : decode (xbc 108) 5 = .ok (.ifCond .eq 12, 3) := by decide +kernel
theorem d108_8 : decode (xbc 108) 8 = .ok (.iload_n 3, 1) := by decide +kernel
theorem d108_9 : decode (xbc 108) 9 = .ok (.ifCond .eq 12, 3) := by decide +kernel
theorem d108_12 : decode (xbc 108) 12 = .ok (.iload_n 3, 1) := by decide +kernel
theorem d108_13 : decode (xbc 108) 13 = .ok (.iconst 1, 1) := by decide +kernel
theorem d108_14 : decode (xbc 108) 14 = .ok (.if_icmp .eq 7, 3) := by decide +kernel
theorem d108_17 : decode (xbc 108) 17 = .ok (.ldc2_w 156, 3) := by decide +kernel
theorem d108_20 : decode (xbc 108) 20 = .ok (.lreturn, 1) := by decide +kernel
theorem d108_21 : decode (xbc 108) 21 = .ok (.lconst 0, 1) := by decide +kernel
theorem d108_22 : decode (xbc 108) 22 = .ok (.lstore 4, 2) := by decide +kernel
theorem d108_24 : decode (xbc 108) 24 = .ok (.iconst 0, 1) := by decide +kernel
theorem d108_25 : decode (xbc 108) 25 = .ok (.istore 6, 2) := by decide +kernel
theorem d108_27 : decode (xbc 108) 27 = .ok (.iload 6, 2) := by decide +kernel
theorem d108_29 : decode (xbc 108) 29 = .ok (.bipush 8, 2) := by decide +kernel
theorem d108_31 : decode (xbc 108) 31 = .ok (.if_icmp .ge 54, 3) := by decide +kernel
theorem d108_34 : decode (xbc 108) 34 = .ok (.aload_n 0, 1) := by decide +kernel
theorem d108_35 : decode (xbc 108) 35 = .ok (.getfield 10, 3) := by decide +kernel
theorem d108_38 : decode (xbc 108) 38 = .ok (.iload 6, 2) := by decide +kernel
theorem d108_40 : decode (xbc 108) 40 = .ok (.invokevirtual 69, 3) := by decide +kernel
theorem d108_43 : decode (xbc 108) 43 = .ok (.iconst 1, 1) := by decide +kernel
theorem d108_44 : decode (xbc 108) 44 = .ok (.if_icmp .ne 35, 3) := by decide +kernel
theorem d108_47 : decode (xbc 108) 47 = .ok (.aload_n 0, 1) := by decide +kernel
theorem d108_48 : decode (xbc 108) 48 = .ok (.getfield 10, 3) := by decide +kernel
theorem d108_51 : decode (xbc 108) 51 = .ok (.iload 6, 2) := by decide +kernel
theorem d108_53 : decode (xbc 108) 53 = .ok (.iload_n 1, 1) := by decide +kernel
theorem d108_54 : decode (xbc 108) 54 = .ok (.iload_n 2, 1) := by decide +kernel
theorem d108_55 : decode (xbc 108) 55 = .ok (.invokevirtual 188, 3) := by decide +kernel
theorem d108_58 : decode (xbc 108) 58 = .ok (.i2l, 1) := by decide +kernel
theorem d108_59 : decode (xbc 108) 59 = .ok (.iload_n 2, 1) := by decide +kernel
theorem d108_60 : decode (xbc 108) 60 = .ok (.i2l, 1) := by decide +kernel
theorem d108_61 : decode (xbc 108) 61 = .ok (.invokestatic 201, 3) := by decide +kernel
theorem d108_64 : decode (xbc 108) 64 = .ok (.lstore 7, 2) := by decide +kernel
theorem d108_66 : decode (xbc 108) 66 = .ok (.lload 4, 2) := by decide +kernel
theorem d108_68 : decode (xbc 108) 68 = .ok (.lload 7, 2) := by decide +kernel
theorem d108_70 : decode (xbc 108) 70 = .ok (.ladd, 1) := by decide +kernel
theorem d108_71 : decode (xbc 108) 71 = .ok (.ldc2_w 204, 3) := by decide +kernel
theorem d108_74 : decode (xbc 108) 74 = .ok (.invokestatic 201, 3) := by decide +kernel
theorem d108_77 : decode (xbc 108) 77 = .ok (.lstore 4, 2) := by decide +kernel
theorem d108_79 : decode (xbc 108) 79 = .ok (.iinc 6 1, 3) := by decide +kernel
theorem d108_82 : decode (xbc 108) 82 = .ok (.goto (-55), 3) := by decide +kernel
theorem d108_85 : decode (xbc 108) 85 = .ok (.iload_n 3, 1) := by decide +kernel
theorem d108_86 : decode (xbc 108) 86 = .ok (.ifCond .ne 14, 3) := by decide +kernel
theorem d108_89 : decode (xbc 108) 89 = .ok (.lload 4, 2) := by decide +kernel
theorem d108_91 : decode (xbc 108) 91 = .ok (.ldc2_w 204, 3) := by decide +kernel
theorem d108_94 : decode (xbc 108) 94 = .ok (.invokestatic 192, 3) := by decide +kernel
theorem d108_97 : decode (xbc 108) 97 = .ok (.goto 9, 3) := by decide +kernel
theorem d108_100 : decode (xbc 108) 100 = .ok (.lload 4, 2) := by decide +kernel
theorem d108_102 : decode (xbc 108) 102 = .ok (.ldc2_w 204, 3) := by decide +kernel
theorem d108_105 : decode (xbc 108) 105 = .ok (.ldiv, 1) := by decide +kernel
theorem d108_106 : decode (xbc 108) 106 = .ok (.lreturn, 1) := by decide +kernel
theorem d109_0 : decode (xbc 109) 0 = .ok (.iload_n 1, 1) := by decide +kernel
theorem d109_1 : decode (xbc 109) 1 = .ok (.ifCond .lt 18, 3) := by decide +kernel
theorem d109_4 : decode (xbc 109) 4 = .ok (.iload_n 1, 1) := by decide +kernel
theorem d109_5 : decode (xbc 109) 5 = .ok (.bipush 9, 2) := by decide +kernel
theorem d109_7 : decode (xbc 109) 7 = .ok (.if_icmp .gt 12, 3) := by decide +kernel
theorem d109_10 : decode (xbc 109) 10 = .ok (.iload_n 2, 1) := by decide +kernel
theorem d109_11 : decode (xbc 109) 11 = .ok (.bipush 99, 2) := by decide +kernel
theorem d109_13 : decode (xbc 109) 13 = .ok (.invokestatic 55, 3) := by decide +kernel
theorem d109_16 : decode (xbc 109) 16 = .ok (.ifCond .ne 6, 3) := by decide +kernel
theorem d109_19 : decode (xbc 109) 19 = .ok (.bipush (-2), 2) := by decide +kernel
theorem d109_21 : decode (xbc 109) 21 = .ok (.ireturn, 1) := by decide +kernel
theorem d109_22 : decode (xbc 109) 22 = .ok (.aload_n 0, 1) := by decide +kernel
theorem d109_23 : decode (xbc 109) 23 = .ok (.getfield 26, 3) := by decide +kernel
theorem d109_26 : decode (xbc 109) 26 = .ok (.iload_n 1, 1) := by decide +kernel
theorem d109_27 : decode (xbc 109) 27 = .ok (.iload_n 2, 1) := by decide +kernel
theorem d109_28 : decode (xbc 109) 28 = .ok (.iload_n 3, 1) := by decide +kernel
theorem d109_29 : decode (xbc 109) 29 = .ok (.invokevirtual 206, 3) := by decide +kernel
theorem d109_32 : decode (xbc 109) 32 = .ok (.ifCond .eq 13, 3) := by decide +kernel
theorem d109_35 : decode (xbc 109) 35 = .ok (.aload_n 0, 1) := by decide +kernel
theorem d109_36 : decode (xbc 109) 36 = .ok (.getfield 26, 3) := by decide +kernel
theorem d109_39 : decode (xbc 109) 39 = .ok (.invokevirtual 209, 3) := by decide +kernel
theorem d109_42 : decode (xbc 109) 42 = .ok (.goto 5, 3) := by decide +kernel
theorem d109_45 : decode (xbc 109) 45 = .ok (.bipush (-4), 2) := by decide +kernel
theorem d109_47 : decode (xbc 109) 47 = .ok (.ireturn, 1) := by decide +kernel
theorem d110_0 : decode (xbc 110) 0 = .ok (.aload_n 0, 1) := by decide +kernel
theorem d110_1 : decode (xbc 110) 1 = .ok (.getfield 26, 3) := by decide +kernel
theorem d110_4 : decode (xbc 110) 4 = .ok (.invokevirtual 209, 3) := by decide +kernel
theorem d110_7 : decode (xbc 110) 7 = .ok (.istore_n 1, 1) := by decide +kernel
theorem d110_8 : decode (xbc 110) 8 = .ok (.aload_n 0, 1) := by decide +kernel
theorem d110_9 : decode (xbc 110) 9 = .ok (.getfield 26, 3) := by decide +kernel
theorem d110_12 : decode (xbc 110) 12 = .ok (.invokevirtual 212, 3) := by decide +kernel
theorem d110_15 : decode (xbc 110) 15 = .ok (.iload_n 1, 1) := by decide +kernel
theorem d110_16 : decode (xbc 110) 16 = .ok (.ireturn, 1) := by decide +kernel
theorem d111_0 : decode (xbc 111) 0 = .ok (.aload_n 0, 1) := by decide +kernel
theorem d111_1 : decode (xbc 111) 1 = .ok (.getfield 40, 3) := by decide +kernel
theorem d111_4 : decode (xbc 111) 4 = .ok (.aload_n 0, 1) := by decide +kernel
theorem d111_5 : decode (xbc 111) 5 = .ok (.getfield 26, 3) := by decide +kernel
theorem d111_8 : decode (xbc 111) 8 = .ok (.invokevirtual 213, 3) := by decide +kernel
theorem d111_11 : decode (xbc 111) 11 = .ok (.iload_n 1, 1) := by decide +kernel
theorem d111_12 : decode (xbc 111) 12 = .ok (.iconst (-1), 1) := by decide +kernel
theorem d111_13 : decode (xbc 111) 13 = .ok (.if_icmp .ne 13, 3) := by decide +kernel
theorem d111_16 : decode (xbc 111) 16 = .ok (.aload_n 0, 1) := by decide +kernel
theorem d111_17 : decode (xbc 111) 17 = .ok (.getfield 40, 3) := by decide +kernel
theorem d111_20 : decode (xbc 111) 20 = .ok (.invokevirtual 217, 3) := by decide +kernel
theorem d111_23 : decode (xbc 111) 23 = .ok (.goto 11, 3) := by decide +kernel
theorem d111_26 : decode (xbc 111) 26 = .ok (.aload_n 0, 1) := by decide +kernel
theorem d111_27 : decode (xbc 111) 27 = .ok (.getfield 40, 3) := by decide +kernel
theorem d111_30 : decode (xbc 111) 30 = .ok (.iload_n 1, 1) := by decide +kernel
theorem d111_31 : decode (xbc 111) 31 = .ok (.invokevirtual 218, 3) := by decide +kernel
theorem d111_34 : decode (xbc 111) 34 = .ok (.ireturn, 1) := by decide +kernel
theorem d112_0 : decode (xbc 112) 0 = .ok (.iload_n 1, 1) := by decide +kernel
theorem d112_1 : decode (xbc 112) 1 = .ok (.ifCond .eq 11, 3) := by decide +kernel
theorem d112_4 : decode (xbc 112) 4 = .ok (.iload_n 1, 1) := by decide +kernel
theorem d112_5 : decode (xbc 112) 5 = .ok (.iconst 1, 1) := by decide +kernel
theorem d112_6 : decode (xbc 112) 6 = .ok (.if_icmp .eq 6, 3) := by decide +kernel
theorem d112_9 : decode (xbc 112) 9 = .ok (.bipush (-2), 2) := by decide +kernel
theorem d112_11 : decode (xbc 112) 11 = .ok (.ireturn, 1) := by decide +kernel
theorem d112_12 : decode (xbc 112) 12 = .ok (.aload_n 0, 1) := by decide +kernel
theorem d112_13 : decode (xbc 112) 13 = .ok (.getfield 40, 3) := by decide +kernel
theorem d112_16 : decode (xbc 112) 16 = .ok (.aload_n 0, 1) := by decide +kernel
theorem d112_17 : decode (xbc 112) 17 = .ok (.getfield 26, 3) := by decide +kernel
theorem d112_20 : decode (xbc 112) 20 = .ok (.invokevirtual 213, 3) := by decide +kernel
theorem d112_23 : decode (xbc 112) 23 = .ok (.aload_n 0, 1) := by decide +kernel
theorem d112_24 : decode (xbc 112) 24 = .ok (.getfield 40, 3) := by decide +kernel
theorem d112_27 : decode (xbc 112) 27 = .ok (.invokevirtual 221, 3) := by decide +kernel
theorem d112_30 : decode (xbc 112) 30 = .ok (.iload_n 1, 1) := by decide +kernel
theorem d112_31 : decode (xbc 112) 31 = .ok (.ifCond .ne 13, 3) := by decide +kernel
theorem d112_34 : decode (xbc 112) 34 = .ok (.aload_n 0, 1) := by decide +kernel
theorem d112_35 : decode (xbc 112) 35 = .ok (.getfield 40, 3) := by decide +kernel
theorem d112_38 : decode (xbc 112) 38 = .ok (.invokevirtual 224, 3) := by decide +kernel
theorem d112_41 : decode (xbc 112) 41 = .ok (.goto 10, 3) := by decide +kernel
theorem d112_44 : decode (xbc 112) 44 = .ok (.aload_n 0, 1) := by decide +kernel
theorem d112_45 : decode (xbc 112) 45 = .ok (.getfield 40, 3) := by decide +kernel
theorem d112_48 : decode (xbc 112) 48 = .ok (.invokevirtual 227, 3) := by decide +kernel
theorem d112_51 : decode (xbc 112) 51 = .ok (.ireturn, 1) := by decide +kernel
theorem d113_0 : decode (xbc 113) 0 = .ok (.iload_n 1, 1) := by decide +kernel
theorem d113_1 : decode (xbc 113) 1 = .ok (.invokestatic 51, 3) := by decide +kernel
theorem d113_4 : decode (xbc 113) 4 = .ok (.ifCond .eq 10, 3) := by decide +kernel
theorem d113_7 : decode (xbc 113) 7 = .ok (.iload_n 2, 1) := by decide +kernel
theorem d113_8 : decode (xbc 113) 8 = .ok (.invokestatic 51, 3) := by decide +kernel
theorem d113_11 : decode (xbc 113) 11 = .ok (.ifCond .ne 7, 3) := by decide +kernel
theorem d113_14 : decode (xbc 113) 14 = .ok (.ldc2_w 186, 3) := by decide +kernel
theorem d113_17 : decode (xbc 113) 17 = .ok (.lreturn, 1) := by decide +kernel
theorem d113_18 : decode (xbc 113) 18 = .ok (.iload_n 1, 1) := by decide +kernel
theorem d113_19 : decode (xbc 113) 19 = .ok (.iload_n 2, 1) := by decide +kernel
theorem d113_20 : decode (xbc 113) 20 = .ok (.if_icmp .eq 10, 3) := by decide +kernel
theorem d113_23 : decode (xbc 113) 23 = .ok (.iload_n 3, 1) := by decide +kernel
theorem d113_24 : decode (xbc 113) 24 = .ok (.invokestatic 153, 3) := by decide +kernel
theorem d113_27 : decode (xbc 113) 27 = .ok (.ifCond .ne 7, 3) := by decide +kernel
theorem d113_30 : decode (xbc 113) 30 = .ok (.ldc2_w 156, 3) := by decide +kernel
theorem d113_33 : decode (xbc 113) 33 = .ok (.lreturn, 1) := by decide +kernel
theorem d113_34 : decode (xbc 113) 34 = .ok (.aload_n 0, 1) := by decide +kernel
theorem d113_35 : decode (xbc 113) 35 = .ok (.getfield 10, 3) := by decide +kernel
theorem d113_38 : decode (xbc 113) 38 = .ok (.iload_n 2, 1) := by decide +kernel
theorem d113_39 : decode (xbc 113) 39 = .ok (.invokevirtual 109, 3) := by decide +kernel
theorem d113_42 : decode (xbc 113) 42 = .ok (.aload_n 0, 1) := by decide +kernel
theorem d113_43 : decode (xbc 113) 43 = .ok (.getfield 10, 3) := by decide +kernel
theorem d113_46 : decode (xbc 113) 46 = .ok (.iload_n 1, 1) := by decide +kernel
theorem d113_47 : decode (xbc 113) 47 = .ok (.invokevirtual 109, 3) := by decide +kernel
theorem d113_50 : decode (xbc 113) 50 = .ok (.isub, 1) := by decide +kernel
theorem d113_51 : decode (xbc 113) 51 = .ok (.istore 4, 2) := by decide +kernel
theorem d113_53 : decode (xbc 113) 53 = .ok (.aload_n 0, 1) := by decide +kernel
theorem d113_54 : decode (xbc 113) 54 = .ok (.getfield 10, 3) := by decide +kernel
theorem d113_57 : decode (xbc 113) 57 = .ok (.iload_n 1, 1) := by decide +kernel
theorem d113_58 : decode (xbc 113) 58 = .ok (.invokevirtual 112, 3) := by decide +kernel
theorem d113_61 : decode (xbc 113) 61 = .ok (.aload_n 0, 1) := by decide +kernel
theorem d113_62 : decode (xbc 113) 62 = .ok (.getfield 10, 3) := by decide +kernel
theorem d113_65 : decode (xbc 113) 65 = .ok (.iload_n 2, 1) := by decide +kernel
theorem d113_66 : decode (xbc 113) 66 = .ok (.invokevirtual 112, 3) := by decide +kernel
theorem d113_69 : decode (xbc 113) 69 = .ok (.isub, 1) := by decide +kernel
theorem d113_70 : decode (xbc 113) 70 = .ok (.istore 5, 2) := by decide +kernel
theorem d113_72 : decode (xbc 113) 72 = .ok (.iload 5, 2) := by decide +kernel
theorem d113_74 : decode (xbc 113) 74 = .ok (.ifCond .ne 7, 3) := by decide +kernel
theorem d113_77 : decode (xbc 113) 77 = .ok (.ldc2_w 168, 3) := by decide +kernel
theorem d113_80 : decode (xbc 113) 80 = .ok (.lreturn, 1) := by decide +kernel
theorem d113_81 : decode (xbc 113) 81 = .ok (.iload 5, 2) := by decide +kernel
theorem d113_83 : decode (xbc 113) 83 = .ok (.ifCond .le 14, 3) := by decide +kernel
theorem d113_86 : decode (xbc 113) 86 = .ok (.iload 4, 2) := by decide +kernel
theorem d113_88 : decode (xbc 113) 88 = .ok (.iload 5, 2) := by decide +kernel
theorem d113_90 : decode (xbc 113) 90 = .ok (.iload_n 3, 1) := by decide +kernel
theorem d113_91 : decode (xbc 113) 91 = .ok (.invokestatic 176, 3) := by decide +kernel
theorem d113_94 : decode (xbc 113) 94 = .ok (.goto 13, 3) := by decide +kernel
theorem d113_97 : decode (xbc 113) 97 = .ok (.iload 4, 2) := by decide +kernel
theorem d113_99 : decode (xbc 113) 99 = .ok (.ineg, 1) := by decide +kernel
theorem d113_100 : decode (xbc 113) 100 = .ok (.iload 5, 2) := by decide +kernel
theorem d113_102 : decode (xbc 113) 102 = .ok (.ineg, 1) := by decide +kernel
theorem d113_103 : decode (xbc 113) 103 = .ok (.iload_n 3, 1) := by decide +kernel
theorem d113_104 : decode (xbc 113) 104 = .ok (.invokestatic 176, 3) := by decide +kernel
theorem d113_107 : decode (xbc 113) 107 = .ok (.lreturn, 1) := by decide +kernel
theorem d114_0 : decode (xbc 114) 0 = .ok (.iload_n 1, 1) := by decide +kernel
theorem d114_1 : decode (xbc 114) 1 = .ok (.ifCond .lt 30, 3) := by decide +kernel
theorem d114_4 : decode (xbc 114) 4 = .ok (.iload_n 1, 1) := by decide +kernel
theorem d114_5 : decode (xbc 114) 5 = .ok (.sipush 9999, 3) := by decide +kernel
theorem d114_8 : decode (xbc 114) 8 = .ok (.if_icmp .gt 23, 3) := by decide +kernel
theorem d114_11 : decode (xbc 114) 11 = .ok (.iload_n 2, 1) := by decide +kernel
theorem d114_12 : decode (xbc 114) 12 = .ok (.iconst 1, 1) := by decide +kernel
theorem d114_13 : decode (xbc 114) 13 = .ok (.if_icmp .lt 18, 3) := by decide +kernel
theorem d114_16 : decode (xbc 114) 16 = .ok (.iload_n 2, 1) := by decide +kernel
theorem d114_17 : decode (xbc 114) 17 = .ok (.bipush 99, 2) := by decide +kernel
theorem d114_19 : decode (xbc 114) 19 = .ok (.if_icmp .gt 12, 3) := by decide +kernel
theorem d114_22 : decode (xbc 114) 22 = .ok (.iload_n 3, 1) := by decide +kernel
theorem d114_23 : decode (xbc 114) 23 = .ok (.ifCond .lt 8, 3) := by decide +kernel
theorem d114_26 : decode (xbc 114) 26 = .ok (.iload_n 3, 1) := by decide +kernel
theorem d114_27 : decode (xbc 114) 27 = .ok (.iconst 2, 1) := by decide +kernel
theorem d114_28 : decode (xbc 114) 28 = .ok (.if_icmp .le 6, 3) := by decide +kernel
theorem d114_31 : decode (xbc 114) 31 = .ok (.bipush (-2), 2) := by decide +kernel
theorem d114_33 : decode (xbc 114) 33 = .ok (.ireturn, 1) := by decide +kernel
theorem d114_34 : decode (xbc 114) 34 = .ok (.aload_n 0, 1) := by decide +kernel
theorem d114_35 : decode (xbc 114) 35 = .ok (.getfield 33, 3) := by decide +kernel
theorem d114_38 : decode (xbc 114) 38 = .ok (.aload_n 0, 1) := by decide +kernel
theorem d114_39 : decode (xbc 114) 39 = .ok (.getfield 10, 3) := by decide +kernel
theorem d114_42 : decode (xbc 114) 42 = .ok (.iload_n 1, 1) := by decide +kernel
theorem d114_43 : decode (xbc 114) 43 = .ok (.iload_n 2, 1) := by decide +kernel
theorem d114_44 : decode (xbc 114) 44 = .ok (.invokevirtual 230, 3) := by decide +kernel
theorem d114_47 : decode (xbc 114) 47 = .ok (.aload_n 0, 1) := by decide +kernel
theorem d114_48 : decode (xbc 114) 48 = .ok (.getfield 33, 3) := by decide +kernel
theorem d114_51 : decode (xbc 114) 51 = .ok (.invokevirtual 99, 3) := by decide +kernel
theorem d114_54 : decode (xbc 114) 54 = .ok (.astore 4, 2) := by decide +kernel
theorem d114_56 : decode (xbc 114) 56 = .ok (.iload_n 3, 1) := by decide +kernel
theorem d114_57 : decode (xbc 114) 57 = .ok (.lookupswitch 43 #[(0, 27), (1, 34)], 27) := by decide +kernel
theorem d114_84 : decode (xbc 114) 84 = .ok (.aload 4, 2) := by decide +kernel
theorem d114_86 : decode (xbc 114) 86 = .ok (.iconst 1, 1) := by decide +kernel
theorem d114_87 : decode (xbc 114) 87 = .ok (.invokevirtual 118, 3) := by decide +kernel
theorem d114_90 : decode (xbc 114) 90 = .ok (.ireturn, 1) := by decide +kernel
theorem d114_91 : decode (xbc 114) 91 = .ok (.aload 4, 2) := by decide +kernel
theorem d114_93 : decode (xbc 114) 93 = .ok (.invokevirtual 121, 3) := by decide +kernel
theorem d114_96 : decode (xbc 114) 96 = .ok (.getfield 137, 3) := by decide +kernel
theorem d114_99 : decode (xbc 114) 99 = .ok (.ireturn, 1) := by decide +kernel
theorem d114_100 : decode (xbc 114) 100 = .ok (.aload 4, 2) := by decide +kernel
theorem d114_102 : decode (xbc 114) 102 = .ok (.invokevirtual 121, 3) := by decide +kernel
theorem d114_105 : decode (xbc 114) 105 = .ok (.getfield 134, 3) := by decide +kernel
theorem d114_108 : decode (xbc 114) 108 = .ok (.ireturn, 1) := by decide +kernel
theorem d115_0 : decode (xbc 115) 0 = .ok (.iload_n 1, 1) := by decide +kernel
theorem d115_1 : decode (xbc 115) 1 = .ok (.ifCond .lt 8, 3) := by decide +kernel
theorem d115_4 : decode (xbc 115) 4 = .ok (.iload_n 1, 1) := by decide +kernel
theorem d115_5 : decode (xbc 115) 5 = .ok (.iconst 2, 1) := by decide +kernel
theorem d115_6 : decode (xbc 115) 6 = .ok (.if_icmp .lt 6, 3) := by decide +kernel
theorem d115_9 : decode (xbc 115) 9 = .ok (.bipush (-2), 2) := by decide +kernel
theorem d115_11 : decode (xbc 115) 11 = .ok (.ireturn, 1) := by decide +kernel
theorem d115_12 : decode (xbc 115) 12 = .ok (.aload_n 0, 1) := by decide +kernel
theorem d115_13 : decode (xbc 115) 13 = .ok (.getfield 46, 3) := by decide +kernel
theorem d115_16 : decode (xbc 115) 16 = .ok (.iload_n 1, 1) := by decide +kernel
theorem d115_17 : decode (xbc 115) 17 = .ok (.aaload, 1) := by decide +kernel
theorem d115_18 : decode (xbc 115) 18 = .ok (.aload_n 0, 1) := by decide +kernel
theorem d115_19 : decode (xbc 115) 19 = .ok (.getfield 10, 3) := by decide +kernel
theorem d115_22 : decode (xbc 115) 22 = .ok (.aload_n 0, 1) := by decide +kernel
theorem d115_23 : decode (xbc 115) 23 = .ok (.getfield 26, 3) := by decide +kernel
theorem d115_26 : decode (xbc 115) 26 = .ok (.invokevirtual 234, 3) := by decide +kernel
theorem d115_29 : decode (xbc 115) 29 = .ok (.iconst 1, 1) := by decide +kernel
theorem d115_30 : decode (xbc 115) 30 = .ok (.ireturn, 1) := by decide +kernel
theorem d116_0 : decode (xbc 116) 0 = .ok (.iload_n 1, 1) := by decide +kernel
theorem d116_1 : decode (xbc 116) 1 = .ok (.ifCond .lt 8, 3) := by decide +kernel
theorem d116_4 : decode (xbc 116) 4 = .ok (.iload_n 1, 1) := by decide +kernel
theorem d116_5 : decode (xbc 116) 5 = .ok (.iconst 2, 1) := by decide +kernel
theorem d116_6 : decode (xbc 116) 6 = .ok (.if_icmp .lt 6, 3) := by decide +kernel
theorem d116_9 : decode (xbc 116) 9 = .ok (.bipush (-2), 2) := by decide +kernel
theorem d116_11 : decode (xbc 116) 11 = .ok (.ireturn, 1) := by decide +kernel
theorem d116_12 : decode (xbc 116) 12 = .ok (.aload_n 0, 1) := by decide +kernel
theorem d116_13 : decode (xbc 116) 13 = .ok (.getfield 46, 3) := by decide +kernel
theorem d116_16 : decode (xbc 116) 16 = .ok (.iload_n 1, 1) := by decide +kernel
theorem d116_17 : decode (xbc 116) 17 = .ok (.aaload, 1) := by decide +kernel
theorem d116_18 : decode (xbc 116) 18 = .ok (.aload_n 0, 1) := by decide +kernel
theorem d116_19 : decode (xbc 116) 19 = .ok (.getfield 10, 3) := by decide +kernel
theorem d116_22 : decode (xbc 116) 22 = .ok (.aload_n 0, 1) := by decide +kernel
theorem d116_23 : decode (xbc 116) 23 = .ok (.getfield 26, 3) := by decide +kernel
theorem d116_26 : decode (xbc 116) 26 = .ok (.invokevirtual 238, 3) := by decide +kernel
theorem d116_29 : decode (xbc 116) 29 = .ok (.ifCond .eq 7, 3) := by decide +kernel
theorem d116_32 : decode (xbc 116) 32 = .ok (.iconst 1, 1) := by decide +kernel
theorem d116_33 : decode (xbc 116) 33 = .ok (.goto 5, 3) := by decide +kernel
theorem d116_36 : decode (xbc 116) 36 = .ok (.bipush (-3), 2) := by decide +kernel
theorem d116_38 : decode (xbc 116) 38 = .ok (.ireturn, 1) := by decide +kernel
theorem d117_0 : decode (xbc 117) 0 = .ok (.iload_n 1, 1) := by decide +kernel
theorem d117_1 : decode (xbc 117) 1 = .ok (.ifCond .ge 6, 3) := by decide +kernel
theorem d117_4 : decode (xbc 117) 4 = .ok (.bipush (-2), 2) := by decide +kernel
theorem d117_6 : decode (xbc 117) 6 = .ok (.ireturn, 1) := by decide +kernel
theorem d117_7 : decode (xbc 117) 7 = .ok (.iload_n 1, 1) := by decide +kernel
theorem d117_8 : decode (xbc 117) 8 = .ok (.bipush 10, 2) := by decide +kernel
theorem d117_10 : decode (xbc 117) 10 = .ok (.if_icmp .ge 11, 3) := by decide +kernel
theorem d117_13 : decode (xbc 117) 13 = .ok (.aload_n 0, 1) := by decide +kernel
theorem d117_14 : decode (xbc 117) 14 = .ok (.iload_n 1, 1) := by decide +kernel
theorem d117_15 : decode (xbc 117) 15 = .ok (.invokevirtual 242, 3) := by decide +kernel
theorem d117_18 : decode (xbc 117) 18 = .ok (.goto 15, 3) := by decide +kernel
theorem d117_21 : decode (xbc 117) 21 = .ok (.aload_n 0, 1) := by decide +kernel
theorem d117_22 : decode (xbc 117) 22 = .ok (.iload_n 1, 1) := by decide +kernel
theorem d117_23 : decode (xbc 117) 23 = .ok (.bipush 10, 2) := by decide +kernel
theorem d117_25 : decode (xbc 117) 25 = .ok (.idiv, 1) := by decide +kernel
theorem d117_26 : decode (xbc 117) 26 = .ok (.iload_n 1, 1) := by decide +kernel
theorem d117_27 : decode (xbc 117) 27 = .ok (.bipush 10, 2) := by decide +kernel
theorem d117_29 : decode (xbc 117) 29 = .ok (.irem, 1) := by decide +kernel
theorem d117_30 : decode (xbc 117) 30 = .ok (.invokevirtual 245, 3) := by decide +kernel
theorem d117_33 : decode (xbc 117) 33 = .ok (.ireturn, 1) := by decide +kernel
theorem d118_0 : decode (xbc 118) 0 = .ok (.iload_n 1, 1) := by decide +kernel
theorem d118_1 : decode (xbc 118) 1 = .ok (.tableswitch 79 0 4 #[35, 43, 51, 60, 71], 35) := by decide +kernel
theorem d118_36 : decode (xbc 118) 36 = .ok (.aload_n 0, 1) := by decide +kernel
theorem d118_37 : decode (xbc 118) 37 = .ok (.getfield 19, 3) := by decide +kernel
theorem d118_40 : decode (xbc 118) 40 = .ok (.invokevirtual 79, 3) := by decide +kernel
theorem d118_43 : decode (xbc 118) 43 = .ok (.ireturn, 1) := by decide +kernel
theorem d118_44 : decode (xbc 118) 44 = .ok (.aload_n 0, 1) := by decide +kernel
theorem d118_45 : decode (xbc 118) 45 = .ok (.getfield 10, 3) := by decide +kernel
theorem d118_48 : decode (xbc 118) 48 = .ok (.invokevirtual 125, 3) := by decide +kernel
theorem d118_51 : decode (xbc 118) 51 = .ok (.ireturn, 1) := by decide +kernel
theorem d118_52 : decode (xbc 118) 52 = .ok (.aload_n 0, 1) := by decide +kernel
theorem d118_53 : decode (xbc 118) 53 = .ok (.getfield 10, 3) := by decide +kernel
theorem d118_56 : decode (xbc 118) 56 = .ok (.iconst 1, 1) := by decide +kernel
theorem d118_57 : decode (xbc 118) 57 = .ok (.invokevirtual 118, 3) := by decide +kernel
theorem d118_60 : decode (xbc 118) 60 = .ok (.ireturn, 1) := by decide +kernel
theorem d118_61 : decode (xbc 118) 61 = .ok (.aload_n 0, 1) := by decide +kernel
theorem d118_62 : decode (xbc 118) 62 = .ok (.getfield 10, 3) := by decide +kernel
theorem d118_65 : decode (xbc 118) 65 = .ok (.invokevirtual 158, 3) := by decide +kernel
theorem d118_68 : decode (xbc 118) 68 = .ok (.invokevirtual 248, 3) := by decide +kernel
theorem d118_71 : decode (xbc 118) 71 = .ok (.ireturn, 1) := by decide +kernel
theorem d118_72 : decode (xbc 118) 72 = .ok (.aload_n 0, 1) := by decide +kernel
theorem d118_73 : decode (xbc 118) 73 = .ok (.getfield 26, 3) := by decide +kernel
theorem d118_76 : decode (xbc 118) 76 = .ok (.invokevirtual 209, 3) := by decide +kernel
theorem d118_79 : decode (xbc 118) 79 = .ok (.ireturn, 1) := by decide +kernel
theorem d118_80 : decode (xbc 118) 80 = .ok (.bipush (-2), 2) := by decide +kernel
theorem d118_82 : decode (xbc 118) 82 = .ok (.ireturn, 1) := by decide +kernel
theorem d119_0 : decode (xbc 119) 0 = .ok (.iload_n 1, 1) := by decide +kernel
theorem d119_1 : decode (xbc 119) 1 = .ok (.iconst 5, 1) := by decide +kernel
theorem d119_2 : decode (xbc 119) 2 = .ok (.if_icmp .ne 24, 3) := by decide +kernel
theorem d119_5 : decode (xbc 119) 5 = .ok (.iload_n 2, 1) := by decide +kernel
theorem d119_6 : decode (xbc 119) 6 = .ok (.invokestatic 115, 3) := by decide +kernel
theorem d119_9 : decode (xbc 119) 9 = .ok (.ifCond .eq 14, 3) := by decide +kernel
theorem d119_12 : decode (xbc 119) 12 = .ok (.aload_n 0, 1) := by decide +kernel
theorem d119_13 : decode (xbc 119) 13 = .ok (.getfield 10, 3) := by decide +kernel
theorem d119_16 : decode (xbc 119) 16 = .ok (.iload_n 2, 1) := by decide +kernel
theorem d119_17 : decode (xbc 119) 17 = .ok (.invokevirtual 118, 3) := by decide +kernel
theorem d119_20 : decode (xbc 119) 20 = .ok (.goto 5, 3) := by decide +kernel
theorem d119_23 : decode (xbc 119) 23 = .ok (.bipush (-2), 2) := by decide +kernel
theorem d119_25 : decode (xbc 119) 25 = .ok (.ireturn, 1) := by decide +kernel
theorem d119_26 : decode (xbc 119) 26 = .ok (.iload_n 2, 1) := by decide +kernel
theorem d119_27 : decode (xbc 119) 27 = .ok (.invokestatic 51, 3) := by decide +kernel
theorem d119_30 : decode (xbc 119) 30 = .ok (.ifCond .ne 6, 3) := by decide +kernel
theorem d119_33 : decode (xbc 119) 33 = .ok (.bipush (-2), 2) := by decide +kernel
theorem d119_35 : decode (xbc 119) 35 = .ok (.ireturn, 1) := by decide +kernel
theorem d119_36 : decode (xbc 119) 36 = .ok (.iload_n 1, 1) := by decide +kernel
theorem d119_37 : decode (xbc 119) 37 = .ok (.tableswitch 67 1 4 #[31, 40, 49, 58], 31) := by decide +kernel
theorem d119_68 : decode (xbc 119) 68 = .ok (.aload_n 0, 1) := by decide +kernel
theorem d119_69 : decode (xbc 119) 69 = .ok (.getfield 10, 3) := by decide +kernel
theorem d119_72 : decode (xbc 119) 72 = .ok (.iload_n 2, 1) := by decide +kernel
theorem d119_73 : decode (xbc 119) 73 = .ok (.invokevirtual 69, 3) := by decide +kernel
theorem d119_76 : decode (xbc 119) 76 = .ok (.ireturn, 1) := by decide +kernel
theorem d119_77 : decode (xbc 119) 77 = .ok (.aload_n 0, 1) := by decide +kernel
theorem d119_78 : decode (xbc 119) 78 = .ok (.getfield 10, 3) := by decide +kernel
theorem d119_81 : decode (xbc 119) 81 = .ok (.iload_n 2, 1) := by decide +kernel
theorem d119_82 : decode (xbc 119) 82 = .ok (.invokevirtual 66, 3) := by decide +kernel
theorem d119_85 : decode (xbc 119) 85 = .ok (.ireturn, 1) := by decide +kernel
theorem d119_86 : decode (xbc 119) 86 = .ok (.aload_n 0, 1) := by decide +kernel
theorem d119_87 : decode (xbc 119) 87 = .ok (.getfield 10, 3) := by decide +kernel
theorem d119_90 : decode (xbc 119) 90 = .ok (.iload_n 2, 1) := by decide +kernel
theorem d119_91 : decode (xbc 119) 91 = .ok (.invokevirtual 59, 3) := by decide +kernel
theorem d119_94 : decode (xbc 119) 94 = .ok (.ireturn, 1) := by decide +kernel
theorem d119_95 : decode (xbc 119) 95 = .ok (.aload_n 0, 1) := by decide +kernel
theorem d119_96 : decode (xbc 119) 96 = .ok (.getfield 10, 3) := by decide +kernel
theorem d119_99 : decode (xbc 119) 99 = .ok (.iload_n 2, 1) := by decide +kernel
theorem d119_100 : decode (xbc 119) 100 = .ok (.invokevirtual 112, 3) := by decide +kernel
theorem d119_103 : decode (xbc 119) 103 = .ok (.ireturn, 1) := by decide +kernel
theorem d119_104 : decode (xbc 119) 104 = .ok (.bipush (-2), 2) := by decide +kernel
theorem d119_106 : decode (xbc 119) 106 = .ok (.ireturn, 1) := by decide +kernel
