theorem d1_0 : decode (xbc 1) 0 = .ok (.aload_n 0, 1) := by decide +kernel
theorem d1_1 : decode (xbc 1) 1 = .ok (.invokespecial 3, 3) := by decide +kernel
theorem d1_4 : decode (xbc 1) 4 = .ok (.aload_n 0, 1) := by decide +kernel
theorem d1_5 : decode (xbc 1) 5 = .ok (.bipush 8, 2) := by decide +kernel
theorem d1_7 : decode (xbc 1) 7 = .ok (.newarray .int, 2) := by decide +kernel
theorem d1_9 : decode (xbc 1) 9 = .ok (.putfield 9, 3) := by decide +kernel
theorem d1_12 : decode (xbc 1) 12 = .ok (.aload_n 0, 1) := by decide +kernel
theorem d1_13 : decode (xbc 1) 13 = .ok (.bipush 8, 2) := by decide +kernel
theorem d1_15 : decode (xbc 1) 15 = .ok (.newarray .int, 2) := by decide +kernel
theorem d1_17 : decode (xbc 1) 17 = .ok (.putfield 15, 3) := by decide +kernel
theorem d1_20 : decode (xbc 1) 20 = .ok (.aload_n 0, 1) := by decide +kernel
theorem d1_21 : decode (xbc 1) 21 = .ok (.bipush 8, 2) := by decide +kernel
theorem d1_23 : decode (xbc 1) 23 = .ok (.newarray .int, 2) := by decide +kernel
theorem d1_25 : decode (xbc 1) 25 = .ok (.putfield 18, 3) := by decide +kernel
theorem d1_28 : decode (xbc 1) 28 = .ok (.aload_n 0, 1) := by decide +kernel
theorem d1_29 : decode (xbc 1) 29 = .ok (.bipush 8, 2) := by decide +kernel
theorem d1_31 : decode (xbc 1) 31 = .ok (.newarray .int, 2) := by decide +kernel
theorem d1_33 : decode (xbc 1) 33 = .ok (.putfield 21, 3) := by decide +kernel
theorem d1_36 : decode (xbc 1) 36 = .ok (.aload_n 0, 1) := by decide +kernel
theorem d1_37 : decode (xbc 1) 37 = .ok (.bipush 8, 2) := by decide +kernel
theorem d1_39 : decode (xbc 1) 39 = .ok (.newarray .boolean, 2) := by decide +kernel
theorem d1_41 : decode (xbc 1) 41 = .ok (.putfield 24, 3) := by decide +kernel
theorem d1_44 : decode (xbc 1) 44 = .ok (.aload_n 0, 1) := by decide +kernel
theorem d1_45 : decode (xbc 1) 45 = .ok (.bipush 8, 2) := by decide +kernel
theorem d1_47 : decode (xbc 1) 47 = .ok (.newarray .int, 2) := by decide +kernel
theorem d1_49 : decode (xbc 1) 49 = .ok (.putfield 28, 3) := by decide +kernel
theorem d1_52 : decode (xbc 1) 52 = .ok (.aload_n 0, 1) := by decide +kernel
theorem d1_53 : decode (xbc 1) 53 = .ok (.new 31, 3) := by decide +kernel
theorem d1_56 : decode (xbc 1) 56 = .ok (.dup, 1) := by decide +kernel
theorem d1_57 : decode (xbc 1) 57 = .ok (.invokespecial 33, 3) := by decide +kernel
theorem d1_60 : decode (xbc 1) 60 = .ok (.putfield 34, 3) := by decide +kernel
theorem d1_63 : decode (xbc 1) 63 = .ok (.aload_n 0, 1) := by decide +kernel
theorem d1_64 : decode (xbc 1) 64 = .ok (.new 38, 3) := by decide +kernel
theorem d1_67 : decode (xbc 1) 67 = .ok (.dup, 1) := by decide +kernel
theorem d1_68 : decode (xbc 1) 68 = .ok (.invokespecial 40, 3) := by decide +kernel
theorem d1_71 : decode (xbc 1) 71 = .ok (.putfield 41, 3) := by decide +kernel
theorem d1_74 : decode (xbc 1) 74 = .ok (.aload_n 0, 1) := by decide +kernel
theorem d1_75 : decode (xbc 1) 75 = .ok (.iconst 0, 1) := by decide +kernel
theorem d1_76 : decode (xbc 1) 76 = .ok (.putfield 45, 3) := by decide +kernel
theorem d1_79 : decode (xbc 1) 79 = .ok (.iconst 0, 1) := by decide +kernel
theorem d1_80 : decode (xbc 1) 80 = .ok (.istore_n 1, 1) := by decide +kernel
theorem d1_81 : decode (xbc 1) 81 = .ok (.iload_n 1, 1) := by decide +kernel
theorem d1_82 : decode (xbc 1) 82 = .ok (.bipush 8, 2) := by decide +kernel
theorem d1_84 : decode (xbc 1) 84 = .ok (.if_icmp .ge 56, 3) := by decide +kernel
theorem d1_87 : decode (xbc 1) 87 = .ok (.aload_n 0, 1) := by decide +kernel
theorem d1_88 : decode (xbc 1) 88 = .ok (.getfield 9, 3) := by decide +kernel
theorem d1_91 : decode (xbc 1) 91 = .ok (.iload_n 1, 1) := by decide +kernel
theorem d1_92 : decode (xbc 1) 92 = .ok (.iload_n 1, 1) := by decide +kernel
theorem d1_93 : decode (xbc 1) 93 = .ok (.iconst 4, 1) := by decide +kernel
theorem d1_94 : decode (xbc 1) 94 = .ok (.if_icmp .ge 7, 3) := by decide +kernel
theorem d1_97 : decode (xbc 1) 97 = .ok (.iconst 0, 1) := by decide +kernel
theorem d1_98 : decode (xbc 1) 98 = .ok (.goto 4, 3) := by decide +kernel
theorem d1_101 : decode (xbc 1) 101 = .ok (.iconst 1, 1) := by decide +kernel
theorem d1_102 : decode (xbc 1) 102 = .ok (.iastore, 1) := by decide +kernel
theorem d1_103 : decode (xbc 1) 103 = .ok (.aload_n 0, 1) := by decide +kernel
theorem d1_104 : decode (xbc 1) 104 = .ok (.getfield 15, 3) := by decide +kernel
theorem d1_107 : decode (xbc 1) 107 = .ok (.iload_n 1, 1) := by decide +kernel
theorem d1_108 : decode (xbc 1) 108 = .ok (.iload_n 1, 1) := by decide +kernel
theorem d1_109 : decode (xbc 1) 109 = .ok (.iastore, 1) := by decide +kernel
theorem d1_110 : decode (xbc 1) 110 = .ok (.aload_n 0, 1) := by decide +kernel
theorem d1_111 : decode (xbc 1) 111 = .ok (.getfield 18, 3) := by decide +kernel
theorem d1_114 : decode (xbc 1) 114 = .ok (.iload_n 1, 1) := by decide +kernel
theorem d1_115 : decode (xbc 1) 115 = .ok (.bipush 10, 2) := by decide +kernel
theorem d1_117 : decode (xbc 1) 117 = .ok (.iload_n 1, 1) := by decide +kernel
theorem d1_118 : decode (xbc 1) 118 = .ok (.imul, 1) := by decide +kernel
theorem d1_119 : decode (xbc 1) 119 = .ok (.iastore, 1) := by decide +kernel
theorem d1_120 : decode (xbc 1) 120 = .ok (.aload_n 0, 1) := by decide +kernel
theorem d1_121 : decode (xbc 1) 121 = .ok (.getfield 21, 3) := by decide +kernel
theorem d1_124 : decode (xbc 1) 124 = .ok (.iload_n 1, 1) := by decide +kernel
theorem d1_125 : decode (xbc 1) 125 = .ok (.iconst 0, 1) := by decide +kernel
theorem d1_126 : decode (xbc 1) 126 = .ok (.iastore, 1) := by decide +kernel
theorem d1_127 : decode (xbc 1) 127 = .ok (.aload_n 0, 1) := by decide +kernel
theorem d1_128 : decode (xbc 1) 128 = .ok (.getfield 24, 3) := by decide +kernel
theorem d1_131 : decode (xbc 1) 131 = .ok (.iload_n 1, 1) := by decide +kernel
theorem d1_132 : decode (xbc 1) 132 = .ok (.iconst 1, 1) := by decide +kernel
theorem d1_133 : decode (xbc 1) 133 = .ok (.bastore, 1) := by decide +kernel
theorem d1_134 : decode (xbc 1) 134 = .ok (.iinc 1 1, 3) := by decide +kernel
theorem d1_137 : decode (xbc 1) 137 = .ok (.goto (-56), 3) := by decide +kernel
theorem d1_140 : decode (xbc 1) 140 = .ok (.aload_n 0, 1) := by decide +kernel
theorem d1_141 : decode (xbc 1) 141 = .ok (.invokevirtual 49, 3) := by decide +kernel
theorem d1_144 : decode (xbc 1) 144 = .ok (.return_, 1) := by decide +kernel
theorem d2_0 : decode (xbc 2) 0 = .ok (.aload_n 0, 1) := by decide +kernel
theorem d2_1 : decode (xbc 2) 1 = .ok (.getfield 34, 3) := by decide +kernel
theorem d2_4 : decode (xbc 2) 4 = .ok (.invokevirtual 104, 3) := by decide +kernel
theorem d2_7 : decode (xbc 2) 7 = .ok (.bipush 7, 2) := by decide +kernel
theorem d2_9 : decode (xbc 2) 9 = .ok (.istore_n 1, 1) := by decide +kernel
theorem d2_10 : decode (xbc 2) 10 = .ok (.iload_n 1, 1) := by decide +kernel
theorem d2_11 : decode (xbc 2) 11 = .ok (.iconst 1, 1) := by decide +kernel
theorem d2_12 : decode (xbc 2) 12 = .ok (.if_icmp .lt 20, 3) := by decide +kernel
theorem d2_15 : decode (xbc 2) 15 = .ok (.aload_n 0, 1) := by decide +kernel
theorem d2_16 : decode (xbc 2) 16 = .ok (.iload_n 1, 1) := by decide +kernel
theorem d2_17 : decode (xbc 2) 17 = .ok (.aload_n 0, 1) := by decide +kernel
theorem d2_18 : decode (xbc 2) 18 = .ok (.getfield 45, 3) := by decide +kernel
theorem d2_21 : decode (xbc 2) 21 = .ok (.iconst 1, 1) := by decide +kernel
theorem d2_22 : decode (xbc 2) 22 = .ok (.invokevirtual 107, 3) := by decide +kernel
theorem d2_25 : decode (xbc 2) 25 = .ok (.pop, 1) := by decide +kernel
theorem d2_26 : decode (xbc 2) 26 = .ok (.iinc 1 (-1), 3) := by decide +kernel
theorem d2_29 : decode (xbc 2) 29 = .ok (.goto (-19), 3) := by decide +kernel
theorem d2_32 : decode (xbc 2) 32 = .ok (.return_, 1) := by decide +kernel
theorem d3_0 : decode (xbc 3) 0 = .ok (.iload_n 1, 1) := by decide +kernel
theorem d3_1 : decode (xbc 3) 1 = .ok (.invokestatic 66, 3) := by decide +kernel
theorem d3_4 : decode (xbc 3) 4 = .ok (.ifCond .ne 5, 3) := by decide +kernel
theorem d3_7 : decode (xbc 3) 7 = .ok (.iconst 0, 1) := by decide +kernel
theorem d3_8 : decode (xbc 3) 8 = .ok (.ireturn, 1) := by decide +kernel
theorem d3_9 : decode (xbc 3) 9 = .ok (.aload_n 0, 1) := by decide +kernel
theorem d3_10 : decode (xbc 3) 10 = .ok (.iconst 2, 1) := by decide +kernel
theorem d3_11 : decode (xbc 3) 11 = .ok (.iload_n 1, 1) := by decide +kernel
theorem d3_12 : decode (xbc 3) 12 = .ok (.imul, 1) := by decide +kernel
theorem d3_13 : decode (xbc 3) 13 = .ok (.invokevirtual 135, 3) := by decide +kernel
theorem d3_16 : decode (xbc 3) 16 = .ok (.istore 4, 2) := by decide +kernel
theorem d3_18 : decode (xbc 3) 18 = .ok (.aload_n 0, 1) := by decide +kernel
theorem d3_19 : decode (xbc 3) 19 = .ok (.iconst 2, 1) := by decide +kernel
theorem d3_20 : decode (xbc 3) 20 = .ok (.iload_n 1, 1) := by decide +kernel
theorem d3_21 : decode (xbc 3) 21 = .ok (.imul, 1) := by decide +kernel
theorem d3_22 : decode (xbc 3) 22 = .ok (.iconst 1, 1) := by decide +kernel
theorem d3_23 : decode (xbc 3) 23 = .ok (.iadd, 1) := by decide +kernel
theorem d3_24 : decode (xbc 3) 24 = .ok (.invokevirtual 135, 3) := by decide +kernel
theorem d3_27 : decode (xbc 3) 27 = .ok (.istore 5, 2) := by decide +kernel
theorem d3_29 : decode (xbc 3) 29 = .ok (.aload_n 0, 1) := by decide +kernel
theorem d3_30 : decode (xbc 3) 30 = .ok (.getfield 28, 3) := by decide +kernel
theorem d3_33 : decode (xbc 3) 33 = .ok (.iload_n 1, 1) := by decide +kernel
theorem d3_34 : decode (xbc 3) 34 = .ok (.iaload, 1) := by decide +kernel
theorem d3_35 : decode (xbc 3) 35 = .ok (.istore 6, 2) := by decide +kernel
theorem d3_37 : decode (xbc 3) 37 = .ok (.aload_n 0, 1) := by decide +kernel
theorem d3_38 : decode (xbc 3) 38 = .ok (.iload 4, 2) := by decide +kernel
theorem d3_40 : decode (xbc 3) 40 = .ok (.iload 5, 2) := by decide +kernel
theorem d3_42 : decode (xbc 3) 42 = .ok (.iload_n 2, 1) := by decide +kernel
theorem d3_43 : decode (xbc 3) 43 = .ok (.iload_n 3, 1) := by decide +kernel
theorem d3_44 : decode (xbc 3) 44 = .ok (.invokevirtual 138, 3) := by decide +kernel
theorem d3_47 : decode (xbc 3) 47 = .ok (.istore 7, 2) := by decide +kernel
theorem d3_49 : decode (xbc 3) 49 = .ok (.aload_n 0, 1) := by decide +kernel
theorem d3_50 : decode (xbc 3) 50 = .ok (.getfield 28, 3) := by decide +kernel
theorem d3_53 : decode (xbc 3) 53 = .ok (.iload_n 1, 1) := by decide +kernel
theorem d3_54 : decode (xbc 3) 54 = .ok (.iload 7, 2) := by decide +kernel
theorem d3_56 : decode (xbc 3) 56 = .ok (.iastore, 1) := by decide +kernel
theorem d3_57 : decode (xbc 3) 57 = .ok (.aload_n 0, 1) := by decide +kernel
theorem d3_58 : decode (xbc 3) 58 = .ok (.iload_n 1, 1) := by decide +kernel
theorem d3_59 : decode (xbc 3) 59 = .ok (.iload 7, 2) := by decide +kernel
theorem d3_61 : decode (xbc 3) 61 = .ok (.iload 7, 2) := by decide +kernel
theorem d3_63 : decode (xbc 3) 63 = .ok (.iload 4, 2) := by decide +kernel
theorem d3_65 : decode (xbc 3) 65 = .ok (.if_icmp .ne 8, 3) := by decide +kernel
theorem d3_68 : decode (xbc 3) 68 = .ok (.iload 5, 2) := by decide +kernel
theorem d3_70 : decode (xbc 3) 70 = .ok (.goto 5, 3) := by decide +kernel
theorem d3_73 : decode (xbc 3) 73 = .ok (.iload 4, 2) := by decide +kernel
theorem d3_75 : decode (xbc 3) 75 = .ok (.invokevirtual 142, 3) := by decide +kernel
theorem d3_78 : decode (xbc 3) 78 = .ok (.iload 7, 2) := by decide +kernel
theorem d3_80 : decode (xbc 3) 80 = .ok (.iload 6, 2) := by decide +kernel
theorem d3_82 : decode (xbc 3) 82 = .ok (.if_icmp .eq 7, 3) := by decide +kernel
theorem d3_85 : decode (xbc 3) 85 = .ok (.iconst 1, 1) := by decide +kernel
theorem d3_86 : decode (xbc 3) 86 = .ok (.goto 4, 3) := by decide +kernel
theorem d3_89 : decode (xbc 3) 89 = .ok (.iconst 0, 1) := by decide +kernel
theorem d3_90 : decode (xbc 3) 90 = .ok (.ireturn, 1) := by decide +kernel
theorem d4_0 : decode (xbc 4) 0 = .ok (.iload_n 1, 1) := by decide +kernel
theorem d4_1 : decode (xbc 4) 1 = .ok (.bipush 7, 2) := by decide +kernel
theorem d4_3 : decode (xbc 4) 3 = .ok (.if_icmp .gt 11, 3) := by decide +kernel
theorem d4_6 : decode (xbc 4) 6 = .ok (.aload_n 0, 1) := by decide +kernel
theorem d4_7 : decode (xbc 4) 7 = .ok (.iload_n 1, 1) := by decide +kernel
theorem d4_8 : decode (xbc 4) 8 = .ok (.invokevirtual 145, 3) := by decide +kernel
theorem d4_11 : decode (xbc 4) 11 = .ok (.goto 13, 3) := by decide +kernel
theorem d4_14 : decode (xbc 4) 14 = .ok (.aload_n 0, 1) := by decide +kernel
theorem d4_15 : decode (xbc 4) 15 = .ok (.iload_n 1, 1) := by decide +kernel
theorem d4_16 : decode (xbc 4) 16 = .ok (.bipush 7, 2) := by decide +kernel
theorem d4_18 : decode (xbc 4) 18 = .ok (.isub, 1) := by decide +kernel
theorem d4_19 : decode (xbc 4) 19 = .ok (.iconst 1, 1) := by decide +kernel
theorem d4_20 : decode (xbc 4) 20 = .ok (.isub, 1) := by decide +kernel
theorem d4_21 : decode (xbc 4) 21 = .ok (.invokevirtual 148, 3) := by decide +kernel
theorem d4_24 : decode (xbc 4) 24 = .ok (.ireturn, 1) := by decide +kernel
theorem d5_0 : decode (xbc 5) 0 = .ok (.iload_n 1, 1) := by decide +kernel
theorem d5_1 : decode (xbc 5) 1 = .ok (.invokestatic 66, 3) := by decide +kernel
theorem d5_4 : decode (xbc 5) 4 = .ok (.ifCond .eq 12, 3) := by decide +kernel
theorem d5_7 : decode (xbc 5) 7 = .ok (.aload_n 0, 1) := by decide +kernel
theorem d5_8 : decode (xbc 5) 8 = .ok (.getfield 28, 3) := by decide +kernel
theorem d5_11 : decode (xbc 5) 11 = .ok (.iload_n 1, 1) := by decide +kernel
theorem d5_12 : decode (xbc 5) 12 = .ok (.iaload, 1) := by decide +kernel
theorem d5_13 : decode (xbc 5) 13 = .ok (.goto 5, 3) := by decide +kernel
theorem d5_16 : decode (xbc 5) 16 = .ok (.bipush (-6), 2) := by decide +kernel
theorem d5_18 : decode (xbc 5) 18 = .ok (.ireturn, 1) := by decide +kernel
theorem d6_0 : decode (xbc 6) 0 = .ok (.iconst 0, 1) := by decide +kernel
theorem d6_1 : decode (xbc 6) 1 = .ok (.istore_n 2, 1) := by decide +kernel
theorem d6_2 : decode (xbc 6) 2 = .ok (.iload_n 2, 1) := by decide +kernel
theorem d6_3 : decode (xbc 6) 3 = .ok (.bipush 8, 2) := by decide +kernel
theorem d6_5 : decode (xbc 6) 5 = .ok (.if_icmp .ge 35, 3) := by decide +kernel
theorem d6_8 : decode (xbc 6) 8 = .ok (.aload_n 0, 1) := by decide +kernel
theorem d6_9 : decode (xbc 6) 9 = .ok (.getfield 15, 3) := by decide +kernel
theorem d6_12 : decode (xbc 6) 12 = .ok (.iload_n 2, 1) := by decide +kernel
theorem d6_13 : decode (xbc 6) 13 = .ok (.iaload, 1) := by decide +kernel
theorem d6_14 : decode (xbc 6) 14 = .ok (.iload_n 1, 1) := by decide +kernel
theorem d6_15 : decode (xbc 6) 15 = .ok (.if_icmp .ne 19, 3) := by decide +kernel
theorem d6_18 : decode (xbc 6) 18 = .ok (.aload_n 0, 1) := by decide +kernel
theorem d6_19 : decode (xbc 6) 19 = .ok (.getfield 24, 3) := by decide +kernel
theorem d6_22 : decode (xbc 6) 22 = .ok (.iload_n 2, 1) := by decide +kernel
theorem d6_23 : decode (xbc 6) 23 = .ok (.baload, 1) := by decide +kernel
theorem d6_24 : decode (xbc 6) 24 = .ok (.ifCond .eq 7, 3) := by decide +kernel
theorem d6_27 : decode (xbc 6) 27 = .ok (.iload_n 2, 1) := by decide +kernel
theorem d6_28 : decode (xbc 6) 28 = .ok (.goto 5, 3) := by decide +kernel
theorem d6_31 : decode (xbc 6) 31 = .ok (.bipush (-6), 2) := by decide +kernel
theorem d6_33 : decode (xbc 6) 33 = .ok (.ireturn, 1) := by decide +kernel
theorem d6_34 : decode (xbc 6) 34 = .ok (.iinc 2 1, 3) := by decide +kernel
theorem d6_37 : decode (xbc 6) 37 = .ok (.goto (-35), 3) := by decide +kernel
theorem d6_40 : decode (xbc 6) 40 = .ok (.bipush (-6), 2) := by decide +kernel
theorem d6_42 : decode (xbc 6) 42 = .ok (.ireturn, 1) := by decide +kernel
theorem d7_0 : decode (xbc 7) 0 = .ok (.iload_n 1, 1) := by decide +kernel
theorem d7_1 : decode (xbc 7) 1 = .ok (.invokestatic 62, 3) := by decide +kernel
theorem d7_4 : decode (xbc 7) 4 = .ok (.ifCond .ne 17, 3) := by decide +kernel
theorem d7_7 : decode (xbc 7) 7 = .ok (.iload_n 2, 1) := by decide +kernel
theorem d7_8 : decode (xbc 7) 8 = .ok (.invokestatic 62, 3) := by decide +kernel
theorem d7_11 : decode (xbc 7) 11 = .ok (.ifCond .eq 7, 3) := by decide +kernel
theorem d7_14 : decode (xbc 7) 14 = .ok (.iload_n 2, 1) := by decide +kernel
theorem d7_15 : decode (xbc 7) 15 = .ok (.goto 5, 3) := by decide +kernel
theorem d7_18 : decode (xbc 7) 18 = .ok (.bipush (-6), 2) := by decide +kernel
theorem d7_20 : decode (xbc 7) 20 = .ok (.ireturn, 1) := by decide +kernel
theorem d7_21 : decode (xbc 7) 21 = .ok (.iload_n 2, 1) := by decide +kernel
theorem d7_22 : decode (xbc 7) 22 = .ok (.invokestatic 62, 3) := by decide +kernel
theorem d7_25 : decode (xbc 7) 25 = .ok (.ifCond .ne 5, 3) := by decide +kernel
theorem d7_28 : decode (xbc 7) 28 = .ok (.iload_n 1, 1) := by decide +kernel
theorem d7_29 : decode (xbc 7) 29 = .ok (.ireturn, 1) := by decide +kernel
theorem d7_30 : decode (xbc 7) 30 = .ok (.aload_n 0, 1) := by decide +kernel
theorem d7_31 : decode (xbc 7) 31 = .ok (.getfield 18, 3) := by decide +kernel
theorem d7_34 : decode (xbc 7) 34 = .ok (.iload_n 1, 1) := by decide +kernel
theorem d7_35 : decode (xbc 7) 35 = .ok (.iaload, 1) := by decide +kernel
theorem d7_36 : decode (xbc 7) 36 = .ok (.aload_n 0, 1) := by decide +kernel
theorem d7_37 : decode (xbc 7) 37 = .ok (.getfield 18, 3) := by decide +kernel
theorem d7_40 : decode (xbc 7) 40 = .ok (.iload_n 2, 1) := by decide +kernel
theorem d7_41 : decode (xbc 7) 41 = .ok (.iaload, 1) := by decide +kernel
theorem d7_42 : decode (xbc 7) 42 = .ok (.isub, 1) := by decide +kernel
theorem d7_43 : decode (xbc 7) 43 = .ok (.iload 4, 2) := by decide +kernel
theorem d7_45 : decode (xbc 7) 45 = .ok (.imul, 1) := by decide +kernel
theorem d7_46 : decode (xbc 7) 46 = .ok (.aload_n 0, 1) := by decide +kernel
theorem d7_47 : decode (xbc 7) 47 = .ok (.getfield 21, 3) := by decide +kernel
theorem d7_50 : decode (xbc 7) 50 = .ok (.iload_n 1, 1) := by decide +kernel
theorem d7_51 : decode (xbc 7) 51 = .ok (.iaload, 1) := by decide +kernel
theorem d7_52 : decode (xbc 7) 52 = .ok (.aload_n 0, 1) := by decide +kernel
theorem d7_53 : decode (xbc 7) 53 = .ok (.getfield 21, 3) := by decide +kernel
theorem d7_56 : decode (xbc 7) 56 = .ok (.iload_n 2, 1) := by decide +kernel
theorem d7_57 : decode (xbc 7) 57 = .ok (.iaload, 1) := by decide +kernel
theorem d7_58 : decode (xbc 7) 58 = .ok (.isub, 1) := by decide +kernel
theorem d7_59 : decode (xbc 7) 59 = .ok (.iload_n 3, 1) := by decide +kernel
theorem d7_60 : decode (xbc 7) 60 = .ok (.imul, 1) := by decide +kernel
theorem d7_61 : decode (xbc 7) 61 = .ok (.iadd, 1) := by decide +kernel
theorem d7_62 : decode (xbc 7) 62 = .ok (.istore 5, 2) := by decide +kernel
theorem d7_64 : decode (xbc 7) 64 = .ok (.iload 5, 2) := by decide +kernel
theorem d7_66 : decode (xbc 7) 66 = .ok (.ifCond .ne 18, 3) := by decide +kernel
theorem d7_69 : decode (xbc 7) 69 = .ok (.aload_n 0, 1) := by decide +kernel
theorem d7_70 : decode (xbc 7) 70 = .ok (.getfield 21, 3) := by decide +kernel
theorem d7_73 : decode (xbc 7) 73 = .ok (.iload_n 1, 1) := by decide +kernel
theorem d7_74 : decode (xbc 7) 74 = .ok (.iaload, 1) := by decide +kernel
theorem d7_75 : decode (xbc 7) 75 = .ok (.aload_n 0, 1) := by decide +kernel
theorem d7_76 : decode (xbc 7) 76 = .ok (.getfield 21, 3) := by decide +kernel
theorem d7_79 : decode (xbc 7) 79 = .ok (.iload_n 2, 1) := by decide +kernel
theorem d7_80 : decode (xbc 7) 80 = .ok (.iaload, 1) := by decide +kernel
theorem d7_81 : decode (xbc 7) 81 = .ok (.isub, 1) := by decide +kernel
theorem d7_82 : decode (xbc 7) 82 = .ok (.istore 5, 2) := by decide +kernel
theorem d7_84 : decode (xbc 7) 84 = .ok (.iload 5, 2) := by decide +kernel
theorem d7_86 : decode (xbc 7) 86 = .ok (.ifCond .ne 8, 3) := by decide +kernel
theorem d7_89 : decode (xbc 7) 89 = .ok (.iload_n 2, 1) := by decide +kernel
theorem d7_90 : decode (xbc 7) 90 = .ok (.iload_n 1, 1) := by decide +kernel
theorem d7_91 : decode (xbc 7) 91 = .ok (.isub, 1) := by decide +kernel
theorem d7_92 : decode (xbc 7) 92 = .ok (.istore 5, 2) := by decide +kernel
theorem d7_94 : decode (xbc 7) 94 = .ok (.iload 5, 2) := by decide +kernel
theorem d7_96 : decode (xbc 7) 96 = .ok (.ifCond .le 7, 3) := by decide +kernel
theorem d7_99 : decode (xbc 7) 99 = .ok (.iload_n 1, 1) := by decide +kernel
theorem d7_100 : decode (xbc 7) 100 = .ok (.goto 4, 3) := by decide +kernel
theorem d7_103 : decode (xbc 7) 103 = .ok (.iload_n 2, 1) := by decide +kernel
theorem d7_104 : decode (xbc 7) 104 = .ok (.ireturn, 1) := by decide +kernel
theorem d8_0 : decode (xbc 8) 0 = .ok (.aload_n 0, 1) := by decide +kernel
theorem d8_1 : decode (xbc 8) 1 = .ok (.getfield 34, 3) := by decide +kernel
theorem d8_4 : decode (xbc 8) 4 = .ok (.iload_n 1, 1) := by decide +kernel
theorem d8_5 : decode (xbc 8) 5 = .ok (.invokevirtual 151, 3) := by decide +kernel
theorem d8_8 : decode (xbc 8) 8 = .ok (.iload_n 2, 1) := by decide +kernel
theorem d8_9 : decode (xbc 8) 9 = .ok (.invokestatic 62, 3) := by decide +kernel
theorem d8_12 : decode (xbc 8) 12 = .ok (.ifCond .eq 59, 3) := by decide +kernel
theorem d8_15 : decode (xbc 8) 15 = .ok (.iload_n 3, 1) := by decide +kernel
theorem d8_16 : decode (xbc 8) 16 = .ok (.invokestatic 62, 3) := by decide +kernel
theorem d8_19 : decode (xbc 8) 19 = .ok (.ifCond .eq 52, 3) := by decide +kernel
theorem d8_22 : decode (xbc 8) 22 = .ok (.aload_n 0, 1) := by decide +kernel
theorem d8_23 : decode (xbc 8) 23 = .ok (.getfield 21, 3) := by decide +kernel
theorem d8_26 : decode (xbc 8) 26 = .ok (.iload_n 3, 1) := by decide +kernel
theorem d8_27 : decode (xbc 8) 27 = .ok (.iaload, 1) := by decide +kernel
theorem d8_28 : decode (xbc 8) 28 = .ok (.aload_n 0, 1) := by decide +kernel
theorem d8_29 : decode (xbc 8) 29 = .ok (.getfield 21, 3) := by decide +kernel
theorem d8_32 : decode (xbc 8) 32 = .ok (.iload_n 2, 1) := by decide +kernel
theorem d8_33 : decode (xbc 8) 33 = .ok (.iaload, 1) := by decide +kernel
theorem d8_34 : decode (xbc 8) 34 = .ok (.if_icmp .le 37, 3) := by decide +kernel
theorem d8_37 : decode (xbc 8) 37 = .ok (.aload_n 0, 1) := by decide +kernel
theorem d8_38 : decode (xbc 8) 38 = .ok (.getfield 34, 3) := by decide +kernel
theorem d8_41 : decode (xbc 8) 41 = .ok (.iload_n 1, 1) := by decide +kernel
theorem d8_42 : decode (xbc 8) 42 = .ok (.aload_n 0, 1) := by decide +kernel
theorem d8_43 : decode (xbc 8) 43 = .ok (.getfield 18, 3) := by decide +kernel
theorem d8_46 : decode (xbc 8) 46 = .ok (.iload_n 2, 1) := by decide +kernel
theorem d8_47 : decode (xbc 8) 47 = .ok (.iaload, 1) := by decide +kernel
theorem d8_48 : decode (xbc 8) 48 = .ok (.aload_n 0, 1) := by decide +kernel
theorem d8_49 : decode (xbc 8) 49 = .ok (.getfield 18, 3) := by decide +kernel
theorem d8_52 : decode (xbc 8) 52 = .ok (.iload_n 3, 1) := by decide +kernel
theorem d8_53 : decode (xbc 8) 53 = .ok (.iaload, 1) := by decide +kernel
theorem d8_54 : decode (xbc 8) 54 = .ok (.isub, 1) := by decide +kernel
theorem d8_55 : decode (xbc 8) 55 = .ok (.aload_n 0, 1) := by decide +kernel
theorem d8_56 : decode (xbc 8) 56 = .ok (.getfield 21, 3) := by decide +kernel
theorem d8_59 : decode (xbc 8) 59 = .ok (.iload_n 3, 1) := by decide +kernel
theorem d8_60 : decode (xbc 8) 60 = .ok (.iaload, 1) := by decide +kernel
theorem d8_61 : decode (xbc 8) 61 = .ok (.aload_n 0, 1) := by decide +kernel
theorem d8_62 : decode (xbc 8) 62 = .ok (.getfield 21, 3) := by decide +kernel
theorem d8_65 : decode (xbc 8) 65 = .ok (.iload_n 2, 1) := by decide +kernel
theorem d8_66 : decode (xbc 8) 66 = .ok (.iaload, 1) := by decide +kernel
theorem d8_67 : decode (xbc 8) 67 = .ok (.isub, 1) := by decide +kernel
theorem d8_68 : decode (xbc 8) 68 = .ok (.invokevirtual 154, 3) := by decide +kernel
theorem d8_71 : decode (xbc 8) 71 = .ok (.return_, 1) := by decide +kernel
theorem d9_0 : decode (xbc 9) 0 = .ok (.iload_n 1, 1) := by decide +kernel
theorem d9_1 : decode (xbc 9) 1 = .ok (.invokestatic 62, 3) := by decide +kernel
theorem d9_4 : decode (xbc 9) 4 = .ok (.ifCond .eq 12, 3) := by decide +kernel
theorem d9_7 : decode (xbc 9) 7 = .ok (.aload_n 0, 1) := by decide +kernel
theorem d9_8 : decode (xbc 9) 8 = .ok (.getfield 15, 3) := by decide +kernel
theorem d9_11 : decode (xbc 9) 11 = .ok (.iload_n 1, 1) := by decide +kernel
theorem d9_12 : decode (xbc 9) 12 = .ok (.iaload, 1) := by decide +kernel
theorem d9_13 : decode (xbc 9) 13 = .ok (.goto 5, 3) := by decide +kernel
theorem d9_16 : decode (xbc 9) 16 = .ok (.bipush (-6), 2) := by decide +kernel
theorem d9_18 : decode (xbc 9) 18 = .ok (.ireturn, 1) := by decide +kernel
theorem d10_0 : decode (xbc 10) 0 = .ok (.iload_n 0, 1) := by decide +kernel
theorem d10_1 : decode (xbc 10) 1 = .ok (.iconst 4, 1) := by decide +kernel
theorem d10_2 : decode (xbc 10) 2 = .ok (.if_icmp .ge 7, 3) := by decide +kernel
theorem d10_5 : decode (xbc 10) 5 = .ok (.iload_n 1, 1) := by decide +kernel
theorem d10_6 : decode (xbc 10) 6 = .ok (.ifCond .ne 7, 3) := by decide +kernel
theorem d10_9 : decode (xbc 10) 9 = .ok (.iconst 1, 1) := by decide +kernel
theorem d10_10 : decode (xbc 10) 10 = .ok (.goto 4, 3) := by decide +kernel
theorem d10_13 : decode (xbc 10) 13 = .ok (.iconst 0, 1) := by decide +kernel
theorem d10_14 : decode (xbc 10) 14 = .ok (.ireturn, 1) := by decide +kernel
theorem d11_0 : decode (xbc 11) 0 = .ok (.iload_n 1, 1) := by decide +kernel
theorem d11_1 : decode (xbc 11) 1 = .ok (.invokestatic 62, 3) := by decide +kernel
theorem d11_4 : decode (xbc 11) 4 = .ok (.ifCond .eq 12, 3) := by decide +kernel
theorem d11_7 : decode (xbc 11) 7 = .ok (.aload_n 0, 1) := by decide +kernel
theorem d11_8 : decode (xbc 11) 8 = .ok (.getfield 9, 3) := by decide +kernel
theorem d11_11 : decode (xbc 11) 11 = .ok (.iload_n 1, 1) := by decide +kernel
theorem d11_12 : decode (xbc 11) 12 = .ok (.iaload, 1) := by decide +kernel
theorem d11_13 : decode (xbc 11) 13 = .ok (.goto 5, 3) := by decide +kernel
theorem d11_16 : decode (xbc 11) 16 = .ok (.bipush (-6), 2) := by decide +kernel
theorem d11_18 : decode (xbc 11) 18 = .ok (.ireturn, 1) := by decide +kernel
theorem d12_0 : decode (xbc 12) 0 = .ok (.iload_n 1, 1) := by decide +kernel
theorem d12_1 : decode (xbc 12) 1 = .ok (.invokestatic 62, 3) := by decide +kernel
theorem d12_4 : decode (xbc 12) 4 = .ok (.ifCond .eq 16, 3) := by decide +kernel
theorem d12_7 : decode (xbc 12) 7 = .ok (.aload_n 0, 1) := by decide +kernel
theorem d12_8 : decode (xbc 12) 8 = .ok (.getfield 24, 3) := by decide +kernel
theorem d12_11 : decode (xbc 12) 11 = .ok (.iload_n 1, 1) := by decide +kernel
theorem d12_12 : decode (xbc 12) 12 = .ok (.baload, 1) := by decide +kernel
theorem d12_13 : decode (xbc 12) 13 = .ok (.ifCond .eq 7, 3) := by decide +kernel
theorem d12_16 : decode (xbc 12) 16 = .ok (.iconst 1, 1) := by decide +kernel
theorem d12_17 : decode (xbc 12) 17 = .ok (.goto 4, 3) := by decide +kernel
theorem d12_20 : decode (xbc 12) 20 = .ok (.iconst 0, 1) := by decide +kernel
theorem d12_21 : decode (xbc 12) 21 = .ok (.ireturn, 1) := by decide +kernel
theorem d13_0 : decode (xbc 13) 0 = .ok (.iload_n 1, 1) := by decide +kernel
theorem d13_1 : decode (xbc 13) 1 = .ok (.invokestatic 62, 3) := by decide +kernel
theorem d13_4 : decode (xbc 13) 4 = .ok (.ifCond .ne 4, 3) := by decide +kernel
theorem d13_7 : decode (xbc 13) 7 = .ok (.return_, 1) := by decide +kernel
theorem d13_8 : decode (xbc 13) 8 = .ok (.aload_n 0, 1) := by decide +kernel
theorem d13_9 : decode (xbc 13) 9 = .ok (.getfield 9, 3) := by decide +kernel
theorem d13_12 : decode (xbc 13) 12 = .ok (.iload_n 1, 1) := by decide +kernel
theorem d13_13 : decode (xbc 13) 13 = .ok (.iload_n 2, 1) := by decide +kernel
theorem d13_14 : decode (xbc 13) 14 = .ok (.iastore, 1) := by decide +kernel
theorem d13_15 : decode (xbc 13) 15 = .ok (.aload_n 0, 1) := by decide +kernel
theorem d13_16 : decode (xbc 13) 16 = .ok (.getfield 18, 3) := by decide +kernel
theorem d13_19 : decode (xbc 13) 19 = .ok (.iload_n 1, 1) := by decide +kernel
theorem d13_20 : decode (xbc 13) 20 = .ok (.iload_n 3, 1) := by decide +kernel
theorem d13_21 : decode (xbc 13) 21 = .ok (.iastore, 1) := by decide +kernel
theorem d13_22 : decode (xbc 13) 22 = .ok (.aload_n 0, 1) := by decide +kernel
theorem d13_23 : decode (xbc 13) 23 = .ok (.getfield 21, 3) := by decide +kernel
theorem d13_26 : decode (xbc 13) 26 = .ok (.iload_n 1, 1) := by decide +kernel
theorem d13_27 : decode (xbc 13) 27 = .ok (.iload 4, 2) := by decide +kernel
theorem d13_29 : decode (xbc 13) 29 = .ok (.iastore, 1) := by decide +kernel
theorem d13_30 : decode (xbc 13) 30 = .ok (.aload_n 0, 1) := by decide +kernel
theorem d13_31 : decode (xbc 13) 31 = .ok (.getfield 24, 3) := by decide +kernel
theorem d13_34 : decode (xbc 13) 34 = .ok (.iload_n 1, 1) := by decide +kernel
theorem d13_35 : decode (xbc 13) 35 = .ok (.iconst 1, 1) := by decide +kernel
theorem d13_36 : decode (xbc 13) 36 = .ok (.bastore, 1) := by decide +kernel
theorem d13_37 : decode (xbc 13) 37 = .ok (.aload_n 0, 1) := by decide +kernel
theorem d13_38 : decode (xbc 13) 38 = .ok (.invokevirtual 49, 3) := by decide +kernel
theorem d13_41 : decode (xbc 13) 41 = .ok (.return_, 1) := by decide +kernel
theorem d14_0 : decode (xbc 14) 0 = .ok (.aload_n 1, 1) := by decide +kernel
theorem d14_1 : decode (xbc 14) 1 = .ok (.getfield 9, 3) := by decide +kernel
theorem d14_4 : decode (xbc 14) 4 = .ok (.iconst 0, 1) := by decide +kernel
theorem d14_5 : decode (xbc 14) 5 = .ok (.aload_n 0, 1) := by decide +kernel
theorem d14_6 : decode (xbc 14) 6 = .ok (.getfield 9, 3) := by decide +kernel
theorem d14_9 : decode (xbc 14) 9 = .ok (.iconst 0, 1) := by decide +kernel
theorem d14_10 : decode (xbc 14) 10 = .ok (.bipush 8, 2) := by decide +kernel
theorem d14_12 : decode (xbc 14) 12 = .ok (.invokestatic 52, 3) := by decide +kernel
theorem d14_15 : decode (xbc 14) 15 = .ok (.aload_n 1, 1) := by decide +kernel
theorem d14_16 : decode (xbc 14) 16 = .ok (.getfield 15, 3) := by decide +kernel
theorem d14_19 : decode (xbc 14) 19 = .ok (.iconst 0, 1) := by decide +kernel
theorem d14_20 : decode (xbc 14) 20 = .ok (.aload_n 0, 1) := by decide +kernel
theorem d14_21 : decode (xbc 14) 21 = .ok (.getfield 15, 3) := by decide +kernel
theorem d14_24 : decode (xbc 14) 24 = .ok (.iconst 0, 1) := by decide +kernel
theorem d14_25 : decode (xbc 14) 25 = .ok (.bipush 8, 2) := by decide +kernel
theorem d14_27 : decode (xbc 14) 27 = .ok (.invokestatic 52, 3) := by decide +kernel
theorem d14_30 : decode (xbc 14) 30 = .ok (.aload_n 1, 1) := by decide +kernel
theorem d14_31 : decode (xbc 14) 31 = .ok (.getfield 18, 3) := by decide +kernel
theorem d14_34 : decode (xbc 14) 34 = .ok (.iconst 0, 1) := by decide +kernel
theorem d14_35 : decode (xbc 14) 35 = .ok (.aload_n 0, 1) := by decide +kernel
theorem d14_36 : decode (xbc 14) 36 = .ok (.getfield 18, 3) := by decide +kernel
theorem d14_39 : decode (xbc 14) 39 = .ok (.iconst 0, 1) := by decide +kernel
theorem d14_40 : decode (xbc 14) 40 = .ok (.bipush 8, 2) := by decide +kernel
theorem d14_42 : decode (xbc 14) 42 = .ok (.invokestatic 52, 3) := by decide +kernel
theorem d14_45 : decode (xbc 14) 45 = .ok (.aload_n 1, 1) := by decide +kernel
theorem d14_46 : decode (xbc 14) 46 = .ok (.getfield 21, 3) := by decide +kernel
theorem d14_49 : decode (xbc 14) 49 = .ok (.iconst 0, 1) := by decide +kernel
theorem d14_50 : decode (xbc 14) 50 = .ok (.aload_n 0, 1) := by decide +kernel
theorem d14_51 : decode (xbc 14) 51 = .ok (.getfield 21, 3) := by decide +kernel
theorem d14_54 : decode (xbc 14) 54 = .ok (.iconst 0, 1) := by decide +kernel
theorem d14_55 : decode (xbc 14) 55 = .ok (.bipush 8, 2) := by decide +kernel
theorem d14_57 : decode (xbc 14) 57 = .ok (.invokestatic 52, 3) := by decide +kernel
theorem d14_60 : decode (xbc 14) 60 = .ok (.aload_n 1, 1) := by decide +kernel
theorem d14_61 : decode (xbc 14) 61 = .ok (.getfield 28, 3) := by decide +kernel
theorem d14_64 : decode (xbc 14) 64 = .ok (.iconst 0, 1) := by decide +kernel
theorem d14_65 : decode (xbc 14) 65 = .ok (.aload_n 0, 1) := by decide +kernel
theorem d14_66 : decode (xbc 14) 66 = .ok (.getfield 28, 3) := by decide +kernel
theorem d14_69 : decode (xbc 14) 69 = .ok (.iconst 0, 1) := by decide +kernel
theorem d14_70 : decode (xbc 14) 70 = .ok (.bipush 8, 2) := by decide +kernel
theorem d14_72 : decode (xbc 14) 72 = .ok (.invokestatic 52, 3) := by decide +kernel
theorem d14_75 : decode (xbc 14) 75 = .ok (.iconst 0, 1) := by decide +kernel
theorem d14_76 : decode (xbc 14) 76 = .ok (.istore_n 2, 1) := by decide +kernel
theorem d14_77 : decode (xbc 14) 77 = .ok (.iload_n 2, 1) := by decide +kernel
theorem d14_78 : decode (xbc 14) 78 = .ok (.bipush 8, 2) := by decide +kernel
theorem d14_80 : decode (xbc 14) 80 = .ok (.if_icmp .ge 21, 3) := by decide +kernel
theorem d14_83 : decode (xbc 14) 83 = .ok (.aload_n 0, 1) := by decide +kernel
theorem d14_84 : decode (xbc 14) 84 = .ok (.getfield 24, 3) := by decide +kernel
theorem d14_87 : decode (xbc 14) 87 = .ok (.iload_n 2, 1) := by decide +kernel
theorem d14_88 : decode (xbc 14) 88 = .ok (.aload_n 1, 1) := by decide +kernel
theorem d14_89 : decode (xbc 14) 89 = .ok (.getfield 24, 3) := by decide +kernel
theorem d14_92 : decode (xbc 14) 92 = .ok (.iload_n 2, 1) := by decide +kernel
theorem d14_93 : decode (xbc 14) 93 = .ok (.baload, 1) := by decide +kernel
theorem d14_94 : decode (xbc 14) 94 = .ok (.bastore, 1) := by decide +kernel
theorem d14_95 : decode (xbc 14) 95 = .ok (.iinc 2 1, 3) := by decide +kernel
theorem d14_98 : decode (xbc 14) 98 = .ok (.goto (-21), 3) := by decide +kernel
theorem d14_101 : decode (xbc 14) 101 = .ok (.aload_n 0, 1) := by decide +kernel
theorem d14_102 : decode (xbc 14) 102 = .ok (.getfield 34, 3) := by decide +kernel
theorem d14_105 : decode (xbc 14) 105 = .ok (.aload_n 1, 1) := by decide +kernel
theorem d14_106 : decode (xbc 14) 106 = .ok (.getfield 34, 3) := by decide +kernel
theorem d14_109 : decode (xbc 14) 109 = .ok (.invokevirtual 58, 3) := by decide +kernel
theorem d14_112 : decode (xbc 14) 112 = .ok (.aload_n 0, 1) := by decide +kernel
theorem d14_113 : decode (xbc 14) 113 = .ok (.aload_n 1, 1) := by decide +kernel
theorem d14_114 : decode (xbc 14) 114 = .ok (.getfield 45, 3) := by decide +kernel
theorem d14_117 : decode (xbc 14) 117 = .ok (.putfield 45, 3) := by decide +kernel
theorem d14_120 : decode (xbc 14) 120 = .ok (.return_, 1) := by decide +kernel
theorem d15_0 : decode (xbc 15) 0 = .ok (.aload_n 0, 1) := by decide +kernel
theorem d15_1 : decode (xbc 15) 1 = .ok (.getfield 41, 3) := by decide +kernel
theorem d15_4 : decode (xbc 15) 4 = .ok (.areturn, 1) := by decide +kernel
theorem d16_0 : decode (xbc 16) 0 = .ok (.iload_n 1, 1) := by decide +kernel
theorem d16_1 : decode (xbc 16) 1 = .ok (.bipush 46, 2) := by decide +kernel
theorem d16_3 : decode (xbc 16) 3 = .ok (.if_icmp .ne 19, 3) := by decide +kernel
theorem d16_6 : decode (xbc 16) 6 = .ok (.aload_n 0, 1) := by decide +kernel
theorem d16_7 : decode (xbc 16) 7 = .ok (.getfield 45, 3) := by decide +kernel
theorem d16_10 : decode (xbc 16) 10 = .ok (.bipush 99, 2) := by decide +kernel
theorem d16_12 : decode (xbc 16) 12 = .ok (.if_icmp .lt 8, 3) := by decide +kernel
theorem d16_15 : decode (xbc 16) 15 = .ok (.bipush 7, 2) := by decide +kernel
theorem d16_17 : decode (xbc 16) 17 = .ok (.goto 4, 3) := by decide +kernel
theorem d16_20 : decode (xbc 16) 20 = .ok (.iconst 0, 1) := by decide +kernel
theorem d16_21 : decode (xbc 16) 21 = .ok (.ireturn, 1) := by decide +kernel
theorem d16_22 : decode (xbc 16) 22 = .ok (.iload_n 2, 1) := by decide +kernel
theorem d16_23 : decode (xbc 16) 23 = .ok (.invokestatic 62, 3) := by decide +kernel
theorem d16_26 : decode (xbc 16) 26 = .ok (.ifCond .ne 5, 3) := by decide +kernel
theorem d16_29 : decode (xbc 16) 29 = .ok (.iconst 1, 1) := by decide +kernel
theorem d16_30 : decode (xbc 16) 30 = .ok (.ireturn, 1) := by decide +kernel
theorem d16_31 : decode (xbc 16) 31 = .ok (.iload_n 1, 1) := by decide +kernel
theorem d16_32 : decode (xbc 16) 32 = .ok (.bipush 35, 2) := by decide +kernel
theorem d16_34 : decode (xbc 16) 34 = .ok (.if_icmp .ne 18, 3) := by decide +kernel
theorem d16_37 : decode (xbc 16) 37 = .ok (.aload_n 0, 1) := by decide +kernel
theorem d16_38 : decode (xbc 16) 38 = .ok (.getfield 24, 3) := by decide +kernel
theorem d16_41 : decode (xbc 16) 41 = .ok (.iload_n 2, 1) := by decide +kernel
theorem d16_42 : decode (xbc 16) 42 = .ok (.baload, 1) := by decide +kernel
theorem d16_43 : decode (xbc 16) 43 = .ok (.ifCond .eq 7, 3) := by decide +kernel
theorem d16_46 : decode (xbc 16) 46 = .ok (.iconst 4, 1) := by decide +kernel
theorem d16_47 : decode (xbc 16) 47 = .ok (.goto 4, 3) := by decide +kernel
theorem d16_50 : decode (xbc 16) 50 = .ok (.iconst 0, 1) := by decide +kernel
theorem d16_51 : decode (xbc 16) 51 = .ok (.ireturn, 1) := by decide +kernel
theorem d16_52 : decode (xbc 16) 52 = .ok (.iload_n 1, 1) := by decide +kernel
theorem d16_53 : decode (xbc 16) 53 = .ok (.bipush 37, 2) := by decide +kernel
theorem d16_55 : decode (xbc 16) 55 = .ok (.if_icmp .ne 10, 3) := by decide +kernel
theorem d16_58 : decode (xbc 16) 58 = .ok (.aload_n 0, 1) := by decide +kernel
theorem d16_59 : decode (xbc 16) 59 = .ok (.iload_n 2, 1) := by decide +kernel
theorem d16_60 : decode (xbc 16) 60 = .ok (.iload_n 3, 1) := by decide +kernel
theorem d16_61 : decode (xbc 16) 61 = .ok (.invokevirtual 69, 3) := by decide +kernel
theorem d16_64 : decode (xbc 16) 64 = .ok (.ireturn, 1) := by decide +kernel
theorem d16_65 : decode (xbc 16) 65 = .ok (.aload_n 0, 1) := by decide +kernel
theorem d16_66 : decode (xbc 16) 66 = .ok (.getfield 24, 3) := by decide +kernel
theorem d16_69 : decode (xbc 16) 69 = .ok (.iload_n 2, 1) := by decide +kernel
theorem d16_70 : decode (xbc 16) 70 = .ok (.baload, 1) := by decide +kernel
theorem d16_71 : decode (xbc 16) 71 = .ok (.ifCond .ne 5, 3) := by decide +kernel
theorem d16_74 : decode (xbc 16) 74 = .ok (.iconst 1, 1) := by decide +kernel
theorem d16_75 : decode (xbc 16) 75 = .ok (.ireturn, 1) := by decide +kernel
theorem d16_76 : decode (xbc 16) 76 = .ok (.iload_n 1, 1) := by decide +kernel
theorem d16_77 : decode (xbc 16) 77 = .ok (.bipush 33, 2) := by decide +kernel
theorem d16_79 : decode (xbc 16) 79 = .ok (.if_icmp .ne 7, 3) := by decide +kernel
theorem d16_82 : decode (xbc 16) 82 = .ok (.iconst 0, 1) := by decide +kernel
theorem d16_83 : decode (xbc 16) 83 = .ok (.goto 9, 3) := by decide +kernel
theorem d16_86 : decode (xbc 16) 86 = .ok (.aload_n 0, 1) := by decide +kernel
theorem d16_87 : decode (xbc 16) 87 = .ok (.iload_n 1, 1) := by decide +kernel
theorem d16_88 : decode (xbc 16) 88 = .ok (.iload_n 2, 1) := by decide +kernel
theorem d16_89 : decode (xbc 16) 89 = .ok (.invokevirtual 73, 3) := by decide +kernel
theorem d16_92 : decode (xbc 16) 92 = .ok (.ireturn, 1) := by decide +kernel
theorem d17_0 : decode (xbc 17) 0 = .ok (.iload_n 1, 1) := by decide +kernel
theorem d17_1 : decode (xbc 17) 1 = .ok (.iload_n 2, 1) := by decide +kernel
theorem d17_2 : decode (xbc 17) 2 = .ok (.if_icmp .ne 5, 3) := by decide +kernel
theorem d17_5 : decode (xbc 17) 5 = .ok (.iconst 5, 1) := by decide +kernel
theorem d17_6 : decode (xbc 17) 6 = .ok (.ireturn, 1) := by decide +kernel
theorem d17_7 : decode (xbc 17) 7 = .ok (.aload_n 0, 1) := by decide +kernel
theorem d17_8 : decode (xbc 17) 8 = .ok (.iload_n 1, 1) := by decide +kernel
theorem d17_9 : decode (xbc 17) 9 = .ok (.invokevirtual 76, 3) := by decide +kernel
theorem d17_12 : decode (xbc 17) 12 = .ok (.aload_n 0, 1) := by decide +kernel
theorem d17_13 : decode (xbc 17) 13 = .ok (.iload_n 2, 1) := by decide +kernel
theorem d17_14 : decode (xbc 17) 14 = .ok (.invokevirtual 80, 3) := by decide +kernel
theorem d17_17 : decode (xbc 17) 17 = .ok (.invokestatic 83, 3) := by decide +kernel
theorem d17_20 : decode (xbc 17) 20 = .ok (.ifCond .eq 23, 3) := by decide +kernel
theorem d17_23 : decode (xbc 17) 23 = .ok (.aload_n 0, 1) := by decide +kernel
theorem d17_24 : decode (xbc 17) 24 = .ok (.iload_n 2, 1) := by decide +kernel
theorem d17_25 : decode (xbc 17) 25 = .ok (.invokevirtual 76, 3) := by decide +kernel
theorem d17_28 : decode (xbc 17) 28 = .ok (.aload_n 0, 1) := by decide +kernel
theorem d17_29 : decode (xbc 17) 29 = .ok (.iload_n 1, 1) := by decide +kernel
theorem d17_30 : decode (xbc 17) 30 = .ok (.invokevirtual 80, 3) := by decide +kernel
theorem d17_33 : decode (xbc 17) 33 = .ok (.invokestatic 83, 3) := by decide +kernel
theorem d17_36 : decode (xbc 17) 36 = .ok (.ifCond .eq 7, 3) := by decide +kernel
theorem d17_39 : decode (xbc 17) 39 = .ok (.iconst 1, 1) := by decide +kernel
theorem d17_40 : decode (xbc 17) 40 = .ok (.goto 4, 3) := by decide +kernel
theorem d17_43 : decode (xbc 17) 43 = .ok (.iconst 0, 1) := by decide +kernel
theorem d17_44 : decode (xbc 17) 44 = .ok (.istore_n 3, 1) := by decide +kernel
theorem d17_45 : decode (xbc 17) 45 = .ok (.iload_n 3, 1) := by decide +kernel
theorem d17_46 : decode (xbc 17) 46 = .ok (.ifCond .eq 7, 3) := by decide +kernel
theorem d17_49 : decode (xbc 17) 49 = .ok (.iconst 0, 1) := by decide +kernel
theorem d17_50 : decode (xbc 17) 50 = .ok (.goto 5, 3) := by decide +kernel
theorem d17_53 : decode (xbc 17) 53 = .ok (.bipush 6, 2) := by decide +kernel
theorem d17_55 : decode (xbc 17) 55 = .ok (.ireturn, 1) := by decide +kernel
theorem d18_0 : decode (xbc 18) 0 = .ok (.aload_n 0, 1) := by decide +kernel
theorem d18_1 : decode (xbc 18) 1 = .ok (.iload_n 2, 1) := by decide +kernel
theorem d18_2 : decode (xbc 18) 2 = .ok (.invokevirtual 80, 3) := by decide +kernel
theorem d18_5 : decode (xbc 18) 5 = .ok (.ifCond .ne 5, 3) := by decide +kernel
theorem d18_8 : decode (xbc 18) 8 = .ok (.iconst 2, 1) := by decide +kernel
theorem d18_9 : decode (xbc 18) 9 = .ok (.ireturn, 1) := by decide +kernel
theorem d18_10 : decode (xbc 18) 10 = .ok (.iload_n 1, 1) := by decide +kernel
theorem d18_11 : decode (xbc 18) 11 = .ok (.bipush 43, 2) := by decide +kernel
theorem d18_13 : decode (xbc 18) 13 = .ok (.if_icmp .ne 8, 3) := by decide +kernel
theorem d18_16 : decode (xbc 18) 16 = .ok (.bipush 50, 2) := by decide +kernel
theorem d18_18 : decode (xbc 18) 18 = .ok (.goto 5, 3) := by decide +kernel
theorem d18_21 : decode (xbc 18) 21 = .ok (.bipush (-50), 2) := by decide +kernel
theorem d18_23 : decode (xbc 18) 23 = .ok (.istore_n 3, 1) := by decide +kernel
theorem d18_24 : decode (xbc 18) 24 = .ok (.aload_n 0, 1) := by decide +kernel
theorem d18_25 : decode (xbc 18) 25 = .ok (.iload_n 2, 1) := by decide +kernel
theorem d18_26 : decode (xbc 18) 26 = .ok (.invokevirtual 87, 3) := by decide +kernel
theorem d18_29 : decode (xbc 18) 29 = .ok (.iload_n 3, 1) := by decide +kernel
theorem d18_30 : decode (xbc 18) 30 = .ok (.if_icmp .ne 7, 3) := by decide +kernel
theorem d18_33 : decode (xbc 18) 33 = .ok (.iconst 3, 1) := by decide +kernel
theorem d18_34 : decode (xbc 18) 34 = .ok (.goto 4, 3) := by decide +kernel
theorem d18_37 : decode (xbc 18) 37 = .ok (.iconst 0, 1) := by decide +kernel
theorem d18_38 : decode (xbc 18) 38 = .ok (.ireturn, 1) := by decide +kernel
theorem d19_0 : decode (xbc 19) 0 = .ok (.iload_n 1, 1) := by decide +kernel
theorem d19_1 : decode (xbc 19) 1 = .ok (.invokestatic 62, 3) := by decide +kernel
theorem d19_4 : decode (xbc 19) 4 = .ok (.ifCond .eq 12, 3) := by decide +kernel
theorem d19_7 : decode (xbc 19) 7 = .ok (.aload_n 0, 1) := by decide +kernel
theorem d19_8 : decode (xbc 19) 8 = .ok (.getfield 21, 3) := by decide +kernel
theorem d19_11 : decode (xbc 19) 11 = .ok (.iload_n 1, 1) := by decide +kernel
theorem d19_12 : decode (xbc 19) 12 = .ok (.iaload, 1) := by decide +kernel
theorem d19_13 : decode (xbc 19) 13 = .ok (.goto 4, 3) := by decide +kernel
theorem d19_16 : decode (xbc 19) 16 = .ok (.iconst 0, 1) := by decide +kernel
theorem d19_17 : decode (xbc 19) 17 = .ok (.ireturn, 1) := by decide +kernel
theorem d20_0 : decode (xbc 20) 0 = .ok (.iload_n 2, 1) := by decide +kernel
theorem d20_1 : decode (xbc 20) 1 = .ok (.bipush 46, 2) := by decide +kernel
theorem d20_3 : decode (xbc 20) 3 = .ok (.if_icmp .eq 16, 3) := by decide +kernel
theorem d20_6 : decode (xbc 20) 6 = .ok (.aload_n 0, 1) := by decide +kernel
theorem d20_7 : decode (xbc 20) 7 = .ok (.iload_n 2, 1) := by decide +kernel
theorem d20_8 : decode (xbc 20) 8 = .ok (.iload_n 3, 1) := by decide +kernel
theorem d20_9 : decode (xbc 20) 9 = .ok (.iload 4, 2) := by decide +kernel
theorem d20_11 : decode (xbc 20) 11 = .ok (.invokevirtual 90, 3) := by decide +kernel
theorem d20_14 : decode (xbc 20) 14 = .ok (.aload_n 0, 1) := by decide +kernel
theorem d20_15 : decode (xbc 20) 15 = .ok (.invokevirtual 49, 3) := by decide +kernel
theorem d20_18 : decode (xbc 20) 18 = .ok (.return_, 1) := by decide +kernel
theorem d20_19 : decode (xbc 20) 19 = .ok (.aload_n 0, 1) := by decide +kernel
theorem d20_20 : decode (xbc 20) 20 = .ok (.getfield 45, 3) := by decide +kernel
theorem d20_23 : decode (xbc 20) 23 = .ok (.iconst 1, 1) := by decide +kernel
theorem d20_24 : decode (xbc 20) 24 = .ok (.iadd, 1) := by decide +kernel
theorem d20_25 : decode (xbc 20) 25 = .ok (.istore 5, 2) := by decide +kernel
theorem d20_27 : decode (xbc 20) 27 = .ok (.iconst 1, 1) := by decide +kernel
theorem d20_28 : decode (xbc 20) 28 = .ok (.istore 6, 2) := by decide +kernel
theorem d20_30 : decode (xbc 20) 30 = .ok (.iconst 0, 1) := by decide +kernel
theorem d20_31 : decode (xbc 20) 31 = .ok (.istore 7, 2) := by decide +kernel
theorem d20_33 : decode (xbc 20) 33 = .ok (.iload 7, 2) := by decide +kernel
theorem d20_35 : decode (xbc 20) 35 = .ok (.sipush 1000, 3) := by decide +kernel
theorem d20_38 : decode (xbc 20) 38 = .ok (.if_icmp .ge 23, 3) := by decide +kernel
theorem d20_41 : decode (xbc 20) 41 = .ok (.iload 6, 2) := by decide +kernel
theorem d20_43 : decode (xbc 20) 43 = .ok (.ifCond .eq 18, 3) := by decide +kernel
theorem d20_46 : decode (xbc 20) 46 = .ok (.aload_n 0, 1) := by decide +kernel
theorem d20_47 : decode (xbc 20) 47 = .ok (.iload 5, 2) := by decide +kernel
theorem d20_49 : decode (xbc 20) 49 = .ok (.iload_n 1, 1) := by decide +kernel
theorem d20_50 : decode (xbc 20) 50 = .ok (.invokevirtual 94, 3) := by decide +kernel
theorem d20_53 : decode (xbc 20) 53 = .ok (.istore 6, 2) := by decide +kernel
theorem d20_55 : decode (xbc 20) 55 = .ok (.iinc 7 1, 3) := by decide +kernel
theorem d20_58 : decode (xbc 20) 58 = .ok (.goto (-25), 3) := by decide +kernel
theorem d20_61 : decode (xbc 20) 61 = .ok (.aload_n 0, 1) := by decide +kernel
theorem d20_62 : decode (xbc 20) 62 = .ok (.iload 5, 2) := by decide +kernel
theorem d20_64 : decode (xbc 20) 64 = .ok (.putfield 45, 3) := by decide +kernel
theorem d20_67 : decode (xbc 20) 67 = .ok (.return_, 1) := by decide +kernel
theorem d21_0 : decode (xbc 21) 0 = .ok (.iload_n 2, 1) := by decide +kernel
theorem d21_1 : decode (xbc 21) 1 = .ok (.invokestatic 62, 3) := by decide +kernel
theorem d21_4 : decode (xbc 21) 4 = .ok (.ifCond .ne 4, 3) := by decide +kernel
theorem d21_7 : decode (xbc 21) 7 = .ok (.return_, 1) := by decide +kernel
theorem d21_8 : decode (xbc 21) 8 = .ok (.iload_n 1, 1) := by decide +kernel
theorem d21_9 : decode (xbc 21) 9 = .ok (.lookupswitch 81 #[(33, 61), (35, 71), (43, 43), (45, 52)], 43) := by decide +kernel
theorem d21_52 : decode (xbc 21) 52 = .ok (.aload_n 0, 1) := by decide +kernel
theorem d21_53 : decode (xbc 21) 53 = .ok (.iload_n 2, 1) := by decide +kernel
theorem d21_54 : decode (xbc 21) 54 = .ok (.iconst 1, 1) := by decide +kernel
theorem d21_55 : decode (xbc 21) 55 = .ok (.invokevirtual 97, 3) := by decide +kernel
theorem d21_58 : decode (xbc 21) 58 = .ok (.goto 38, 3) := by decide +kernel
theorem d21_61 : decode (xbc 21) 61 = .ok (.aload_n 0, 1) := by decide +kernel
theorem d21_62 : decode (xbc 21) 62 = .ok (.iload_n 2, 1) := by decide +kernel
theorem d21_63 : decode (xbc 21) 63 = .ok (.iconst (-1), 1) := by decide +kernel
theorem d21_64 : decode (xbc 21) 64 = .ok (.invokevirtual 97, 3) := by decide +kernel
theorem d21_67 : decode (xbc 21) 67 = .ok (.goto 29, 3) := by decide +kernel
theorem d21_70 : decode (xbc 21) 70 = .ok (.aload_n 0, 1) := by decide +kernel
theorem d21_71 : decode (xbc 21) 71 = .ok (.getfield 24, 3) := by decide +kernel
theorem d21_74 : decode (xbc 21) 74 = .ok (.iload_n 2, 1) := by decide +kernel
theorem d21_75 : decode (xbc 21) 75 = .ok (.iconst 0, 1) := by decide +kernel
theorem d21_76 : decode (xbc 21) 76 = .ok (.bastore, 1) := by decide +kernel
theorem d21_77 : decode (xbc 21) 77 = .ok (.goto 19, 3) := by decide +kernel
theorem d21_80 : decode (xbc 21) 80 = .ok (.aload_n 0, 1) := by decide +kernel
theorem d21_81 : decode (xbc 21) 81 = .ok (.getfield 24, 3) := by decide +kernel
theorem d21_84 : decode (xbc 21) 84 = .ok (.iload_n 2, 1) := by decide +kernel
theorem d21_85 : decode (xbc 21) 85 = .ok (.iconst 1, 1) := by decide +kernel
theorem d21_86 : decode (xbc 21) 86 = .ok (.bastore, 1) := by decide +kernel
theorem d21_87 : decode (xbc 21) 87 = .ok (.goto 9, 3) := by decide +kernel
theorem d21_90 : decode (xbc 21) 90 = .ok (.aload_n 0, 1) := by decide +kernel
theorem d21_91 : decode (xbc 21) 91 = .ok (.iload_n 2, 1) := by decide +kernel
theorem d21_92 : decode (xbc 21) 92 = .ok (.iload_n 3, 1) := by decide +kernel
theorem d21_93 : decode (xbc 21) 93 = .ok (.invokevirtual 101, 3) := by decide +kernel
theorem d21_96 : decode (xbc 21) 96 = .ok (.return_, 1) := by decide +kernel
theorem d22_0 : decode (xbc 22) 0 = .ok (.iload_n 1, 1) := by decide +kernel
theorem d22_1 : decode (xbc 22) 1 = .ok (.invokestatic 62, 3) := by decide +kernel
theorem d22_4 : decode (xbc 22) 4 = .ok (.ifCond .eq 28, 3) := by decide +kernel
theorem d22_7 : decode (xbc 22) 7 = .ok (.aload_n 0, 1) := by decide +kernel
theorem d22_8 : decode (xbc 22) 8 = .ok (.getfield 21, 3) := by decide +kernel
theorem d22_11 : decode (xbc 22) 11 = .ok (.iload_n 1, 1) := by decide +kernel
theorem d22_12 : decode (xbc 22) 12 = .ok (.dup2, 1) := by decide +kernel
theorem d22_13 : decode (xbc 22) 13 = .ok (.iaload, 1) := by decide +kernel
theorem d22_14 : decode (xbc 22) 14 = .ok (.iload_n 2, 1) := by decide +kernel
theorem d22_15 : decode (xbc 22) 15 = .ok (.iadd, 1) := by decide +kernel
theorem d22_16 : decode (xbc 22) 16 = .ok (.iastore, 1) := by decide +kernel
theorem d22_17 : decode (xbc 22) 17 = .ok (.aload_n 0, 1) := by decide +kernel
theorem d22_18 : decode (xbc 22) 18 = .ok (.getfield 18, 3) := by decide +kernel
theorem d22_21 : decode (xbc 22) 21 = .ok (.iload_n 1, 1) := by decide +kernel
theorem d22_22 : decode (xbc 22) 22 = .ok (.dup2, 1) := by decide +kernel
theorem d22_23 : decode (xbc 22) 23 = .ok (.iaload, 1) := by decide +kernel
theorem d22_24 : decode (xbc 22) 24 = .ok (.iload_n 2, 1) := by decide +kernel
theorem d22_25 : decode (xbc 22) 25 = .ok (.aload_n 0, 1) := by decide +kernel
theorem d22_26 : decode (xbc 22) 26 = .ok (.getfield 45, 3) := by decide +kernel
theorem d22_29 : decode (xbc 22) 29 = .ok (.imul, 1) := by decide +kernel
theorem d22_30 : decode (xbc 22) 30 = .ok (.isub, 1) := by decide +kernel
theorem d22_31 : decode (xbc 22) 31 = .ok (.iastore, 1) := by decide +kernel
theorem d22_32 : decode (xbc 22) 32 = .ok (.return_, 1) := by decide +kernel
theorem d23_0 : decode (xbc 23) 0 = .ok (.iload_n 1, 1) := by decide +kernel
theorem d23_1 : decode (xbc 23) 1 = .ok (.invokestatic 62, 3) := by decide +kernel
theorem d23_4 : decode (xbc 23) 4 = .ok (.ifCond .eq 36, 3) := by decide +kernel
theorem d23_7 : decode (xbc 23) 7 = .ok (.iload_n 2, 1) := by decide +kernel
theorem d23_8 : decode (xbc 23) 8 = .ok (.invokestatic 62, 3) := by decide +kernel
theorem d23_11 : decode (xbc 23) 11 = .ok (.ifCond .eq 29, 3) := by decide +kernel
theorem d23_14 : decode (xbc 23) 14 = .ok (.aload_n 0, 1) := by decide +kernel
theorem d23_15 : decode (xbc 23) 15 = .ok (.getfield 15, 3) := by decide +kernel
theorem d23_18 : decode (xbc 23) 18 = .ok (.iload_n 1, 1) := by decide +kernel
theorem d23_19 : decode (xbc 23) 19 = .ok (.iaload, 1) := by decide +kernel
theorem d23_20 : decode (xbc 23) 20 = .ok (.istore_n 3, 1) := by decide +kernel
theorem d23_21 : decode (xbc 23) 21 = .ok (.aload_n 0, 1) := by decide +kernel
theorem d23_22 : decode (xbc 23) 22 = .ok (.getfield 15, 3) := by decide +kernel
theorem d23_25 : decode (xbc 23) 25 = .ok (.iload_n 1, 1) := by decide +kernel
theorem d23_26 : decode (xbc 23) 26 = .ok (.aload_n 0, 1) := by decide +kernel
theorem d23_27 : decode (xbc 23) 27 = .ok (.getfield 15, 3) := by decide +kernel
theorem d23_30 : decode (xbc 23) 30 = .ok (.iload_n 2, 1) := by decide +kernel
theorem d23_31 : decode (xbc 23) 31 = .ok (.iaload, 1) := by decide +kernel
theorem d23_32 : decode (xbc 23) 32 = .ok (.iastore, 1) := by decide +kernel
theorem d23_33 : decode (xbc 23) 33 = .ok (.aload_n 0, 1) := by decide +kernel
theorem d23_34 : decode (xbc 23) 34 = .ok (.getfield 15, 3) := by decide +kernel
theorem d23_37 : decode (xbc 23) 37 = .ok (.iload_n 2, 1) := by decide +kernel
theorem d23_38 : decode (xbc 23) 38 = .ok (.iload_n 3, 1) := by decide +kernel
theorem d23_39 : decode (xbc 23) 39 = .ok (.iastore, 1) := by decide +kernel
theorem d23_40 : decode (xbc 23) 40 = .ok (.return_, 1) := by decide +kernel
theorem d24_0 : decode (xbc 24) 0 = .ok (.aload_n 0, 1) := by decide +kernel
theorem d24_1 : decode (xbc 24) 1 = .ok (.getfield 34, 3) := by decide +kernel
theorem d24_4 : decode (xbc 24) 4 = .ok (.iconst 0, 1) := by decide +kernel
theorem d24_5 : decode (xbc 24) 5 = .ok (.invokevirtual 111, 3) := by decide +kernel
theorem d24_8 : decode (xbc 24) 8 = .ok (.istore_n 3, 1) := by decide +kernel
theorem d24_9 : decode (xbc 24) 9 = .ok (.aload_n 0, 1) := by decide +kernel
theorem d24_10 : decode (xbc 24) 10 = .ok (.getfield 34, 3) := by decide +kernel
theorem d24_13 : decode (xbc 24) 13 = .ok (.iload_n 3, 1) := by decide +kernel
theorem d24_14 : decode (xbc 24) 14 = .ok (.invokevirtual 115, 3) := by decide +kernel
theorem d24_17 : decode (xbc 24) 17 = .ok (.istore 4, 2) := by decide +kernel
theorem d24_19 : decode (xbc 24) 19 = .ok (.aload_n 0, 1) := by decide +kernel
theorem d24_20 : decode (xbc 24) 20 = .ok (.getfield 34, 3) := by decide +kernel
theorem d24_23 : decode (xbc 24) 23 = .ok (.iload_n 3, 1) := by decide +kernel
theorem d24_24 : decode (xbc 24) 24 = .ok (.invokevirtual 118, 3) := by decide +kernel
theorem d24_27 : decode (xbc 24) 27 = .ok (.istore 5, 2) := by decide +kernel
theorem d24_29 : decode (xbc 24) 29 = .ok (.aload_n 0, 1) := by decide +kernel
theorem d24_30 : decode (xbc 24) 30 = .ok (.getfield 34, 3) := by decide +kernel
theorem d24_33 : decode (xbc 24) 33 = .ok (.iload_n 3, 1) := by decide +kernel
theorem d24_34 : decode (xbc 24) 34 = .ok (.invokevirtual 121, 3) := by decide +kernel
theorem d24_37 : decode (xbc 24) 37 = .ok (.istore 6, 2) := by decide +kernel
theorem d24_39 : decode (xbc 24) 39 = .ok (.iload_n 3, 1) := by decide +kernel
theorem d24_40 : decode (xbc 24) 40 = .ok (.bipush (-6), 2) := by decide +kernel
theorem d24_42 : decode (xbc 24) 42 = .ok (.if_icmp .eq 12, 3) := by decide +kernel
theorem d24_45 : decode (xbc 24) 45 = .ok (.iload 5, 2) := by decide +kernel
theorem d24_47 : decode (xbc 24) 47 = .ok (.iload_n 1, 1) := by decide +kernel
theorem d24_48 : decode (xbc 24) 48 = .ok (.iload 6, 2) := by decide +kernel
theorem d24_50 : decode (xbc 24) 50 = .ok (.imul, 1) := by decide +kernel
theorem d24_51 : decode (xbc 24) 51 = .ok (.if_icmp .le 5, 3) := by decide +kernel
theorem d24_54 : decode (xbc 24) 54 = .ok (.iconst 0, 1) := by decide +kernel
theorem d24_55 : decode (xbc 24) 55 = .ok (.ireturn, 1) := by decide +kernel
theorem d24_56 : decode (xbc 24) 56 = .ok (.aload_n 0, 1) := by decide +kernel
theorem d24_57 : decode (xbc 24) 57 = .ok (.getfield 34, 3) := by decide +kernel
theorem d24_60 : decode (xbc 24) 60 = .ok (.iload_n 3, 1) := by decide +kernel
theorem d24_61 : decode (xbc 24) 61 = .ok (.invokevirtual 124, 3) := by decide +kernel
theorem d24_64 : decode (xbc 24) 64 = .ok (.istore 7, 2) := by decide +kernel
theorem d24_66 : decode (xbc 24) 66 = .ok (.aload_n 0, 1) := by decide +kernel
theorem d24_67 : decode (xbc 24) 67 = .ok (.getfield 34, 3) := by decide +kernel
theorem d24_70 : decode (xbc 24) 70 = .ok (.iload_n 3, 1) := by decide +kernel
theorem d24_71 : decode (xbc 24) 71 = .ok (.invokevirtual 127, 3) := by decide +kernel
theorem d24_74 : decode (xbc 24) 74 = .ok (.aload_n 0, 1) := by decide +kernel
theorem d24_75 : decode (xbc 24) 75 = .ok (.getfield 41, 3) := by decide +kernel
theorem d24_78 : decode (xbc 24) 78 = .ok (.iload 7, 2) := by decide +kernel
theorem d24_80 : decode (xbc 24) 80 = .ok (.iload_n 2, 1) := by decide +kernel
theorem d24_81 : decode (xbc 24) 81 = .ok (.iload 4, 2) := by decide +kernel
theorem d24_83 : decode (xbc 24) 83 = .ok (.invokevirtual 131, 3) := by decide +kernel
theorem d24_86 : decode (xbc 24) 86 = .ok (.iload 4, 2) := by decide +kernel
theorem d24_88 : decode (xbc 24) 88 = .ok (.istore 8, 2) := by decide +kernel
theorem d24_90 : decode (xbc 24) 90 = .ok (.iload 8, 2) := by decide +kernel
theorem d24_92 : decode (xbc 24) 92 = .ok (.iconst 1, 1) := by decide +kernel
theorem d24_93 : decode (xbc 24) 93 = .ok (.if_icmp .lt 29, 3) := by decide +kernel
theorem d24_96 : decode (xbc 24) 96 = .ok (.iload 7, 2) := by decide +kernel
theorem d24_98 : decode (xbc 24) 98 = .ok (.ifCond .eq 24, 3) := by decide +kernel
theorem d24_101 : decode (xbc 24) 101 = .ok (.aload_n 0, 1) := by decide +kernel
theorem d24_102 : decode (xbc 24) 102 = .ok (.iload 8, 2) := by decide +kernel
theorem d24_104 : decode (xbc 24) 104 = .ok (.iload 5, 2) := by decide +kernel
theorem d24_106 : decode (xbc 24) 106 = .ok (.iload 6, 2) := by decide +kernel
theorem d24_108 : decode (xbc 24) 108 = .ok (.invokevirtual 107, 3) := by decide +kernel
theorem d24_111 : decode (xbc 24) 111 = .ok (.istore 7, 2) := by decide +kernel
theorem d24_113 : decode (xbc 24) 113 = .ok (.iload 8, 2) := by decide +kernel
theorem d24_115 : decode (xbc 24) 115 = .ok (.iconst 2, 1) := by decide +kernel
theorem d24_116 : decode (xbc 24) 116 = .ok (.idiv, 1) := by decide +kernel
theorem d24_117 : decode (xbc 24) 117 = .ok (.istore 8, 2) := by decide +kernel
theorem d24_119 : decode (xbc 24) 119 = .ok (.goto (-29), 3) := by decide +kernel
theorem d24_122 : decode (xbc 24) 122 = .ok (.iconst 1, 1) := by decide +kernel
theorem d24_123 : decode (xbc 24) 123 = .ok (.ireturn, 1) := by decide +kernel
theorem d25_0 : decode (xbc 25) 0 = .ok (.iload_n 1, 1) := by decide +kernel
theorem d25_1 : decode (xbc 25) 1 = .ok (.invokestatic 62, 3) := by decide +kernel
theorem d25_4 : decode (xbc 25) 4 = .ok (.ifCond .eq 12, 3) := by decide +kernel
theorem d25_7 : decode (xbc 25) 7 = .ok (.aload_n 0, 1) := by decide +kernel
theorem d25_8 : decode (xbc 25) 8 = .ok (.getfield 18, 3) := by decide +kernel
theorem d25_11 : decode (xbc 25) 11 = .ok (.iload_n 1, 1) := by decide +kernel
theorem d25_12 : decode (xbc 25) 12 = .ok (.iaload, 1) := by decide +kernel
theorem d25_13 : decode (xbc 25) 13 = .ok (.goto 4, 3) := by decide +kernel
theorem d25_16 : decode (xbc 25) 16 = .ok (.iconst 0, 1) := by decide +kernel
theorem d25_17 : decode (xbc 25) 17 = .ok (.ireturn, 1) := by decide +kernel
theorem d26_0 : decode (xbc 26) 0 = .ok (.aload_n 0, 1) := by decide +kernel
theorem d26_1 : decode (xbc 26) 1 = .ok (.getfield 45, 3) := by decide +kernel
theorem d26_4 : decode (xbc 26) 4 = .ok (.ireturn, 1) := by decide +kernel
theorem d27_0 : decode (xbc 27) 0 = .ok (.bipush (-6), 2) := by decide +kernel
theorem d27_2 : decode (xbc 27) 2 = .ok (.istore_n 3, 1) := by decide +kernel
theorem d27_3 : decode (xbc 27) 3 = .ok (.iconst 0, 1) := by decide +kernel
theorem d27_4 : decode (xbc 27) 4 = .ok (.istore 4, 2) := by decide +kernel
theorem d27_6 : decode (xbc 27) 6 = .ok (.iload 4, 2) := by decide +kernel
theorem d27_8 : decode (xbc 27) 8 = .ok (.bipush 8, 2) := by decide +kernel
theorem d27_10 : decode (xbc 27) 10 = .ok (.if_icmp .ge 29, 3) := by decide +kernel
theorem d27_13 : decode (xbc 27) 13 = .ok (.aload_n 0, 1) := by decide +kernel
theorem d27_14 : decode (xbc 27) 14 = .ok (.getfield 24, 3) := by decide +kernel
theorem d27_17 : decode (xbc 27) 17 = .ok (.iload 4, 2) := by decide +kernel
theorem d27_19 : decode (xbc 27) 19 = .ok (.baload, 1) := by decide +kernel
theorem d27_20 : decode (xbc 27) 20 = .ok (.ifCond .eq 13, 3) := by decide +kernel
theorem d27_23 : decode (xbc 27) 23 = .ok (.aload_n 0, 1) := by decide +kernel
theorem d27_24 : decode (xbc 27) 24 = .ok (.iload_n 3, 1) := by decide +kernel
theorem d27_25 : decode (xbc 27) 25 = .ok (.iload 4, 2) := by decide +kernel
theorem d27_27 : decode (xbc 27) 27 = .ok (.iload_n 1, 1) := by decide +kernel
theorem d27_28 : decode (xbc 27) 28 = .ok (.iload_n 2, 1) := by decide +kernel
theorem d27_29 : decode (xbc 27) 29 = .ok (.invokevirtual 138, 3) := by decide +kernel
theorem d27_32 : decode (xbc 27) 32 = .ok (.istore_n 3, 1) := by decide +kernel
theorem d27_33 : decode (xbc 27) 33 = .ok (.iinc 4 1, 3) := by decide +kernel
theorem d27_36 : decode (xbc 27) 36 = .ok (.goto (-30), 3) := by decide +kernel
theorem d27_39 : decode (xbc 27) 39 = .ok (.iload_n 3, 1) := by decide +kernel
theorem d27_40 : decode (xbc 27) 40 = .ok (.ireturn, 1) := by decide +kernel
theorem d28_0 : decode (xbc 28) 0 = .ok (.aload_n 0, 1) := by decide +kernel
theorem d28_1 : decode (xbc 28) 1 = .ok (.getfield 34, 3) := by decide +kernel
theorem d28_4 : decode (xbc 28) 4 = .ok (.areturn, 1) := by decide +kernel
theorem d29_0 : decode (xbc 29) 0 = .ok (.aload_n 0, 1) := by decide +kernel
theorem d29_1 : decode (xbc 29) 1 = .ok (.aload_n 0, 1) := by decide +kernel
theorem d29_2 : decode (xbc 29) 2 = .ok (.getfield 45, 3) := by decide +kernel
theorem d29_5 : decode (xbc 29) 5 = .ok (.iconst 1, 1) := by decide +kernel
theorem d29_6 : decode (xbc 29) 6 = .ok (.invokevirtual 160, 3) := by decide +kernel
theorem d29_9 : decode (xbc 29) 9 = .ok (.istore_n 3, 1) := by decide +kernel
theorem d29_10 : decode (xbc 29) 10 = .ok (.iconst 0, 1) := by decide +kernel
theorem d29_11 : decode (xbc 29) 11 = .ok (.istore 4, 2) := by decide +kernel
theorem d29_13 : decode (xbc 29) 13 = .ok (.iconst 0, 1) := by decide +kernel
theorem d29_14 : decode (xbc 29) 14 = .ok (.istore 5, 2) := by decide +kernel
theorem d29_16 : decode (xbc 29) 16 = .ok (.iload 5, 2) := by decide +kernel
theorem d29_18 : decode (xbc 29) 18 = .ok (.bipush 8, 2) := by decide +kernel
theorem d29_20 : decode (xbc 29) 20 = .ok (.if_icmp .ge 32, 3) := by decide +kernel
theorem d29_23 : decode (xbc 29) 23 = .ok (.iload_n 3, 1) := by decide +kernel
theorem d29_24 : decode (xbc 29) 24 = .ok (.invokestatic 62, 3) := by decide +kernel
theorem d29_27 : decode (xbc 29) 27 = .ok (.ifCond .eq 25, 3) := by decide +kernel
theorem d29_30 : decode (xbc 29) 30 = .ok (.iload 4, 2) := by decide +kernel
theorem d29_32 : decode (xbc 29) 32 = .ok (.iconst 1, 1) := by decide +kernel
theorem d29_33 : decode (xbc 29) 33 = .ok (.iload_n 3, 1) := by decide +kernel
theorem d29_34 : decode (xbc 29) 34 = .ok (.ishl, 1) := by decide +kernel
theorem d29_35 : decode (xbc 29) 35 = .ok (.ior, 1) := by decide +kernel
theorem d29_36 : decode (xbc 29) 36 = .ok (.istore 4, 2) := by decide +kernel
theorem d29_38 : decode (xbc 29) 38 = .ok (.aload_n 0, 1) := by decide +kernel
theorem d29_39 : decode (xbc 29) 39 = .ok (.iload_n 3, 1) := by decide +kernel
theorem d29_40 : decode (xbc 29) 40 = .ok (.iload_n 1, 1) := by decide +kernel
theorem d29_41 : decode (xbc 29) 41 = .ok (.iload_n 2, 1) := by decide +kernel
theorem d29_42 : decode (xbc 29) 42 = .ok (.invokevirtual 163, 3) := by decide +kernel
theorem d29_45 : decode (xbc 29) 45 = .ok (.istore_n 3, 1) := by decide +kernel
theorem d29_46 : decode (xbc 29) 46 = .ok (.iinc 5 1, 3) := by decide +kernel
theorem d29_49 : decode (xbc 29) 49 = .ok (.goto (-33), 3) := by decide +kernel
theorem d29_52 : decode (xbc 29) 52 = .ok (.iload 4, 2) := by decide +kernel
theorem d29_54 : decode (xbc 29) 54 = .ok (.ireturn, 1) := by decide +kernel
theorem d30_0 : decode (xbc 30) 0 = .ok (.iload_n 2, 1) := by decide +kernel
theorem d30_1 : decode (xbc 30) 1 = .ok (.istore 4, 2) := by decide +kernel
theorem d30_3 : decode (xbc 30) 3 = .ok (.iload_n 3, 1) := by decide +kernel
theorem d30_4 : decode (xbc 30) 4 = .ok (.istore 5, 2) := by decide +kernel
theorem d30_6 : decode (xbc 30) 6 = .ok (.iconst 0, 1) := by decide +kernel
theorem d30_7 : decode (xbc 30) 7 = .ok (.istore 6, 2) := by decide +kernel
theorem d30_9 : decode (xbc 30) 9 = .ok (.iconst 0, 1) := by decide +kernel
theorem d30_10 : decode (xbc 30) 10 = .ok (.istore 7, 2) := by decide +kernel
theorem d30_12 : decode (xbc 30) 12 = .ok (.iload 7, 2) := by decide +kernel
theorem d30_14 : decode (xbc 30) 14 = .ok (.bipush 8, 2) := by decide +kernel
theorem d30_16 : decode (xbc 30) 16 = .ok (.if_icmp .ge 76, 3) := by decide +kernel
theorem d30_19 : decode (xbc 30) 19 = .ok (.aload_n 0, 1) := by decide +kernel
theorem d30_20 : decode (xbc 30) 20 = .ok (.iload 7, 2) := by decide +kernel
theorem d30_22 : decode (xbc 30) 22 = .ok (.invokevirtual 87, 3) := by decide +kernel
theorem d30_25 : decode (xbc 30) 25 = .ok (.aload_n 0, 1) := by decide +kernel
theorem d30_26 : decode (xbc 30) 26 = .ok (.iload_n 1, 1) := by decide +kernel
theorem d30_27 : decode (xbc 30) 27 = .ok (.invokevirtual 87, 3) := by decide +kernel
theorem d30_30 : decode (xbc 30) 30 = .ok (.isub, 1) := by decide +kernel
theorem d30_31 : decode (xbc 30) 31 = .ok (.istore 8, 2) := by decide +kernel
theorem d30_33 : decode (xbc 30) 33 = .ok (.aload_n 0, 1) := by decide +kernel
theorem d30_34 : decode (xbc 30) 34 = .ok (.iload_n 1, 1) := by decide +kernel
theorem d30_35 : decode (xbc 30) 35 = .ok (.invokevirtual 157, 3) := by decide +kernel
theorem d30_38 : decode (xbc 30) 38 = .ok (.aload_n 0, 1) := by decide +kernel
theorem d30_39 : decode (xbc 30) 39 = .ok (.iload 7, 2) := by decide +kernel
theorem d30_41 : decode (xbc 30) 41 = .ok (.invokevirtual 157, 3) := by decide +kernel
theorem d30_44 : decode (xbc 30) 44 = .ok (.isub, 1) := by decide +kernel
theorem d30_45 : decode (xbc 30) 45 = .ok (.istore 9, 2) := by decide +kernel
theorem d30_47 : decode (xbc 30) 47 = .ok (.aload_n 0, 1) := by decide +kernel
theorem d30_48 : decode (xbc 30) 48 = .ok (.getfield 24, 3) := by decide +kernel
theorem d30_51 : decode (xbc 30) 51 = .ok (.iload 7, 2) := by decide +kernel
theorem d30_53 : decode (xbc 30) 53 = .ok (.baload, 1) := by decide +kernel
theorem d30_54 : decode (xbc 30) 54 = .ok (.ifCond .eq 32, 3) := by decide +kernel
theorem d30_57 : decode (xbc 30) 57 = .ok (.iload 8, 2) := by decide +kernel
theorem d30_59 : decode (xbc 30) 59 = .ok (.ifCond .le 27, 3) := by decide +kernel
theorem d30_62 : decode (xbc 30) 62 = .ok (.iload 9, 2) := by decide +kernel
theorem d30_64 : decode (xbc 30) 64 = .ok (.iload 5, 2) := by decide +kernel
theorem d30_66 : decode (xbc 30) 66 = .ok (.imul, 1) := by decide +kernel
theorem d30_67 : decode (xbc 30) 67 = .ok (.iload 4, 2) := by decide +kernel
theorem d30_69 : decode (xbc 30) 69 = .ok (.iload 8, 2) := by decide +kernel
theorem d30_71 : decode (xbc 30) 71 = .ok (.imul, 1) := by decide +kernel
theorem d30_72 : decode (xbc 30) 72 = .ok (.if_icmp .gt 14, 3) := by decide +kernel
theorem d30_75 : decode (xbc 30) 75 = .ok (.iload 9, 2) := by decide +kernel
theorem d30_77 : decode (xbc 30) 77 = .ok (.istore 4, 2) := by decide +kernel
theorem d30_79 : decode (xbc 30) 79 = .ok (.iload 8, 2) := by decide +kernel
theorem d30_81 : decode (xbc 30) 81 = .ok (.istore 5, 2) := by decide +kernel
theorem d30_83 : decode (xbc 30) 83 = .ok (.iconst 1, 1) := by decide +kernel
theorem d30_84 : decode (xbc 30) 84 = .ok (.istore 6, 2) := by decide +kernel
theorem d30_86 : decode (xbc 30) 86 = .ok (.iinc 7 1, 3) := by decide +kernel
theorem d30_89 : decode (xbc 30) 89 = .ok (.goto (-77), 3) := by decide +kernel
theorem d30_92 : decode (xbc 30) 92 = .ok (.iload 6, 2) := by decide +kernel
theorem d30_94 : decode (xbc 30) 94 = .ok (.ifCond .eq 14, 3) := by decide +kernel
theorem d30_97 : decode (xbc 30) 97 = .ok (.aload_n 0, 1) := by decide +kernel
theorem d30_98 : decode (xbc 30) 98 = .ok (.iload 4, 2) := by decide +kernel
theorem d30_100 : decode (xbc 30) 100 = .ok (.iload 5, 2) := by decide +kernel
theorem d30_102 : decode (xbc 30) 102 = .ok (.invokevirtual 160, 3) := by decide +kernel
theorem d30_105 : decode (xbc 30) 105 = .ok (.goto 5, 3) := by decide +kernel
theorem d30_108 : decode (xbc 30) 108 = .ok (.bipush (-6), 2) := by decide +kernel
theorem d30_110 : decode (xbc 30) 110 = .ok (.ireturn, 1) := by decide +kernel
theorem d31_0 : decode (xbc 31) 0 = .ok (.aload_n 0, 1) := by decide +kernel
theorem d31_1 : decode (xbc 31) 1 = .ok (.iload_n 1, 1) := by decide +kernel
theorem d31_2 : decode (xbc 31) 2 = .ok (.invokevirtual 157, 3) := by decide +kernel
theorem d31_5 : decode (xbc 31) 5 = .ok (.iload_n 3, 1) := by decide +kernel
theorem d31_6 : decode (xbc 31) 6 = .ok (.imul, 1) := by decide +kernel
theorem d31_7 : decode (xbc 31) 7 = .ok (.aload_n 0, 1) := by decide +kernel
theorem d31_8 : decode (xbc 31) 8 = .ok (.iload_n 1, 1) := by decide +kernel
theorem d31_9 : decode (xbc 31) 9 = .ok (.invokevirtual 87, 3) := by decide +kernel
theorem d31_12 : decode (xbc 31) 12 = .ok (.iload_n 2, 1) := by decide +kernel
theorem d31_13 : decode (xbc 31) 13 = .ok (.imul, 1) := by decide +kernel
theorem d31_14 : decode (xbc 31) 14 = .ok (.iadd, 1) := by decide +kernel
theorem d31_15 : decode (xbc 31) 15 = .ok (.ireturn, 1) := by decide +kernel
