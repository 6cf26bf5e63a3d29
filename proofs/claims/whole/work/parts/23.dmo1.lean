theorem d120_0 : decode (xbc 120) 0 = .ok (.aload_n 0, 1) := by decide +kernel
theorem d120_1 : decode (xbc 120) 1 = .ok (.invokespecial 1, 3) := by decide +kernel
theorem d120_4 : decode (xbc 120) 4 = .ok (.aload_n 0, 1) := by decide +kernel
theorem d120_5 : decode (xbc 120) 5 = .ok (.sipush 331, 3) := by decide +kernel
theorem d120_8 : decode (xbc 120) 8 = .ok (.newarray .int, 2) := by decide +kernel
theorem d120_10 : decode (xbc 120) 10 = .ok (.putfield 7, 3) := by decide +kernel
theorem d120_13 : decode (xbc 120) 13 = .ok (.aload_n 0, 1) := by decide +kernel
theorem d120_14 : decode (xbc 120) 14 = .ok (.sipush 331, 3) := by decide +kernel
theorem d120_17 : decode (xbc 120) 17 = .ok (.newarray .int, 2) := by decide +kernel
theorem d120_19 : decode (xbc 120) 19 = .ok (.putfield 13, 3) := by decide +kernel
theorem d120_22 : decode (xbc 120) 22 = .ok (.aload_n 0, 1) := by decide +kernel
theorem d120_23 : decode (xbc 120) 23 = .ok (.bipush 24, 2) := by decide +kernel
theorem d120_25 : decode (xbc 120) 25 = .ok (.newarray .int, 2) := by decide +kernel
theorem d120_27 : decode (xbc 120) 27 = .ok (.putfield 16, 3) := by decide +kernel
theorem d120_30 : decode (xbc 120) 30 = .ok (.aload_n 0, 1) := by decide +kernel
theorem d120_31 : decode (xbc 120) 31 = .ok (.bipush 60, 2) := by decide +kernel
theorem d120_33 : decode (xbc 120) 33 = .ok (.newarray .int, 2) := by decide +kernel
theorem d120_35 : decode (xbc 120) 35 = .ok (.putfield 19, 3) := by decide +kernel
theorem d120_38 : decode (xbc 120) 38 = .ok (.aload_n 0, 1) := by decide +kernel
theorem d120_39 : decode (xbc 120) 39 = .ok (.sipush 589, 3) := by decide +kernel
theorem d120_42 : decode (xbc 120) 42 = .ok (.newarray .int, 2) := by decide +kernel
theorem d120_44 : decode (xbc 120) 44 = .ok (.putfield 22, 3) := by decide +kernel
theorem d120_47 : decode (xbc 120) 47 = .ok (.aload_n 0, 1) := by decide +kernel
theorem d120_48 : decode (xbc 120) 48 = .ok (.sipush 720, 3) := by decide +kernel
theorem d120_51 : decode (xbc 120) 51 = .ok (.newarray .int, 2) := by decide +kernel
theorem d120_53 : decode (xbc 120) 53 = .ok (.putfield 25, 3) := by decide +kernel
theorem d120_56 : decode (xbc 120) 56 = .ok (.aload_n 0, 1) := by decide +kernel
theorem d120_57 : decode (xbc 120) 57 = .ok (.iconst 2, 1) := by decide +kernel
theorem d120_58 : decode (xbc 120) 58 = .ok (.newarray .boolean, 2) := by decide +kernel
theorem d120_60 : decode (xbc 120) 60 = .ok (.putfield 28, 3) := by decide +kernel
theorem d120_63 : decode (xbc 120) 63 = .ok (.iconst 0, 1) := by decide +kernel
theorem d120_64 : decode (xbc 120) 64 = .ok (.istore_n 1, 1) := by decide +kernel
theorem d120_65 : decode (xbc 120) 65 = .ok (.iload_n 1, 1) := by decide +kernel
theorem d120_66 : decode (xbc 120) 66 = .ok (.bipush 8, 2) := by decide +kernel
theorem d120_68 : decode (xbc 120) 68 = .ok (.if_icmp .ge 58, 3) := by decide +kernel
theorem d120_71 : decode (xbc 120) 71 = .ok (.aload_n 0, 1) := by decide +kernel
theorem d120_72 : decode (xbc 120) 72 = .ok (.getfield 13, 3) := by decide +kernel
theorem d120_75 : decode (xbc 120) 75 = .ok (.iload_n 1, 1) := by decide +kernel
theorem d120_76 : decode (xbc 120) 76 = .ok (.iconst 1, 1) := by decide +kernel
theorem d120_77 : decode (xbc 120) 77 = .ok (.iastore, 1) := by decide +kernel
theorem d120_78 : decode (xbc 120) 78 = .ok (.aload_n 0, 1) := by decide +kernel
theorem d120_79 : decode (xbc 120) 79 = .ok (.getfield 13, 3) := by decide +kernel
theorem d120_82 : decode (xbc 120) 82 = .ok (.bipush 8, 2) := by decide +kernel
theorem d120_84 : decode (xbc 120) 84 = .ok (.iload_n 1, 1) := by decide +kernel
theorem d120_85 : decode (xbc 120) 85 = .ok (.iadd, 1) := by decide +kernel
theorem d120_86 : decode (xbc 120) 86 = .ok (.iload_n 1, 1) := by decide +kernel
theorem d120_87 : decode (xbc 120) 87 = .ok (.iconst 3, 1) := by decide +kernel
theorem d120_88 : decode (xbc 120) 88 = .ok (.if_icmp .le 7, 3) := by decide +kernel
theorem d120_91 : decode (xbc 120) 91 = .ok (.iconst 1, 1) := by decide +kernel
theorem d120_92 : decode (xbc 120) 92 = .ok (.goto 4, 3) := by decide +kernel
theorem d120_95 : decode (xbc 120) 95 = .ok (.iconst 0, 1) := by decide +kernel
theorem d120_96 : decode (xbc 120) 96 = .ok (.iastore, 1) := by decide +kernel
theorem d120_97 : decode (xbc 120) 97 = .ok (.aload_n 0, 1) := by decide +kernel
theorem d120_98 : decode (xbc 120) 98 = .ok (.getfield 13, 3) := by decide +kernel
theorem d120_101 : decode (xbc 120) 101 = .ok (.bipush 16, 2) := by decide +kernel
theorem d120_103 : decode (xbc 120) 103 = .ok (.iload_n 1, 1) := by decide +kernel
theorem d120_104 : decode (xbc 120) 104 = .ok (.iadd, 1) := by decide +kernel
theorem d120_105 : decode (xbc 120) 105 = .ok (.iload_n 1, 1) := by decide +kernel
theorem d120_106 : decode (xbc 120) 106 = .ok (.iastore, 1) := by decide +kernel
theorem d120_107 : decode (xbc 120) 107 = .ok (.aload_n 0, 1) := by decide +kernel
theorem d120_108 : decode (xbc 120) 108 = .ok (.getfield 13, 3) := by decide +kernel
theorem d120_111 : decode (xbc 120) 111 = .ok (.bipush 24, 2) := by decide +kernel
theorem d120_113 : decode (xbc 120) 113 = .ok (.iload_n 1, 1) := by decide +kernel
theorem d120_114 : decode (xbc 120) 114 = .ok (.iadd, 1) := by decide +kernel
theorem d120_115 : decode (xbc 120) 115 = .ok (.bipush 10, 2) := by decide +kernel
theorem d120_117 : decode (xbc 120) 117 = .ok (.iload_n 1, 1) := by decide +kernel
theorem d120_118 : decode (xbc 120) 118 = .ok (.imul, 1) := by decide +kernel
theorem d120_119 : decode (xbc 120) 119 = .ok (.iastore, 1) := by decide +kernel
theorem d120_120 : decode (xbc 120) 120 = .ok (.iinc 1 1, 3) := by decide +kernel
theorem d120_123 : decode (xbc 120) 123 = .ok (.goto (-58), 3) := by decide +kernel
theorem d120_126 : decode (xbc 120) 126 = .ok (.aload_n 0, 1) := by decide +kernel
theorem d120_127 : decode (xbc 120) 127 = .ok (.invokevirtual 32, 3) := by decide +kernel
theorem d120_130 : decode (xbc 120) 130 = .ok (.aload_n 0, 1) := by decide +kernel
theorem d120_131 : decode (xbc 120) 131 = .ok (.invokevirtual 35, 3) := by decide +kernel
theorem d120_134 : decode (xbc 120) 134 = .ok (.return_, 1) := by decide +kernel
theorem d121_0 : decode (xbc 121) 0 = .ok (.aload_n 0, 1) := by decide +kernel
theorem d121_1 : decode (xbc 121) 1 = .ok (.getfield 13, 3) := by decide +kernel
theorem d121_4 : decode (xbc 121) 4 = .ok (.bipush 73, 2) := by decide +kernel
theorem d121_6 : decode (xbc 121) 6 = .ok (.iconst 0, 1) := by decide +kernel
theorem d121_7 : decode (xbc 121) 7 = .ok (.iastore, 1) := by decide +kernel
theorem d121_8 : decode (xbc 121) 8 = .ok (.aload_n 0, 1) := by decide +kernel
theorem d121_9 : decode (xbc 121) 9 = .ok (.getfield 13, 3) := by decide +kernel
theorem d121_12 : decode (xbc 121) 12 = .ok (.bipush 74, 2) := by decide +kernel
theorem d121_14 : decode (xbc 121) 14 = .ok (.iconst 0, 1) := by decide +kernel
theorem d121_15 : decode (xbc 121) 15 = .ok (.iastore, 1) := by decide +kernel
theorem d121_16 : decode (xbc 121) 16 = .ok (.bipush 7, 2) := by decide +kernel
theorem d121_18 : decode (xbc 121) 18 = .ok (.istore_n 1, 1) := by decide +kernel
theorem d121_19 : decode (xbc 121) 19 = .ok (.iload_n 1, 1) := by decide +kernel
theorem d121_20 : decode (xbc 121) 20 = .ok (.ifCond .le 83, 3) := by decide +kernel
theorem d121_23 : decode (xbc 121) 23 = .ok (.aload_n 0, 1) := by decide +kernel
theorem d121_24 : decode (xbc 121) 24 = .ok (.getfield 13, 3) := by decide +kernel
theorem d121_27 : decode (xbc 121) 27 = .ok (.bipush 49, 2) := by decide +kernel
theorem d121_29 : decode (xbc 121) 29 = .ok (.iload_n 1, 1) := by decide +kernel
theorem d121_30 : decode (xbc 121) 30 = .ok (.iadd, 1) := by decide +kernel
theorem d121_31 : decode (xbc 121) 31 = .ok (.aload_n 0, 1) := by decide +kernel
theorem d121_32 : decode (xbc 121) 32 = .ok (.iload_n 1, 1) := by decide +kernel
theorem d121_33 : decode (xbc 121) 33 = .ok (.iconst 0, 1) := by decide +kernel
theorem d121_34 : decode (xbc 121) 34 = .ok (.invokevirtual 66, 3) := by decide +kernel
theorem d121_37 : decode (xbc 121) 37 = .ok (.iastore, 1) := by decide +kernel
theorem d121_38 : decode (xbc 121) 38 = .ok (.aload_n 0, 1) := by decide +kernel
theorem d121_39 : decode (xbc 121) 39 = .ok (.getfield 13, 3) := by decide +kernel
theorem d121_42 : decode (xbc 121) 42 = .ok (.bipush 57, 2) := by decide +kernel
theorem d121_44 : decode (xbc 121) 44 = .ok (.iload_n 1, 1) := by decide +kernel
theorem d121_45 : decode (xbc 121) 45 = .ok (.iadd, 1) := by decide +kernel
theorem d121_46 : decode (xbc 121) 46 = .ok (.aload_n 0, 1) := by decide +kernel
theorem d121_47 : decode (xbc 121) 47 = .ok (.iload_n 1, 1) := by decide +kernel
theorem d121_48 : decode (xbc 121) 48 = .ok (.iconst 1, 1) := by decide +kernel
theorem d121_49 : decode (xbc 121) 49 = .ok (.invokevirtual 66, 3) := by decide +kernel
theorem d121_52 : decode (xbc 121) 52 = .ok (.iastore, 1) := by decide +kernel
theorem d121_53 : decode (xbc 121) 53 = .ok (.aload_n 0, 1) := by decide +kernel
theorem d121_54 : decode (xbc 121) 54 = .ok (.getfield 13, 3) := by decide +kernel
theorem d121_57 : decode (xbc 121) 57 = .ok (.bipush 41, 2) := by decide +kernel
theorem d121_59 : decode (xbc 121) 59 = .ok (.iload_n 1, 1) := by decide +kernel
theorem d121_60 : decode (xbc 121) 60 = .ok (.iadd, 1) := by decide +kernel
theorem d121_61 : decode (xbc 121) 61 = .ok (.aload_n 0, 1) := by decide +kernel
theorem d121_62 : decode (xbc 121) 62 = .ok (.aload_n 0, 1) := by decide +kernel
theorem d121_63 : decode (xbc 121) 63 = .ok (.getfield 13, 3) := by decide +kernel
theorem d121_66 : decode (xbc 121) 66 = .ok (.bipush 49, 2) := by decide +kernel
theorem d121_68 : decode (xbc 121) 68 = .ok (.iload_n 1, 1) := by decide +kernel
theorem d121_69 : decode (xbc 121) 69 = .ok (.iadd, 1) := by decide +kernel
theorem d121_70 : decode (xbc 121) 70 = .ok (.iaload, 1) := by decide +kernel
theorem d121_71 : decode (xbc 121) 71 = .ok (.aload_n 0, 1) := by decide +kernel
theorem d121_72 : decode (xbc 121) 72 = .ok (.getfield 13, 3) := by decide +kernel
theorem d121_75 : decode (xbc 121) 75 = .ok (.bipush 57, 2) := by decide +kernel
theorem d121_77 : decode (xbc 121) 77 = .ok (.iload_n 1, 1) := by decide +kernel
theorem d121_78 : decode (xbc 121) 78 = .ok (.iadd, 1) := by decide +kernel
theorem d121_79 : decode (xbc 121) 79 = .ok (.iaload, 1) := by decide +kernel
theorem d121_80 : decode (xbc 121) 80 = .ok (.aload_n 0, 1) := by decide +kernel
theorem d121_81 : decode (xbc 121) 81 = .ok (.getfield 13, 3) := by decide +kernel
theorem d121_84 : decode (xbc 121) 84 = .ok (.bipush 40, 2) := by decide +kernel
theorem d121_86 : decode (xbc 121) 86 = .ok (.iaload, 1) := by decide +kernel
theorem d121_87 : decode (xbc 121) 87 = .ok (.iconst 1, 1) := by decide +kernel
theorem d121_88 : decode (xbc 121) 88 = .ok (.invokevirtual 70, 3) := by decide +kernel
theorem d121_91 : decode (xbc 121) 91 = .ok (.iastore, 1) := by decide +kernel
theorem d121_92 : decode (xbc 121) 92 = .ok (.aload_n 0, 1) := by decide +kernel
theorem d121_93 : decode (xbc 121) 93 = .ok (.iload_n 1, 1) := by decide +kernel
theorem d121_94 : decode (xbc 121) 94 = .ok (.invokevirtual 74, 3) := by decide +kernel
theorem d121_97 : decode (xbc 121) 97 = .ok (.iinc 1 (-1), 3) := by decide +kernel
theorem d121_100 : decode (xbc 121) 100 = .ok (.goto (-81), 3) := by decide +kernel
theorem d121_103 : decode (xbc 121) 103 = .ok (.return_, 1) := by decide +kernel
theorem d122_0 : decode (xbc 122) 0 = .ok (.iload_n 1, 1) := by decide +kernel
theorem d122_1 : decode (xbc 122) 1 = .ok (.iconst 3, 1) := by decide +kernel
theorem d122_2 : decode (xbc 122) 2 = .ok (.if_icmp .le 17, 3) := by decide +kernel
theorem d122_5 : decode (xbc 122) 5 = .ok (.aload_n 0, 1) := by decide +kernel
theorem d122_6 : decode (xbc 122) 6 = .ok (.iconst 2, 1) := by decide +kernel
theorem d122_7 : decode (xbc 122) 7 = .ok (.iload_n 1, 1) := by decide +kernel
theorem d122_8 : decode (xbc 122) 8 = .ok (.iconst 4, 1) := by decide +kernel
theorem d122_9 : decode (xbc 122) 9 = .ok (.isub, 1) := by decide +kernel
theorem d122_10 : decode (xbc 122) 10 = .ok (.imul, 1) := by decide +kernel
theorem d122_11 : decode (xbc 122) 11 = .ok (.iload_n 2, 1) := by decide +kernel
theorem d122_12 : decode (xbc 122) 12 = .ok (.iadd, 1) := by decide +kernel
theorem d122_13 : decode (xbc 122) 13 = .ok (.invokevirtual 62, 3) := by decide +kernel
theorem d122_16 : decode (xbc 122) 16 = .ok (.goto 16, 3) := by decide +kernel
theorem d122_19 : decode (xbc 122) 19 = .ok (.aload_n 0, 1) := by decide +kernel
theorem d122_20 : decode (xbc 122) 20 = .ok (.getfield 13, 3) := by decide +kernel
theorem d122_23 : decode (xbc 122) 23 = .ok (.bipush 41, 2) := by decide +kernel
theorem d122_25 : decode (xbc 122) 25 = .ok (.iconst 2, 1) := by decide +kernel
theorem d122_26 : decode (xbc 122) 26 = .ok (.iload_n 1, 1) := by decide +kernel
theorem d122_27 : decode (xbc 122) 27 = .ok (.imul, 1) := by decide +kernel
theorem d122_28 : decode (xbc 122) 28 = .ok (.iadd, 1) := by decide +kernel
theorem d122_29 : decode (xbc 122) 29 = .ok (.iload_n 2, 1) := by decide +kernel
theorem d122_30 : decode (xbc 122) 30 = .ok (.iadd, 1) := by decide +kernel
theorem d122_31 : decode (xbc 122) 31 = .ok (.iaload, 1) := by decide +kernel
theorem d122_32 : decode (xbc 122) 32 = .ok (.ireturn, 1) := by decide +kernel
theorem d123_0 : decode (xbc 123) 0 = .ok (.iconst 0, 1) := by decide +kernel
theorem d123_1 : decode (xbc 123) 1 = .ok (.istore_n 2, 1) := by decide +kernel
theorem d123_2 : decode (xbc 123) 2 = .ok (.iload_n 2, 1) := by decide +kernel
theorem d123_3 : decode (xbc 123) 3 = .ok (.bipush 8, 2) := by decide +kernel
theorem d123_5 : decode (xbc 123) 5 = .ok (.if_icmp .ge 34, 3) := by decide +kernel
theorem d123_8 : decode (xbc 123) 8 = .ok (.aload_n 0, 1) := by decide +kernel
theorem d123_9 : decode (xbc 123) 9 = .ok (.getfield 13, 3) := by decide +kernel
theorem d123_12 : decode (xbc 123) 12 = .ok (.bipush 16, 2) := by decide +kernel
theorem d123_14 : decode (xbc 123) 14 = .ok (.iload_n 2, 1) := by decide +kernel
theorem d123_15 : decode (xbc 123) 15 = .ok (.iadd, 1) := by decide +kernel
theorem d123_16 : decode (xbc 123) 16 = .ok (.iaload, 1) := by decide +kernel
theorem d123_17 : decode (xbc 123) 17 = .ok (.iload_n 1, 1) := by decide +kernel
theorem d123_18 : decode (xbc 123) 18 = .ok (.if_icmp .ne 15, 3) := by decide +kernel
theorem d123_21 : decode (xbc 123) 21 = .ok (.aload_n 0, 1) := by decide +kernel
theorem d123_22 : decode (xbc 123) 22 = .ok (.getfield 13, 3) := by decide +kernel
theorem d123_25 : decode (xbc 123) 25 = .ok (.iload_n 2, 1) := by decide +kernel
theorem d123_26 : decode (xbc 123) 26 = .ok (.iaload, 1) := by decide +kernel
theorem d123_27 : decode (xbc 123) 27 = .ok (.iconst 1, 1) := by decide +kernel
theorem d123_28 : decode (xbc 123) 28 = .ok (.if_icmp .ne 5, 3) := by decide +kernel
theorem d123_31 : decode (xbc 123) 31 = .ok (.iload_n 2, 1) := by decide +kernel
theorem d123_32 : decode (xbc 123) 32 = .ok (.ireturn, 1) := by decide +kernel
theorem d123_33 : decode (xbc 123) 33 = .ok (.iinc 2 1, 3) := by decide +kernel
theorem d123_36 : decode (xbc 123) 36 = .ok (.goto (-34), 3) := by decide +kernel
theorem d123_39 : decode (xbc 123) 39 = .ok (.bipush (-6), 2) := by decide +kernel
theorem d123_41 : decode (xbc 123) 41 = .ok (.ireturn, 1) := by decide +kernel
theorem d124_0 : decode (xbc 124) 0 = .ok (.iload_n 1, 1) := by decide +kernel
theorem d124_1 : decode (xbc 124) 1 = .ok (.ifCond .lt 7, 3) := by decide +kernel
theorem d124_4 : decode (xbc 124) 4 = .ok (.iload_n 2, 1) := by decide +kernel
theorem d124_5 : decode (xbc 124) 5 = .ok (.ifCond .ge 13, 3) := by decide +kernel
theorem d124_8 : decode (xbc 124) 8 = .ok (.iload_n 1, 1) := by decide +kernel
theorem d124_9 : decode (xbc 124) 9 = .ok (.ifCond .ge 7, 3) := by decide +kernel
theorem d124_12 : decode (xbc 124) 12 = .ok (.iload_n 2, 1) := by decide +kernel
theorem d124_13 : decode (xbc 124) 13 = .ok (.goto 4, 3) := by decide +kernel
theorem d124_16 : decode (xbc 124) 16 = .ok (.iload_n 1, 1) := by decide +kernel
theorem d124_17 : decode (xbc 124) 17 = .ok (.ireturn, 1) := by decide +kernel
theorem d124_18 : decode (xbc 124) 18 = .ok (.aload_n 0, 1) := by decide +kernel
theorem d124_19 : decode (xbc 124) 19 = .ok (.iload_n 1, 1) := by decide +kernel
theorem d124_20 : decode (xbc 124) 20 = .ok (.iload_n 2, 1) := by decide +kernel
theorem d124_21 : decode (xbc 124) 21 = .ok (.iload_n 3, 1) := by decide +kernel
theorem d124_22 : decode (xbc 124) 22 = .ok (.iload 4, 2) := by decide +kernel
theorem d124_24 : decode (xbc 124) 24 = .ok (.invokevirtual 58, 3) := by decide +kernel
theorem d124_27 : decode (xbc 124) 27 = .ok (.ifCond .eq 7, 3) := by decide +kernel
theorem d124_30 : decode (xbc 124) 30 = .ok (.iload_n 1, 1) := by decide +kernel
theorem d124_31 : decode (xbc 124) 31 = .ok (.goto 4, 3) := by decide +kernel
theorem d124_34 : decode (xbc 124) 34 = .ok (.iload_n 2, 1) := by decide +kernel
theorem d124_35 : decode (xbc 124) 35 = .ok (.ireturn, 1) := by decide +kernel
theorem d125_0 : decode (xbc 125) 0 = .ok (.aload_n 0, 1) := by decide +kernel
theorem d125_1 : decode (xbc 125) 1 = .ok (.getfield 13, 3) := by decide +kernel
theorem d125_4 : decode (xbc 125) 4 = .ok (.bipush 24, 2) := by decide +kernel
theorem d125_6 : decode (xbc 125) 6 = .ok (.iload_n 1, 1) := by decide +kernel
theorem d125_7 : decode (xbc 125) 7 = .ok (.iadd, 1) := by decide +kernel
theorem d125_8 : decode (xbc 125) 8 = .ok (.iaload, 1) := by decide +kernel
theorem d125_9 : decode (xbc 125) 9 = .ok (.iload 4, 2) := by decide +kernel
theorem d125_11 : decode (xbc 125) 11 = .ok (.imul, 1) := by decide +kernel
theorem d125_12 : decode (xbc 125) 12 = .ok (.aload_n 0, 1) := by decide +kernel
theorem d125_13 : decode (xbc 125) 13 = .ok (.getfield 13, 3) := by decide +kernel
theorem d125_16 : decode (xbc 125) 16 = .ok (.bipush 32, 2) := by decide +kernel
theorem d125_18 : decode (xbc 125) 18 = .ok (.iload_n 1, 1) := by decide +kernel
theorem d125_19 : decode (xbc 125) 19 = .ok (.iadd, 1) := by decide +kernel
theorem d125_20 : decode (xbc 125) 20 = .ok (.iaload, 1) := by decide +kernel
theorem d125_21 : decode (xbc 125) 21 = .ok (.iload_n 3, 1) := by decide +kernel
theorem d125_22 : decode (xbc 125) 22 = .ok (.imul, 1) := by decide +kernel
theorem d125_23 : decode (xbc 125) 23 = .ok (.iadd, 1) := by decide +kernel
theorem d125_24 : decode (xbc 125) 24 = .ok (.aload_n 0, 1) := by decide +kernel
theorem d125_25 : decode (xbc 125) 25 = .ok (.getfield 13, 3) := by decide +kernel
theorem d125_28 : decode (xbc 125) 28 = .ok (.bipush 24, 2) := by decide +kernel
theorem d125_30 : decode (xbc 125) 30 = .ok (.iload_n 2, 1) := by decide +kernel
theorem d125_31 : decode (xbc 125) 31 = .ok (.iadd, 1) := by decide +kernel
theorem d125_32 : decode (xbc 125) 32 = .ok (.iaload, 1) := by decide +kernel
theorem d125_33 : decode (xbc 125) 33 = .ok (.iload 4, 2) := by decide +kernel
theorem d125_35 : decode (xbc 125) 35 = .ok (.imul, 1) := by decide +kernel
theorem d125_36 : decode (xbc 125) 36 = .ok (.isub, 1) := by decide +kernel
theorem d125_37 : decode (xbc 125) 37 = .ok (.aload_n 0, 1) := by decide +kernel
theorem d125_38 : decode (xbc 125) 38 = .ok (.getfield 13, 3) := by decide +kernel
theorem d125_41 : decode (xbc 125) 41 = .ok (.bipush 32, 2) := by decide +kernel
theorem d125_43 : decode (xbc 125) 43 = .ok (.iload_n 2, 1) := by decide +kernel
theorem d125_44 : decode (xbc 125) 44 = .ok (.iadd, 1) := by decide +kernel
theorem d125_45 : decode (xbc 125) 45 = .ok (.iaload, 1) := by decide +kernel
theorem d125_46 : decode (xbc 125) 46 = .ok (.iload_n 3, 1) := by decide +kernel
theorem d125_47 : decode (xbc 125) 47 = .ok (.imul, 1) := by decide +kernel
theorem d125_48 : decode (xbc 125) 48 = .ok (.isub, 1) := by decide +kernel
theorem d125_49 : decode (xbc 125) 49 = .ok (.istore 5, 2) := by decide +kernel
theorem d125_51 : decode (xbc 125) 51 = .ok (.iload 5, 2) := by decide +kernel
theorem d125_53 : decode (xbc 125) 53 = .ok (.ifCond .eq 14, 3) := by decide +kernel
theorem d125_56 : decode (xbc 125) 56 = .ok (.iload 5, 2) := by decide +kernel
theorem d125_58 : decode (xbc 125) 58 = .ok (.ifCond .le 7, 3) := by decide +kernel
theorem d125_61 : decode (xbc 125) 61 = .ok (.iconst 1, 1) := by decide +kernel
theorem d125_62 : decode (xbc 125) 62 = .ok (.goto 4, 3) := by decide +kernel
theorem d125_65 : decode (xbc 125) 65 = .ok (.iconst 0, 1) := by decide +kernel
theorem d125_66 : decode (xbc 125) 66 = .ok (.ireturn, 1) := by decide +kernel
theorem d125_67 : decode (xbc 125) 67 = .ok (.aload_n 0, 1) := by decide +kernel
theorem d125_68 : decode (xbc 125) 68 = .ok (.getfield 13, 3) := by decide +kernel
theorem d125_71 : decode (xbc 125) 71 = .ok (.bipush 32, 2) := by decide +kernel
theorem d125_73 : decode (xbc 125) 73 = .ok (.iload_n 1, 1) := by decide +kernel
theorem d125_74 : decode (xbc 125) 74 = .ok (.iadd, 1) := by decide +kernel
theorem d125_75 : decode (xbc 125) 75 = .ok (.iaload, 1) := by decide +kernel
theorem d125_76 : decode (xbc 125) 76 = .ok (.aload_n 0, 1) := by decide +kernel
theorem d125_77 : decode (xbc 125) 77 = .ok (.getfield 13, 3) := by decide +kernel
theorem d125_80 : decode (xbc 125) 80 = .ok (.bipush 32, 2) := by decide +kernel
theorem d125_82 : decode (xbc 125) 82 = .ok (.iload_n 2, 1) := by decide +kernel
theorem d125_83 : decode (xbc 125) 83 = .ok (.iadd, 1) := by decide +kernel
theorem d125_84 : decode (xbc 125) 84 = .ok (.iaload, 1) := by decide +kernel
theorem d125_85 : decode (xbc 125) 85 = .ok (.if_icmp .eq 32, 3) := by decide +kernel
theorem d125_88 : decode (xbc 125) 88 = .ok (.aload_n 0, 1) := by decide +kernel
theorem d125_89 : decode (xbc 125) 89 = .ok (.getfield 13, 3) := by decide +kernel
theorem d125_92 : decode (xbc 125) 92 = .ok (.bipush 32, 2) := by decide +kernel
theorem d125_94 : decode (xbc 125) 94 = .ok (.iload_n 1, 1) := by decide +kernel
theorem d125_95 : decode (xbc 125) 95 = .ok (.iadd, 1) := by decide +kernel
theorem d125_96 : decode (xbc 125) 96 = .ok (.iaload, 1) := by decide +kernel
theorem d125_97 : decode (xbc 125) 97 = .ok (.aload_n 0, 1) := by decide +kernel
theorem d125_98 : decode (xbc 125) 98 = .ok (.getfield 13, 3) := by decide +kernel
theorem d125_101 : decode (xbc 125) 101 = .ok (.bipush 32, 2) := by decide +kernel
theorem d125_103 : decode (xbc 125) 103 = .ok (.iload_n 2, 1) := by decide +kernel
theorem d125_104 : decode (xbc 125) 104 = .ok (.iadd, 1) := by decide +kernel
theorem d125_105 : decode (xbc 125) 105 = .ok (.iaload, 1) := by decide +kernel
theorem d125_106 : decode (xbc 125) 106 = .ok (.if_icmp .le 7, 3) := by decide +kernel
theorem d125_109 : decode (xbc 125) 109 = .ok (.iconst 1, 1) := by decide +kernel
theorem d125_110 : decode (xbc 125) 110 = .ok (.goto 17, 3) := by decide +kernel
theorem d125_113 : decode (xbc 125) 113 = .ok (.iconst 0, 1) := by decide +kernel
theorem d125_114 : decode (xbc 125) 114 = .ok (.goto 13, 3) := by decide +kernel
theorem d125_117 : decode (xbc 125) 117 = .ok (.iload_n 1, 1) := by decide +kernel
theorem d125_118 : decode (xbc 125) 118 = .ok (.iload_n 2, 1) := by decide +kernel
theorem d125_119 : decode (xbc 125) 119 = .ok (.if_icmp .ge 7, 3) := by decide +kernel
theorem d125_122 : decode (xbc 125) 122 = .ok (.iconst 1, 1) := by decide +kernel
theorem d125_123 : decode (xbc 125) 123 = .ok (.goto 4, 3) := by decide +kernel
theorem d125_126 : decode (xbc 125) 126 = .ok (.iconst 0, 1) := by decide +kernel
theorem d125_127 : decode (xbc 125) 127 = .ok (.ireturn, 1) := by decide +kernel
theorem d126_0 : decode (xbc 126) 0 = .ok (.aload_n 0, 1) := by decide +kernel
theorem d126_1 : decode (xbc 126) 1 = .ok (.getfield 13, 3) := by decide +kernel
theorem d126_4 : decode (xbc 126) 4 = .ok (.bipush 49, 2) := by decide +kernel
theorem d126_6 : decode (xbc 126) 6 = .ok (.iload_n 1, 1) := by decide +kernel
theorem d126_7 : decode (xbc 126) 7 = .ok (.iadd, 1) := by decide +kernel
theorem d126_8 : decode (xbc 126) 8 = .ok (.iaload, 1) := by decide +kernel
theorem d126_9 : decode (xbc 126) 9 = .ok (.istore_n 2, 1) := by decide +kernel
theorem d126_10 : decode (xbc 126) 10 = .ok (.aload_n 0, 1) := by decide +kernel
theorem d126_11 : decode (xbc 126) 11 = .ok (.getfield 13, 3) := by decide +kernel
theorem d126_14 : decode (xbc 126) 14 = .ok (.bipush 57, 2) := by decide +kernel
theorem d126_16 : decode (xbc 126) 16 = .ok (.iload_n 1, 1) := by decide +kernel
theorem d126_17 : decode (xbc 126) 17 = .ok (.iadd, 1) := by decide +kernel
theorem d126_18 : decode (xbc 126) 18 = .ok (.iaload, 1) := by decide +kernel
theorem d126_19 : decode (xbc 126) 19 = .ok (.istore_n 3, 1) := by decide +kernel
theorem d126_20 : decode (xbc 126) 20 = .ok (.aload_n 0, 1) := by decide +kernel
theorem d126_21 : decode (xbc 126) 21 = .ok (.getfield 13, 3) := by decide +kernel
theorem d126_24 : decode (xbc 126) 24 = .ok (.bipush 65, 2) := by decide +kernel
theorem d126_26 : decode (xbc 126) 26 = .ok (.iload_n 1, 1) := by decide +kernel
theorem d126_27 : decode (xbc 126) 27 = .ok (.iadd, 1) := by decide +kernel
theorem d126_28 : decode (xbc 126) 28 = .ok (.iconst 0, 1) := by decide +kernel
theorem d126_29 : decode (xbc 126) 29 = .ok (.iastore, 1) := by decide +kernel
theorem d126_30 : decode (xbc 126) 30 = .ok (.iload_n 2, 1) := by decide +kernel
theorem d126_31 : decode (xbc 126) 31 = .ok (.ifCond .lt 7, 3) := by decide +kernel
theorem d126_34 : decode (xbc 126) 34 = .ok (.iload_n 3, 1) := by decide +kernel
theorem d126_35 : decode (xbc 126) 35 = .ok (.ifCond .ge 4, 3) := by decide +kernel
theorem d126_38 : decode (xbc 126) 38 = .ok (.return_, 1) := by decide +kernel
theorem d126_39 : decode (xbc 126) 39 = .ok (.aload_n 0, 1) := by decide +kernel
theorem d126_40 : decode (xbc 126) 40 = .ok (.getfield 13, 3) := by decide +kernel
theorem d126_43 : decode (xbc 126) 43 = .ok (.bipush 41, 2) := by decide +kernel
theorem d126_45 : decode (xbc 126) 45 = .ok (.iload_n 1, 1) := by decide +kernel
theorem d126_46 : decode (xbc 126) 46 = .ok (.iadd, 1) := by decide +kernel
theorem d126_47 : decode (xbc 126) 47 = .ok (.iaload, 1) := by decide +kernel
theorem d126_48 : decode (xbc 126) 48 = .ok (.istore 4, 2) := by decide +kernel
theorem d126_50 : decode (xbc 126) 50 = .ok (.iload 4, 2) := by decide +kernel
theorem d126_52 : decode (xbc 126) 52 = .ok (.iload_n 2, 1) := by decide +kernel
theorem d126_53 : decode (xbc 126) 53 = .ok (.if_icmp .ne 7, 3) := by decide +kernel
theorem d126_56 : decode (xbc 126) 56 = .ok (.iload_n 3, 1) := by decide +kernel
theorem d126_57 : decode (xbc 126) 57 = .ok (.goto 4, 3) := by decide +kernel
theorem d126_60 : decode (xbc 126) 60 = .ok (.iload_n 2, 1) := by decide +kernel
theorem d126_61 : decode (xbc 126) 61 = .ok (.istore 5, 2) := by decide +kernel
theorem d126_63 : decode (xbc 126) 63 = .ok (.aload_n 0, 1) := by decide +kernel
theorem d126_64 : decode (xbc 126) 64 = .ok (.getfield 13, 3) := by decide +kernel
theorem d126_67 : decode (xbc 126) 67 = .ok (.bipush 32, 2) := by decide +kernel
theorem d126_69 : decode (xbc 126) 69 = .ok (.iload 5, 2) := by decide +kernel
theorem d126_71 : decode (xbc 126) 71 = .ok (.iadd, 1) := by decide +kernel
theorem d126_72 : decode (xbc 126) 72 = .ok (.iaload, 1) := by decide +kernel
theorem d126_73 : decode (xbc 126) 73 = .ok (.aload_n 0, 1) := by decide +kernel
theorem d126_74 : decode (xbc 126) 74 = .ok (.getfield 13, 3) := by decide +kernel
theorem d126_77 : decode (xbc 126) 77 = .ok (.bipush 32, 2) := by decide +kernel
theorem d126_79 : decode (xbc 126) 79 = .ok (.iload 4, 2) := by decide +kernel
theorem d126_81 : decode (xbc 126) 81 = .ok (.iadd, 1) := by decide +kernel
theorem d126_82 : decode (xbc 126) 82 = .ok (.iaload, 1) := by decide +kernel
theorem d126_83 : decode (xbc 126) 83 = .ok (.isub, 1) := by decide +kernel
theorem d126_84 : decode (xbc 126) 84 = .ok (.istore 6, 2) := by decide +kernel
theorem d126_86 : decode (xbc 126) 86 = .ok (.iload 6, 2) := by decide +kernel
theorem d126_88 : decode (xbc 126) 88 = .ok (.ifCond .le 124, 3) := by decide +kernel
theorem d126_91 : decode (xbc 126) 91 = .ok (.aload_n 0, 1) := by decide +kernel
theorem d126_92 : decode (xbc 126) 92 = .ok (.getfield 13, 3) := by decide +kernel
theorem d126_95 : decode (xbc 126) 95 = .ok (.bipush 73, 2) := by decide +kernel
theorem d126_97 : decode (xbc 126) 97 = .ok (.iaload, 1) := by decide +kernel
theorem d126_98 : decode (xbc 126) 98 = .ok (.istore 7, 2) := by decide +kernel
theorem d126_100 : decode (xbc 126) 100 = .ok (.aload_n 0, 1) := by decide +kernel
theorem d126_101 : decode (xbc 126) 101 = .ok (.getfield 13, 3) := by decide +kernel
theorem d126_104 : decode (xbc 126) 104 = .ok (.bipush 73, 2) := by decide +kernel
theorem d126_106 : decode (xbc 126) 106 = .ok (.dup2, 1) := by decide +kernel
theorem d126_107 : decode (xbc 126) 107 = .ok (.iaload, 1) := by decide +kernel
theorem d126_108 : decode (xbc 126) 108 = .ok (.iconst 1, 1) := by decide +kernel
theorem d126_109 : decode (xbc 126) 109 = .ok (.iadd, 1) := by decide +kernel
theorem d126_110 : decode (xbc 126) 110 = .ok (.iastore, 1) := by decide +kernel
theorem d126_111 : decode (xbc 126) 111 = .ok (.aload_n 0, 1) := by decide +kernel
theorem d126_112 : decode (xbc 126) 112 = .ok (.getfield 13, 3) := by decide +kernel
theorem d126_115 : decode (xbc 126) 115 = .ok (.bipush 74, 2) := by decide +kernel
theorem d126_117 : decode (xbc 126) 117 = .ok (.dup2, 1) := by decide +kernel
theorem d126_118 : decode (xbc 126) 118 = .ok (.iaload, 1) := by decide +kernel
theorem d126_119 : decode (xbc 126) 119 = .ok (.iconst 1, 1) := by decide +kernel
theorem d126_120 : decode (xbc 126) 120 = .ok (.iadd, 1) := by decide +kernel
theorem d126_121 : decode (xbc 126) 121 = .ok (.iastore, 1) := by decide +kernel
theorem d126_122 : decode (xbc 126) 122 = .ok (.aload_n 0, 1) := by decide +kernel
theorem d126_123 : decode (xbc 126) 123 = .ok (.getfield 13, 3) := by decide +kernel
theorem d126_126 : decode (xbc 126) 126 = .ok (.bipush 75, 2) := by decide +kernel
theorem d126_128 : decode (xbc 126) 128 = .ok (.iload 7, 2) := by decide +kernel
theorem d126_130 : decode (xbc 126) 130 = .ok (.iadd, 1) := by decide +kernel
theorem d126_131 : decode (xbc 126) 131 = .ok (.iload_n 1, 1) := by decide +kernel
theorem d126_132 : decode (xbc 126) 132 = .ok (.iastore, 1) := by decide +kernel
theorem d126_133 : decode (xbc 126) 133 = .ok (.aload_n 0, 1) := by decide +kernel
theorem d126_134 : decode (xbc 126) 134 = .ok (.getfield 13, 3) := by decide +kernel
theorem d126_137 : decode (xbc 126) 137 = .ok (.sipush 139, 3) := by decide +kernel
theorem d126_140 : decode (xbc 126) 140 = .ok (.iload 7, 2) := by decide +kernel
theorem d126_142 : decode (xbc 126) 142 = .ok (.iadd, 1) := by decide +kernel
theorem d126_143 : decode (xbc 126) 143 = .ok (.aload_n 0, 1) := by decide +kernel
theorem d126_144 : decode (xbc 126) 144 = .ok (.getfield 13, 3) := by decide +kernel
theorem d126_147 : decode (xbc 126) 147 = .ok (.bipush 24, 2) := by decide +kernel
theorem d126_149 : decode (xbc 126) 149 = .ok (.iload 4, 2) := by decide +kernel
theorem d126_151 : decode (xbc 126) 151 = .ok (.iadd, 1) := by decide +kernel
theorem d126_152 : decode (xbc 126) 152 = .ok (.iaload, 1) := by decide +kernel
theorem d126_153 : decode (xbc 126) 153 = .ok (.aload_n 0, 1) := by decide +kernel
theorem d126_154 : decode (xbc 126) 154 = .ok (.getfield 13, 3) := by decide +kernel
theorem d126_157 : decode (xbc 126) 157 = .ok (.bipush 24, 2) := by decide +kernel
theorem d126_159 : decode (xbc 126) 159 = .ok (.iload 5, 2) := by decide +kernel
theorem d126_161 : decode (xbc 126) 161 = .ok (.iadd, 1) := by decide +kernel
theorem d126_162 : decode (xbc 126) 162 = .ok (.iaload, 1) := by decide +kernel
theorem d126_163 : decode (xbc 126) 163 = .ok (.isub, 1) := by decide +kernel
theorem d126_164 : decode (xbc 126) 164 = .ok (.iastore, 1) := by decide +kernel
theorem d126_165 : decode (xbc 126) 165 = .ok (.aload_n 0, 1) := by decide +kernel
theorem d126_166 : decode (xbc 126) 166 = .ok (.getfield 13, 3) := by decide +kernel
theorem d126_169 : decode (xbc 126) 169 = .ok (.sipush 203, 3) := by decide +kernel
theorem d126_172 : decode (xbc 126) 172 = .ok (.iload 7, 2) := by decide +kernel
theorem d126_174 : decode (xbc 126) 174 = .ok (.iadd, 1) := by decide +kernel
theorem d126_175 : decode (xbc 126) 175 = .ok (.iload 6, 2) := by decide +kernel
theorem d126_177 : decode (xbc 126) 177 = .ok (.iastore, 1) := by decide +kernel
theorem d126_178 : decode (xbc 126) 178 = .ok (.aload_n 0, 1) := by decide +kernel
theorem d126_179 : decode (xbc 126) 179 = .ok (.getfield 13, 3) := by decide +kernel
theorem d126_182 : decode (xbc 126) 182 = .ok (.sipush 267, 3) := by decide +kernel
theorem d126_185 : decode (xbc 126) 185 = .ok (.iload 7, 2) := by decide +kernel
theorem d126_187 : decode (xbc 126) 187 = .ok (.iadd, 1) := by decide +kernel
theorem d126_188 : decode (xbc 126) 188 = .ok (.aload_n 0, 1) := by decide +kernel
theorem d126_189 : decode (xbc 126) 189 = .ok (.getfield 13, 3) := by decide +kernel
theorem d126_192 : decode (xbc 126) 192 = .ok (.bipush 74, 2) := by decide +kernel
theorem d126_194 : decode (xbc 126) 194 = .ok (.iaload, 1) := by decide +kernel
theorem d126_195 : decode (xbc 126) 195 = .ok (.iastore, 1) := by decide +kernel
theorem d126_196 : decode (xbc 126) 196 = .ok (.aload_n 0, 1) := by decide +kernel
theorem d126_197 : decode (xbc 126) 197 = .ok (.getfield 13, 3) := by decide +kernel
theorem d126_200 : decode (xbc 126) 200 = .ok (.bipush 65, 2) := by decide +kernel
theorem d126_202 : decode (xbc 126) 202 = .ok (.iload_n 1, 1) := by decide +kernel
theorem d126_203 : decode (xbc 126) 203 = .ok (.iadd, 1) := by decide +kernel
theorem d126_204 : decode (xbc 126) 204 = .ok (.aload_n 0, 1) := by decide +kernel
theorem d126_205 : decode (xbc 126) 205 = .ok (.getfield 13, 3) := by decide +kernel
theorem d126_208 : decode (xbc 126) 208 = .ok (.bipush 74, 2) := by decide +kernel
theorem d126_210 : decode (xbc 126) 210 = .ok (.iaload, 1) := by decide +kernel
theorem d126_211 : decode (xbc 126) 211 = .ok (.iastore, 1) := by decide +kernel
theorem d126_212 : decode (xbc 126) 212 = .ok (.return_, 1) := by decide +kernel
theorem d127_0 : decode (xbc 127) 0 = .ok (.iconst 0, 1) := by decide +kernel
theorem d127_1 : decode (xbc 127) 1 = .ok (.istore_n 1, 1) := by decide +kernel
theorem d127_2 : decode (xbc 127) 2 = .ok (.iload_n 1, 1) := by decide +kernel
theorem d127_3 : decode (xbc 127) 3 = .ok (.sipush 331, 3) := by decide +kernel
theorem d127_6 : decode (xbc 127) 6 = .ok (.if_icmp .ge 21, 3) := by decide +kernel
theorem d127_9 : decode (xbc 127) 9 = .ok (.aload_n 0, 1) := by decide +kernel
theorem d127_10 : decode (xbc 127) 10 = .ok (.getfield 7, 3) := by decide +kernel
theorem d127_13 : decode (xbc 127) 13 = .ok (.iload_n 1, 1) := by decide +kernel
theorem d127_14 : decode (xbc 127) 14 = .ok (.aload_n 0, 1) := by decide +kernel
theorem d127_15 : decode (xbc 127) 15 = .ok (.getfield 13, 3) := by decide +kernel
theorem d127_18 : decode (xbc 127) 18 = .ok (.iload_n 1, 1) := by decide +kernel
theorem d127_19 : decode (xbc 127) 19 = .ok (.iaload, 1) := by decide +kernel
theorem d127_20 : decode (xbc 127) 20 = .ok (.iastore, 1) := by decide +kernel
theorem d127_21 : decode (xbc 127) 21 = .ok (.iinc 1 1, 3) := by decide +kernel
theorem d127_24 : decode (xbc 127) 24 = .ok (.goto (-22), 3) := by decide +kernel
theorem d127_27 : decode (xbc 127) 27 = .ok (.return_, 1) := by decide +kernel
theorem d128_0 : decode (xbc 128) 0 = .ok (.iload_n 1, 1) := by decide +kernel
theorem d128_1 : decode (xbc 128) 1 = .ok (.invokestatic 78, 3) := by decide +kernel
theorem d128_4 : decode (xbc 128) 4 = .ok (.ifCond .ne 5, 3) := by decide +kernel
theorem d128_7 : decode (xbc 128) 7 = .ok (.iconst (-1), 1) := by decide +kernel
theorem d128_8 : decode (xbc 128) 8 = .ok (.ireturn, 1) := by decide +kernel
theorem d128_9 : decode (xbc 128) 9 = .ok (.iload_n 2, 1) := by decide +kernel
theorem d128_10 : decode (xbc 128) 10 = .ok (.iconst 0, 1) := by decide +kernel
theorem d128_11 : decode (xbc 128) 11 = .ok (.iconst 1, 1) := by decide +kernel
theorem d128_12 : decode (xbc 128) 12 = .ok (.invokestatic 38, 3) := by decide +kernel
theorem d128_15 : decode (xbc 128) 15 = .ok (.ifCond .eq 28, 3) := by decide +kernel
theorem d128_18 : decode (xbc 128) 18 = .ok (.iload_n 3, 1) := by decide +kernel
theorem d128_19 : decode (xbc 128) 19 = .ok (.sipush (-1000), 3) := by decide +kernel
theorem d128_22 : decode (xbc 128) 22 = .ok (.sipush 1000, 3) := by decide +kernel
theorem d128_25 : decode (xbc 128) 25 = .ok (.invokestatic 38, 3) := by decide +kernel
theorem d128_28 : decode (xbc 128) 28 = .ok (.ifCond .eq 15, 3) := by decide +kernel
theorem d128_31 : decode (xbc 128) 31 = .ok (.iload 4, 2) := by decide +kernel
theorem d128_33 : decode (xbc 128) 33 = .ok (.bipush (-50), 2) := by decide +kernel
theorem d128_35 : decode (xbc 128) 35 = .ok (.bipush 50, 2) := by decide +kernel
theorem d128_37 : decode (xbc 128) 37 = .ok (.invokestatic 38, 3) := by decide +kernel
theorem d128_40 : decode (xbc 128) 40 = .ok (.ifCond .ne 6, 3) := by decide +kernel
theorem d128_43 : decode (xbc 128) 43 = .ok (.bipush (-2), 2) := by decide +kernel
theorem d128_45 : decode (xbc 128) 45 = .ok (.ireturn, 1) := by decide +kernel
theorem d128_46 : decode (xbc 128) 46 = .ok (.aload_n 0, 1) := by decide +kernel
theorem d128_47 : decode (xbc 128) 47 = .ok (.invokevirtual 82, 3) := by decide +kernel
theorem d128_50 : decode (xbc 128) 50 = .ok (.iload_n 2, 1) := by decide +kernel
theorem d128_51 : decode (xbc 128) 51 = .ok (.iconst 1, 1) := by decide +kernel
theorem d128_52 : decode (xbc 128) 52 = .ok (.if_icmp .ne 19, 3) := by decide +kernel
theorem d128_55 : decode (xbc 128) 55 = .ok (.aload_n 0, 1) := by decide +kernel
theorem d128_56 : decode (xbc 128) 56 = .ok (.getfield 13, 3) := by decide +kernel
theorem d128_59 : decode (xbc 128) 59 = .ok (.bipush 16, 2) := by decide +kernel
theorem d128_61 : decode (xbc 128) 61 = .ok (.iload_n 1, 1) := by decide +kernel
theorem d128_62 : decode (xbc 128) 62 = .ok (.iadd, 1) := by decide +kernel
theorem d128_63 : decode (xbc 128) 63 = .ok (.iaload, 1) := by decide +kernel
theorem d128_64 : decode (xbc 128) 64 = .ok (.iconst 4, 1) := by decide +kernel
theorem d128_65 : decode (xbc 128) 65 = .ok (.if_icmp .ge 6, 3) := by decide +kernel
theorem d128_68 : decode (xbc 128) 68 = .ok (.bipush (-3), 2) := by decide +kernel
theorem d128_70 : decode (xbc 128) 70 = .ok (.ireturn, 1) := by decide +kernel
theorem d128_71 : decode (xbc 128) 71 = .ok (.bipush 10, 2) := by decide +kernel
theorem d128_73 : decode (xbc 128) 73 = .ok (.aload_n 0, 1) := by decide +kernel
theorem d128_74 : decode (xbc 128) 74 = .ok (.getfield 13, 3) := by decide +kernel
theorem d128_77 : decode (xbc 128) 77 = .ok (.bipush 8, 2) := by decide +kernel
theorem d128_79 : decode (xbc 128) 79 = .ok (.iload_n 1, 1) := by decide +kernel
theorem d128_80 : decode (xbc 128) 80 = .ok (.iadd, 1) := by decide +kernel
theorem d128_81 : decode (xbc 128) 81 = .ok (.iaload, 1) := by decide +kernel
theorem d128_82 : decode (xbc 128) 82 = .ok (.imul, 1) := by decide +kernel
theorem d128_83 : decode (xbc 128) 83 = .ok (.aload_n 0, 1) := by decide +kernel
theorem d128_84 : decode (xbc 128) 84 = .ok (.getfield 13, 3) := by decide +kernel
theorem d128_87 : decode (xbc 128) 87 = .ok (.iload_n 1, 1) := by decide +kernel
theorem d128_88 : decode (xbc 128) 88 = .ok (.iaload, 1) := by decide +kernel
theorem d128_89 : decode (xbc 128) 89 = .ok (.iadd, 1) := by decide +kernel
theorem d128_90 : decode (xbc 128) 90 = .ok (.istore 5, 2) := by decide +kernel
theorem d128_92 : decode (xbc 128) 92 = .ok (.aload_n 0, 1) := by decide +kernel
theorem d128_93 : decode (xbc 128) 93 = .ok (.getfield 13, 3) := by decide +kernel
theorem d128_96 : decode (xbc 128) 96 = .ok (.iload_n 1, 1) := by decide +kernel
theorem d128_97 : decode (xbc 128) 97 = .ok (.iconst 1, 1) := by decide +kernel
theorem d128_98 : decode (xbc 128) 98 = .ok (.iastore, 1) := by decide +kernel
theorem d128_99 : decode (xbc 128) 99 = .ok (.aload_n 0, 1) := by decide +kernel
theorem d128_100 : decode (xbc 128) 100 = .ok (.getfield 13, 3) := by decide +kernel
theorem d128_103 : decode (xbc 128) 103 = .ok (.bipush 8, 2) := by decide +kernel
theorem d128_105 : decode (xbc 128) 105 = .ok (.iload_n 1, 1) := by decide +kernel
theorem d128_106 : decode (xbc 128) 106 = .ok (.iadd, 1) := by decide +kernel
theorem d128_107 : decode (xbc 128) 107 = .ok (.iload_n 2, 1) := by decide +kernel
theorem d128_108 : decode (xbc 128) 108 = .ok (.iastore, 1) := by decide +kernel
theorem d128_109 : decode (xbc 128) 109 = .ok (.aload_n 0, 1) := by decide +kernel
theorem d128_110 : decode (xbc 128) 110 = .ok (.getfield 13, 3) := by decide +kernel
theorem d128_113 : decode (xbc 128) 113 = .ok (.bipush 24, 2) := by decide +kernel
theorem d128_115 : decode (xbc 128) 115 = .ok (.iload_n 1, 1) := by decide +kernel
theorem d128_116 : decode (xbc 128) 116 = .ok (.iadd, 1) := by decide +kernel
theorem d128_117 : decode (xbc 128) 117 = .ok (.iload_n 3, 1) := by decide +kernel
theorem d128_118 : decode (xbc 128) 118 = .ok (.iastore, 1) := by decide +kernel
theorem d128_119 : decode (xbc 128) 119 = .ok (.aload_n 0, 1) := by decide +kernel
theorem d128_120 : decode (xbc 128) 120 = .ok (.getfield 13, 3) := by decide +kernel
theorem d128_123 : decode (xbc 128) 123 = .ok (.bipush 32, 2) := by decide +kernel
theorem d128_125 : decode (xbc 128) 125 = .ok (.iload_n 1, 1) := by decide +kernel
theorem d128_126 : decode (xbc 128) 126 = .ok (.iadd, 1) := by decide +kernel
theorem d128_127 : decode (xbc 128) 127 = .ok (.iload 4, 2) := by decide +kernel
theorem d128_129 : decode (xbc 128) 129 = .ok (.iastore, 1) := by decide +kernel
theorem d128_130 : decode (xbc 128) 130 = .ok (.aload_n 0, 1) := by decide +kernel
theorem d128_131 : decode (xbc 128) 131 = .ok (.invokevirtual 32, 3) := by decide +kernel
theorem d128_134 : decode (xbc 128) 134 = .ok (.aload_n 0, 1) := by decide +kernel
theorem d128_135 : decode (xbc 128) 135 = .ok (.invokevirtual 35, 3) := by decide +kernel
theorem d128_138 : decode (xbc 128) 138 = .ok (.iload 5, 2) := by decide +kernel
theorem d128_140 : decode (xbc 128) 140 = .ok (.ireturn, 1) := by decide +kernel
theorem d129_0 : decode (xbc 129) 0 = .ok (.iload_n 0, 1) := by decide +kernel
theorem d129_1 : decode (xbc 129) 1 = .ok (.iconst 0, 1) := by decide +kernel
theorem d129_2 : decode (xbc 129) 2 = .ok (.bipush 7, 2) := by decide +kernel
theorem d129_4 : decode (xbc 129) 4 = .ok (.invokestatic 38, 3) := by decide +kernel
theorem d129_7 : decode (xbc 129) 7 = .ok (.ireturn, 1) := by decide +kernel
theorem d130_0 : decode (xbc 130) 0 = .ok (.iload_n 0, 1) := by decide +kernel
theorem d130_1 : decode (xbc 130) 1 = .ok (.iload_n 1, 1) := by decide +kernel
theorem d130_2 : decode (xbc 130) 2 = .ok (.if_icmp .lt 12, 3) := by decide +kernel
theorem d130_5 : decode (xbc 130) 5 = .ok (.iload_n 0, 1) := by decide +kernel
theorem d130_6 : decode (xbc 130) 6 = .ok (.iload_n 2, 1) := by decide +kernel
theorem d130_7 : decode (xbc 130) 7 = .ok (.if_icmp .gt 7, 3) := by decide +kernel
theorem d130_10 : decode (xbc 130) 10 = .ok (.iconst 1, 1) := by decide +kernel
theorem d130_11 : decode (xbc 130) 11 = .ok (.goto 4, 3) := by decide +kernel
theorem d130_14 : decode (xbc 130) 14 = .ok (.iconst 0, 1) := by decide +kernel
theorem d130_15 : decode (xbc 130) 15 = .ok (.ireturn, 1) := by decide +kernel
theorem d131_0 : decode (xbc 131) 0 = .ok (.iconst 0, 1) := by decide +kernel
theorem d131_1 : decode (xbc 131) 1 = .ok (.istore_n 1, 1) := by decide +kernel
theorem d131_2 : decode (xbc 131) 2 = .ok (.iload_n 1, 1) := by decide +kernel
theorem d131_3 : decode (xbc 131) 3 = .ok (.sipush 331, 3) := by decide +kernel
theorem d131_6 : decode (xbc 131) 6 = .ok (.if_icmp .ge 21, 3) := by decide +kernel
theorem d131_9 : decode (xbc 131) 9 = .ok (.aload_n 0, 1) := by decide +kernel
theorem d131_10 : decode (xbc 131) 10 = .ok (.getfield 13, 3) := by decide +kernel
theorem d131_13 : decode (xbc 131) 13 = .ok (.iload_n 1, 1) := by decide +kernel
theorem d131_14 : decode (xbc 131) 14 = .ok (.aload_n 0, 1) := by decide +kernel
theorem d131_15 : decode (xbc 131) 15 = .ok (.getfield 7, 3) := by decide +kernel
theorem d131_18 : decode (xbc 131) 18 = .ok (.iload_n 1, 1) := by decide +kernel
theorem d131_19 : decode (xbc 131) 19 = .ok (.iaload, 1) := by decide +kernel
theorem d131_20 : decode (xbc 131) 20 = .ok (.iastore, 1) := by decide +kernel
theorem d131_21 : decode (xbc 131) 21 = .ok (.iinc 1 1, 3) := by decide +kernel
theorem d131_24 : decode (xbc 131) 24 = .ok (.goto (-22), 3) := by decide +kernel
theorem d131_27 : decode (xbc 131) 27 = .ok (.aload_n 0, 1) := by decide +kernel
theorem d131_28 : decode (xbc 131) 28 = .ok (.iconst 0, 1) := by decide +kernel
theorem d131_29 : decode (xbc 131) 29 = .ok (.putfield 42, 3) := by decide +kernel
theorem d131_32 : decode (xbc 131) 32 = .ok (.aload_n 0, 1) := by decide +kernel
theorem d131_33 : decode (xbc 131) 33 = .ok (.iconst 0, 1) := by decide +kernel
theorem d131_34 : decode (xbc 131) 34 = .ok (.putfield 46, 3) := by decide +kernel
theorem d131_37 : decode (xbc 131) 37 = .ok (.aload_n 0, 1) := by decide +kernel
theorem d131_38 : decode (xbc 131) 38 = .ok (.iconst 0, 1) := by decide +kernel
theorem d131_39 : decode (xbc 131) 39 = .ok (.putfield 49, 3) := by decide +kernel
theorem d131_42 : decode (xbc 131) 42 = .ok (.aload_n 0, 1) := by decide +kernel
theorem d131_43 : decode (xbc 131) 43 = .ok (.bipush (-6), 2) := by decide +kernel
theorem d131_45 : decode (xbc 131) 45 = .ok (.putfield 52, 3) := by decide +kernel
theorem d131_48 : decode (xbc 131) 48 = .ok (.aload_n 0, 1) := by decide +kernel
theorem d131_49 : decode (xbc 131) 49 = .ok (.bipush (-6), 2) := by decide +kernel
theorem d131_51 : decode (xbc 131) 51 = .ok (.putfield 55, 3) := by decide +kernel
theorem d131_54 : decode (xbc 131) 54 = .ok (.return_, 1) := by decide +kernel
theorem d132_0 : decode (xbc 132) 0 = .ok (.iload_n 1, 1) := by decide +kernel
theorem d132_1 : decode (xbc 132) 1 = .ok (.bipush 33, 2) := by decide +kernel
theorem d132_3 : decode (xbc 132) 3 = .ok (.bipush 126, 2) := by decide +kernel
theorem d132_5 : decode (xbc 132) 5 = .ok (.invokestatic 38, 3) := by decide +kernel
theorem d132_8 : decode (xbc 132) 8 = .ok (.ifCond .ne 6, 3) := by decide +kernel
theorem d132_11 : decode (xbc 132) 11 = .ok (.bipush (-2), 2) := by decide +kernel
theorem d132_13 : decode (xbc 132) 13 = .ok (.ireturn, 1) := by decide +kernel
theorem d132_14 : decode (xbc 132) 14 = .ok (.aload_n 0, 1) := by decide +kernel
theorem d132_15 : decode (xbc 132) 15 = .ok (.getfield 85, 3) := by decide +kernel
theorem d132_18 : decode (xbc 132) 18 = .ok (.bipush 60, 2) := by decide +kernel
theorem d132_20 : decode (xbc 132) 20 = .ok (.if_icmp .ne 6, 3) := by decide +kernel
theorem d132_23 : decode (xbc 132) 23 = .ok (.bipush (-4), 2) := by decide +kernel
theorem d132_25 : decode (xbc 132) 25 = .ok (.ireturn, 1) := by decide +kernel
theorem d132_26 : decode (xbc 132) 26 = .ok (.aload_n 0, 1) := by decide +kernel
theorem d132_27 : decode (xbc 132) 27 = .ok (.getfield 19, 3) := by decide +kernel
theorem d132_30 : decode (xbc 132) 30 = .ok (.aload_n 0, 1) := by decide +kernel
theorem d132_31 : decode (xbc 132) 31 = .ok (.getfield 85, 3) := by decide +kernel
theorem d132_34 : decode (xbc 132) 34 = .ok (.iload_n 1, 1) := by decide +kernel
theorem d132_35 : decode (xbc 132) 35 = .ok (.iastore, 1) := by decide +kernel
theorem d132_36 : decode (xbc 132) 36 = .ok (.aload_n 0, 1) := by decide +kernel
theorem d132_37 : decode (xbc 132) 37 = .ok (.dup, 1) := by decide +kernel
theorem d132_38 : decode (xbc 132) 38 = .ok (.getfield 85, 3) := by decide +kernel
theorem d132_41 : decode (xbc 132) 41 = .ok (.iconst 1, 1) := by decide +kernel
theorem d132_42 : decode (xbc 132) 42 = .ok (.iadd, 1) := by decide +kernel
theorem d132_43 : decode (xbc 132) 43 = .ok (.putfield 85, 3) := by decide +kernel
theorem d132_46 : decode (xbc 132) 46 = .ok (.aload_n 0, 1) := by decide +kernel
theorem d132_47 : decode (xbc 132) 47 = .ok (.getfield 85, 3) := by decide +kernel
theorem d132_50 : decode (xbc 132) 50 = .ok (.ireturn, 1) := by decide +kernel
theorem d133_0 : decode (xbc 133) 0 = .ok (.aload_n 0, 1) := by decide +kernel
theorem d133_1 : decode (xbc 133) 1 = .ok (.getfield 85, 3) := by decide +kernel
theorem d133_4 : decode (xbc 133) 4 = .ok (.istore_n 1, 1) := by decide +kernel
theorem d133_5 : decode (xbc 133) 5 = .ok (.aload_n 0, 1) := by decide +kernel
theorem d133_6 : decode (xbc 133) 6 = .ok (.iconst 0, 1) := by decide +kernel
theorem d133_7 : decode (xbc 133) 7 = .ok (.putfield 85, 3) := by decide +kernel
theorem d133_10 : decode (xbc 133) 10 = .ok (.iload_n 1, 1) := by decide +kernel
theorem d133_11 : decode (xbc 133) 11 = .ok (.ireturn, 1) := by decide +kernel
theorem d134_0 : decode (xbc 134) 0 = .ok (.aload_n 0, 1) := by decide +kernel
theorem d134_1 : decode (xbc 134) 1 = .ok (.invokevirtual 91, 3) := by decide +kernel
theorem d134_4 : decode (xbc 134) 4 = .ok (.ireturn, 1) := by decide +kernel
theorem d135_0 : decode (xbc 135) 0 = .ok (.iconst 0, 1) := by decide +kernel
theorem d135_1 : decode (xbc 135) 1 = .ok (.istore_n 1, 1) := by decide +kernel
theorem d135_2 : decode (xbc 135) 2 = .ok (.iconst 0, 1) := by decide +kernel
theorem d135_3 : decode (xbc 135) 3 = .ok (.istore_n 2, 1) := by decide +kernel
theorem d135_4 : decode (xbc 135) 4 = .ok (.iload_n 2, 1) := by decide +kernel
theorem d135_5 : decode (xbc 135) 5 = .ok (.aload_n 0, 1) := by decide +kernel
theorem d135_6 : decode (xbc 135) 6 = .ok (.getfield 85, 3) := by decide +kernel
theorem d135_9 : decode (xbc 135) 9 = .ok (.if_icmp .ge 26, 3) := by decide +kernel
theorem d135_12 : decode (xbc 135) 12 = .ok (.iload_n 1, 1) := by decide +kernel
theorem d135_13 : decode (xbc 135) 13 = .ok (.aload_n 0, 1) := by decide +kernel
theorem d135_14 : decode (xbc 135) 14 = .ok (.getfield 19, 3) := by decide +kernel
theorem d135_17 : decode (xbc 135) 17 = .ok (.iload_n 2, 1) := by decide +kernel
theorem d135_18 : decode (xbc 135) 18 = .ok (.iaload, 1) := by decide +kernel
theorem d135_19 : decode (xbc 135) 19 = .ok (.invokestatic 88, 3) := by decide +kernel
theorem d135_22 : decode (xbc 135) 22 = .ok (.istore_n 1, 1) := by decide +kernel
theorem d135_23 : decode (xbc 135) 23 = .ok (.iload_n 1, 1) := by decide +kernel
theorem d135_24 : decode (xbc 135) 24 = .ok (.ifCond .ge 5, 3) := by decide +kernel
theorem d135_27 : decode (xbc 135) 27 = .ok (.iload_n 2, 1) := by decide +kernel
theorem d135_28 : decode (xbc 135) 28 = .ok (.ireturn, 1) := by decide +kernel
theorem d135_29 : decode (xbc 135) 29 = .ok (.iinc 2 1, 3) := by decide +kernel
theorem d135_32 : decode (xbc 135) 32 = .ok (.goto (-28), 3) := by decide +kernel
theorem d135_35 : decode (xbc 135) 35 = .ok (.iload_n 1, 1) := by decide +kernel
theorem d135_36 : decode (xbc 135) 36 = .ok (.ifCond .ne 8, 3) := by decide +kernel
theorem d135_39 : decode (xbc 135) 39 = .ok (.bipush (-6), 2) := by decide +kernel
theorem d135_41 : decode (xbc 135) 41 = .ok (.goto 7, 3) := by decide +kernel
theorem d135_44 : decode (xbc 135) 44 = .ok (.aload_n 0, 1) := by decide +kernel
theorem d135_45 : decode (xbc 135) 45 = .ok (.getfield 85, 3) := by decide +kernel
theorem d135_48 : decode (xbc 135) 48 = .ok (.ireturn, 1) := by decide +kernel
theorem d136_0 : decode (xbc 136) 0 = .ok (.iload_n 1, 1) := by decide +kernel
theorem d136_1 : decode (xbc 136) 1 = .ok (.bipush 97, 2) := by decide +kernel
theorem d136_3 : decode (xbc 136) 3 = .ok (.bipush 104, 2) := by decide +kernel
theorem d136_5 : decode (xbc 136) 5 = .ok (.invokestatic 38, 3) := by decide +kernel
theorem d136_8 : decode (xbc 136) 8 = .ok (.istore_n 2, 1) := by decide +kernel
theorem d136_9 : decode (xbc 136) 9 = .ok (.iload_n 0, 1) := by decide +kernel
theorem d136_10 : decode (xbc 136) 10 = .ok (.lookupswitch 88 #[(0, 26), (1, 47)], 26) := by decide +kernel
theorem d136_36 : decode (xbc 136) 36 = .ok (.iload_n 2, 1) := by decide +kernel
theorem d136_37 : decode (xbc 136) 37 = .ok (.ifCond .eq 7, 3) := by decide +kernel
theorem d136_40 : decode (xbc 136) 40 = .ok (.iconst 1, 1) := by decide +kernel
theorem d136_41 : decode (xbc 136) 41 = .ok (.goto 15, 3) := by decide +kernel
theorem d136_44 : decode (xbc 136) 44 = .ok (.iload_n 1, 1) := by decide +kernel
theorem d136_45 : decode (xbc 136) 45 = .ok (.bipush 46, 2) := by decide +kernel
theorem d136_47 : decode (xbc 136) 47 = .ok (.if_icmp .ne 7, 3) := by decide +kernel
theorem d136_50 : decode (xbc 136) 50 = .ok (.iconst 0, 1) := by decide +kernel
theorem d136_51 : decode (xbc 136) 51 = .ok (.goto 5, 3) := by decide +kernel
theorem d136_54 : decode (xbc 136) 54 = .ok (.bipush (-6), 2) := by decide +kernel
theorem d136_56 : decode (xbc 136) 56 = .ok (.ireturn, 1) := by decide +kernel
theorem d136_57 : decode (xbc 136) 57 = .ok (.iload_n 1, 1) := by decide +kernel
theorem d136_58 : decode (xbc 136) 58 = .ok (.bipush 43, 2) := by decide +kernel
theorem d136_60 : decode (xbc 136) 60 = .ok (.if_icmp .eq 21, 3) := by decide +kernel
theorem d136_63 : decode (xbc 136) 63 = .ok (.iload_n 1, 1) := by decide +kernel
theorem d136_64 : decode (xbc 136) 64 = .ok (.bipush 45, 2) := by decide +kernel
theorem d136_66 : decode (xbc 136) 66 = .ok (.if_icmp .eq 15, 3) := by decide +kernel
theorem d136_69 : decode (xbc 136) 69 = .ok (.iload_n 1, 1) := by decide +kernel
theorem d136_70 : decode (xbc 136) 70 = .ok (.bipush 33, 2) := by decide +kernel
theorem d136_72 : decode (xbc 136) 72 = .ok (.if_icmp .eq 9, 3) := by decide +kernel
theorem d136_75 : decode (xbc 136) 75 = .ok (.iload_n 1, 1) := by decide +kernel
theorem d136_76 : decode (xbc 136) 76 = .ok (.bipush 35, 2) := by decide +kernel
theorem d136_78 : decode (xbc 136) 78 = .ok (.if_icmp .ne 7, 3) := by decide +kernel
theorem d136_81 : decode (xbc 136) 81 = .ok (.iconst 0, 1) := by decide +kernel
theorem d136_82 : decode (xbc 136) 82 = .ok (.goto 15, 3) := by decide +kernel
theorem d136_85 : decode (xbc 136) 85 = .ok (.iload_n 1, 1) := by decide +kernel
theorem d136_86 : decode (xbc 136) 86 = .ok (.bipush 37, 2) := by decide +kernel
theorem d136_88 : decode (xbc 136) 88 = .ok (.if_icmp .ne 7, 3) := by decide +kernel
theorem d136_91 : decode (xbc 136) 91 = .ok (.iconst 2, 1) := by decide +kernel
theorem d136_92 : decode (xbc 136) 92 = .ok (.goto 5, 3) := by decide +kernel
theorem d136_95 : decode (xbc 136) 95 = .ok (.bipush (-6), 2) := by decide +kernel
theorem d136_97 : decode (xbc 136) 97 = .ok (.ireturn, 1) := by decide +kernel
theorem d136_98 : decode (xbc 136) 98 = .ok (.iload_n 2, 1) := by decide +kernel
theorem d136_99 : decode (xbc 136) 99 = .ok (.ifCond .eq 7, 3) := by decide +kernel
theorem d136_102 : decode (xbc 136) 102 = .ok (.iconst 0, 1) := by decide +kernel
theorem d136_103 : decode (xbc 136) 103 = .ok (.goto 5, 3) := by decide +kernel
theorem d136_106 : decode (xbc 136) 106 = .ok (.bipush (-6), 2) := by decide +kernel
theorem d136_108 : decode (xbc 136) 108 = .ok (.ireturn, 1) := by decide +kernel
theorem d137_0 : decode (xbc 137) 0 = .ok (.iload_n 1, 1) := by decide +kernel
theorem d137_1 : decode (xbc 137) 1 = .ok (.iconst 0, 1) := by decide +kernel
theorem d137_2 : decode (xbc 137) 2 = .ok (.iconst 1, 1) := by decide +kernel
theorem d137_3 : decode (xbc 137) 3 = .ok (.invokestatic 38, 3) := by decide +kernel
theorem d137_6 : decode (xbc 137) 6 = .ok (.ifCond .ne 6, 3) := by decide +kernel
theorem d137_9 : decode (xbc 137) 9 = .ok (.bipush (-2), 2) := by decide +kernel
theorem d137_11 : decode (xbc 137) 11 = .ok (.ireturn, 1) := by decide +kernel
theorem d137_12 : decode (xbc 137) 12 = .ok (.aload_n 0, 1) := by decide +kernel
theorem d137_13 : decode (xbc 137) 13 = .ok (.invokevirtual 91, 3) := by decide +kernel
theorem d137_16 : decode (xbc 137) 16 = .ok (.ifCond .lt 6, 3) := by decide +kernel
theorem d137_19 : decode (xbc 137) 19 = .ok (.bipush (-5), 2) := by decide +kernel
theorem d137_21 : decode (xbc 137) 21 = .ok (.ireturn, 1) := by decide +kernel
theorem d137_22 : decode (xbc 137) 22 = .ok (.aload_n 0, 1) := by decide +kernel
theorem d137_23 : decode (xbc 137) 23 = .ok (.invokevirtual 124, 3) := by decide +kernel
theorem d137_26 : decode (xbc 137) 26 = .ok (.istore_n 2, 1) := by decide +kernel
theorem d137_27 : decode (xbc 137) 27 = .ok (.iload_n 2, 1) := by decide +kernel
theorem d137_28 : decode (xbc 137) 28 = .ok (.ifCond .lt 7, 3) := by decide +kernel
theorem d137_31 : decode (xbc 137) 31 = .ok (.iload_n 1, 1) := by decide +kernel
theorem d137_32 : decode (xbc 137) 32 = .ok (.ifCond .ne 7, 3) := by decide +kernel
theorem d137_35 : decode (xbc 137) 35 = .ok (.iload_n 2, 1) := by decide +kernel
theorem d137_36 : decode (xbc 137) 36 = .ok (.goto 7, 3) := by decide +kernel
theorem d137_39 : decode (xbc 137) 39 = .ok (.aload_n 0, 1) := by decide +kernel
theorem d137_40 : decode (xbc 137) 40 = .ok (.getfield 121, 3) := by decide +kernel
theorem d137_43 : decode (xbc 137) 43 = .ok (.ireturn, 1) := by decide +kernel
theorem d138_0 : decode (xbc 138) 0 = .ok (.aload_n 0, 1) := by decide +kernel
theorem d138_1 : decode (xbc 138) 1 = .ok (.invokevirtual 82, 3) := by decide +kernel
theorem d138_4 : decode (xbc 138) 4 = .ok (.aload_n 0, 1) := by decide +kernel
theorem d138_5 : decode (xbc 138) 5 = .ok (.iconst 0, 1) := by decide +kernel
theorem d138_6 : decode (xbc 138) 6 = .ok (.putfield 102, 3) := by decide +kernel
theorem d138_9 : decode (xbc 138) 9 = .ok (.iconst 0, 1) := by decide +kernel
theorem d138_10 : decode (xbc 138) 10 = .ok (.istore_n 1, 1) := by decide +kernel
theorem d138_11 : decode (xbc 138) 11 = .ok (.iload_n 1, 1) := by decide +kernel
theorem d138_12 : decode (xbc 138) 12 = .ok (.aload_n 0, 1) := by decide +kernel
theorem d138_13 : decode (xbc 138) 13 = .ok (.getfield 85, 3) := by decide +kernel
theorem d138_16 : decode (xbc 138) 16 = .ok (.if_icmp .ge 73, 3) := by decide +kernel
theorem d138_19 : decode (xbc 138) 19 = .ok (.aload_n 0, 1) := by decide +kernel
theorem d138_20 : decode (xbc 138) 20 = .ok (.aload_n 0, 1) := by decide +kernel
theorem d138_21 : decode (xbc 138) 21 = .ok (.iload_n 1, 1) := by decide +kernel
theorem d138_22 : decode (xbc 138) 22 = .ok (.invokevirtual 118, 3) := by decide +kernel
theorem d138_25 : decode (xbc 138) 25 = .ok (.putfield 121, 3) := by decide +kernel
theorem d138_28 : decode (xbc 138) 28 = .ok (.iload_n 1, 1) := by decide +kernel
theorem d138_29 : decode (xbc 138) 29 = .ok (.aload_n 0, 1) := by decide +kernel
theorem d138_30 : decode (xbc 138) 30 = .ok (.getfield 19, 3) := by decide +kernel
theorem d138_33 : decode (xbc 138) 33 = .ok (.iload_n 1, 1) := by decide +kernel
theorem d138_34 : decode (xbc 138) 34 = .ok (.iaload, 1) := by decide +kernel
theorem d138_35 : decode (xbc 138) 35 = .ok (.bipush 46, 2) := by decide +kernel
theorem d138_37 : decode (xbc 138) 37 = .ok (.if_icmp .ne 7, 3) := by decide +kernel
theorem d138_40 : decode (xbc 138) 40 = .ok (.iconst 1, 1) := by decide +kernel
theorem d138_41 : decode (xbc 138) 41 = .ok (.goto 21, 3) := by decide +kernel
theorem d138_44 : decode (xbc 138) 44 = .ok (.aload_n 0, 1) := by decide +kernel
theorem d138_45 : decode (xbc 138) 45 = .ok (.getfield 19, 3) := by decide +kernel
theorem d138_48 : decode (xbc 138) 48 = .ok (.iload_n 1, 1) := by decide +kernel
theorem d138_49 : decode (xbc 138) 49 = .ok (.iconst 1, 1) := by decide +kernel
theorem d138_50 : decode (xbc 138) 50 = .ok (.iadd, 1) := by decide +kernel
theorem d138_51 : decode (xbc 138) 51 = .ok (.iaload, 1) := by decide +kernel
theorem d138_52 : decode (xbc 138) 52 = .ok (.bipush 37, 2) := by decide +kernel
theorem d138_54 : decode (xbc 138) 54 = .ok (.if_icmp .ne 7, 3) := by decide +kernel
theorem d138_57 : decode (xbc 138) 57 = .ok (.iconst 3, 1) := by decide +kernel
theorem d138_58 : decode (xbc 138) 58 = .ok (.goto 4, 3) := by decide +kernel
theorem d138_61 : decode (xbc 138) 61 = .ok (.iconst 2, 1) := by decide +kernel
theorem d138_62 : decode (xbc 138) 62 = .ok (.iadd, 1) := by decide +kernel
theorem d138_63 : decode (xbc 138) 63 = .ok (.istore_n 1, 1) := by decide +kernel
theorem d138_64 : decode (xbc 138) 64 = .ok (.aload_n 0, 1) := by decide +kernel
theorem d138_65 : decode (xbc 138) 65 = .ok (.getfield 121, 3) := by decide +kernel
theorem d138_68 : decode (xbc 138) 68 = .ok (.ifCond .le 8, 3) := by decide +kernel
theorem d138_71 : decode (xbc 138) 71 = .ok (.aload_n 0, 1) := by decide +kernel
theorem d138_72 : decode (xbc 138) 72 = .ok (.getfield 102, 3) := by decide +kernel
theorem d138_75 : decode (xbc 138) 75 = .ok (.ireturn, 1) := by decide +kernel
theorem d138_76 : decode (xbc 138) 76 = .ok (.aload_n 0, 1) := by decide +kernel
theorem d138_77 : decode (xbc 138) 77 = .ok (.dup, 1) := by decide +kernel
theorem d138_78 : decode (xbc 138) 78 = .ok (.getfield 102, 3) := by decide +kernel
theorem d138_81 : decode (xbc 138) 81 = .ok (.iconst 1, 1) := by decide +kernel
theorem d138_82 : decode (xbc 138) 82 = .ok (.iadd, 1) := by decide +kernel
theorem d138_83 : decode (xbc 138) 83 = .ok (.putfield 102, 3) := by decide +kernel
theorem d138_86 : decode (xbc 138) 86 = .ok (.goto (-75), 3) := by decide +kernel
theorem d138_89 : decode (xbc 138) 89 = .ok (.bipush (-6), 2) := by decide +kernel
theorem d138_91 : decode (xbc 138) 91 = .ok (.ireturn, 1) := by decide +kernel
theorem d139_0 : decode (xbc 139) 0 = .ok (.aload_n 0, 1) := by decide +kernel
theorem d139_1 : decode (xbc 139) 1 = .ok (.getfield 19, 3) := by decide +kernel
theorem d139_4 : decode (xbc 139) 4 = .ok (.iload_n 1, 1) := by decide +kernel
theorem d139_5 : decode (xbc 139) 5 = .ok (.iaload, 1) := by decide +kernel
theorem d139_6 : decode (xbc 139) 6 = .ok (.bipush 46, 2) := by decide +kernel
theorem d139_8 : decode (xbc 139) 8 = .ok (.if_icmp .ne 12, 3) := by decide +kernel
theorem d139_11 : decode (xbc 139) 11 = .ok (.aload_n 0, 1) := by decide +kernel
theorem d139_12 : decode (xbc 139) 12 = .ok (.aload_n 0, 1) := by decide +kernel
theorem d139_13 : decode (xbc 139) 13 = .ok (.getfield 102, 3) := by decide +kernel
theorem d139_16 : decode (xbc 139) 16 = .ok (.invokevirtual 105, 3) := by decide +kernel
theorem d139_19 : decode (xbc 139) 19 = .ok (.ireturn, 1) := by decide +kernel
theorem d139_20 : decode (xbc 139) 20 = .ok (.aload_n 0, 1) := by decide +kernel
theorem d139_21 : decode (xbc 139) 21 = .ok (.getfield 19, 3) := by decide +kernel
theorem d139_24 : decode (xbc 139) 24 = .ok (.iload_n 1, 1) := by decide +kernel
theorem d139_25 : decode (xbc 139) 25 = .ok (.iaload, 1) := by decide +kernel
theorem d139_26 : decode (xbc 139) 26 = .ok (.bipush 97, 2) := by decide +kernel
theorem d139_28 : decode (xbc 139) 28 = .ok (.isub, 1) := by decide +kernel
theorem d139_29 : decode (xbc 139) 29 = .ok (.istore_n 2, 1) := by decide +kernel
theorem d139_30 : decode (xbc 139) 30 = .ok (.aload_n 0, 1) := by decide +kernel
theorem d139_31 : decode (xbc 139) 31 = .ok (.getfield 19, 3) := by decide +kernel
theorem d139_34 : decode (xbc 139) 34 = .ok (.iload_n 1, 1) := by decide +kernel
theorem d139_35 : decode (xbc 139) 35 = .ok (.iconst 1, 1) := by decide +kernel
theorem d139_36 : decode (xbc 139) 36 = .ok (.iadd, 1) := by decide +kernel
theorem d139_37 : decode (xbc 139) 37 = .ok (.iaload, 1) := by decide +kernel
theorem d139_38 : decode (xbc 139) 38 = .ok (.lookupswitch 70 #[(33, 56), (35, 63), (43, 42), (45, 49)], 42) := by decide +kernel
theorem d139_80 : decode (xbc 139) 80 = .ok (.aload_n 0, 1) := by decide +kernel
theorem d139_81 : decode (xbc 139) 81 = .ok (.iload_n 2, 1) := by decide +kernel
theorem d139_82 : decode (xbc 139) 82 = .ok (.iconst 1, 1) := by decide +kernel
theorem d139_83 : decode (xbc 139) 83 = .ok (.invokevirtual 108, 3) := by decide +kernel
theorem d139_86 : decode (xbc 139) 86 = .ok (.ireturn, 1) := by decide +kernel
theorem d139_87 : decode (xbc 139) 87 = .ok (.aload_n 0, 1) := by decide +kernel
theorem d139_88 : decode (xbc 139) 88 = .ok (.iload_n 2, 1) := by decide +kernel
theorem d139_89 : decode (xbc 139) 89 = .ok (.iconst (-1), 1) := by decide +kernel
theorem d139_90 : decode (xbc 139) 90 = .ok (.invokevirtual 108, 3) := by decide +kernel
theorem d139_93 : decode (xbc 139) 93 = .ok (.ireturn, 1) := by decide +kernel
theorem d139_94 : decode (xbc 139) 94 = .ok (.aload_n 0, 1) := by decide +kernel
theorem d139_95 : decode (xbc 139) 95 = .ok (.iload_n 2, 1) := by decide +kernel
theorem d139_96 : decode (xbc 139) 96 = .ok (.iconst 1, 1) := by decide +kernel
theorem d139_97 : decode (xbc 139) 97 = .ok (.invokevirtual 111, 3) := by decide +kernel
theorem d139_100 : decode (xbc 139) 100 = .ok (.ireturn, 1) := by decide +kernel
theorem d139_101 : decode (xbc 139) 101 = .ok (.aload_n 0, 1) := by decide +kernel
theorem d139_102 : decode (xbc 139) 102 = .ok (.iload_n 2, 1) := by decide +kernel
theorem d139_103 : decode (xbc 139) 103 = .ok (.iconst 0, 1) := by decide +kernel
theorem d139_104 : decode (xbc 139) 104 = .ok (.invokevirtual 111, 3) := by decide +kernel
theorem d139_107 : decode (xbc 139) 107 = .ok (.ireturn, 1) := by decide +kernel
theorem d139_108 : decode (xbc 139) 108 = .ok (.aload_n 0, 1) := by decide +kernel
theorem d139_109 : decode (xbc 139) 109 = .ok (.iload_n 2, 1) := by decide +kernel
theorem d139_110 : decode (xbc 139) 110 = .ok (.aload_n 0, 1) := by decide +kernel
theorem d139_111 : decode (xbc 139) 111 = .ok (.getfield 19, 3) := by decide +kernel
theorem d139_114 : decode (xbc 139) 114 = .ok (.iload_n 1, 1) := by decide +kernel
theorem d139_115 : decode (xbc 139) 115 = .ok (.iconst 2, 1) := by decide +kernel
theorem d139_116 : decode (xbc 139) 116 = .ok (.iadd, 1) := by decide +kernel
theorem d139_117 : decode (xbc 139) 117 = .ok (.iaload, 1) := by decide +kernel
theorem d139_118 : decode (xbc 139) 118 = .ok (.bipush 97, 2) := by decide +kernel
theorem d139_120 : decode (xbc 139) 120 = .ok (.isub, 1) := by decide +kernel
theorem d139_121 : decode (xbc 139) 121 = .ok (.invokevirtual 115, 3) := by decide +kernel
theorem d139_124 : decode (xbc 139) 124 = .ok (.ireturn, 1) := by decide +kernel
theorem d140_0 : decode (xbc 140) 0 = .ok (.aload_n 0, 1) := by decide +kernel
theorem d140_1 : decode (xbc 140) 1 = .ok (.getfield 13, 3) := by decide +kernel
theorem d140_4 : decode (xbc 140) 4 = .ok (.bipush 40, 2) := by decide +kernel
theorem d140_6 : decode (xbc 140) 6 = .ok (.iaload, 1) := by decide +kernel
theorem d140_7 : decode (xbc 140) 7 = .ok (.bipush 99, 2) := by decide +kernel
theorem d140_9 : decode (xbc 140) 9 = .ok (.if_icmp .ne 6, 3) := by decide +kernel
theorem d140_12 : decode (xbc 140) 12 = .ok (.bipush 7, 2) := by decide +kernel
theorem d140_14 : decode (xbc 140) 14 = .ok (.ireturn, 1) := by decide +kernel
theorem d140_15 : decode (xbc 140) 15 = .ok (.aload_n 0, 1) := by decide +kernel
theorem d140_16 : decode (xbc 140) 16 = .ok (.aload_n 0, 1) := by decide +kernel
theorem d140_17 : decode (xbc 140) 17 = .ok (.getfield 13, 3) := by decide +kernel
theorem d140_20 : decode (xbc 140) 20 = .ok (.bipush 40, 2) := by decide +kernel
theorem d140_22 : decode (xbc 140) 22 = .ok (.iaload, 1) := by decide +kernel
theorem d140_23 : decode (xbc 140) 23 = .ok (.iconst 1, 1) := by decide +kernel
theorem d140_24 : decode (xbc 140) 24 = .ok (.iadd, 1) := by decide +kernel
theorem d140_25 : decode (xbc 140) 25 = .ok (.invokevirtual 95, 3) := by decide +kernel
theorem d140_28 : decode (xbc 140) 28 = .ok (.istore_n 2, 1) := by decide +kernel
theorem d140_29 : decode (xbc 140) 29 = .ok (.iload_n 2, 1) := by decide +kernel
theorem d140_30 : decode (xbc 140) 30 = .ok (.ifCond .lt 26, 3) := by decide +kernel
theorem d140_33 : decode (xbc 140) 33 = .ok (.aload_n 0, 1) := by decide +kernel
theorem d140_34 : decode (xbc 140) 34 = .ok (.iload_n 2, 1) := by decide +kernel
theorem d140_35 : decode (xbc 140) 35 = .ok (.iload_n 1, 1) := by decide +kernel
theorem d140_36 : decode (xbc 140) 36 = .ok (.invokevirtual 98, 3) := by decide +kernel
theorem d140_39 : decode (xbc 140) 39 = .ok (.aload_n 0, 1) := by decide +kernel
theorem d140_40 : decode (xbc 140) 40 = .ok (.aload_n 0, 1) := by decide +kernel
theorem d140_41 : decode (xbc 140) 41 = .ok (.getfield 13, 3) := by decide +kernel
theorem d140_44 : decode (xbc 140) 44 = .ok (.bipush 40, 2) := by decide +kernel
theorem d140_46 : decode (xbc 140) 46 = .ok (.iaload, 1) := by decide +kernel
theorem d140_47 : decode (xbc 140) 47 = .ok (.iconst 1, 1) := by decide +kernel
theorem d140_48 : decode (xbc 140) 48 = .ok (.iadd, 1) := by decide +kernel
theorem d140_49 : decode (xbc 140) 49 = .ok (.invokevirtual 95, 3) := by decide +kernel
theorem d140_52 : decode (xbc 140) 52 = .ok (.istore_n 2, 1) := by decide +kernel
theorem d140_53 : decode (xbc 140) 53 = .ok (.goto (-24), 3) := by decide +kernel
theorem d140_56 : decode (xbc 140) 56 = .ok (.aload_n 0, 1) := by decide +kernel
theorem d140_57 : decode (xbc 140) 57 = .ok (.getfield 13, 3) := by decide +kernel
theorem d140_60 : decode (xbc 140) 60 = .ok (.bipush 40, 2) := by decide +kernel
theorem d140_62 : decode (xbc 140) 62 = .ok (.dup2, 1) := by decide +kernel
theorem d140_63 : decode (xbc 140) 63 = .ok (.iaload, 1) := by decide +kernel
theorem d140_64 : decode (xbc 140) 64 = .ok (.iconst 1, 1) := by decide +kernel
theorem d140_65 : decode (xbc 140) 65 = .ok (.iadd, 1) := by decide +kernel
theorem d140_66 : decode (xbc 140) 66 = .ok (.iastore, 1) := by decide +kernel
theorem d140_67 : decode (xbc 140) 67 = .ok (.iconst 0, 1) := by decide +kernel
theorem d140_68 : decode (xbc 140) 68 = .ok (.ireturn, 1) := by decide +kernel
theorem d141_0 : decode (xbc 141) 0 = .ok (.bipush (-6), 2) := by decide +kernel
theorem d141_2 : decode (xbc 141) 2 = .ok (.istore_n 2, 1) := by decide +kernel
theorem d141_3 : decode (xbc 141) 3 = .ok (.iconst 0, 1) := by decide +kernel
theorem d141_4 : decode (xbc 141) 4 = .ok (.istore_n 3, 1) := by decide +kernel
theorem d141_5 : decode (xbc 141) 5 = .ok (.iload_n 3, 1) := by decide +kernel
theorem d141_6 : decode (xbc 141) 6 = .ok (.aload_n 0, 1) := by decide +kernel
theorem d141_7 : decode (xbc 141) 7 = .ok (.getfield 13, 3) := by decide +kernel
theorem d141_10 : decode (xbc 141) 10 = .ok (.bipush 73, 2) := by decide +kernel
theorem d141_12 : decode (xbc 141) 12 = .ok (.iaload, 1) := by decide +kernel
theorem d141_13 : decode (xbc 141) 13 = .ok (.if_icmp .ge 180, 3) := by decide +kernel
theorem d141_16 : decode (xbc 141) 16 = .ok (.aload_n 0, 1) := by decide +kernel
theorem d141_17 : decode (xbc 141) 17 = .ok (.getfield 13, 3) := by decide +kernel
theorem d141_20 : decode (xbc 141) 20 = .ok (.sipush 139, 3) := by decide +kernel
theorem d141_23 : decode (xbc 141) 23 = .ok (.iload_n 3, 1) := by decide +kernel
theorem d141_24 : decode (xbc 141) 24 = .ok (.iadd, 1) := by decide +kernel
theorem d141_25 : decode (xbc 141) 25 = .ok (.iaload, 1) := by decide +kernel
theorem d141_26 : decode (xbc 141) 26 = .ok (.iload_n 1, 1) := by decide +kernel
theorem d141_27 : decode (xbc 141) 27 = .ok (.aload_n 0, 1) := by decide +kernel
theorem d141_28 : decode (xbc 141) 28 = .ok (.getfield 13, 3) := by decide +kernel
theorem d141_31 : decode (xbc 141) 31 = .ok (.sipush 203, 3) := by decide +kernel
theorem d141_34 : decode (xbc 141) 34 = .ok (.iload_n 3, 1) := by decide +kernel
theorem d141_35 : decode (xbc 141) 35 = .ok (.iadd, 1) := by decide +kernel
theorem d141_36 : decode (xbc 141) 36 = .ok (.iaload, 1) := by decide +kernel
theorem d141_37 : decode (xbc 141) 37 = .ok (.imul, 1) := by decide +kernel
theorem d141_38 : decode (xbc 141) 38 = .ok (.if_icmp .gt 149, 3) := by decide +kernel
theorem d141_41 : decode (xbc 141) 41 = .ok (.iload_n 2, 1) := by decide +kernel
theorem d141_42 : decode (xbc 141) 42 = .ok (.ifCond .ge 7, 3) := by decide +kernel
theorem d141_45 : decode (xbc 141) 45 = .ok (.iconst (-1), 1) := by decide +kernel
theorem d141_46 : decode (xbc 141) 46 = .ok (.goto 46, 3) := by decide +kernel
theorem d141_49 : decode (xbc 141) 49 = .ok (.aload_n 0, 1) := by decide +kernel
theorem d141_50 : decode (xbc 141) 50 = .ok (.getfield 13, 3) := by decide +kernel
theorem d141_53 : decode (xbc 141) 53 = .ok (.sipush 139, 3) := by decide +kernel
theorem d141_56 : decode (xbc 141) 56 = .ok (.iload_n 3, 1) := by decide +kernel
theorem d141_57 : decode (xbc 141) 57 = .ok (.iadd, 1) := by decide +kernel
theorem d141_58 : decode (xbc 141) 58 = .ok (.iaload, 1) := by decide +kernel
theorem d141_59 : decode (xbc 141) 59 = .ok (.aload_n 0, 1) := by decide +kernel
theorem d141_60 : decode (xbc 141) 60 = .ok (.getfield 13, 3) := by decide +kernel
theorem d141_63 : decode (xbc 141) 63 = .ok (.sipush 203, 3) := by decide +kernel
theorem d141_66 : decode (xbc 141) 66 = .ok (.iload_n 2, 1) := by decide +kernel
theorem d141_67 : decode (xbc 141) 67 = .ok (.iadd, 1) := by decide +kernel
theorem d141_68 : decode (xbc 141) 68 = .ok (.iaload, 1) := by decide +kernel
theorem d141_69 : decode (xbc 141) 69 = .ok (.imul, 1) := by decide +kernel
theorem d141_70 : decode (xbc 141) 70 = .ok (.aload_n 0, 1) := by decide +kernel
theorem d141_71 : decode (xbc 141) 71 = .ok (.getfield 13, 3) := by decide +kernel
theorem d141_74 : decode (xbc 141) 74 = .ok (.sipush 139, 3) := by decide +kernel
theorem d141_77 : decode (xbc 141) 77 = .ok (.iload_n 2, 1) := by decide +kernel
theorem d141_78 : decode (xbc 141) 78 = .ok (.iadd, 1) := by decide +kernel
theorem d141_79 : decode (xbc 141) 79 = .ok (.iaload, 1) := by decide +kernel
theorem d141_80 : decode (xbc 141) 80 = .ok (.aload_n 0, 1) := by decide +kernel
theorem d141_81 : decode (xbc 141) 81 = .ok (.getfield 13, 3) := by decide +kernel
theorem d141_84 : decode (xbc 141) 84 = .ok (.sipush 203, 3) := by decide +kernel
theorem d141_87 : decode (xbc 141) 87 = .ok (.iload_n 3, 1) := by decide +kernel
theorem d141_88 : decode (xbc 141) 88 = .ok (.iadd, 1) := by decide +kernel
theorem d141_89 : decode (xbc 141) 89 = .ok (.iaload, 1) := by decide +kernel
theorem d141_90 : decode (xbc 141) 90 = .ok (.imul, 1) := by decide +kernel
theorem d141_91 : decode (xbc 141) 91 = .ok (.isub, 1) := by decide +kernel
theorem d141_92 : decode (xbc 141) 92 = .ok (.istore 4, 2) := by decide +kernel
theorem d141_94 : decode (xbc 141) 94 = .ok (.iload 4, 2) := by decide +kernel
theorem d141_96 : decode (xbc 141) 96 = .ok (.ifCond .lt 73, 3) := by decide +kernel
theorem d141_99 : decode (xbc 141) 99 = .ok (.iload 4, 2) := by decide +kernel
theorem d141_101 : decode (xbc 141) 101 = .ok (.ifCond .ne 72, 3) := by decide +kernel
theorem d141_104 : decode (xbc 141) 104 = .ok (.aload_n 0, 1) := by decide +kernel
theorem d141_105 : decode (xbc 141) 105 = .ok (.getfield 13, 3) := by decide +kernel
theorem d141_108 : decode (xbc 141) 108 = .ok (.bipush 75, 2) := by decide +kernel
theorem d141_110 : decode (xbc 141) 110 = .ok (.iload_n 3, 1) := by decide +kernel
theorem d141_111 : decode (xbc 141) 111 = .ok (.iadd, 1) := by decide +kernel
theorem d141_112 : decode (xbc 141) 112 = .ok (.iaload, 1) := by decide +kernel
theorem d141_113 : decode (xbc 141) 113 = .ok (.aload_n 0, 1) := by decide +kernel
theorem d141_114 : decode (xbc 141) 114 = .ok (.getfield 13, 3) := by decide +kernel
theorem d141_117 : decode (xbc 141) 117 = .ok (.bipush 75, 2) := by decide +kernel
theorem d141_119 : decode (xbc 141) 119 = .ok (.iload_n 2, 1) := by decide +kernel
theorem d141_120 : decode (xbc 141) 120 = .ok (.iadd, 1) := by decide +kernel
theorem d141_121 : decode (xbc 141) 121 = .ok (.iaload, 1) := by decide +kernel
theorem d141_122 : decode (xbc 141) 122 = .ok (.if_icmp .gt 47, 3) := by decide +kernel
theorem d141_125 : decode (xbc 141) 125 = .ok (.aload_n 0, 1) := by decide +kernel
theorem d141_126 : decode (xbc 141) 126 = .ok (.getfield 13, 3) := by decide +kernel
theorem d141_129 : decode (xbc 141) 129 = .ok (.bipush 75, 2) := by decide +kernel
theorem d141_131 : decode (xbc 141) 131 = .ok (.iload_n 3, 1) := by decide +kernel
theorem d141_132 : decode (xbc 141) 132 = .ok (.iadd, 1) := by decide +kernel
theorem d141_133 : decode (xbc 141) 133 = .ok (.iaload, 1) := by decide +kernel
theorem d141_134 : decode (xbc 141) 134 = .ok (.aload_n 0, 1) := by decide +kernel
theorem d141_135 : decode (xbc 141) 135 = .ok (.getfield 13, 3) := by decide +kernel
theorem d141_138 : decode (xbc 141) 138 = .ok (.bipush 75, 2) := by decide +kernel
theorem d141_140 : decode (xbc 141) 140 = .ok (.iload_n 2, 1) := by decide +kernel
theorem d141_141 : decode (xbc 141) 141 = .ok (.iadd, 1) := by decide +kernel
theorem d141_142 : decode (xbc 141) 142 = .ok (.iaload, 1) := by decide +kernel
theorem d141_143 : decode (xbc 141) 143 = .ok (.if_icmp .ne 30, 3) := by decide +kernel
theorem d141_146 : decode (xbc 141) 146 = .ok (.aload_n 0, 1) := by decide +kernel
theorem d141_147 : decode (xbc 141) 147 = .ok (.getfield 13, 3) := by decide +kernel
theorem d141_150 : decode (xbc 141) 150 = .ok (.sipush 267, 3) := by decide +kernel
theorem d141_153 : decode (xbc 141) 153 = .ok (.iload_n 3, 1) := by decide +kernel
theorem d141_154 : decode (xbc 141) 154 = .ok (.iadd, 1) := by decide +kernel
theorem d141_155 : decode (xbc 141) 155 = .ok (.iaload, 1) := by decide +kernel
theorem d141_156 : decode (xbc 141) 156 = .ok (.aload_n 0, 1) := by decide +kernel
theorem d141_157 : decode (xbc 141) 157 = .ok (.getfield 13, 3) := by decide +kernel
theorem d141_160 : decode (xbc 141) 160 = .ok (.sipush 267, 3) := by decide +kernel
theorem d141_163 : decode (xbc 141) 163 = .ok (.iload_n 2, 1) := by decide +kernel
theorem d141_164 : decode (xbc 141) 164 = .ok (.iadd, 1) := by decide +kernel
theorem d141_165 : decode (xbc 141) 165 = .ok (.iaload, 1) := by decide +kernel
theorem d141_166 : decode (xbc 141) 166 = .ok (.if_icmp .ge 7, 3) := by decide +kernel
theorem d141_169 : decode (xbc 141) 169 = .ok (.iconst 1, 1) := by decide +kernel
theorem d141_170 : decode (xbc 141) 170 = .ok (.goto 4, 3) := by decide +kernel
theorem d141_173 : decode (xbc 141) 173 = .ok (.iconst 0, 1) := by decide +kernel
theorem d141_174 : decode (xbc 141) 174 = .ok (.istore 5, 2) := by decide +kernel
theorem d141_176 : decode (xbc 141) 176 = .ok (.iload 5, 2) := by decide +kernel
theorem d141_178 : decode (xbc 141) 178 = .ok (.ifCond .eq 7, 3) := by decide +kernel
theorem d141_181 : decode (xbc 141) 181 = .ok (.iload_n 3, 1) := by decide +kernel
theorem d141_182 : decode (xbc 141) 182 = .ok (.goto 4, 3) := by decide +kernel
theorem d141_185 : decode (xbc 141) 185 = .ok (.iload_n 2, 1) := by decide +kernel
theorem d141_186 : decode (xbc 141) 186 = .ok (.istore_n 2, 1) := by decide +kernel
theorem d141_187 : decode (xbc 141) 187 = .ok (.iinc 3 1, 3) := by decide +kernel
theorem d141_190 : decode (xbc 141) 190 = .ok (.goto (-185), 3) := by decide +kernel
theorem d141_193 : decode (xbc 141) 193 = .ok (.iload_n 2, 1) := by decide +kernel
theorem d141_194 : decode (xbc 141) 194 = .ok (.ireturn, 1) := by decide +kernel
theorem d142_0 : decode (xbc 142) 0 = .ok (.aload_n 0, 1) := by decide +kernel
theorem d142_1 : decode (xbc 142) 1 = .ok (.getfield 13, 3) := by decide +kernel
theorem d142_4 : decode (xbc 142) 4 = .ok (.bipush 75, 2) := by decide +kernel
theorem d142_6 : decode (xbc 142) 6 = .ok (.iload_n 1, 1) := by decide +kernel
theorem d142_7 : decode (xbc 142) 7 = .ok (.iadd, 1) := by decide +kernel
theorem d142_8 : decode (xbc 142) 8 = .ok (.iaload, 1) := by decide +kernel
theorem d142_9 : decode (xbc 142) 9 = .ok (.istore_n 3, 1) := by decide +kernel
theorem d142_10 : decode (xbc 142) 10 = .ok (.aload_n 0, 1) := by decide +kernel
theorem d142_11 : decode (xbc 142) 11 = .ok (.getfield 13, 3) := by decide +kernel
theorem d142_14 : decode (xbc 142) 14 = .ok (.sipush 139, 3) := by decide +kernel
theorem d142_17 : decode (xbc 142) 17 = .ok (.iload_n 1, 1) := by decide +kernel
theorem d142_18 : decode (xbc 142) 18 = .ok (.iadd, 1) := by decide +kernel
theorem d142_19 : decode (xbc 142) 19 = .ok (.iaload, 1) := by decide +kernel
theorem d142_20 : decode (xbc 142) 20 = .ok (.istore 4, 2) := by decide +kernel
theorem d142_22 : decode (xbc 142) 22 = .ok (.aload_n 0, 1) := by decide +kernel
theorem d142_23 : decode (xbc 142) 23 = .ok (.getfield 13, 3) := by decide +kernel
theorem d142_26 : decode (xbc 142) 26 = .ok (.sipush 203, 3) := by decide +kernel
theorem d142_29 : decode (xbc 142) 29 = .ok (.iload_n 1, 1) := by decide +kernel
theorem d142_30 : decode (xbc 142) 30 = .ok (.iadd, 1) := by decide +kernel
theorem d142_31 : decode (xbc 142) 31 = .ok (.iaload, 1) := by decide +kernel
theorem d142_32 : decode (xbc 142) 32 = .ok (.istore 5, 2) := by decide +kernel
theorem d142_34 : decode (xbc 142) 34 = .ok (.aload_n 0, 1) := by decide +kernel
theorem d142_35 : decode (xbc 142) 35 = .ok (.getfield 13, 3) := by decide +kernel
theorem d142_38 : decode (xbc 142) 38 = .ok (.bipush 65, 2) := by decide +kernel
theorem d142_40 : decode (xbc 142) 40 = .ok (.iload_n 3, 1) := by decide +kernel
theorem d142_41 : decode (xbc 142) 41 = .ok (.iadd, 1) := by decide +kernel
theorem d142_42 : decode (xbc 142) 42 = .ok (.iaload, 1) := by decide +kernel
theorem d142_43 : decode (xbc 142) 43 = .ok (.aload_n 0, 1) := by decide +kernel
theorem d142_44 : decode (xbc 142) 44 = .ok (.getfield 13, 3) := by decide +kernel
theorem d142_47 : decode (xbc 142) 47 = .ok (.sipush 267, 3) := by decide +kernel
theorem d142_50 : decode (xbc 142) 50 = .ok (.iload_n 1, 1) := by decide +kernel
theorem d142_51 : decode (xbc 142) 51 = .ok (.iadd, 1) := by decide +kernel
theorem d142_52 : decode (xbc 142) 52 = .ok (.iaload, 1) := by decide +kernel
theorem d142_53 : decode (xbc 142) 53 = .ok (.if_icmp .ne 7, 3) := by decide +kernel
theorem d142_56 : decode (xbc 142) 56 = .ok (.iconst 1, 1) := by decide +kernel
theorem d142_57 : decode (xbc 142) 57 = .ok (.goto 4, 3) := by decide +kernel
theorem d142_60 : decode (xbc 142) 60 = .ok (.iconst 0, 1) := by decide +kernel
theorem d142_61 : decode (xbc 142) 61 = .ok (.istore 6, 2) := by decide +kernel
theorem d142_63 : decode (xbc 142) 63 = .ok (.aload_n 0, 1) := by decide +kernel
theorem d142_64 : decode (xbc 142) 64 = .ok (.getfield 13, 3) := by decide +kernel
theorem d142_67 : decode (xbc 142) 67 = .ok (.bipush 73, 2) := by decide +kernel
theorem d142_69 : decode (xbc 142) 69 = .ok (.dup2, 1) := by decide +kernel
theorem d142_70 : decode (xbc 142) 70 = .ok (.iaload, 1) := by decide +kernel
theorem d142_71 : decode (xbc 142) 71 = .ok (.iconst 1, 1) := by decide +kernel
theorem d142_72 : decode (xbc 142) 72 = .ok (.isub, 1) := by decide +kernel
theorem d142_73 : decode (xbc 142) 73 = .ok (.iastore, 1) := by decide +kernel
theorem d142_74 : decode (xbc 142) 74 = .ok (.iload_n 1, 1) := by decide +kernel
theorem d142_75 : decode (xbc 142) 75 = .ok (.istore 7, 2) := by decide +kernel
theorem d142_77 : decode (xbc 142) 77 = .ok (.iload 7, 2) := by decide +kernel
theorem d142_79 : decode (xbc 142) 79 = .ok (.aload_n 0, 1) := by decide +kernel
theorem d142_80 : decode (xbc 142) 80 = .ok (.getfield 13, 3) := by decide +kernel
theorem d142_83 : decode (xbc 142) 83 = .ok (.bipush 73, 2) := by decide +kernel
theorem d142_85 : decode (xbc 142) 85 = .ok (.iaload, 1) := by decide +kernel
theorem d142_86 : decode (xbc 142) 86 = .ok (.if_icmp .ge 95, 3) := by decide +kernel
theorem d142_89 : decode (xbc 142) 89 = .ok (.aload_n 0, 1) := by decide +kernel
theorem d142_90 : decode (xbc 142) 90 = .ok (.getfield 13, 3) := by decide +kernel
theorem d142_93 : decode (xbc 142) 93 = .ok (.bipush 75, 2) := by decide +kernel
theorem d142_95 : decode (xbc 142) 95 = .ok (.iload 7, 2) := by decide +kernel
theorem d142_97 : decode (xbc 142) 97 = .ok (.iadd, 1) := by decide +kernel
theorem d142_98 : decode (xbc 142) 98 = .ok (.aload_n 0, 1) := by decide +kernel
theorem d142_99 : decode (xbc 142) 99 = .ok (.getfield 13, 3) := by decide +kernel
theorem d142_102 : decode (xbc 142) 102 = .ok (.bipush 76, 2) := by decide +kernel
theorem d142_104 : decode (xbc 142) 104 = .ok (.iload 7, 2) := by decide +kernel
theorem d142_106 : decode (xbc 142) 106 = .ok (.iadd, 1) := by decide +kernel
theorem d142_107 : decode (xbc 142) 107 = .ok (.iaload, 1) := by decide +kernel
theorem d142_108 : decode (xbc 142) 108 = .ok (.iastore, 1) := by decide +kernel
theorem d142_109 : decode (xbc 142) 109 = .ok (.aload_n 0, 1) := by decide +kernel
theorem d142_110 : decode (xbc 142) 110 = .ok (.getfield 13, 3) := by decide +kernel
theorem d142_113 : decode (xbc 142) 113 = .ok (.sipush 139, 3) := by decide +kernel
theorem d142_116 : decode (xbc 142) 116 = .ok (.iload 7, 2) := by decide +kernel
theorem d142_118 : decode (xbc 142) 118 = .ok (.iadd, 1) := by decide +kernel
theorem d142_119 : decode (xbc 142) 119 = .ok (.aload_n 0, 1) := by decide +kernel
theorem d142_120 : decode (xbc 142) 120 = .ok (.getfield 13, 3) := by decide +kernel
theorem d142_123 : decode (xbc 142) 123 = .ok (.sipush 140, 3) := by decide +kernel
theorem d142_126 : decode (xbc 142) 126 = .ok (.iload 7, 2) := by decide +kernel
theorem d142_128 : decode (xbc 142) 128 = .ok (.iadd, 1) := by decide +kernel
theorem d142_129 : decode (xbc 142) 129 = .ok (.iaload, 1) := by decide +kernel
theorem d142_130 : decode (xbc 142) 130 = .ok (.iastore, 1) := by decide +kernel
theorem d142_131 : decode (xbc 142) 131 = .ok (.aload_n 0, 1) := by decide +kernel
theorem d142_132 : decode (xbc 142) 132 = .ok (.getfield 13, 3) := by decide +kernel
theorem d142_135 : decode (xbc 142) 135 = .ok (.sipush 203, 3) := by decide +kernel
theorem d142_138 : decode (xbc 142) 138 = .ok (.iload 7, 2) := by decide +kernel
theorem d142_140 : decode (xbc 142) 140 = .ok (.iadd, 1) := by decide +kernel
theorem d142_141 : decode (xbc 142) 141 = .ok (.aload_n 0, 1) := by decide +kernel
theorem d142_142 : decode (xbc 142) 142 = .ok (.getfield 13, 3) := by decide +kernel
theorem d142_145 : decode (xbc 142) 145 = .ok (.sipush 204, 3) := by decide +kernel
theorem d142_148 : decode (xbc 142) 148 = .ok (.iload 7, 2) := by decide +kernel
theorem d142_150 : decode (xbc 142) 150 = .ok (.iadd, 1) := by decide +kernel
theorem d142_151 : decode (xbc 142) 151 = .ok (.iaload, 1) := by decide +kernel
theorem d142_152 : decode (xbc 142) 152 = .ok (.iastore, 1) := by decide +kernel
theorem d142_153 : decode (xbc 142) 153 = .ok (.aload_n 0, 1) := by decide +kernel
theorem d142_154 : decode (xbc 142) 154 = .ok (.getfield 13, 3) := by decide +kernel
theorem d142_157 : decode (xbc 142) 157 = .ok (.sipush 267, 3) := by decide +kernel
theorem d142_160 : decode (xbc 142) 160 = .ok (.iload 7, 2) := by decide +kernel
theorem d142_162 : decode (xbc 142) 162 = .ok (.iadd, 1) := by decide +kernel
theorem d142_163 : decode (xbc 142) 163 = .ok (.aload_n 0, 1) := by decide +kernel
theorem d142_164 : decode (xbc 142) 164 = .ok (.getfield 13, 3) := by decide +kernel
theorem d142_167 : decode (xbc 142) 167 = .ok (.sipush 268, 3) := by decide +kernel
theorem d142_170 : decode (xbc 142) 170 = .ok (.iload 7, 2) := by decide +kernel
theorem d142_172 : decode (xbc 142) 172 = .ok (.iadd, 1) := by decide +kernel
theorem d142_173 : decode (xbc 142) 173 = .ok (.iaload, 1) := by decide +kernel
theorem d142_174 : decode (xbc 142) 174 = .ok (.iastore, 1) := by decide +kernel
theorem d142_175 : decode (xbc 142) 175 = .ok (.iinc 7 1, 3) := by decide +kernel
theorem d142_178 : decode (xbc 142) 178 = .ok (.goto (-101), 3) := by decide +kernel
theorem d142_181 : decode (xbc 142) 181 = .ok (.aload_n 0, 1) := by decide +kernel
theorem d142_182 : decode (xbc 142) 182 = .ok (.dup, 1) := by decide +kernel
theorem d142_183 : decode (xbc 142) 183 = .ok (.getfield 42, 3) := by decide +kernel
theorem d142_186 : decode (xbc 142) 186 = .ok (.iconst 1, 1) := by decide +kernel
theorem d142_187 : decode (xbc 142) 187 = .ok (.iadd, 1) := by decide +kernel
theorem d142_188 : decode (xbc 142) 188 = .ok (.putfield 42, 3) := by decide +kernel
theorem d142_191 : decode (xbc 142) 191 = .ok (.iload 6, 2) := by decide +kernel
theorem d142_193 : decode (xbc 142) 193 = .ok (.ifCond .ne 14, 3) := by decide +kernel
theorem d142_196 : decode (xbc 142) 196 = .ok (.aload_n 0, 1) := by decide +kernel
theorem d142_197 : decode (xbc 142) 197 = .ok (.dup, 1) := by decide +kernel
theorem d142_198 : decode (xbc 142) 198 = .ok (.getfield 46, 3) := by decide +kernel
theorem d142_201 : decode (xbc 142) 201 = .ok (.iconst 1, 1) := by decide +kernel
theorem d142_202 : decode (xbc 142) 202 = .ok (.iadd, 1) := by decide +kernel
theorem d142_203 : decode (xbc 142) 203 = .ok (.putfield 46, 3) := by decide +kernel
theorem d142_206 : decode (xbc 142) 206 = .ok (.return_, 1) := by decide +kernel
theorem d142_207 : decode (xbc 142) 207 = .ok (.aload_n 0, 1) := by decide +kernel
theorem d142_208 : decode (xbc 142) 208 = .ok (.dup, 1) := by decide +kernel
theorem d142_209 : decode (xbc 142) 209 = .ok (.getfield 49, 3) := by decide +kernel
theorem d142_212 : decode (xbc 142) 212 = .ok (.iconst 1, 1) := by decide +kernel
theorem d142_213 : decode (xbc 142) 213 = .ok (.iadd, 1) := by decide +kernel
theorem d142_214 : decode (xbc 142) 214 = .ok (.putfield 49, 3) := by decide +kernel
theorem d142_217 : decode (xbc 142) 217 = .ok (.aload_n 0, 1) := by decide +kernel
theorem d142_218 : decode (xbc 142) 218 = .ok (.getfield 52, 3) := by decide +kernel
theorem d142_221 : decode (xbc 142) 221 = .ok (.ifCond .ge 13, 3) := by decide +kernel
theorem d142_224 : decode (xbc 142) 224 = .ok (.aload_n 0, 1) := by decide +kernel
theorem d142_225 : decode (xbc 142) 225 = .ok (.iload_n 2, 1) := by decide +kernel
theorem d142_226 : decode (xbc 142) 226 = .ok (.putfield 52, 3) := by decide +kernel
theorem d142_229 : decode (xbc 142) 229 = .ok (.aload_n 0, 1) := by decide +kernel
theorem d142_230 : decode (xbc 142) 230 = .ok (.iload_n 3, 1) := by decide +kernel
theorem d142_231 : decode (xbc 142) 231 = .ok (.putfield 55, 3) := by decide +kernel
theorem d142_234 : decode (xbc 142) 234 = .ok (.iconst 1, 1) := by decide +kernel
theorem d142_235 : decode (xbc 142) 235 = .ok (.istore 7, 2) := by decide +kernel
theorem d142_237 : decode (xbc 142) 237 = .ok (.iload_n 3, 1) := by decide +kernel
theorem d142_238 : decode (xbc 142) 238 = .ok (.istore 8, 2) := by decide +kernel
theorem d142_240 : decode (xbc 142) 240 = .ok (.iload 8, 2) := by decide +kernel
theorem d142_242 : decode (xbc 142) 242 = .ok (.ifCond .le 164, 3) := by decide +kernel
theorem d142_245 : decode (xbc 142) 245 = .ok (.iload 7, 2) := by decide +kernel
theorem d142_247 : decode (xbc 142) 247 = .ok (.ifCond .eq 159, 3) := by decide +kernel
theorem d142_250 : decode (xbc 142) 250 = .ok (.aload_n 0, 1) := by decide +kernel
theorem d142_251 : decode (xbc 142) 251 = .ok (.iload 8, 2) := by decide +kernel
theorem d142_253 : decode (xbc 142) 253 = .ok (.iconst 0, 1) := by decide +kernel
theorem d142_254 : decode (xbc 142) 254 = .ok (.invokevirtual 66, 3) := by decide +kernel
theorem d142_257 : decode (xbc 142) 257 = .ok (.istore 9, 2) := by decide +kernel
theorem d142_259 : decode (xbc 142) 259 = .ok (.aload_n 0, 1) := by decide +kernel
theorem d142_260 : decode (xbc 142) 260 = .ok (.iload 8, 2) := by decide +kernel
theorem d142_262 : decode (xbc 142) 262 = .ok (.iconst 1, 1) := by decide +kernel
theorem d142_263 : decode (xbc 142) 263 = .ok (.invokevirtual 66, 3) := by decide +kernel
theorem d142_266 : decode (xbc 142) 266 = .ok (.istore 10, 2) := by decide +kernel
theorem d142_268 : decode (xbc 142) 268 = .ok (.aload_n 0, 1) := by decide +kernel
theorem d142_269 : decode (xbc 142) 269 = .ok (.iload 9, 2) := by decide +kernel
theorem d142_271 : decode (xbc 142) 271 = .ok (.iload 10, 2) := by decide +kernel
theorem d142_273 : decode (xbc 142) 273 = .ok (.iload 4, 2) := by decide +kernel
theorem d142_275 : decode (xbc 142) 275 = .ok (.iload 5, 2) := by decide +kernel
theorem d142_277 : decode (xbc 142) 277 = .ok (.invokevirtual 70, 3) := by decide +kernel
theorem d142_280 : decode (xbc 142) 280 = .ok (.istore 11, 2) := by decide +kernel
theorem d142_282 : decode (xbc 142) 282 = .ok (.iload 11, 2) := by decide +kernel
theorem d142_284 : decode (xbc 142) 284 = .ok (.aload_n 0, 1) := by decide +kernel
theorem d142_285 : decode (xbc 142) 285 = .ok (.getfield 13, 3) := by decide +kernel
theorem d142_288 : decode (xbc 142) 288 = .ok (.bipush 41, 2) := by decide +kernel
theorem d142_290 : decode (xbc 142) 290 = .ok (.iload 8, 2) := by decide +kernel
theorem d142_292 : decode (xbc 142) 292 = .ok (.iadd, 1) := by decide +kernel
theorem d142_293 : decode (xbc 142) 293 = .ok (.iaload, 1) := by decide +kernel
theorem d142_294 : decode (xbc 142) 294 = .ok (.if_icmp .eq 7, 3) := by decide +kernel
theorem d142_297 : decode (xbc 142) 297 = .ok (.iconst 1, 1) := by decide +kernel
theorem d142_298 : decode (xbc 142) 298 = .ok (.goto 4, 3) := by decide +kernel
theorem d142_301 : decode (xbc 142) 301 = .ok (.iconst 0, 1) := by decide +kernel
theorem d142_302 : decode (xbc 142) 302 = .ok (.istore 12, 2) := by decide +kernel
theorem d142_304 : decode (xbc 142) 304 = .ok (.iload 9, 2) := by decide +kernel
theorem d142_306 : decode (xbc 142) 306 = .ok (.aload_n 0, 1) := by decide +kernel
theorem d142_307 : decode (xbc 142) 307 = .ok (.getfield 13, 3) := by decide +kernel
theorem d142_310 : decode (xbc 142) 310 = .ok (.bipush 49, 2) := by decide +kernel
theorem d142_312 : decode (xbc 142) 312 = .ok (.iload 8, 2) := by decide +kernel
theorem d142_314 : decode (xbc 142) 314 = .ok (.iadd, 1) := by decide +kernel
theorem d142_315 : decode (xbc 142) 315 = .ok (.iaload, 1) := by decide +kernel
theorem d142_316 : decode (xbc 142) 316 = .ok (.if_icmp .ne 18, 3) := by decide +kernel
theorem d142_319 : decode (xbc 142) 319 = .ok (.iload 10, 2) := by decide +kernel
theorem d142_321 : decode (xbc 142) 321 = .ok (.aload_n 0, 1) := by decide +kernel
theorem d142_322 : decode (xbc 142) 322 = .ok (.getfield 13, 3) := by decide +kernel
theorem d142_325 : decode (xbc 142) 325 = .ok (.bipush 57, 2) := by decide +kernel
theorem d142_327 : decode (xbc 142) 327 = .ok (.iload 8, 2) := by decide +kernel
theorem d142_329 : decode (xbc 142) 329 = .ok (.iadd, 1) := by decide +kernel
theorem d142_330 : decode (xbc 142) 330 = .ok (.iaload, 1) := by decide +kernel
theorem d142_331 : decode (xbc 142) 331 = .ok (.if_icmp .eq 7, 3) := by decide +kernel
theorem d142_334 : decode (xbc 142) 334 = .ok (.iconst 1, 1) := by decide +kernel
theorem d142_335 : decode (xbc 142) 335 = .ok (.goto 4, 3) := by decide +kernel
theorem d142_338 : decode (xbc 142) 338 = .ok (.iconst 0, 1) := by decide +kernel
theorem d142_339 : decode (xbc 142) 339 = .ok (.istore 13, 2) := by decide +kernel
theorem d142_341 : decode (xbc 142) 341 = .ok (.aload_n 0, 1) := by decide +kernel
theorem d142_342 : decode (xbc 142) 342 = .ok (.getfield 13, 3) := by decide +kernel
theorem d142_345 : decode (xbc 142) 345 = .ok (.bipush 41, 2) := by decide +kernel
theorem d142_347 : decode (xbc 142) 347 = .ok (.iload 8, 2) := by decide +kernel
theorem d142_349 : decode (xbc 142) 349 = .ok (.iadd, 1) := by decide +kernel
theorem d142_350 : decode (xbc 142) 350 = .ok (.iload 11, 2) := by decide +kernel
theorem d142_352 : decode (xbc 142) 352 = .ok (.iastore, 1) := by decide +kernel
theorem d142_353 : decode (xbc 142) 353 = .ok (.aload_n 0, 1) := by decide +kernel
theorem d142_354 : decode (xbc 142) 354 = .ok (.getfield 13, 3) := by decide +kernel
theorem d142_357 : decode (xbc 142) 357 = .ok (.bipush 49, 2) := by decide +kernel
theorem d142_359 : decode (xbc 142) 359 = .ok (.iload 8, 2) := by decide +kernel
theorem d142_361 : decode (xbc 142) 361 = .ok (.iadd, 1) := by decide +kernel
theorem d142_362 : decode (xbc 142) 362 = .ok (.iload 9, 2) := by decide +kernel
theorem d142_364 : decode (xbc 142) 364 = .ok (.iastore, 1) := by decide +kernel
theorem d142_365 : decode (xbc 142) 365 = .ok (.aload_n 0, 1) := by decide +kernel
theorem d142_366 : decode (xbc 142) 366 = .ok (.getfield 13, 3) := by decide +kernel
theorem d142_369 : decode (xbc 142) 369 = .ok (.bipush 57, 2) := by decide +kernel
theorem d142_371 : decode (xbc 142) 371 = .ok (.iload 8, 2) := by decide +kernel
theorem d142_373 : decode (xbc 142) 373 = .ok (.iadd, 1) := by decide +kernel
theorem d142_374 : decode (xbc 142) 374 = .ok (.iload 10, 2) := by decide +kernel
theorem d142_376 : decode (xbc 142) 376 = .ok (.iastore, 1) := by decide +kernel
theorem d142_377 : decode (xbc 142) 377 = .ok (.iload 12, 2) := by decide +kernel
theorem d142_379 : decode (xbc 142) 379 = .ok (.ifCond .ne 8, 3) := by decide +kernel
theorem d142_382 : decode (xbc 142) 382 = .ok (.iload 13, 2) := by decide +kernel
theorem d142_384 : decode (xbc 142) 384 = .ok (.ifCond .eq 9, 3) := by decide +kernel
theorem d142_387 : decode (xbc 142) 387 = .ok (.aload_n 0, 1) := by decide +kernel
theorem d142_388 : decode (xbc 142) 388 = .ok (.iload 8, 2) := by decide +kernel
theorem d142_390 : decode (xbc 142) 390 = .ok (.invokevirtual 74, 3) := by decide +kernel
theorem d142_393 : decode (xbc 142) 393 = .ok (.iload 12, 2) := by decide +kernel
theorem d142_395 : decode (xbc 142) 395 = .ok (.istore 7, 2) := by decide +kernel
theorem d142_397 : decode (xbc 142) 397 = .ok (.iload 8, 2) := by decide +kernel
theorem d142_399 : decode (xbc 142) 399 = .ok (.iconst 2, 1) := by decide +kernel
theorem d142_400 : decode (xbc 142) 400 = .ok (.idiv, 1) := by decide +kernel
theorem d142_401 : decode (xbc 142) 401 = .ok (.istore 8, 2) := by decide +kernel
theorem d142_403 : decode (xbc 142) 403 = .ok (.goto (-163), 3) := by decide +kernel
theorem d142_406 : decode (xbc 142) 406 = .ok (.return_, 1) := by decide +kernel
theorem d143_0 : decode (xbc 143) 0 = .ok (.aload_n 0, 1) := by decide +kernel
theorem d143_1 : decode (xbc 143) 1 = .ok (.getfield 13, 3) := by decide +kernel
theorem d143_4 : decode (xbc 143) 4 = .ok (.iload_n 1, 1) := by decide +kernel
theorem d143_5 : decode (xbc 143) 5 = .ok (.iaload, 1) := by decide +kernel
theorem d143_6 : decode (xbc 143) 6 = .ok (.ifCond .ne 5, 3) := by decide +kernel
theorem d143_9 : decode (xbc 143) 9 = .ok (.iconst 1, 1) := by decide +kernel
theorem d143_10 : decode (xbc 143) 10 = .ok (.ireturn, 1) := by decide +kernel
theorem d143_11 : decode (xbc 143) 11 = .ok (.aload_n 0, 1) := by decide +kernel
theorem d143_12 : decode (xbc 143) 12 = .ok (.getfield 13, 3) := by decide +kernel
theorem d143_15 : decode (xbc 143) 15 = .ok (.bipush 8, 2) := by decide +kernel
theorem d143_17 : decode (xbc 143) 17 = .ok (.iload_n 1, 1) := by decide +kernel
theorem d143_18 : decode (xbc 143) 18 = .ok (.iadd, 1) := by decide +kernel
theorem d143_19 : decode (xbc 143) 19 = .ok (.iaload, 1) := by decide +kernel
theorem d143_20 : decode (xbc 143) 20 = .ok (.ifCond .ne 5, 3) := by decide +kernel
theorem d143_23 : decode (xbc 143) 23 = .ok (.iconst 2, 1) := by decide +kernel
theorem d143_24 : decode (xbc 143) 24 = .ok (.ireturn, 1) := by decide +kernel
theorem d143_25 : decode (xbc 143) 25 = .ok (.aload_n 0, 1) := by decide +kernel
theorem d143_26 : decode (xbc 143) 26 = .ok (.getfield 13, 3) := by decide +kernel
theorem d143_29 : decode (xbc 143) 29 = .ok (.bipush 32, 2) := by decide +kernel
theorem d143_31 : decode (xbc 143) 31 = .ok (.iload_n 1, 1) := by decide +kernel
theorem d143_32 : decode (xbc 143) 32 = .ok (.iadd, 1) := by decide +kernel
theorem d143_33 : decode (xbc 143) 33 = .ok (.iaload, 1) := by decide +kernel
theorem d143_34 : decode (xbc 143) 34 = .ok (.iload_n 2, 1) := by decide +kernel
theorem d143_35 : decode (xbc 143) 35 = .ok (.iadd, 1) := by decide +kernel
theorem d143_36 : decode (xbc 143) 36 = .ok (.bipush (-50), 2) := by decide +kernel
theorem d143_38 : decode (xbc 143) 38 = .ok (.bipush 50, 2) := by decide +kernel
theorem d143_40 : decode (xbc 143) 40 = .ok (.invokestatic 38, 3) := by decide +kernel
theorem d143_43 : decode (xbc 143) 43 = .ok (.ifCond .ne 5, 3) := by decide +kernel
theorem d143_46 : decode (xbc 143) 46 = .ok (.iconst 3, 1) := by decide +kernel
theorem d143_47 : decode (xbc 143) 47 = .ok (.ireturn, 1) := by decide +kernel
theorem d143_48 : decode (xbc 143) 48 = .ok (.aload_n 0, 1) := by decide +kernel
theorem d143_49 : decode (xbc 143) 49 = .ok (.getfield 13, 3) := by decide +kernel
theorem d143_52 : decode (xbc 143) 52 = .ok (.bipush 32, 2) := by decide +kernel
theorem d143_54 : decode (xbc 143) 54 = .ok (.iload_n 1, 1) := by decide +kernel
theorem d143_55 : decode (xbc 143) 55 = .ok (.iadd, 1) := by decide +kernel
theorem d143_56 : decode (xbc 143) 56 = .ok (.dup2, 1) := by decide +kernel
theorem d143_57 : decode (xbc 143) 57 = .ok (.iaload, 1) := by decide +kernel
theorem d143_58 : decode (xbc 143) 58 = .ok (.iload_n 2, 1) := by decide +kernel
theorem d143_59 : decode (xbc 143) 59 = .ok (.iadd, 1) := by decide +kernel
theorem d143_60 : decode (xbc 143) 60 = .ok (.iastore, 1) := by decide +kernel
theorem d143_61 : decode (xbc 143) 61 = .ok (.aload_n 0, 1) := by decide +kernel
theorem d143_62 : decode (xbc 143) 62 = .ok (.getfield 13, 3) := by decide +kernel
theorem d143_65 : decode (xbc 143) 65 = .ok (.bipush 24, 2) := by decide +kernel
theorem d143_67 : decode (xbc 143) 67 = .ok (.iload_n 1, 1) := by decide +kernel
theorem d143_68 : decode (xbc 143) 68 = .ok (.iadd, 1) := by decide +kernel
theorem d143_69 : decode (xbc 143) 69 = .ok (.dup2, 1) := by decide +kernel
theorem d143_70 : decode (xbc 143) 70 = .ok (.iaload, 1) := by decide +kernel
theorem d143_71 : decode (xbc 143) 71 = .ok (.iload_n 2, 1) := by decide +kernel
theorem d143_72 : decode (xbc 143) 72 = .ok (.aload_n 0, 1) := by decide +kernel
theorem d143_73 : decode (xbc 143) 73 = .ok (.getfield 13, 3) := by decide +kernel
theorem d143_76 : decode (xbc 143) 76 = .ok (.bipush 40, 2) := by decide +kernel
theorem d143_78 : decode (xbc 143) 78 = .ok (.iaload, 1) := by decide +kernel
theorem d143_79 : decode (xbc 143) 79 = .ok (.imul, 1) := by decide +kernel
theorem d143_80 : decode (xbc 143) 80 = .ok (.isub, 1) := by decide +kernel
theorem d143_81 : decode (xbc 143) 81 = .ok (.iastore, 1) := by decide +kernel
theorem d143_82 : decode (xbc 143) 82 = .ok (.aload_n 0, 1) := by decide +kernel
theorem d143_83 : decode (xbc 143) 83 = .ok (.invokevirtual 32, 3) := by decide +kernel
theorem d143_86 : decode (xbc 143) 86 = .ok (.iconst 0, 1) := by decide +kernel
theorem d143_87 : decode (xbc 143) 87 = .ok (.ireturn, 1) := by decide +kernel
theorem d144_0 : decode (xbc 144) 0 = .ok (.aload_n 0, 1) := by decide +kernel
theorem d144_1 : decode (xbc 144) 1 = .ok (.getfield 13, 3) := by decide +kernel
theorem d144_4 : decode (xbc 144) 4 = .ok (.iload_n 1, 1) := by decide +kernel
theorem d144_5 : decode (xbc 144) 5 = .ok (.iaload, 1) := by decide +kernel
theorem d144_6 : decode (xbc 144) 6 = .ok (.iload_n 2, 1) := by decide +kernel
theorem d144_7 : decode (xbc 144) 7 = .ok (.ifCond .eq 7, 3) := by decide +kernel
theorem d144_10 : decode (xbc 144) 10 = .ok (.iconst 0, 1) := by decide +kernel
theorem d144_11 : decode (xbc 144) 11 = .ok (.goto 4, 3) := by decide +kernel
theorem d144_14 : decode (xbc 144) 14 = .ok (.iconst 1, 1) := by decide +kernel
theorem d144_15 : decode (xbc 144) 15 = .ok (.if_icmp .ne 13, 3) := by decide +kernel
theorem d144_18 : decode (xbc 144) 18 = .ok (.iload_n 2, 1) := by decide +kernel
theorem d144_19 : decode (xbc 144) 19 = .ok (.ifCond .eq 7, 3) := by decide +kernel
theorem d144_22 : decode (xbc 144) 22 = .ok (.iconst 1, 1) := by decide +kernel
theorem d144_23 : decode (xbc 144) 23 = .ok (.goto 4, 3) := by decide +kernel
theorem d144_26 : decode (xbc 144) 26 = .ok (.iconst 4, 1) := by decide +kernel
theorem d144_27 : decode (xbc 144) 27 = .ok (.ireturn, 1) := by decide +kernel
theorem d144_28 : decode (xbc 144) 28 = .ok (.aload_n 0, 1) := by decide +kernel
theorem d144_29 : decode (xbc 144) 29 = .ok (.getfield 13, 3) := by decide +kernel
theorem d144_32 : decode (xbc 144) 32 = .ok (.iload_n 1, 1) := by decide +kernel
theorem d144_33 : decode (xbc 144) 33 = .ok (.iload_n 2, 1) := by decide +kernel
theorem d144_34 : decode (xbc 144) 34 = .ok (.ifCond .eq 7, 3) := by decide +kernel
theorem d144_37 : decode (xbc 144) 37 = .ok (.iconst 0, 1) := by decide +kernel
theorem d144_38 : decode (xbc 144) 38 = .ok (.goto 4, 3) := by decide +kernel
theorem d144_41 : decode (xbc 144) 41 = .ok (.iconst 1, 1) := by decide +kernel
theorem d144_42 : decode (xbc 144) 42 = .ok (.iastore, 1) := by decide +kernel
theorem d144_43 : decode (xbc 144) 43 = .ok (.aload_n 0, 1) := by decide +kernel
theorem d144_44 : decode (xbc 144) 44 = .ok (.invokevirtual 32, 3) := by decide +kernel
theorem d144_47 : decode (xbc 144) 47 = .ok (.iconst 0, 1) := by decide +kernel
theorem d144_48 : decode (xbc 144) 48 = .ok (.ireturn, 1) := by decide +kernel
