theorem d145_0 : decode (xbc 145) 0 = .ok (.iload_n 1, 1) := by decide +kernel
theorem d145_1 : decode (xbc 145) 1 = .ok (.iload_n 2, 1) := by decide +kernel
theorem d145_2 : decode (xbc 145) 2 = .ok (.if_icmp .ne 5, 3) := by decide +kernel
theorem d145_5 : decode (xbc 145) 5 = .ok (.iconst 5, 1) := by decide +kernel
theorem d145_6 : decode (xbc 145) 6 = .ok (.ireturn, 1) := by decide +kernel
theorem d145_7 : decode (xbc 145) 7 = .ok (.aload_n 0, 1) := by decide +kernel
theorem d145_8 : decode (xbc 145) 8 = .ok (.getfield 13, 3) := by decide +kernel
theorem d145_11 : decode (xbc 145) 11 = .ok (.bipush 16, 2) := by decide +kernel
theorem d145_13 : decode (xbc 145) 13 = .ok (.iload_n 1, 1) := by decide +kernel
theorem d145_14 : decode (xbc 145) 14 = .ok (.iadd, 1) := by decide +kernel
theorem d145_15 : decode (xbc 145) 15 = .ok (.iaload, 1) := by decide +kernel
theorem d145_16 : decode (xbc 145) 16 = .ok (.istore_n 3, 1) := by decide +kernel
theorem d145_17 : decode (xbc 145) 17 = .ok (.aload_n 0, 1) := by decide +kernel
theorem d145_18 : decode (xbc 145) 18 = .ok (.getfield 13, 3) := by decide +kernel
theorem d145_21 : decode (xbc 145) 21 = .ok (.bipush 16, 2) := by decide +kernel
theorem d145_23 : decode (xbc 145) 23 = .ok (.iload_n 2, 1) := by decide +kernel
theorem d145_24 : decode (xbc 145) 24 = .ok (.iadd, 1) := by decide +kernel
theorem d145_25 : decode (xbc 145) 25 = .ok (.iaload, 1) := by decide +kernel
theorem d145_26 : decode (xbc 145) 26 = .ok (.istore 4, 2) := by decide +kernel
theorem d145_28 : decode (xbc 145) 28 = .ok (.iload 4, 2) := by decide +kernel
theorem d145_30 : decode (xbc 145) 30 = .ok (.iconst 4, 1) := by decide +kernel
theorem d145_31 : decode (xbc 145) 31 = .ok (.if_icmp .ge 16, 3) := by decide +kernel
theorem d145_34 : decode (xbc 145) 34 = .ok (.aload_n 0, 1) := by decide +kernel
theorem d145_35 : decode (xbc 145) 35 = .ok (.getfield 13, 3) := by decide +kernel
theorem d145_38 : decode (xbc 145) 38 = .ok (.bipush 8, 2) := by decide +kernel
theorem d145_40 : decode (xbc 145) 40 = .ok (.iload_n 1, 1) := by decide +kernel
theorem d145_41 : decode (xbc 145) 41 = .ok (.iadd, 1) := by decide +kernel
theorem d145_42 : decode (xbc 145) 42 = .ok (.iaload, 1) := by decide +kernel
theorem d145_43 : decode (xbc 145) 43 = .ok (.iconst 1, 1) := by decide +kernel
theorem d145_44 : decode (xbc 145) 44 = .ok (.if_icmp .eq 21, 3) := by decide +kernel
theorem d145_47 : decode (xbc 145) 47 = .ok (.iload_n 3, 1) := by decide +kernel
theorem d145_48 : decode (xbc 145) 48 = .ok (.iconst 4, 1) := by decide +kernel
theorem d145_49 : decode (xbc 145) 49 = .ok (.if_icmp .ge 19, 3) := by decide +kernel
theorem d145_52 : decode (xbc 145) 52 = .ok (.aload_n 0, 1) := by decide +kernel
theorem d145_53 : decode (xbc 145) 53 = .ok (.getfield 13, 3) := by decide +kernel
theorem d145_56 : decode (xbc 145) 56 = .ok (.bipush 8, 2) := by decide +kernel
theorem d145_58 : decode (xbc 145) 58 = .ok (.iload_n 2, 1) := by decide +kernel
theorem d145_59 : decode (xbc 145) 59 = .ok (.iadd, 1) := by decide +kernel
theorem d145_60 : decode (xbc 145) 60 = .ok (.iaload, 1) := by decide +kernel
theorem d145_61 : decode (xbc 145) 61 = .ok (.iconst 1, 1) := by decide +kernel
theorem d145_62 : decode (xbc 145) 62 = .ok (.if_icmp .ne 6, 3) := by decide +kernel
theorem d145_65 : decode (xbc 145) 65 = .ok (.bipush 6, 2) := by decide +kernel
theorem d145_67 : decode (xbc 145) 67 = .ok (.ireturn, 1) := by decide +kernel
theorem d145_68 : decode (xbc 145) 68 = .ok (.aload_n 0, 1) := by decide +kernel
theorem d145_69 : decode (xbc 145) 69 = .ok (.getfield 13, 3) := by decide +kernel
theorem d145_72 : decode (xbc 145) 72 = .ok (.bipush 16, 2) := by decide +kernel
theorem d145_74 : decode (xbc 145) 74 = .ok (.iload_n 1, 1) := by decide +kernel
theorem d145_75 : decode (xbc 145) 75 = .ok (.iadd, 1) := by decide +kernel
theorem d145_76 : decode (xbc 145) 76 = .ok (.iload 4, 2) := by decide +kernel
theorem d145_78 : decode (xbc 145) 78 = .ok (.iastore, 1) := by decide +kernel
theorem d145_79 : decode (xbc 145) 79 = .ok (.aload_n 0, 1) := by decide +kernel
theorem d145_80 : decode (xbc 145) 80 = .ok (.getfield 13, 3) := by decide +kernel
theorem d145_83 : decode (xbc 145) 83 = .ok (.bipush 16, 2) := by decide +kernel
theorem d145_85 : decode (xbc 145) 85 = .ok (.iload_n 2, 1) := by decide +kernel
theorem d145_86 : decode (xbc 145) 86 = .ok (.iadd, 1) := by decide +kernel
theorem d145_87 : decode (xbc 145) 87 = .ok (.iload_n 3, 1) := by decide +kernel
theorem d145_88 : decode (xbc 145) 88 = .ok (.iastore, 1) := by decide +kernel
theorem d145_89 : decode (xbc 145) 89 = .ok (.aload_n 0, 1) := by decide +kernel
theorem d145_90 : decode (xbc 145) 90 = .ok (.invokevirtual 32, 3) := by decide +kernel
theorem d145_93 : decode (xbc 145) 93 = .ok (.iconst 0, 1) := by decide +kernel
theorem d145_94 : decode (xbc 145) 94 = .ok (.ireturn, 1) := by decide +kernel
theorem d146_0 : decode (xbc 146) 0 = .ok (.aload_n 0, 1) := by decide +kernel
theorem d146_1 : decode (xbc 146) 1 = .ok (.invokevirtual 127, 3) := by decide +kernel
theorem d146_4 : decode (xbc 146) 4 = .ok (.ifCond .ge 6, 3) := by decide +kernel
theorem d146_7 : decode (xbc 146) 7 = .ok (.bipush (-5), 2) := by decide +kernel
theorem d146_9 : decode (xbc 146) 9 = .ok (.ireturn, 1) := by decide +kernel
theorem d146_10 : decode (xbc 146) 10 = .ok (.aload_n 0, 1) := by decide +kernel
theorem d146_11 : decode (xbc 146) 11 = .ok (.invokevirtual 35, 3) := by decide +kernel
theorem d146_14 : decode (xbc 146) 14 = .ok (.aload_n 0, 1) := by decide +kernel
theorem d146_15 : decode (xbc 146) 15 = .ok (.iconst 0, 1) := by decide +kernel
theorem d146_16 : decode (xbc 146) 16 = .ok (.putfield 85, 3) := by decide +kernel
theorem d146_19 : decode (xbc 146) 19 = .ok (.aload_n 0, 1) := by decide +kernel
theorem d146_20 : decode (xbc 146) 20 = .ok (.getfield 102, 3) := by decide +kernel
theorem d146_23 : decode (xbc 146) 23 = .ok (.ireturn, 1) := by decide +kernel
theorem d147_0 : decode (xbc 147) 0 = .ok (.aload_n 0, 1) := by decide +kernel
theorem d147_1 : decode (xbc 147) 1 = .ok (.invokevirtual 91, 3) := by decide +kernel
theorem d147_4 : decode (xbc 147) 4 = .ok (.ifCond .ge 10, 3) := by decide +kernel
theorem d147_7 : decode (xbc 147) 7 = .ok (.aload_n 0, 1) := by decide +kernel
theorem d147_8 : decode (xbc 147) 8 = .ok (.invokevirtual 124, 3) := by decide +kernel
theorem d147_11 : decode (xbc 147) 11 = .ok (.ifCond .lt 8, 3) := by decide +kernel
theorem d147_14 : decode (xbc 147) 14 = .ok (.bipush (-5), 2) := by decide +kernel
theorem d147_16 : decode (xbc 147) 16 = .ok (.goto 4, 3) := by decide +kernel
theorem d147_19 : decode (xbc 147) 19 = .ok (.iconst 0, 1) := by decide +kernel
theorem d147_20 : decode (xbc 147) 20 = .ok (.ireturn, 1) := by decide +kernel
theorem d148_0 : decode (xbc 148) 0 = .ok (.iload_n 1, 1) := by decide +kernel
theorem d148_1 : decode (xbc 148) 1 = .ok (.invokestatic 78, 3) := by decide +kernel
theorem d148_4 : decode (xbc 148) 4 = .ok (.ifCond .ne 5, 3) := by decide +kernel
theorem d148_7 : decode (xbc 148) 7 = .ok (.iconst (-1), 1) := by decide +kernel
theorem d148_8 : decode (xbc 148) 8 = .ok (.ireturn, 1) := by decide +kernel
theorem d148_9 : decode (xbc 148) 9 = .ok (.iload_n 2, 1) := by decide +kernel
theorem d148_10 : decode (xbc 148) 10 = .ok (.iconst 0, 1) := by decide +kernel
theorem d148_11 : decode (xbc 148) 11 = .ok (.iconst 3, 1) := by decide +kernel
theorem d148_12 : decode (xbc 148) 12 = .ok (.invokestatic 38, 3) := by decide +kernel
theorem d148_15 : decode (xbc 148) 15 = .ok (.ifCond .ne 6, 3) := by decide +kernel
theorem d148_18 : decode (xbc 148) 18 = .ok (.bipush (-2), 2) := by decide +kernel
theorem d148_20 : decode (xbc 148) 20 = .ok (.ireturn, 1) := by decide +kernel
theorem d148_21 : decode (xbc 148) 21 = .ok (.aload_n 0, 1) := by decide +kernel
theorem d148_22 : decode (xbc 148) 22 = .ok (.invokevirtual 127, 3) := by decide +kernel
theorem d148_25 : decode (xbc 148) 25 = .ok (.ifCond .ge 6, 3) := by decide +kernel
theorem d148_28 : decode (xbc 148) 28 = .ok (.bipush (-5), 2) := by decide +kernel
theorem d148_30 : decode (xbc 148) 30 = .ok (.ireturn, 1) := by decide +kernel
theorem d148_31 : decode (xbc 148) 31 = .ok (.iload_n 2, 1) := by decide +kernel
theorem d148_32 : decode (xbc 148) 32 = .ok (.ifCond .ne 12, 3) := by decide +kernel
theorem d148_35 : decode (xbc 148) 35 = .ok (.aload_n 0, 1) := by decide +kernel
theorem d148_36 : decode (xbc 148) 36 = .ok (.getfield 13, 3) := by decide +kernel
theorem d148_39 : decode (xbc 148) 39 = .ok (.iload_n 1, 1) := by decide +kernel
theorem d148_40 : decode (xbc 148) 40 = .ok (.iaload, 1) := by decide +kernel
theorem d148_41 : decode (xbc 148) 41 = .ok (.goto 17, 3) := by decide +kernel
theorem d148_44 : decode (xbc 148) 44 = .ok (.aload_n 0, 1) := by decide +kernel
theorem d148_45 : decode (xbc 148) 45 = .ok (.getfield 13, 3) := by decide +kernel
theorem d148_48 : decode (xbc 148) 48 = .ok (.bipush 8, 2) := by decide +kernel
theorem d148_50 : decode (xbc 148) 50 = .ok (.bipush 8, 2) := by decide +kernel
theorem d148_52 : decode (xbc 148) 52 = .ok (.iload_n 2, 1) := by decide +kernel
theorem d148_53 : decode (xbc 148) 53 = .ok (.imul, 1) := by decide +kernel
theorem d148_54 : decode (xbc 148) 54 = .ok (.iadd, 1) := by decide +kernel
theorem d148_55 : decode (xbc 148) 55 = .ok (.iload_n 1, 1) := by decide +kernel
theorem d148_56 : decode (xbc 148) 56 = .ok (.iadd, 1) := by decide +kernel
theorem d148_57 : decode (xbc 148) 57 = .ok (.iaload, 1) := by decide +kernel
theorem d148_58 : decode (xbc 148) 58 = .ok (.ireturn, 1) := by decide +kernel
theorem d149_0 : decode (xbc 149) 0 = .ok (.iload_n 1, 1) := by decide +kernel
theorem d149_1 : decode (xbc 149) 1 = .ok (.iconst 1, 1) := by decide +kernel
theorem d149_2 : decode (xbc 149) 2 = .ok (.bipush 7, 2) := by decide +kernel
theorem d149_4 : decode (xbc 149) 4 = .ok (.invokestatic 38, 3) := by decide +kernel
theorem d149_7 : decode (xbc 149) 7 = .ok (.ifCond .ne 5, 3) := by decide +kernel
theorem d149_10 : decode (xbc 149) 10 = .ok (.iconst (-1), 1) := by decide +kernel
theorem d149_11 : decode (xbc 149) 11 = .ok (.ireturn, 1) := by decide +kernel
theorem d149_12 : decode (xbc 149) 12 = .ok (.aload_n 0, 1) := by decide +kernel
theorem d149_13 : decode (xbc 149) 13 = .ok (.invokevirtual 127, 3) := by decide +kernel
theorem d149_16 : decode (xbc 149) 16 = .ok (.ifCond .ge 8, 3) := by decide +kernel
theorem d149_19 : decode (xbc 149) 19 = .ok (.bipush (-5), 2) := by decide +kernel
theorem d149_21 : decode (xbc 149) 21 = .ok (.goto 12, 3) := by decide +kernel
theorem d149_24 : decode (xbc 149) 24 = .ok (.aload_n 0, 1) := by decide +kernel
theorem d149_25 : decode (xbc 149) 25 = .ok (.getfield 13, 3) := by decide +kernel
theorem d149_28 : decode (xbc 149) 28 = .ok (.bipush 41, 2) := by decide +kernel
theorem d149_30 : decode (xbc 149) 30 = .ok (.iload_n 1, 1) := by decide +kernel
theorem d149_31 : decode (xbc 149) 31 = .ok (.iadd, 1) := by decide +kernel
theorem d149_32 : decode (xbc 149) 32 = .ok (.iaload, 1) := by decide +kernel
theorem d149_33 : decode (xbc 149) 33 = .ok (.ireturn, 1) := by decide +kernel
theorem d150_0 : decode (xbc 150) 0 = .ok (.iload_n 1, 1) := by decide +kernel
theorem d150_1 : decode (xbc 150) 1 = .ok (.iconst 0, 1) := by decide +kernel
theorem d150_2 : decode (xbc 150) 2 = .ok (.bipush 6, 2) := by decide +kernel
theorem d150_4 : decode (xbc 150) 4 = .ok (.invokestatic 38, 3) := by decide +kernel
theorem d150_7 : decode (xbc 150) 7 = .ok (.ifCond .ne 6, 3) := by decide +kernel
theorem d150_10 : decode (xbc 150) 10 = .ok (.bipush (-2), 2) := by decide +kernel
theorem d150_12 : decode (xbc 150) 12 = .ok (.ireturn, 1) := by decide +kernel
theorem d150_13 : decode (xbc 150) 13 = .ok (.aload_n 0, 1) := by decide +kernel
theorem d150_14 : decode (xbc 150) 14 = .ok (.invokevirtual 127, 3) := by decide +kernel
theorem d150_17 : decode (xbc 150) 17 = .ok (.ifCond .ge 6, 3) := by decide +kernel
theorem d150_20 : decode (xbc 150) 20 = .ok (.bipush (-5), 2) := by decide +kernel
theorem d150_22 : decode (xbc 150) 22 = .ok (.ireturn, 1) := by decide +kernel
theorem d150_23 : decode (xbc 150) 23 = .ok (.iload_n 1, 1) := by decide +kernel
theorem d150_24 : decode (xbc 150) 24 = .ok (.tableswitch 67 0 4 #[36, 44, 52, 57, 62], 36) := by decide +kernel
theorem d150_60 : decode (xbc 150) 60 = .ok (.aload_n 0, 1) := by decide +kernel
theorem d150_61 : decode (xbc 150) 61 = .ok (.getfield 13, 3) := by decide +kernel
theorem d150_64 : decode (xbc 150) 64 = .ok (.bipush 40, 2) := by decide +kernel
theorem d150_66 : decode (xbc 150) 66 = .ok (.iaload, 1) := by decide +kernel
theorem d150_67 : decode (xbc 150) 67 = .ok (.ireturn, 1) := by decide +kernel
theorem d150_68 : decode (xbc 150) 68 = .ok (.aload_n 0, 1) := by decide +kernel
theorem d150_69 : decode (xbc 150) 69 = .ok (.getfield 13, 3) := by decide +kernel
theorem d150_72 : decode (xbc 150) 72 = .ok (.bipush 42, 2) := by decide +kernel
theorem d150_74 : decode (xbc 150) 74 = .ok (.iaload, 1) := by decide +kernel
theorem d150_75 : decode (xbc 150) 75 = .ok (.ireturn, 1) := by decide +kernel
theorem d150_76 : decode (xbc 150) 76 = .ok (.aload_n 0, 1) := by decide +kernel
theorem d150_77 : decode (xbc 150) 77 = .ok (.getfield 42, 3) := by decide +kernel
theorem d150_80 : decode (xbc 150) 80 = .ok (.ireturn, 1) := by decide +kernel
theorem d150_81 : decode (xbc 150) 81 = .ok (.aload_n 0, 1) := by decide +kernel
theorem d150_82 : decode (xbc 150) 82 = .ok (.getfield 46, 3) := by decide +kernel
theorem d150_85 : decode (xbc 150) 85 = .ok (.ireturn, 1) := by decide +kernel
theorem d150_86 : decode (xbc 150) 86 = .ok (.aload_n 0, 1) := by decide +kernel
theorem d150_87 : decode (xbc 150) 87 = .ok (.getfield 49, 3) := by decide +kernel
theorem d150_90 : decode (xbc 150) 90 = .ok (.ireturn, 1) := by decide +kernel
theorem d150_91 : decode (xbc 150) 91 = .ok (.iload_n 1, 1) := by decide +kernel
theorem d150_92 : decode (xbc 150) 92 = .ok (.iconst 5, 1) := by decide +kernel
theorem d150_93 : decode (xbc 150) 93 = .ok (.if_icmp .ne 10, 3) := by decide +kernel
theorem d150_96 : decode (xbc 150) 96 = .ok (.aload_n 0, 1) := by decide +kernel
theorem d150_97 : decode (xbc 150) 97 = .ok (.getfield 52, 3) := by decide +kernel
theorem d150_100 : decode (xbc 150) 100 = .ok (.goto 7, 3) := by decide +kernel
theorem d150_103 : decode (xbc 150) 103 = .ok (.aload_n 0, 1) := by decide +kernel
theorem d150_104 : decode (xbc 150) 104 = .ok (.getfield 55, 3) := by decide +kernel
theorem d150_107 : decode (xbc 150) 107 = .ok (.ireturn, 1) := by decide +kernel
theorem d151_0 : decode (xbc 151) 0 = .ok (.iload_n 1, 1) := by decide +kernel
theorem d151_1 : decode (xbc 151) 1 = .ok (.iload_n 2, 1) := by decide +kernel
theorem d151_2 : decode (xbc 151) 2 = .ok (.invokestatic 134, 3) := by decide +kernel
theorem d151_5 : decode (xbc 151) 5 = .ok (.ifCond .ne 6, 3) := by decide +kernel
theorem d151_8 : decode (xbc 151) 8 = .ok (.bipush (-2), 2) := by decide +kernel
theorem d151_10 : decode (xbc 151) 10 = .ok (.ireturn, 1) := by decide +kernel
theorem d151_11 : decode (xbc 151) 11 = .ok (.aload_n 0, 1) := by decide +kernel
theorem d151_12 : decode (xbc 151) 12 = .ok (.invokevirtual 82, 3) := by decide +kernel
theorem d151_15 : decode (xbc 151) 15 = .ok (.aload_n 0, 1) := by decide +kernel
theorem d151_16 : decode (xbc 151) 16 = .ok (.iconst 1, 1) := by decide +kernel
theorem d151_17 : decode (xbc 151) 17 = .ok (.iload_n 1, 1) := by decide +kernel
theorem d151_18 : decode (xbc 151) 18 = .ok (.iload_n 2, 1) := by decide +kernel
theorem d151_19 : decode (xbc 151) 19 = .ok (.invokevirtual 137, 3) := by decide +kernel
theorem d151_22 : decode (xbc 151) 22 = .ok (.ireturn, 1) := by decide +kernel
theorem d152_0 : decode (xbc 152) 0 = .ok (.iload_n 0, 1) := by decide +kernel
theorem d152_1 : decode (xbc 152) 1 = .ok (.iconst 0, 1) := by decide +kernel
theorem d152_2 : decode (xbc 152) 2 = .ok (.sipush 9999, 3) := by decide +kernel
theorem d152_5 : decode (xbc 152) 5 = .ok (.invokestatic 38, 3) := by decide +kernel
theorem d152_8 : decode (xbc 152) 8 = .ok (.ifCond .eq 17, 3) := by decide +kernel
theorem d152_11 : decode (xbc 152) 11 = .ok (.iload_n 1, 1) := by decide +kernel
theorem d152_12 : decode (xbc 152) 12 = .ok (.iconst 1, 1) := by decide +kernel
theorem d152_13 : decode (xbc 152) 13 = .ok (.bipush 100, 2) := by decide +kernel
theorem d152_15 : decode (xbc 152) 15 = .ok (.invokestatic 38, 3) := by decide +kernel
theorem d152_18 : decode (xbc 152) 18 = .ok (.ifCond .eq 7, 3) := by decide +kernel
theorem d152_21 : decode (xbc 152) 21 = .ok (.iconst 1, 1) := by decide +kernel
theorem d152_22 : decode (xbc 152) 22 = .ok (.goto 4, 3) := by decide +kernel
theorem d152_25 : decode (xbc 152) 25 = .ok (.iconst 0, 1) := by decide +kernel
theorem d152_26 : decode (xbc 152) 26 = .ok (.ireturn, 1) := by decide +kernel
theorem d153_0 : decode (xbc 153) 0 = .ok (.bipush (-6), 2) := by decide +kernel
theorem d153_2 : decode (xbc 153) 2 = .ok (.istore 4, 2) := by decide +kernel
theorem d153_4 : decode (xbc 153) 4 = .ok (.iconst 0, 1) := by decide +kernel
theorem d153_5 : decode (xbc 153) 5 = .ok (.istore 5, 2) := by decide +kernel
theorem d153_7 : decode (xbc 153) 7 = .ok (.iload 5, 2) := by decide +kernel
theorem d153_9 : decode (xbc 153) 9 = .ok (.bipush 8, 2) := by decide +kernel
theorem d153_11 : decode (xbc 153) 11 = .ok (.if_icmp .ge 47, 3) := by decide +kernel
theorem d153_14 : decode (xbc 153) 14 = .ok (.aload_n 0, 1) := by decide +kernel
theorem d153_15 : decode (xbc 153) 15 = .ok (.getfield 13, 3) := by decide +kernel
theorem d153_18 : decode (xbc 153) 18 = .ok (.iload 5, 2) := by decide +kernel
theorem d153_20 : decode (xbc 153) 20 = .ok (.iaload, 1) := by decide +kernel
theorem d153_21 : decode (xbc 153) 21 = .ok (.iconst 1, 1) := by decide +kernel
theorem d153_22 : decode (xbc 153) 22 = .ok (.if_icmp .ne 26, 3) := by decide +kernel
theorem d153_25 : decode (xbc 153) 25 = .ok (.aload_n 0, 1) := by decide +kernel
theorem d153_26 : decode (xbc 153) 26 = .ok (.iload 5, 2) := by decide +kernel
theorem d153_28 : decode (xbc 153) 28 = .ok (.iload_n 1, 1) := by decide +kernel
theorem d153_29 : decode (xbc 153) 29 = .ok (.invokevirtual 130, 3) := by decide +kernel
theorem d153_32 : decode (xbc 153) 32 = .ok (.ifCond .eq 16, 3) := by decide +kernel
theorem d153_35 : decode (xbc 153) 35 = .ok (.aload_n 0, 1) := by decide +kernel
theorem d153_36 : decode (xbc 153) 36 = .ok (.iload 4, 2) := by decide +kernel
theorem d153_38 : decode (xbc 153) 38 = .ok (.iload 5, 2) := by decide +kernel
theorem d153_40 : decode (xbc 153) 40 = .ok (.iload_n 2, 1) := by decide +kernel
theorem d153_41 : decode (xbc 153) 41 = .ok (.iload_n 3, 1) := by decide +kernel
theorem d153_42 : decode (xbc 153) 42 = .ok (.invokevirtual 70, 3) := by decide +kernel
theorem d153_45 : decode (xbc 153) 45 = .ok (.goto 5, 3) := by decide +kernel
theorem d153_48 : decode (xbc 153) 48 = .ok (.iload 4, 2) := by decide +kernel
theorem d153_50 : decode (xbc 153) 50 = .ok (.istore 4, 2) := by decide +kernel
theorem d153_52 : decode (xbc 153) 52 = .ok (.iinc 5 1, 3) := by decide +kernel
theorem d153_55 : decode (xbc 153) 55 = .ok (.goto (-48), 3) := by decide +kernel
theorem d153_58 : decode (xbc 153) 58 = .ok (.iload 4, 2) := by decide +kernel
theorem d153_60 : decode (xbc 153) 60 = .ok (.ireturn, 1) := by decide +kernel
theorem d154_0 : decode (xbc 154) 0 = .ok (.iconst 4, 1) := by decide +kernel
theorem d154_1 : decode (xbc 154) 1 = .ok (.aload_n 0, 1) := by decide +kernel
theorem d154_2 : decode (xbc 154) 2 = .ok (.getfield 13, 3) := by decide +kernel
theorem d154_5 : decode (xbc 154) 5 = .ok (.bipush 16, 2) := by decide +kernel
theorem d154_7 : decode (xbc 154) 7 = .ok (.iload_n 1, 1) := by decide +kernel
theorem d154_8 : decode (xbc 154) 8 = .ok (.iadd, 1) := by decide +kernel
theorem d154_9 : decode (xbc 154) 9 = .ok (.iaload, 1) := by decide +kernel
theorem d154_10 : decode (xbc 154) 10 = .ok (.iconst 2, 1) := by decide +kernel
theorem d154_11 : decode (xbc 154) 11 = .ok (.idiv, 1) := by decide +kernel
theorem d154_12 : decode (xbc 154) 12 = .ok (.iadd, 1) := by decide +kernel
theorem d154_13 : decode (xbc 154) 13 = .ok (.istore_n 3, 1) := by decide +kernel
theorem d154_14 : decode (xbc 154) 14 = .ok (.iload_n 3, 1) := by decide +kernel
theorem d154_15 : decode (xbc 154) 15 = .ok (.iload_n 2, 1) := by decide +kernel
theorem d154_16 : decode (xbc 154) 16 = .ok (.if_icmp .le 10, 3) := by decide +kernel
theorem d154_19 : decode (xbc 154) 19 = .ok (.iload_n 3, 1) := by decide +kernel
theorem d154_20 : decode (xbc 154) 20 = .ok (.iconst 2, 1) := by decide +kernel
theorem d154_21 : decode (xbc 154) 21 = .ok (.idiv, 1) := by decide +kernel
theorem d154_22 : decode (xbc 154) 22 = .ok (.istore_n 3, 1) := by decide +kernel
theorem d154_23 : decode (xbc 154) 23 = .ok (.goto (-9), 3) := by decide +kernel
theorem d154_26 : decode (xbc 154) 26 = .ok (.iload_n 3, 1) := by decide +kernel
theorem d154_27 : decode (xbc 154) 27 = .ok (.iload_n 2, 1) := by decide +kernel
theorem d154_28 : decode (xbc 154) 28 = .ok (.if_icmp .ne 7, 3) := by decide +kernel
theorem d154_31 : decode (xbc 154) 31 = .ok (.iconst 1, 1) := by decide +kernel
theorem d154_32 : decode (xbc 154) 32 = .ok (.goto 4, 3) := by decide +kernel
theorem d154_35 : decode (xbc 154) 35 = .ok (.iconst 0, 1) := by decide +kernel
theorem d154_36 : decode (xbc 154) 36 = .ok (.ireturn, 1) := by decide +kernel
theorem d155_0 : decode (xbc 155) 0 = .ok (.iload_n 1, 1) := by decide +kernel
theorem d155_1 : decode (xbc 155) 1 = .ok (.iconst 0, 1) := by decide +kernel
theorem d155_2 : decode (xbc 155) 2 = .ok (.iconst 1, 1) := by decide +kernel
theorem d155_3 : decode (xbc 155) 3 = .ok (.invokestatic 38, 3) := by decide +kernel
theorem d155_6 : decode (xbc 155) 6 = .ok (.ifCond .ne 7, 3) := by decide +kernel
theorem d155_9 : decode (xbc 155) 9 = .ok (.ldc2_w 156, 3) := by decide +kernel
theorem d155_12 : decode (xbc 155) 12 = .ok (.lreturn, 1) := by decide +kernel
theorem d155_13 : decode (xbc 155) 13 = .ok (.aload_n 0, 1) := by decide +kernel
theorem d155_14 : decode (xbc 155) 14 = .ok (.invokevirtual 82, 3) := by decide +kernel
theorem d155_17 : decode (xbc 155) 17 = .ok (.aload_n 0, 1) := by decide +kernel
theorem d155_18 : decode (xbc 155) 18 = .ok (.invokevirtual 158, 3) := by decide +kernel
theorem d155_21 : decode (xbc 155) 21 = .ok (.ifCond .ge 9, 3) := by decide +kernel
theorem d155_24 : decode (xbc 155) 24 = .ok (.ldc2_w 161, 3) := by decide +kernel
theorem d155_27 : decode (xbc 155) 27 = .ok (.goto 17, 3) := by decide +kernel
theorem d155_30 : decode (xbc 155) 30 = .ok (.aload_n 0, 1) := by decide +kernel
theorem d155_31 : decode (xbc 155) 31 = .ok (.getfield 153, 3) := by decide +kernel
theorem d155_34 : decode (xbc 155) 34 = .ok (.i2l, 1) := by decide +kernel
theorem d155_35 : decode (xbc 155) 35 = .ok (.aload_n 0, 1) := by decide +kernel
theorem d155_36 : decode (xbc 155) 36 = .ok (.getfield 150, 3) := by decide +kernel
theorem d155_39 : decode (xbc 155) 39 = .ok (.i2l, 1) := by decide +kernel
theorem d155_40 : decode (xbc 155) 40 = .ok (.iload_n 1, 1) := by decide +kernel
theorem d155_41 : decode (xbc 155) 41 = .ok (.invokestatic 163, 3) := by decide +kernel
theorem d155_44 : decode (xbc 155) 44 = .ok (.lreturn, 1) := by decide +kernel
theorem d156_0 : decode (xbc 156) 0 = .ok (.bipush (-6), 2) := by decide +kernel
theorem d156_2 : decode (xbc 156) 2 = .ok (.istore_n 1, 1) := by decide +kernel
theorem d156_3 : decode (xbc 156) 3 = .ok (.bipush 7, 2) := by decide +kernel
theorem d156_5 : decode (xbc 156) 5 = .ok (.istore_n 2, 1) := by decide +kernel
theorem d156_6 : decode (xbc 156) 6 = .ok (.iload_n 2, 1) := by decide +kernel
theorem d156_7 : decode (xbc 156) 7 = .ok (.ifCond .le 73, 3) := by decide +kernel
theorem d156_10 : decode (xbc 156) 10 = .ok (.aload_n 0, 1) := by decide +kernel
theorem d156_11 : decode (xbc 156) 11 = .ok (.iload_n 2, 1) := by decide +kernel
theorem d156_12 : decode (xbc 156) 12 = .ok (.aload_n 0, 1) := by decide +kernel
theorem d156_13 : decode (xbc 156) 13 = .ok (.iload_n 2, 1) := by decide +kernel
theorem d156_14 : decode (xbc 156) 14 = .ok (.aload_n 0, 1) := by decide +kernel
theorem d156_15 : decode (xbc 156) 15 = .ok (.getfield 13, 3) := by decide +kernel
theorem d156_18 : decode (xbc 156) 18 = .ok (.bipush 40, 2) := by decide +kernel
theorem d156_20 : decode (xbc 156) 20 = .ok (.iaload, 1) := by decide +kernel
theorem d156_21 : decode (xbc 156) 21 = .ok (.iconst 1, 1) := by decide +kernel
theorem d156_22 : decode (xbc 156) 22 = .ok (.invokevirtual 137, 3) := by decide +kernel
theorem d156_25 : decode (xbc 156) 25 = .ok (.invokevirtual 147, 3) := by decide +kernel
theorem d156_28 : decode (xbc 156) 28 = .ok (.ifCond .eq 46, 3) := by decide +kernel
theorem d156_31 : decode (xbc 156) 31 = .ok (.iload_n 1, 1) := by decide +kernel
theorem d156_32 : decode (xbc 156) 32 = .ok (.ifCond .lt 24, 3) := by decide +kernel
theorem d156_35 : decode (xbc 156) 35 = .ok (.aload_n 0, 1) := by decide +kernel
theorem d156_36 : decode (xbc 156) 36 = .ok (.getfield 144, 3) := by decide +kernel
theorem d156_39 : decode (xbc 156) 39 = .ok (.aload_n 0, 1) := by decide +kernel
theorem d156_40 : decode (xbc 156) 40 = .ok (.getfield 150, 3) := by decide +kernel
theorem d156_43 : decode (xbc 156) 43 = .ok (.imul, 1) := by decide +kernel
theorem d156_44 : decode (xbc 156) 44 = .ok (.aload_n 0, 1) := by decide +kernel
theorem d156_45 : decode (xbc 156) 45 = .ok (.getfield 153, 3) := by decide +kernel
theorem d156_48 : decode (xbc 156) 48 = .ok (.aload_n 0, 1) := by decide +kernel
theorem d156_49 : decode (xbc 156) 49 = .ok (.getfield 141, 3) := by decide +kernel
theorem d156_52 : decode (xbc 156) 52 = .ok (.imul, 1) := by decide +kernel
theorem d156_53 : decode (xbc 156) 53 = .ok (.if_icmp .ge 21, 3) := by decide +kernel
theorem d156_56 : decode (xbc 156) 56 = .ok (.iload_n 2, 1) := by decide +kernel
theorem d156_57 : decode (xbc 156) 57 = .ok (.istore_n 1, 1) := by decide +kernel
theorem d156_58 : decode (xbc 156) 58 = .ok (.aload_n 0, 1) := by decide +kernel
theorem d156_59 : decode (xbc 156) 59 = .ok (.aload_n 0, 1) := by decide +kernel
theorem d156_60 : decode (xbc 156) 60 = .ok (.getfield 144, 3) := by decide +kernel
theorem d156_63 : decode (xbc 156) 63 = .ok (.putfield 153, 3) := by decide +kernel
theorem d156_66 : decode (xbc 156) 66 = .ok (.aload_n 0, 1) := by decide +kernel
theorem d156_67 : decode (xbc 156) 67 = .ok (.aload_n 0, 1) := by decide +kernel
theorem d156_68 : decode (xbc 156) 68 = .ok (.getfield 141, 3) := by decide +kernel
theorem d156_71 : decode (xbc 156) 71 = .ok (.putfield 150, 3) := by decide +kernel
theorem d156_74 : decode (xbc 156) 74 = .ok (.iinc 2 (-1), 3) := by decide +kernel
theorem d156_77 : decode (xbc 156) 77 = .ok (.goto (-71), 3) := by decide +kernel
theorem d156_80 : decode (xbc 156) 80 = .ok (.iload_n 1, 1) := by decide +kernel
theorem d156_81 : decode (xbc 156) 81 = .ok (.ireturn, 1) := by decide +kernel
theorem d157_0 : decode (xbc 157) 0 = .ok (.iconst 0, 1) := by decide +kernel
theorem d157_1 : decode (xbc 157) 1 = .ok (.istore_n 3, 1) := by decide +kernel
theorem d157_2 : decode (xbc 157) 2 = .ok (.iconst 0, 1) := by decide +kernel
theorem d157_3 : decode (xbc 157) 3 = .ok (.istore 4, 2) := by decide +kernel
theorem d157_5 : decode (xbc 157) 5 = .ok (.iload 4, 2) := by decide +kernel
theorem d157_7 : decode (xbc 157) 7 = .ok (.bipush 8, 2) := by decide +kernel
theorem d157_9 : decode (xbc 157) 9 = .ok (.if_icmp .ge 149, 3) := by decide +kernel
theorem d157_12 : decode (xbc 157) 12 = .ok (.iload_n 2, 1) := by decide +kernel
theorem d157_13 : decode (xbc 157) 13 = .ok (.ifCond .lt 145, 3) := by decide +kernel
theorem d157_16 : decode (xbc 157) 16 = .ok (.aload_n 0, 1) := by decide +kernel
theorem d157_17 : decode (xbc 157) 17 = .ok (.getfield 13, 3) := by decide +kernel
theorem d157_20 : decode (xbc 157) 20 = .ok (.bipush 32, 2) := by decide +kernel
theorem d157_22 : decode (xbc 157) 22 = .ok (.iload 4, 2) := by decide +kernel
theorem d157_24 : decode (xbc 157) 24 = .ok (.iadd, 1) := by decide +kernel
theorem d157_25 : decode (xbc 157) 25 = .ok (.iaload, 1) := by decide +kernel
theorem d157_26 : decode (xbc 157) 26 = .ok (.aload_n 0, 1) := by decide +kernel
theorem d157_27 : decode (xbc 157) 27 = .ok (.getfield 13, 3) := by decide +kernel
theorem d157_30 : decode (xbc 157) 30 = .ok (.bipush 32, 2) := by decide +kernel
theorem d157_32 : decode (xbc 157) 32 = .ok (.iload_n 2, 1) := by decide +kernel
theorem d157_33 : decode (xbc 157) 33 = .ok (.iadd, 1) := by decide +kernel
theorem d157_34 : decode (xbc 157) 34 = .ok (.iaload, 1) := by decide +kernel
theorem d157_35 : decode (xbc 157) 35 = .ok (.isub, 1) := by decide +kernel
theorem d157_36 : decode (xbc 157) 36 = .ok (.istore 5, 2) := by decide +kernel
theorem d157_38 : decode (xbc 157) 38 = .ok (.aload_n 0, 1) := by decide +kernel
theorem d157_39 : decode (xbc 157) 39 = .ok (.getfield 13, 3) := by decide +kernel
theorem d157_42 : decode (xbc 157) 42 = .ok (.iload 4, 2) := by decide +kernel
theorem d157_44 : decode (xbc 157) 44 = .ok (.iaload, 1) := by decide +kernel
theorem d157_45 : decode (xbc 157) 45 = .ok (.iconst 1, 1) := by decide +kernel
theorem d157_46 : decode (xbc 157) 46 = .ok (.if_icmp .ne 106, 3) := by decide +kernel
theorem d157_49 : decode (xbc 157) 49 = .ok (.aload_n 0, 1) := by decide +kernel
theorem d157_50 : decode (xbc 157) 50 = .ok (.iload 4, 2) := by decide +kernel
theorem d157_52 : decode (xbc 157) 52 = .ok (.iload_n 1, 1) := by decide +kernel
theorem d157_53 : decode (xbc 157) 53 = .ok (.invokevirtual 130, 3) := by decide +kernel
theorem d157_56 : decode (xbc 157) 56 = .ok (.ifCond .eq 96, 3) := by decide +kernel
theorem d157_59 : decode (xbc 157) 59 = .ok (.iload 5, 2) := by decide +kernel
theorem d157_61 : decode (xbc 157) 61 = .ok (.ifCond .le 91, 3) := by decide +kernel
theorem d157_64 : decode (xbc 157) 64 = .ok (.aload_n 0, 1) := by decide +kernel
theorem d157_65 : decode (xbc 157) 65 = .ok (.getfield 13, 3) := by decide +kernel
theorem d157_68 : decode (xbc 157) 68 = .ok (.bipush 24, 2) := by decide +kernel
theorem d157_70 : decode (xbc 157) 70 = .ok (.iload_n 2, 1) := by decide +kernel
theorem d157_71 : decode (xbc 157) 71 = .ok (.iadd, 1) := by decide +kernel
theorem d157_72 : decode (xbc 157) 72 = .ok (.iaload, 1) := by decide +kernel
theorem d157_73 : decode (xbc 157) 73 = .ok (.aload_n 0, 1) := by decide +kernel
theorem d157_74 : decode (xbc 157) 74 = .ok (.getfield 13, 3) := by decide +kernel
theorem d157_77 : decode (xbc 157) 77 = .ok (.bipush 24, 2) := by decide +kernel
theorem d157_79 : decode (xbc 157) 79 = .ok (.iload 4, 2) := by decide +kernel
theorem d157_81 : decode (xbc 157) 81 = .ok (.iadd, 1) := by decide +kernel
theorem d157_82 : decode (xbc 157) 82 = .ok (.iaload, 1) := by decide +kernel
theorem d157_83 : decode (xbc 157) 83 = .ok (.isub, 1) := by decide +kernel
theorem d157_84 : decode (xbc 157) 84 = .ok (.istore 6, 2) := by decide +kernel
theorem d157_86 : decode (xbc 157) 86 = .ok (.iload_n 3, 1) := by decide +kernel
theorem d157_87 : decode (xbc 157) 87 = .ok (.ifCond .eq 20, 3) := by decide +kernel
theorem d157_90 : decode (xbc 157) 90 = .ok (.iload 6, 2) := by decide +kernel
theorem d157_92 : decode (xbc 157) 92 = .ok (.aload_n 0, 1) := by decide +kernel
theorem d157_93 : decode (xbc 157) 93 = .ok (.getfield 141, 3) := by decide +kernel
theorem d157_96 : decode (xbc 157) 96 = .ok (.imul, 1) := by decide +kernel
theorem d157_97 : decode (xbc 157) 97 = .ok (.aload_n 0, 1) := by decide +kernel
theorem d157_98 : decode (xbc 157) 98 = .ok (.getfield 144, 3) := by decide +kernel
theorem d157_101 : decode (xbc 157) 101 = .ok (.iload 5, 2) := by decide +kernel
theorem d157_103 : decode (xbc 157) 103 = .ok (.imul, 1) := by decide +kernel
theorem d157_104 : decode (xbc 157) 104 = .ok (.if_icmp .ge 7, 3) := by decide +kernel
theorem d157_107 : decode (xbc 157) 107 = .ok (.iconst 1, 1) := by decide +kernel
theorem d157_108 : decode (xbc 157) 108 = .ok (.goto 4, 3) := by decide +kernel
theorem d157_111 : decode (xbc 157) 111 = .ok (.iconst 0, 1) := by decide +kernel
theorem d157_112 : decode (xbc 157) 112 = .ok (.istore 7, 2) := by decide +kernel
theorem d157_114 : decode (xbc 157) 114 = .ok (.aload_n 0, 1) := by decide +kernel
theorem d157_115 : decode (xbc 157) 115 = .ok (.iload 7, 2) := by decide +kernel
theorem d157_117 : decode (xbc 157) 117 = .ok (.ifCond .eq 8, 3) := by decide +kernel
theorem d157_120 : decode (xbc 157) 120 = .ok (.iload 6, 2) := by decide +kernel
theorem d157_122 : decode (xbc 157) 122 = .ok (.goto 7, 3) := by decide +kernel
theorem d157_125 : decode (xbc 157) 125 = .ok (.aload_n 0, 1) := by decide +kernel
theorem d157_126 : decode (xbc 157) 126 = .ok (.getfield 144, 3) := by decide +kernel
theorem d157_129 : decode (xbc 157) 129 = .ok (.putfield 144, 3) := by decide +kernel
theorem d157_132 : decode (xbc 157) 132 = .ok (.aload_n 0, 1) := by decide +kernel
theorem d157_133 : decode (xbc 157) 133 = .ok (.iload 7, 2) := by decide +kernel
theorem d157_135 : decode (xbc 157) 135 = .ok (.ifCond .eq 8, 3) := by decide +kernel
theorem d157_138 : decode (xbc 157) 138 = .ok (.iload 5, 2) := by decide +kernel
theorem d157_140 : decode (xbc 157) 140 = .ok (.goto 7, 3) := by decide +kernel
theorem d157_143 : decode (xbc 157) 143 = .ok (.aload_n 0, 1) := by decide +kernel
theorem d157_144 : decode (xbc 157) 144 = .ok (.getfield 141, 3) := by decide +kernel
theorem d157_147 : decode (xbc 157) 147 = .ok (.putfield 141, 3) := by decide +kernel
theorem d157_150 : decode (xbc 157) 150 = .ok (.iconst 1, 1) := by decide +kernel
theorem d157_151 : decode (xbc 157) 151 = .ok (.istore_n 3, 1) := by decide +kernel
theorem d157_152 : decode (xbc 157) 152 = .ok (.iinc 4 1, 3) := by decide +kernel
theorem d157_155 : decode (xbc 157) 155 = .ok (.goto (-150), 3) := by decide +kernel
theorem d157_158 : decode (xbc 157) 158 = .ok (.iload_n 3, 1) := by decide +kernel
theorem d157_159 : decode (xbc 157) 159 = .ok (.ireturn, 1) := by decide +kernel
theorem d158_0 : decode (xbc 158) 0 = .ok (.lload_n 0, 1) := by decide +kernel
theorem d158_1 : decode (xbc 158) 1 = .ok (.lconst 0, 1) := by decide +kernel
theorem d158_2 : decode (xbc 158) 2 = .ok (.lcmp, 1) := by decide +kernel
theorem d158_3 : decode (xbc 158) 3 = .ok (.ifCond .ge 8, 3) := by decide +kernel
theorem d158_6 : decode (xbc 158) 6 = .ok (.lload_n 0, 1) := by decide +kernel
theorem d158_7 : decode (xbc 158) 7 = .ok (.lneg, 1) := by decide +kernel
theorem d158_8 : decode (xbc 158) 8 = .ok (.goto 4, 3) := by decide +kernel
theorem d158_11 : decode (xbc 158) 11 = .ok (.lload_n 0, 1) := by decide +kernel
theorem d158_12 : decode (xbc 158) 12 = .ok (.lstore 5, 2) := by decide +kernel
theorem d158_14 : decode (xbc 158) 14 = .ok (.lload_n 2, 1) := by decide +kernel
theorem d158_15 : decode (xbc 158) 15 = .ok (.lstore 7, 2) := by decide +kernel
theorem d158_17 : decode (xbc 158) 17 = .ok (.lload 7, 2) := by decide +kernel
theorem d158_19 : decode (xbc 158) 19 = .ok (.lconst 0, 1) := by decide +kernel
theorem d158_20 : decode (xbc 158) 20 = .ok (.lcmp, 1) := by decide +kernel
theorem d158_21 : decode (xbc 158) 21 = .ok (.ifCond .eq 21, 3) := by decide +kernel
theorem d158_24 : decode (xbc 158) 24 = .ok (.lload 5, 2) := by decide +kernel
theorem d158_26 : decode (xbc 158) 26 = .ok (.lload 7, 2) := by decide +kernel
theorem d158_28 : decode (xbc 158) 28 = .ok (.lrem, 1) := by decide +kernel
theorem d158_29 : decode (xbc 158) 29 = .ok (.lstore 9, 2) := by decide +kernel
theorem d158_31 : decode (xbc 158) 31 = .ok (.lload 7, 2) := by decide +kernel
theorem d158_33 : decode (xbc 158) 33 = .ok (.lstore 5, 2) := by decide +kernel
theorem d158_35 : decode (xbc 158) 35 = .ok (.lload 9, 2) := by decide +kernel
theorem d158_37 : decode (xbc 158) 37 = .ok (.lstore 7, 2) := by decide +kernel
theorem d158_39 : decode (xbc 158) 39 = .ok (.goto (-22), 3) := by decide +kernel
theorem d158_42 : decode (xbc 158) 42 = .ok (.iload 4, 2) := by decide +kernel
theorem d158_44 : decode (xbc 158) 44 = .ok (.ifCond .ne 10, 3) := by decide +kernel
theorem d158_47 : decode (xbc 158) 47 = .ok (.lload_n 0, 1) := by decide +kernel
theorem d158_48 : decode (xbc 158) 48 = .ok (.lload 5, 2) := by decide +kernel
theorem d158_50 : decode (xbc 158) 50 = .ok (.ldiv, 1) := by decide +kernel
theorem d158_51 : decode (xbc 158) 51 = .ok (.goto 7, 3) := by decide +kernel
theorem d158_54 : decode (xbc 158) 54 = .ok (.lload_n 2, 1) := by decide +kernel
theorem d158_55 : decode (xbc 158) 55 = .ok (.lload 5, 2) := by decide +kernel
theorem d158_57 : decode (xbc 158) 57 = .ok (.ldiv, 1) := by decide +kernel
theorem d158_58 : decode (xbc 158) 58 = .ok (.lreturn, 1) := by decide +kernel
theorem d159_0 : decode (xbc 159) 0 = .ok (.aload_n 0, 1) := by decide +kernel
theorem d159_1 : decode (xbc 159) 1 = .ok (.invokevirtual 82, 3) := by decide +kernel
theorem d159_4 : decode (xbc 159) 4 = .ok (.aload_n 0, 1) := by decide +kernel
theorem d159_5 : decode (xbc 159) 5 = .ok (.invokevirtual 158, 3) := by decide +kernel
theorem d159_8 : decode (xbc 159) 8 = .ok (.ireturn, 1) := by decide +kernel
theorem d160_0 : decode (xbc 160) 0 = .ok (.aload_n 0, 1) := by decide +kernel
theorem d160_1 : decode (xbc 160) 1 = .ok (.invokevirtual 82, 3) := by decide +kernel
theorem d160_4 : decode (xbc 160) 4 = .ok (.iload_n 1, 1) := by decide +kernel
theorem d160_5 : decode (xbc 160) 5 = .ok (.iload_n 2, 1) := by decide +kernel
theorem d160_6 : decode (xbc 160) 6 = .ok (.invokestatic 134, 3) := by decide +kernel
theorem d160_9 : decode (xbc 160) 9 = .ok (.ifCond .eq 16, 3) := by decide +kernel
theorem d160_12 : decode (xbc 160) 12 = .ok (.iload_n 1, 1) := by decide +kernel
theorem d160_13 : decode (xbc 160) 13 = .ok (.aload_n 0, 1) := by decide +kernel
theorem d160_14 : decode (xbc 160) 14 = .ok (.getfield 13, 3) := by decide +kernel
theorem d160_17 : decode (xbc 160) 17 = .ok (.bipush 40, 2) := by decide +kernel
theorem d160_19 : decode (xbc 160) 19 = .ok (.iaload, 1) := by decide +kernel
theorem d160_20 : decode (xbc 160) 20 = .ok (.iload_n 2, 1) := by decide +kernel
theorem d160_21 : decode (xbc 160) 21 = .ok (.imul, 1) := by decide +kernel
theorem d160_22 : decode (xbc 160) 22 = .ok (.if_icmp .ge 6, 3) := by decide +kernel
theorem d160_25 : decode (xbc 160) 25 = .ok (.bipush (-2), 2) := by decide +kernel
theorem d160_27 : decode (xbc 160) 27 = .ok (.ireturn, 1) := by decide +kernel
theorem d160_28 : decode (xbc 160) 28 = .ok (.aload_n 0, 1) := by decide +kernel
theorem d160_29 : decode (xbc 160) 29 = .ok (.iconst 1, 1) := by decide +kernel
theorem d160_30 : decode (xbc 160) 30 = .ok (.aload_n 0, 1) := by decide +kernel
theorem d160_31 : decode (xbc 160) 31 = .ok (.getfield 13, 3) := by decide +kernel
theorem d160_34 : decode (xbc 160) 34 = .ok (.bipush 40, 2) := by decide +kernel
theorem d160_36 : decode (xbc 160) 36 = .ok (.iaload, 1) := by decide +kernel
theorem d160_37 : decode (xbc 160) 37 = .ok (.iconst 1, 1) := by decide +kernel
theorem d160_38 : decode (xbc 160) 38 = .ok (.invokevirtual 137, 3) := by decide +kernel
theorem d160_41 : decode (xbc 160) 41 = .ok (.istore_n 3, 1) := by decide +kernel
theorem d160_42 : decode (xbc 160) 42 = .ok (.iconst 0, 1) := by decide +kernel
theorem d160_43 : decode (xbc 160) 43 = .ok (.istore 4, 2) := by decide +kernel
theorem d160_45 : decode (xbc 160) 45 = .ok (.iload_n 3, 1) := by decide +kernel
theorem d160_46 : decode (xbc 160) 46 = .ok (.ifCond .lt 69, 3) := by decide +kernel
theorem d160_49 : decode (xbc 160) 49 = .ok (.iload 4, 2) := by decide +kernel
theorem d160_51 : decode (xbc 160) 51 = .ok (.iconst 1, 1) := by decide +kernel
theorem d160_52 : decode (xbc 160) 52 = .ok (.iload_n 3, 1) := by decide +kernel
theorem d160_53 : decode (xbc 160) 53 = .ok (.ishl, 1) := by decide +kernel
theorem d160_54 : decode (xbc 160) 54 = .ok (.ior, 1) := by decide +kernel
theorem d160_55 : decode (xbc 160) 55 = .ok (.istore 4, 2) := by decide +kernel
theorem d160_57 : decode (xbc 160) 57 = .ok (.aload_n 0, 1) := by decide +kernel
theorem d160_58 : decode (xbc 160) 58 = .ok (.iconst 1, 1) := by decide +kernel
theorem d160_59 : decode (xbc 160) 59 = .ok (.iload_n 3, 1) := by decide +kernel
theorem d160_60 : decode (xbc 160) 60 = .ok (.invokevirtual 147, 3) := by decide +kernel
theorem d160_63 : decode (xbc 160) 63 = .ok (.ifCond .eq 22, 3) := by decide +kernel
theorem d160_66 : decode (xbc 160) 66 = .ok (.aload_n 0, 1) := by decide +kernel
theorem d160_67 : decode (xbc 160) 67 = .ok (.getfield 144, 3) := by decide +kernel
theorem d160_70 : decode (xbc 160) 70 = .ok (.iload_n 2, 1) := by decide +kernel
theorem d160_71 : decode (xbc 160) 71 = .ok (.imul, 1) := by decide +kernel
theorem d160_72 : decode (xbc 160) 72 = .ok (.iload_n 1, 1) := by decide +kernel
theorem d160_73 : decode (xbc 160) 73 = .ok (.aload_n 0, 1) := by decide +kernel
theorem d160_74 : decode (xbc 160) 74 = .ok (.getfield 141, 3) := by decide +kernel
theorem d160_77 : decode (xbc 160) 77 = .ok (.imul, 1) := by decide +kernel
theorem d160_78 : decode (xbc 160) 78 = .ok (.if_icmp .gt 7, 3) := by decide +kernel
theorem d160_81 : decode (xbc 160) 81 = .ok (.iconst 1, 1) := by decide +kernel
theorem d160_82 : decode (xbc 160) 82 = .ok (.goto 4, 3) := by decide +kernel
theorem d160_85 : decode (xbc 160) 85 = .ok (.iconst 0, 1) := by decide +kernel
theorem d160_86 : decode (xbc 160) 86 = .ok (.istore 5, 2) := by decide +kernel
theorem d160_88 : decode (xbc 160) 88 = .ok (.iload 5, 2) := by decide +kernel
theorem d160_90 : decode (xbc 160) 90 = .ok (.ifCond .eq 19, 3) := by decide +kernel
theorem d160_93 : decode (xbc 160) 93 = .ok (.aload_n 0, 1) := by decide +kernel
theorem d160_94 : decode (xbc 160) 94 = .ok (.iconst 1, 1) := by decide +kernel
theorem d160_95 : decode (xbc 160) 95 = .ok (.aload_n 0, 1) := by decide +kernel
theorem d160_96 : decode (xbc 160) 96 = .ok (.getfield 144, 3) := by decide +kernel
theorem d160_99 : decode (xbc 160) 99 = .ok (.aload_n 0, 1) := by decide +kernel
theorem d160_100 : decode (xbc 160) 100 = .ok (.getfield 141, 3) := by decide +kernel
theorem d160_103 : decode (xbc 160) 103 = .ok (.invokevirtual 137, 3) := by decide +kernel
theorem d160_106 : decode (xbc 160) 106 = .ok (.goto 5, 3) := by decide +kernel
theorem d160_109 : decode (xbc 160) 109 = .ok (.bipush (-6), 2) := by decide +kernel
theorem d160_111 : decode (xbc 160) 111 = .ok (.istore_n 3, 1) := by decide +kernel
theorem d160_112 : decode (xbc 160) 112 = .ok (.goto (-67), 3) := by decide +kernel
theorem d160_115 : decode (xbc 160) 115 = .ok (.iload 4, 2) := by decide +kernel
theorem d160_117 : decode (xbc 160) 117 = .ok (.ireturn, 1) := by decide +kernel
theorem d161_0 : decode (xbc 161) 0 = .ok (.iload_n 1, 1) := by decide +kernel
theorem d161_1 : decode (xbc 161) 1 = .ok (.invokestatic 78, 3) := by decide +kernel
theorem d161_4 : decode (xbc 161) 4 = .ok (.ifCond .ne 7, 3) := by decide +kernel
theorem d161_7 : decode (xbc 161) 7 = .ok (.ldc2_w 167, 3) := by decide +kernel
theorem d161_10 : decode (xbc 161) 10 = .ok (.lreturn, 1) := by decide +kernel
theorem d161_11 : decode (xbc 161) 11 = .ok (.iload_n 2, 1) := by decide +kernel
theorem d161_12 : decode (xbc 161) 12 = .ok (.iload_n 3, 1) := by decide +kernel
theorem d161_13 : decode (xbc 161) 13 = .ok (.invokestatic 134, 3) := by decide +kernel
theorem d161_16 : decode (xbc 161) 16 = .ok (.ifCond .eq 13, 3) := by decide +kernel
theorem d161_19 : decode (xbc 161) 19 = .ok (.iload 4, 2) := by decide +kernel
theorem d161_21 : decode (xbc 161) 21 = .ok (.iconst 0, 1) := by decide +kernel
theorem d161_22 : decode (xbc 161) 22 = .ok (.iconst 1, 1) := by decide +kernel
theorem d161_23 : decode (xbc 161) 23 = .ok (.invokestatic 38, 3) := by decide +kernel
theorem d161_26 : decode (xbc 161) 26 = .ok (.ifCond .ne 7, 3) := by decide +kernel
theorem d161_29 : decode (xbc 161) 29 = .ok (.ldc2_w 156, 3) := by decide +kernel
theorem d161_32 : decode (xbc 161) 32 = .ok (.lreturn, 1) := by decide +kernel
theorem d161_33 : decode (xbc 161) 33 = .ok (.aload_n 0, 1) := by decide +kernel
theorem d161_34 : decode (xbc 161) 34 = .ok (.getfield 7, 3) := by decide +kernel
theorem d161_37 : decode (xbc 161) 37 = .ok (.bipush 24, 2) := by decide +kernel
theorem d161_39 : decode (xbc 161) 39 = .ok (.iload_n 1, 1) := by decide +kernel
theorem d161_40 : decode (xbc 161) 40 = .ok (.iadd, 1) := by decide +kernel
theorem d161_41 : decode (xbc 161) 41 = .ok (.iaload, 1) := by decide +kernel
theorem d161_42 : decode (xbc 161) 42 = .ok (.i2l, 1) := by decide +kernel
theorem d161_43 : decode (xbc 161) 43 = .ok (.iload_n 3, 1) := by decide +kernel
theorem d161_44 : decode (xbc 161) 44 = .ok (.i2l, 1) := by decide +kernel
theorem d161_45 : decode (xbc 161) 45 = .ok (.lmul, 1) := by decide +kernel
theorem d161_46 : decode (xbc 161) 46 = .ok (.aload_n 0, 1) := by decide +kernel
theorem d161_47 : decode (xbc 161) 47 = .ok (.getfield 7, 3) := by decide +kernel
theorem d161_50 : decode (xbc 161) 50 = .ok (.bipush 32, 2) := by decide +kernel
theorem d161_52 : decode (xbc 161) 52 = .ok (.iload_n 1, 1) := by decide +kernel
theorem d161_53 : decode (xbc 161) 53 = .ok (.iadd, 1) := by decide +kernel
theorem d161_54 : decode (xbc 161) 54 = .ok (.iaload, 1) := by decide +kernel
theorem d161_55 : decode (xbc 161) 55 = .ok (.i2l, 1) := by decide +kernel
theorem d161_56 : decode (xbc 161) 56 = .ok (.iload_n 2, 1) := by decide +kernel
theorem d161_57 : decode (xbc 161) 57 = .ok (.i2l, 1) := by decide +kernel
theorem d161_58 : decode (xbc 161) 58 = .ok (.lmul, 1) := by decide +kernel
theorem d161_59 : decode (xbc 161) 59 = .ok (.ladd, 1) := by decide +kernel
theorem d161_60 : decode (xbc 161) 60 = .ok (.iload_n 3, 1) := by decide +kernel
theorem d161_61 : decode (xbc 161) 61 = .ok (.i2l, 1) := by decide +kernel
theorem d161_62 : decode (xbc 161) 62 = .ok (.iload 4, 2) := by decide +kernel
theorem d161_64 : decode (xbc 161) 64 = .ok (.invokestatic 163, 3) := by decide +kernel
theorem d161_67 : decode (xbc 161) 67 = .ok (.lreturn, 1) := by decide +kernel
theorem d162_0 : decode (xbc 162) 0 = .ok (.iload_n 1, 1) := by decide +kernel
theorem d162_1 : decode (xbc 162) 1 = .ok (.invokestatic 78, 3) := by decide +kernel
theorem d162_4 : decode (xbc 162) 4 = .ok (.ifCond .ne 7, 3) := by decide +kernel
theorem d162_7 : decode (xbc 162) 7 = .ok (.ldc2_w 167, 3) := by decide +kernel
theorem d162_10 : decode (xbc 162) 10 = .ok (.lreturn, 1) := by decide +kernel
theorem d162_11 : decode (xbc 162) 11 = .ok (.iload_n 2, 1) := by decide +kernel
theorem d162_12 : decode (xbc 162) 12 = .ok (.iload_n 3, 1) := by decide +kernel
theorem d162_13 : decode (xbc 162) 13 = .ok (.invokestatic 134, 3) := by decide +kernel
theorem d162_16 : decode (xbc 162) 16 = .ok (.ifCond .eq 13, 3) := by decide +kernel
theorem d162_19 : decode (xbc 162) 19 = .ok (.iload 4, 2) := by decide +kernel
theorem d162_21 : decode (xbc 162) 21 = .ok (.iconst 0, 1) := by decide +kernel
theorem d162_22 : decode (xbc 162) 22 = .ok (.iconst 2, 1) := by decide +kernel
theorem d162_23 : decode (xbc 162) 23 = .ok (.invokestatic 38, 3) := by decide +kernel
theorem d162_26 : decode (xbc 162) 26 = .ok (.ifCond .ne 7, 3) := by decide +kernel
theorem d162_29 : decode (xbc 162) 29 = .ok (.ldc2_w 156, 3) := by decide +kernel
theorem d162_32 : decode (xbc 162) 32 = .ok (.lreturn, 1) := by decide +kernel
theorem d162_33 : decode (xbc 162) 33 = .ok (.aload_n 0, 1) := by decide +kernel
theorem d162_34 : decode (xbc 162) 34 = .ok (.getfield 7, 3) := by decide +kernel
theorem d162_37 : decode (xbc 162) 37 = .ok (.bipush 24, 2) := by decide +kernel
theorem d162_39 : decode (xbc 162) 39 = .ok (.iload_n 1, 1) := by decide +kernel
theorem d162_40 : decode (xbc 162) 40 = .ok (.iadd, 1) := by decide +kernel
theorem d162_41 : decode (xbc 162) 41 = .ok (.iaload, 1) := by decide +kernel
theorem d162_42 : decode (xbc 162) 42 = .ok (.i2l, 1) := by decide +kernel
theorem d162_43 : decode (xbc 162) 43 = .ok (.iload_n 3, 1) := by decide +kernel
theorem d162_44 : decode (xbc 162) 44 = .ok (.i2l, 1) := by decide +kernel
theorem d162_45 : decode (xbc 162) 45 = .ok (.lmul, 1) := by decide +kernel
theorem d162_46 : decode (xbc 162) 46 = .ok (.aload_n 0, 1) := by decide +kernel
theorem d162_47 : decode (xbc 162) 47 = .ok (.getfield 7, 3) := by decide +kernel
theorem d162_50 : decode (xbc 162) 50 = .ok (.bipush 32, 2) := by decide +kernel
theorem d162_52 : decode (xbc 162) 52 = .ok (.iload_n 1, 1) := by decide +kernel
theorem d162_53 : decode (xbc 162) 53 = .ok (.iadd, 1) := by decide +kernel
theorem d162_54 : decode (xbc 162) 54 = .ok (.iaload, 1) := by decide +kernel
theorem d162_55 : decode (xbc 162) 55 = .ok (.i2l, 1) := by decide +kernel
theorem d162_56 : decode (xbc 162) 56 = .ok (.iload_n 2, 1) := by decide +kernel
theorem d162_57 : decode (xbc 162) 57 = .ok (.i2l, 1) := by decide +kernel
theorem d162_58 : decode (xbc 162) 58 = .ok (.lmul, 1) := by decide +kernel
theorem d162_59 : decode (xbc 162) 59 = .ok (.ladd, 1) := by decide +kernel
theorem d162_60 : decode (xbc 162) 60 = .ok (.lstore 5, 2) := by decide +kernel
theorem d162_62 : decode (xbc 162) 62 = .ok (.iload 4, 2) := by decide +kernel
theorem d162_64 : decode (xbc 162) 64 = .ok (.iconst 1, 1) := by decide +kernel
theorem d162_65 : decode (xbc 162) 65 = .ok (.if_icmp .ne 11, 3) := by decide +kernel
theorem d162_68 : decode (xbc 162) 68 = .ok (.lload 5, 2) := by decide +kernel
theorem d162_70 : decode (xbc 162) 70 = .ok (.iload_n 3, 1) := by decide +kernel
theorem d162_71 : decode (xbc 162) 71 = .ok (.i2l, 1) := by decide +kernel
theorem d162_72 : decode (xbc 162) 72 = .ok (.invokestatic 189, 3) := by decide +kernel
theorem d162_75 : decode (xbc 162) 75 = .ok (.lreturn, 1) := by decide +kernel
theorem d162_76 : decode (xbc 162) 76 = .ok (.lload 5, 2) := by decide +kernel
theorem d162_78 : decode (xbc 162) 78 = .ok (.iload_n 3, 1) := by decide +kernel
theorem d162_79 : decode (xbc 162) 79 = .ok (.i2l, 1) := by decide +kernel
theorem d162_80 : decode (xbc 162) 80 = .ok (.invokestatic 193, 3) := by decide +kernel
theorem d162_83 : decode (xbc 162) 83 = .ok (.lstore 7, 2) := by decide +kernel
theorem d162_85 : decode (xbc 162) 85 = .ok (.iload 4, 2) := by decide +kernel
theorem d162_87 : decode (xbc 162) 87 = .ok (.ifCond .ne 11, 3) := by decide +kernel
theorem d162_90 : decode (xbc 162) 90 = .ok (.lload 7, 2) := by decide +kernel
theorem d162_92 : decode (xbc 162) 92 = .ok (.invokestatic 196, 3) := by decide +kernel
theorem d162_95 : decode (xbc 162) 95 = .ok (.goto 8, 3) := by decide +kernel
theorem d162_98 : decode (xbc 162) 98 = .ok (.lload 7, 2) := by decide +kernel
theorem d162_100 : decode (xbc 162) 100 = .ok (.invokestatic 200, 3) := by decide +kernel
theorem d162_103 : decode (xbc 162) 103 = .ok (.lreturn, 1) := by decide +kernel
theorem d163_0 : decode (xbc 163) 0 = .ok (.lload_n 0, 1) := by decide +kernel
theorem d163_1 : decode (xbc 163) 1 = .ok (.lconst 0, 1) := by decide +kernel
theorem d163_2 : decode (xbc 163) 2 = .ok (.lcmp, 1) := by decide +kernel
theorem d163_3 : decode (xbc 163) 3 = .ok (.ifCond .ne 5, 3) := by decide +kernel
theorem d163_6 : decode (xbc 163) 6 = .ok (.lconst 0, 1) := by decide +kernel
theorem d163_7 : decode (xbc 163) 7 = .ok (.lreturn, 1) := by decide +kernel
theorem d163_8 : decode (xbc 163) 8 = .ok (.lload_n 0, 1) := by decide +kernel
theorem d163_9 : decode (xbc 163) 9 = .ok (.lconst 0, 1) := by decide +kernel
theorem d163_10 : decode (xbc 163) 10 = .ok (.lcmp, 1) := by decide +kernel
theorem d163_11 : decode (xbc 163) 11 = .ok (.ifCond .ge 8, 3) := by decide +kernel
theorem d163_14 : decode (xbc 163) 14 = .ok (.lload_n 0, 1) := by decide +kernel
theorem d163_15 : decode (xbc 163) 15 = .ok (.lneg, 1) := by decide +kernel
theorem d163_16 : decode (xbc 163) 16 = .ok (.goto 4, 3) := by decide +kernel
theorem d163_19 : decode (xbc 163) 19 = .ok (.lload_n 0, 1) := by decide +kernel
theorem d163_20 : decode (xbc 163) 20 = .ok (.lstore 4, 2) := by decide +kernel
theorem d163_22 : decode (xbc 163) 22 = .ok (.lload 4, 2) := by decide +kernel
theorem d163_24 : decode (xbc 163) 24 = .ok (.lload_n 2, 1) := by decide +kernel
theorem d163_25 : decode (xbc 163) 25 = .ok (.ldiv, 1) := by decide +kernel
theorem d163_26 : decode (xbc 163) 26 = .ok (.lstore 6, 2) := by decide +kernel
theorem d163_28 : decode (xbc 163) 28 = .ok (.lload 4, 2) := by decide +kernel
theorem d163_30 : decode (xbc 163) 30 = .ok (.lload_n 2, 1) := by decide +kernel
theorem d163_31 : decode (xbc 163) 31 = .ok (.lrem, 1) := by decide +kernel
theorem d163_32 : decode (xbc 163) 32 = .ok (.lstore 8, 2) := by decide +kernel
theorem d163_34 : decode (xbc 163) 34 = .ok (.iconst 0, 1) := by decide +kernel
theorem d163_35 : decode (xbc 163) 35 = .ok (.istore 10, 2) := by decide +kernel
theorem d163_37 : decode (xbc 163) 37 = .ok (.lload 6, 2) := by decide +kernel
theorem d163_39 : decode (xbc 163) 39 = .ok (.ldc2_w 183, 3) := by decide +kernel
theorem d163_42 : decode (xbc 163) 42 = .ok (.lcmp, 1) := by decide +kernel
theorem d163_43 : decode (xbc 163) 43 = .ok (.ifCond .ge 36, 3) := by decide +kernel
theorem d163_46 : decode (xbc 163) 46 = .ok (.lload 8, 2) := by decide +kernel
theorem d163_48 : decode (xbc 163) 48 = .ok (.ldc2_w 173, 3) := by decide +kernel
theorem d163_51 : decode (xbc 163) 51 = .ok (.lmul, 1) := by decide +kernel
theorem d163_52 : decode (xbc 163) 52 = .ok (.lstore 8, 2) := by decide +kernel
theorem d163_54 : decode (xbc 163) 54 = .ok (.ldc2_w 173, 3) := by decide +kernel
theorem d163_57 : decode (xbc 163) 57 = .ok (.lload 6, 2) := by decide +kernel
theorem d163_59 : decode (xbc 163) 59 = .ok (.lmul, 1) := by decide +kernel
theorem d163_60 : decode (xbc 163) 60 = .ok (.lload 8, 2) := by decide +kernel
theorem d163_62 : decode (xbc 163) 62 = .ok (.lload_n 2, 1) := by decide +kernel
theorem d163_63 : decode (xbc 163) 63 = .ok (.ldiv, 1) := by decide +kernel
theorem d163_64 : decode (xbc 163) 64 = .ok (.ladd, 1) := by decide +kernel
theorem d163_65 : decode (xbc 163) 65 = .ok (.lstore 6, 2) := by decide +kernel
theorem d163_67 : decode (xbc 163) 67 = .ok (.lload 8, 2) := by decide +kernel
theorem d163_69 : decode (xbc 163) 69 = .ok (.lload_n 2, 1) := by decide +kernel
theorem d163_70 : decode (xbc 163) 70 = .ok (.lrem, 1) := by decide +kernel
theorem d163_71 : decode (xbc 163) 71 = .ok (.lstore 8, 2) := by decide +kernel
theorem d163_73 : decode (xbc 163) 73 = .ok (.iinc 10 (-1), 3) := by decide +kernel
theorem d163_76 : decode (xbc 163) 76 = .ok (.goto (-39), 3) := by decide +kernel
theorem d163_79 : decode (xbc 163) 79 = .ok (.ldc2_w 173, 3) := by decide +kernel
theorem d163_82 : decode (xbc 163) 82 = .ok (.lload 8, 2) := by decide +kernel
theorem d163_84 : decode (xbc 163) 84 = .ok (.lmul, 1) := by decide +kernel
theorem d163_85 : decode (xbc 163) 85 = .ok (.lload_n 2, 1) := by decide +kernel
theorem d163_86 : decode (xbc 163) 86 = .ok (.lcmp, 1) := by decide +kernel
theorem d163_87 : decode (xbc 163) 87 = .ok (.ifCond .gt 23, 3) := by decide +kernel
theorem d163_90 : decode (xbc 163) 90 = .ok (.ldc2_w 173, 3) := by decide +kernel
theorem d163_93 : decode (xbc 163) 93 = .ok (.lload 8, 2) := by decide +kernel
theorem d163_95 : decode (xbc 163) 95 = .ok (.lmul, 1) := by decide +kernel
theorem d163_96 : decode (xbc 163) 96 = .ok (.lload_n 2, 1) := by decide +kernel
theorem d163_97 : decode (xbc 163) 97 = .ok (.lcmp, 1) := by decide +kernel
theorem d163_98 : decode (xbc 163) 98 = .ok (.ifCond .ne 18, 3) := by decide +kernel
theorem d163_101 : decode (xbc 163) 101 = .ok (.lload 6, 2) := by decide +kernel
theorem d163_103 : decode (xbc 163) 103 = .ok (.lconst 1, 1) := by decide +kernel
theorem d163_104 : decode (xbc 163) 104 = .ok (.land, 1) := by decide +kernel
theorem d163_105 : decode (xbc 163) 105 = .ok (.lconst 1, 1) := by decide +kernel
theorem d163_106 : decode (xbc 163) 106 = .ok (.lcmp, 1) := by decide +kernel
theorem d163_107 : decode (xbc 163) 107 = .ok (.ifCond .ne 9, 3) := by decide +kernel
theorem d163_110 : decode (xbc 163) 110 = .ok (.lload 6, 2) := by decide +kernel
theorem d163_112 : decode (xbc 163) 112 = .ok (.lconst 1, 1) := by decide +kernel
theorem d163_113 : decode (xbc 163) 113 = .ok (.ladd, 1) := by decide +kernel
theorem d163_114 : decode (xbc 163) 114 = .ok (.lstore 6, 2) := by decide +kernel
theorem d163_116 : decode (xbc 163) 116 = .ok (.lload 6, 2) := by decide +kernel
theorem d163_118 : decode (xbc 163) 118 = .ok (.ldc2_w 185, 3) := by decide +kernel
theorem d163_121 : decode (xbc 163) 121 = .ok (.lcmp, 1) := by decide +kernel
theorem d163_122 : decode (xbc 163) 122 = .ok (.ifCond .ne 14, 3) := by decide +kernel
theorem d163_125 : decode (xbc 163) 125 = .ok (.lload 6, 2) := by decide +kernel
theorem d163_127 : decode (xbc 163) 127 = .ok (.ldc2_w 173, 3) := by decide +kernel
theorem d163_130 : decode (xbc 163) 130 = .ok (.ldiv, 1) := by decide +kernel
theorem d163_131 : decode (xbc 163) 131 = .ok (.lstore 6, 2) := by decide +kernel
theorem d163_133 : decode (xbc 163) 133 = .ok (.iinc 10 1, 3) := by decide +kernel
theorem d163_136 : decode (xbc 163) 136 = .ok (.iload 10, 2) := by decide +kernel
theorem d163_138 : decode (xbc 163) 138 = .ok (.bipush 52, 2) := by decide +kernel
theorem d163_140 : decode (xbc 163) 140 = .ok (.iadd, 1) := by decide +kernel
theorem d163_141 : decode (xbc 163) 141 = .ok (.sipush 1023, 3) := by decide +kernel
theorem d163_144 : decode (xbc 163) 144 = .ok (.iadd, 1) := by decide +kernel
theorem d163_145 : decode (xbc 163) 145 = .ok (.i2l, 1) := by decide +kernel
theorem d163_146 : decode (xbc 163) 146 = .ok (.bipush 52, 2) := by decide +kernel
theorem d163_148 : decode (xbc 163) 148 = .ok (.lshl, 1) := by decide +kernel
theorem d163_149 : decode (xbc 163) 149 = .ok (.lload 6, 2) := by decide +kernel
theorem d163_151 : decode (xbc 163) 151 = .ok (.ldc2_w 183, 3) := by decide +kernel
theorem d163_154 : decode (xbc 163) 154 = .ok (.lsub, 1) := by decide +kernel
theorem d163_155 : decode (xbc 163) 155 = .ok (.lor, 1) := by decide +kernel
theorem d163_156 : decode (xbc 163) 156 = .ok (.lstore 11, 2) := by decide +kernel
theorem d163_158 : decode (xbc 163) 158 = .ok (.lload_n 0, 1) := by decide +kernel
theorem d163_159 : decode (xbc 163) 159 = .ok (.lconst 0, 1) := by decide +kernel
theorem d163_160 : decode (xbc 163) 160 = .ok (.lcmp, 1) := by decide +kernel
theorem d163_161 : decode (xbc 163) 161 = .ok (.ifCond .ge 12, 3) := by decide +kernel
theorem d163_164 : decode (xbc 163) 164 = .ok (.lload 11, 2) := by decide +kernel
theorem d163_166 : decode (xbc 163) 166 = .ok (.ldc2_w 187, 3) := by decide +kernel
theorem d163_169 : decode (xbc 163) 169 = .ok (.lor, 1) := by decide +kernel
theorem d163_170 : decode (xbc 163) 170 = .ok (.goto 5, 3) := by decide +kernel
theorem d163_173 : decode (xbc 163) 173 = .ok (.lload 11, 2) := by decide +kernel
theorem d163_175 : decode (xbc 163) 175 = .ok (.lreturn, 1) := by decide +kernel
theorem d164_0 : decode (xbc 164) 0 = .ok (.lload_n 0, 1) := by decide +kernel
theorem d164_1 : decode (xbc 164) 1 = .ok (.lconst 0, 1) := by decide +kernel
theorem d164_2 : decode (xbc 164) 2 = .ok (.lcmp, 1) := by decide +kernel
theorem d164_3 : decode (xbc 164) 3 = .ok (.ifCond .ge 8, 3) := by decide +kernel
theorem d164_6 : decode (xbc 164) 6 = .ok (.lload_n 0, 1) := by decide +kernel
theorem d164_7 : decode (xbc 164) 7 = .ok (.lneg, 1) := by decide +kernel
theorem d164_8 : decode (xbc 164) 8 = .ok (.goto 4, 3) := by decide +kernel
theorem d164_11 : decode (xbc 164) 11 = .ok (.lload_n 0, 1) := by decide +kernel
theorem d164_12 : decode (xbc 164) 12 = .ok (.lstore 4, 2) := by decide +kernel
theorem d164_14 : decode (xbc 164) 14 = .ok (.lload 4, 2) := by decide +kernel
theorem d164_16 : decode (xbc 164) 16 = .ok (.bipush 30, 2) := by decide +kernel
theorem d164_18 : decode (xbc 164) 18 = .ok (.lshl, 1) := by decide +kernel
theorem d164_19 : decode (xbc 164) 19 = .ok (.lload_n 2, 1) := by decide +kernel
theorem d164_20 : decode (xbc 164) 20 = .ok (.ldiv, 1) := by decide +kernel
theorem d164_21 : decode (xbc 164) 21 = .ok (.lstore 6, 2) := by decide +kernel
theorem d164_23 : decode (xbc 164) 23 = .ok (.lload 4, 2) := by decide +kernel
theorem d164_25 : decode (xbc 164) 25 = .ok (.bipush 30, 2) := by decide +kernel
theorem d164_27 : decode (xbc 164) 27 = .ok (.lshl, 1) := by decide +kernel
theorem d164_28 : decode (xbc 164) 28 = .ok (.lload_n 2, 1) := by decide +kernel
theorem d164_29 : decode (xbc 164) 29 = .ok (.lrem, 1) := by decide +kernel
theorem d164_30 : decode (xbc 164) 30 = .ok (.lstore 8, 2) := by decide +kernel
theorem d164_32 : decode (xbc 164) 32 = .ok (.lload 6, 2) := by decide +kernel
theorem d164_34 : decode (xbc 164) 34 = .ok (.lload 8, 2) := by decide +kernel
theorem d164_36 : decode (xbc 164) 36 = .ok (.lconst 0, 1) := by decide +kernel
theorem d164_37 : decode (xbc 164) 37 = .ok (.lcmp, 1) := by decide +kernel
theorem d164_38 : decode (xbc 164) 38 = .ok (.ifCond .le 7, 3) := by decide +kernel
theorem d164_41 : decode (xbc 164) 41 = .ok (.iconst 1, 1) := by decide +kernel
theorem d164_42 : decode (xbc 164) 42 = .ok (.goto 4, 3) := by decide +kernel
theorem d164_45 : decode (xbc 164) 45 = .ok (.iconst 0, 1) := by decide +kernel
theorem d164_46 : decode (xbc 164) 46 = .ok (.ldc2_w 173, 3) := by decide +kernel
theorem d164_49 : decode (xbc 164) 49 = .ok (.lload 8, 2) := by decide +kernel
theorem d164_51 : decode (xbc 164) 51 = .ok (.lmul, 1) := by decide +kernel
theorem d164_52 : decode (xbc 164) 52 = .ok (.lload_n 2, 1) := by decide +kernel
theorem d164_53 : decode (xbc 164) 53 = .ok (.lcmp, 1) := by decide +kernel
theorem d164_54 : decode (xbc 164) 54 = .ok (.ifCond .ne 7, 3) := by decide +kernel
theorem d164_57 : decode (xbc 164) 57 = .ok (.iconst 1, 1) := by decide +kernel
theorem d164_58 : decode (xbc 164) 58 = .ok (.goto 4, 3) := by decide +kernel
theorem d164_61 : decode (xbc 164) 61 = .ok (.iconst 0, 1) := by decide +kernel
theorem d164_62 : decode (xbc 164) 62 = .ok (.ldc2_w 173, 3) := by decide +kernel
theorem d164_65 : decode (xbc 164) 65 = .ok (.lload 8, 2) := by decide +kernel
theorem d164_67 : decode (xbc 164) 67 = .ok (.lmul, 1) := by decide +kernel
theorem d164_68 : decode (xbc 164) 68 = .ok (.lload_n 2, 1) := by decide +kernel
theorem d164_69 : decode (xbc 164) 69 = .ok (.lcmp, 1) := by decide +kernel
theorem d164_70 : decode (xbc 164) 70 = .ok (.ifCond .le 7, 3) := by decide +kernel
theorem d164_73 : decode (xbc 164) 73 = .ok (.iconst 1, 1) := by decide +kernel
theorem d164_74 : decode (xbc 164) 74 = .ok (.goto 4, 3) := by decide +kernel
theorem d164_77 : decode (xbc 164) 77 = .ok (.iconst 0, 1) := by decide +kernel
theorem d164_78 : decode (xbc 164) 78 = .ok (.invokestatic 175, 3) := by decide +kernel
theorem d164_81 : decode (xbc 164) 81 = .ok (.lstore 10, 2) := by decide +kernel
theorem d164_83 : decode (xbc 164) 83 = .ok (.lload_n 0, 1) := by decide +kernel
theorem d164_84 : decode (xbc 164) 84 = .ok (.lconst 0, 1) := by decide +kernel
theorem d164_85 : decode (xbc 164) 85 = .ok (.lcmp, 1) := by decide +kernel
theorem d164_86 : decode (xbc 164) 86 = .ok (.ifCond .ge 9, 3) := by decide +kernel
theorem d164_89 : decode (xbc 164) 89 = .ok (.lload 10, 2) := by decide +kernel
theorem d164_91 : decode (xbc 164) 91 = .ok (.lneg, 1) := by decide +kernel
theorem d164_92 : decode (xbc 164) 92 = .ok (.goto 5, 3) := by decide +kernel
theorem d164_95 : decode (xbc 164) 95 = .ok (.lload 10, 2) := by decide +kernel
theorem d164_97 : decode (xbc 164) 97 = .ok (.lreturn, 1) := by decide +kernel
theorem d165_0 : decode (xbc 165) 0 = .ok (.lload_n 0, 1) := by decide +kernel
theorem d165_1 : decode (xbc 165) 1 = .ok (.invokestatic 169, 3) := by decide +kernel
theorem d165_4 : decode (xbc 165) 4 = .ok (.bipush 24, 2) := by decide +kernel
theorem d165_6 : decode (xbc 165) 6 = .ok (.isub, 1) := by decide +kernel
theorem d165_7 : decode (xbc 165) 7 = .ok (.istore 5, 2) := by decide +kernel
theorem d165_9 : decode (xbc 165) 9 = .ok (.iload 5, 2) := by decide +kernel
theorem d165_11 : decode (xbc 165) 11 = .ok (.ifCond .gt 28, 3) := by decide +kernel
theorem d165_14 : decode (xbc 165) 14 = .ok (.lload_n 0, 1) := by decide +kernel
theorem d165_15 : decode (xbc 165) 15 = .ok (.iload 4, 2) := by decide +kernel
theorem d165_17 : decode (xbc 165) 17 = .ok (.ifCond .ne 15, 3) := by decide +kernel
theorem d165_20 : decode (xbc 165) 20 = .ok (.iload_n 3, 1) := by decide +kernel
theorem d165_21 : decode (xbc 165) 21 = .ok (.ifCond .eq 15, 3) := by decide +kernel
theorem d165_24 : decode (xbc 165) 24 = .ok (.lload_n 0, 1) := by decide +kernel
theorem d165_25 : decode (xbc 165) 25 = .ok (.lconst 1, 1) := by decide +kernel
theorem d165_26 : decode (xbc 165) 26 = .ok (.land, 1) := by decide +kernel
theorem d165_27 : decode (xbc 165) 27 = .ok (.lconst 1, 1) := by decide +kernel
theorem d165_28 : decode (xbc 165) 28 = .ok (.lcmp, 1) := by decide +kernel
theorem d165_29 : decode (xbc 165) 29 = .ok (.ifCond .ne 7, 3) := by decide +kernel
theorem d165_32 : decode (xbc 165) 32 = .ok (.lconst 1, 1) := by decide +kernel
theorem d165_33 : decode (xbc 165) 33 = .ok (.goto 4, 3) := by decide +kernel
theorem d165_36 : decode (xbc 165) 36 = .ok (.lconst 0, 1) := by decide +kernel
theorem d165_37 : decode (xbc 165) 37 = .ok (.ladd, 1) := by decide +kernel
theorem d165_38 : decode (xbc 165) 38 = .ok (.lreturn, 1) := by decide +kernel
theorem d165_39 : decode (xbc 165) 39 = .ok (.lload_n 0, 1) := by decide +kernel
theorem d165_40 : decode (xbc 165) 40 = .ok (.lconst 1, 1) := by decide +kernel
theorem d165_41 : decode (xbc 165) 41 = .ok (.iload 5, 2) := by decide +kernel
theorem d165_43 : decode (xbc 165) 43 = .ok (.lshl, 1) := by decide +kernel
theorem d165_44 : decode (xbc 165) 44 = .ok (.lconst 1, 1) := by decide +kernel
theorem d165_45 : decode (xbc 165) 45 = .ok (.lsub, 1) := by decide +kernel
theorem d165_46 : decode (xbc 165) 46 = .ok (.land, 1) := by decide +kernel
theorem d165_47 : decode (xbc 165) 47 = .ok (.lstore 6, 2) := by decide +kernel
theorem d165_49 : decode (xbc 165) 49 = .ok (.lconst 1, 1) := by decide +kernel
theorem d165_50 : decode (xbc 165) 50 = .ok (.iload 5, 2) := by decide +kernel
theorem d165_52 : decode (xbc 165) 52 = .ok (.iconst 1, 1) := by decide +kernel
theorem d165_53 : decode (xbc 165) 53 = .ok (.isub, 1) := by decide +kernel
theorem d165_54 : decode (xbc 165) 54 = .ok (.lshl, 1) := by decide +kernel
theorem d165_55 : decode (xbc 165) 55 = .ok (.lstore 8, 2) := by decide +kernel
theorem d165_57 : decode (xbc 165) 57 = .ok (.lload_n 0, 1) := by decide +kernel
theorem d165_58 : decode (xbc 165) 58 = .ok (.iload 5, 2) := by decide +kernel
theorem d165_60 : decode (xbc 165) 60 = .ok (.lshr, 1) := by decide +kernel
theorem d165_61 : decode (xbc 165) 61 = .ok (.lstore 10, 2) := by decide +kernel
theorem d165_63 : decode (xbc 165) 63 = .ok (.lload 6, 2) := by decide +kernel
theorem d165_65 : decode (xbc 165) 65 = .ok (.lload 8, 2) := by decide +kernel
theorem d165_67 : decode (xbc 165) 67 = .ok (.lcmp, 1) := by decide +kernel
theorem d165_68 : decode (xbc 165) 68 = .ok (.ifCond .gt 24, 3) := by decide +kernel
theorem d165_71 : decode (xbc 165) 71 = .ok (.lload 6, 2) := by decide +kernel
theorem d165_73 : decode (xbc 165) 73 = .ok (.lload 8, 2) := by decide +kernel
theorem d165_75 : decode (xbc 165) 75 = .ok (.lcmp, 1) := by decide +kernel
theorem d165_76 : decode (xbc 165) 76 = .ok (.ifCond .ne 20, 3) := by decide +kernel
theorem d165_79 : decode (xbc 165) 79 = .ok (.iload_n 2, 1) := by decide +kernel
theorem d165_80 : decode (xbc 165) 80 = .ok (.ifCond .ne 12, 3) := by decide +kernel
theorem d165_83 : decode (xbc 165) 83 = .ok (.lload 10, 2) := by decide +kernel
theorem d165_85 : decode (xbc 165) 85 = .ok (.lconst 1, 1) := by decide +kernel
theorem d165_86 : decode (xbc 165) 86 = .ok (.land, 1) := by decide +kernel
theorem d165_87 : decode (xbc 165) 87 = .ok (.lconst 1, 1) := by decide +kernel
theorem d165_88 : decode (xbc 165) 88 = .ok (.lcmp, 1) := by decide +kernel
theorem d165_89 : decode (xbc 165) 89 = .ok (.ifCond .ne 7, 3) := by decide +kernel
theorem d165_92 : decode (xbc 165) 92 = .ok (.iconst 1, 1) := by decide +kernel
theorem d165_93 : decode (xbc 165) 93 = .ok (.goto 4, 3) := by decide +kernel
theorem d165_96 : decode (xbc 165) 96 = .ok (.iconst 0, 1) := by decide +kernel
theorem d165_97 : decode (xbc 165) 97 = .ok (.istore 12, 2) := by decide +kernel
theorem d165_99 : decode (xbc 165) 99 = .ok (.lload 10, 2) := by decide +kernel
theorem d165_101 : decode (xbc 165) 101 = .ok (.iload 12, 2) := by decide +kernel
theorem d165_103 : decode (xbc 165) 103 = .ok (.ifCond .eq 7, 3) := by decide +kernel
theorem d165_106 : decode (xbc 165) 106 = .ok (.lconst 1, 1) := by decide +kernel
theorem d165_107 : decode (xbc 165) 107 = .ok (.goto 4, 3) := by decide +kernel
theorem d165_110 : decode (xbc 165) 110 = .ok (.lconst 0, 1) := by decide +kernel
theorem d165_111 : decode (xbc 165) 111 = .ok (.ladd, 1) := by decide +kernel
theorem d165_112 : decode (xbc 165) 112 = .ok (.iload 5, 2) := by decide +kernel
theorem d165_114 : decode (xbc 165) 114 = .ok (.lshl, 1) := by decide +kernel
theorem d165_115 : decode (xbc 165) 115 = .ok (.lreturn, 1) := by decide +kernel
theorem d166_0 : decode (xbc 166) 0 = .ok (.iconst 0, 1) := by decide +kernel
theorem d166_1 : decode (xbc 166) 1 = .ok (.istore_n 2, 1) := by decide +kernel
theorem d166_2 : decode (xbc 166) 2 = .ok (.lload_n 0, 1) := by decide +kernel
theorem d166_3 : decode (xbc 166) 3 = .ok (.iload_n 2, 1) := by decide +kernel
theorem d166_4 : decode (xbc 166) 4 = .ok (.lshr, 1) := by decide +kernel
theorem d166_5 : decode (xbc 166) 5 = .ok (.lconst 0, 1) := by decide +kernel
theorem d166_6 : decode (xbc 166) 6 = .ok (.lcmp, 1) := by decide +kernel
theorem d166_7 : decode (xbc 166) 7 = .ok (.ifCond .le 9, 3) := by decide +kernel
theorem d166_10 : decode (xbc 166) 10 = .ok (.iinc 2 1, 3) := by decide +kernel
theorem d166_13 : decode (xbc 166) 13 = .ok (.goto (-11), 3) := by decide +kernel
theorem d166_16 : decode (xbc 166) 16 = .ok (.iload_n 2, 1) := by decide +kernel
theorem d166_17 : decode (xbc 166) 17 = .ok (.ireturn, 1) := by decide +kernel
theorem d167_0 : decode (xbc 167) 0 = .ok (.lload_n 0, 1) := by decide +kernel
theorem d167_1 : decode (xbc 167) 1 = .ok (.lconst 0, 1) := by decide +kernel
theorem d167_2 : decode (xbc 167) 2 = .ok (.lcmp, 1) := by decide +kernel
theorem d167_3 : decode (xbc 167) 3 = .ok (.ifCond .ne 5, 3) := by decide +kernel
theorem d167_6 : decode (xbc 167) 6 = .ok (.lconst 0, 1) := by decide +kernel
theorem d167_7 : decode (xbc 167) 7 = .ok (.lreturn, 1) := by decide +kernel
theorem d167_8 : decode (xbc 167) 8 = .ok (.lload_n 0, 1) := by decide +kernel
theorem d167_9 : decode (xbc 167) 9 = .ok (.lconst 0, 1) := by decide +kernel
theorem d167_10 : decode (xbc 167) 10 = .ok (.lcmp, 1) := by decide +kernel
theorem d167_11 : decode (xbc 167) 11 = .ok (.ifCond .ge 8, 3) := by decide +kernel
theorem d167_14 : decode (xbc 167) 14 = .ok (.lload_n 0, 1) := by decide +kernel
theorem d167_15 : decode (xbc 167) 15 = .ok (.lneg, 1) := by decide +kernel
theorem d167_16 : decode (xbc 167) 16 = .ok (.goto 4, 3) := by decide +kernel
theorem d167_19 : decode (xbc 167) 19 = .ok (.lload_n 0, 1) := by decide +kernel
theorem d167_20 : decode (xbc 167) 20 = .ok (.lstore_n 2, 1) := by decide +kernel
theorem d167_21 : decode (xbc 167) 21 = .ok (.lload_n 2, 1) := by decide +kernel
theorem d167_22 : decode (xbc 167) 22 = .ok (.invokestatic 169, 3) := by decide +kernel
theorem d167_25 : decode (xbc 167) 25 = .ok (.istore 4, 2) := by decide +kernel
theorem d167_27 : decode (xbc 167) 27 = .ok (.iload 4, 2) := by decide +kernel
theorem d167_29 : decode (xbc 167) 29 = .ok (.bipush 24, 2) := by decide +kernel
theorem d167_31 : decode (xbc 167) 31 = .ok (.if_icmp .le 13, 3) := by decide +kernel
theorem d167_34 : decode (xbc 167) 34 = .ok (.lload_n 2, 1) := by decide +kernel
theorem d167_35 : decode (xbc 167) 35 = .ok (.iload 4, 2) := by decide +kernel
theorem d167_37 : decode (xbc 167) 37 = .ok (.bipush 24, 2) := by decide +kernel
theorem d167_39 : decode (xbc 167) 39 = .ok (.isub, 1) := by decide +kernel
theorem d167_40 : decode (xbc 167) 40 = .ok (.lshr, 1) := by decide +kernel
theorem d167_41 : decode (xbc 167) 41 = .ok (.goto 10, 3) := by decide +kernel
theorem d167_44 : decode (xbc 167) 44 = .ok (.lload_n 2, 1) := by decide +kernel
theorem d167_45 : decode (xbc 167) 45 = .ok (.bipush 24, 2) := by decide +kernel
theorem d167_47 : decode (xbc 167) 47 = .ok (.iload 4, 2) := by decide +kernel
theorem d167_49 : decode (xbc 167) 49 = .ok (.isub, 1) := by decide +kernel
theorem d167_50 : decode (xbc 167) 50 = .ok (.lshl, 1) := by decide +kernel
theorem d167_51 : decode (xbc 167) 51 = .ok (.lstore 5, 2) := by decide +kernel
theorem d167_53 : decode (xbc 167) 53 = .ok (.iload 4, 2) := by decide +kernel
theorem d167_55 : decode (xbc 167) 55 = .ok (.bipush 31, 2) := by decide +kernel
theorem d167_57 : decode (xbc 167) 57 = .ok (.isub, 1) := by decide +kernel
theorem d167_58 : decode (xbc 167) 58 = .ok (.bipush 127, 2) := by decide +kernel
theorem d167_60 : decode (xbc 167) 60 = .ok (.iadd, 1) := by decide +kernel
theorem d167_61 : decode (xbc 167) 61 = .ok (.i2l, 1) := by decide +kernel
theorem d167_62 : decode (xbc 167) 62 = .ok (.bipush 23, 2) := by decide +kernel
theorem d167_64 : decode (xbc 167) 64 = .ok (.lshl, 1) := by decide +kernel
theorem d167_65 : decode (xbc 167) 65 = .ok (.lload 5, 2) := by decide +kernel
theorem d167_67 : decode (xbc 167) 67 = .ok (.ldc2_w 179, 3) := by decide +kernel
theorem d167_70 : decode (xbc 167) 70 = .ok (.lsub, 1) := by decide +kernel
theorem d167_71 : decode (xbc 167) 71 = .ok (.lor, 1) := by decide +kernel
theorem d167_72 : decode (xbc 167) 72 = .ok (.lstore 7, 2) := by decide +kernel
theorem d167_74 : decode (xbc 167) 74 = .ok (.lload_n 0, 1) := by decide +kernel
theorem d167_75 : decode (xbc 167) 75 = .ok (.lconst 0, 1) := by decide +kernel
theorem d167_76 : decode (xbc 167) 76 = .ok (.lcmp, 1) := by decide +kernel
theorem d167_77 : decode (xbc 167) 77 = .ok (.ifCond .ge 12, 3) := by decide +kernel
theorem d167_80 : decode (xbc 167) 80 = .ok (.lload 7, 2) := by decide +kernel
theorem d167_82 : decode (xbc 167) 82 = .ok (.ldc2_w 181, 3) := by decide +kernel
theorem d167_85 : decode (xbc 167) 85 = .ok (.lsub, 1) := by decide +kernel
theorem d167_86 : decode (xbc 167) 86 = .ok (.goto 5, 3) := by decide +kernel
theorem d167_89 : decode (xbc 167) 89 = .ok (.lload 7, 2) := by decide +kernel
theorem d167_91 : decode (xbc 167) 91 = .ok (.lreturn, 1) := by decide +kernel
theorem d168_0 : decode (xbc 168) 0 = .ok (.lload_n 0, 1) := by decide +kernel
theorem d168_1 : decode (xbc 168) 1 = .ok (.lconst 0, 1) := by decide +kernel
theorem d168_2 : decode (xbc 168) 2 = .ok (.lcmp, 1) := by decide +kernel
theorem d168_3 : decode (xbc 168) 3 = .ok (.ifCond .ge 12, 3) := by decide +kernel
theorem d168_6 : decode (xbc 168) 6 = .ok (.lload_n 0, 1) := by decide +kernel
theorem d168_7 : decode (xbc 168) 7 = .ok (.lneg, 1) := by decide +kernel
theorem d168_8 : decode (xbc 168) 8 = .ok (.bipush 30, 2) := by decide +kernel
theorem d168_10 : decode (xbc 168) 10 = .ok (.lshr, 1) := by decide +kernel
theorem d168_11 : decode (xbc 168) 11 = .ok (.lneg, 1) := by decide +kernel
theorem d168_12 : decode (xbc 168) 12 = .ok (.goto 7, 3) := by decide +kernel
theorem d168_15 : decode (xbc 168) 15 = .ok (.lload_n 0, 1) := by decide +kernel
theorem d168_16 : decode (xbc 168) 16 = .ok (.bipush 30, 2) := by decide +kernel
theorem d168_18 : decode (xbc 168) 18 = .ok (.lshr, 1) := by decide +kernel
theorem d168_19 : decode (xbc 168) 19 = .ok (.lreturn, 1) := by decide +kernel
theorem d169_0 : decode (xbc 169) 0 = .ok (.iload_n 1, 1) := by decide +kernel
theorem d169_1 : decode (xbc 169) 1 = .ok (.iload_n 2, 1) := by decide +kernel
theorem d169_2 : decode (xbc 169) 2 = .ok (.invokestatic 134, 3) := by decide +kernel
theorem d169_5 : decode (xbc 169) 5 = .ok (.ifCond .eq 12, 3) := by decide +kernel
theorem d169_8 : decode (xbc 169) 8 = .ok (.iload_n 3, 1) := by decide +kernel
theorem d169_9 : decode (xbc 169) 9 = .ok (.iconst 0, 1) := by decide +kernel
theorem d169_10 : decode (xbc 169) 10 = .ok (.iconst 1, 1) := by decide +kernel
theorem d169_11 : decode (xbc 169) 11 = .ok (.invokestatic 38, 3) := by decide +kernel
theorem d169_14 : decode (xbc 169) 14 = .ok (.ifCond .ne 7, 3) := by decide +kernel
theorem d169_17 : decode (xbc 169) 17 = .ok (.ldc2_w 156, 3) := by decide +kernel
theorem d169_20 : decode (xbc 169) 20 = .ok (.lreturn, 1) := by decide +kernel
theorem d169_21 : decode (xbc 169) 21 = .ok (.lconst 0, 1) := by decide +kernel
theorem d169_22 : decode (xbc 169) 22 = .ok (.lstore 4, 2) := by decide +kernel
theorem d169_24 : decode (xbc 169) 24 = .ok (.iconst 0, 1) := by decide +kernel
theorem d169_25 : decode (xbc 169) 25 = .ok (.istore 6, 2) := by decide +kernel
theorem d169_27 : decode (xbc 169) 27 = .ok (.iload 6, 2) := by decide +kernel
theorem d169_29 : decode (xbc 169) 29 = .ok (.bipush 8, 2) := by decide +kernel
theorem d169_31 : decode (xbc 169) 31 = .ok (.if_icmp .ge 99, 3) := by decide +kernel
theorem d169_34 : decode (xbc 169) 34 = .ok (.aload_n 0, 1) := by decide +kernel
theorem d169_35 : decode (xbc 169) 35 = .ok (.getfield 7, 3) := by decide +kernel
theorem d169_38 : decode (xbc 169) 38 = .ok (.iload 6, 2) := by decide +kernel
theorem d169_40 : decode (xbc 169) 40 = .ok (.iaload, 1) := by decide +kernel
theorem d169_41 : decode (xbc 169) 41 = .ok (.iconst 1, 1) := by decide +kernel
theorem d169_42 : decode (xbc 169) 42 = .ok (.if_icmp .ne 82, 3) := by decide +kernel
theorem d169_45 : decode (xbc 169) 45 = .ok (.lload 4, 2) := by decide +kernel
theorem d169_47 : decode (xbc 169) 47 = .ok (.aload_n 0, 1) := by decide +kernel
theorem d169_48 : decode (xbc 169) 48 = .ok (.getfield 7, 3) := by decide +kernel
theorem d169_51 : decode (xbc 169) 51 = .ok (.bipush 24, 2) := by decide +kernel
theorem d169_53 : decode (xbc 169) 53 = .ok (.iload 6, 2) := by decide +kernel
theorem d169_55 : decode (xbc 169) 55 = .ok (.iadd, 1) := by decide +kernel
theorem d169_56 : decode (xbc 169) 56 = .ok (.iaload, 1) := by decide +kernel
theorem d169_57 : decode (xbc 169) 57 = .ok (.i2l, 1) := by decide +kernel
theorem d169_58 : decode (xbc 169) 58 = .ok (.iload_n 2, 1) := by decide +kernel
theorem d169_59 : decode (xbc 169) 59 = .ok (.i2l, 1) := by decide +kernel
theorem d169_60 : decode (xbc 169) 60 = .ok (.lmul, 1) := by decide +kernel
theorem d169_61 : decode (xbc 169) 61 = .ok (.aload_n 0, 1) := by decide +kernel
theorem d169_62 : decode (xbc 169) 62 = .ok (.getfield 7, 3) := by decide +kernel
theorem d169_65 : decode (xbc 169) 65 = .ok (.bipush 32, 2) := by decide +kernel
theorem d169_67 : decode (xbc 169) 67 = .ok (.iload 6, 2) := by decide +kernel
theorem d169_69 : decode (xbc 169) 69 = .ok (.iadd, 1) := by decide +kernel
theorem d169_70 : decode (xbc 169) 70 = .ok (.iaload, 1) := by decide +kernel
theorem d169_71 : decode (xbc 169) 71 = .ok (.i2l, 1) := by decide +kernel
theorem d169_72 : decode (xbc 169) 72 = .ok (.iload_n 1, 1) := by decide +kernel
theorem d169_73 : decode (xbc 169) 73 = .ok (.i2l, 1) := by decide +kernel
theorem d169_74 : decode (xbc 169) 74 = .ok (.lmul, 1) := by decide +kernel
theorem d169_75 : decode (xbc 169) 75 = .ok (.ladd, 1) := by decide +kernel
theorem d169_76 : decode (xbc 169) 76 = .ok (.iload_n 2, 1) := by decide +kernel
theorem d169_77 : decode (xbc 169) 77 = .ok (.i2l, 1) := by decide +kernel
theorem d169_78 : decode (xbc 169) 78 = .ok (.invokestatic 193, 3) := by decide +kernel
theorem d169_81 : decode (xbc 169) 81 = .ok (.ladd, 1) := by decide +kernel
theorem d169_82 : decode (xbc 169) 82 = .ok (.lstore 4, 2) := by decide +kernel
theorem d169_84 : decode (xbc 169) 84 = .ok (.lload 4, 2) := by decide +kernel
theorem d169_86 : decode (xbc 169) 86 = .ok (.lconst 0, 1) := by decide +kernel
theorem d169_87 : decode (xbc 169) 87 = .ok (.lcmp, 1) := by decide +kernel
theorem d169_88 : decode (xbc 169) 88 = .ok (.ifCond .ge 9, 3) := by decide +kernel
theorem d169_91 : decode (xbc 169) 91 = .ok (.lload 4, 2) := by decide +kernel
theorem d169_93 : decode (xbc 169) 93 = .ok (.lneg, 1) := by decide +kernel
theorem d169_94 : decode (xbc 169) 94 = .ok (.goto 5, 3) := by decide +kernel
theorem d169_97 : decode (xbc 169) 97 = .ok (.lload 4, 2) := by decide +kernel
theorem d169_99 : decode (xbc 169) 99 = .ok (.iconst 0, 1) := by decide +kernel
theorem d169_100 : decode (xbc 169) 100 = .ok (.iconst 0, 1) := by decide +kernel
theorem d169_101 : decode (xbc 169) 101 = .ok (.iconst 0, 1) := by decide +kernel
theorem d169_102 : decode (xbc 169) 102 = .ok (.invokestatic 175, 3) := by decide +kernel
theorem d169_105 : decode (xbc 169) 105 = .ok (.lstore 7, 2) := by decide +kernel
theorem d169_107 : decode (xbc 169) 107 = .ok (.lload 4, 2) := by decide +kernel
theorem d169_109 : decode (xbc 169) 109 = .ok (.lconst 0, 1) := by decide +kernel
theorem d169_110 : decode (xbc 169) 110 = .ok (.lcmp, 1) := by decide +kernel
theorem d169_111 : decode (xbc 169) 111 = .ok (.ifCond .ge 9, 3) := by decide +kernel
theorem d169_114 : decode (xbc 169) 114 = .ok (.lload 7, 2) := by decide +kernel
theorem d169_116 : decode (xbc 169) 116 = .ok (.lneg, 1) := by decide +kernel
theorem d169_117 : decode (xbc 169) 117 = .ok (.goto 5, 3) := by decide +kernel
theorem d169_120 : decode (xbc 169) 120 = .ok (.lload 7, 2) := by decide +kernel
theorem d169_122 : decode (xbc 169) 122 = .ok (.lstore 4, 2) := by decide +kernel
theorem d169_124 : decode (xbc 169) 124 = .ok (.iinc 6 1, 3) := by decide +kernel
theorem d169_127 : decode (xbc 169) 127 = .ok (.goto (-100), 3) := by decide +kernel
theorem d169_130 : decode (xbc 169) 130 = .ok (.iload_n 3, 1) := by decide +kernel
theorem d169_131 : decode (xbc 169) 131 = .ok (.ifCond .ne 11, 3) := by decide +kernel
theorem d169_134 : decode (xbc 169) 134 = .ok (.lload 4, 2) := by decide +kernel
theorem d169_136 : decode (xbc 169) 136 = .ok (.invokestatic 196, 3) := by decide +kernel
theorem d169_139 : decode (xbc 169) 139 = .ok (.goto 8, 3) := by decide +kernel
theorem d169_142 : decode (xbc 169) 142 = .ok (.lload 4, 2) := by decide +kernel
theorem d169_144 : decode (xbc 169) 144 = .ok (.invokestatic 200, 3) := by decide +kernel
theorem d169_147 : decode (xbc 169) 147 = .ok (.lreturn, 1) := by decide +kernel
theorem d170_0 : decode (xbc 170) 0 = .ok (.iload_n 1, 1) := by decide +kernel
theorem d170_1 : decode (xbc 170) 1 = .ok (.iconst 0, 1) := by decide +kernel
theorem d170_2 : decode (xbc 170) 2 = .ok (.bipush 9, 2) := by decide +kernel
theorem d170_4 : decode (xbc 170) 4 = .ok (.invokestatic 38, 3) := by decide +kernel
theorem d170_7 : decode (xbc 170) 7 = .ok (.ifCond .eq 14, 3) := by decide +kernel
theorem d170_10 : decode (xbc 170) 10 = .ok (.iload_n 2, 1) := by decide +kernel
theorem d170_11 : decode (xbc 170) 11 = .ok (.bipush (-99), 2) := by decide +kernel
theorem d170_13 : decode (xbc 170) 13 = .ok (.bipush 99, 2) := by decide +kernel
theorem d170_15 : decode (xbc 170) 15 = .ok (.invokestatic 38, 3) := by decide +kernel
theorem d170_18 : decode (xbc 170) 18 = .ok (.ifCond .ne 6, 3) := by decide +kernel
theorem d170_21 : decode (xbc 170) 21 = .ok (.bipush (-2), 2) := by decide +kernel
theorem d170_23 : decode (xbc 170) 23 = .ok (.ireturn, 1) := by decide +kernel
theorem d170_24 : decode (xbc 170) 24 = .ok (.aload_n 0, 1) := by decide +kernel
theorem d170_25 : decode (xbc 170) 25 = .ok (.getfield 203, 3) := by decide +kernel
theorem d170_28 : decode (xbc 170) 28 = .ok (.bipush 8, 2) := by decide +kernel
theorem d170_30 : decode (xbc 170) 30 = .ok (.if_icmp .ne 6, 3) := by decide +kernel
theorem d170_33 : decode (xbc 170) 33 = .ok (.bipush (-4), 2) := by decide +kernel
theorem d170_35 : decode (xbc 170) 35 = .ok (.ireturn, 1) := by decide +kernel
theorem d170_36 : decode (xbc 170) 36 = .ok (.aload_n 0, 1) := by decide +kernel
theorem d170_37 : decode (xbc 170) 37 = .ok (.getfield 16, 3) := by decide +kernel
theorem d170_40 : decode (xbc 170) 40 = .ok (.iconst 3, 1) := by decide +kernel
theorem d170_41 : decode (xbc 170) 41 = .ok (.aload_n 0, 1) := by decide +kernel
theorem d170_42 : decode (xbc 170) 42 = .ok (.getfield 203, 3) := by decide +kernel
theorem d170_45 : decode (xbc 170) 45 = .ok (.imul, 1) := by decide +kernel
theorem d170_46 : decode (xbc 170) 46 = .ok (.iload_n 1, 1) := by decide +kernel
theorem d170_47 : decode (xbc 170) 47 = .ok (.iastore, 1) := by decide +kernel
theorem d170_48 : decode (xbc 170) 48 = .ok (.aload_n 0, 1) := by decide +kernel
theorem d170_49 : decode (xbc 170) 49 = .ok (.getfield 16, 3) := by decide +kernel
theorem d170_52 : decode (xbc 170) 52 = .ok (.iconst 3, 1) := by decide +kernel
theorem d170_53 : decode (xbc 170) 53 = .ok (.aload_n 0, 1) := by decide +kernel
theorem d170_54 : decode (xbc 170) 54 = .ok (.getfield 203, 3) := by decide +kernel
theorem d170_57 : decode (xbc 170) 57 = .ok (.imul, 1) := by decide +kernel
theorem d170_58 : decode (xbc 170) 58 = .ok (.iconst 1, 1) := by decide +kernel
theorem d170_59 : decode (xbc 170) 59 = .ok (.iadd, 1) := by decide +kernel
theorem d170_60 : decode (xbc 170) 60 = .ok (.iload_n 2, 1) := by decide +kernel
theorem d170_61 : decode (xbc 170) 61 = .ok (.iastore, 1) := by decide +kernel
theorem d170_62 : decode (xbc 170) 62 = .ok (.aload_n 0, 1) := by decide +kernel
theorem d170_63 : decode (xbc 170) 63 = .ok (.getfield 16, 3) := by decide +kernel
theorem d170_66 : decode (xbc 170) 66 = .ok (.iconst 3, 1) := by decide +kernel
theorem d170_67 : decode (xbc 170) 67 = .ok (.aload_n 0, 1) := by decide +kernel
theorem d170_68 : decode (xbc 170) 68 = .ok (.getfield 203, 3) := by decide +kernel
theorem d170_71 : decode (xbc 170) 71 = .ok (.imul, 1) := by decide +kernel
theorem d170_72 : decode (xbc 170) 72 = .ok (.iconst 2, 1) := by decide +kernel
theorem d170_73 : decode (xbc 170) 73 = .ok (.iadd, 1) := by decide +kernel
theorem d170_74 : decode (xbc 170) 74 = .ok (.iload_n 3, 1) := by decide +kernel
theorem d170_75 : decode (xbc 170) 75 = .ok (.ifCond .eq 7, 3) := by decide +kernel
theorem d170_78 : decode (xbc 170) 78 = .ok (.iconst 1, 1) := by decide +kernel
theorem d170_79 : decode (xbc 170) 79 = .ok (.goto 4, 3) := by decide +kernel
theorem d170_82 : decode (xbc 170) 82 = .ok (.iconst 0, 1) := by decide +kernel
theorem d170_83 : decode (xbc 170) 83 = .ok (.iastore, 1) := by decide +kernel
theorem d170_84 : decode (xbc 170) 84 = .ok (.aload_n 0, 1) := by decide +kernel
theorem d170_85 : decode (xbc 170) 85 = .ok (.dup, 1) := by decide +kernel
theorem d170_86 : decode (xbc 170) 86 = .ok (.getfield 203, 3) := by decide +kernel
theorem d170_89 : decode (xbc 170) 89 = .ok (.iconst 1, 1) := by decide +kernel
theorem d170_90 : decode (xbc 170) 90 = .ok (.iadd, 1) := by decide +kernel
theorem d170_91 : decode (xbc 170) 91 = .ok (.putfield 203, 3) := by decide +kernel
theorem d170_94 : decode (xbc 170) 94 = .ok (.aload_n 0, 1) := by decide +kernel
theorem d170_95 : decode (xbc 170) 95 = .ok (.getfield 203, 3) := by decide +kernel
theorem d170_98 : decode (xbc 170) 98 = .ok (.ireturn, 1) := by decide +kernel
theorem d171_0 : decode (xbc 171) 0 = .ok (.aload_n 0, 1) := by decide +kernel
theorem d171_1 : decode (xbc 171) 1 = .ok (.getfield 203, 3) := by decide +kernel
theorem d171_4 : decode (xbc 171) 4 = .ok (.istore_n 1, 1) := by decide +kernel
theorem d171_5 : decode (xbc 171) 5 = .ok (.aload_n 0, 1) := by decide +kernel
theorem d171_6 : decode (xbc 171) 6 = .ok (.iconst 0, 1) := by decide +kernel
theorem d171_7 : decode (xbc 171) 7 = .ok (.putfield 203, 3) := by decide +kernel
theorem d171_10 : decode (xbc 171) 10 = .ok (.iload_n 1, 1) := by decide +kernel
theorem d171_11 : decode (xbc 171) 11 = .ok (.ireturn, 1) := by decide +kernel
theorem d172_0 : decode (xbc 172) 0 = .ok (.iconst 0, 1) := by decide +kernel
theorem d172_1 : decode (xbc 172) 1 = .ok (.istore_n 2, 1) := by decide +kernel
theorem d172_2 : decode (xbc 172) 2 = .ok (.iconst 0, 1) := by decide +kernel
theorem d172_3 : decode (xbc 172) 3 = .ok (.istore_n 3, 1) := by decide +kernel
theorem d172_4 : decode (xbc 172) 4 = .ok (.iload_n 3, 1) := by decide +kernel
theorem d172_5 : decode (xbc 172) 5 = .ok (.sipush 3100, 3) := by decide +kernel
theorem d172_8 : decode (xbc 172) 8 = .ok (.if_icmp .ge 27, 3) := by decide +kernel
theorem d172_11 : decode (xbc 172) 11 = .ok (.aload_n 0, 1) := by decide +kernel
theorem d172_12 : decode (xbc 172) 12 = .ok (.iload_n 3, 1) := by decide +kernel
theorem d172_13 : decode (xbc 172) 13 = .ok (.invokevirtual 209, 3) := by decide +kernel
theorem d172_16 : decode (xbc 172) 16 = .ok (.ifCond .eq 13, 3) := by decide +kernel
theorem d172_19 : decode (xbc 172) 19 = .ok (.iload_n 2, 1) := by decide +kernel
theorem d172_20 : decode (xbc 172) 20 = .ok (.iload_n 1, 1) := by decide +kernel
theorem d172_21 : decode (xbc 172) 21 = .ok (.if_icmp .ne 5, 3) := by decide +kernel
theorem d172_24 : decode (xbc 172) 24 = .ok (.iload_n 3, 1) := by decide +kernel
theorem d172_25 : decode (xbc 172) 25 = .ok (.ireturn, 1) := by decide +kernel
theorem d172_26 : decode (xbc 172) 26 = .ok (.iinc 2 1, 3) := by decide +kernel
theorem d172_29 : decode (xbc 172) 29 = .ok (.iinc 3 1, 3) := by decide +kernel
theorem d172_32 : decode (xbc 172) 32 = .ok (.goto (-28), 3) := by decide +kernel
theorem d172_35 : decode (xbc 172) 35 = .ok (.iload_n 1, 1) := by decide +kernel
theorem d172_36 : decode (xbc 172) 36 = .ok (.iconst (-1), 1) := by decide +kernel
theorem d172_37 : decode (xbc 172) 37 = .ok (.if_icmp .ne 7, 3) := by decide +kernel
theorem d172_40 : decode (xbc 172) 40 = .ok (.iload_n 2, 1) := by decide +kernel
theorem d172_41 : decode (xbc 172) 41 = .ok (.goto 5, 3) := by decide +kernel
theorem d172_44 : decode (xbc 172) 44 = .ok (.bipush (-6), 2) := by decide +kernel
theorem d172_46 : decode (xbc 172) 46 = .ok (.ireturn, 1) := by decide +kernel
theorem d173_0 : decode (xbc 173) 0 = .ok (.iload_n 1, 1) := by decide +kernel
theorem d173_1 : decode (xbc 173) 1 = .ok (.bipush 100, 2) := by decide +kernel
theorem d173_3 : decode (xbc 173) 3 = .ok (.irem, 1) := by decide +kernel
theorem d173_4 : decode (xbc 173) 4 = .ok (.bipush 41, 2) := by decide +kernel
theorem d173_6 : decode (xbc 173) 6 = .ok (.bipush 59, 2) := by decide +kernel
theorem d173_8 : decode (xbc 173) 8 = .ok (.invokestatic 38, 3) := by decide +kernel
theorem d173_11 : decode (xbc 173) 11 = .ok (.istore_n 2, 1) := by decide +kernel
theorem d173_12 : decode (xbc 173) 12 = .ok (.iconst 0, 1) := by decide +kernel
theorem d173_13 : decode (xbc 173) 13 = .ok (.istore_n 3, 1) := by decide +kernel
theorem d173_14 : decode (xbc 173) 14 = .ok (.iload_n 3, 1) := by decide +kernel
theorem d173_15 : decode (xbc 173) 15 = .ok (.aload_n 0, 1) := by decide +kernel
theorem d173_16 : decode (xbc 173) 16 = .ok (.getfield 203, 3) := by decide +kernel
theorem d173_19 : decode (xbc 173) 19 = .ok (.if_icmp .ge 63, 3) := by decide +kernel
theorem d173_22 : decode (xbc 173) 22 = .ok (.iload_n 2, 1) := by decide +kernel
theorem d173_23 : decode (xbc 173) 23 = .ok (.ifCond .eq 59, 3) := by decide +kernel
theorem d173_26 : decode (xbc 173) 26 = .ok (.iload_n 1, 1) := by decide +kernel
theorem d173_27 : decode (xbc 173) 27 = .ok (.aload_n 0, 1) := by decide +kernel
theorem d173_28 : decode (xbc 173) 28 = .ok (.getfield 16, 3) := by decide +kernel
theorem d173_31 : decode (xbc 173) 31 = .ok (.iconst 3, 1) := by decide +kernel
theorem d173_32 : decode (xbc 173) 32 = .ok (.iload_n 3, 1) := by decide +kernel
theorem d173_33 : decode (xbc 173) 33 = .ok (.imul, 1) := by decide +kernel
theorem d173_34 : decode (xbc 173) 34 = .ok (.iaload, 1) := by decide +kernel
theorem d173_35 : decode (xbc 173) 35 = .ok (.aload_n 0, 1) := by decide +kernel
theorem d173_36 : decode (xbc 173) 36 = .ok (.getfield 16, 3) := by decide +kernel
theorem d173_39 : decode (xbc 173) 39 = .ok (.iconst 3, 1) := by decide +kernel
theorem d173_40 : decode (xbc 173) 40 = .ok (.iload_n 3, 1) := by decide +kernel
theorem d173_41 : decode (xbc 173) 41 = .ok (.imul, 1) := by decide +kernel
theorem d173_42 : decode (xbc 173) 42 = .ok (.iconst 1, 1) := by decide +kernel
theorem d173_43 : decode (xbc 173) 43 = .ok (.iadd, 1) := by decide +kernel
theorem d173_44 : decode (xbc 173) 44 = .ok (.iaload, 1) := by decide +kernel
theorem d173_45 : decode (xbc 173) 45 = .ok (.invokestatic 206, 3) := by decide +kernel
theorem d173_48 : decode (xbc 173) 48 = .ok (.aload_n 0, 1) := by decide +kernel
theorem d173_49 : decode (xbc 173) 49 = .ok (.getfield 16, 3) := by decide +kernel
theorem d173_52 : decode (xbc 173) 52 = .ok (.iconst 3, 1) := by decide +kernel
theorem d173_53 : decode (xbc 173) 53 = .ok (.iload_n 3, 1) := by decide +kernel
theorem d173_54 : decode (xbc 173) 54 = .ok (.imul, 1) := by decide +kernel
theorem d173_55 : decode (xbc 173) 55 = .ok (.iconst 2, 1) := by decide +kernel
theorem d173_56 : decode (xbc 173) 56 = .ok (.iadd, 1) := by decide +kernel
theorem d173_57 : decode (xbc 173) 57 = .ok (.iaload, 1) := by decide +kernel
theorem d173_58 : decode (xbc 173) 58 = .ok (.iconst 1, 1) := by decide +kernel
theorem d173_59 : decode (xbc 173) 59 = .ok (.if_icmp .ne 7, 3) := by decide +kernel
theorem d173_62 : decode (xbc 173) 62 = .ok (.iconst 1, 1) := by decide +kernel
theorem d173_63 : decode (xbc 173) 63 = .ok (.goto 4, 3) := by decide +kernel
theorem d173_66 : decode (xbc 173) 66 = .ok (.iconst 0, 1) := by decide +kernel
theorem d173_67 : decode (xbc 173) 67 = .ok (.if_icmp .ne 7, 3) := by decide +kernel
theorem d173_70 : decode (xbc 173) 70 = .ok (.iconst 1, 1) := by decide +kernel
theorem d173_71 : decode (xbc 173) 71 = .ok (.goto 4, 3) := by decide +kernel
theorem d173_74 : decode (xbc 173) 74 = .ok (.iconst 0, 1) := by decide +kernel
theorem d173_75 : decode (xbc 173) 75 = .ok (.istore_n 2, 1) := by decide +kernel
theorem d173_76 : decode (xbc 173) 76 = .ok (.iinc 3 1, 3) := by decide +kernel
theorem d173_79 : decode (xbc 173) 79 = .ok (.goto (-65), 3) := by decide +kernel
theorem d173_82 : decode (xbc 173) 82 = .ok (.iload_n 2, 1) := by decide +kernel
theorem d173_83 : decode (xbc 173) 83 = .ok (.ireturn, 1) := by decide +kernel
theorem d174_0 : decode (xbc 174) 0 = .ok (.iload_n 0, 1) := by decide +kernel
theorem d174_1 : decode (xbc 174) 1 = .ok (.bipush 100, 2) := by decide +kernel
theorem d174_3 : decode (xbc 174) 3 = .ok (.idiv, 1) := by decide +kernel
theorem d174_4 : decode (xbc 174) 4 = .ok (.iload_n 0, 1) := by decide +kernel
theorem d174_5 : decode (xbc 174) 5 = .ok (.bipush 100, 2) := by decide +kernel
theorem d174_7 : decode (xbc 174) 7 = .ok (.irem, 1) := by decide +kernel
theorem d174_8 : decode (xbc 174) 8 = .ok (.bipush 50, 2) := by decide +kernel
theorem d174_10 : decode (xbc 174) 10 = .ok (.isub, 1) := by decide +kernel
theorem d174_11 : decode (xbc 174) 11 = .ok (.iload_n 1, 1) := by decide +kernel
theorem d174_12 : decode (xbc 174) 12 = .ok (.imul, 1) := by decide +kernel
theorem d174_13 : decode (xbc 174) 13 = .ok (.iadd, 1) := by decide +kernel
theorem d174_14 : decode (xbc 174) 14 = .ok (.iload_n 2, 1) := by decide +kernel
theorem d174_15 : decode (xbc 174) 15 = .ok (.if_icmp .lt 7, 3) := by decide +kernel
theorem d174_18 : decode (xbc 174) 18 = .ok (.iconst 1, 1) := by decide +kernel
theorem d174_19 : decode (xbc 174) 19 = .ok (.goto 4, 3) := by decide +kernel
theorem d174_22 : decode (xbc 174) 22 = .ok (.iconst 0, 1) := by decide +kernel
theorem d174_23 : decode (xbc 174) 23 = .ok (.ireturn, 1) := by decide +kernel
theorem d175_0 : decode (xbc 175) 0 = .ok (.iload_n 1, 1) := by decide +kernel
theorem d175_1 : decode (xbc 175) 1 = .ok (.iconst 0, 1) := by decide +kernel
theorem d175_2 : decode (xbc 175) 2 = .ok (.iconst 1, 1) := by decide +kernel
theorem d175_3 : decode (xbc 175) 3 = .ok (.invokestatic 38, 3) := by decide +kernel
theorem d175_6 : decode (xbc 175) 6 = .ok (.ifCond .ne 6, 3) := by decide +kernel
theorem d175_9 : decode (xbc 175) 9 = .ok (.bipush (-2), 2) := by decide +kernel
theorem d175_11 : decode (xbc 175) 11 = .ok (.ireturn, 1) := by decide +kernel
theorem d175_12 : decode (xbc 175) 12 = .ok (.iconst 0, 1) := by decide +kernel
theorem d175_13 : decode (xbc 175) 13 = .ok (.istore_n 2, 1) := by decide +kernel
theorem d175_14 : decode (xbc 175) 14 = .ok (.iconst 0, 1) := by decide +kernel
theorem d175_15 : decode (xbc 175) 15 = .ok (.istore_n 3, 1) := by decide +kernel
theorem d175_16 : decode (xbc 175) 16 = .ok (.iload_n 3, 1) := by decide +kernel
theorem d175_17 : decode (xbc 175) 17 = .ok (.sipush 3100, 3) := by decide +kernel
theorem d175_20 : decode (xbc 175) 20 = .ok (.if_icmp .ge 27, 3) := by decide +kernel
theorem d175_23 : decode (xbc 175) 23 = .ok (.aload_n 0, 1) := by decide +kernel
theorem d175_24 : decode (xbc 175) 24 = .ok (.iload_n 3, 1) := by decide +kernel
theorem d175_25 : decode (xbc 175) 25 = .ok (.invokevirtual 209, 3) := by decide +kernel
theorem d175_28 : decode (xbc 175) 28 = .ok (.ifCond .eq 13, 3) := by decide +kernel
theorem d175_31 : decode (xbc 175) 31 = .ok (.aload_n 0, 1) := by decide +kernel
theorem d175_32 : decode (xbc 175) 32 = .ok (.getfield 22, 3) := by decide +kernel
theorem d175_35 : decode (xbc 175) 35 = .ok (.iload_n 2, 1) := by decide +kernel
theorem d175_36 : decode (xbc 175) 36 = .ok (.iload_n 3, 1) := by decide +kernel
theorem d175_37 : decode (xbc 175) 37 = .ok (.iastore, 1) := by decide +kernel
theorem d175_38 : decode (xbc 175) 38 = .ok (.iinc 2 1, 3) := by decide +kernel
theorem d175_41 : decode (xbc 175) 41 = .ok (.iinc 3 1, 3) := by decide +kernel
theorem d175_44 : decode (xbc 175) 44 = .ok (.goto (-28), 3) := by decide +kernel
theorem d175_47 : decode (xbc 175) 47 = .ok (.bipush (-6), 2) := by decide +kernel
theorem d175_49 : decode (xbc 175) 49 = .ok (.istore_n 3, 1) := by decide +kernel
theorem d175_50 : decode (xbc 175) 50 = .ok (.ldc 212, 2) := by decide +kernel
theorem d175_52 : decode (xbc 175) 52 = .ok (.istore 4, 2) := by decide +kernel
theorem d175_54 : decode (xbc 175) 54 = .ok (.iconst 0, 1) := by decide +kernel
theorem d175_55 : decode (xbc 175) 55 = .ok (.istore 5, 2) := by decide +kernel
theorem d175_57 : decode (xbc 175) 57 = .ok (.iload 5, 2) := by decide +kernel
theorem d175_59 : decode (xbc 175) 59 = .ok (.bipush 10, 2) := by decide +kernel
theorem d175_61 : decode (xbc 175) 61 = .ok (.if_icmp .ge 136, 3) := by decide +kernel
theorem d175_64 : decode (xbc 175) 64 = .ok (.iload_n 2, 1) := by decide +kernel
theorem d175_65 : decode (xbc 175) 65 = .ok (.ifCond .le 132, 3) := by decide +kernel
theorem d175_68 : decode (xbc 175) 68 = .ok (.bipush (-99), 2) := by decide +kernel
theorem d175_70 : decode (xbc 175) 70 = .ok (.istore 6, 2) := by decide +kernel
theorem d175_72 : decode (xbc 175) 72 = .ok (.iload 6, 2) := by decide +kernel
theorem d175_74 : decode (xbc 175) 74 = .ok (.bipush 100, 2) := by decide +kernel
theorem d175_76 : decode (xbc 175) 76 = .ok (.if_icmp .ge 115, 3) := by decide +kernel
theorem d175_79 : decode (xbc 175) 79 = .ok (.iconst 0, 1) := by decide +kernel
theorem d175_80 : decode (xbc 175) 80 = .ok (.istore 7, 2) := by decide +kernel
theorem d175_82 : decode (xbc 175) 82 = .ok (.iconst 0, 1) := by decide +kernel
theorem d175_83 : decode (xbc 175) 83 = .ok (.istore 8, 2) := by decide +kernel
theorem d175_85 : decode (xbc 175) 85 = .ok (.iload 8, 2) := by decide +kernel
theorem d175_87 : decode (xbc 175) 87 = .ok (.iload_n 2, 1) := by decide +kernel
theorem d175_88 : decode (xbc 175) 88 = .ok (.if_icmp .ge 36, 3) := by decide +kernel
theorem d175_91 : decode (xbc 175) 91 = .ok (.iload 7, 2) := by decide +kernel
theorem d175_93 : decode (xbc 175) 93 = .ok (.aload_n 0, 1) := by decide +kernel
theorem d175_94 : decode (xbc 175) 94 = .ok (.getfield 22, 3) := by decide +kernel
theorem d175_97 : decode (xbc 175) 97 = .ok (.iload 8, 2) := by decide +kernel
theorem d175_99 : decode (xbc 175) 99 = .ok (.iaload, 1) := by decide +kernel
theorem d175_100 : decode (xbc 175) 100 = .ok (.iload 5, 2) := by decide +kernel
theorem d175_102 : decode (xbc 175) 102 = .ok (.iload 6, 2) := by decide +kernel
theorem d175_104 : decode (xbc 175) 104 = .ok (.invokestatic 206, 3) := by decide +kernel
theorem d175_107 : decode (xbc 175) 107 = .ok (.ifCond .eq 7, 3) := by decide +kernel
theorem d175_110 : decode (xbc 175) 110 = .ok (.iconst 1, 1) := by decide +kernel
theorem d175_111 : decode (xbc 175) 111 = .ok (.goto 4, 3) := by decide +kernel
theorem d175_114 : decode (xbc 175) 114 = .ok (.iconst 0, 1) := by decide +kernel
theorem d175_115 : decode (xbc 175) 115 = .ok (.iadd, 1) := by decide +kernel
theorem d175_116 : decode (xbc 175) 116 = .ok (.istore 7, 2) := by decide +kernel
theorem d175_118 : decode (xbc 175) 118 = .ok (.iinc 8 1, 3) := by decide +kernel
theorem d175_121 : decode (xbc 175) 121 = .ok (.goto (-36), 3) := by decide +kernel
theorem d175_124 : decode (xbc 175) 124 = .ok (.iload 7, 2) := by decide +kernel
theorem d175_126 : decode (xbc 175) 126 = .ok (.iload_n 2, 1) := by decide +kernel
theorem d175_127 : decode (xbc 175) 127 = .ok (.iload 7, 2) := by decide +kernel
theorem d175_129 : decode (xbc 175) 129 = .ok (.isub, 1) := by decide +kernel
theorem d175_130 : decode (xbc 175) 130 = .ok (.if_icmp .le 8, 3) := by decide +kernel
theorem d175_133 : decode (xbc 175) 133 = .ok (.iload 7, 2) := by decide +kernel
theorem d175_135 : decode (xbc 175) 135 = .ok (.goto 7, 3) := by decide +kernel
theorem d175_138 : decode (xbc 175) 138 = .ok (.iload_n 2, 1) := by decide +kernel
theorem d175_139 : decode (xbc 175) 139 = .ok (.iload 7, 2) := by decide +kernel
theorem d175_141 : decode (xbc 175) 141 = .ok (.isub, 1) := by decide +kernel
theorem d175_142 : decode (xbc 175) 142 = .ok (.istore 8, 2) := by decide +kernel
theorem d175_144 : decode (xbc 175) 144 = .ok (.iload 8, 2) := by decide +kernel
theorem d175_146 : decode (xbc 175) 146 = .ok (.iload 4, 2) := by decide +kernel
theorem d175_148 : decode (xbc 175) 148 = .ok (.if_icmp .ge 19, 3) := by decide +kernel
theorem d175_151 : decode (xbc 175) 151 = .ok (.sipush 1000, 3) := by decide +kernel
theorem d175_154 : decode (xbc 175) 154 = .ok (.iload 5, 2) := by decide +kernel
theorem d175_156 : decode (xbc 175) 156 = .ok (.imul, 1) := by decide +kernel
theorem d175_157 : decode (xbc 175) 157 = .ok (.iload 6, 2) := by decide +kernel
theorem d175_159 : decode (xbc 175) 159 = .ok (.iadd, 1) := by decide +kernel
theorem d175_160 : decode (xbc 175) 160 = .ok (.sipush 500, 3) := by decide +kernel
theorem d175_163 : decode (xbc 175) 163 = .ok (.iadd, 1) := by decide +kernel
theorem d175_164 : decode (xbc 175) 164 = .ok (.goto 4, 3) := by decide +kernel
theorem d175_167 : decode (xbc 175) 167 = .ok (.iload_n 3, 1) := by decide +kernel
theorem d175_168 : decode (xbc 175) 168 = .ok (.istore_n 3, 1) := by decide +kernel
theorem d175_169 : decode (xbc 175) 169 = .ok (.iload 8, 2) := by decide +kernel
theorem d175_171 : decode (xbc 175) 171 = .ok (.iload 4, 2) := by decide +kernel
theorem d175_173 : decode (xbc 175) 173 = .ok (.if_icmp .ge 8, 3) := by decide +kernel
theorem d175_176 : decode (xbc 175) 176 = .ok (.iload 8, 2) := by decide +kernel
theorem d175_178 : decode (xbc 175) 178 = .ok (.goto 5, 3) := by decide +kernel
theorem d175_181 : decode (xbc 175) 181 = .ok (.iload 4, 2) := by decide +kernel
theorem d175_183 : decode (xbc 175) 183 = .ok (.istore 4, 2) := by decide +kernel
theorem d175_185 : decode (xbc 175) 185 = .ok (.iinc 6 1, 3) := by decide +kernel
theorem d175_188 : decode (xbc 175) 188 = .ok (.goto (-116), 3) := by decide +kernel
theorem d175_191 : decode (xbc 175) 191 = .ok (.iinc 5 1, 3) := by decide +kernel
theorem d175_194 : decode (xbc 175) 194 = .ok (.goto (-137), 3) := by decide +kernel
theorem d175_197 : decode (xbc 175) 197 = .ok (.iload_n 3, 1) := by decide +kernel
theorem d175_198 : decode (xbc 175) 198 = .ok (.ifCond .lt 7, 3) := by decide +kernel
theorem d175_201 : decode (xbc 175) 201 = .ok (.iload_n 1, 1) := by decide +kernel
theorem d175_202 : decode (xbc 175) 202 = .ok (.ifCond .ne 7, 3) := by decide +kernel
theorem d175_205 : decode (xbc 175) 205 = .ok (.iload_n 3, 1) := by decide +kernel
theorem d175_206 : decode (xbc 175) 206 = .ok (.goto 5, 3) := by decide +kernel
theorem d175_209 : decode (xbc 175) 209 = .ok (.iload 4, 2) := by decide +kernel
theorem d175_211 : decode (xbc 175) 211 = .ok (.ireturn, 1) := by decide +kernel
theorem d176_0 : decode (xbc 176) 0 = .ok (.iload_n 1, 1) := by decide +kernel
theorem d176_1 : decode (xbc 176) 1 = .ok (.invokestatic 78, 3) := by decide +kernel
theorem d176_4 : decode (xbc 176) 4 = .ok (.ifCond .eq 10, 3) := by decide +kernel
theorem d176_7 : decode (xbc 176) 7 = .ok (.iload_n 2, 1) := by decide +kernel
theorem d176_8 : decode (xbc 176) 8 = .ok (.invokestatic 78, 3) := by decide +kernel
theorem d176_11 : decode (xbc 176) 11 = .ok (.ifCond .ne 7, 3) := by decide +kernel
theorem d176_14 : decode (xbc 176) 14 = .ok (.ldc2_w 167, 3) := by decide +kernel
theorem d176_17 : decode (xbc 176) 17 = .ok (.lreturn, 1) := by decide +kernel
theorem d176_18 : decode (xbc 176) 18 = .ok (.iload_n 1, 1) := by decide +kernel
theorem d176_19 : decode (xbc 176) 19 = .ok (.iload_n 2, 1) := by decide +kernel
theorem d176_20 : decode (xbc 176) 20 = .ok (.if_icmp .eq 12, 3) := by decide +kernel
theorem d176_23 : decode (xbc 176) 23 = .ok (.iload_n 3, 1) := by decide +kernel
theorem d176_24 : decode (xbc 176) 24 = .ok (.iconst 0, 1) := by decide +kernel
theorem d176_25 : decode (xbc 176) 25 = .ok (.iconst 1, 1) := by decide +kernel
theorem d176_26 : decode (xbc 176) 26 = .ok (.invokestatic 38, 3) := by decide +kernel
theorem d176_29 : decode (xbc 176) 29 = .ok (.ifCond .ne 7, 3) := by decide +kernel
theorem d176_32 : decode (xbc 176) 32 = .ok (.ldc2_w 156, 3) := by decide +kernel
theorem d176_35 : decode (xbc 176) 35 = .ok (.lreturn, 1) := by decide +kernel
theorem d176_36 : decode (xbc 176) 36 = .ok (.aload_n 0, 1) := by decide +kernel
theorem d176_37 : decode (xbc 176) 37 = .ok (.getfield 7, 3) := by decide +kernel
theorem d176_40 : decode (xbc 176) 40 = .ok (.bipush 32, 2) := by decide +kernel
theorem d176_42 : decode (xbc 176) 42 = .ok (.iload_n 1, 1) := by decide +kernel
theorem d176_43 : decode (xbc 176) 43 = .ok (.iadd, 1) := by decide +kernel
theorem d176_44 : decode (xbc 176) 44 = .ok (.iaload, 1) := by decide +kernel
theorem d176_45 : decode (xbc 176) 45 = .ok (.aload_n 0, 1) := by decide +kernel
theorem d176_46 : decode (xbc 176) 46 = .ok (.getfield 7, 3) := by decide +kernel
theorem d176_49 : decode (xbc 176) 49 = .ok (.bipush 32, 2) := by decide +kernel
theorem d176_51 : decode (xbc 176) 51 = .ok (.iload_n 2, 1) := by decide +kernel
theorem d176_52 : decode (xbc 176) 52 = .ok (.iadd, 1) := by decide +kernel
theorem d176_53 : decode (xbc 176) 53 = .ok (.iaload, 1) := by decide +kernel
theorem d176_54 : decode (xbc 176) 54 = .ok (.isub, 1) := by decide +kernel
theorem d176_55 : decode (xbc 176) 55 = .ok (.istore 4, 2) := by decide +kernel
theorem d176_57 : decode (xbc 176) 57 = .ok (.iload 4, 2) := by decide +kernel
theorem d176_59 : decode (xbc 176) 59 = .ok (.ifCond .ne 7, 3) := by decide +kernel
theorem d176_62 : decode (xbc 176) 62 = .ok (.ldc2_w 161, 3) := by decide +kernel
theorem d176_65 : decode (xbc 176) 65 = .ok (.lreturn, 1) := by decide +kernel
theorem d176_66 : decode (xbc 176) 66 = .ok (.aload_n 0, 1) := by decide +kernel
theorem d176_67 : decode (xbc 176) 67 = .ok (.getfield 7, 3) := by decide +kernel
theorem d176_70 : decode (xbc 176) 70 = .ok (.bipush 24, 2) := by decide +kernel
theorem d176_72 : decode (xbc 176) 72 = .ok (.iload_n 2, 1) := by decide +kernel
theorem d176_73 : decode (xbc 176) 73 = .ok (.iadd, 1) := by decide +kernel
theorem d176_74 : decode (xbc 176) 74 = .ok (.iaload, 1) := by decide +kernel
theorem d176_75 : decode (xbc 176) 75 = .ok (.aload_n 0, 1) := by decide +kernel
theorem d176_76 : decode (xbc 176) 76 = .ok (.getfield 7, 3) := by decide +kernel
theorem d176_79 : decode (xbc 176) 79 = .ok (.bipush 24, 2) := by decide +kernel
theorem d176_81 : decode (xbc 176) 81 = .ok (.iload_n 1, 1) := by decide +kernel
theorem d176_82 : decode (xbc 176) 82 = .ok (.iadd, 1) := by decide +kernel
theorem d176_83 : decode (xbc 176) 83 = .ok (.iaload, 1) := by decide +kernel
theorem d176_84 : decode (xbc 176) 84 = .ok (.isub, 1) := by decide +kernel
theorem d176_85 : decode (xbc 176) 85 = .ok (.istore 5, 2) := by decide +kernel
theorem d176_87 : decode (xbc 176) 87 = .ok (.iload 4, 2) := by decide +kernel
theorem d176_89 : decode (xbc 176) 89 = .ok (.ifCond .le 16, 3) := by decide +kernel
theorem d176_92 : decode (xbc 176) 92 = .ok (.iload 5, 2) := by decide +kernel
theorem d176_94 : decode (xbc 176) 94 = .ok (.i2l, 1) := by decide +kernel
theorem d176_95 : decode (xbc 176) 95 = .ok (.iload 4, 2) := by decide +kernel
theorem d176_97 : decode (xbc 176) 97 = .ok (.i2l, 1) := by decide +kernel
theorem d176_98 : decode (xbc 176) 98 = .ok (.iload_n 3, 1) := by decide +kernel
theorem d176_99 : decode (xbc 176) 99 = .ok (.invokestatic 163, 3) := by decide +kernel
theorem d176_102 : decode (xbc 176) 102 = .ok (.goto 15, 3) := by decide +kernel
theorem d176_105 : decode (xbc 176) 105 = .ok (.iload 5, 2) := by decide +kernel
theorem d176_107 : decode (xbc 176) 107 = .ok (.ineg, 1) := by decide +kernel
theorem d176_108 : decode (xbc 176) 108 = .ok (.i2l, 1) := by decide +kernel
theorem d176_109 : decode (xbc 176) 109 = .ok (.iload 4, 2) := by decide +kernel
theorem d176_111 : decode (xbc 176) 111 = .ok (.ineg, 1) := by decide +kernel
theorem d176_112 : decode (xbc 176) 112 = .ok (.i2l, 1) := by decide +kernel
theorem d176_113 : decode (xbc 176) 113 = .ok (.iload_n 3, 1) := by decide +kernel
theorem d176_114 : decode (xbc 176) 114 = .ok (.invokestatic 163, 3) := by decide +kernel
theorem d176_117 : decode (xbc 176) 117 = .ok (.lreturn, 1) := by decide +kernel
theorem d177_0 : decode (xbc 177) 0 = .ok (.iload_n 1, 1) := by decide +kernel
theorem d177_1 : decode (xbc 177) 1 = .ok (.iconst 0, 1) := by decide +kernel
theorem d177_2 : decode (xbc 177) 2 = .ok (.sipush 9999, 3) := by decide +kernel
theorem d177_5 : decode (xbc 177) 5 = .ok (.invokestatic 38, 3) := by decide +kernel
theorem d177_8 : decode (xbc 177) 8 = .ok (.ifCond .eq 22, 3) := by decide +kernel
theorem d177_11 : decode (xbc 177) 11 = .ok (.iload_n 2, 1) := by decide +kernel
theorem d177_12 : decode (xbc 177) 12 = .ok (.iconst 1, 1) := by decide +kernel
theorem d177_13 : decode (xbc 177) 13 = .ok (.bipush 99, 2) := by decide +kernel
theorem d177_15 : decode (xbc 177) 15 = .ok (.invokestatic 38, 3) := by decide +kernel
theorem d177_18 : decode (xbc 177) 18 = .ok (.ifCond .eq 12, 3) := by decide +kernel
theorem d177_21 : decode (xbc 177) 21 = .ok (.iload_n 3, 1) := by decide +kernel
theorem d177_22 : decode (xbc 177) 22 = .ok (.iconst 0, 1) := by decide +kernel
theorem d177_23 : decode (xbc 177) 23 = .ok (.iconst 2, 1) := by decide +kernel
theorem d177_24 : decode (xbc 177) 24 = .ok (.invokestatic 38, 3) := by decide +kernel
theorem d177_27 : decode (xbc 177) 27 = .ok (.ifCond .ne 6, 3) := by decide +kernel
theorem d177_30 : decode (xbc 177) 30 = .ok (.bipush (-2), 2) := by decide +kernel
theorem d177_32 : decode (xbc 177) 32 = .ok (.ireturn, 1) := by decide +kernel
theorem d177_33 : decode (xbc 177) 33 = .ok (.aload_n 0, 1) := by decide +kernel
theorem d177_34 : decode (xbc 177) 34 = .ok (.invokevirtual 82, 3) := by decide +kernel
theorem d177_37 : decode (xbc 177) 37 = .ok (.iload_n 1, 1) := by decide +kernel
theorem d177_38 : decode (xbc 177) 38 = .ok (.istore 4, 2) := by decide +kernel
theorem d177_40 : decode (xbc 177) 40 = .ok (.iconst 0, 1) := by decide +kernel
theorem d177_41 : decode (xbc 177) 41 = .ok (.istore 5, 2) := by decide +kernel
theorem d177_43 : decode (xbc 177) 43 = .ok (.iload 5, 2) := by decide +kernel
theorem d177_45 : decode (xbc 177) 45 = .ok (.iload_n 2, 1) := by decide +kernel
theorem d177_46 : decode (xbc 177) 46 = .ok (.if_icmp .ge 159, 3) := by decide +kernel
theorem d177_49 : decode (xbc 177) 49 = .ok (.bipush 75, 2) := by decide +kernel
theorem d177_51 : decode (xbc 177) 51 = .ok (.iload 4, 2) := by decide +kernel
theorem d177_53 : decode (xbc 177) 53 = .ok (.imul, 1) := by decide +kernel
theorem d177_54 : decode (xbc 177) 54 = .ok (.bipush 74, 2) := by decide +kernel
theorem d177_56 : decode (xbc 177) 56 = .ok (.iadd, 1) := by decide +kernel
theorem d177_57 : decode (xbc 177) 57 = .ok (.ldc 213, 2) := by decide +kernel
theorem d177_59 : decode (xbc 177) 59 = .ok (.irem, 1) := by decide +kernel
theorem d177_60 : decode (xbc 177) 60 = .ok (.istore 4, 2) := by decide +kernel
theorem d177_62 : decode (xbc 177) 62 = .ok (.iload 4, 2) := by decide +kernel
theorem d177_64 : decode (xbc 177) 64 = .ok (.bipush 8, 2) := by decide +kernel
theorem d177_66 : decode (xbc 177) 66 = .ok (.irem, 1) := by decide +kernel
theorem d177_67 : decode (xbc 177) 67 = .ok (.istore 6, 2) := by decide +kernel
theorem d177_69 : decode (xbc 177) 69 = .ok (.iload 4, 2) := by decide +kernel
theorem d177_71 : decode (xbc 177) 71 = .ok (.bipush 8, 2) := by decide +kernel
theorem d177_73 : decode (xbc 177) 73 = .ok (.idiv, 1) := by decide +kernel
theorem d177_74 : decode (xbc 177) 74 = .ok (.bipush 8, 2) := by decide +kernel
theorem d177_76 : decode (xbc 177) 76 = .ok (.irem, 1) := by decide +kernel
theorem d177_77 : decode (xbc 177) 77 = .ok (.tableswitch 112 0 4 #[35, 49, 63, 77, 91], 35) := by decide +kernel
theorem d177_112 : decode (xbc 177) 112 = .ok (.aload_n 0, 1) := by decide +kernel
theorem d177_113 : decode (xbc 177) 113 = .ok (.aload_n 0, 1) := by decide +kernel
theorem d177_114 : decode (xbc 177) 114 = .ok (.iload 6, 2) := by decide +kernel
theorem d177_116 : decode (xbc 177) 116 = .ok (.iconst 1, 1) := by decide +kernel
theorem d177_117 : decode (xbc 177) 117 = .ok (.invokevirtual 108, 3) := by decide +kernel
theorem d177_120 : decode (xbc 177) 120 = .ok (.putfield 121, 3) := by decide +kernel
theorem d177_123 : decode (xbc 177) 123 = .ok (.goto 76, 3) := by decide +kernel
theorem d177_126 : decode (xbc 177) 126 = .ok (.aload_n 0, 1) := by decide +kernel
theorem d177_127 : decode (xbc 177) 127 = .ok (.aload_n 0, 1) := by decide +kernel
theorem d177_128 : decode (xbc 177) 128 = .ok (.iload 6, 2) := by decide +kernel
theorem d177_130 : decode (xbc 177) 130 = .ok (.iconst (-1), 1) := by decide +kernel
theorem d177_131 : decode (xbc 177) 131 = .ok (.invokevirtual 108, 3) := by decide +kernel
theorem d177_134 : decode (xbc 177) 134 = .ok (.putfield 121, 3) := by decide +kernel
theorem d177_137 : decode (xbc 177) 137 = .ok (.goto 62, 3) := by decide +kernel
theorem d177_140 : decode (xbc 177) 140 = .ok (.aload_n 0, 1) := by decide +kernel
theorem d177_141 : decode (xbc 177) 141 = .ok (.aload_n 0, 1) := by decide +kernel
theorem d177_142 : decode (xbc 177) 142 = .ok (.iload 6, 2) := by decide +kernel
theorem d177_144 : decode (xbc 177) 144 = .ok (.iconst 1, 1) := by decide +kernel
theorem d177_145 : decode (xbc 177) 145 = .ok (.invokevirtual 111, 3) := by decide +kernel
theorem d177_148 : decode (xbc 177) 148 = .ok (.putfield 121, 3) := by decide +kernel
theorem d177_151 : decode (xbc 177) 151 = .ok (.goto 48, 3) := by decide +kernel
theorem d177_154 : decode (xbc 177) 154 = .ok (.aload_n 0, 1) := by decide +kernel
theorem d177_155 : decode (xbc 177) 155 = .ok (.aload_n 0, 1) := by decide +kernel
theorem d177_156 : decode (xbc 177) 156 = .ok (.iload 6, 2) := by decide +kernel
theorem d177_158 : decode (xbc 177) 158 = .ok (.iconst 0, 1) := by decide +kernel
theorem d177_159 : decode (xbc 177) 159 = .ok (.invokevirtual 111, 3) := by decide +kernel
theorem d177_162 : decode (xbc 177) 162 = .ok (.putfield 121, 3) := by decide +kernel
theorem d177_165 : decode (xbc 177) 165 = .ok (.goto 34, 3) := by decide +kernel
theorem d177_168 : decode (xbc 177) 168 = .ok (.aload_n 0, 1) := by decide +kernel
theorem d177_169 : decode (xbc 177) 169 = .ok (.aload_n 0, 1) := by decide +kernel
theorem d177_170 : decode (xbc 177) 170 = .ok (.iload 6, 2) := by decide +kernel
theorem d177_172 : decode (xbc 177) 172 = .ok (.iload 4, 2) := by decide +kernel
theorem d177_174 : decode (xbc 177) 174 = .ok (.bipush 64, 2) := by decide +kernel
theorem d177_176 : decode (xbc 177) 176 = .ok (.idiv, 1) := by decide +kernel
theorem d177_177 : decode (xbc 177) 177 = .ok (.bipush 8, 2) := by decide +kernel
theorem d177_179 : decode (xbc 177) 179 = .ok (.irem, 1) := by decide +kernel
theorem d177_180 : decode (xbc 177) 180 = .ok (.invokevirtual 115, 3) := by decide +kernel
theorem d177_183 : decode (xbc 177) 183 = .ok (.putfield 121, 3) := by decide +kernel
theorem d177_186 : decode (xbc 177) 186 = .ok (.goto 13, 3) := by decide +kernel
theorem d177_189 : decode (xbc 177) 189 = .ok (.aload_n 0, 1) := by decide +kernel
theorem d177_190 : decode (xbc 177) 190 = .ok (.aload_n 0, 1) := by decide +kernel
theorem d177_191 : decode (xbc 177) 191 = .ok (.iload 5, 2) := by decide +kernel
theorem d177_193 : decode (xbc 177) 193 = .ok (.invokevirtual 105, 3) := by decide +kernel
theorem d177_196 : decode (xbc 177) 196 = .ok (.putfield 121, 3) := by decide +kernel
theorem d177_199 : decode (xbc 177) 199 = .ok (.iinc 5 1, 3) := by decide +kernel
theorem d177_202 : decode (xbc 177) 202 = .ok (.goto (-159), 3) := by decide +kernel
theorem d177_205 : decode (xbc 177) 205 = .ok (.iload_n 3, 1) := by decide +kernel
theorem d177_206 : decode (xbc 177) 206 = .ok (.ifCond .ne 13, 3) := by decide +kernel
theorem d177_209 : decode (xbc 177) 209 = .ok (.aload_n 0, 1) := by decide +kernel
theorem d177_210 : decode (xbc 177) 210 = .ok (.getfield 13, 3) := by decide +kernel
theorem d177_213 : decode (xbc 177) 213 = .ok (.bipush 42, 2) := by decide +kernel
theorem d177_215 : decode (xbc 177) 215 = .ok (.iaload, 1) := by decide +kernel
theorem d177_216 : decode (xbc 177) 216 = .ok (.goto 19, 3) := by decide +kernel
theorem d177_219 : decode (xbc 177) 219 = .ok (.iload_n 3, 1) := by decide +kernel
theorem d177_220 : decode (xbc 177) 220 = .ok (.iconst 1, 1) := by decide +kernel
theorem d177_221 : decode (xbc 177) 221 = .ok (.if_icmp .ne 10, 3) := by decide +kernel
theorem d177_224 : decode (xbc 177) 224 = .ok (.aload_n 0, 1) := by decide +kernel
theorem d177_225 : decode (xbc 177) 225 = .ok (.getfield 49, 3) := by decide +kernel
theorem d177_228 : decode (xbc 177) 228 = .ok (.goto 7, 3) := by decide +kernel
theorem d177_231 : decode (xbc 177) 231 = .ok (.aload_n 0, 1) := by decide +kernel
theorem d177_232 : decode (xbc 177) 232 = .ok (.getfield 46, 3) := by decide +kernel
theorem d177_235 : decode (xbc 177) 235 = .ok (.ireturn, 1) := by decide +kernel
theorem d178_0 : decode (xbc 178) 0 = .ok (.iload_n 1, 1) := by decide +kernel
theorem d178_1 : decode (xbc 178) 1 = .ok (.iconst 0, 1) := by decide +kernel
theorem d178_2 : decode (xbc 178) 2 = .ok (.iconst 1, 1) := by decide +kernel
theorem d178_3 : decode (xbc 178) 3 = .ok (.invokestatic 38, 3) := by decide +kernel
theorem d178_6 : decode (xbc 178) 6 = .ok (.ifCond .ne 6, 3) := by decide +kernel
theorem d178_9 : decode (xbc 178) 9 = .ok (.bipush (-2), 2) := by decide +kernel
theorem d178_11 : decode (xbc 178) 11 = .ok (.ireturn, 1) := by decide +kernel
theorem d178_12 : decode (xbc 178) 12 = .ok (.sipush 360, 3) := by decide +kernel
theorem d178_15 : decode (xbc 178) 15 = .ok (.iload_n 1, 1) := by decide +kernel
theorem d178_16 : decode (xbc 178) 16 = .ok (.imul, 1) := by decide +kernel
theorem d178_17 : decode (xbc 178) 17 = .ok (.istore_n 2, 1) := by decide +kernel
theorem d178_18 : decode (xbc 178) 18 = .ok (.iconst 0, 1) := by decide +kernel
theorem d178_19 : decode (xbc 178) 19 = .ok (.istore_n 3, 1) := by decide +kernel
theorem d178_20 : decode (xbc 178) 20 = .ok (.iload_n 3, 1) := by decide +kernel
theorem d178_21 : decode (xbc 178) 21 = .ok (.sipush 331, 3) := by decide +kernel
theorem d178_24 : decode (xbc 178) 24 = .ok (.if_icmp .ge 23, 3) := by decide +kernel
theorem d178_27 : decode (xbc 178) 27 = .ok (.aload_n 0, 1) := by decide +kernel
theorem d178_28 : decode (xbc 178) 28 = .ok (.getfield 25, 3) := by decide +kernel
theorem d178_31 : decode (xbc 178) 31 = .ok (.iload_n 2, 1) := by decide +kernel
theorem d178_32 : decode (xbc 178) 32 = .ok (.iload_n 3, 1) := by decide +kernel
theorem d178_33 : decode (xbc 178) 33 = .ok (.iadd, 1) := by decide +kernel
theorem d178_34 : decode (xbc 178) 34 = .ok (.aload_n 0, 1) := by decide +kernel
theorem d178_35 : decode (xbc 178) 35 = .ok (.getfield 7, 3) := by decide +kernel
theorem d178_38 : decode (xbc 178) 38 = .ok (.iload_n 3, 1) := by decide +kernel
theorem d178_39 : decode (xbc 178) 39 = .ok (.iaload, 1) := by decide +kernel
theorem d178_40 : decode (xbc 178) 40 = .ok (.iastore, 1) := by decide +kernel
theorem d178_41 : decode (xbc 178) 41 = .ok (.iinc 3 1, 3) := by decide +kernel
theorem d178_44 : decode (xbc 178) 44 = .ok (.goto (-24), 3) := by decide +kernel
theorem d178_47 : decode (xbc 178) 47 = .ok (.iconst 0, 1) := by decide +kernel
theorem d178_48 : decode (xbc 178) 48 = .ok (.istore_n 3, 1) := by decide +kernel
theorem d178_49 : decode (xbc 178) 49 = .ok (.iload_n 3, 1) := by decide +kernel
theorem d178_50 : decode (xbc 178) 50 = .ok (.bipush 24, 2) := by decide +kernel
theorem d178_52 : decode (xbc 178) 52 = .ok (.if_icmp .ge 27, 3) := by decide +kernel
theorem d178_55 : decode (xbc 178) 55 = .ok (.aload_n 0, 1) := by decide +kernel
theorem d178_56 : decode (xbc 178) 56 = .ok (.getfield 25, 3) := by decide +kernel
theorem d178_59 : decode (xbc 178) 59 = .ok (.iload_n 2, 1) := by decide +kernel
theorem d178_60 : decode (xbc 178) 60 = .ok (.sipush 331, 3) := by decide +kernel
theorem d178_63 : decode (xbc 178) 63 = .ok (.iadd, 1) := by decide +kernel
theorem d178_64 : decode (xbc 178) 64 = .ok (.iload_n 3, 1) := by decide +kernel
theorem d178_65 : decode (xbc 178) 65 = .ok (.iadd, 1) := by decide +kernel
theorem d178_66 : decode (xbc 178) 66 = .ok (.aload_n 0, 1) := by decide +kernel
theorem d178_67 : decode (xbc 178) 67 = .ok (.getfield 16, 3) := by decide +kernel
theorem d178_70 : decode (xbc 178) 70 = .ok (.iload_n 3, 1) := by decide +kernel
theorem d178_71 : decode (xbc 178) 71 = .ok (.iaload, 1) := by decide +kernel
theorem d178_72 : decode (xbc 178) 72 = .ok (.iastore, 1) := by decide +kernel
theorem d178_73 : decode (xbc 178) 73 = .ok (.iinc 3 1, 3) := by decide +kernel
theorem d178_76 : decode (xbc 178) 76 = .ok (.goto (-27), 3) := by decide +kernel
theorem d178_79 : decode (xbc 178) 79 = .ok (.aload_n 0, 1) := by decide +kernel
theorem d178_80 : decode (xbc 178) 80 = .ok (.getfield 25, 3) := by decide +kernel
theorem d178_83 : decode (xbc 178) 83 = .ok (.iload_n 2, 1) := by decide +kernel
theorem d178_84 : decode (xbc 178) 84 = .ok (.sipush 358, 3) := by decide +kernel
theorem d178_87 : decode (xbc 178) 87 = .ok (.iadd, 1) := by decide +kernel
theorem d178_88 : decode (xbc 178) 88 = .ok (.aload_n 0, 1) := by decide +kernel
theorem d178_89 : decode (xbc 178) 89 = .ok (.getfield 203, 3) := by decide +kernel
theorem d178_92 : decode (xbc 178) 92 = .ok (.iastore, 1) := by decide +kernel
theorem d178_93 : decode (xbc 178) 93 = .ok (.aload_n 0, 1) := by decide +kernel
theorem d178_94 : decode (xbc 178) 94 = .ok (.getfield 28, 3) := by decide +kernel
theorem d178_97 : decode (xbc 178) 97 = .ok (.iload_n 1, 1) := by decide +kernel
theorem d178_98 : decode (xbc 178) 98 = .ok (.iconst 1, 1) := by decide +kernel
theorem d178_99 : decode (xbc 178) 99 = .ok (.bastore, 1) := by decide +kernel
theorem d178_100 : decode (xbc 178) 100 = .ok (.iconst 1, 1) := by decide +kernel
theorem d178_101 : decode (xbc 178) 101 = .ok (.ireturn, 1) := by decide +kernel
theorem d179_0 : decode (xbc 179) 0 = .ok (.iload_n 1, 1) := by decide +kernel
theorem d179_1 : decode (xbc 179) 1 = .ok (.iconst 0, 1) := by decide +kernel
theorem d179_2 : decode (xbc 179) 2 = .ok (.iconst 1, 1) := by decide +kernel
theorem d179_3 : decode (xbc 179) 3 = .ok (.invokestatic 38, 3) := by decide +kernel
theorem d179_6 : decode (xbc 179) 6 = .ok (.ifCond .ne 6, 3) := by decide +kernel
theorem d179_9 : decode (xbc 179) 9 = .ok (.bipush (-2), 2) := by decide +kernel
theorem d179_11 : decode (xbc 179) 11 = .ok (.ireturn, 1) := by decide +kernel
theorem d179_12 : decode (xbc 179) 12 = .ok (.aload_n 0, 1) := by decide +kernel
theorem d179_13 : decode (xbc 179) 13 = .ok (.getfield 28, 3) := by decide +kernel
theorem d179_16 : decode (xbc 179) 16 = .ok (.iload_n 1, 1) := by decide +kernel
theorem d179_17 : decode (xbc 179) 17 = .ok (.baload, 1) := by decide +kernel
theorem d179_18 : decode (xbc 179) 18 = .ok (.ifCond .ne 6, 3) := by decide +kernel
theorem d179_21 : decode (xbc 179) 21 = .ok (.bipush (-3), 2) := by decide +kernel
theorem d179_23 : decode (xbc 179) 23 = .ok (.ireturn, 1) := by decide +kernel
theorem d179_24 : decode (xbc 179) 24 = .ok (.sipush 360, 3) := by decide +kernel
theorem d179_27 : decode (xbc 179) 27 = .ok (.iload_n 1, 1) := by decide +kernel
theorem d179_28 : decode (xbc 179) 28 = .ok (.imul, 1) := by decide +kernel
theorem d179_29 : decode (xbc 179) 29 = .ok (.istore_n 2, 1) := by decide +kernel
theorem d179_30 : decode (xbc 179) 30 = .ok (.iconst 0, 1) := by decide +kernel
theorem d179_31 : decode (xbc 179) 31 = .ok (.istore_n 3, 1) := by decide +kernel
theorem d179_32 : decode (xbc 179) 32 = .ok (.iload_n 3, 1) := by decide +kernel
theorem d179_33 : decode (xbc 179) 33 = .ok (.sipush 331, 3) := by decide +kernel
theorem d179_36 : decode (xbc 179) 36 = .ok (.if_icmp .ge 23, 3) := by decide +kernel
theorem d179_39 : decode (xbc 179) 39 = .ok (.aload_n 0, 1) := by decide +kernel
theorem d179_40 : decode (xbc 179) 40 = .ok (.getfield 7, 3) := by decide +kernel
theorem d179_43 : decode (xbc 179) 43 = .ok (.iload_n 3, 1) := by decide +kernel
theorem d179_44 : decode (xbc 179) 44 = .ok (.aload_n 0, 1) := by decide +kernel
theorem d179_45 : decode (xbc 179) 45 = .ok (.getfield 25, 3) := by decide +kernel
theorem d179_48 : decode (xbc 179) 48 = .ok (.iload_n 2, 1) := by decide +kernel
theorem d179_49 : decode (xbc 179) 49 = .ok (.iload_n 3, 1) := by decide +kernel
theorem d179_50 : decode (xbc 179) 50 = .ok (.iadd, 1) := by decide +kernel
theorem d179_51 : decode (xbc 179) 51 = .ok (.iaload, 1) := by decide +kernel
theorem d179_52 : decode (xbc 179) 52 = .ok (.iastore, 1) := by decide +kernel
theorem d179_53 : decode (xbc 179) 53 = .ok (.iinc 3 1, 3) := by decide +kernel
theorem d179_56 : decode (xbc 179) 56 = .ok (.goto (-24), 3) := by decide +kernel
theorem d179_59 : decode (xbc 179) 59 = .ok (.iconst 0, 1) := by decide +kernel
theorem d179_60 : decode (xbc 179) 60 = .ok (.istore_n 3, 1) := by decide +kernel
theorem d179_61 : decode (xbc 179) 61 = .ok (.iload_n 3, 1) := by decide +kernel
theorem d179_62 : decode (xbc 179) 62 = .ok (.bipush 24, 2) := by decide +kernel
theorem d179_64 : decode (xbc 179) 64 = .ok (.if_icmp .ge 27, 3) := by decide +kernel
theorem d179_67 : decode (xbc 179) 67 = .ok (.aload_n 0, 1) := by decide +kernel
theorem d179_68 : decode (xbc 179) 68 = .ok (.getfield 16, 3) := by decide +kernel
theorem d179_71 : decode (xbc 179) 71 = .ok (.iload_n 3, 1) := by decide +kernel
theorem d179_72 : decode (xbc 179) 72 = .ok (.aload_n 0, 1) := by decide +kernel
theorem d179_73 : decode (xbc 179) 73 = .ok (.getfield 25, 3) := by decide +kernel
theorem d179_76 : decode (xbc 179) 76 = .ok (.iload_n 2, 1) := by decide +kernel
theorem d179_77 : decode (xbc 179) 77 = .ok (.sipush 331, 3) := by decide +kernel
theorem d179_80 : decode (xbc 179) 80 = .ok (.iadd, 1) := by decide +kernel
theorem d179_81 : decode (xbc 179) 81 = .ok (.iload_n 3, 1) := by decide +kernel
theorem d179_82 : decode (xbc 179) 82 = .ok (.iadd, 1) := by decide +kernel
theorem d179_83 : decode (xbc 179) 83 = .ok (.iaload, 1) := by decide +kernel
theorem d179_84 : decode (xbc 179) 84 = .ok (.iastore, 1) := by decide +kernel
theorem d179_85 : decode (xbc 179) 85 = .ok (.iinc 3 1, 3) := by decide +kernel
theorem d179_88 : decode (xbc 179) 88 = .ok (.goto (-27), 3) := by decide +kernel
theorem d179_91 : decode (xbc 179) 91 = .ok (.aload_n 0, 1) := by decide +kernel
theorem d179_92 : decode (xbc 179) 92 = .ok (.aload_n 0, 1) := by decide +kernel
theorem d179_93 : decode (xbc 179) 93 = .ok (.getfield 25, 3) := by decide +kernel
theorem d179_96 : decode (xbc 179) 96 = .ok (.iload_n 2, 1) := by decide +kernel
theorem d179_97 : decode (xbc 179) 97 = .ok (.sipush 358, 3) := by decide +kernel
theorem d179_100 : decode (xbc 179) 100 = .ok (.iadd, 1) := by decide +kernel
theorem d179_101 : decode (xbc 179) 101 = .ok (.iaload, 1) := by decide +kernel
theorem d179_102 : decode (xbc 179) 102 = .ok (.putfield 203, 3) := by decide +kernel
theorem d179_105 : decode (xbc 179) 105 = .ok (.iconst 1, 1) := by decide +kernel
theorem d179_106 : decode (xbc 179) 106 = .ok (.ireturn, 1) := by decide +kernel
theorem d180_0 : decode (xbc 180) 0 = .ok (.iload_n 1, 1) := by decide +kernel
theorem d180_1 : decode (xbc 180) 1 = .ok (.bipush 50, 2) := by decide +kernel
theorem d180_3 : decode (xbc 180) 3 = .ok (.if_icmp .lt 29, 3) := by decide +kernel
theorem d180_6 : decode (xbc 180) 6 = .ok (.iload_n 1, 1) := by decide +kernel
theorem d180_7 : decode (xbc 180) 7 = .ok (.bipush 51, 2) := by decide +kernel
theorem d180_9 : decode (xbc 180) 9 = .ok (.bipush 57, 2) := by decide +kernel
theorem d180_11 : decode (xbc 180) 11 = .ok (.invokestatic 38, 3) := by decide +kernel
theorem d180_14 : decode (xbc 180) 14 = .ok (.ifCond .eq 15, 3) := by decide +kernel
theorem d180_17 : decode (xbc 180) 17 = .ok (.aload_n 0, 1) := by decide +kernel
theorem d180_18 : decode (xbc 180) 18 = .ok (.getfield 7, 3) := by decide +kernel
theorem d180_21 : decode (xbc 180) 21 = .ok (.iload_n 1, 1) := by decide +kernel
theorem d180_22 : decode (xbc 180) 22 = .ok (.bipush 9, 2) := by decide +kernel
theorem d180_24 : decode (xbc 180) 24 = .ok (.isub, 1) := by decide +kernel
theorem d180_25 : decode (xbc 180) 25 = .ok (.iaload, 1) := by decide +kernel
theorem d180_26 : decode (xbc 180) 26 = .ok (.goto 5, 3) := by decide +kernel
theorem d180_29 : decode (xbc 180) 29 = .ok (.bipush (-2), 2) := by decide +kernel
theorem d180_31 : decode (xbc 180) 31 = .ok (.ireturn, 1) := by decide +kernel
theorem d180_32 : decode (xbc 180) 32 = .ok (.iload_n 1, 1) := by decide +kernel
theorem d180_33 : decode (xbc 180) 33 = .ok (.bipush 10, 2) := by decide +kernel
theorem d180_35 : decode (xbc 180) 35 = .ok (.if_icmp .lt 56, 3) := by decide +kernel
theorem d180_38 : decode (xbc 180) 38 = .ok (.iload_n 1, 1) := by decide +kernel
theorem d180_39 : decode (xbc 180) 39 = .ok (.bipush 10, 2) := by decide +kernel
theorem d180_41 : decode (xbc 180) 41 = .ok (.irem, 1) := by decide +kernel
theorem d180_42 : decode (xbc 180) 42 = .ok (.istore_n 2, 1) := by decide +kernel
theorem d180_43 : decode (xbc 180) 43 = .ok (.iload_n 1, 1) := by decide +kernel
theorem d180_44 : decode (xbc 180) 44 = .ok (.bipush 10, 2) := by decide +kernel
theorem d180_46 : decode (xbc 180) 46 = .ok (.idiv, 1) := by decide +kernel
theorem d180_47 : decode (xbc 180) 47 = .ok (.istore_n 3, 1) := by decide +kernel
theorem d180_48 : decode (xbc 180) 48 = .ok (.iload_n 2, 1) := by decide +kernel
theorem d180_49 : decode (xbc 180) 49 = .ok (.invokestatic 78, 3) := by decide +kernel
theorem d180_52 : decode (xbc 180) 52 = .ok (.ifCond .ne 8, 3) := by decide +kernel
theorem d180_55 : decode (xbc 180) 55 = .ok (.bipush (-2), 2) := by decide +kernel
theorem d180_57 : decode (xbc 180) 57 = .ok (.goto 33, 3) := by decide +kernel
theorem d180_60 : decode (xbc 180) 60 = .ok (.iload_n 3, 1) := by decide +kernel
theorem d180_61 : decode (xbc 180) 61 = .ok (.iconst 4, 1) := by decide +kernel
theorem d180_62 : decode (xbc 180) 62 = .ok (.if_icmp .ne 15, 3) := by decide +kernel
theorem d180_65 : decode (xbc 180) 65 = .ok (.aload_n 0, 1) := by decide +kernel
theorem d180_66 : decode (xbc 180) 66 = .ok (.getfield 7, 3) := by decide +kernel
theorem d180_69 : decode (xbc 180) 69 = .ok (.bipush 32, 2) := by decide +kernel
theorem d180_71 : decode (xbc 180) 71 = .ok (.iload_n 2, 1) := by decide +kernel
theorem d180_72 : decode (xbc 180) 72 = .ok (.iadd, 1) := by decide +kernel
theorem d180_73 : decode (xbc 180) 73 = .ok (.iaload, 1) := by decide +kernel
theorem d180_74 : decode (xbc 180) 74 = .ok (.goto 16, 3) := by decide +kernel
theorem d180_77 : decode (xbc 180) 77 = .ok (.aload_n 0, 1) := by decide +kernel
theorem d180_78 : decode (xbc 180) 78 = .ok (.getfield 7, 3) := by decide +kernel
theorem d180_81 : decode (xbc 180) 81 = .ok (.bipush 8, 2) := by decide +kernel
theorem d180_83 : decode (xbc 180) 83 = .ok (.iload_n 3, 1) := by decide +kernel
theorem d180_84 : decode (xbc 180) 84 = .ok (.iconst 1, 1) := by decide +kernel
theorem d180_85 : decode (xbc 180) 85 = .ok (.isub, 1) := by decide +kernel
theorem d180_86 : decode (xbc 180) 86 = .ok (.imul, 1) := by decide +kernel
theorem d180_87 : decode (xbc 180) 87 = .ok (.iload_n 2, 1) := by decide +kernel
theorem d180_88 : decode (xbc 180) 88 = .ok (.iadd, 1) := by decide +kernel
theorem d180_89 : decode (xbc 180) 89 = .ok (.iaload, 1) := by decide +kernel
theorem d180_90 : decode (xbc 180) 90 = .ok (.ireturn, 1) := by decide +kernel
theorem d180_91 : decode (xbc 180) 91 = .ok (.iload_n 1, 1) := by decide +kernel
theorem d180_92 : decode (xbc 180) 92 = .ok (.tableswitch 61 0 3 #[32, 37, 45, 53], 32) := by decide +kernel
theorem d180_124 : decode (xbc 180) 124 = .ok (.aload_n 0, 1) := by decide +kernel
theorem d180_125 : decode (xbc 180) 125 = .ok (.getfield 85, 3) := by decide +kernel
theorem d180_128 : decode (xbc 180) 128 = .ok (.ireturn, 1) := by decide +kernel
theorem d180_129 : decode (xbc 180) 129 = .ok (.aload_n 0, 1) := by decide +kernel
theorem d180_130 : decode (xbc 180) 130 = .ok (.getfield 7, 3) := by decide +kernel
theorem d180_133 : decode (xbc 180) 133 = .ok (.bipush 40, 2) := by decide +kernel
theorem d180_135 : decode (xbc 180) 135 = .ok (.iaload, 1) := by decide +kernel
theorem d180_136 : decode (xbc 180) 136 = .ok (.ireturn, 1) := by decide +kernel
theorem d180_137 : decode (xbc 180) 137 = .ok (.aload_n 0, 1) := by decide +kernel
theorem d180_138 : decode (xbc 180) 138 = .ok (.getfield 7, 3) := by decide +kernel
theorem d180_141 : decode (xbc 180) 141 = .ok (.bipush 42, 2) := by decide +kernel
theorem d180_143 : decode (xbc 180) 143 = .ok (.iaload, 1) := by decide +kernel
theorem d180_144 : decode (xbc 180) 144 = .ok (.ireturn, 1) := by decide +kernel
theorem d180_145 : decode (xbc 180) 145 = .ok (.aload_n 0, 1) := by decide +kernel
theorem d180_146 : decode (xbc 180) 146 = .ok (.getfield 7, 3) := by decide +kernel
theorem d180_149 : decode (xbc 180) 149 = .ok (.bipush 73, 2) := by decide +kernel
theorem d180_151 : decode (xbc 180) 151 = .ok (.iaload, 1) := by decide +kernel
theorem d180_152 : decode (xbc 180) 152 = .ok (.ireturn, 1) := by decide +kernel
theorem d180_153 : decode (xbc 180) 153 = .ok (.iload_n 1, 1) := by decide +kernel
theorem d180_154 : decode (xbc 180) 154 = .ok (.iconst 4, 1) := by decide +kernel
theorem d180_155 : decode (xbc 180) 155 = .ok (.if_icmp .ne 10, 3) := by decide +kernel
theorem d180_158 : decode (xbc 180) 158 = .ok (.aload_n 0, 1) := by decide +kernel
theorem d180_159 : decode (xbc 180) 159 = .ok (.getfield 203, 3) := by decide +kernel
theorem d180_162 : decode (xbc 180) 162 = .ok (.goto 5, 3) := by decide +kernel
theorem d180_165 : decode (xbc 180) 165 = .ok (.bipush (-2), 2) := by decide +kernel
theorem d180_167 : decode (xbc 180) 167 = .ok (.ireturn, 1) := by decide +kernel
