theorem d32_0 : decode (xbc 32) 0 = .ok (.aload_n 0, 1) := by decide +kernel
theorem d32_1 : decode (xbc 32) 1 = .ok (.invokespecial 1, 3) := by decide +kernel
theorem d32_4 : decode (xbc 32) 4 = .ok (.aload_n 0, 1) := by decide +kernel
theorem d32_5 : decode (xbc 32) 5 = .ok (.new 7, 3) := by decide +kernel
theorem d32_8 : decode (xbc 32) 8 = .ok (.dup, 1) := by decide +kernel
theorem d32_9 : decode (xbc 32) 9 = .ok (.invokespecial 9, 3) := by decide +kernel
theorem d32_12 : decode (xbc 32) 12 = .ok (.putfield 10, 3) := by decide +kernel
theorem d32_15 : decode (xbc 32) 15 = .ok (.aload_n 0, 1) := by decide +kernel
theorem d32_16 : decode (xbc 32) 16 = .ok (.new 16, 3) := by decide +kernel
theorem d32_19 : decode (xbc 32) 19 = .ok (.dup, 1) := by decide +kernel
theorem d32_20 : decode (xbc 32) 20 = .ok (.invokespecial 18, 3) := by decide +kernel
theorem d32_23 : decode (xbc 32) 23 = .ok (.putfield 19, 3) := by decide +kernel
theorem d32_26 : decode (xbc 32) 26 = .ok (.aload_n 0, 1) := by decide +kernel
theorem d32_27 : decode (xbc 32) 27 = .ok (.iconst 0, 1) := by decide +kernel
theorem d32_28 : decode (xbc 32) 28 = .ok (.putfield 23, 3) := by decide +kernel
theorem d32_31 : decode (xbc 32) 31 = .ok (.return_, 1) := by decide +kernel
theorem d33_0 : decode (xbc 33) 0 = .ok (.aload_n 0, 1) := by decide +kernel
theorem d33_1 : decode (xbc 33) 1 = .ok (.getfield 10, 3) := by decide +kernel
theorem d33_4 : decode (xbc 33) 4 = .ok (.aload_n 1, 1) := by decide +kernel
theorem d33_5 : decode (xbc 33) 5 = .ok (.invokevirtual 27, 3) := by decide +kernel
theorem d33_8 : decode (xbc 33) 8 = .ok (.aload_n 0, 1) := by decide +kernel
theorem d33_9 : decode (xbc 33) 9 = .ok (.getfield 19, 3) := by decide +kernel
theorem d33_12 : decode (xbc 33) 12 = .ok (.aload_n 2, 1) := by decide +kernel
theorem d33_13 : decode (xbc 33) 13 = .ok (.invokevirtual 31, 3) := by decide +kernel
theorem d33_16 : decode (xbc 33) 16 = .ok (.aload_n 0, 1) := by decide +kernel
theorem d33_17 : decode (xbc 33) 17 = .ok (.iconst 1, 1) := by decide +kernel
theorem d33_18 : decode (xbc 33) 18 = .ok (.putfield 23, 3) := by decide +kernel
theorem d33_21 : decode (xbc 33) 21 = .ok (.return_, 1) := by decide +kernel
theorem d34_0 : decode (xbc 34) 0 = .ok (.aload_n 0, 1) := by decide +kernel
theorem d34_1 : decode (xbc 34) 1 = .ok (.getfield 23, 3) := by decide +kernel
theorem d34_4 : decode (xbc 34) 4 = .ok (.ifCond .eq 19, 3) := by decide +kernel
theorem d34_7 : decode (xbc 34) 7 = .ok (.aload_n 1, 1) := by decide +kernel
theorem d34_8 : decode (xbc 34) 8 = .ok (.aload_n 0, 1) := by decide +kernel
theorem d34_9 : decode (xbc 34) 9 = .ok (.getfield 10, 3) := by decide +kernel
theorem d34_12 : decode (xbc 34) 12 = .ok (.invokevirtual 27, 3) := by decide +kernel
theorem d34_15 : decode (xbc 34) 15 = .ok (.aload_n 2, 1) := by decide +kernel
theorem d34_16 : decode (xbc 34) 16 = .ok (.aload_n 0, 1) := by decide +kernel
theorem d34_17 : decode (xbc 34) 17 = .ok (.getfield 19, 3) := by decide +kernel
theorem d34_20 : decode (xbc 34) 20 = .ok (.invokevirtual 31, 3) := by decide +kernel
theorem d34_23 : decode (xbc 34) 23 = .ok (.aload_n 0, 1) := by decide +kernel
theorem d34_24 : decode (xbc 34) 24 = .ok (.getfield 23, 3) := by decide +kernel
theorem d34_27 : decode (xbc 34) 27 = .ok (.ireturn, 1) := by decide +kernel
theorem d35_0 : decode (xbc 35) 0 = .ok (.aload_n 0, 1) := by decide +kernel
theorem d35_1 : decode (xbc 35) 1 = .ok (.invokespecial 3, 3) := by decide +kernel
theorem d35_4 : decode (xbc 35) 4 = .ok (.aload_n 0, 1) := by decide +kernel
theorem d35_5 : decode (xbc 35) 5 = .ok (.bipush 60, 2) := by decide +kernel
theorem d35_7 : decode (xbc 35) 7 = .ok (.newarray .int, 2) := by decide +kernel
theorem d35_9 : decode (xbc 35) 9 = .ok (.putfield 11, 3) := by decide +kernel
theorem d35_12 : decode (xbc 35) 12 = .ok (.aload_n 0, 1) := by decide +kernel
theorem d35_13 : decode (xbc 35) 13 = .ok (.iconst 0, 1) := by decide +kernel
theorem d35_14 : decode (xbc 35) 14 = .ok (.putfield 15, 3) := by decide +kernel
theorem d35_17 : decode (xbc 35) 17 = .ok (.return_, 1) := by decide +kernel
theorem d36_0 : decode (xbc 36) 0 = .ok (.aload_n 0, 1) := by decide +kernel
theorem d36_1 : decode (xbc 36) 1 = .ok (.getfield 15, 3) := by decide +kernel
theorem d36_4 : decode (xbc 36) 4 = .ok (.ifCond .lt 12, 3) := by decide +kernel
theorem d36_7 : decode (xbc 36) 7 = .ok (.aload_n 0, 1) := by decide +kernel
theorem d36_8 : decode (xbc 36) 8 = .ok (.getfield 15, 3) := by decide +kernel
theorem d36_11 : decode (xbc 36) 11 = .ok (.bipush 60, 2) := by decide +kernel
theorem d36_13 : decode (xbc 36) 13 = .ok (.if_icmp .lt 5, 3) := by decide +kernel
theorem d36_16 : decode (xbc 36) 16 = .ok (.iconst 0, 1) := by decide +kernel
theorem d36_17 : decode (xbc 36) 17 = .ok (.ireturn, 1) := by decide +kernel
theorem d36_18 : decode (xbc 36) 18 = .ok (.aload_n 0, 1) := by decide +kernel
theorem d36_19 : decode (xbc 36) 19 = .ok (.getfield 11, 3) := by decide +kernel
theorem d36_22 : decode (xbc 36) 22 = .ok (.aload_n 0, 1) := by decide +kernel
theorem d36_23 : decode (xbc 36) 23 = .ok (.getfield 15, 3) := by decide +kernel
theorem d36_26 : decode (xbc 36) 26 = .ok (.iload_n 1, 1) := by decide +kernel
theorem d36_27 : decode (xbc 36) 27 = .ok (.iastore, 1) := by decide +kernel
theorem d36_28 : decode (xbc 36) 28 = .ok (.aload_n 0, 1) := by decide +kernel
theorem d36_29 : decode (xbc 36) 29 = .ok (.dup, 1) := by decide +kernel
theorem d36_30 : decode (xbc 36) 30 = .ok (.getfield 15, 3) := by decide +kernel
theorem d36_33 : decode (xbc 36) 33 = .ok (.iconst 1, 1) := by decide +kernel
theorem d36_34 : decode (xbc 36) 34 = .ok (.iadd, 1) := by decide +kernel
theorem d36_35 : decode (xbc 36) 35 = .ok (.putfield 15, 3) := by decide +kernel
theorem d36_38 : decode (xbc 36) 38 = .ok (.iconst 1, 1) := by decide +kernel
theorem d36_39 : decode (xbc 36) 39 = .ok (.ireturn, 1) := by decide +kernel
theorem d37_0 : decode (xbc 37) 0 = .ok (.aload_n 0, 1) := by decide +kernel
theorem d37_1 : decode (xbc 37) 1 = .ok (.getfield 15, 3) := by decide +kernel
theorem d37_4 : decode (xbc 37) 4 = .ok (.ireturn, 1) := by decide +kernel
theorem d38_0 : decode (xbc 38) 0 = .ok (.aload_n 0, 1) := by decide +kernel
theorem d38_1 : decode (xbc 38) 1 = .ok (.iconst 0, 1) := by decide +kernel
theorem d38_2 : decode (xbc 38) 2 = .ok (.putfield 15, 3) := by decide +kernel
theorem d38_5 : decode (xbc 38) 5 = .ok (.return_, 1) := by decide +kernel
theorem d39_0 : decode (xbc 39) 0 = .ok (.iconst 0, 1) := by decide +kernel
theorem d39_1 : decode (xbc 39) 1 = .ok (.istore_n 1, 1) := by decide +kernel
theorem d39_2 : decode (xbc 39) 2 = .ok (.iconst 0, 1) := by decide +kernel
theorem d39_3 : decode (xbc 39) 3 = .ok (.istore_n 2, 1) := by decide +kernel
theorem d39_4 : decode (xbc 39) 4 = .ok (.iload_n 2, 1) := by decide +kernel
theorem d39_5 : decode (xbc 39) 5 = .ok (.bipush 60, 2) := by decide +kernel
theorem d39_7 : decode (xbc 39) 7 = .ok (.if_icmp .ge 39, 3) := by decide +kernel
theorem d39_10 : decode (xbc 39) 10 = .ok (.iload_n 1, 1) := by decide +kernel
theorem d39_11 : decode (xbc 39) 11 = .ok (.aload_n 0, 1) := by decide +kernel
theorem d39_12 : decode (xbc 39) 12 = .ok (.getfield 15, 3) := by decide +kernel
theorem d39_15 : decode (xbc 39) 15 = .ok (.if_icmp .ge 31, 3) := by decide +kernel
theorem d39_18 : decode (xbc 39) 18 = .ok (.aload_n 0, 1) := by decide +kernel
theorem d39_19 : decode (xbc 39) 19 = .ok (.iload_n 1, 1) := by decide +kernel
theorem d39_20 : decode (xbc 39) 20 = .ok (.invokevirtual 27, 3) := by decide +kernel
theorem d39_23 : decode (xbc 39) 23 = .ok (.istore_n 3, 1) := by decide +kernel
theorem d39_24 : decode (xbc 39) 24 = .ok (.iload_n 3, 1) := by decide +kernel
theorem d39_25 : decode (xbc 39) 25 = .ok (.bipush (-6), 2) := by decide +kernel
theorem d39_27 : decode (xbc 39) 27 = .ok (.if_icmp .eq 5, 3) := by decide +kernel
theorem d39_30 : decode (xbc 39) 30 = .ok (.iload_n 3, 1) := by decide +kernel
theorem d39_31 : decode (xbc 39) 31 = .ok (.ireturn, 1) := by decide +kernel
theorem d39_32 : decode (xbc 39) 32 = .ok (.iload_n 1, 1) := by decide +kernel
theorem d39_33 : decode (xbc 39) 33 = .ok (.aload_n 0, 1) := by decide +kernel
theorem d39_34 : decode (xbc 39) 34 = .ok (.iload_n 1, 1) := by decide +kernel
theorem d39_35 : decode (xbc 39) 35 = .ok (.invokevirtual 30, 3) := by decide +kernel
theorem d39_38 : decode (xbc 39) 38 = .ok (.iadd, 1) := by decide +kernel
theorem d39_39 : decode (xbc 39) 39 = .ok (.istore_n 1, 1) := by decide +kernel
theorem d39_40 : decode (xbc 39) 40 = .ok (.iinc 2 1, 3) := by decide +kernel
theorem d39_43 : decode (xbc 39) 43 = .ok (.goto (-39), 3) := by decide +kernel
theorem d39_46 : decode (xbc 39) 46 = .ok (.bipush (-6), 2) := by decide +kernel
theorem d39_48 : decode (xbc 39) 48 = .ok (.ireturn, 1) := by decide +kernel
theorem d40_0 : decode (xbc 40) 0 = .ok (.aload_n 0, 1) := by decide +kernel
theorem d40_1 : decode (xbc 40) 1 = .ok (.iload_n 1, 1) := by decide +kernel
theorem d40_2 : decode (xbc 40) 2 = .ok (.invokevirtual 19, 3) := by decide +kernel
theorem d40_5 : decode (xbc 40) 5 = .ok (.bipush 46, 2) := by decide +kernel
theorem d40_7 : decode (xbc 40) 7 = .ok (.if_icmp .ne 6, 3) := by decide +kernel
theorem d40_10 : decode (xbc 40) 10 = .ok (.bipush (-6), 2) := by decide +kernel
theorem d40_12 : decode (xbc 40) 12 = .ok (.ireturn, 1) := by decide +kernel
theorem d40_13 : decode (xbc 40) 13 = .ok (.aload_n 0, 1) := by decide +kernel
theorem d40_14 : decode (xbc 40) 14 = .ok (.iload_n 1, 1) := by decide +kernel
theorem d40_15 : decode (xbc 40) 15 = .ok (.invokevirtual 33, 3) := by decide +kernel
theorem d40_18 : decode (xbc 40) 18 = .ok (.ifCond .ne 5, 3) := by decide +kernel
theorem d40_21 : decode (xbc 40) 21 = .ok (.iload_n 1, 1) := by decide +kernel
theorem d40_22 : decode (xbc 40) 22 = .ok (.ireturn, 1) := by decide +kernel
theorem d40_23 : decode (xbc 40) 23 = .ok (.aload_n 0, 1) := by decide +kernel
theorem d40_24 : decode (xbc 40) 24 = .ok (.iload_n 1, 1) := by decide +kernel
theorem d40_25 : decode (xbc 40) 25 = .ok (.iconst 1, 1) := by decide +kernel
theorem d40_26 : decode (xbc 40) 26 = .ok (.iadd, 1) := by decide +kernel
theorem d40_27 : decode (xbc 40) 27 = .ok (.invokevirtual 19, 3) := by decide +kernel
theorem d40_30 : decode (xbc 40) 30 = .ok (.tableswitch 88 33 45 #[66, 88, 66, 88, 69, 88, 88, 88, 88, 88, 66, 88, 66], 66) := by decide +kernel
theorem d40_96 : decode (xbc 40) 96 = .ok (.bipush (-6), 2) := by decide +kernel
theorem d40_98 : decode (xbc 40) 98 = .ok (.ireturn, 1) := by decide +kernel
theorem d40_99 : decode (xbc 40) 99 = .ok (.aload_n 0, 1) := by decide +kernel
theorem d40_100 : decode (xbc 40) 100 = .ok (.iload_n 1, 1) := by decide +kernel
theorem d40_101 : decode (xbc 40) 101 = .ok (.iconst 2, 1) := by decide +kernel
theorem d40_102 : decode (xbc 40) 102 = .ok (.iadd, 1) := by decide +kernel
theorem d40_103 : decode (xbc 40) 103 = .ok (.invokevirtual 33, 3) := by decide +kernel
theorem d40_106 : decode (xbc 40) 106 = .ok (.ifCond .eq 8, 3) := by decide +kernel
theorem d40_109 : decode (xbc 40) 109 = .ok (.bipush (-6), 2) := by decide +kernel
theorem d40_111 : decode (xbc 40) 111 = .ok (.goto 6, 3) := by decide +kernel
theorem d40_114 : decode (xbc 40) 114 = .ok (.iload_n 1, 1) := by decide +kernel
theorem d40_115 : decode (xbc 40) 115 = .ok (.iconst 2, 1) := by decide +kernel
theorem d40_116 : decode (xbc 40) 116 = .ok (.iadd, 1) := by decide +kernel
theorem d40_117 : decode (xbc 40) 117 = .ok (.ireturn, 1) := by decide +kernel
theorem d40_118 : decode (xbc 40) 118 = .ok (.iload_n 1, 1) := by decide +kernel
theorem d40_119 : decode (xbc 40) 119 = .ok (.iconst 1, 1) := by decide +kernel
theorem d40_120 : decode (xbc 40) 120 = .ok (.iadd, 1) := by decide +kernel
theorem d40_121 : decode (xbc 40) 121 = .ok (.ireturn, 1) := by decide +kernel
theorem d41_0 : decode (xbc 41) 0 = .ok (.iload_n 1, 1) := by decide +kernel
theorem d41_1 : decode (xbc 41) 1 = .ok (.ifCond .lt 26, 3) := by decide +kernel
theorem d41_4 : decode (xbc 41) 4 = .ok (.iload_n 1, 1) := by decide +kernel
theorem d41_5 : decode (xbc 41) 5 = .ok (.aload_n 0, 1) := by decide +kernel
theorem d41_6 : decode (xbc 41) 6 = .ok (.getfield 15, 3) := by decide +kernel
theorem d41_9 : decode (xbc 41) 9 = .ok (.if_icmp .ge 18, 3) := by decide +kernel
theorem d41_12 : decode (xbc 41) 12 = .ok (.iload_n 1, 1) := by decide +kernel
theorem d41_13 : decode (xbc 41) 13 = .ok (.bipush 60, 2) := by decide +kernel
theorem d41_15 : decode (xbc 41) 15 = .ok (.if_icmp .ge 12, 3) := by decide +kernel
theorem d41_18 : decode (xbc 41) 18 = .ok (.aload_n 0, 1) := by decide +kernel
theorem d41_19 : decode (xbc 41) 19 = .ok (.getfield 11, 3) := by decide +kernel
theorem d41_22 : decode (xbc 41) 22 = .ok (.iload_n 1, 1) := by decide +kernel
theorem d41_23 : decode (xbc 41) 23 = .ok (.iaload, 1) := by decide +kernel
theorem d41_24 : decode (xbc 41) 24 = .ok (.goto 5, 3) := by decide +kernel
theorem d41_27 : decode (xbc 41) 27 = .ok (.bipush (-6), 2) := by decide +kernel
theorem d41_29 : decode (xbc 41) 29 = .ok (.ireturn, 1) := by decide +kernel
theorem d42_0 : decode (xbc 42) 0 = .ok (.aload_n 0, 1) := by decide +kernel
theorem d42_1 : decode (xbc 42) 1 = .ok (.iload_n 1, 1) := by decide +kernel
theorem d42_2 : decode (xbc 42) 2 = .ok (.invokevirtual 19, 3) := by decide +kernel
theorem d42_5 : decode (xbc 42) 5 = .ok (.bipush 97, 2) := by decide +kernel
theorem d42_7 : decode (xbc 42) 7 = .ok (.isub, 1) := by decide +kernel
theorem d42_8 : decode (xbc 42) 8 = .ok (.invokestatic 23, 3) := by decide +kernel
theorem d42_11 : decode (xbc 42) 11 = .ok (.ireturn, 1) := by decide +kernel
theorem d43_0 : decode (xbc 43) 0 = .ok (.aload_n 0, 1) := by decide +kernel
theorem d43_1 : decode (xbc 43) 1 = .ok (.iload_n 1, 1) := by decide +kernel
theorem d43_2 : decode (xbc 43) 2 = .ok (.invokevirtual 36, 3) := by decide +kernel
theorem d43_5 : decode (xbc 43) 5 = .ok (.lookupswitch 31 #[(37, 29), (46, 27)], 27) := by decide +kernel
theorem d43_32 : decode (xbc 43) 32 = .ok (.iconst 1, 1) := by decide +kernel
theorem d43_33 : decode (xbc 43) 33 = .ok (.ireturn, 1) := by decide +kernel
theorem d43_34 : decode (xbc 43) 34 = .ok (.iconst 3, 1) := by decide +kernel
theorem d43_35 : decode (xbc 43) 35 = .ok (.ireturn, 1) := by decide +kernel
theorem d43_36 : decode (xbc 43) 36 = .ok (.iconst 2, 1) := by decide +kernel
theorem d43_37 : decode (xbc 43) 37 = .ok (.ireturn, 1) := by decide +kernel
theorem d44_0 : decode (xbc 44) 0 = .ok (.aload_n 0, 1) := by decide +kernel
theorem d44_1 : decode (xbc 44) 1 = .ok (.iload_n 1, 1) := by decide +kernel
theorem d44_2 : decode (xbc 44) 2 = .ok (.invokevirtual 19, 3) := by decide +kernel
theorem d44_5 : decode (xbc 44) 5 = .ok (.bipush 46, 2) := by decide +kernel
theorem d44_7 : decode (xbc 44) 7 = .ok (.if_icmp .ne 8, 3) := by decide +kernel
theorem d44_10 : decode (xbc 44) 10 = .ok (.bipush 46, 2) := by decide +kernel
theorem d44_12 : decode (xbc 44) 12 = .ok (.goto 10, 3) := by decide +kernel
theorem d44_15 : decode (xbc 44) 15 = .ok (.aload_n 0, 1) := by decide +kernel
theorem d44_16 : decode (xbc 44) 16 = .ok (.iload_n 1, 1) := by decide +kernel
theorem d44_17 : decode (xbc 44) 17 = .ok (.iconst 1, 1) := by decide +kernel
theorem d44_18 : decode (xbc 44) 18 = .ok (.iadd, 1) := by decide +kernel
theorem d44_19 : decode (xbc 44) 19 = .ok (.invokevirtual 19, 3) := by decide +kernel
theorem d44_22 : decode (xbc 44) 22 = .ok (.ireturn, 1) := by decide +kernel
theorem d45_0 : decode (xbc 45) 0 = .ok (.aload_n 0, 1) := by decide +kernel
theorem d45_1 : decode (xbc 45) 1 = .ok (.iload_n 1, 1) := by decide +kernel
theorem d45_2 : decode (xbc 45) 2 = .ok (.invokevirtual 19, 3) := by decide +kernel
theorem d45_5 : decode (xbc 45) 5 = .ok (.bipush 97, 2) := by decide +kernel
theorem d45_7 : decode (xbc 45) 7 = .ok (.isub, 1) := by decide +kernel
theorem d45_8 : decode (xbc 45) 8 = .ok (.ireturn, 1) := by decide +kernel
theorem d46_0 : decode (xbc 46) 0 = .ok (.aload_n 0, 1) := by decide +kernel
theorem d46_1 : decode (xbc 46) 1 = .ok (.iload_n 1, 1) := by decide +kernel
theorem d46_2 : decode (xbc 46) 2 = .ok (.iconst 2, 1) := by decide +kernel
theorem d46_3 : decode (xbc 46) 3 = .ok (.iadd, 1) := by decide +kernel
theorem d46_4 : decode (xbc 46) 4 = .ok (.invokevirtual 19, 3) := by decide +kernel
theorem d46_7 : decode (xbc 46) 7 = .ok (.bipush 97, 2) := by decide +kernel
theorem d46_9 : decode (xbc 46) 9 = .ok (.isub, 1) := by decide +kernel
theorem d46_10 : decode (xbc 46) 10 = .ok (.ireturn, 1) := by decide +kernel
theorem d47_0 : decode (xbc 47) 0 = .ok (.aload_n 0, 1) := by decide +kernel
theorem d47_1 : decode (xbc 47) 1 = .ok (.invokespecial 3, 3) := by decide +kernel
theorem d47_4 : decode (xbc 47) 4 = .ok (.aload_n 0, 1) := by decide +kernel
theorem d47_5 : decode (xbc 47) 5 = .ok (.bipush 32, 2) := by decide +kernel
theorem d47_7 : decode (xbc 47) 7 = .ok (.newarray .int, 2) := by decide +kernel
theorem d47_9 : decode (xbc 47) 9 = .ok (.putfield 11, 3) := by decide +kernel
theorem d47_12 : decode (xbc 47) 12 = .ok (.aload_n 0, 1) := by decide +kernel
theorem d47_13 : decode (xbc 47) 13 = .ok (.bipush 32, 2) := by decide +kernel
theorem d47_15 : decode (xbc 47) 15 = .ok (.newarray .int, 2) := by decide +kernel
theorem d47_17 : decode (xbc 47) 17 = .ok (.putfield 15, 3) := by decide +kernel
theorem d47_20 : decode (xbc 47) 20 = .ok (.aload_n 0, 1) := by decide +kernel
theorem d47_21 : decode (xbc 47) 21 = .ok (.bipush 32, 2) := by decide +kernel
theorem d47_23 : decode (xbc 47) 23 = .ok (.newarray .int, 2) := by decide +kernel
theorem d47_25 : decode (xbc 47) 25 = .ok (.putfield 18, 3) := by decide +kernel
theorem d47_28 : decode (xbc 47) 28 = .ok (.aload_n 0, 1) := by decide +kernel
theorem d47_29 : decode (xbc 47) 29 = .ok (.bipush 32, 2) := by decide +kernel
theorem d47_31 : decode (xbc 47) 31 = .ok (.newarray .int, 2) := by decide +kernel
theorem d47_33 : decode (xbc 47) 33 = .ok (.putfield 21, 3) := by decide +kernel
theorem d47_36 : decode (xbc 47) 36 = .ok (.aload_n 0, 1) := by decide +kernel
theorem d47_37 : decode (xbc 47) 37 = .ok (.bipush 8, 2) := by decide +kernel
theorem d47_39 : decode (xbc 47) 39 = .ok (.newarray .int, 2) := by decide +kernel
theorem d47_41 : decode (xbc 47) 41 = .ok (.putfield 24, 3) := by decide +kernel
theorem d47_44 : decode (xbc 47) 44 = .ok (.aload_n 0, 1) := by decide +kernel
theorem d47_45 : decode (xbc 47) 45 = .ok (.iconst 0, 1) := by decide +kernel
theorem d47_46 : decode (xbc 47) 46 = .ok (.putfield 27, 3) := by decide +kernel
theorem d47_49 : decode (xbc 47) 49 = .ok (.aload_n 0, 1) := by decide +kernel
theorem d47_50 : decode (xbc 47) 50 = .ok (.iconst 0, 1) := by decide +kernel
theorem d47_51 : decode (xbc 47) 51 = .ok (.putfield 31, 3) := by decide +kernel
theorem d47_54 : decode (xbc 47) 54 = .ok (.return_, 1) := by decide +kernel
theorem d48_0 : decode (xbc 48) 0 = .ok (.aload_n 0, 1) := by decide +kernel
theorem d48_1 : decode (xbc 48) 1 = .ok (.getfield 24, 3) := by decide +kernel
theorem d48_4 : decode (xbc 48) 4 = .ok (.iconst 0, 1) := by decide +kernel
theorem d48_5 : decode (xbc 48) 5 = .ok (.invokestatic 40, 3) := by decide +kernel
theorem d48_8 : decode (xbc 48) 8 = .ok (.aload_n 0, 1) := by decide +kernel
theorem d48_9 : decode (xbc 48) 9 = .ok (.iconst 0, 1) := by decide +kernel
theorem d48_10 : decode (xbc 48) 10 = .ok (.putfield 27, 3) := by decide +kernel
theorem d48_13 : decode (xbc 48) 13 = .ok (.aload_n 0, 1) := by decide +kernel
theorem d48_14 : decode (xbc 48) 14 = .ok (.iconst 0, 1) := by decide +kernel
theorem d48_15 : decode (xbc 48) 15 = .ok (.putfield 31, 3) := by decide +kernel
theorem d48_18 : decode (xbc 48) 18 = .ok (.return_, 1) := by decide +kernel
theorem d49_0 : decode (xbc 49) 0 = .ok (.iload_n 1, 1) := by decide +kernel
theorem d49_1 : decode (xbc 49) 1 = .ok (.invokestatic 46, 3) := by decide +kernel
theorem d49_4 : decode (xbc 49) 4 = .ok (.ifCond .eq 10, 3) := by decide +kernel
theorem d49_7 : decode (xbc 49) 7 = .ok (.aload_n 0, 1) := by decide +kernel
theorem d49_8 : decode (xbc 49) 8 = .ok (.getfield 24, 3) := by decide +kernel
theorem d49_11 : decode (xbc 49) 11 = .ok (.iload_n 1, 1) := by decide +kernel
theorem d49_12 : decode (xbc 49) 12 = .ok (.iconst 0, 1) := by decide +kernel
theorem d49_13 : decode (xbc 49) 13 = .ok (.iastore, 1) := by decide +kernel
theorem d49_14 : decode (xbc 49) 14 = .ok (.return_, 1) := by decide +kernel
theorem d50_0 : decode (xbc 50) 0 = .ok (.aload_n 0, 1) := by decide +kernel
theorem d50_1 : decode (xbc 50) 1 = .ok (.getfield 27, 3) := by decide +kernel
theorem d50_4 : decode (xbc 50) 4 = .ok (.ifCond .lt 19, 3) := by decide +kernel
theorem d50_7 : decode (xbc 50) 7 = .ok (.aload_n 0, 1) := by decide +kernel
theorem d50_8 : decode (xbc 50) 8 = .ok (.getfield 27, 3) := by decide +kernel
theorem d50_11 : decode (xbc 50) 11 = .ok (.bipush 32, 2) := by decide +kernel
theorem d50_13 : decode (xbc 50) 13 = .ok (.if_icmp .ge 10, 3) := by decide +kernel
theorem d50_16 : decode (xbc 50) 16 = .ok (.iload_n 1, 1) := by decide +kernel
theorem d50_17 : decode (xbc 50) 17 = .ok (.invokestatic 46, 3) := by decide +kernel
theorem d50_20 : decode (xbc 50) 20 = .ok (.ifCond .ne 4, 3) := by decide +kernel
theorem d50_23 : decode (xbc 50) 23 = .ok (.return_, 1) := by decide +kernel
theorem d50_24 : decode (xbc 50) 24 = .ok (.aload_n 0, 1) := by decide +kernel
theorem d50_25 : decode (xbc 50) 25 = .ok (.dup, 1) := by decide +kernel
theorem d50_26 : decode (xbc 50) 26 = .ok (.getfield 31, 3) := by decide +kernel
theorem d50_29 : decode (xbc 50) 29 = .ok (.iconst 1, 1) := by decide +kernel
theorem d50_30 : decode (xbc 50) 30 = .ok (.iadd, 1) := by decide +kernel
theorem d50_31 : decode (xbc 50) 31 = .ok (.putfield 31, 3) := by decide +kernel
theorem d50_34 : decode (xbc 50) 34 = .ok (.aload_n 0, 1) := by decide +kernel
theorem d50_35 : decode (xbc 50) 35 = .ok (.getfield 11, 3) := by decide +kernel
theorem d50_38 : decode (xbc 50) 38 = .ok (.aload_n 0, 1) := by decide +kernel
theorem d50_39 : decode (xbc 50) 39 = .ok (.getfield 27, 3) := by decide +kernel
theorem d50_42 : decode (xbc 50) 42 = .ok (.iload_n 1, 1) := by decide +kernel
theorem d50_43 : decode (xbc 50) 43 = .ok (.iastore, 1) := by decide +kernel
theorem d50_44 : decode (xbc 50) 44 = .ok (.aload_n 0, 1) := by decide +kernel
theorem d50_45 : decode (xbc 50) 45 = .ok (.getfield 15, 3) := by decide +kernel
theorem d50_48 : decode (xbc 50) 48 = .ok (.aload_n 0, 1) := by decide +kernel
theorem d50_49 : decode (xbc 50) 49 = .ok (.getfield 27, 3) := by decide +kernel
theorem d50_52 : decode (xbc 50) 52 = .ok (.iload_n 2, 1) := by decide +kernel
theorem d50_53 : decode (xbc 50) 53 = .ok (.iastore, 1) := by decide +kernel
theorem d50_54 : decode (xbc 50) 54 = .ok (.aload_n 0, 1) := by decide +kernel
theorem d50_55 : decode (xbc 50) 55 = .ok (.getfield 18, 3) := by decide +kernel
theorem d50_58 : decode (xbc 50) 58 = .ok (.aload_n 0, 1) := by decide +kernel
theorem d50_59 : decode (xbc 50) 59 = .ok (.getfield 27, 3) := by decide +kernel
theorem d50_62 : decode (xbc 50) 62 = .ok (.iload_n 3, 1) := by decide +kernel
theorem d50_63 : decode (xbc 50) 63 = .ok (.iastore, 1) := by decide +kernel
theorem d50_64 : decode (xbc 50) 64 = .ok (.aload_n 0, 1) := by decide +kernel
theorem d50_65 : decode (xbc 50) 65 = .ok (.getfield 21, 3) := by decide +kernel
theorem d50_68 : decode (xbc 50) 68 = .ok (.aload_n 0, 1) := by decide +kernel
theorem d50_69 : decode (xbc 50) 69 = .ok (.getfield 27, 3) := by decide +kernel
theorem d50_72 : decode (xbc 50) 72 = .ok (.aload_n 0, 1) := by decide +kernel
theorem d50_73 : decode (xbc 50) 73 = .ok (.getfield 31, 3) := by decide +kernel
theorem d50_76 : decode (xbc 50) 76 = .ok (.iastore, 1) := by decide +kernel
theorem d50_77 : decode (xbc 50) 77 = .ok (.aload_n 0, 1) := by decide +kernel
theorem d50_78 : decode (xbc 50) 78 = .ok (.getfield 24, 3) := by decide +kernel
theorem d50_81 : decode (xbc 50) 81 = .ok (.iload_n 1, 1) := by decide +kernel
theorem d50_82 : decode (xbc 50) 82 = .ok (.aload_n 0, 1) := by decide +kernel
theorem d50_83 : decode (xbc 50) 83 = .ok (.getfield 31, 3) := by decide +kernel
theorem d50_86 : decode (xbc 50) 86 = .ok (.iastore, 1) := by decide +kernel
theorem d50_87 : decode (xbc 50) 87 = .ok (.aload_n 0, 1) := by decide +kernel
theorem d50_88 : decode (xbc 50) 88 = .ok (.dup, 1) := by decide +kernel
theorem d50_89 : decode (xbc 50) 89 = .ok (.getfield 27, 3) := by decide +kernel
theorem d50_92 : decode (xbc 50) 92 = .ok (.iconst 1, 1) := by decide +kernel
theorem d50_93 : decode (xbc 50) 93 = .ok (.iadd, 1) := by decide +kernel
theorem d50_94 : decode (xbc 50) 94 = .ok (.putfield 27, 3) := by decide +kernel
theorem d50_97 : decode (xbc 50) 97 = .ok (.return_, 1) := by decide +kernel
theorem d51_0 : decode (xbc 51) 0 = .ok (.aload_n 1, 1) := by decide +kernel
theorem d51_1 : decode (xbc 51) 1 = .ok (.getfield 11, 3) := by decide +kernel
theorem d51_4 : decode (xbc 51) 4 = .ok (.iconst 0, 1) := by decide +kernel
theorem d51_5 : decode (xbc 51) 5 = .ok (.aload_n 0, 1) := by decide +kernel
theorem d51_6 : decode (xbc 51) 6 = .ok (.getfield 11, 3) := by decide +kernel
theorem d51_9 : decode (xbc 51) 9 = .ok (.iconst 0, 1) := by decide +kernel
theorem d51_10 : decode (xbc 51) 10 = .ok (.bipush 32, 2) := by decide +kernel
theorem d51_12 : decode (xbc 51) 12 = .ok (.invokestatic 34, 3) := by decide +kernel
theorem d51_15 : decode (xbc 51) 15 = .ok (.aload_n 1, 1) := by decide +kernel
theorem d51_16 : decode (xbc 51) 16 = .ok (.getfield 15, 3) := by decide +kernel
theorem d51_19 : decode (xbc 51) 19 = .ok (.iconst 0, 1) := by decide +kernel
theorem d51_20 : decode (xbc 51) 20 = .ok (.aload_n 0, 1) := by decide +kernel
theorem d51_21 : decode (xbc 51) 21 = .ok (.getfield 15, 3) := by decide +kernel
theorem d51_24 : decode (xbc 51) 24 = .ok (.iconst 0, 1) := by decide +kernel
theorem d51_25 : decode (xbc 51) 25 = .ok (.bipush 32, 2) := by decide +kernel
theorem d51_27 : decode (xbc 51) 27 = .ok (.invokestatic 34, 3) := by decide +kernel
theorem d51_30 : decode (xbc 51) 30 = .ok (.aload_n 1, 1) := by decide +kernel
theorem d51_31 : decode (xbc 51) 31 = .ok (.getfield 18, 3) := by decide +kernel
theorem d51_34 : decode (xbc 51) 34 = .ok (.iconst 0, 1) := by decide +kernel
theorem d51_35 : decode (xbc 51) 35 = .ok (.aload_n 0, 1) := by decide +kernel
theorem d51_36 : decode (xbc 51) 36 = .ok (.getfield 18, 3) := by decide +kernel
theorem d51_39 : decode (xbc 51) 39 = .ok (.iconst 0, 1) := by decide +kernel
theorem d51_40 : decode (xbc 51) 40 = .ok (.bipush 32, 2) := by decide +kernel
theorem d51_42 : decode (xbc 51) 42 = .ok (.invokestatic 34, 3) := by decide +kernel
theorem d51_45 : decode (xbc 51) 45 = .ok (.aload_n 1, 1) := by decide +kernel
theorem d51_46 : decode (xbc 51) 46 = .ok (.getfield 21, 3) := by decide +kernel
theorem d51_49 : decode (xbc 51) 49 = .ok (.iconst 0, 1) := by decide +kernel
theorem d51_50 : decode (xbc 51) 50 = .ok (.aload_n 0, 1) := by decide +kernel
theorem d51_51 : decode (xbc 51) 51 = .ok (.getfield 21, 3) := by decide +kernel
theorem d51_54 : decode (xbc 51) 54 = .ok (.iconst 0, 1) := by decide +kernel
theorem d51_55 : decode (xbc 51) 55 = .ok (.bipush 32, 2) := by decide +kernel
theorem d51_57 : decode (xbc 51) 57 = .ok (.invokestatic 34, 3) := by decide +kernel
theorem d51_60 : decode (xbc 51) 60 = .ok (.aload_n 1, 1) := by decide +kernel
theorem d51_61 : decode (xbc 51) 61 = .ok (.getfield 24, 3) := by decide +kernel
theorem d51_64 : decode (xbc 51) 64 = .ok (.iconst 0, 1) := by decide +kernel
theorem d51_65 : decode (xbc 51) 65 = .ok (.aload_n 0, 1) := by decide +kernel
theorem d51_66 : decode (xbc 51) 66 = .ok (.getfield 24, 3) := by decide +kernel
theorem d51_69 : decode (xbc 51) 69 = .ok (.iconst 0, 1) := by decide +kernel
theorem d51_70 : decode (xbc 51) 70 = .ok (.bipush 8, 2) := by decide +kernel
theorem d51_72 : decode (xbc 51) 72 = .ok (.invokestatic 34, 3) := by decide +kernel
theorem d51_75 : decode (xbc 51) 75 = .ok (.aload_n 0, 1) := by decide +kernel
theorem d51_76 : decode (xbc 51) 76 = .ok (.aload_n 1, 1) := by decide +kernel
theorem d51_77 : decode (xbc 51) 77 = .ok (.getfield 27, 3) := by decide +kernel
theorem d51_80 : decode (xbc 51) 80 = .ok (.putfield 27, 3) := by decide +kernel
theorem d51_83 : decode (xbc 51) 83 = .ok (.aload_n 0, 1) := by decide +kernel
theorem d51_84 : decode (xbc 51) 84 = .ok (.aload_n 1, 1) := by decide +kernel
theorem d51_85 : decode (xbc 51) 85 = .ok (.getfield 31, 3) := by decide +kernel
theorem d51_88 : decode (xbc 51) 88 = .ok (.putfield 31, 3) := by decide +kernel
theorem d51_91 : decode (xbc 51) 91 = .ok (.return_, 1) := by decide +kernel
theorem d52_0 : decode (xbc 52) 0 = .ok (.bipush (-6), 2) := by decide +kernel
theorem d52_2 : decode (xbc 52) 2 = .ok (.istore_n 2, 1) := by decide +kernel
theorem d52_3 : decode (xbc 52) 3 = .ok (.iconst 0, 1) := by decide +kernel
theorem d52_4 : decode (xbc 52) 4 = .ok (.istore_n 3, 1) := by decide +kernel
theorem d52_5 : decode (xbc 52) 5 = .ok (.iload_n 3, 1) := by decide +kernel
theorem d52_6 : decode (xbc 52) 6 = .ok (.aload_n 0, 1) := by decide +kernel
theorem d52_7 : decode (xbc 52) 7 = .ok (.getfield 27, 3) := by decide +kernel
theorem d52_10 : decode (xbc 52) 10 = .ok (.if_icmp .ge 38, 3) := by decide +kernel
theorem d52_13 : decode (xbc 52) 13 = .ok (.iload_n 1, 1) := by decide +kernel
theorem d52_14 : decode (xbc 52) 14 = .ok (.ifCond .eq 11, 3) := by decide +kernel
theorem d52_17 : decode (xbc 52) 17 = .ok (.aload_n 0, 1) := by decide +kernel
theorem d52_18 : decode (xbc 52) 18 = .ok (.iload_n 3, 1) := by decide +kernel
theorem d52_19 : decode (xbc 52) 19 = .ok (.invokevirtual 57, 3) := by decide +kernel
theorem d52_22 : decode (xbc 52) 22 = .ok (.ifCond .eq 20, 3) := by decide +kernel
theorem d52_25 : decode (xbc 52) 25 = .ok (.iload_n 2, 1) := by decide +kernel
theorem d52_26 : decode (xbc 52) 26 = .ok (.bipush (-6), 2) := by decide +kernel
theorem d52_28 : decode (xbc 52) 28 = .ok (.if_icmp .eq 12, 3) := by decide +kernel
theorem d52_31 : decode (xbc 52) 31 = .ok (.aload_n 0, 1) := by decide +kernel
theorem d52_32 : decode (xbc 52) 32 = .ok (.iload_n 3, 1) := by decide +kernel
theorem d52_33 : decode (xbc 52) 33 = .ok (.iload_n 2, 1) := by decide +kernel
theorem d52_34 : decode (xbc 52) 34 = .ok (.invokevirtual 60, 3) := by decide +kernel
theorem d52_37 : decode (xbc 52) 37 = .ok (.ifCond .eq 5, 3) := by decide +kernel
theorem d52_40 : decode (xbc 52) 40 = .ok (.iload_n 3, 1) := by decide +kernel
theorem d52_41 : decode (xbc 52) 41 = .ok (.istore_n 2, 1) := by decide +kernel
theorem d52_42 : decode (xbc 52) 42 = .ok (.iinc 3 1, 3) := by decide +kernel
theorem d52_45 : decode (xbc 52) 45 = .ok (.goto (-40), 3) := by decide +kernel
theorem d52_48 : decode (xbc 52) 48 = .ok (.iload_n 2, 1) := by decide +kernel
theorem d52_49 : decode (xbc 52) 49 = .ok (.ireturn, 1) := by decide +kernel
theorem d53_0 : decode (xbc 53) 0 = .ok (.aload_n 0, 1) := by decide +kernel
theorem d53_1 : decode (xbc 53) 1 = .ok (.iload_n 1, 1) := by decide +kernel
theorem d53_2 : decode (xbc 53) 2 = .ok (.invokevirtual 53, 3) := by decide +kernel
theorem d53_5 : decode (xbc 53) 5 = .ok (.istore_n 2, 1) := by decide +kernel
theorem d53_6 : decode (xbc 53) 6 = .ok (.iload_n 2, 1) := by decide +kernel
theorem d53_7 : decode (xbc 53) 7 = .ok (.invokestatic 46, 3) := by decide +kernel
theorem d53_10 : decode (xbc 53) 10 = .ok (.ifCond .eq 22, 3) := by decide +kernel
theorem d53_13 : decode (xbc 53) 13 = .ok (.aload_n 0, 1) := by decide +kernel
theorem d53_14 : decode (xbc 53) 14 = .ok (.getfield 21, 3) := by decide +kernel
theorem d53_17 : decode (xbc 53) 17 = .ok (.iload_n 1, 1) := by decide +kernel
theorem d53_18 : decode (xbc 53) 18 = .ok (.iaload, 1) := by decide +kernel
theorem d53_19 : decode (xbc 53) 19 = .ok (.aload_n 0, 1) := by decide +kernel
theorem d53_20 : decode (xbc 53) 20 = .ok (.getfield 24, 3) := by decide +kernel
theorem d53_23 : decode (xbc 53) 23 = .ok (.iload_n 2, 1) := by decide +kernel
theorem d53_24 : decode (xbc 53) 24 = .ok (.iaload, 1) := by decide +kernel
theorem d53_25 : decode (xbc 53) 25 = .ok (.if_icmp .ne 7, 3) := by decide +kernel
theorem d53_28 : decode (xbc 53) 28 = .ok (.iconst 1, 1) := by decide +kernel
theorem d53_29 : decode (xbc 53) 29 = .ok (.goto 4, 3) := by decide +kernel
theorem d53_32 : decode (xbc 53) 32 = .ok (.iconst 0, 1) := by decide +kernel
theorem d53_33 : decode (xbc 53) 33 = .ok (.ireturn, 1) := by decide +kernel
theorem d54_0 : decode (xbc 54) 0 = .ok (.aload_n 0, 1) := by decide +kernel
theorem d54_1 : decode (xbc 54) 1 = .ok (.iload_n 1, 1) := by decide +kernel
theorem d54_2 : decode (xbc 54) 2 = .ok (.invokevirtual 50, 3) := by decide +kernel
theorem d54_5 : decode (xbc 54) 5 = .ok (.ifCond .eq 12, 3) := by decide +kernel
theorem d54_8 : decode (xbc 54) 8 = .ok (.aload_n 0, 1) := by decide +kernel
theorem d54_9 : decode (xbc 54) 9 = .ok (.getfield 11, 3) := by decide +kernel
theorem d54_12 : decode (xbc 54) 12 = .ok (.iload_n 1, 1) := by decide +kernel
theorem d54_13 : decode (xbc 54) 13 = .ok (.iaload, 1) := by decide +kernel
theorem d54_14 : decode (xbc 54) 14 = .ok (.goto 5, 3) := by decide +kernel
theorem d54_17 : decode (xbc 54) 17 = .ok (.bipush (-6), 2) := by decide +kernel
theorem d54_19 : decode (xbc 54) 19 = .ok (.ireturn, 1) := by decide +kernel
theorem d55_0 : decode (xbc 55) 0 = .ok (.iload_n 1, 1) := by decide +kernel
theorem d55_1 : decode (xbc 55) 1 = .ok (.ifCond .lt 21, 3) := by decide +kernel
theorem d55_4 : decode (xbc 55) 4 = .ok (.iload_n 1, 1) := by decide +kernel
theorem d55_5 : decode (xbc 55) 5 = .ok (.aload_n 0, 1) := by decide +kernel
theorem d55_6 : decode (xbc 55) 6 = .ok (.getfield 27, 3) := by decide +kernel
theorem d55_9 : decode (xbc 55) 9 = .ok (.if_icmp .ge 13, 3) := by decide +kernel
theorem d55_12 : decode (xbc 55) 12 = .ok (.iload_n 1, 1) := by decide +kernel
theorem d55_13 : decode (xbc 55) 13 = .ok (.bipush 32, 2) := by decide +kernel
theorem d55_15 : decode (xbc 55) 15 = .ok (.if_icmp .ge 7, 3) := by decide +kernel
theorem d55_18 : decode (xbc 55) 18 = .ok (.iconst 1, 1) := by decide +kernel
theorem d55_19 : decode (xbc 55) 19 = .ok (.goto 4, 3) := by decide +kernel
theorem d55_22 : decode (xbc 55) 22 = .ok (.iconst 0, 1) := by decide +kernel
theorem d55_23 : decode (xbc 55) 23 = .ok (.ireturn, 1) := by decide +kernel
theorem d56_0 : decode (xbc 56) 0 = .ok (.aload_n 0, 1) := by decide +kernel
theorem d56_1 : decode (xbc 56) 1 = .ok (.iload_n 1, 1) := by decide +kernel
theorem d56_2 : decode (xbc 56) 2 = .ok (.invokevirtual 64, 3) := by decide +kernel
theorem d56_5 : decode (xbc 56) 5 = .ok (.aload_n 0, 1) := by decide +kernel
theorem d56_6 : decode (xbc 56) 6 = .ok (.iload_n 2, 1) := by decide +kernel
theorem d56_7 : decode (xbc 56) 7 = .ok (.invokevirtual 67, 3) := by decide +kernel
theorem d56_10 : decode (xbc 56) 10 = .ok (.imul, 1) := by decide +kernel
theorem d56_11 : decode (xbc 56) 11 = .ok (.istore_n 3, 1) := by decide +kernel
theorem d56_12 : decode (xbc 56) 12 = .ok (.aload_n 0, 1) := by decide +kernel
theorem d56_13 : decode (xbc 56) 13 = .ok (.iload_n 2, 1) := by decide +kernel
theorem d56_14 : decode (xbc 56) 14 = .ok (.invokevirtual 64, 3) := by decide +kernel
theorem d56_17 : decode (xbc 56) 17 = .ok (.aload_n 0, 1) := by decide +kernel
theorem d56_18 : decode (xbc 56) 18 = .ok (.iload_n 1, 1) := by decide +kernel
theorem d56_19 : decode (xbc 56) 19 = .ok (.invokevirtual 67, 3) := by decide +kernel
theorem d56_22 : decode (xbc 56) 22 = .ok (.imul, 1) := by decide +kernel
theorem d56_23 : decode (xbc 56) 23 = .ok (.istore 4, 2) := by decide +kernel
theorem d56_25 : decode (xbc 56) 25 = .ok (.iload_n 3, 1) := by decide +kernel
theorem d56_26 : decode (xbc 56) 26 = .ok (.iload 4, 2) := by decide +kernel
theorem d56_28 : decode (xbc 56) 28 = .ok (.if_icmp .ne 24, 3) := by decide +kernel
theorem d56_31 : decode (xbc 56) 31 = .ok (.aload_n 0, 1) := by decide +kernel
theorem d56_32 : decode (xbc 56) 32 = .ok (.iload_n 1, 1) := by decide +kernel
theorem d56_33 : decode (xbc 56) 33 = .ok (.invokevirtual 53, 3) := by decide +kernel
theorem d56_36 : decode (xbc 56) 36 = .ok (.aload_n 0, 1) := by decide +kernel
theorem d56_37 : decode (xbc 56) 37 = .ok (.iload_n 2, 1) := by decide +kernel
theorem d56_38 : decode (xbc 56) 38 = .ok (.invokevirtual 53, 3) := by decide +kernel
theorem d56_41 : decode (xbc 56) 41 = .ok (.if_icmp .le 7, 3) := by decide +kernel
theorem d56_44 : decode (xbc 56) 44 = .ok (.iconst 1, 1) := by decide +kernel
theorem d56_45 : decode (xbc 56) 45 = .ok (.goto 18, 3) := by decide +kernel
theorem d56_48 : decode (xbc 56) 48 = .ok (.iconst 0, 1) := by decide +kernel
theorem d56_49 : decode (xbc 56) 49 = .ok (.goto 14, 3) := by decide +kernel
theorem d56_52 : decode (xbc 56) 52 = .ok (.iload_n 3, 1) := by decide +kernel
theorem d56_53 : decode (xbc 56) 53 = .ok (.iload 4, 2) := by decide +kernel
theorem d56_55 : decode (xbc 56) 55 = .ok (.if_icmp .ge 7, 3) := by decide +kernel
theorem d56_58 : decode (xbc 56) 58 = .ok (.iconst 1, 1) := by decide +kernel
theorem d56_59 : decode (xbc 56) 59 = .ok (.goto 4, 3) := by decide +kernel
theorem d56_62 : decode (xbc 56) 62 = .ok (.iconst 0, 1) := by decide +kernel
theorem d56_63 : decode (xbc 56) 63 = .ok (.ireturn, 1) := by decide +kernel
theorem d57_0 : decode (xbc 57) 0 = .ok (.aload_n 0, 1) := by decide +kernel
theorem d57_1 : decode (xbc 57) 1 = .ok (.iload_n 1, 1) := by decide +kernel
theorem d57_2 : decode (xbc 57) 2 = .ok (.invokevirtual 50, 3) := by decide +kernel
theorem d57_5 : decode (xbc 57) 5 = .ok (.ifCond .eq 12, 3) := by decide +kernel
theorem d57_8 : decode (xbc 57) 8 = .ok (.aload_n 0, 1) := by decide +kernel
theorem d57_9 : decode (xbc 57) 9 = .ok (.getfield 15, 3) := by decide +kernel
theorem d57_12 : decode (xbc 57) 12 = .ok (.iload_n 1, 1) := by decide +kernel
theorem d57_13 : decode (xbc 57) 13 = .ok (.iaload, 1) := by decide +kernel
theorem d57_14 : decode (xbc 57) 14 = .ok (.goto 4, 3) := by decide +kernel
theorem d57_17 : decode (xbc 57) 17 = .ok (.iconst 0, 1) := by decide +kernel
theorem d57_18 : decode (xbc 57) 18 = .ok (.ireturn, 1) := by decide +kernel
theorem d58_0 : decode (xbc 58) 0 = .ok (.aload_n 0, 1) := by decide +kernel
theorem d58_1 : decode (xbc 58) 1 = .ok (.iload_n 1, 1) := by decide +kernel
theorem d58_2 : decode (xbc 58) 2 = .ok (.invokevirtual 50, 3) := by decide +kernel
theorem d58_5 : decode (xbc 58) 5 = .ok (.ifCond .eq 12, 3) := by decide +kernel
theorem d58_8 : decode (xbc 58) 8 = .ok (.aload_n 0, 1) := by decide +kernel
theorem d58_9 : decode (xbc 58) 9 = .ok (.getfield 18, 3) := by decide +kernel
theorem d58_12 : decode (xbc 58) 12 = .ok (.iload_n 1, 1) := by decide +kernel
theorem d58_13 : decode (xbc 58) 13 = .ok (.iaload, 1) := by decide +kernel
theorem d58_14 : decode (xbc 58) 14 = .ok (.goto 4, 3) := by decide +kernel
theorem d58_17 : decode (xbc 58) 17 = .ok (.iconst 1, 1) := by decide +kernel
theorem d58_18 : decode (xbc 58) 18 = .ok (.ireturn, 1) := by decide +kernel
theorem d59_0 : decode (xbc 59) 0 = .ok (.aload_n 0, 1) := by decide +kernel
theorem d59_1 : decode (xbc 59) 1 = .ok (.iload_n 1, 1) := by decide +kernel
theorem d59_2 : decode (xbc 59) 2 = .ok (.invokevirtual 50, 3) := by decide +kernel
theorem d59_5 : decode (xbc 59) 5 = .ok (.ifCond .ne 4, 3) := by decide +kernel
theorem d59_8 : decode (xbc 59) 8 = .ok (.return_, 1) := by decide +kernel
theorem d59_9 : decode (xbc 59) 9 = .ok (.iload_n 1, 1) := by decide +kernel
theorem d59_10 : decode (xbc 59) 10 = .ok (.istore_n 2, 1) := by decide +kernel
theorem d59_11 : decode (xbc 59) 11 = .ok (.iload_n 2, 1) := by decide +kernel
theorem d59_12 : decode (xbc 59) 12 = .ok (.iconst 1, 1) := by decide +kernel
theorem d59_13 : decode (xbc 59) 13 = .ok (.iadd, 1) := by decide +kernel
theorem d59_14 : decode (xbc 59) 14 = .ok (.aload_n 0, 1) := by decide +kernel
theorem d59_15 : decode (xbc 59) 15 = .ok (.getfield 27, 3) := by decide +kernel
theorem d59_18 : decode (xbc 59) 18 = .ok (.if_icmp .ge 73, 3) := by decide +kernel
theorem d59_21 : decode (xbc 59) 21 = .ok (.iload_n 2, 1) := by decide +kernel
theorem d59_22 : decode (xbc 59) 22 = .ok (.iconst 1, 1) := by decide +kernel
theorem d59_23 : decode (xbc 59) 23 = .ok (.iadd, 1) := by decide +kernel
theorem d59_24 : decode (xbc 59) 24 = .ok (.bipush 32, 2) := by decide +kernel
theorem d59_26 : decode (xbc 59) 26 = .ok (.if_icmp .ge 65, 3) := by decide +kernel
theorem d59_29 : decode (xbc 59) 29 = .ok (.aload_n 0, 1) := by decide +kernel
theorem d59_30 : decode (xbc 59) 30 = .ok (.getfield 11, 3) := by decide +kernel
theorem d59_33 : decode (xbc 59) 33 = .ok (.iload_n 2, 1) := by decide +kernel
theorem d59_34 : decode (xbc 59) 34 = .ok (.aload_n 0, 1) := by decide +kernel
theorem d59_35 : decode (xbc 59) 35 = .ok (.getfield 11, 3) := by decide +kernel
theorem d59_38 : decode (xbc 59) 38 = .ok (.iload_n 2, 1) := by decide +kernel
theorem d59_39 : decode (xbc 59) 39 = .ok (.iconst 1, 1) := by decide +kernel
theorem d59_40 : decode (xbc 59) 40 = .ok (.iadd, 1) := by decide +kernel
theorem d59_41 : decode (xbc 59) 41 = .ok (.iaload, 1) := by decide +kernel
theorem d59_42 : decode (xbc 59) 42 = .ok (.iastore, 1) := by decide +kernel
theorem d59_43 : decode (xbc 59) 43 = .ok (.aload_n 0, 1) := by decide +kernel
theorem d59_44 : decode (xbc 59) 44 = .ok (.getfield 15, 3) := by decide +kernel
theorem d59_47 : decode (xbc 59) 47 = .ok (.iload_n 2, 1) := by decide +kernel
theorem d59_48 : decode (xbc 59) 48 = .ok (.aload_n 0, 1) := by decide +kernel
theorem d59_49 : decode (xbc 59) 49 = .ok (.getfield 15, 3) := by decide +kernel
theorem d59_52 : decode (xbc 59) 52 = .ok (.iload_n 2, 1) := by decide +kernel
theorem d59_53 : decode (xbc 59) 53 = .ok (.iconst 1, 1) := by decide +kernel
theorem d59_54 : decode (xbc 59) 54 = .ok (.iadd, 1) := by decide +kernel
theorem d59_55 : decode (xbc 59) 55 = .ok (.iaload, 1) := by decide +kernel
theorem d59_56 : decode (xbc 59) 56 = .ok (.iastore, 1) := by decide +kernel
theorem d59_57 : decode (xbc 59) 57 = .ok (.aload_n 0, 1) := by decide +kernel
theorem d59_58 : decode (xbc 59) 58 = .ok (.getfield 18, 3) := by decide +kernel
theorem d59_61 : decode (xbc 59) 61 = .ok (.iload_n 2, 1) := by decide +kernel
theorem d59_62 : decode (xbc 59) 62 = .ok (.aload_n 0, 1) := by decide +kernel
theorem d59_63 : decode (xbc 59) 63 = .ok (.getfield 18, 3) := by decide +kernel
theorem d59_66 : decode (xbc 59) 66 = .ok (.iload_n 2, 1) := by decide +kernel
theorem d59_67 : decode (xbc 59) 67 = .ok (.iconst 1, 1) := by decide +kernel
theorem d59_68 : decode (xbc 59) 68 = .ok (.iadd, 1) := by decide +kernel
theorem d59_69 : decode (xbc 59) 69 = .ok (.iaload, 1) := by decide +kernel
theorem d59_70 : decode (xbc 59) 70 = .ok (.iastore, 1) := by decide +kernel
theorem d59_71 : decode (xbc 59) 71 = .ok (.aload_n 0, 1) := by decide +kernel
theorem d59_72 : decode (xbc 59) 72 = .ok (.getfield 21, 3) := by decide +kernel
theorem d59_75 : decode (xbc 59) 75 = .ok (.iload_n 2, 1) := by decide +kernel
theorem d59_76 : decode (xbc 59) 76 = .ok (.aload_n 0, 1) := by decide +kernel
theorem d59_77 : decode (xbc 59) 77 = .ok (.getfield 21, 3) := by decide +kernel
theorem d59_80 : decode (xbc 59) 80 = .ok (.iload_n 2, 1) := by decide +kernel
theorem d59_81 : decode (xbc 59) 81 = .ok (.iconst 1, 1) := by decide +kernel
theorem d59_82 : decode (xbc 59) 82 = .ok (.iadd, 1) := by decide +kernel
theorem d59_83 : decode (xbc 59) 83 = .ok (.iaload, 1) := by decide +kernel
theorem d59_84 : decode (xbc 59) 84 = .ok (.iastore, 1) := by decide +kernel
theorem d59_85 : decode (xbc 59) 85 = .ok (.iinc 2 1, 3) := by decide +kernel
theorem d59_88 : decode (xbc 59) 88 = .ok (.goto (-77), 3) := by decide +kernel
theorem d59_91 : decode (xbc 59) 91 = .ok (.aload_n 0, 1) := by decide +kernel
theorem d59_92 : decode (xbc 59) 92 = .ok (.dup, 1) := by decide +kernel
theorem d59_93 : decode (xbc 59) 93 = .ok (.getfield 27, 3) := by decide +kernel
theorem d59_96 : decode (xbc 59) 96 = .ok (.iconst 1, 1) := by decide +kernel
theorem d59_97 : decode (xbc 59) 97 = .ok (.isub, 1) := by decide +kernel
theorem d59_98 : decode (xbc 59) 98 = .ok (.putfield 27, 3) := by decide +kernel
theorem d59_101 : decode (xbc 59) 101 = .ok (.return_, 1) := by decide +kernel
theorem d60_0 : decode (xbc 60) 0 = .ok (.aload_n 0, 1) := by decide +kernel
theorem d60_1 : decode (xbc 60) 1 = .ok (.getfield 27, 3) := by decide +kernel
theorem d60_4 : decode (xbc 60) 4 = .ok (.ireturn, 1) := by decide +kernel
theorem d61_0 : decode (xbc 61) 0 = .ok (.aload_n 0, 1) := by decide +kernel
theorem d61_1 : decode (xbc 61) 1 = .ok (.invokespecial 3, 3) := by decide +kernel
theorem d61_4 : decode (xbc 61) 4 = .ok (.aload_n 0, 1) := by decide +kernel
theorem d61_5 : decode (xbc 61) 5 = .ok (.new 9, 3) := by decide +kernel
theorem d61_8 : decode (xbc 61) 8 = .ok (.dup, 1) := by decide +kernel
theorem d61_9 : decode (xbc 61) 9 = .ok (.invokespecial 11, 3) := by decide +kernel
theorem d61_12 : decode (xbc 61) 12 = .ok (.putfield 12, 3) := by decide +kernel
theorem d61_15 : decode (xbc 61) 15 = .ok (.aload_n 0, 1) := by decide +kernel
theorem d61_16 : decode (xbc 61) 16 = .ok (.iconst 0, 1) := by decide +kernel
theorem d61_17 : decode (xbc 61) 17 = .ok (.putfield 18, 3) := by decide +kernel
theorem d61_20 : decode (xbc 61) 20 = .ok (.aload_n 0, 1) := by decide +kernel
theorem d61_21 : decode (xbc 61) 21 = .ok (.bipush (-6), 2) := by decide +kernel
theorem d61_23 : decode (xbc 61) 23 = .ok (.putfield 22, 3) := by decide +kernel
theorem d61_26 : decode (xbc 61) 26 = .ok (.aload_n 0, 1) := by decide +kernel
theorem d61_27 : decode (xbc 61) 27 = .ok (.bipush (-6), 2) := by decide +kernel
theorem d61_29 : decode (xbc 61) 29 = .ok (.putfield 25, 3) := by decide +kernel
theorem d61_32 : decode (xbc 61) 32 = .ok (.return_, 1) := by decide +kernel
theorem d62_0 : decode (xbc 62) 0 = .ok (.aload_n 0, 1) := by decide +kernel
theorem d62_1 : decode (xbc 62) 1 = .ok (.aload_n 1, 1) := by decide +kernel
theorem d62_2 : decode (xbc 62) 2 = .ok (.invokevirtual 41, 3) := by decide +kernel
theorem d62_5 : decode (xbc 62) 5 = .ok (.aload_n 2, 1) := by decide +kernel
theorem d62_6 : decode (xbc 62) 6 = .ok (.invokevirtual 44, 3) := by decide +kernel
theorem d62_9 : decode (xbc 62) 9 = .ok (.bipush (-6), 2) := by decide +kernel
theorem d62_11 : decode (xbc 62) 11 = .ok (.if_icmp .eq 5, 3) := by decide +kernel
theorem d62_14 : decode (xbc 62) 14 = .ok (.iconst 0, 1) := by decide +kernel
theorem d62_15 : decode (xbc 62) 15 = .ok (.ireturn, 1) := by decide +kernel
theorem d62_16 : decode (xbc 62) 16 = .ok (.iconst 0, 1) := by decide +kernel
theorem d62_17 : decode (xbc 62) 17 = .ok (.istore_n 3, 1) := by decide +kernel
theorem d62_18 : decode (xbc 62) 18 = .ok (.iconst 0, 1) := by decide +kernel
theorem d62_19 : decode (xbc 62) 19 = .ok (.istore 4, 2) := by decide +kernel
theorem d62_21 : decode (xbc 62) 21 = .ok (.iload 4, 2) := by decide +kernel
theorem d62_23 : decode (xbc 62) 23 = .ok (.bipush 60, 2) := by decide +kernel
theorem d62_25 : decode (xbc 62) 25 = .ok (.if_icmp .ge 103, 3) := by decide +kernel
theorem d62_28 : decode (xbc 62) 28 = .ok (.iload_n 3, 1) := by decide +kernel
theorem d62_29 : decode (xbc 62) 29 = .ok (.aload_n 2, 1) := by decide +kernel
theorem d62_30 : decode (xbc 62) 30 = .ok (.invokevirtual 50, 3) := by decide +kernel
theorem d62_33 : decode (xbc 62) 33 = .ok (.if_icmp .ge 95, 3) := by decide +kernel
theorem d62_36 : decode (xbc 62) 36 = .ok (.aload_n 2, 1) := by decide +kernel
theorem d62_37 : decode (xbc 62) 37 = .ok (.iload_n 3, 1) := by decide +kernel
theorem d62_38 : decode (xbc 62) 38 = .ok (.invokevirtual 53, 3) := by decide +kernel
theorem d62_41 : decode (xbc 62) 41 = .ok (.istore 5, 2) := by decide +kernel
theorem d62_43 : decode (xbc 62) 43 = .ok (.aload_n 0, 1) := by decide +kernel
theorem d62_44 : decode (xbc 62) 44 = .ok (.getfield 12, 3) := by decide +kernel
theorem d62_47 : decode (xbc 62) 47 = .ok (.iload 5, 2) := by decide +kernel
theorem d62_49 : decode (xbc 62) 49 = .ok (.aload_n 2, 1) := by decide +kernel
theorem d62_50 : decode (xbc 62) 50 = .ok (.iload_n 3, 1) := by decide +kernel
theorem d62_51 : decode (xbc 62) 51 = .ok (.invokevirtual 57, 3) := by decide +kernel
theorem d62_54 : decode (xbc 62) 54 = .ok (.aload_n 2, 1) := by decide +kernel
theorem d62_55 : decode (xbc 62) 55 = .ok (.iload_n 3, 1) := by decide +kernel
theorem d62_56 : decode (xbc 62) 56 = .ok (.invokevirtual 60, 3) := by decide +kernel
theorem d62_59 : decode (xbc 62) 59 = .ok (.invokevirtual 63, 3) := by decide +kernel
theorem d62_62 : decode (xbc 62) 62 = .ok (.istore 6, 2) := by decide +kernel
theorem d62_64 : decode (xbc 62) 64 = .ok (.iload 6, 2) := by decide +kernel
theorem d62_66 : decode (xbc 62) 66 = .ok (.ifCond .eq 17, 3) := by decide +kernel
theorem d62_69 : decode (xbc 62) 69 = .ok (.aload_n 0, 1) := by decide +kernel
theorem d62_70 : decode (xbc 62) 70 = .ok (.iload 4, 2) := by decide +kernel
theorem d62_72 : decode (xbc 62) 72 = .ok (.putfield 22, 3) := by decide +kernel
theorem d62_75 : decode (xbc 62) 75 = .ok (.aload_n 0, 1) := by decide +kernel
theorem d62_76 : decode (xbc 62) 76 = .ok (.iload 6, 2) := by decide +kernel
theorem d62_78 : decode (xbc 62) 78 = .ok (.putfield 25, 3) := by decide +kernel
theorem d62_81 : decode (xbc 62) 81 = .ok (.iconst 0, 1) := by decide +kernel
theorem d62_82 : decode (xbc 62) 82 = .ok (.ireturn, 1) := by decide +kernel
theorem d62_83 : decode (xbc 62) 83 = .ok (.aload_n 0, 1) := by decide +kernel
theorem d62_84 : decode (xbc 62) 84 = .ok (.getfield 12, 3) := by decide +kernel
theorem d62_87 : decode (xbc 62) 87 = .ok (.iload 4, 2) := by decide +kernel
theorem d62_89 : decode (xbc 62) 89 = .ok (.iload 5, 2) := by decide +kernel
theorem d62_91 : decode (xbc 62) 91 = .ok (.aload_n 2, 1) := by decide +kernel
theorem d62_92 : decode (xbc 62) 92 = .ok (.iload_n 3, 1) := by decide +kernel
theorem d62_93 : decode (xbc 62) 93 = .ok (.invokevirtual 57, 3) := by decide +kernel
theorem d62_96 : decode (xbc 62) 96 = .ok (.aload_n 2, 1) := by decide +kernel
theorem d62_97 : decode (xbc 62) 97 = .ok (.iload_n 3, 1) := by decide +kernel
theorem d62_98 : decode (xbc 62) 98 = .ok (.invokevirtual 60, 3) := by decide +kernel
theorem d62_101 : decode (xbc 62) 101 = .ok (.invokevirtual 67, 3) := by decide +kernel
theorem d62_104 : decode (xbc 62) 104 = .ok (.aload_n 0, 1) := by decide +kernel
theorem d62_105 : decode (xbc 62) 105 = .ok (.dup, 1) := by decide +kernel
theorem d62_106 : decode (xbc 62) 106 = .ok (.getfield 18, 3) := by decide +kernel
theorem d62_109 : decode (xbc 62) 109 = .ok (.iconst 1, 1) := by decide +kernel
theorem d62_110 : decode (xbc 62) 110 = .ok (.iadd, 1) := by decide +kernel
theorem d62_111 : decode (xbc 62) 111 = .ok (.putfield 18, 3) := by decide +kernel
theorem d62_114 : decode (xbc 62) 114 = .ok (.iload_n 3, 1) := by decide +kernel
theorem d62_115 : decode (xbc 62) 115 = .ok (.aload_n 2, 1) := by decide +kernel
theorem d62_116 : decode (xbc 62) 116 = .ok (.iload_n 3, 1) := by decide +kernel
theorem d62_117 : decode (xbc 62) 117 = .ok (.invokevirtual 71, 3) := by decide +kernel
theorem d62_120 : decode (xbc 62) 120 = .ok (.iadd, 1) := by decide +kernel
theorem d62_121 : decode (xbc 62) 121 = .ok (.istore_n 3, 1) := by decide +kernel
theorem d62_122 : decode (xbc 62) 122 = .ok (.iinc 4 1, 3) := by decide +kernel
theorem d62_125 : decode (xbc 62) 125 = .ok (.goto (-104), 3) := by decide +kernel
theorem d62_128 : decode (xbc 62) 128 = .ok (.iconst 1, 1) := by decide +kernel
theorem d62_129 : decode (xbc 62) 129 = .ok (.ireturn, 1) := by decide +kernel
theorem d63_0 : decode (xbc 63) 0 = .ok (.aload_n 0, 1) := by decide +kernel
theorem d63_1 : decode (xbc 63) 1 = .ok (.getfield 12, 3) := by decide +kernel
theorem d63_4 : decode (xbc 63) 4 = .ok (.aload_n 1, 1) := by decide +kernel
theorem d63_5 : decode (xbc 63) 5 = .ok (.invokevirtual 28, 3) := by decide +kernel
theorem d63_8 : decode (xbc 63) 8 = .ok (.aload_n 0, 1) := by decide +kernel
theorem d63_9 : decode (xbc 63) 9 = .ok (.getfield 12, 3) := by decide +kernel
theorem d63_12 : decode (xbc 63) 12 = .ok (.invokevirtual 32, 3) := by decide +kernel
theorem d63_15 : decode (xbc 63) 15 = .ok (.invokevirtual 36, 3) := by decide +kernel
theorem d63_18 : decode (xbc 63) 18 = .ok (.aload_n 0, 1) := by decide +kernel
theorem d63_19 : decode (xbc 63) 19 = .ok (.iconst 0, 1) := by decide +kernel
theorem d63_20 : decode (xbc 63) 20 = .ok (.putfield 18, 3) := by decide +kernel
theorem d63_23 : decode (xbc 63) 23 = .ok (.aload_n 0, 1) := by decide +kernel
theorem d63_24 : decode (xbc 63) 24 = .ok (.bipush (-6), 2) := by decide +kernel
theorem d63_26 : decode (xbc 63) 26 = .ok (.putfield 22, 3) := by decide +kernel
theorem d63_29 : decode (xbc 63) 29 = .ok (.aload_n 0, 1) := by decide +kernel
theorem d63_30 : decode (xbc 63) 30 = .ok (.bipush (-6), 2) := by decide +kernel
theorem d63_32 : decode (xbc 63) 32 = .ok (.putfield 25, 3) := by decide +kernel
theorem d63_35 : decode (xbc 63) 35 = .ok (.return_, 1) := by decide +kernel
theorem d64_0 : decode (xbc 64) 0 = .ok (.aload_n 0, 1) := by decide +kernel
theorem d64_1 : decode (xbc 64) 1 = .ok (.getfield 22, 3) := by decide +kernel
theorem d64_4 : decode (xbc 64) 4 = .ok (.ireturn, 1) := by decide +kernel
theorem d65_0 : decode (xbc 65) 0 = .ok (.aload_n 0, 1) := by decide +kernel
theorem d65_1 : decode (xbc 65) 1 = .ok (.getfield 25, 3) := by decide +kernel
theorem d65_4 : decode (xbc 65) 4 = .ok (.ireturn, 1) := by decide +kernel
theorem d66_0 : decode (xbc 66) 0 = .ok (.aload_n 0, 1) := by decide +kernel
theorem d66_1 : decode (xbc 66) 1 = .ok (.getfield 12, 3) := by decide +kernel
theorem d66_4 : decode (xbc 66) 4 = .ok (.areturn, 1) := by decide +kernel
theorem d67_0 : decode (xbc 67) 0 = .ok (.aload_n 0, 1) := by decide +kernel
theorem d67_1 : decode (xbc 67) 1 = .ok (.getfield 18, 3) := by decide +kernel
theorem d67_4 : decode (xbc 67) 4 = .ok (.ireturn, 1) := by decide +kernel
theorem d68_0 : decode (xbc 68) 0 = .ok (.aload_n 0, 1) := by decide +kernel
theorem d68_1 : decode (xbc 68) 1 = .ok (.aload_n 1, 1) := by decide +kernel
theorem d68_2 : decode (xbc 68) 2 = .ok (.invokevirtual 41, 3) := by decide +kernel
theorem d68_5 : decode (xbc 68) 5 = .ok (.iload_n 2, 1) := by decide +kernel
theorem d68_6 : decode (xbc 68) 6 = .ok (.istore 4, 2) := by decide +kernel
theorem d68_8 : decode (xbc 68) 8 = .ok (.iconst 0, 1) := by decide +kernel
theorem d68_9 : decode (xbc 68) 9 = .ok (.istore 5, 2) := by decide +kernel
theorem d68_11 : decode (xbc 68) 11 = .ok (.iload 5, 2) := by decide +kernel
theorem d68_13 : decode (xbc 68) 13 = .ok (.iload_n 3, 1) := by decide +kernel
theorem d68_14 : decode (xbc 68) 14 = .ok (.if_icmp .ge 90, 3) := by decide +kernel
theorem d68_17 : decode (xbc 68) 17 = .ok (.iload 4, 2) := by decide +kernel
theorem d68_19 : decode (xbc 68) 19 = .ok (.ifCond .lt 85, 3) := by decide +kernel
theorem d68_22 : decode (xbc 68) 22 = .ok (.bipush 75, 2) := by decide +kernel
theorem d68_24 : decode (xbc 68) 24 = .ok (.iload 4, 2) := by decide +kernel
theorem d68_26 : decode (xbc 68) 26 = .ok (.imul, 1) := by decide +kernel
theorem d68_27 : decode (xbc 68) 27 = .ok (.bipush 74, 2) := by decide +kernel
theorem d68_29 : decode (xbc 68) 29 = .ok (.iadd, 1) := by decide +kernel
theorem d68_30 : decode (xbc 68) 30 = .ok (.ldc 74, 2) := by decide +kernel
theorem d68_32 : decode (xbc 68) 32 = .ok (.irem, 1) := by decide +kernel
theorem d68_33 : decode (xbc 68) 33 = .ok (.istore 4, 2) := by decide +kernel
theorem d68_35 : decode (xbc 68) 35 = .ok (.ldc 75, 2) := by decide +kernel
theorem d68_37 : decode (xbc 68) 37 = .ok (.iload 4, 2) := by decide +kernel
theorem d68_39 : decode (xbc 68) 39 = .ok (.bipush 8, 2) := by decide +kernel
theorem d68_41 : decode (xbc 68) 41 = .ok (.idiv, 1) := by decide +kernel
theorem d68_42 : decode (xbc 68) 42 = .ok (.bipush 7, 2) := by decide +kernel
theorem d68_44 : decode (xbc 68) 44 = .ok (.iand, 1) := by decide +kernel
theorem d68_45 : decode (xbc 68) 45 = .ok (.invokevirtual 77, 3) := by decide +kernel
theorem d68_48 : decode (xbc 68) 48 = .ok (.istore 6, 2) := by decide +kernel
theorem d68_50 : decode (xbc 68) 50 = .ok (.iload 4, 2) := by decide +kernel
theorem d68_52 : decode (xbc 68) 52 = .ok (.bipush 7, 2) := by decide +kernel
theorem d68_54 : decode (xbc 68) 54 = .ok (.iand, 1) := by decide +kernel
theorem d68_55 : decode (xbc 68) 55 = .ok (.istore 7, 2) := by decide +kernel
theorem d68_57 : decode (xbc 68) 57 = .ok (.iload 4, 2) := by decide +kernel
theorem d68_59 : decode (xbc 68) 59 = .ok (.bipush 64, 2) := by decide +kernel
theorem d68_61 : decode (xbc 68) 61 = .ok (.idiv, 1) := by decide +kernel
theorem d68_62 : decode (xbc 68) 62 = .ok (.bipush 7, 2) := by decide +kernel
theorem d68_64 : decode (xbc 68) 64 = .ok (.iand, 1) := by decide +kernel
theorem d68_65 : decode (xbc 68) 65 = .ok (.istore 8, 2) := by decide +kernel
theorem d68_67 : decode (xbc 68) 67 = .ok (.aload_n 0, 1) := by decide +kernel
theorem d68_68 : decode (xbc 68) 68 = .ok (.getfield 12, 3) := by decide +kernel
theorem d68_71 : decode (xbc 68) 71 = .ok (.iload 6, 2) := by decide +kernel
theorem d68_73 : decode (xbc 68) 73 = .ok (.iload 7, 2) := by decide +kernel
theorem d68_75 : decode (xbc 68) 75 = .ok (.iload 8, 2) := by decide +kernel
theorem d68_77 : decode (xbc 68) 77 = .ok (.invokevirtual 63, 3) := by decide +kernel
theorem d68_80 : decode (xbc 68) 80 = .ok (.ifCond .ne 18, 3) := by decide +kernel
theorem d68_83 : decode (xbc 68) 83 = .ok (.aload_n 0, 1) := by decide +kernel
theorem d68_84 : decode (xbc 68) 84 = .ok (.getfield 12, 3) := by decide +kernel
theorem d68_87 : decode (xbc 68) 87 = .ok (.iload 5, 2) := by decide +kernel
theorem d68_89 : decode (xbc 68) 89 = .ok (.iload 6, 2) := by decide +kernel
theorem d68_91 : decode (xbc 68) 91 = .ok (.iload 7, 2) := by decide +kernel
theorem d68_93 : decode (xbc 68) 93 = .ok (.iload 8, 2) := by decide +kernel
theorem d68_95 : decode (xbc 68) 95 = .ok (.invokevirtual 67, 3) := by decide +kernel
theorem d68_98 : decode (xbc 68) 98 = .ok (.iinc 5 1, 3) := by decide +kernel
theorem d68_101 : decode (xbc 68) 101 = .ok (.goto (-90), 3) := by decide +kernel
theorem d68_104 : decode (xbc 68) 104 = .ok (.return_, 1) := by decide +kernel
theorem d69_0 : decode (xbc 69) 0 = .ok (.aload_n 0, 1) := by decide +kernel
theorem d69_1 : decode (xbc 69) 1 = .ok (.invokespecial 5, 3) := by decide +kernel
theorem d69_4 : decode (xbc 69) 4 = .ok (.aload_n 0, 1) := by decide +kernel
theorem d69_5 : decode (xbc 69) 5 = .ok (.sipush 589, 3) := by decide +kernel
theorem d69_8 : decode (xbc 69) 8 = .ok (.newarray .int, 2) := by decide +kernel
theorem d69_10 : decode (xbc 69) 10 = .ok (.putfield 11, 3) := by decide +kernel
theorem d69_13 : decode (xbc 69) 13 = .ok (.aload_n 0, 1) := by decide +kernel
theorem d69_14 : decode (xbc 69) 14 = .ok (.sipush 199, 3) := by decide +kernel
theorem d69_17 : decode (xbc 69) 17 = .ok (.newarray .int, 2) := by decide +kernel
theorem d69_19 : decode (xbc 69) 19 = .ok (.putfield 17, 3) := by decide +kernel
theorem d69_22 : decode (xbc 69) 22 = .ok (.aload_n 0, 1) := by decide +kernel
theorem d69_23 : decode (xbc 69) 23 = .ok (.iconst 0, 1) := by decide +kernel
theorem d69_24 : decode (xbc 69) 24 = .ok (.putfield 20, 3) := by decide +kernel
theorem d69_27 : decode (xbc 69) 27 = .ok (.aload_n 0, 1) := by decide +kernel
theorem d69_28 : decode (xbc 69) 28 = .ok (.bipush (-6), 2) := by decide +kernel
theorem d69_30 : decode (xbc 69) 30 = .ok (.putfield 24, 3) := by decide +kernel
theorem d69_33 : decode (xbc 69) 33 = .ok (.aload_n 0, 1) := by decide +kernel
theorem d69_34 : decode (xbc 69) 34 = .ok (.bipush (-6), 2) := by decide +kernel
theorem d69_36 : decode (xbc 69) 36 = .ok (.putfield 27, 3) := by decide +kernel
theorem d69_39 : decode (xbc 69) 39 = .ok (.return_, 1) := by decide +kernel
theorem d70_0 : decode (xbc 70) 0 = .ok (.aload_n 0, 1) := by decide +kernel
theorem d70_1 : decode (xbc 70) 1 = .ok (.iconst 0, 1) := by decide +kernel
theorem d70_2 : decode (xbc 70) 2 = .ok (.putfield 20, 3) := by decide +kernel
theorem d70_5 : decode (xbc 70) 5 = .ok (.iconst 0, 1) := by decide +kernel
theorem d70_6 : decode (xbc 70) 6 = .ok (.istore_n 2, 1) := by decide +kernel
theorem d70_7 : decode (xbc 70) 7 = .ok (.iload_n 2, 1) := by decide +kernel
theorem d70_8 : decode (xbc 70) 8 = .ok (.bipush 30, 2) := by decide +kernel
theorem d70_10 : decode (xbc 70) 10 = .ok (.if_icmp .gt 71, 3) := by decide +kernel
theorem d70_13 : decode (xbc 70) 13 = .ok (.bipush (-9), 2) := by decide +kernel
theorem d70_15 : decode (xbc 70) 15 = .ok (.istore_n 3, 1) := by decide +kernel
theorem d70_16 : decode (xbc 70) 16 = .ok (.iload_n 3, 1) := by decide +kernel
theorem d70_17 : decode (xbc 70) 17 = .ok (.bipush 9, 2) := by decide +kernel
theorem d70_19 : decode (xbc 70) 19 = .ok (.if_icmp .gt 56, 3) := by decide +kernel
theorem d70_22 : decode (xbc 70) 22 = .ok (.aload_n 1, 1) := by decide +kernel
theorem d70_23 : decode (xbc 70) 23 = .ok (.iload_n 2, 1) := by decide +kernel
theorem d70_24 : decode (xbc 70) 24 = .ok (.iload_n 3, 1) := by decide +kernel
theorem d70_25 : decode (xbc 70) 25 = .ok (.invokevirtual 30, 3) := by decide +kernel
theorem d70_28 : decode (xbc 70) 28 = .ok (.ifCond .eq 41, 3) := by decide +kernel
theorem d70_31 : decode (xbc 70) 31 = .ok (.aload_n 0, 1) := by decide +kernel
theorem d70_32 : decode (xbc 70) 32 = .ok (.getfield 20, 3) := by decide +kernel
theorem d70_35 : decode (xbc 70) 35 = .ok (.sipush 589, 3) := by decide +kernel
theorem d70_38 : decode (xbc 70) 38 = .ok (.if_icmp .ge 31, 3) := by decide +kernel
theorem d70_41 : decode (xbc 70) 41 = .ok (.aload_n 0, 1) := by decide +kernel
theorem d70_42 : decode (xbc 70) 42 = .ok (.getfield 11, 3) := by decide +kernel
theorem d70_45 : decode (xbc 70) 45 = .ok (.aload_n 0, 1) := by decide +kernel
theorem d70_46 : decode (xbc 70) 46 = .ok (.getfield 20, 3) := by decide +kernel
theorem d70_49 : decode (xbc 70) 49 = .ok (.bipush 100, 2) := by decide +kernel
theorem d70_51 : decode (xbc 70) 51 = .ok (.iload_n 2, 1) := by decide +kernel
theorem d70_52 : decode (xbc 70) 52 = .ok (.imul, 1) := by decide +kernel
theorem d70_53 : decode (xbc 70) 53 = .ok (.iload_n 3, 1) := by decide +kernel
theorem d70_54 : decode (xbc 70) 54 = .ok (.iadd, 1) := by decide +kernel
theorem d70_55 : decode (xbc 70) 55 = .ok (.bipush 50, 2) := by decide +kernel
theorem d70_57 : decode (xbc 70) 57 = .ok (.iadd, 1) := by decide +kernel
theorem d70_58 : decode (xbc 70) 58 = .ok (.iastore, 1) := by decide +kernel
theorem d70_59 : decode (xbc 70) 59 = .ok (.aload_n 0, 1) := by decide +kernel
theorem d70_60 : decode (xbc 70) 60 = .ok (.dup, 1) := by decide +kernel
theorem d70_61 : decode (xbc 70) 61 = .ok (.getfield 20, 3) := by decide +kernel
theorem d70_64 : decode (xbc 70) 64 = .ok (.iconst 1, 1) := by decide +kernel
theorem d70_65 : decode (xbc 70) 65 = .ok (.iadd, 1) := by decide +kernel
theorem d70_66 : decode (xbc 70) 66 = .ok (.putfield 20, 3) := by decide +kernel
theorem d70_69 : decode (xbc 70) 69 = .ok (.iinc 3 1, 3) := by decide +kernel
theorem d70_72 : decode (xbc 70) 72 = .ok (.goto (-56), 3) := by decide +kernel
theorem d70_75 : decode (xbc 70) 75 = .ok (.iinc 2 1, 3) := by decide +kernel
theorem d70_78 : decode (xbc 70) 78 = .ok (.goto (-71), 3) := by decide +kernel
theorem d70_81 : decode (xbc 70) 81 = .ok (.return_, 1) := by decide +kernel
theorem d71_0 : decode (xbc 71) 0 = .ok (.aload_n 0, 1) := by decide +kernel
theorem d71_1 : decode (xbc 71) 1 = .ok (.getfield 20, 3) := by decide +kernel
theorem d71_4 : decode (xbc 71) 4 = .ok (.ireturn, 1) := by decide +kernel
theorem d72_0 : decode (xbc 72) 0 = .ok (.iload_n 1, 1) := by decide +kernel
theorem d72_1 : decode (xbc 72) 1 = .ok (.ifCond .lt 27, 3) := by decide +kernel
theorem d72_4 : decode (xbc 72) 4 = .ok (.iload_n 1, 1) := by decide +kernel
theorem d72_5 : decode (xbc 72) 5 = .ok (.aload_n 0, 1) := by decide +kernel
theorem d72_6 : decode (xbc 72) 6 = .ok (.getfield 20, 3) := by decide +kernel
theorem d72_9 : decode (xbc 72) 9 = .ok (.if_icmp .ge 19, 3) := by decide +kernel
theorem d72_12 : decode (xbc 72) 12 = .ok (.iload_n 1, 1) := by decide +kernel
theorem d72_13 : decode (xbc 72) 13 = .ok (.sipush 589, 3) := by decide +kernel
theorem d72_16 : decode (xbc 72) 16 = .ok (.if_icmp .ge 12, 3) := by decide +kernel
theorem d72_19 : decode (xbc 72) 19 = .ok (.aload_n 0, 1) := by decide +kernel
theorem d72_20 : decode (xbc 72) 20 = .ok (.getfield 11, 3) := by decide +kernel
theorem d72_23 : decode (xbc 72) 23 = .ok (.iload_n 1, 1) := by decide +kernel
theorem d72_24 : decode (xbc 72) 24 = .ok (.iaload, 1) := by decide +kernel
theorem d72_25 : decode (xbc 72) 25 = .ok (.goto 5, 3) := by decide +kernel
theorem d72_28 : decode (xbc 72) 28 = .ok (.bipush (-6), 2) := by decide +kernel
theorem d72_30 : decode (xbc 72) 30 = .ok (.ireturn, 1) := by decide +kernel
theorem d73_0 : decode (xbc 73) 0 = .ok (.aload_n 0, 1) := by decide +kernel
theorem d73_1 : decode (xbc 73) 1 = .ok (.bipush (-6), 2) := by decide +kernel
theorem d73_3 : decode (xbc 73) 3 = .ok (.putfield 24, 3) := by decide +kernel
theorem d73_6 : decode (xbc 73) 6 = .ok (.aload_n 0, 1) := by decide +kernel
theorem d73_7 : decode (xbc 73) 7 = .ok (.bipush (-6), 2) := by decide +kernel
theorem d73_9 : decode (xbc 73) 9 = .ok (.putfield 27, 3) := by decide +kernel
theorem d73_12 : decode (xbc 73) 12 = .ok (.iconst 0, 1) := by decide +kernel
theorem d73_13 : decode (xbc 73) 13 = .ok (.istore_n 1, 1) := by decide +kernel
theorem d73_14 : decode (xbc 73) 14 = .ok (.iload_n 1, 1) := by decide +kernel
theorem d73_15 : decode (xbc 73) 15 = .ok (.bipush 9, 2) := by decide +kernel
theorem d73_17 : decode (xbc 73) 17 = .ok (.if_icmp .gt 106, 3) := by decide +kernel
theorem d73_20 : decode (xbc 73) 20 = .ok (.aload_n 0, 1) := by decide +kernel
theorem d73_21 : decode (xbc 73) 21 = .ok (.getfield 20, 3) := by decide +kernel
theorem d73_24 : decode (xbc 73) 24 = .ok (.ifCond .le 99, 3) := by decide +kernel
theorem d73_27 : decode (xbc 73) 27 = .ok (.aload_n 0, 1) := by decide +kernel
theorem d73_28 : decode (xbc 73) 28 = .ok (.iload_n 1, 1) := by decide +kernel
theorem d73_29 : decode (xbc 73) 29 = .ok (.invokevirtual 34, 3) := by decide +kernel
theorem d73_32 : decode (xbc 73) 32 = .ok (.aload_n 0, 1) := by decide +kernel
theorem d73_33 : decode (xbc 73) 33 = .ok (.getfield 20, 3) := by decide +kernel
theorem d73_36 : decode (xbc 73) 36 = .ok (.istore_n 2, 1) := by decide +kernel
theorem d73_37 : decode (xbc 73) 37 = .ok (.iconst 0, 1) := by decide +kernel
theorem d73_38 : decode (xbc 73) 38 = .ok (.istore_n 3, 1) := by decide +kernel
theorem d73_39 : decode (xbc 73) 39 = .ok (.iload_n 3, 1) := by decide +kernel
theorem d73_40 : decode (xbc 73) 40 = .ok (.aload_n 0, 1) := by decide +kernel
theorem d73_41 : decode (xbc 73) 41 = .ok (.getfield 17, 3) := by decide +kernel
theorem d73_44 : decode (xbc 73) 44 = .ok (.arraylength, 1) := by decide +kernel
theorem d73_45 : decode (xbc 73) 45 = .ok (.if_icmp .ge 72, 3) := by decide +kernel
theorem d73_48 : decode (xbc 73) 48 = .ok (.iload_n 2, 1) := by decide +kernel
theorem d73_49 : decode (xbc 73) 49 = .ok (.aload_n 0, 1) := by decide +kernel
theorem d73_50 : decode (xbc 73) 50 = .ok (.getfield 20, 3) := by decide +kernel
theorem d73_53 : decode (xbc 73) 53 = .ok (.iload_n 2, 1) := by decide +kernel
theorem d73_54 : decode (xbc 73) 54 = .ok (.isub, 1) := by decide +kernel
theorem d73_55 : decode (xbc 73) 55 = .ok (.invokestatic 38, 3) := by decide +kernel
theorem d73_58 : decode (xbc 73) 58 = .ok (.istore 4, 2) := by decide +kernel
theorem d73_60 : decode (xbc 73) 60 = .ok (.aload_n 0, 1) := by decide +kernel
theorem d73_61 : decode (xbc 73) 61 = .ok (.getfield 27, 3) := by decide +kernel
theorem d73_64 : decode (xbc 73) 64 = .ok (.bipush (-6), 2) := by decide +kernel
theorem d73_66 : decode (xbc 73) 66 = .ok (.if_icmp .eq 12, 3) := by decide +kernel
theorem d73_69 : decode (xbc 73) 69 = .ok (.iload 4, 2) := by decide +kernel
theorem d73_71 : decode (xbc 73) 71 = .ok (.aload_n 0, 1) := by decide +kernel
theorem d73_72 : decode (xbc 73) 72 = .ok (.getfield 27, 3) := by decide +kernel
theorem d73_75 : decode (xbc 73) 75 = .ok (.if_icmp .ge 27, 3) := by decide +kernel
theorem d73_78 : decode (xbc 73) 78 = .ok (.aload_n 0, 1) := by decide +kernel
theorem d73_79 : decode (xbc 73) 79 = .ok (.iload 4, 2) := by decide +kernel
theorem d73_81 : decode (xbc 73) 81 = .ok (.putfield 27, 3) := by decide +kernel
theorem d73_84 : decode (xbc 73) 84 = .ok (.aload_n 0, 1) := by decide +kernel
theorem d73_85 : decode (xbc 73) 85 = .ok (.sipush 1000, 3) := by decide +kernel
theorem d73_88 : decode (xbc 73) 88 = .ok (.iload_n 1, 1) := by decide +kernel
theorem d73_89 : decode (xbc 73) 89 = .ok (.imul, 1) := by decide +kernel
theorem d73_90 : decode (xbc 73) 90 = .ok (.iload_n 3, 1) := by decide +kernel
theorem d73_91 : decode (xbc 73) 91 = .ok (.iadd, 1) := by decide +kernel
theorem d73_92 : decode (xbc 73) 92 = .ok (.bipush 99, 2) := by decide +kernel
theorem d73_94 : decode (xbc 73) 94 = .ok (.isub, 1) := by decide +kernel
theorem d73_95 : decode (xbc 73) 95 = .ok (.sipush 500, 3) := by decide +kernel
theorem d73_98 : decode (xbc 73) 98 = .ok (.iadd, 1) := by decide +kernel
theorem d73_99 : decode (xbc 73) 99 = .ok (.putfield 24, 3) := by decide +kernel
theorem d73_102 : decode (xbc 73) 102 = .ok (.iload_n 2, 1) := by decide +kernel
theorem d73_103 : decode (xbc 73) 103 = .ok (.aload_n 0, 1) := by decide +kernel
theorem d73_104 : decode (xbc 73) 104 = .ok (.getfield 17, 3) := by decide +kernel
theorem d73_107 : decode (xbc 73) 107 = .ok (.iload_n 3, 1) := by decide +kernel
theorem d73_108 : decode (xbc 73) 108 = .ok (.iaload, 1) := by decide +kernel
theorem d73_109 : decode (xbc 73) 109 = .ok (.isub, 1) := by decide +kernel
theorem d73_110 : decode (xbc 73) 110 = .ok (.istore_n 2, 1) := by decide +kernel
theorem d73_111 : decode (xbc 73) 111 = .ok (.iinc 3 1, 3) := by decide +kernel
theorem d73_114 : decode (xbc 73) 114 = .ok (.goto (-75), 3) := by decide +kernel
theorem d73_117 : decode (xbc 73) 117 = .ok (.iinc 1 1, 3) := by decide +kernel
theorem d73_120 : decode (xbc 73) 120 = .ok (.goto (-106), 3) := by decide +kernel
theorem d73_123 : decode (xbc 73) 123 = .ok (.return_, 1) := by decide +kernel
theorem d74_0 : decode (xbc 74) 0 = .ok (.aload_n 0, 1) := by decide +kernel
theorem d74_1 : decode (xbc 74) 1 = .ok (.getfield 17, 3) := by decide +kernel
theorem d74_4 : decode (xbc 74) 4 = .ok (.iconst 0, 1) := by decide +kernel
theorem d74_5 : decode (xbc 74) 5 = .ok (.invokestatic 44, 3) := by decide +kernel
theorem d74_8 : decode (xbc 74) 8 = .ok (.iconst 0, 1) := by decide +kernel
theorem d74_9 : decode (xbc 74) 9 = .ok (.istore_n 2, 1) := by decide +kernel
theorem d74_10 : decode (xbc 74) 10 = .ok (.iload_n 2, 1) := by decide +kernel
theorem d74_11 : decode (xbc 74) 11 = .ok (.aload_n 0, 1) := by decide +kernel
theorem d74_12 : decode (xbc 74) 12 = .ok (.getfield 20, 3) := by decide +kernel
theorem d74_15 : decode (xbc 74) 15 = .ok (.if_icmp .ge 76, 3) := by decide +kernel
theorem d74_18 : decode (xbc 74) 18 = .ok (.iload_n 2, 1) := by decide +kernel
theorem d74_19 : decode (xbc 74) 19 = .ok (.sipush 589, 3) := by decide +kernel
theorem d74_22 : decode (xbc 74) 22 = .ok (.if_icmp .ge 69, 3) := by decide +kernel
theorem d74_25 : decode (xbc 74) 25 = .ok (.aload_n 0, 1) := by decide +kernel
theorem d74_26 : decode (xbc 74) 26 = .ok (.getfield 11, 3) := by decide +kernel
theorem d74_29 : decode (xbc 74) 29 = .ok (.iload_n 2, 1) := by decide +kernel
theorem d74_30 : decode (xbc 74) 30 = .ok (.iaload, 1) := by decide +kernel
theorem d74_31 : decode (xbc 74) 31 = .ok (.bipush 100, 2) := by decide +kernel
theorem d74_33 : decode (xbc 74) 33 = .ok (.idiv, 1) := by decide +kernel
theorem d74_34 : decode (xbc 74) 34 = .ok (.istore_n 3, 1) := by decide +kernel
theorem d74_35 : decode (xbc 74) 35 = .ok (.aload_n 0, 1) := by decide +kernel
theorem d74_36 : decode (xbc 74) 36 = .ok (.getfield 11, 3) := by decide +kernel
theorem d74_39 : decode (xbc 74) 39 = .ok (.iload_n 2, 1) := by decide +kernel
theorem d74_40 : decode (xbc 74) 40 = .ok (.iaload, 1) := by decide +kernel
theorem d74_41 : decode (xbc 74) 41 = .ok (.bipush 100, 2) := by decide +kernel
theorem d74_43 : decode (xbc 74) 43 = .ok (.irem, 1) := by decide +kernel
theorem d74_44 : decode (xbc 74) 44 = .ok (.bipush 50, 2) := by decide +kernel
theorem d74_46 : decode (xbc 74) 46 = .ok (.isub, 1) := by decide +kernel
theorem d74_47 : decode (xbc 74) 47 = .ok (.istore 4, 2) := by decide +kernel
theorem d74_49 : decode (xbc 74) 49 = .ok (.iload_n 3, 1) := by decide +kernel
theorem d74_50 : decode (xbc 74) 50 = .ok (.iload 4, 2) := by decide +kernel
theorem d74_52 : decode (xbc 74) 52 = .ok (.iload_n 1, 1) := by decide +kernel
theorem d74_53 : decode (xbc 74) 53 = .ok (.imul, 1) := by decide +kernel
theorem d74_54 : decode (xbc 74) 54 = .ok (.iadd, 1) := by decide +kernel
theorem d74_55 : decode (xbc 74) 55 = .ok (.bipush 99, 2) := by decide +kernel
theorem d74_57 : decode (xbc 74) 57 = .ok (.invokestatic 50, 3) := by decide +kernel
theorem d74_60 : decode (xbc 74) 60 = .ok (.istore 5, 2) := by decide +kernel
theorem d74_62 : decode (xbc 74) 62 = .ok (.iload 5, 2) := by decide +kernel
theorem d74_64 : decode (xbc 74) 64 = .ok (.bipush (-99), 2) := by decide +kernel
theorem d74_66 : decode (xbc 74) 66 = .ok (.invokestatic 38, 3) := by decide +kernel
theorem d74_69 : decode (xbc 74) 69 = .ok (.bipush 99, 2) := by decide +kernel
theorem d74_71 : decode (xbc 74) 71 = .ok (.iadd, 1) := by decide +kernel
theorem d74_72 : decode (xbc 74) 72 = .ok (.istore 6, 2) := by decide +kernel
theorem d74_74 : decode (xbc 74) 74 = .ok (.aload_n 0, 1) := by decide +kernel
theorem d74_75 : decode (xbc 74) 75 = .ok (.getfield 17, 3) := by decide +kernel
theorem d74_78 : decode (xbc 74) 78 = .ok (.iload 6, 2) := by decide +kernel
theorem d74_80 : decode (xbc 74) 80 = .ok (.dup2, 1) := by decide +kernel
theorem d74_81 : decode (xbc 74) 81 = .ok (.iaload, 1) := by decide +kernel
theorem d74_82 : decode (xbc 74) 82 = .ok (.iconst 1, 1) := by decide +kernel
theorem d74_83 : decode (xbc 74) 83 = .ok (.iadd, 1) := by decide +kernel
theorem d74_84 : decode (xbc 74) 84 = .ok (.iastore, 1) := by decide +kernel
theorem d74_85 : decode (xbc 74) 85 = .ok (.iinc 2 1, 3) := by decide +kernel
theorem d74_88 : decode (xbc 74) 88 = .ok (.goto (-78), 3) := by decide +kernel
theorem d74_91 : decode (xbc 74) 91 = .ok (.return_, 1) := by decide +kernel
theorem d75_0 : decode (xbc 75) 0 = .ok (.aload_n 0, 1) := by decide +kernel
theorem d75_1 : decode (xbc 75) 1 = .ok (.getfield 24, 3) := by decide +kernel
theorem d75_4 : decode (xbc 75) 4 = .ok (.ireturn, 1) := by decide +kernel
theorem d76_0 : decode (xbc 76) 0 = .ok (.aload_n 0, 1) := by decide +kernel
theorem d76_1 : decode (xbc 76) 1 = .ok (.getfield 27, 3) := by decide +kernel
theorem d76_4 : decode (xbc 76) 4 = .ok (.ireturn, 1) := by decide +kernel
theorem d77_0 : decode (xbc 77) 0 = .ok (.aload_n 0, 1) := by decide +kernel
theorem d77_1 : decode (xbc 77) 1 = .ok (.invokespecial 1, 3) := by decide +kernel
theorem d77_4 : decode (xbc 77) 4 = .ok (.aload_n 0, 1) := by decide +kernel
theorem d77_5 : decode (xbc 77) 5 = .ok (.bipush 8, 2) := by decide +kernel
theorem d77_7 : decode (xbc 77) 7 = .ok (.newarray .int, 2) := by decide +kernel
theorem d77_9 : decode (xbc 77) 9 = .ok (.putfield 9, 3) := by decide +kernel
theorem d77_12 : decode (xbc 77) 12 = .ok (.aload_n 0, 1) := by decide +kernel
theorem d77_13 : decode (xbc 77) 13 = .ok (.bipush 8, 2) := by decide +kernel
theorem d77_15 : decode (xbc 77) 15 = .ok (.newarray .int, 2) := by decide +kernel
theorem d77_17 : decode (xbc 77) 17 = .ok (.putfield 13, 3) := by decide +kernel
theorem d77_20 : decode (xbc 77) 20 = .ok (.aload_n 0, 1) := by decide +kernel
theorem d77_21 : decode (xbc 77) 21 = .ok (.bipush 8, 2) := by decide +kernel
theorem d77_23 : decode (xbc 77) 23 = .ok (.newarray .boolean, 2) := by decide +kernel
theorem d77_25 : decode (xbc 77) 25 = .ok (.putfield 16, 3) := by decide +kernel
theorem d77_28 : decode (xbc 77) 28 = .ok (.aload_n 0, 1) := by decide +kernel
theorem d77_29 : decode (xbc 77) 29 = .ok (.iconst 0, 1) := by decide +kernel
theorem d77_30 : decode (xbc 77) 30 = .ok (.putfield 20, 3) := by decide +kernel
theorem d77_33 : decode (xbc 77) 33 = .ok (.return_, 1) := by decide +kernel
theorem d78_0 : decode (xbc 78) 0 = .ok (.aload_n 0, 1) := by decide +kernel
theorem d78_1 : decode (xbc 78) 1 = .ok (.getfield 20, 3) := by decide +kernel
theorem d78_4 : decode (xbc 78) 4 = .ok (.ifCond .lt 12, 3) := by decide +kernel
theorem d78_7 : decode (xbc 78) 7 = .ok (.aload_n 0, 1) := by decide +kernel
theorem d78_8 : decode (xbc 78) 8 = .ok (.getfield 20, 3) := by decide +kernel
theorem d78_11 : decode (xbc 78) 11 = .ok (.bipush 8, 2) := by decide +kernel
theorem d78_13 : decode (xbc 78) 13 = .ok (.if_icmp .lt 5, 3) := by decide +kernel
theorem d78_16 : decode (xbc 78) 16 = .ok (.iconst 0, 1) := by decide +kernel
theorem d78_17 : decode (xbc 78) 17 = .ok (.ireturn, 1) := by decide +kernel
theorem d78_18 : decode (xbc 78) 18 = .ok (.aload_n 0, 1) := by decide +kernel
theorem d78_19 : decode (xbc 78) 19 = .ok (.getfield 9, 3) := by decide +kernel
theorem d78_22 : decode (xbc 78) 22 = .ok (.aload_n 0, 1) := by decide +kernel
theorem d78_23 : decode (xbc 78) 23 = .ok (.getfield 20, 3) := by decide +kernel
theorem d78_26 : decode (xbc 78) 26 = .ok (.iload_n 1, 1) := by decide +kernel
theorem d78_27 : decode (xbc 78) 27 = .ok (.iastore, 1) := by decide +kernel
theorem d78_28 : decode (xbc 78) 28 = .ok (.aload_n 0, 1) := by decide +kernel
theorem d78_29 : decode (xbc 78) 29 = .ok (.getfield 13, 3) := by decide +kernel
theorem d78_32 : decode (xbc 78) 32 = .ok (.aload_n 0, 1) := by decide +kernel
theorem d78_33 : decode (xbc 78) 33 = .ok (.getfield 20, 3) := by decide +kernel
theorem d78_36 : decode (xbc 78) 36 = .ok (.iload_n 2, 1) := by decide +kernel
theorem d78_37 : decode (xbc 78) 37 = .ok (.iastore, 1) := by decide +kernel
theorem d78_38 : decode (xbc 78) 38 = .ok (.aload_n 0, 1) := by decide +kernel
theorem d78_39 : decode (xbc 78) 39 = .ok (.getfield 16, 3) := by decide +kernel
theorem d78_42 : decode (xbc 78) 42 = .ok (.aload_n 0, 1) := by decide +kernel
theorem d78_43 : decode (xbc 78) 43 = .ok (.getfield 20, 3) := by decide +kernel
theorem d78_46 : decode (xbc 78) 46 = .ok (.iload_n 3, 1) := by decide +kernel
theorem d78_47 : decode (xbc 78) 47 = .ok (.bastore, 1) := by decide +kernel
theorem d78_48 : decode (xbc 78) 48 = .ok (.aload_n 0, 1) := by decide +kernel
theorem d78_49 : decode (xbc 78) 49 = .ok (.dup, 1) := by decide +kernel
theorem d78_50 : decode (xbc 78) 50 = .ok (.getfield 20, 3) := by decide +kernel
theorem d78_53 : decode (xbc 78) 53 = .ok (.iconst 1, 1) := by decide +kernel
theorem d78_54 : decode (xbc 78) 54 = .ok (.iadd, 1) := by decide +kernel
theorem d78_55 : decode (xbc 78) 55 = .ok (.putfield 20, 3) := by decide +kernel
theorem d78_58 : decode (xbc 78) 58 = .ok (.iconst 1, 1) := by decide +kernel
theorem d78_59 : decode (xbc 78) 59 = .ok (.ireturn, 1) := by decide +kernel
theorem d79_0 : decode (xbc 79) 0 = .ok (.aload_n 0, 1) := by decide +kernel
theorem d79_1 : decode (xbc 79) 1 = .ok (.getfield 20, 3) := by decide +kernel
theorem d79_4 : decode (xbc 79) 4 = .ok (.ireturn, 1) := by decide +kernel
theorem d80_0 : decode (xbc 80) 0 = .ok (.aload_n 0, 1) := by decide +kernel
theorem d80_1 : decode (xbc 80) 1 = .ok (.iconst 0, 1) := by decide +kernel
theorem d80_2 : decode (xbc 80) 2 = .ok (.putfield 20, 3) := by decide +kernel
theorem d80_5 : decode (xbc 80) 5 = .ok (.return_, 1) := by decide +kernel
theorem d81_0 : decode (xbc 81) 0 = .ok (.iconst 0, 1) := by decide +kernel
theorem d81_1 : decode (xbc 81) 1 = .ok (.istore_n 3, 1) := by decide +kernel
theorem d81_2 : decode (xbc 81) 2 = .ok (.iload_n 3, 1) := by decide +kernel
theorem d81_3 : decode (xbc 81) 3 = .ok (.aload_n 0, 1) := by decide +kernel
theorem d81_4 : decode (xbc 81) 4 = .ok (.getfield 20, 3) := by decide +kernel
theorem d81_7 : decode (xbc 81) 7 = .ok (.if_icmp .ge 50, 3) := by decide +kernel
theorem d81_10 : decode (xbc 81) 10 = .ok (.iload_n 3, 1) := by decide +kernel
theorem d81_11 : decode (xbc 81) 11 = .ok (.bipush 8, 2) := by decide +kernel
theorem d81_13 : decode (xbc 81) 13 = .ok (.if_icmp .ge 44, 3) := by decide +kernel
theorem d81_16 : decode (xbc 81) 16 = .ok (.iload_n 1, 1) := by decide +kernel
theorem d81_17 : decode (xbc 81) 17 = .ok (.iload_n 2, 1) := by decide +kernel
theorem d81_18 : decode (xbc 81) 18 = .ok (.aload_n 0, 1) := by decide +kernel
theorem d81_19 : decode (xbc 81) 19 = .ok (.getfield 9, 3) := by decide +kernel
theorem d81_22 : decode (xbc 81) 22 = .ok (.iload_n 3, 1) := by decide +kernel
theorem d81_23 : decode (xbc 81) 23 = .ok (.iaload, 1) := by decide +kernel
theorem d81_24 : decode (xbc 81) 24 = .ok (.imul, 1) := by decide +kernel
theorem d81_25 : decode (xbc 81) 25 = .ok (.iadd, 1) := by decide +kernel
theorem d81_26 : decode (xbc 81) 26 = .ok (.aload_n 0, 1) := by decide +kernel
theorem d81_27 : decode (xbc 81) 27 = .ok (.getfield 13, 3) := by decide +kernel
theorem d81_30 : decode (xbc 81) 30 = .ok (.iload_n 3, 1) := by decide +kernel
theorem d81_31 : decode (xbc 81) 31 = .ok (.iaload, 1) := by decide +kernel
theorem d81_32 : decode (xbc 81) 32 = .ok (.if_icmp .lt 7, 3) := by decide +kernel
theorem d81_35 : decode (xbc 81) 35 = .ok (.iconst 1, 1) := by decide +kernel
theorem d81_36 : decode (xbc 81) 36 = .ok (.goto 4, 3) := by decide +kernel
theorem d81_39 : decode (xbc 81) 39 = .ok (.iconst 0, 1) := by decide +kernel
theorem d81_40 : decode (xbc 81) 40 = .ok (.aload_n 0, 1) := by decide +kernel
theorem d81_41 : decode (xbc 81) 41 = .ok (.getfield 16, 3) := by decide +kernel
theorem d81_44 : decode (xbc 81) 44 = .ok (.iload_n 3, 1) := by decide +kernel
theorem d81_45 : decode (xbc 81) 45 = .ok (.baload, 1) := by decide +kernel
theorem d81_46 : decode (xbc 81) 46 = .ok (.if_icmp .eq 5, 3) := by decide +kernel
theorem d81_49 : decode (xbc 81) 49 = .ok (.iconst 0, 1) := by decide +kernel
theorem d81_50 : decode (xbc 81) 50 = .ok (.ireturn, 1) := by decide +kernel
theorem d81_51 : decode (xbc 81) 51 = .ok (.iinc 3 1, 3) := by decide +kernel
theorem d81_54 : decode (xbc 81) 54 = .ok (.goto (-52), 3) := by decide +kernel
theorem d81_57 : decode (xbc 81) 57 = .ok (.iconst 1, 1) := by decide +kernel
theorem d81_58 : decode (xbc 81) 58 = .ok (.ireturn, 1) := by decide +kernel
theorem d82_0 : decode (xbc 82) 0 = .ok (.aload_n 1, 1) := by decide +kernel
theorem d82_1 : decode (xbc 82) 1 = .ok (.getfield 9, 3) := by decide +kernel
theorem d82_4 : decode (xbc 82) 4 = .ok (.iconst 0, 1) := by decide +kernel
theorem d82_5 : decode (xbc 82) 5 = .ok (.aload_n 0, 1) := by decide +kernel
theorem d82_6 : decode (xbc 82) 6 = .ok (.getfield 9, 3) := by decide +kernel
theorem d82_9 : decode (xbc 82) 9 = .ok (.iconst 0, 1) := by decide +kernel
theorem d82_10 : decode (xbc 82) 10 = .ok (.bipush 8, 2) := by decide +kernel
theorem d82_12 : decode (xbc 82) 12 = .ok (.invokestatic 24, 3) := by decide +kernel
theorem d82_15 : decode (xbc 82) 15 = .ok (.aload_n 1, 1) := by decide +kernel
theorem d82_16 : decode (xbc 82) 16 = .ok (.getfield 13, 3) := by decide +kernel
theorem d82_19 : decode (xbc 82) 19 = .ok (.iconst 0, 1) := by decide +kernel
theorem d82_20 : decode (xbc 82) 20 = .ok (.aload_n 0, 1) := by decide +kernel
theorem d82_21 : decode (xbc 82) 21 = .ok (.getfield 13, 3) := by decide +kernel
theorem d82_24 : decode (xbc 82) 24 = .ok (.iconst 0, 1) := by decide +kernel
theorem d82_25 : decode (xbc 82) 25 = .ok (.bipush 8, 2) := by decide +kernel
theorem d82_27 : decode (xbc 82) 27 = .ok (.invokestatic 24, 3) := by decide +kernel
theorem d82_30 : decode (xbc 82) 30 = .ok (.iconst 0, 1) := by decide +kernel
theorem d82_31 : decode (xbc 82) 31 = .ok (.istore_n 2, 1) := by decide +kernel
theorem d82_32 : decode (xbc 82) 32 = .ok (.iload_n 2, 1) := by decide +kernel
theorem d82_33 : decode (xbc 82) 33 = .ok (.bipush 8, 2) := by decide +kernel
theorem d82_35 : decode (xbc 82) 35 = .ok (.if_icmp .ge 21, 3) := by decide +kernel
theorem d82_38 : decode (xbc 82) 38 = .ok (.aload_n 0, 1) := by decide +kernel
theorem d82_39 : decode (xbc 82) 39 = .ok (.getfield 16, 3) := by decide +kernel
theorem d82_42 : decode (xbc 82) 42 = .ok (.iload_n 2, 1) := by decide +kernel
theorem d82_43 : decode (xbc 82) 43 = .ok (.aload_n 1, 1) := by decide +kernel
theorem d82_44 : decode (xbc 82) 44 = .ok (.getfield 16, 3) := by decide +kernel
theorem d82_47 : decode (xbc 82) 47 = .ok (.iload_n 2, 1) := by decide +kernel
theorem d82_48 : decode (xbc 82) 48 = .ok (.baload, 1) := by decide +kernel
theorem d82_49 : decode (xbc 82) 49 = .ok (.bastore, 1) := by decide +kernel
theorem d82_50 : decode (xbc 82) 50 = .ok (.iinc 2 1, 3) := by decide +kernel
theorem d82_53 : decode (xbc 82) 53 = .ok (.goto (-21), 3) := by decide +kernel
theorem d82_56 : decode (xbc 82) 56 = .ok (.aload_n 0, 1) := by decide +kernel
theorem d82_57 : decode (xbc 82) 57 = .ok (.aload_n 1, 1) := by decide +kernel
theorem d82_58 : decode (xbc 82) 58 = .ok (.getfield 20, 3) := by decide +kernel
theorem d82_61 : decode (xbc 82) 61 = .ok (.putfield 20, 3) := by decide +kernel
theorem d82_64 : decode (xbc 82) 64 = .ok (.return_, 1) := by decide +kernel
theorem d83_0 : decode (xbc 83) 0 = .ok (.aload_n 0, 1) := by decide +kernel
theorem d83_1 : decode (xbc 83) 1 = .ok (.invokespecial 3, 3) := by decide +kernel
theorem d83_4 : decode (xbc 83) 4 = .ok (.aload_n 0, 1) := by decide +kernel
theorem d83_5 : decode (xbc 83) 5 = .ok (.iconst 0, 1) := by decide +kernel
theorem d83_6 : decode (xbc 83) 6 = .ok (.putfield 9, 3) := by decide +kernel
theorem d83_9 : decode (xbc 83) 9 = .ok (.aload_n 0, 1) := by decide +kernel
theorem d83_10 : decode (xbc 83) 10 = .ok (.iconst 0, 1) := by decide +kernel
theorem d83_11 : decode (xbc 83) 11 = .ok (.putfield 15, 3) := by decide +kernel
theorem d83_14 : decode (xbc 83) 14 = .ok (.aload_n 0, 1) := by decide +kernel
theorem d83_15 : decode (xbc 83) 15 = .ok (.iconst 0, 1) := by decide +kernel
theorem d83_16 : decode (xbc 83) 16 = .ok (.putfield 18, 3) := by decide +kernel
theorem d83_19 : decode (xbc 83) 19 = .ok (.aload_n 0, 1) := by decide +kernel
theorem d83_20 : decode (xbc 83) 20 = .ok (.bipush (-6), 2) := by decide +kernel
theorem d83_22 : decode (xbc 83) 22 = .ok (.putfield 21, 3) := by decide +kernel
theorem d83_25 : decode (xbc 83) 25 = .ok (.aload_n 0, 1) := by decide +kernel
theorem d83_26 : decode (xbc 83) 26 = .ok (.bipush (-6), 2) := by decide +kernel
theorem d83_28 : decode (xbc 83) 28 = .ok (.putfield 24, 3) := by decide +kernel
theorem d83_31 : decode (xbc 83) 31 = .ok (.return_, 1) := by decide +kernel
theorem d84_0 : decode (xbc 84) 0 = .ok (.aload_n 0, 1) := by decide +kernel
theorem d84_1 : decode (xbc 84) 1 = .ok (.iconst 0, 1) := by decide +kernel
theorem d84_2 : decode (xbc 84) 2 = .ok (.putfield 9, 3) := by decide +kernel
theorem d84_5 : decode (xbc 84) 5 = .ok (.aload_n 0, 1) := by decide +kernel
theorem d84_6 : decode (xbc 84) 6 = .ok (.iconst 0, 1) := by decide +kernel
theorem d84_7 : decode (xbc 84) 7 = .ok (.putfield 15, 3) := by decide +kernel
theorem d84_10 : decode (xbc 84) 10 = .ok (.aload_n 0, 1) := by decide +kernel
theorem d84_11 : decode (xbc 84) 11 = .ok (.iconst 0, 1) := by decide +kernel
theorem d84_12 : decode (xbc 84) 12 = .ok (.putfield 18, 3) := by decide +kernel
theorem d84_15 : decode (xbc 84) 15 = .ok (.aload_n 0, 1) := by decide +kernel
theorem d84_16 : decode (xbc 84) 16 = .ok (.bipush (-6), 2) := by decide +kernel
theorem d84_18 : decode (xbc 84) 18 = .ok (.putfield 21, 3) := by decide +kernel
theorem d84_21 : decode (xbc 84) 21 = .ok (.aload_n 0, 1) := by decide +kernel
theorem d84_22 : decode (xbc 84) 22 = .ok (.bipush (-6), 2) := by decide +kernel
theorem d84_24 : decode (xbc 84) 24 = .ok (.putfield 24, 3) := by decide +kernel
theorem d84_27 : decode (xbc 84) 27 = .ok (.return_, 1) := by decide +kernel
theorem d85_0 : decode (xbc 85) 0 = .ok (.aload_n 0, 1) := by decide +kernel
theorem d85_1 : decode (xbc 85) 1 = .ok (.dup, 1) := by decide +kernel
theorem d85_2 : decode (xbc 85) 2 = .ok (.getfield 9, 3) := by decide +kernel
theorem d85_5 : decode (xbc 85) 5 = .ok (.iconst 1, 1) := by decide +kernel
theorem d85_6 : decode (xbc 85) 6 = .ok (.iadd, 1) := by decide +kernel
theorem d85_7 : decode (xbc 85) 7 = .ok (.putfield 9, 3) := by decide +kernel
theorem d85_10 : decode (xbc 85) 10 = .ok (.iload_n 1, 1) := by decide +kernel
theorem d85_11 : decode (xbc 85) 11 = .ok (.ifCond .ne 14, 3) := by decide +kernel
theorem d85_14 : decode (xbc 85) 14 = .ok (.aload_n 0, 1) := by decide +kernel
theorem d85_15 : decode (xbc 85) 15 = .ok (.dup, 1) := by decide +kernel
theorem d85_16 : decode (xbc 85) 16 = .ok (.getfield 15, 3) := by decide +kernel
theorem d85_19 : decode (xbc 85) 19 = .ok (.iconst 1, 1) := by decide +kernel
theorem d85_20 : decode (xbc 85) 20 = .ok (.iadd, 1) := by decide +kernel
theorem d85_21 : decode (xbc 85) 21 = .ok (.putfield 15, 3) := by decide +kernel
theorem d85_24 : decode (xbc 85) 24 = .ok (.return_, 1) := by decide +kernel
theorem d85_25 : decode (xbc 85) 25 = .ok (.aload_n 0, 1) := by decide +kernel
theorem d85_26 : decode (xbc 85) 26 = .ok (.getfield 18, 3) := by decide +kernel
theorem d85_29 : decode (xbc 85) 29 = .ok (.ifCond .ne 13, 3) := by decide +kernel
theorem d85_32 : decode (xbc 85) 32 = .ok (.aload_n 0, 1) := by decide +kernel
theorem d85_33 : decode (xbc 85) 33 = .ok (.iload_n 2, 1) := by decide +kernel
theorem d85_34 : decode (xbc 85) 34 = .ok (.putfield 21, 3) := by decide +kernel
theorem d85_37 : decode (xbc 85) 37 = .ok (.aload_n 0, 1) := by decide +kernel
theorem d85_38 : decode (xbc 85) 38 = .ok (.iload_n 3, 1) := by decide +kernel
theorem d85_39 : decode (xbc 85) 39 = .ok (.putfield 24, 3) := by decide +kernel
theorem d85_42 : decode (xbc 85) 42 = .ok (.aload_n 0, 1) := by decide +kernel
theorem d85_43 : decode (xbc 85) 43 = .ok (.dup, 1) := by decide +kernel
theorem d85_44 : decode (xbc 85) 44 = .ok (.getfield 18, 3) := by decide +kernel
theorem d85_47 : decode (xbc 85) 47 = .ok (.iconst 1, 1) := by decide +kernel
theorem d85_48 : decode (xbc 85) 48 = .ok (.iadd, 1) := by decide +kernel
theorem d85_49 : decode (xbc 85) 49 = .ok (.putfield 18, 3) := by decide +kernel
theorem d85_52 : decode (xbc 85) 52 = .ok (.return_, 1) := by decide +kernel
