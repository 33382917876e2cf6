theorem dX8_robot_0 : decode cX8_robot 0 = .ok (.iload_n 1, 1) := by decide +kernel
theorem dX8_robot_1 : decode cX8_robot 1 = .ok (.ifCond .lt 8, 3) := by decide +kernel
theorem dX8_robot_4 : decode cX8_robot 4 = .ok (.iload_n 1, 1) := by decide +kernel
theorem dX8_robot_5 : decode cX8_robot 5 = .ok (.iconst 1, 1) := by decide +kernel
theorem dX8_robot_6 : decode cX8_robot 6 = .ok (.if_icmp .le 9, 3) := by decide +kernel
theorem dX8_robot_9 : decode cX8_robot 9 = .ok (.aload_n 0, 1) := by decide +kernel
theorem dX8_robot_10 : decode cX8_robot 10 = .ok (.iconst 1, 1) := by decide +kernel
theorem dX8_robot_11 : decode cX8_robot 11 = .ok (.invokevirtual 90, 3) := by decide +kernel
theorem dX8_robot_14 : decode cX8_robot 14 = .ok (.ireturn, 1) := by decide +kernel
theorem dX8_robot_15 : decode cX8_robot 15 = .ok (.aload_n 0, 1) := by decide +kernel
theorem dX8_robot_16 : decode cX8_robot 16 = .ok (.getfield 158, 3) := by decide +kernel
theorem dX8_robot_19 : decode cX8_robot 19 = .ok (.ifCond .ne 9, 3) := by decide +kernel
theorem dX8_robot_22 : decode cX8_robot 22 = .ok (.aload_n 0, 1) := by decide +kernel
theorem dX8_robot_23 : decode cX8_robot 23 = .ok (.iconst 4, 1) := by decide +kernel
theorem dX8_robot_24 : decode cX8_robot 24 = .ok (.invokevirtual 90, 3) := by decide +kernel
theorem dX8_robot_27 : decode cX8_robot 27 = .ok (.ireturn, 1) := by decide +kernel
theorem dX8_robot_28 : decode cX8_robot 28 = .ok (.aload_n 0, 1) := by decide +kernel
theorem dX8_robot_29 : decode cX8_robot 29 = .ok (.getfield 162, 3) := by decide +kernel
theorem dX8_robot_32 : decode cX8_robot 32 = .ok (.ifCond .eq 9, 3) := by decide +kernel
theorem dX8_robot_35 : decode cX8_robot 35 = .ok (.aload_n 0, 1) := by decide +kernel
theorem dX8_robot_36 : decode cX8_robot 36 = .ok (.iconst 5, 1) := by decide +kernel
theorem dX8_robot_37 : decode cX8_robot 37 = .ok (.invokevirtual 90, 3) := by decide +kernel
theorem dX8_robot_40 : decode cX8_robot 40 = .ok (.ireturn, 1) := by decide +kernel
theorem dX8_robot_41 : decode cX8_robot 41 = .ok (.aload_n 0, 1) := by decide +kernel
theorem dX8_robot_42 : decode cX8_robot 42 = .ok (.iconst 0, 1) := by decide +kernel
theorem dX8_robot_43 : decode cX8_robot 43 = .ok (.putfield 50, 3) := by decide +kernel
theorem dX8_robot_46 : decode cX8_robot 46 = .ok (.iconst 0, 1) := by decide +kernel
theorem dX8_robot_47 : decode cX8_robot 47 = .ok (.istore_n 2, 1) := by decide +kernel
theorem dX8_robot_48 : decode cX8_robot 48 = .ok (.iconst 1, 1) := by decide +kernel
theorem dX8_robot_49 : decode cX8_robot 49 = .ok (.istore_n 3, 1) := by decide +kernel
theorem dX8_robot_50 : decode cX8_robot 50 = .ok (.iload_n 3, 1) := by decide +kernel
theorem dX8_robot_51 : decode cX8_robot 51 = .ok (.ifCond .eq 89, 3) := by decide +kernel
theorem dX8_robot_54 : decode cX8_robot 54 = .ok (.aload_n 0, 1) := by decide +kernel
theorem dX8_robot_55 : decode cX8_robot 55 = .ok (.getfield 162, 3) := by decide +kernel
theorem dX8_robot_58 : decode cX8_robot 58 = .ok (.ifCond .ne 82, 3) := by decide +kernel
theorem dX8_robot_61 : decode cX8_robot 61 = .ok (.aload_n 0, 1) := by decide +kernel
theorem dX8_robot_62 : decode cX8_robot 62 = .ok (.aload_n 0, 1) := by decide +kernel
theorem dX8_robot_63 : decode cX8_robot 63 = .ok (.getfield 38, 3) := by decide +kernel
theorem dX8_robot_66 : decode cX8_robot 66 = .ok (.aload_n 0, 1) := by decide +kernel
theorem dX8_robot_67 : decode cX8_robot 67 = .ok (.getfield 165, 3) := by decide +kernel
theorem dX8_robot_70 : decode cX8_robot 70 = .ok (.baload, 1) := by decide +kernel
theorem dX8_robot_71 : decode cX8_robot 71 = .ok (.ifCond .eq 10, 3) := by decide +kernel
theorem dX8_robot_74 : decode cX8_robot 74 = .ok (.aload_n 0, 1) := by decide +kernel
theorem dX8_robot_75 : decode cX8_robot 75 = .ok (.getfield 180, 3) := by decide +kernel
theorem dX8_robot_78 : decode cX8_robot 78 = .ok (.goto 4, 3) := by decide +kernel
theorem dX8_robot_81 : decode cX8_robot 81 = .ok (.lconst 0, 1) := by decide +kernel
theorem dX8_robot_82 : decode cX8_robot 82 = .ok (.aload_n 0, 1) := by decide +kernel
theorem dX8_robot_83 : decode cX8_robot 83 = .ok (.getfield 35, 3) := by decide +kernel
theorem dX8_robot_86 : decode cX8_robot 86 = .ok (.aload_n 0, 1) := by decide +kernel
theorem dX8_robot_87 : decode cX8_robot 87 = .ok (.getfield 165, 3) := by decide +kernel
theorem dX8_robot_90 : decode cX8_robot 90 = .ok (.laload, 1) := by decide +kernel
theorem dX8_robot_91 : decode cX8_robot 91 = .ok (.iload_n 1, 1) := by decide +kernel
theorem dX8_robot_92 : decode cX8_robot 92 = .ok (.invokevirtual 143, 3) := by decide +kernel
theorem dX8_robot_95 : decode cX8_robot 95 = .ok (.lstore 4, 2) := by decide +kernel
theorem dX8_robot_97 : decode cX8_robot 97 = .ok (.lload 4, 2) := by decide +kernel
theorem dX8_robot_99 : decode cX8_robot 99 = .ok (.lconst 0, 1) := by decide +kernel
theorem dX8_robot_100 : decode cX8_robot 100 = .ok (.lcmp, 1) := by decide +kernel
theorem dX8_robot_101 : decode cX8_robot 101 = .ok (.ifCond .le 16, 3) := by decide +kernel
theorem dX8_robot_104 : decode cX8_robot 104 = .ok (.aload_n 0, 1) := by decide +kernel
theorem dX8_robot_105 : decode cX8_robot 105 = .ok (.lload 4, 2) := by decide +kernel
theorem dX8_robot_107 : decode cX8_robot 107 = .ok (.invokevirtual 193, 3) := by decide +kernel
theorem dX8_robot_110 : decode cX8_robot 110 = .ok (.ifCond .ne 7, 3) := by decide +kernel
theorem dX8_robot_113 : decode cX8_robot 113 = .ok (.iconst 1, 1) := by decide +kernel
theorem dX8_robot_114 : decode cX8_robot 114 = .ok (.goto 4, 3) := by decide +kernel
theorem dX8_robot_117 : decode cX8_robot 117 = .ok (.iconst 0, 1) := by decide +kernel
theorem dX8_robot_118 : decode cX8_robot 118 = .ok (.istore_n 3, 1) := by decide +kernel
theorem dX8_robot_119 : decode cX8_robot 119 = .ok (.iload_n 3, 1) := by decide +kernel
theorem dX8_robot_120 : decode cX8_robot 120 = .ok (.ifCond .eq 17, 3) := by decide +kernel
theorem dX8_robot_123 : decode cX8_robot 123 = .ok (.iload_n 2, 1) := by decide +kernel
theorem dX8_robot_124 : decode cX8_robot 124 = .ok (.lload 4, 2) := by decide +kernel
theorem dX8_robot_126 : decode cX8_robot 126 = .ok (.invokestatic 184, 3) := by decide +kernel
theorem dX8_robot_129 : decode cX8_robot 129 = .ok (.iadd, 1) := by decide +kernel
theorem dX8_robot_130 : decode cX8_robot 130 = .ok (.istore_n 2, 1) := by decide +kernel
theorem dX8_robot_131 : decode cX8_robot 131 = .ok (.aload_n 0, 1) := by decide +kernel
theorem dX8_robot_132 : decode cX8_robot 132 = .ok (.lload 4, 2) := by decide +kernel
theorem dX8_robot_134 : decode cX8_robot 134 = .ok (.invokevirtual 196, 3) := by decide +kernel
theorem dX8_robot_137 : decode cX8_robot 137 = .ok (.goto (-87), 3) := by decide +kernel
theorem dX8_robot_140 : decode cX8_robot 140 = .ok (.aload_n 0, 1) := by decide +kernel
theorem dX8_robot_141 : decode cX8_robot 141 = .ok (.getfield 162, 3) := by decide +kernel
theorem dX8_robot_144 : decode cX8_robot 144 = .ok (.ifCond .ne 9, 3) := by decide +kernel
theorem dX8_robot_147 : decode cX8_robot 147 = .ok (.aload_n 0, 1) := by decide +kernel
theorem dX8_robot_148 : decode cX8_robot 148 = .ok (.invokevirtual 199, 3) := by decide +kernel
theorem dX8_robot_151 : decode cX8_robot 151 = .ok (.istore 4, 2) := by decide +kernel
theorem dX8_robot_153 : decode cX8_robot 153 = .ok (.iload_n 2, 1) := by decide +kernel
theorem dX8_robot_154 : decode cX8_robot 154 = .ok (.ireturn, 1) := by decide +kernel
theorem dJ6_bitCount_0f7a4_0 : decode cJ6_bitCount_0f7a4 0 = .ok (.iload_n 0, 1) := by decide +kernel
theorem dJ6_bitCount_0f7a4_1 : decode cJ6_bitCount_0f7a4 1 = .ok (.iload_n 0, 1) := by decide +kernel
theorem dJ6_bitCount_0f7a4_2 : decode cJ6_bitCount_0f7a4 2 = .ok (.iconst 1, 1) := by decide +kernel
theorem dJ6_bitCount_0f7a4_3 : decode cJ6_bitCount_0f7a4 3 = .ok (.iushr, 1) := by decide +kernel
theorem dJ6_bitCount_0f7a4_4 : decode cJ6_bitCount_0f7a4 4 = .ok (.ldc_w 265, 3) := by decide +kernel
theorem dJ6_bitCount_0f7a4_7 : decode cJ6_bitCount_0f7a4 7 = .ok (.iand, 1) := by decide +kernel
theorem dJ6_bitCount_0f7a4_8 : decode cJ6_bitCount_0f7a4 8 = .ok (.isub, 1) := by decide +kernel
theorem dJ6_bitCount_0f7a4_9 : decode cJ6_bitCount_0f7a4 9 = .ok (.istore_n 0, 1) := by decide +kernel
theorem dJ6_bitCount_0f7a4_10 : decode cJ6_bitCount_0f7a4 10 = .ok (.iload_n 0, 1) := by decide +kernel
theorem dJ6_bitCount_0f7a4_11 : decode cJ6_bitCount_0f7a4 11 = .ok (.ldc_w 266, 3) := by decide +kernel
theorem dJ6_bitCount_0f7a4_14 : decode cJ6_bitCount_0f7a4 14 = .ok (.iand, 1) := by decide +kernel
theorem dJ6_bitCount_0f7a4_15 : decode cJ6_bitCount_0f7a4 15 = .ok (.iload_n 0, 1) := by decide +kernel
theorem dJ6_bitCount_0f7a4_16 : decode cJ6_bitCount_0f7a4 16 = .ok (.iconst 2, 1) := by decide +kernel
theorem dJ6_bitCount_0f7a4_17 : decode cJ6_bitCount_0f7a4 17 = .ok (.iushr, 1) := by decide +kernel
theorem dJ6_bitCount_0f7a4_18 : decode cJ6_bitCount_0f7a4 18 = .ok (.ldc_w 266, 3) := by decide +kernel
theorem dJ6_bitCount_0f7a4_21 : decode cJ6_bitCount_0f7a4 21 = .ok (.iand, 1) := by decide +kernel
theorem dJ6_bitCount_0f7a4_22 : decode cJ6_bitCount_0f7a4 22 = .ok (.iadd, 1) := by decide +kernel
theorem dJ6_bitCount_0f7a4_23 : decode cJ6_bitCount_0f7a4 23 = .ok (.istore_n 0, 1) := by decide +kernel
theorem dJ6_bitCount_0f7a4_24 : decode cJ6_bitCount_0f7a4 24 = .ok (.iload_n 0, 1) := by decide +kernel
theorem dJ6_bitCount_0f7a4_25 : decode cJ6_bitCount_0f7a4 25 = .ok (.iload_n 0, 1) := by decide +kernel
theorem dJ6_bitCount_0f7a4_26 : decode cJ6_bitCount_0f7a4 26 = .ok (.iconst 4, 1) := by decide +kernel
theorem dJ6_bitCount_0f7a4_27 : decode cJ6_bitCount_0f7a4 27 = .ok (.iushr, 1) := by decide +kernel
theorem dJ6_bitCount_0f7a4_28 : decode cJ6_bitCount_0f7a4 28 = .ok (.iadd, 1) := by decide +kernel
theorem dJ6_bitCount_0f7a4_29 : decode cJ6_bitCount_0f7a4 29 = .ok (.ldc_w 267, 3) := by decide +kernel
theorem dJ6_bitCount_0f7a4_32 : decode cJ6_bitCount_0f7a4 32 = .ok (.iand, 1) := by decide +kernel
theorem dJ6_bitCount_0f7a4_33 : decode cJ6_bitCount_0f7a4 33 = .ok (.istore_n 0, 1) := by decide +kernel
theorem dJ6_bitCount_0f7a4_34 : decode cJ6_bitCount_0f7a4 34 = .ok (.iload_n 0, 1) := by decide +kernel
theorem dJ6_bitCount_0f7a4_35 : decode cJ6_bitCount_0f7a4 35 = .ok (.iload_n 0, 1) := by decide +kernel
theorem dJ6_bitCount_0f7a4_36 : decode cJ6_bitCount_0f7a4 36 = .ok (.bipush 8, 2) := by decide +kernel
theorem dJ6_bitCount_0f7a4_38 : decode cJ6_bitCount_0f7a4 38 = .ok (.iushr, 1) := by decide +kernel
theorem dJ6_bitCount_0f7a4_39 : decode cJ6_bitCount_0f7a4 39 = .ok (.iadd, 1) := by decide +kernel
theorem dJ6_bitCount_0f7a4_40 : decode cJ6_bitCount_0f7a4 40 = .ok (.istore_n 0, 1) := by decide +kernel
theorem dJ6_bitCount_0f7a4_41 : decode cJ6_bitCount_0f7a4 41 = .ok (.iload_n 0, 1) := by decide +kernel
theorem dJ6_bitCount_0f7a4_42 : decode cJ6_bitCount_0f7a4 42 = .ok (.iload_n 0, 1) := by decide +kernel
theorem dJ6_bitCount_0f7a4_43 : decode cJ6_bitCount_0f7a4 43 = .ok (.bipush 16, 2) := by decide +kernel
theorem dJ6_bitCount_0f7a4_45 : decode cJ6_bitCount_0f7a4 45 = .ok (.iushr, 1) := by decide +kernel
theorem dJ6_bitCount_0f7a4_46 : decode cJ6_bitCount_0f7a4 46 = .ok (.iadd, 1) := by decide +kernel
theorem dJ6_bitCount_0f7a4_47 : decode cJ6_bitCount_0f7a4 47 = .ok (.istore_n 0, 1) := by decide +kernel
theorem dJ6_bitCount_0f7a4_48 : decode cJ6_bitCount_0f7a4 48 = .ok (.iload_n 0, 1) := by decide +kernel
theorem dJ6_bitCount_0f7a4_49 : decode cJ6_bitCount_0f7a4 49 = .ok (.bipush 63, 2) := by decide +kernel
theorem dJ6_bitCount_0f7a4_51 : decode cJ6_bitCount_0f7a4 51 = .ok (.iand, 1) := by decide +kernel
theorem dJ6_bitCount_0f7a4_52 : decode cJ6_bitCount_0f7a4 52 = .ok (.ireturn, 1) := by decide +kernel
theorem dJ13_bitCount_95d88_0 : decode cJ13_bitCount_95d88 0 = .ok (.lload_n 0, 1) := by decide +kernel
theorem dJ13_bitCount_95d88_1 : decode cJ13_bitCount_95d88 1 = .ok (.lload_n 0, 1) := by decide +kernel
theorem dJ13_bitCount_95d88_2 : decode cJ13_bitCount_95d88 2 = .ok (.iconst 1, 1) := by decide +kernel
theorem dJ13_bitCount_95d88_3 : decode cJ13_bitCount_95d88 3 = .ok (.lushr, 1) := by decide +kernel
theorem dJ13_bitCount_95d88_4 : decode cJ13_bitCount_95d88 4 = .ok (.ldc2_w 314, 3) := by decide +kernel
theorem dJ13_bitCount_95d88_7 : decode cJ13_bitCount_95d88 7 = .ok (.land, 1) := by decide +kernel
theorem dJ13_bitCount_95d88_8 : decode cJ13_bitCount_95d88 8 = .ok (.lsub, 1) := by decide +kernel
theorem dJ13_bitCount_95d88_9 : decode cJ13_bitCount_95d88 9 = .ok (.lstore_n 0, 1) := by decide +kernel
theorem dJ13_bitCount_95d88_10 : decode cJ13_bitCount_95d88 10 = .ok (.lload_n 0, 1) := by decide +kernel
theorem dJ13_bitCount_95d88_11 : decode cJ13_bitCount_95d88 11 = .ok (.ldc2_w 316, 3) := by decide +kernel
theorem dJ13_bitCount_95d88_14 : decode cJ13_bitCount_95d88 14 = .ok (.land, 1) := by decide +kernel
theorem dJ13_bitCount_95d88_15 : decode cJ13_bitCount_95d88 15 = .ok (.lload_n 0, 1) := by decide +kernel
theorem dJ13_bitCount_95d88_16 : decode cJ13_bitCount_95d88 16 = .ok (.iconst 2, 1) := by decide +kernel
theorem dJ13_bitCount_95d88_17 : decode cJ13_bitCount_95d88 17 = .ok (.lushr, 1) := by decide +kernel
theorem dJ13_bitCount_95d88_18 : decode cJ13_bitCount_95d88 18 = .ok (.ldc2_w 316, 3) := by decide +kernel
theorem dJ13_bitCount_95d88_21 : decode cJ13_bitCount_95d88 21 = .ok (.land, 1) := by decide +kernel
theorem dJ13_bitCount_95d88_22 : decode cJ13_bitCount_95d88 22 = .ok (.ladd, 1) := by decide +kernel
theorem dJ13_bitCount_95d88_23 : decode cJ13_bitCount_95d88 23 = .ok (.lstore_n 0, 1) := by decide +kernel
theorem dJ13_bitCount_95d88_24 : decode cJ13_bitCount_95d88 24 = .ok (.lload_n 0, 1) := by decide +kernel
theorem dJ13_bitCount_95d88_25 : decode cJ13_bitCount_95d88 25 = .ok (.lload_n 0, 1) := by decide +kernel
theorem dJ13_bitCount_95d88_26 : decode cJ13_bitCount_95d88 26 = .ok (.iconst 4, 1) := by decide +kernel
theorem dJ13_bitCount_95d88_27 : decode cJ13_bitCount_95d88 27 = .ok (.lushr, 1) := by decide +kernel
theorem dJ13_bitCount_95d88_28 : decode cJ13_bitCount_95d88 28 = .ok (.ladd, 1) := by decide +kernel
theorem dJ13_bitCount_95d88_29 : decode cJ13_bitCount_95d88 29 = .ok (.ldc2_w 318, 3) := by decide +kernel
theorem dJ13_bitCount_95d88_32 : decode cJ13_bitCount_95d88 32 = .ok (.land, 1) := by decide +kernel
theorem dJ13_bitCount_95d88_33 : decode cJ13_bitCount_95d88 33 = .ok (.lstore_n 0, 1) := by decide +kernel
theorem dJ13_bitCount_95d88_34 : decode cJ13_bitCount_95d88 34 = .ok (.lload_n 0, 1) := by decide +kernel
theorem dJ13_bitCount_95d88_35 : decode cJ13_bitCount_95d88 35 = .ok (.lload_n 0, 1) := by decide +kernel
theorem dJ13_bitCount_95d88_36 : decode cJ13_bitCount_95d88 36 = .ok (.bipush 8, 2) := by decide +kernel
theorem dJ13_bitCount_95d88_38 : decode cJ13_bitCount_95d88 38 = .ok (.lushr, 1) := by decide +kernel
theorem dJ13_bitCount_95d88_39 : decode cJ13_bitCount_95d88 39 = .ok (.ladd, 1) := by decide +kernel
theorem dJ13_bitCount_95d88_40 : decode cJ13_bitCount_95d88 40 = .ok (.lstore_n 0, 1) := by decide +kernel
theorem dJ13_bitCount_95d88_41 : decode cJ13_bitCount_95d88 41 = .ok (.lload_n 0, 1) := by decide +kernel
theorem dJ13_bitCount_95d88_42 : decode cJ13_bitCount_95d88 42 = .ok (.lload_n 0, 1) := by decide +kernel
theorem dJ13_bitCount_95d88_43 : decode cJ13_bitCount_95d88 43 = .ok (.bipush 16, 2) := by decide +kernel
theorem dJ13_bitCount_95d88_45 : decode cJ13_bitCount_95d88 45 = .ok (.lushr, 1) := by decide +kernel
theorem dJ13_bitCount_95d88_46 : decode cJ13_bitCount_95d88 46 = .ok (.ladd, 1) := by decide +kernel
theorem dJ13_bitCount_95d88_47 : decode cJ13_bitCount_95d88 47 = .ok (.lstore_n 0, 1) := by decide +kernel
theorem dJ13_bitCount_95d88_48 : decode cJ13_bitCount_95d88 48 = .ok (.lload_n 0, 1) := by decide +kernel
theorem dJ13_bitCount_95d88_49 : decode cJ13_bitCount_95d88 49 = .ok (.lload_n 0, 1) := by decide +kernel
theorem dJ13_bitCount_95d88_50 : decode cJ13_bitCount_95d88 50 = .ok (.bipush 32, 2) := by decide +kernel
theorem dJ13_bitCount_95d88_52 : decode cJ13_bitCount_95d88 52 = .ok (.lushr, 1) := by decide +kernel
theorem dJ13_bitCount_95d88_53 : decode cJ13_bitCount_95d88 53 = .ok (.ladd, 1) := by decide +kernel
theorem dJ13_bitCount_95d88_54 : decode cJ13_bitCount_95d88 54 = .ok (.lstore_n 0, 1) := by decide +kernel
theorem dJ13_bitCount_95d88_55 : decode cJ13_bitCount_95d88 55 = .ok (.lload_n 0, 1) := by decide +kernel
theorem dJ13_bitCount_95d88_56 : decode cJ13_bitCount_95d88 56 = .ok (.l2i, 1) := by decide +kernel
theorem dJ13_bitCount_95d88_57 : decode cJ13_bitCount_95d88 57 = .ok (.bipush 127, 2) := by decide +kernel
theorem dJ13_bitCount_95d88_59 : decode cJ13_bitCount_95d88 59 = .ok (.iand, 1) := by decide +kernel
theorem dJ13_bitCount_95d88_60 : decode cJ13_bitCount_95d88 60 = .ok (.ireturn, 1) := by decide +kernel
theorem dJ9_max_7cf53_0 : decode cJ9_max_7cf53 0 = .ok (.iload_n 0, 1) := by decide +kernel
theorem dJ9_max_7cf53_1 : decode cJ9_max_7cf53 1 = .ok (.iload_n 1, 1) := by decide +kernel
theorem dJ9_max_7cf53_2 : decode cJ9_max_7cf53 2 = .ok (.if_icmp .lt 7, 3) := by decide +kernel
theorem dJ9_max_7cf53_5 : decode cJ9_max_7cf53 5 = .ok (.iload_n 0, 1) := by decide +kernel
theorem dJ9_max_7cf53_6 : decode cJ9_max_7cf53 6 = .ok (.goto 4, 3) := by decide +kernel
theorem dJ9_max_7cf53_9 : decode cJ9_max_7cf53 9 = .ok (.iload_n 1, 1) := by decide +kernel
theorem dJ9_max_7cf53_10 : decode cJ9_max_7cf53 10 = .ok (.ireturn, 1) := by decide +kernel
theorem dJ9_max_f86c9_0 : decode cJ9_max_f86c9 0 = .ok (.lload_n 0, 1) := by decide +kernel
theorem dJ9_max_f86c9_1 : decode cJ9_max_f86c9 1 = .ok (.lload_n 2, 1) := by decide +kernel
theorem dJ9_max_f86c9_2 : decode cJ9_max_f86c9 2 = .ok (.lcmp, 1) := by decide +kernel
theorem dJ9_max_f86c9_3 : decode cJ9_max_f86c9 3 = .ok (.ifCond .lt 7, 3) := by decide +kernel
theorem dJ9_max_f86c9_6 : decode cJ9_max_f86c9 6 = .ok (.lload_n 0, 1) := by decide +kernel
theorem dJ9_max_f86c9_7 : decode cJ9_max_f86c9 7 = .ok (.goto 4, 3) := by decide +kernel
theorem dJ9_max_f86c9_10 : decode cJ9_max_f86c9 10 = .ok (.lload_n 2, 1) := by decide +kernel
theorem dJ9_max_f86c9_11 : decode cJ9_max_f86c9 11 = .ok (.lreturn, 1) := by decide +kernel
theorem dJ9_min_7cf53_0 : decode cJ9_min_7cf53 0 = .ok (.iload_n 0, 1) := by decide +kernel
theorem dJ9_min_7cf53_1 : decode cJ9_min_7cf53 1 = .ok (.iload_n 1, 1) := by decide +kernel
theorem dJ9_min_7cf53_2 : decode cJ9_min_7cf53 2 = .ok (.if_icmp .gt 7, 3) := by decide +kernel
theorem dJ9_min_7cf53_5 : decode cJ9_min_7cf53 5 = .ok (.iload_n 0, 1) := by decide +kernel
theorem dJ9_min_7cf53_6 : decode cJ9_min_7cf53 6 = .ok (.goto 4, 3) := by decide +kernel
theorem dJ9_min_7cf53_9 : decode cJ9_min_7cf53 9 = .ok (.iload_n 1, 1) := by decide +kernel
theorem dJ9_min_7cf53_10 : decode cJ9_min_7cf53 10 = .ok (.ireturn, 1) := by decide +kernel
theorem dJ7_fill_d0a16_0 : decode cJ7_fill_d0a16 0 = .ok (.iconst 0, 1) := by decide +kernel
theorem dJ7_fill_d0a16_1 : decode cJ7_fill_d0a16 1 = .ok (.istore_n 3, 1) := by decide +kernel
theorem dJ7_fill_d0a16_2 : decode cJ7_fill_d0a16 2 = .ok (.aload_n 0, 1) := by decide +kernel
theorem dJ7_fill_d0a16_3 : decode cJ7_fill_d0a16 3 = .ok (.arraylength, 1) := by decide +kernel
theorem dJ7_fill_d0a16_4 : decode cJ7_fill_d0a16 4 = .ok (.istore 4, 2) := by decide +kernel
theorem dJ7_fill_d0a16_6 : decode cJ7_fill_d0a16 6 = .ok (.iload_n 3, 1) := by decide +kernel
theorem dJ7_fill_d0a16_7 : decode cJ7_fill_d0a16 7 = .ok (.iload 4, 2) := by decide +kernel
theorem dJ7_fill_d0a16_9 : decode cJ7_fill_d0a16 9 = .ok (.if_icmp .ge 13, 3) := by decide +kernel
theorem dJ7_fill_d0a16_12 : decode cJ7_fill_d0a16 12 = .ok (.aload_n 0, 1) := by decide +kernel
theorem dJ7_fill_d0a16_13 : decode cJ7_fill_d0a16 13 = .ok (.iload_n 3, 1) := by decide +kernel
theorem dJ7_fill_d0a16_14 : decode cJ7_fill_d0a16 14 = .ok (.lload_n 1, 1) := by decide +kernel
theorem dJ7_fill_d0a16_15 : decode cJ7_fill_d0a16 15 = .ok (.lastore, 1) := by decide +kernel
theorem dJ7_fill_d0a16_16 : decode cJ7_fill_d0a16 16 = .ok (.iinc 3 1, 3) := by decide +kernel
theorem dJ7_fill_d0a16_19 : decode cJ7_fill_d0a16 19 = .ok (.goto (-13), 3) := by decide +kernel
theorem dJ7_fill_d0a16_22 : decode cJ7_fill_d0a16 22 = .ok (.return_, 1) := by decide +kernel
