theorem dX8_behind_0 : decode cX8_behind 0 = .ok (.iload_n 1, 1) := by decide +kernel
theorem dX8_behind_1 : decode cX8_behind 1 = .ok (.iconst 4, 1) := by decide +kernel
theorem dX8_behind_2 : decode cX8_behind 2 = .ok (.irem, 1) := by decide +kernel
theorem dX8_behind_3 : decode cX8_behind 3 = .ok (.istore 4, 2) := by decide +kernel
theorem dX8_behind_5 : decode cX8_behind 5 = .ok (.iload_n 0, 1) := by decide +kernel
theorem dX8_behind_6 : decode cX8_behind 6 = .ok (.iload 4, 2) := by decide +kernel
theorem dX8_behind_8 : decode cX8_behind 8 = .ok (.invokestatic 63, 3) := by decide +kernel
theorem dX8_behind_11 : decode cX8_behind 11 = .ok (.istore 5, 2) := by decide +kernel
theorem dX8_behind_13 : decode cX8_behind 13 = .ok (.iload_n 0, 1) := by decide +kernel
theorem dX8_behind_14 : decode cX8_behind 14 = .ok (.invokestatic 67, 3) := by decide +kernel
theorem dX8_behind_17 : decode cX8_behind 17 = .ok (.istore 6, 2) := by decide +kernel
theorem dX8_behind_19 : decode cX8_behind 19 = .ok (.iload_n 0, 1) := by decide +kernel
theorem dX8_behind_20 : decode cX8_behind 20 = .ok (.invokestatic 70, 3) := by decide +kernel
theorem dX8_behind_23 : decode cX8_behind 23 = .ok (.iload_n 3, 1) := by decide +kernel
theorem dX8_behind_24 : decode cX8_behind 24 = .ok (.ifCond .eq 7, 3) := by decide +kernel
theorem dX8_behind_27 : decode cX8_behind 27 = .ok (.iconst 1, 1) := by decide +kernel
theorem dX8_behind_28 : decode cX8_behind 28 = .ok (.goto 4, 3) := by decide +kernel
theorem dX8_behind_31 : decode cX8_behind 31 = .ok (.iconst 0, 1) := by decide +kernel
theorem dX8_behind_32 : decode cX8_behind 32 = .ok (.iadd, 1) := by decide +kernel
theorem dX8_behind_33 : decode cX8_behind 33 = .ok (.istore 7, 2) := by decide +kernel
theorem dX8_behind_35 : decode cX8_behind 35 = .ok (.iload 7, 2) := by decide +kernel
theorem dX8_behind_37 : decode cX8_behind 37 = .ok (.iconst 2, 1) := by decide +kernel
theorem dX8_behind_38 : decode cX8_behind 38 = .ok (.if_icmp .gt 37, 3) := by decide +kernel
theorem dX8_behind_41 : decode cX8_behind 41 = .ok (.iload_n 2, 1) := by decide +kernel
theorem dX8_behind_42 : decode cX8_behind 42 = .ok (.iconst 3, 1) := by decide +kernel
theorem dX8_behind_43 : decode cX8_behind 43 = .ok (.if_icmp .ne 7, 3) := by decide +kernel
theorem dX8_behind_46 : decode cX8_behind 46 = .ok (.iconst 1, 1) := by decide +kernel
theorem dX8_behind_47 : decode cX8_behind 47 = .ok (.goto 4, 3) := by decide +kernel
theorem dX8_behind_50 : decode cX8_behind 50 = .ok (.iconst 0, 1) := by decide +kernel
theorem dX8_behind_51 : decode cX8_behind 51 = .ok (.iload 5, 2) := by decide +kernel
theorem dX8_behind_53 : decode cX8_behind 53 = .ok (.ifCond .le 7, 3) := by decide +kernel
theorem dX8_behind_56 : decode cX8_behind 56 = .ok (.iconst 1, 1) := by decide +kernel
theorem dX8_behind_57 : decode cX8_behind 57 = .ok (.goto 4, 3) := by decide +kernel
theorem dX8_behind_60 : decode cX8_behind 60 = .ok (.iconst 0, 1) := by decide +kernel
theorem dX8_behind_61 : decode cX8_behind 61 = .ok (.if_icmp .eq 16, 3) := by decide +kernel
theorem dX8_behind_64 : decode cX8_behind 64 = .ok (.iload_n 2, 1) := by decide +kernel
theorem dX8_behind_65 : decode cX8_behind 65 = .ok (.iconst 3, 1) := by decide +kernel
theorem dX8_behind_66 : decode cX8_behind 66 = .ok (.if_icmp .eq 9, 3) := by decide +kernel
theorem dX8_behind_69 : decode cX8_behind 69 = .ok (.iload 5, 2) := by decide +kernel
theorem dX8_behind_71 : decode cX8_behind 71 = .ok (.iconst 3, 1) := by decide +kernel
theorem dX8_behind_72 : decode cX8_behind 72 = .ok (.if_icmp .ge 5, 3) := by decide +kernel
theorem dX8_behind_75 : decode cX8_behind 75 = .ok (.iconst (-1), 1) := by decide +kernel
theorem dX8_behind_76 : decode cX8_behind 76 = .ok (.ireturn, 1) := by decide +kernel
theorem dX8_behind_77 : decode cX8_behind 77 = .ok (.iload_n 2, 1) := by decide +kernel
theorem dX8_behind_78 : decode cX8_behind 78 = .ok (.iconst 3, 1) := by decide +kernel
theorem dX8_behind_79 : decode cX8_behind 79 = .ok (.if_icmp .ne 20, 3) := by decide +kernel
theorem dX8_behind_82 : decode cX8_behind 82 = .ok (.iload 5, 2) := by decide +kernel
theorem dX8_behind_84 : decode cX8_behind 84 = .ok (.iconst 3, 1) := by decide +kernel
theorem dX8_behind_85 : decode cX8_behind 85 = .ok (.if_icmp .ne 7, 3) := by decide +kernel
theorem dX8_behind_88 : decode cX8_behind 88 = .ok (.iconst 3, 1) := by decide +kernel
theorem dX8_behind_89 : decode cX8_behind 89 = .ok (.goto 20, 3) := by decide +kernel
theorem dX8_behind_92 : decode cX8_behind 92 = .ok (.iload 5, 2) := by decide +kernel
theorem dX8_behind_94 : decode cX8_behind 94 = .ok (.iconst 1, 1) := by decide +kernel
theorem dX8_behind_95 : decode cX8_behind 95 = .ok (.iadd, 1) := by decide +kernel
theorem dX8_behind_96 : decode cX8_behind 96 = .ok (.goto 13, 3) := by decide +kernel
theorem dX8_behind_99 : decode cX8_behind 99 = .ok (.iload_n 2, 1) := by decide +kernel
theorem dX8_behind_100 : decode cX8_behind 100 = .ok (.iconst 2, 1) := by decide +kernel
theorem dX8_behind_101 : decode cX8_behind 101 = .ok (.if_icmp .ne 7, 3) := by decide +kernel
theorem dX8_behind_104 : decode cX8_behind 104 = .ok (.iconst 1, 1) := by decide +kernel
theorem dX8_behind_105 : decode cX8_behind 105 = .ok (.goto 4, 3) := by decide +kernel
theorem dX8_behind_108 : decode cX8_behind 108 = .ok (.iconst 0, 1) := by decide +kernel
theorem dX8_behind_109 : decode cX8_behind 109 = .ok (.istore 8, 2) := by decide +kernel
theorem dX8_behind_111 : decode cX8_behind 111 = .ok (.iload_n 2, 1) := by decide +kernel
theorem dX8_behind_112 : decode cX8_behind 112 = .ok (.iconst 1, 1) := by decide +kernel
theorem dX8_behind_113 : decode cX8_behind 113 = .ok (.if_icmp .ne 6, 3) := by decide +kernel
theorem dX8_behind_116 : decode cX8_behind 116 = .ok (.iinc 6 1, 3) := by decide +kernel
theorem dX8_behind_119 : decode cX8_behind 119 = .ok (.iload 4, 2) := by decide +kernel
theorem dX8_behind_121 : decode cX8_behind 121 = .ok (.iconst 3, 1) := by decide +kernel
theorem dX8_behind_122 : decode cX8_behind 122 = .ok (.if_icmp .ne 20, 3) := by decide +kernel
theorem dX8_behind_125 : decode cX8_behind 125 = .ok (.iload 6, 2) := by decide +kernel
theorem dX8_behind_127 : decode cX8_behind 127 = .ok (.iconst 1, 1) := by decide +kernel
theorem dX8_behind_128 : decode cX8_behind 128 = .ok (.if_icmp .eq 9, 3) := by decide +kernel
theorem dX8_behind_131 : decode cX8_behind 131 = .ok (.iload 6, 2) := by decide +kernel
theorem dX8_behind_133 : decode cX8_behind 133 = .ok (.iconst 2, 1) := by decide +kernel
theorem dX8_behind_134 : decode cX8_behind 134 = .ok (.if_icmp .ne 5, 3) := by decide +kernel
theorem dX8_behind_137 : decode cX8_behind 137 = .ok (.iconst (-1), 1) := by decide +kernel
theorem dX8_behind_138 : decode cX8_behind 138 = .ok (.ireturn, 1) := by decide +kernel
theorem dX8_behind_139 : decode cX8_behind 139 = .ok (.iconst 0, 1) := by decide +kernel
theorem dX8_behind_140 : decode cX8_behind 140 = .ok (.istore 6, 2) := by decide +kernel
theorem dX8_behind_142 : decode cX8_behind 142 = .ok (.iload_n 0, 1) := by decide +kernel
theorem dX8_behind_143 : decode cX8_behind 143 = .ok (.bipush 15, 2) := by decide +kernel
theorem dX8_behind_145 : decode cX8_behind 145 = .ok (.idiv, 1) := by decide +kernel
theorem dX8_behind_146 : decode cX8_behind 146 = .ok (.iconst 3, 1) := by decide +kernel
theorem dX8_behind_147 : decode cX8_behind 147 = .ok (.iconst 2, 1) := by decide +kernel
theorem dX8_behind_148 : decode cX8_behind 148 = .ok (.iload 4, 2) := by decide +kernel
theorem dX8_behind_150 : decode cX8_behind 150 = .ok (.imul, 1) := by decide +kernel
theorem dX8_behind_151 : decode cX8_behind 151 = .ok (.ishl, 1) := by decide +kernel
theorem dX8_behind_152 : decode cX8_behind 152 = .ok (.iconst (-1), 1) := by decide +kernel
theorem dX8_behind_153 : decode cX8_behind 153 = .ok (.ixor, 1) := by decide +kernel
theorem dX8_behind_154 : decode cX8_behind 154 = .ok (.iand, 1) := by decide +kernel
theorem dX8_behind_155 : decode cX8_behind 155 = .ok (.iload 8, 2) := by decide +kernel
theorem dX8_behind_157 : decode cX8_behind 157 = .ok (.iconst 2, 1) := by decide +kernel
theorem dX8_behind_158 : decode cX8_behind 158 = .ok (.iload 4, 2) := by decide +kernel
theorem dX8_behind_160 : decode cX8_behind 160 = .ok (.imul, 1) := by decide +kernel
theorem dX8_behind_161 : decode cX8_behind 161 = .ok (.ishl, 1) := by decide +kernel
theorem dX8_behind_162 : decode cX8_behind 162 = .ok (.ior, 1) := by decide +kernel
theorem dX8_behind_163 : decode cX8_behind 163 = .ok (.istore 9, 2) := by decide +kernel
theorem dX8_behind_165 : decode cX8_behind 165 = .ok (.iload 9, 2) := by decide +kernel
theorem dX8_behind_167 : decode cX8_behind 167 = .ok (.iconst 5, 1) := by decide +kernel
theorem dX8_behind_168 : decode cX8_behind 168 = .ok (.imul, 1) := by decide +kernel
theorem dX8_behind_169 : decode cX8_behind 169 = .ok (.iload 6, 2) := by decide +kernel
theorem dX8_behind_171 : decode cX8_behind 171 = .ok (.iadd, 1) := by decide +kernel
theorem dX8_behind_172 : decode cX8_behind 172 = .ok (.iconst 3, 1) := by decide +kernel
theorem dX8_behind_173 : decode cX8_behind 173 = .ok (.imul, 1) := by decide +kernel
theorem dX8_behind_174 : decode cX8_behind 174 = .ok (.iload 7, 2) := by decide +kernel
theorem dX8_behind_176 : decode cX8_behind 176 = .ok (.iadd, 1) := by decide +kernel
theorem dX8_behind_177 : decode cX8_behind 177 = .ok (.ireturn, 1) := by decide +kernel
set_option maxRecDepth 20000 in
theorem ggX8_isWhole_X8_run : GoodIn wsX8_isWhole wsX8_run := goodIn_r _ [4] (by decide +kernel) (by decide +kernel)
set_option maxRecDepth 20000 in
theorem gX8_isWhole_X8_run : GoodIn wsX8_isWhole (va_wsS RX8 63 yX8_run wsX8_run) := goodIn_app (goodIn_of _ (by decide +kernel)) ggX8_isWhole_X8_run
set_option maxRecDepth 20000 in
theorem ggX8_isWhole_X8_inGroup : GoodIn wsX8_isWhole wsX8_inGroup := goodIn_r _ [7] (by decide +kernel) (by decide +kernel)
set_option maxRecDepth 20000 in
theorem gX8_isWhole_X8_inGroup : GoodIn wsX8_isWhole (va_wsS RX8 67 yX8_inGroup wsX8_inGroup) := goodIn_app (goodIn_of _ (by decide +kernel)) ggX8_isWhole_X8_inGroup
theorem dX8_isWhole_0 : decode cX8_isWhole 0 = .ok (.iconst 0, 1) := by decide +kernel
theorem dX8_isWhole_1 : decode cX8_isWhole 1 = .ok (.istore_n 1, 1) := by decide +kernel
theorem dX8_isWhole_2 : decode cX8_isWhole 2 = .ok (.iload_n 1, 1) := by decide +kernel
theorem dX8_isWhole_3 : decode cX8_isWhole 3 = .ok (.iconst 4, 1) := by decide +kernel
theorem dX8_isWhole_4 : decode cX8_isWhole 4 = .ok (.if_icmp .ge 29, 3) := by decide +kernel
theorem dX8_isWhole_7 : decode cX8_isWhole 7 = .ok (.iload_n 0, 1) := by decide +kernel
theorem dX8_isWhole_8 : decode cX8_isWhole 8 = .ok (.iload_n 1, 1) := by decide +kernel
theorem dX8_isWhole_9 : decode cX8_isWhole 9 = .ok (.invokestatic 63, 3) := by decide +kernel
theorem dX8_isWhole_12 : decode cX8_isWhole 12 = .ok (.iconst 1, 1) := by decide +kernel
theorem dX8_isWhole_13 : decode cX8_isWhole 13 = .ok (.if_icmp .eq 12, 3) := by decide +kernel
theorem dX8_isWhole_16 : decode cX8_isWhole 16 = .ok (.iload_n 0, 1) := by decide +kernel
theorem dX8_isWhole_17 : decode cX8_isWhole 17 = .ok (.iload_n 1, 1) := by decide +kernel
theorem dX8_isWhole_18 : decode cX8_isWhole 18 = .ok (.invokestatic 63, 3) := by decide +kernel
theorem dX8_isWhole_21 : decode cX8_isWhole 21 = .ok (.iconst 2, 1) := by decide +kernel
theorem dX8_isWhole_22 : decode cX8_isWhole 22 = .ok (.if_icmp .ne 5, 3) := by decide +kernel
theorem dX8_isWhole_25 : decode cX8_isWhole 25 = .ok (.iconst 0, 1) := by decide +kernel
theorem dX8_isWhole_26 : decode cX8_isWhole 26 = .ok (.ireturn, 1) := by decide +kernel
theorem dX8_isWhole_27 : decode cX8_isWhole 27 = .ok (.iinc 1 1, 3) := by decide +kernel
theorem dX8_isWhole_30 : decode cX8_isWhole 30 = .ok (.goto (-28), 3) := by decide +kernel
theorem dX8_isWhole_33 : decode cX8_isWhole 33 = .ok (.iload_n 0, 1) := by decide +kernel
theorem dX8_isWhole_34 : decode cX8_isWhole 34 = .ok (.invokestatic 67, 3) := by decide +kernel
theorem dX8_isWhole_37 : decode cX8_isWhole 37 = .ok (.ifCond .ne 7, 3) := by decide +kernel
theorem dX8_isWhole_40 : decode cX8_isWhole 40 = .ok (.iconst 1, 1) := by decide +kernel
theorem dX8_isWhole_41 : decode cX8_isWhole 41 = .ok (.goto 4, 3) := by decide +kernel
theorem dX8_isWhole_44 : decode cX8_isWhole 44 = .ok (.iconst 0, 1) := by decide +kernel
theorem dX8_isWhole_45 : decode cX8_isWhole 45 = .ok (.ireturn, 1) := by decide +kernel
set_option maxRecDepth 20000 in
theorem ggX8_count_X8_isWhole : GoodIn wsX8_count wsX8_isWhole := goodIn_r _ [6, 7, 8, 5, 9, 10, 11, 12] (by decide +kernel) (by decide +kernel)
set_option maxRecDepth 20000 in
theorem gX8_count_X8_isWhole : GoodIn wsX8_count (va_wsS RX8 74 yX8_isWhole wsX8_isWhole) := goodIn_app (goodIn_of _ (by decide +kernel)) ggX8_count_X8_isWhole
set_option maxRecDepth 20000 in
theorem ggX8_count_X8_jokers : GoodIn wsX8_count wsX8_jokers := goodIn_r _ [15] (by decide +kernel) (by decide +kernel)
set_option maxRecDepth 20000 in
theorem gX8_count_X8_jokers : GoodIn wsX8_count (va_wsS RX8 70 yX8_jokers wsX8_jokers) := goodIn_app (goodIn_of _ (by decide +kernel)) ggX8_count_X8_jokers
set_option maxRecDepth 20000 in
theorem ggX8_count_X8_jokersOf : GoodIn wsX8_count wsX8_jokersOf := goodIn_r _ [18] (by decide +kernel) (by decide +kernel)
set_option maxRecDepth 20000 in
theorem gX8_count_X8_jokersOf : GoodIn wsX8_count (va_wsS RX8 78 yX8_jokersOf wsX8_jokersOf) := goodIn_app (goodIn_of _ (by decide +kernel)) ggX8_count_X8_jokersOf
set_option maxRecDepth 20000 in
theorem ggX8_count_X8_has : GoodIn wsX8_count wsX8_has := goodIn_r _ [21] (by decide +kernel) (by decide +kernel)
set_option maxRecDepth 20000 in
theorem gX8_count_X8_has : GoodIn wsX8_count (va_wsS RX8 55 yX8_has wsX8_has) := goodIn_app (goodIn_of _ (by decide +kernel)) ggX8_count_X8_has
set_option maxRecDepth 20000 in
theorem ggX8_count_X8_behind : GoodIn wsX8_count wsX8_behind := goodIn_r _ [24, 7, 8, 5, 9, 10, 11, 12, 13, 14, 15] (by decide +kernel) (by decide +kernel)
set_option maxRecDepth 20000 in
theorem gX8_count_X8_behind : GoodIn wsX8_count (va_wsS RX8 82 yX8_behind wsX8_behind) := goodIn_app (goodIn_of _ (by decide +kernel)) ggX8_count_X8_behind
theorem dX8_count_0 : decode cX8_count 0 = .ok (.iconst 0, 1) := by decide +kernel
theorem dX8_count_1 : decode cX8_count 1 = .ok (.istore_n 3, 1) := by decide +kernel
theorem dX8_count_2 : decode cX8_count 2 = .ok (.iload_n 3, 1) := by decide +kernel
theorem dX8_count_3 : decode cX8_count 3 = .ok (.sipush 3840, 3) := by decide +kernel
theorem dX8_count_6 : decode cX8_count 6 = .ok (.if_icmp .ge 41, 3) := by decide +kernel
theorem dX8_count_9 : decode cX8_count 9 = .ok (.aload_n 0, 1) := by decide +kernel
theorem dX8_count_10 : decode cX8_count 10 = .ok (.getfield 8, 3) := by decide +kernel
theorem dX8_count_13 : decode cX8_count 13 = .ok (.ldc 73, 2) := by decide +kernel
theorem dX8_count_15 : decode cX8_count 15 = .ok (.iload_n 3, 1) := by decide +kernel
theorem dX8_count_16 : decode cX8_count 16 = .ok (.iadd, 1) := by decide +kernel
theorem dX8_count_17 : decode cX8_count 17 = .ok (.iload_n 3, 1) := by decide +kernel
theorem dX8_count_18 : decode cX8_count 18 = .ok (.invokestatic 74, 3) := by decide +kernel
theorem dX8_count_21 : decode cX8_count 21 = .ok (.ifCond .eq 18, 3) := by decide +kernel
theorem dX8_count_24 : decode cX8_count 24 = .ok (.iload_n 3, 1) := by decide +kernel
theorem dX8_count_25 : decode cX8_count 25 = .ok (.invokestatic 70, 3) := by decide +kernel
theorem dX8_count_28 : decode cX8_count 28 = .ok (.lload_n 1, 1) := by decide +kernel
theorem dX8_count_29 : decode cX8_count 29 = .ok (.invokestatic 78, 3) := by decide +kernel
theorem dX8_count_32 : decode cX8_count 32 = .ok (.if_icmp .ne 7, 3) := by decide +kernel
theorem dX8_count_35 : decode cX8_count 35 = .ok (.lconst 1, 1) := by decide +kernel
theorem dX8_count_36 : decode cX8_count 36 = .ok (.goto 4, 3) := by decide +kernel
theorem dX8_count_39 : decode cX8_count 39 = .ok (.lconst 0, 1) := by decide +kernel
theorem dX8_count_40 : decode cX8_count 40 = .ok (.lastore, 1) := by decide +kernel
theorem dX8_count_41 : decode cX8_count 41 = .ok (.iinc 3 1, 3) := by decide +kernel
theorem dX8_count_44 : decode cX8_count 44 = .ok (.goto (-42), 3) := by decide +kernel
theorem dX8_count_47 : decode cX8_count 47 = .ok (.bipush 51, 2) := by decide +kernel
theorem dX8_count_49 : decode cX8_count 49 = .ok (.istore_n 3, 1) := by decide +kernel
theorem dX8_count_50 : decode cX8_count 50 = .ok (.iload_n 3, 1) := by decide +kernel
theorem dX8_count_51 : decode cX8_count 51 = .ok (.ifCond .lt 126, 3) := by decide +kernel
theorem dX8_count_54 : decode cX8_count 54 = .ok (.lload_n 1, 1) := by decide +kernel
theorem dX8_count_55 : decode cX8_count 55 = .ok (.iload_n 3, 1) := by decide +kernel
theorem dX8_count_56 : decode cX8_count 56 = .ok (.invokestatic 55, 3) := by decide +kernel
theorem dX8_count_59 : decode cX8_count 59 = .ok (.istore 4, 2) := by decide +kernel
theorem dX8_count_61 : decode cX8_count 61 = .ok (.iconst 0, 1) := by decide +kernel
theorem dX8_count_62 : decode cX8_count 62 = .ok (.istore 5, 2) := by decide +kernel
theorem dX8_count_64 : decode cX8_count 64 = .ok (.iload 5, 2) := by decide +kernel
theorem dX8_count_66 : decode cX8_count 66 = .ok (.sipush 3840, 3) := by decide +kernel
theorem dX8_count_69 : decode cX8_count 69 = .ok (.if_icmp .ge 102, 3) := by decide +kernel
theorem dX8_count_72 : decode cX8_count 72 = .ok (.lconst 0, 1) := by decide +kernel
theorem dX8_count_73 : decode cX8_count 73 = .ok (.lstore 6, 2) := by decide +kernel
theorem dX8_count_75 : decode cX8_count 75 = .ok (.iload 4, 2) := by decide +kernel
theorem dX8_count_77 : decode cX8_count 77 = .ok (.ifCond .eq 7, 3) := by decide +kernel
theorem dX8_count_80 : decode cX8_count 80 = .ok (.iconst 1, 1) := by decide +kernel
theorem dX8_count_81 : decode cX8_count 81 = .ok (.goto 4, 3) := by decide +kernel
theorem dX8_count_84 : decode cX8_count 84 = .ok (.iconst 0, 1) := by decide +kernel
theorem dX8_count_85 : decode cX8_count 85 = .ok (.istore 8, 2) := by decide +kernel
theorem dX8_count_87 : decode cX8_count 87 = .ok (.iload 8, 2) := by decide +kernel
theorem dX8_count_89 : decode cX8_count 89 = .ok (.iconst 3, 1) := by decide +kernel
theorem dX8_count_90 : decode cX8_count 90 = .ok (.if_icmp .gt 60, 3) := by decide +kernel
theorem dX8_count_93 : decode cX8_count 93 = .ok (.iload 5, 2) := by decide +kernel
theorem dX8_count_95 : decode cX8_count 95 = .ok (.iload_n 3, 1) := by decide +kernel
theorem dX8_count_96 : decode cX8_count 96 = .ok (.iload 8, 2) := by decide +kernel
theorem dX8_count_98 : decode cX8_count 98 = .ok (.iload 8, 2) := by decide +kernel
theorem dX8_count_100 : decode cX8_count 100 = .ok (.ifCond .le 12, 3) := by decide +kernel
theorem dX8_count_103 : decode cX8_count 103 = .ok (.iload 4, 2) := by decide +kernel
theorem dX8_count_105 : decode cX8_count 105 = .ok (.ifCond .ne 7, 3) := by decide +kernel
theorem dX8_count_108 : decode cX8_count 108 = .ok (.iconst 1, 1) := by decide +kernel
theorem dX8_count_109 : decode cX8_count 109 = .ok (.goto 4, 3) := by decide +kernel
theorem dX8_count_112 : decode cX8_count 112 = .ok (.iconst 0, 1) := by decide +kernel
theorem dX8_count_113 : decode cX8_count 113 = .ok (.invokestatic 82, 3) := by decide +kernel
theorem dX8_count_116 : decode cX8_count 116 = .ok (.istore 9, 2) := by decide +kernel
theorem dX8_count_118 : decode cX8_count 118 = .ok (.iload 9, 2) := by decide +kernel
theorem dX8_count_120 : decode cX8_count 120 = .ok (.iconst (-1), 1) := by decide +kernel
theorem dX8_count_121 : decode cX8_count 121 = .ok (.if_icmp .eq 23, 3) := by decide +kernel
theorem dX8_count_124 : decode cX8_count 124 = .ok (.lload 6, 2) := by decide +kernel
theorem dX8_count_126 : decode cX8_count 126 = .ok (.aload_n 0, 1) := by decide +kernel
theorem dX8_count_127 : decode cX8_count 127 = .ok (.getfield 8, 3) := by decide +kernel
theorem dX8_count_130 : decode cX8_count 130 = .ok (.sipush 3840, 3) := by decide +kernel
theorem dX8_count_133 : decode cX8_count 133 = .ok (.iload_n 3, 1) := by decide +kernel
theorem dX8_count_134 : decode cX8_count 134 = .ok (.iconst 1, 1) := by decide +kernel
theorem dX8_count_135 : decode cX8_count 135 = .ok (.iadd, 1) := by decide +kernel
theorem dX8_count_136 : decode cX8_count 136 = .ok (.imul, 1) := by decide +kernel
theorem dX8_count_137 : decode cX8_count 137 = .ok (.iload 9, 2) := by decide +kernel
theorem dX8_count_139 : decode cX8_count 139 = .ok (.iadd, 1) := by decide +kernel
theorem dX8_count_140 : decode cX8_count 140 = .ok (.laload, 1) := by decide +kernel
theorem dX8_count_141 : decode cX8_count 141 = .ok (.ladd, 1) := by decide +kernel
theorem dX8_count_142 : decode cX8_count 142 = .ok (.lstore 6, 2) := by decide +kernel
theorem dX8_count_144 : decode cX8_count 144 = .ok (.iinc 8 1, 3) := by decide +kernel
theorem dX8_count_147 : decode cX8_count 147 = .ok (.goto (-60), 3) := by decide +kernel
theorem dX8_count_150 : decode cX8_count 150 = .ok (.aload_n 0, 1) := by decide +kernel
theorem dX8_count_151 : decode cX8_count 151 = .ok (.getfield 8, 3) := by decide +kernel
theorem dX8_count_154 : decode cX8_count 154 = .ok (.sipush 3840, 3) := by decide +kernel
theorem dX8_count_157 : decode cX8_count 157 = .ok (.iload_n 3, 1) := by decide +kernel
theorem dX8_count_158 : decode cX8_count 158 = .ok (.imul, 1) := by decide +kernel
theorem dX8_count_159 : decode cX8_count 159 = .ok (.iload 5, 2) := by decide +kernel
theorem dX8_count_161 : decode cX8_count 161 = .ok (.iadd, 1) := by decide +kernel
theorem dX8_count_162 : decode cX8_count 162 = .ok (.lload 6, 2) := by decide +kernel
theorem dX8_count_164 : decode cX8_count 164 = .ok (.lastore, 1) := by decide +kernel
theorem dX8_count_165 : decode cX8_count 165 = .ok (.iinc 5 1, 3) := by decide +kernel
theorem dX8_count_168 : decode cX8_count 168 = .ok (.goto (-104), 3) := by decide +kernel
theorem dX8_count_171 : decode cX8_count 171 = .ok (.iinc 3 (-1), 3) := by decide +kernel
theorem dX8_count_174 : decode cX8_count 174 = .ok (.goto (-124), 3) := by decide +kernel
theorem dX8_count_177 : decode cX8_count 177 = .ok (.return_, 1) := by decide +kernel
set_option maxRecDepth 20000 in
theorem ggX8_ways_X8_isSet : GoodIn wsX8_ways wsX8_isSet := goodIn_r _ [6, 7] (by decide +kernel) (by decide +kernel)
set_option maxRecDepth 20000 in
theorem gX8_ways_X8_isSet : GoodIn wsX8_ways (va_wsS RX8 86 yX8_isSet wsX8_isSet) := goodIn_app (goodIn_of _ (by decide +kernel)) ggX8_ways_X8_isSet
set_option maxRecDepth 20000 in
theorem ggX8_ways_X8_none : GoodIn wsX8_ways wsX8_none := goodIn_r _ [11, 1, 38, 39, 40, 41, 42, 43, 44, 45, 46, 47, 48, 49, 50, 51, 52, 53, 54, 55, 56, 57, 58, 59, 60] (by decide +kernel) (by decide +kernel)
set_option maxRecDepth 20000 in
theorem gX8_ways_X8_none : GoodIn wsX8_ways (wsV RX8 90 RX8 yX8_none wsX8_none) := goodIn_app (goodIn_of _ (by decide +kernel)) ggX8_ways_X8_none
set_option maxRecDepth 20000 in
theorem ggX8_ways_X8_count : GoodIn wsX8_ways wsX8_count := goodIn_r _ [15, 2, 16, 17, 18, 5, 19, 20, 21, 22, 23, 24, 25, 26, 27, 28, 29, 30, 31, 32, 33, 34, 35, 36, 37, 38, 39, 40, 41, 42, 43, 44, 45, 46, 47, 48, 49, 50, 51, 52, 53, 54, 55, 56, 57, 58, 59, 60] (by decide +kernel) (by decide +kernel)
set_option maxRecDepth 20000 in
theorem gX8_ways_X8_count : GoodIn wsX8_ways (wsV RX8 93 RX8 yX8_count wsX8_count) := goodIn_app (goodIn_of _ (by decide +kernel)) ggX8_ways_X8_count
theorem dX8_ways_0 : decode cX8_ways 0 = .ok (.lload_n 1, 1) := by decide +kernel
theorem dX8_ways_1 : decode cX8_ways 1 = .ok (.invokestatic 86, 3) := by decide +kernel
theorem dX8_ways_4 : decode cX8_ways 4 = .ok (.ifCond .ne 10, 3) := by decide +kernel
theorem dX8_ways_7 : decode cX8_ways 7 = .ok (.aload_n 0, 1) := by decide +kernel
theorem dX8_ways_8 : decode cX8_ways 8 = .ok (.iconst 1, 1) := by decide +kernel
theorem dX8_ways_9 : decode cX8_ways 9 = .ok (.invokevirtual 90, 3) := by decide +kernel
theorem dX8_ways_12 : decode cX8_ways 12 = .ok (.i2l, 1) := by decide +kernel
theorem dX8_ways_13 : decode cX8_ways 13 = .ok (.lreturn, 1) := by decide +kernel
theorem dX8_ways_14 : decode cX8_ways 14 = .ok (.aload_n 0, 1) := by decide +kernel
theorem dX8_ways_15 : decode cX8_ways 15 = .ok (.iconst 0, 1) := by decide +kernel
theorem dX8_ways_16 : decode cX8_ways 16 = .ok (.putfield 50, 3) := by decide +kernel
theorem dX8_ways_19 : decode cX8_ways 19 = .ok (.aload_n 0, 1) := by decide +kernel
theorem dX8_ways_20 : decode cX8_ways 20 = .ok (.lload_n 1, 1) := by decide +kernel
theorem dX8_ways_21 : decode cX8_ways 21 = .ok (.invokevirtual 93, 3) := by decide +kernel
theorem dX8_ways_24 : decode cX8_ways 24 = .ok (.aload_n 0, 1) := by decide +kernel
theorem dX8_ways_25 : decode cX8_ways 25 = .ok (.getfield 8, 3) := by decide +kernel
theorem dX8_ways_28 : decode cX8_ways 28 = .ok (.iconst 0, 1) := by decide +kernel
theorem dX8_ways_29 : decode cX8_ways 29 = .ok (.laload, 1) := by decide +kernel
theorem dX8_ways_30 : decode cX8_ways 30 = .ok (.lreturn, 1) := by decide +kernel
set_option maxRecDepth 20000 in
theorem ggX8_keeps_X8_count : GoodIn wsX8_keeps wsX8_count := goodIn_r _ [8, 1, 9, 10, 11, 7, 12, 13, 14, 15, 16, 17, 18, 19, 20, 21, 22, 23, 24, 25, 26, 27, 28, 29, 30, 31, 32, 33, 34, 35, 36, 37, 38, 39, 40, 41, 42, 43, 44, 45, 46, 47, 48, 49, 50, 51, 52, 53] (by decide +kernel) (by decide +kernel)
set_option maxRecDepth 20000 in
theorem gX8_keeps_X8_count : GoodIn wsX8_keeps (wsV RX8 93 RX8 yX8_count wsX8_count) := goodIn_app (goodIn_of _ (by decide +kernel)) ggX8_keeps_X8_count
set_option maxRecDepth 20000 in
theorem ggX8_keeps_X8_has : GoodIn wsX8_keeps wsX8_has := goodIn_r _ [27] (by decide +kernel) (by decide +kernel)
set_option maxRecDepth 20000 in
theorem gX8_keeps_X8_has : GoodIn wsX8_keeps (va_wsS RX8 55 yX8_has wsX8_has) := goodIn_app (goodIn_of _ (by decide +kernel)) ggX8_keeps_X8_has
set_option maxRecDepth 20000 in
theorem ggX8_keeps_X8_behind : GoodIn wsX8_keeps wsX8_behind := goodIn_r _ [30, 13, 14, 7, 15, 16, 17, 18, 19, 20, 21] (by decide +kernel) (by decide +kernel)
set_option maxRecDepth 20000 in
theorem gX8_keeps_X8_behind : GoodIn wsX8_keeps (va_wsS RX8 82 yX8_behind wsX8_behind) := goodIn_app (goodIn_of _ (by decide +kernel)) ggX8_keeps_X8_behind
theorem dX8_keeps_0 : decode cX8_keeps 0 = .ok (.aload_n 0, 1) := by decide +kernel
theorem dX8_keeps_1 : decode cX8_keeps 1 = .ok (.lload_n 1, 1) := by decide +kernel
theorem dX8_keeps_2 : decode cX8_keeps 2 = .ok (.invokevirtual 93, 3) := by decide +kernel
theorem dX8_keeps_5 : decode cX8_keeps 5 = .ok (.aload_n 0, 1) := by decide +kernel
theorem dX8_keeps_6 : decode cX8_keeps 6 = .ok (.getfield 8, 3) := by decide +kernel
theorem dX8_keeps_9 : decode cX8_keeps 9 = .ok (.iconst 0, 1) := by decide +kernel
theorem dX8_keeps_10 : decode cX8_keeps 10 = .ok (.laload, 1) := by decide +kernel
theorem dX8_keeps_11 : decode cX8_keeps 11 = .ok (.lconst 0, 1) := by decide +kernel
theorem dX8_keeps_12 : decode cX8_keeps 12 = .ok (.lcmp, 1) := by decide +kernel
theorem dX8_keeps_13 : decode cX8_keeps 13 = .ok (.ifCond .ne 5, 3) := by decide +kernel
theorem dX8_keeps_16 : decode cX8_keeps 16 = .ok (.iconst 0, 1) := by decide +kernel
theorem dX8_keeps_17 : decode cX8_keeps 17 = .ok (.ireturn, 1) := by decide +kernel
theorem dX8_keeps_18 : decode cX8_keeps 18 = .ok (.iconst 0, 1) := by decide +kernel
theorem dX8_keeps_19 : decode cX8_keeps 19 = .ok (.istore_n 3, 1) := by decide +kernel
theorem dX8_keeps_20 : decode cX8_keeps 20 = .ok (.iconst 0, 1) := by decide +kernel
theorem dX8_keeps_21 : decode cX8_keeps 21 = .ok (.istore 4, 2) := by decide +kernel
theorem dX8_keeps_23 : decode cX8_keeps 23 = .ok (.iload 4, 2) := by decide +kernel
theorem dX8_keeps_25 : decode cX8_keeps 25 = .ok (.bipush 52, 2) := by decide +kernel
theorem dX8_keeps_27 : decode cX8_keeps 27 = .ok (.if_icmp .ge 141, 3) := by decide +kernel
theorem dX8_keeps_30 : decode cX8_keeps 30 = .ok (.lload_n 1, 1) := by decide +kernel
theorem dX8_keeps_31 : decode cX8_keeps 31 = .ok (.iload 4, 2) := by decide +kernel
theorem dX8_keeps_33 : decode cX8_keeps 33 = .ok (.invokestatic 55, 3) := by decide +kernel
theorem dX8_keeps_36 : decode cX8_keeps 36 = .ok (.istore 5, 2) := by decide +kernel
theorem dX8_keeps_38 : decode cX8_keeps 38 = .ok (.iload 5, 2) := by decide +kernel
theorem dX8_keeps_40 : decode cX8_keeps 40 = .ok (.ifCond .eq 7, 3) := by decide +kernel
theorem dX8_keeps_43 : decode cX8_keeps 43 = .ok (.iconst 1, 1) := by decide +kernel
theorem dX8_keeps_44 : decode cX8_keeps 44 = .ok (.goto 4, 3) := by decide +kernel
theorem dX8_keeps_47 : decode cX8_keeps 47 = .ok (.iconst 0, 1) := by decide +kernel
theorem dX8_keeps_48 : decode cX8_keeps 48 = .ok (.istore 6, 2) := by decide +kernel
theorem dX8_keeps_50 : decode cX8_keeps 50 = .ok (.iload_n 3, 1) := by decide +kernel
theorem dX8_keeps_51 : decode cX8_keeps 51 = .ok (.iload 4, 2) := by decide +kernel
theorem dX8_keeps_53 : decode cX8_keeps 53 = .ok (.iload 6, 2) := by decide +kernel
theorem dX8_keeps_55 : decode cX8_keeps 55 = .ok (.iload 6, 2) := by decide +kernel
theorem dX8_keeps_57 : decode cX8_keeps 57 = .ok (.ifCond .le 12, 3) := by decide +kernel
theorem dX8_keeps_60 : decode cX8_keeps 60 = .ok (.iload 5, 2) := by decide +kernel
theorem dX8_keeps_62 : decode cX8_keeps 62 = .ok (.ifCond .ne 7, 3) := by decide +kernel
theorem dX8_keeps_65 : decode cX8_keeps 65 = .ok (.iconst 1, 1) := by decide +kernel
theorem dX8_keeps_66 : decode cX8_keeps 66 = .ok (.goto 4, 3) := by decide +kernel
theorem dX8_keeps_69 : decode cX8_keeps 69 = .ok (.iconst 0, 1) := by decide +kernel
theorem dX8_keeps_70 : decode cX8_keeps 70 = .ok (.invokestatic 82, 3) := by decide +kernel
theorem dX8_keeps_73 : decode cX8_keeps 73 = .ok (.istore 7, 2) := by decide +kernel
theorem dX8_keeps_75 : decode cX8_keeps 75 = .ok (.iload 7, 2) := by decide +kernel
theorem dX8_keeps_77 : decode cX8_keeps 77 = .ok (.iconst (-1), 1) := by decide +kernel
theorem dX8_keeps_78 : decode cX8_keeps 78 = .ok (.if_icmp .eq 24, 3) := by decide +kernel
theorem dX8_keeps_81 : decode cX8_keeps 81 = .ok (.aload_n 0, 1) := by decide +kernel
theorem dX8_keeps_82 : decode cX8_keeps 82 = .ok (.getfield 8, 3) := by decide +kernel
theorem dX8_keeps_85 : decode cX8_keeps 85 = .ok (.sipush 3840, 3) := by decide +kernel
theorem dX8_keeps_88 : decode cX8_keeps 88 = .ok (.iload 4, 2) := by decide +kernel
theorem dX8_keeps_90 : decode cX8_keeps 90 = .ok (.iconst 1, 1) := by decide +kernel
theorem dX8_keeps_91 : decode cX8_keeps 91 = .ok (.iadd, 1) := by decide +kernel
theorem dX8_keeps_92 : decode cX8_keeps 92 = .ok (.imul, 1) := by decide +kernel
theorem dX8_keeps_93 : decode cX8_keeps 93 = .ok (.iload 7, 2) := by decide +kernel
theorem dX8_keeps_95 : decode cX8_keeps 95 = .ok (.iadd, 1) := by decide +kernel
theorem dX8_keeps_96 : decode cX8_keeps 96 = .ok (.laload, 1) := by decide +kernel
theorem dX8_keeps_97 : decode cX8_keeps 97 = .ok (.lconst 0, 1) := by decide +kernel
theorem dX8_keeps_98 : decode cX8_keeps 98 = .ok (.lcmp, 1) := by decide +kernel
theorem dX8_keeps_99 : decode cX8_keeps 99 = .ok (.ifCond .ne 29, 3) := by decide +kernel
theorem dX8_keeps_102 : decode cX8_keeps 102 = .ok (.iinc 6 1, 3) := by decide +kernel
theorem dX8_keeps_105 : decode cX8_keeps 105 = .ok (.iload_n 3, 1) := by decide +kernel
theorem dX8_keeps_106 : decode cX8_keeps 106 = .ok (.iload 4, 2) := by decide +kernel
theorem dX8_keeps_108 : decode cX8_keeps 108 = .ok (.iload 6, 2) := by decide +kernel
theorem dX8_keeps_110 : decode cX8_keeps 110 = .ok (.iload 5, 2) := by decide +kernel
theorem dX8_keeps_112 : decode cX8_keeps 112 = .ok (.ifCond .ne 7, 3) := by decide +kernel
theorem dX8_keeps_115 : decode cX8_keeps 115 = .ok (.iconst 1, 1) := by decide +kernel
theorem dX8_keeps_116 : decode cX8_keeps 116 = .ok (.goto 4, 3) := by decide +kernel
theorem dX8_keeps_119 : decode cX8_keeps 119 = .ok (.iconst 0, 1) := by decide +kernel
theorem dX8_keeps_120 : decode cX8_keeps 120 = .ok (.invokestatic 82, 3) := by decide +kernel
theorem dX8_keeps_123 : decode cX8_keeps 123 = .ok (.istore 7, 2) := by decide +kernel
theorem dX8_keeps_125 : decode cX8_keeps 125 = .ok (.goto (-50), 3) := by decide +kernel
theorem dX8_keeps_128 : decode cX8_keeps 128 = .ok (.aload_n 0, 1) := by decide +kernel
theorem dX8_keeps_129 : decode cX8_keeps 129 = .ok (.getfield 14, 3) := by decide +kernel
theorem dX8_keeps_132 : decode cX8_keeps 132 = .ok (.iload 4, 2) := by decide +kernel
theorem dX8_keeps_134 : decode cX8_keeps 134 = .ok (.iload 6, 2) := by decide +kernel
theorem dX8_keeps_136 : decode cX8_keeps 136 = .ok (.iastore, 1) := by decide +kernel
theorem dX8_keeps_137 : decode cX8_keeps 137 = .ok (.aload_n 0, 1) := by decide +kernel
theorem dX8_keeps_138 : decode cX8_keeps 138 = .ok (.getfield 18, 3) := by decide +kernel
theorem dX8_keeps_141 : decode cX8_keeps 141 = .ok (.iload 4, 2) := by decide +kernel
theorem dX8_keeps_143 : decode cX8_keeps 143 = .ok (.iload 6, 2) := by decide +kernel
theorem dX8_keeps_145 : decode cX8_keeps 145 = .ok (.ifCond .le 12, 3) := by decide +kernel
theorem dX8_keeps_148 : decode cX8_keeps 148 = .ok (.iload 5, 2) := by decide +kernel
theorem dX8_keeps_150 : decode cX8_keeps 150 = .ok (.ifCond .ne 7, 3) := by decide +kernel
theorem dX8_keeps_153 : decode cX8_keeps 153 = .ok (.iconst 1, 1) := by decide +kernel
theorem dX8_keeps_154 : decode cX8_keeps 154 = .ok (.goto 4, 3) := by decide +kernel
theorem dX8_keeps_157 : decode cX8_keeps 157 = .ok (.iconst 0, 1) := by decide +kernel
theorem dX8_keeps_158 : decode cX8_keeps 158 = .ok (.bastore, 1) := by decide +kernel
theorem dX8_keeps_159 : decode cX8_keeps 159 = .ok (.iload 7, 2) := by decide +kernel
theorem dX8_keeps_161 : decode cX8_keeps 161 = .ok (.istore_n 3, 1) := by decide +kernel
theorem dX8_keeps_162 : decode cX8_keeps 162 = .ok (.iinc 4 1, 3) := by decide +kernel
theorem dX8_keeps_165 : decode cX8_keeps 165 = .ok (.goto (-142), 3) := by decide +kernel
theorem dX8_keeps_168 : decode cX8_keeps 168 = .ok (.iconst 1, 1) := by decide +kernel
theorem dX8_keeps_169 : decode cX8_keeps 169 = .ok (.ireturn, 1) := by decide +kernel
