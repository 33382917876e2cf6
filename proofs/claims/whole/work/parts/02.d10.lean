theorem dX8_reckon_0 : decode cX8_reckon 0 = .ok (.iconst 0, 1) := by decide +kernel
theorem dX8_reckon_1 : decode cX8_reckon 1 = .ok (.istore 6, 2) := by decide +kernel
theorem dX8_reckon_3 : decode cX8_reckon 3 = .ok (.iload 6, 2) := by decide +kernel
theorem dX8_reckon_5 : decode cX8_reckon 5 = .ok (.sipush 3840, 3) := by decide +kernel
theorem dX8_reckon_8 : decode cX8_reckon 8 = .ok (.if_icmp .ge 67, 3) := by decide +kernel
theorem dX8_reckon_11 : decode cX8_reckon 11 = .ok (.iload 6, 2) := by decide +kernel
theorem dX8_reckon_13 : decode cX8_reckon 13 = .ok (.invokestatic 70, 3) := by decide +kernel
theorem dX8_reckon_16 : decode cX8_reckon 16 = .ok (.lload_n 1, 1) := by decide +kernel
theorem dX8_reckon_17 : decode cX8_reckon 17 = .ok (.invokestatic 78, 3) := by decide +kernel
theorem dX8_reckon_20 : decode cX8_reckon 20 = .ok (.isub, 1) := by decide +kernel
theorem dX8_reckon_21 : decode cX8_reckon 21 = .ok (.istore 7, 2) := by decide +kernel
theorem dX8_reckon_23 : decode cX8_reckon 23 = .ok (.aload_n 0, 1) := by decide +kernel
theorem dX8_reckon_24 : decode cX8_reckon 24 = .ok (.getfield 22, 3) := by decide +kernel
theorem dX8_reckon_27 : decode cX8_reckon 27 = .ok (.ldc 73, 2) := by decide +kernel
theorem dX8_reckon_29 : decode cX8_reckon 29 = .ok (.iload 6, 2) := by decide +kernel
theorem dX8_reckon_31 : decode cX8_reckon 31 = .ok (.iadd, 1) := by decide +kernel
theorem dX8_reckon_32 : decode cX8_reckon 32 = .ok (.iload 6, 2) := by decide +kernel
theorem dX8_reckon_34 : decode cX8_reckon 34 = .ok (.invokestatic 74, 3) := by decide +kernel
theorem dX8_reckon_37 : decode cX8_reckon 37 = .ok (.ifCond .eq 30, 3) := by decide +kernel
theorem dX8_reckon_40 : decode cX8_reckon 40 = .ok (.iload 7, 2) := by decide +kernel
theorem dX8_reckon_42 : decode cX8_reckon 42 = .ok (.ifCond .lt 25, 3) := by decide +kernel
theorem dX8_reckon_45 : decode cX8_reckon 45 = .ok (.iload 7, 2) := by decide +kernel
theorem dX8_reckon_47 : decode cX8_reckon 47 = .ok (.lload_n 3, 1) := by decide +kernel
theorem dX8_reckon_48 : decode cX8_reckon 48 = .ok (.invokestatic 78, 3) := by decide +kernel
theorem dX8_reckon_51 : decode cX8_reckon 51 = .ok (.if_icmp .gt 16, 3) := by decide +kernel
theorem dX8_reckon_54 : decode cX8_reckon 54 = .ok (.iload 7, 2) := by decide +kernel
theorem dX8_reckon_56 : decode cX8_reckon 56 = .ok (.bipush 52, 2) := by decide +kernel
theorem dX8_reckon_58 : decode cX8_reckon 58 = .ok (.iload 5, 2) := by decide +kernel
theorem dX8_reckon_60 : decode cX8_reckon 60 = .ok (.invokestatic 122, 3) := by decide +kernel
theorem dX8_reckon_63 : decode cX8_reckon 63 = .ok (.imul, 1) := by decide +kernel
theorem dX8_reckon_64 : decode cX8_reckon 64 = .ok (.goto 4, 3) := by decide +kernel
theorem dX8_reckon_67 : decode cX8_reckon 67 = .ok (.iconst (-1), 1) := by decide +kernel
theorem dX8_reckon_68 : decode cX8_reckon 68 = .ok (.iastore, 1) := by decide +kernel
theorem dX8_reckon_69 : decode cX8_reckon 69 = .ok (.iinc 6 1, 3) := by decide +kernel
theorem dX8_reckon_72 : decode cX8_reckon 72 = .ok (.goto (-69), 3) := by decide +kernel
theorem dX8_reckon_75 : decode cX8_reckon 75 = .ok (.bipush 51, 2) := by decide +kernel
theorem dX8_reckon_77 : decode cX8_reckon 77 = .ok (.istore 6, 2) := by decide +kernel
theorem dX8_reckon_79 : decode cX8_reckon 79 = .ok (.iload 6, 2) := by decide +kernel
theorem dX8_reckon_81 : decode cX8_reckon 81 = .ok (.ifCond .lt 186, 3) := by decide +kernel
theorem dX8_reckon_84 : decode cX8_reckon 84 = .ok (.iconst 0, 1) := by decide +kernel
theorem dX8_reckon_85 : decode cX8_reckon 85 = .ok (.istore 7, 2) := by decide +kernel
theorem dX8_reckon_87 : decode cX8_reckon 87 = .ok (.iload 7, 2) := by decide +kernel
theorem dX8_reckon_89 : decode cX8_reckon 89 = .ok (.sipush 3840, 3) := by decide +kernel
theorem dX8_reckon_92 : decode cX8_reckon 92 = .ok (.if_icmp .ge 169, 3) := by decide +kernel
theorem dX8_reckon_95 : decode cX8_reckon 95 = .ok (.iconst (-1), 1) := by decide +kernel
theorem dX8_reckon_96 : decode cX8_reckon 96 = .ok (.istore 8, 2) := by decide +kernel
theorem dX8_reckon_98 : decode cX8_reckon 98 = .ok (.iconst 0, 1) := by decide +kernel
theorem dX8_reckon_99 : decode cX8_reckon 99 = .ok (.istore 9, 2) := by decide +kernel
theorem dX8_reckon_101 : decode cX8_reckon 101 = .ok (.iload 9, 2) := by decide +kernel
theorem dX8_reckon_103 : decode cX8_reckon 103 = .ok (.iconst 3, 1) := by decide +kernel
theorem dX8_reckon_104 : decode cX8_reckon 104 = .ok (.if_icmp .gt 135, 3) := by decide +kernel
theorem dX8_reckon_107 : decode cX8_reckon 107 = .ok (.iload 9, 2) := by decide +kernel
theorem dX8_reckon_109 : decode cX8_reckon 109 = .ok (.ifCond .le 40, 3) := by decide +kernel
theorem dX8_reckon_112 : decode cX8_reckon 112 = .ok (.lload_n 1, 1) := by decide +kernel
theorem dX8_reckon_113 : decode cX8_reckon 113 = .ok (.iload 6, 2) := by decide +kernel
theorem dX8_reckon_115 : decode cX8_reckon 115 = .ok (.invokestatic 55, 3) := by decide +kernel
theorem dX8_reckon_118 : decode cX8_reckon 118 = .ok (.ifCond .ne 12, 3) := by decide +kernel
theorem dX8_reckon_121 : decode cX8_reckon 121 = .ok (.lload_n 3, 1) := by decide +kernel
theorem dX8_reckon_122 : decode cX8_reckon 122 = .ok (.iload 6, 2) := by decide +kernel
theorem dX8_reckon_124 : decode cX8_reckon 124 = .ok (.invokestatic 55, 3) := by decide +kernel
theorem dX8_reckon_127 : decode cX8_reckon 127 = .ok (.ifCond .eq 22, 3) := by decide +kernel
theorem dX8_reckon_130 : decode cX8_reckon 130 = .ok (.aload_n 0, 1) := by decide +kernel
theorem dX8_reckon_131 : decode cX8_reckon 131 = .ok (.iload 6, 2) := by decide +kernel
theorem dX8_reckon_133 : decode cX8_reckon 133 = .ok (.iload 7, 2) := by decide +kernel
theorem dX8_reckon_135 : decode cX8_reckon 135 = .ok (.iload 6, 2) := by decide +kernel
theorem dX8_reckon_137 : decode cX8_reckon 137 = .ok (.iload 9, 2) := by decide +kernel
theorem dX8_reckon_139 : decode cX8_reckon 139 = .ok (.iconst 0, 1) := by decide +kernel
theorem dX8_reckon_140 : decode cX8_reckon 140 = .ok (.invokestatic 82, 3) := by decide +kernel
theorem dX8_reckon_143 : decode cX8_reckon 143 = .ok (.invokevirtual 125, 3) := by decide +kernel
theorem dX8_reckon_146 : decode cX8_reckon 146 = .ok (.goto 4, 3) := by decide +kernel
theorem dX8_reckon_149 : decode cX8_reckon 149 = .ok (.iconst (-1), 1) := by decide +kernel
theorem dX8_reckon_150 : decode cX8_reckon 150 = .ok (.istore 10, 2) := by decide +kernel
theorem dX8_reckon_152 : decode cX8_reckon 152 = .ok (.iload 10, 2) := by decide +kernel
theorem dX8_reckon_154 : decode cX8_reckon 154 = .ok (.iconst (-1), 1) := by decide +kernel
theorem dX8_reckon_155 : decode cX8_reckon 155 = .ok (.if_icmp .eq 24, 3) := by decide +kernel
theorem dX8_reckon_158 : decode cX8_reckon 158 = .ok (.lload_n 3, 1) := by decide +kernel
theorem dX8_reckon_159 : decode cX8_reckon 159 = .ok (.iload 6, 2) := by decide +kernel
theorem dX8_reckon_161 : decode cX8_reckon 161 = .ok (.invokestatic 55, 3) := by decide +kernel
theorem dX8_reckon_164 : decode cX8_reckon 164 = .ok (.ifCond .eq 15, 3) := by decide +kernel
theorem dX8_reckon_167 : decode cX8_reckon 167 = .ok (.iload 10, 2) := by decide +kernel
theorem dX8_reckon_169 : decode cX8_reckon 169 = .ok (.iload 6, 2) := by decide +kernel
theorem dX8_reckon_171 : decode cX8_reckon 171 = .ok (.iload 5, 2) := by decide +kernel
theorem dX8_reckon_173 : decode cX8_reckon 173 = .ok (.invokestatic 122, 3) := by decide +kernel
theorem dX8_reckon_176 : decode cX8_reckon 176 = .ok (.iadd, 1) := by decide +kernel
theorem dX8_reckon_177 : decode cX8_reckon 177 = .ok (.istore 10, 2) := by decide +kernel
theorem dX8_reckon_179 : decode cX8_reckon 179 = .ok (.lload_n 1, 1) := by decide +kernel
theorem dX8_reckon_180 : decode cX8_reckon 180 = .ok (.iload 6, 2) := by decide +kernel
theorem dX8_reckon_182 : decode cX8_reckon 182 = .ok (.invokestatic 55, 3) := by decide +kernel
theorem dX8_reckon_185 : decode cX8_reckon 185 = .ok (.ifCond .eq 7, 3) := by decide +kernel
theorem dX8_reckon_188 : decode cX8_reckon 188 = .ok (.iconst (-1), 1) := by decide +kernel
theorem dX8_reckon_189 : decode cX8_reckon 189 = .ok (.goto 28, 3) := by decide +kernel
theorem dX8_reckon_192 : decode cX8_reckon 192 = .ok (.aload_n 0, 1) := by decide +kernel
theorem dX8_reckon_193 : decode cX8_reckon 193 = .ok (.iload 6, 2) := by decide +kernel
theorem dX8_reckon_195 : decode cX8_reckon 195 = .ok (.iload 7, 2) := by decide +kernel
theorem dX8_reckon_197 : decode cX8_reckon 197 = .ok (.iload 6, 2) := by decide +kernel
theorem dX8_reckon_199 : decode cX8_reckon 199 = .ok (.iload 9, 2) := by decide +kernel
theorem dX8_reckon_201 : decode cX8_reckon 201 = .ok (.iload 9, 2) := by decide +kernel
theorem dX8_reckon_203 : decode cX8_reckon 203 = .ok (.ifCond .le 7, 3) := by decide +kernel
theorem dX8_reckon_206 : decode cX8_reckon 206 = .ok (.iconst 1, 1) := by decide +kernel
theorem dX8_reckon_207 : decode cX8_reckon 207 = .ok (.goto 4, 3) := by decide +kernel
theorem dX8_reckon_210 : decode cX8_reckon 210 = .ok (.iconst 0, 1) := by decide +kernel
theorem dX8_reckon_211 : decode cX8_reckon 211 = .ok (.invokestatic 82, 3) := by decide +kernel
theorem dX8_reckon_214 : decode cX8_reckon 214 = .ok (.invokevirtual 125, 3) := by decide +kernel
theorem dX8_reckon_217 : decode cX8_reckon 217 = .ok (.istore 11, 2) := by decide +kernel
theorem dX8_reckon_219 : decode cX8_reckon 219 = .ok (.iload 8, 2) := by decide +kernel
theorem dX8_reckon_221 : decode cX8_reckon 221 = .ok (.iload 10, 2) := by decide +kernel
theorem dX8_reckon_223 : decode cX8_reckon 223 = .ok (.iload 11, 2) := by decide +kernel
theorem dX8_reckon_225 : decode cX8_reckon 225 = .ok (.invokestatic 128, 3) := by decide +kernel
theorem dX8_reckon_228 : decode cX8_reckon 228 = .ok (.invokestatic 128, 3) := by decide +kernel
theorem dX8_reckon_231 : decode cX8_reckon 231 = .ok (.istore 8, 2) := by decide +kernel
theorem dX8_reckon_233 : decode cX8_reckon 233 = .ok (.iinc 9 1, 3) := by decide +kernel
theorem dX8_reckon_236 : decode cX8_reckon 236 = .ok (.goto (-135), 3) := by decide +kernel
theorem dX8_reckon_239 : decode cX8_reckon 239 = .ok (.aload_n 0, 1) := by decide +kernel
theorem dX8_reckon_240 : decode cX8_reckon 240 = .ok (.getfield 22, 3) := by decide +kernel
theorem dX8_reckon_243 : decode cX8_reckon 243 = .ok (.sipush 3840, 3) := by decide +kernel
theorem dX8_reckon_246 : decode cX8_reckon 246 = .ok (.iload 6, 2) := by decide +kernel
theorem dX8_reckon_248 : decode cX8_reckon 248 = .ok (.imul, 1) := by decide +kernel
theorem dX8_reckon_249 : decode cX8_reckon 249 = .ok (.iload 7, 2) := by decide +kernel
theorem dX8_reckon_251 : decode cX8_reckon 251 = .ok (.iadd, 1) := by decide +kernel
theorem dX8_reckon_252 : decode cX8_reckon 252 = .ok (.iload 8, 2) := by decide +kernel
theorem dX8_reckon_254 : decode cX8_reckon 254 = .ok (.iastore, 1) := by decide +kernel
theorem dX8_reckon_255 : decode cX8_reckon 255 = .ok (.iinc 7 1, 3) := by decide +kernel
theorem dX8_reckon_258 : decode cX8_reckon 258 = .ok (.goto (-171), 3) := by decide +kernel
theorem dX8_reckon_261 : decode cX8_reckon 261 = .ok (.iinc 6 (-1), 3) := by decide +kernel
theorem dX8_reckon_264 : decode cX8_reckon 264 = .ok (.goto (-185), 3) := by decide +kernel
theorem dX8_reckon_267 : decode cX8_reckon 267 = .ok (.return_, 1) := by decide +kernel
theorem dX8_after_0 : decode cX8_after 0 = .ok (.iload_n 2, 1) := by decide +kernel
theorem dX8_after_1 : decode cX8_after 1 = .ok (.iconst (-1), 1) := by decide +kernel
theorem dX8_after_2 : decode cX8_after 2 = .ok (.if_icmp .ne 7, 3) := by decide +kernel
theorem dX8_after_5 : decode cX8_after 5 = .ok (.iconst (-1), 1) := by decide +kernel
theorem dX8_after_6 : decode cX8_after 6 = .ok (.goto 17, 3) := by decide +kernel
theorem dX8_after_9 : decode cX8_after 9 = .ok (.aload_n 0, 1) := by decide +kernel
theorem dX8_after_10 : decode cX8_after 10 = .ok (.getfield 22, 3) := by decide +kernel
theorem dX8_after_13 : decode cX8_after 13 = .ok (.sipush 3840, 3) := by decide +kernel
theorem dX8_after_16 : decode cX8_after 16 = .ok (.iload_n 1, 1) := by decide +kernel
theorem dX8_after_17 : decode cX8_after 17 = .ok (.iconst 1, 1) := by decide +kernel
theorem dX8_after_18 : decode cX8_after 18 = .ok (.iadd, 1) := by decide +kernel
theorem dX8_after_19 : decode cX8_after 19 = .ok (.imul, 1) := by decide +kernel
theorem dX8_after_20 : decode cX8_after 20 = .ok (.iload_n 2, 1) := by decide +kernel
theorem dX8_after_21 : decode cX8_after 21 = .ok (.iadd, 1) := by decide +kernel
theorem dX8_after_22 : decode cX8_after 22 = .ok (.iaload, 1) := by decide +kernel
theorem dX8_after_23 : decode cX8_after 23 = .ok (.ireturn, 1) := by decide +kernel
set_option maxRecDepth 20000 in
theorem ggX8_bestOf_X8_reckon : GoodIn wsX8_bestOf wsX8_reckon := goodIn_r _ [9, 1, 10, 11, 12, 13, 14, 15, 16, 8, 17, 18, 19, 20, 21, 22, 23, 24, 25, 26, 27, 28, 29, 30, 31, 32, 33, 34, 35, 36, 37, 38, 39, 40, 41, 42, 43, 44, 45, 50, 51, 52, 53, 54, 55, 56, 57, 58, 59, 60, 61, 62, 63, 64, 65, 66, 67, 68, 69, 70, 71, 72] (by decide +kernel) (by decide +kernel)
set_option maxRecDepth 20000 in
theorem gX8_bestOf_X8_reckon : GoodIn wsX8_bestOf (wsV RX8 133 RX8 yX8_reckon wsX8_reckon) := goodIn_app (goodIn_of _ (by decide +kernel)) ggX8_bestOf_X8_reckon
set_option maxRecDepth 20000 in
theorem ggX8_bestOf_X8_has : GoodIn wsX8_bestOf wsX8_has := goodIn_r _ [38] (by decide +kernel) (by decide +kernel)
set_option maxRecDepth 20000 in
theorem gX8_bestOf_X8_has : GoodIn wsX8_bestOf (va_wsS RX8 55 yX8_has wsX8_has) := goodIn_app (goodIn_of _ (by decide +kernel)) ggX8_bestOf_X8_has
set_option maxRecDepth 20000 in
theorem ggX8_bestOf_X8_gain : GoodIn wsX8_bestOf wsX8_gain := goodIn_r _ [32, 33, 34, 8, 35] (by decide +kernel) (by decide +kernel)
set_option maxRecDepth 20000 in
theorem gX8_bestOf_X8_gain : GoodIn wsX8_bestOf (va_wsS RX8 122 yX8_gain wsX8_gain) := goodIn_app (goodIn_of _ (by decide +kernel)) ggX8_bestOf_X8_gain
set_option maxRecDepth 20000 in
theorem ggX8_bestOf_X8_goes : GoodIn wsX8_bestOf wsX8_goes := goodIn_r _ [49, 4, 3, 1, 39, 40, 8, 41, 24, 25, 26, 27, 28, 29, 15, 16, 17, 50, 51, 52, 53, 54, 55, 56, 57, 58, 59, 60, 61, 62, 63, 64, 65, 66, 67, 68, 69, 70, 71, 72] (by decide +kernel) (by decide +kernel)
set_option maxRecDepth 20000 in
theorem gX8_bestOf_X8_goes : GoodIn wsX8_bestOf (wsV RX8 139 RX8 yX8_goes wsX8_goes) := goodIn_app (goodIn_of _ (by decide +kernel)) ggX8_bestOf_X8_goes
set_option maxRecDepth 20000 in
theorem ggX8_bestOf_X8_jokers : GoodIn wsX8_bestOf wsX8_jokers := goodIn_r _ [17] (by decide +kernel) (by decide +kernel)
set_option maxRecDepth 20000 in
theorem gX8_bestOf_X8_jokers : GoodIn wsX8_bestOf (va_wsS RX8 70 yX8_jokers wsX8_jokers) := goodIn_app (goodIn_of _ (by decide +kernel)) ggX8_bestOf_X8_jokers
set_option maxRecDepth 20000 in
theorem ggX8_bestOf_X8_jokersOf : GoodIn wsX8_bestOf wsX8_jokersOf := goodIn_r _ [20] (by decide +kernel) (by decide +kernel)
set_option maxRecDepth 20000 in
theorem gX8_bestOf_X8_jokersOf : GoodIn wsX8_bestOf (va_wsS RX8 78 yX8_jokersOf wsX8_jokersOf) := goodIn_app (goodIn_of _ (by decide +kernel)) ggX8_bestOf_X8_jokersOf
theorem dX8_bestOf_0 : decode cX8_bestOf 0 = .ok (.aload_n 0, 1) := by decide +kernel
theorem dX8_bestOf_1 : decode cX8_bestOf 1 = .ok (.lload_n 1, 1) := by decide +kernel
theorem dX8_bestOf_2 : decode cX8_bestOf 2 = .ok (.lload_n 3, 1) := by decide +kernel
theorem dX8_bestOf_3 : decode cX8_bestOf 3 = .ok (.iload 5, 2) := by decide +kernel
theorem dX8_bestOf_5 : decode cX8_bestOf 5 = .ok (.invokevirtual 133, 3) := by decide +kernel
theorem dX8_bestOf_8 : decode cX8_bestOf 8 = .ok (.aload_n 0, 1) := by decide +kernel
theorem dX8_bestOf_9 : decode cX8_bestOf 9 = .ok (.getfield 22, 3) := by decide +kernel
theorem dX8_bestOf_12 : decode cX8_bestOf 12 = .ok (.iconst 0, 1) := by decide +kernel
theorem dX8_bestOf_13 : decode cX8_bestOf 13 = .ok (.iaload, 1) := by decide +kernel
theorem dX8_bestOf_14 : decode cX8_bestOf 14 = .ok (.istore 6, 2) := by decide +kernel
theorem dX8_bestOf_16 : decode cX8_bestOf 16 = .ok (.iload 6, 2) := by decide +kernel
theorem dX8_bestOf_18 : decode cX8_bestOf 18 = .ok (.iconst (-1), 1) := by decide +kernel
theorem dX8_bestOf_19 : decode cX8_bestOf 19 = .ok (.if_icmp .ne 7, 3) := by decide +kernel
theorem dX8_bestOf_22 : decode cX8_bestOf 22 = .ok (.ldc2_w 137, 3) := by decide +kernel
theorem dX8_bestOf_25 : decode cX8_bestOf 25 = .ok (.lreturn, 1) := by decide +kernel
theorem dX8_bestOf_26 : decode cX8_bestOf 26 = .ok (.lconst 0, 1) := by decide +kernel
theorem dX8_bestOf_27 : decode cX8_bestOf 27 = .ok (.lstore 7, 2) := by decide +kernel
theorem dX8_bestOf_29 : decode cX8_bestOf 29 = .ok (.iconst 0, 1) := by decide +kernel
theorem dX8_bestOf_30 : decode cX8_bestOf 30 = .ok (.istore 9, 2) := by decide +kernel
theorem dX8_bestOf_32 : decode cX8_bestOf 32 = .ok (.iload 9, 2) := by decide +kernel
theorem dX8_bestOf_34 : decode cX8_bestOf 34 = .ok (.sipush 3840, 3) := by decide +kernel
theorem dX8_bestOf_37 : decode cX8_bestOf 37 = .ok (.if_icmp .ge 26, 3) := by decide +kernel
theorem dX8_bestOf_40 : decode cX8_bestOf 40 = .ok (.aload_n 0, 1) := by decide +kernel
theorem dX8_bestOf_41 : decode cX8_bestOf 41 = .ok (.getfield 25, 3) := by decide +kernel
theorem dX8_bestOf_44 : decode cX8_bestOf 44 = .ok (.iload 9, 2) := by decide +kernel
theorem dX8_bestOf_46 : decode cX8_bestOf 46 = .ok (.iload 9, 2) := by decide +kernel
theorem dX8_bestOf_48 : decode cX8_bestOf 48 = .ok (.ifCond .ne 7, 3) := by decide +kernel
theorem dX8_bestOf_51 : decode cX8_bestOf 51 = .ok (.iconst 1, 1) := by decide +kernel
theorem dX8_bestOf_52 : decode cX8_bestOf 52 = .ok (.goto 4, 3) := by decide +kernel
theorem dX8_bestOf_55 : decode cX8_bestOf 55 = .ok (.iconst 0, 1) := by decide +kernel
theorem dX8_bestOf_56 : decode cX8_bestOf 56 = .ok (.bastore, 1) := by decide +kernel
theorem dX8_bestOf_57 : decode cX8_bestOf 57 = .ok (.iinc 9 1, 3) := by decide +kernel
theorem dX8_bestOf_60 : decode cX8_bestOf 60 = .ok (.goto (-28), 3) := by decide +kernel
theorem dX8_bestOf_63 : decode cX8_bestOf 63 = .ok (.iconst 0, 1) := by decide +kernel
theorem dX8_bestOf_64 : decode cX8_bestOf 64 = .ok (.istore 9, 2) := by decide +kernel
theorem dX8_bestOf_66 : decode cX8_bestOf 66 = .ok (.iload 9, 2) := by decide +kernel
theorem dX8_bestOf_68 : decode cX8_bestOf 68 = .ok (.bipush 52, 2) := by decide +kernel
theorem dX8_bestOf_70 : decode cX8_bestOf 70 = .ok (.if_icmp .ge 133, 3) := by decide +kernel
theorem dX8_bestOf_73 : decode cX8_bestOf 73 = .ok (.lload_n 3, 1) := by decide +kernel
theorem dX8_bestOf_74 : decode cX8_bestOf 74 = .ok (.iload 9, 2) := by decide +kernel
theorem dX8_bestOf_76 : decode cX8_bestOf 76 = .ok (.invokestatic 55, 3) := by decide +kernel
theorem dX8_bestOf_79 : decode cX8_bestOf 79 = .ok (.ifCond .eq 39, 3) := by decide +kernel
theorem dX8_bestOf_82 : decode cX8_bestOf 82 = .ok (.iload 6, 2) := by decide +kernel
theorem dX8_bestOf_84 : decode cX8_bestOf 84 = .ok (.iload 9, 2) := by decide +kernel
theorem dX8_bestOf_86 : decode cX8_bestOf 86 = .ok (.iload 5, 2) := by decide +kernel
theorem dX8_bestOf_88 : decode cX8_bestOf 88 = .ok (.invokestatic 122, 3) := by decide +kernel
theorem dX8_bestOf_91 : decode cX8_bestOf 91 = .ok (.if_icmp .lt 27, 3) := by decide +kernel
theorem dX8_bestOf_94 : decode cX8_bestOf 94 = .ok (.aload_n 0, 1) := by decide +kernel
theorem dX8_bestOf_95 : decode cX8_bestOf 95 = .ok (.iload 9, 2) := by decide +kernel
theorem dX8_bestOf_97 : decode cX8_bestOf 97 = .ok (.iconst 1, 1) := by decide +kernel
theorem dX8_bestOf_98 : decode cX8_bestOf 98 = .ok (.iload 6, 2) := by decide +kernel
theorem dX8_bestOf_100 : decode cX8_bestOf 100 = .ok (.iload 9, 2) := by decide +kernel
theorem dX8_bestOf_102 : decode cX8_bestOf 102 = .ok (.iload 5, 2) := by decide +kernel
theorem dX8_bestOf_104 : decode cX8_bestOf 104 = .ok (.invokestatic 122, 3) := by decide +kernel
theorem dX8_bestOf_107 : decode cX8_bestOf 107 = .ok (.isub, 1) := by decide +kernel
theorem dX8_bestOf_108 : decode cX8_bestOf 108 = .ok (.invokevirtual 139, 3) := by decide +kernel
theorem dX8_bestOf_111 : decode cX8_bestOf 111 = .ok (.ifCond .eq 7, 3) := by decide +kernel
theorem dX8_bestOf_114 : decode cX8_bestOf 114 = .ok (.iconst 1, 1) := by decide +kernel
theorem dX8_bestOf_115 : decode cX8_bestOf 115 = .ok (.goto 4, 3) := by decide +kernel
theorem dX8_bestOf_118 : decode cX8_bestOf 118 = .ok (.iconst 0, 1) := by decide +kernel
theorem dX8_bestOf_119 : decode cX8_bestOf 119 = .ok (.istore 10, 2) := by decide +kernel
theorem dX8_bestOf_121 : decode cX8_bestOf 121 = .ok (.iload 10, 2) := by decide +kernel
theorem dX8_bestOf_123 : decode cX8_bestOf 123 = .ok (.ifCond .eq 27, 3) := by decide +kernel
theorem dX8_bestOf_126 : decode cX8_bestOf 126 = .ok (.iload 6, 2) := by decide +kernel
theorem dX8_bestOf_128 : decode cX8_bestOf 128 = .ok (.iload 9, 2) := by decide +kernel
theorem dX8_bestOf_130 : decode cX8_bestOf 130 = .ok (.iload 5, 2) := by decide +kernel
theorem dX8_bestOf_132 : decode cX8_bestOf 132 = .ok (.invokestatic 122, 3) := by decide +kernel
theorem dX8_bestOf_135 : decode cX8_bestOf 135 = .ok (.isub, 1) := by decide +kernel
theorem dX8_bestOf_136 : decode cX8_bestOf 136 = .ok (.istore 6, 2) := by decide +kernel
theorem dX8_bestOf_138 : decode cX8_bestOf 138 = .ok (.lload 7, 2) := by decide +kernel
theorem dX8_bestOf_140 : decode cX8_bestOf 140 = .ok (.lconst 1, 1) := by decide +kernel
theorem dX8_bestOf_141 : decode cX8_bestOf 141 = .ok (.iload 9, 2) := by decide +kernel
theorem dX8_bestOf_143 : decode cX8_bestOf 143 = .ok (.lshl, 1) := by decide +kernel
theorem dX8_bestOf_144 : decode cX8_bestOf 144 = .ok (.lor, 1) := by decide +kernel
theorem dX8_bestOf_145 : decode cX8_bestOf 145 = .ok (.lstore 7, 2) := by decide +kernel
theorem dX8_bestOf_147 : decode cX8_bestOf 147 = .ok (.goto 19, 3) := by decide +kernel
theorem dX8_bestOf_150 : decode cX8_bestOf 150 = .ok (.aload_n 0, 1) := by decide +kernel
theorem dX8_bestOf_151 : decode cX8_bestOf 151 = .ok (.iload 9, 2) := by decide +kernel
theorem dX8_bestOf_153 : decode cX8_bestOf 153 = .ok (.lload_n 1, 1) := by decide +kernel
theorem dX8_bestOf_154 : decode cX8_bestOf 154 = .ok (.iload 9, 2) := by decide +kernel
theorem dX8_bestOf_156 : decode cX8_bestOf 156 = .ok (.invokestatic 55, 3) := by decide +kernel
theorem dX8_bestOf_159 : decode cX8_bestOf 159 = .ok (.iload 6, 2) := by decide +kernel
theorem dX8_bestOf_161 : decode cX8_bestOf 161 = .ok (.invokevirtual 139, 3) := by decide +kernel
theorem dX8_bestOf_164 : decode cX8_bestOf 164 = .ok (.istore 11, 2) := by decide +kernel
theorem dX8_bestOf_166 : decode cX8_bestOf 166 = .ok (.iconst 0, 1) := by decide +kernel
theorem dX8_bestOf_167 : decode cX8_bestOf 167 = .ok (.istore 11, 2) := by decide +kernel
theorem dX8_bestOf_169 : decode cX8_bestOf 169 = .ok (.iload 11, 2) := by decide +kernel
theorem dX8_bestOf_171 : decode cX8_bestOf 171 = .ok (.sipush 3840, 3) := by decide +kernel
theorem dX8_bestOf_174 : decode cX8_bestOf 174 = .ok (.if_icmp .ge 23, 3) := by decide +kernel
theorem dX8_bestOf_177 : decode cX8_bestOf 177 = .ok (.aload_n 0, 1) := by decide +kernel
theorem dX8_bestOf_178 : decode cX8_bestOf 178 = .ok (.getfield 25, 3) := by decide +kernel
theorem dX8_bestOf_181 : decode cX8_bestOf 181 = .ok (.iload 11, 2) := by decide +kernel
theorem dX8_bestOf_183 : decode cX8_bestOf 183 = .ok (.aload_n 0, 1) := by decide +kernel
theorem dX8_bestOf_184 : decode cX8_bestOf 184 = .ok (.getfield 28, 3) := by decide +kernel
theorem dX8_bestOf_187 : decode cX8_bestOf 187 = .ok (.iload 11, 2) := by decide +kernel
theorem dX8_bestOf_189 : decode cX8_bestOf 189 = .ok (.baload, 1) := by decide +kernel
theorem dX8_bestOf_190 : decode cX8_bestOf 190 = .ok (.bastore, 1) := by decide +kernel
theorem dX8_bestOf_191 : decode cX8_bestOf 191 = .ok (.iinc 11 1, 3) := by decide +kernel
theorem dX8_bestOf_194 : decode cX8_bestOf 194 = .ok (.goto (-25), 3) := by decide +kernel
theorem dX8_bestOf_197 : decode cX8_bestOf 197 = .ok (.iinc 9 1, 3) := by decide +kernel
theorem dX8_bestOf_200 : decode cX8_bestOf 200 = .ok (.goto (-134), 3) := by decide +kernel
theorem dX8_bestOf_203 : decode cX8_bestOf 203 = .ok (.iconst 0, 1) := by decide +kernel
theorem dX8_bestOf_204 : decode cX8_bestOf 204 = .ok (.istore 9, 2) := by decide +kernel
theorem dX8_bestOf_206 : decode cX8_bestOf 206 = .ok (.iconst 0, 1) := by decide +kernel
theorem dX8_bestOf_207 : decode cX8_bestOf 207 = .ok (.istore 10, 2) := by decide +kernel
theorem dX8_bestOf_209 : decode cX8_bestOf 209 = .ok (.iload 10, 2) := by decide +kernel
theorem dX8_bestOf_211 : decode cX8_bestOf 211 = .ok (.sipush 3840, 3) := by decide +kernel
theorem dX8_bestOf_214 : decode cX8_bestOf 214 = .ok (.if_icmp .ge 31, 3) := by decide +kernel
theorem dX8_bestOf_217 : decode cX8_bestOf 217 = .ok (.aload_n 0, 1) := by decide +kernel
theorem dX8_bestOf_218 : decode cX8_bestOf 218 = .ok (.getfield 25, 3) := by decide +kernel
theorem dX8_bestOf_221 : decode cX8_bestOf 221 = .ok (.iload 10, 2) := by decide +kernel
theorem dX8_bestOf_223 : decode cX8_bestOf 223 = .ok (.baload, 1) := by decide +kernel
theorem dX8_bestOf_224 : decode cX8_bestOf 224 = .ok (.ifCond .eq 15, 3) := by decide +kernel
theorem dX8_bestOf_227 : decode cX8_bestOf 227 = .ok (.iload 10, 2) := by decide +kernel
theorem dX8_bestOf_229 : decode cX8_bestOf 229 = .ok (.invokestatic 70, 3) := by decide +kernel
theorem dX8_bestOf_232 : decode cX8_bestOf 232 = .ok (.lload_n 1, 1) := by decide +kernel
theorem dX8_bestOf_233 : decode cX8_bestOf 233 = .ok (.invokestatic 78, 3) := by decide +kernel
theorem dX8_bestOf_236 : decode cX8_bestOf 236 = .ok (.isub, 1) := by decide +kernel
theorem dX8_bestOf_237 : decode cX8_bestOf 237 = .ok (.istore 9, 2) := by decide +kernel
theorem dX8_bestOf_239 : decode cX8_bestOf 239 = .ok (.iinc 10 1, 3) := by decide +kernel
theorem dX8_bestOf_242 : decode cX8_bestOf 242 = .ok (.goto (-33), 3) := by decide +kernel
theorem dX8_bestOf_245 : decode cX8_bestOf 245 = .ok (.bipush 52, 2) := by decide +kernel
theorem dX8_bestOf_247 : decode cX8_bestOf 247 = .ok (.istore 10, 2) := by decide +kernel
theorem dX8_bestOf_249 : decode cX8_bestOf 249 = .ok (.iload 10, 2) := by decide +kernel
theorem dX8_bestOf_251 : decode cX8_bestOf 251 = .ok (.bipush 54, 2) := by decide +kernel
theorem dX8_bestOf_253 : decode cX8_bestOf 253 = .ok (.if_icmp .ge 38, 3) := by decide +kernel
theorem dX8_bestOf_256 : decode cX8_bestOf 256 = .ok (.iload 9, 2) := by decide +kernel
theorem dX8_bestOf_258 : decode cX8_bestOf 258 = .ok (.ifCond .le 33, 3) := by decide +kernel
theorem dX8_bestOf_261 : decode cX8_bestOf 261 = .ok (.lload_n 3, 1) := by decide +kernel
theorem dX8_bestOf_262 : decode cX8_bestOf 262 = .ok (.iload 10, 2) := by decide +kernel
theorem dX8_bestOf_264 : decode cX8_bestOf 264 = .ok (.invokestatic 55, 3) := by decide +kernel
theorem dX8_bestOf_267 : decode cX8_bestOf 267 = .ok (.ifCond .ne 6, 3) := by decide +kernel
theorem dX8_bestOf_270 : decode cX8_bestOf 270 = .ok (.goto 15, 3) := by decide +kernel
theorem dX8_bestOf_273 : decode cX8_bestOf 273 = .ok (.lload 7, 2) := by decide +kernel
theorem dX8_bestOf_275 : decode cX8_bestOf 275 = .ok (.lconst 1, 1) := by decide +kernel
theorem dX8_bestOf_276 : decode cX8_bestOf 276 = .ok (.iload 10, 2) := by decide +kernel
theorem dX8_bestOf_278 : decode cX8_bestOf 278 = .ok (.lshl, 1) := by decide +kernel
theorem dX8_bestOf_279 : decode cX8_bestOf 279 = .ok (.lor, 1) := by decide +kernel
theorem dX8_bestOf_280 : decode cX8_bestOf 280 = .ok (.lstore 7, 2) := by decide +kernel
theorem dX8_bestOf_282 : decode cX8_bestOf 282 = .ok (.iinc 9 (-1), 3) := by decide +kernel
theorem dX8_bestOf_285 : decode cX8_bestOf 285 = .ok (.iinc 10 1, 3) := by decide +kernel
theorem dX8_bestOf_288 : decode cX8_bestOf 288 = .ok (.goto (-39), 3) := by decide +kernel
theorem dX8_bestOf_291 : decode cX8_bestOf 291 = .ok (.lload 7, 2) := by decide +kernel
theorem dX8_bestOf_293 : decode cX8_bestOf 293 = .ok (.lreturn, 1) := by decide +kernel
set_option maxRecDepth 20000 in
theorem ggX8_goes_X8_behind : GoodIn wsX8_goes wsX8_behind := goodIn_r _ [7, 8, 9, 6, 10, 11, 12, 13, 14, 15, 16] (by decide +kernel) (by decide +kernel)
set_option maxRecDepth 20000 in
theorem gX8_goes_X8_behind : GoodIn wsX8_goes (va_wsS RX8 82 yX8_behind wsX8_behind) := goodIn_app (goodIn_of _ (by decide +kernel)) ggX8_goes_X8_behind
theorem dX8_goes_0 : decode cX8_goes 0 = .ok (.iconst 0, 1) := by decide +kernel
theorem dX8_goes_1 : decode cX8_goes 1 = .ok (.istore 4, 2) := by decide +kernel
theorem dX8_goes_3 : decode cX8_goes 3 = .ok (.iconst 0, 1) := by decide +kernel
theorem dX8_goes_4 : decode cX8_goes 4 = .ok (.istore 5, 2) := by decide +kernel
theorem dX8_goes_6 : decode cX8_goes 6 = .ok (.iload 5, 2) := by decide +kernel
theorem dX8_goes_8 : decode cX8_goes 8 = .ok (.sipush 3840, 3) := by decide +kernel
theorem dX8_goes_11 : decode cX8_goes 11 = .ok (.if_icmp .ge 17, 3) := by decide +kernel
theorem dX8_goes_14 : decode cX8_goes 14 = .ok (.aload_n 0, 1) := by decide +kernel
theorem dX8_goes_15 : decode cX8_goes 15 = .ok (.getfield 28, 3) := by decide +kernel
theorem dX8_goes_18 : decode cX8_goes 18 = .ok (.iload 5, 2) := by decide +kernel
theorem dX8_goes_20 : decode cX8_goes 20 = .ok (.iconst 0, 1) := by decide +kernel
theorem dX8_goes_21 : decode cX8_goes 21 = .ok (.bastore, 1) := by decide +kernel
theorem dX8_goes_22 : decode cX8_goes 22 = .ok (.iinc 5 1, 3) := by decide +kernel
theorem dX8_goes_25 : decode cX8_goes 25 = .ok (.goto (-19), 3) := by decide +kernel
theorem dX8_goes_28 : decode cX8_goes 28 = .ok (.iconst 0, 1) := by decide +kernel
theorem dX8_goes_29 : decode cX8_goes 29 = .ok (.istore 5, 2) := by decide +kernel
theorem dX8_goes_31 : decode cX8_goes 31 = .ok (.iload 5, 2) := by decide +kernel
theorem dX8_goes_33 : decode cX8_goes 33 = .ok (.sipush 3840, 3) := by decide +kernel
theorem dX8_goes_36 : decode cX8_goes 36 = .ok (.if_icmp .ge 108, 3) := by decide +kernel
theorem dX8_goes_39 : decode cX8_goes 39 = .ok (.aload_n 0, 1) := by decide +kernel
theorem dX8_goes_40 : decode cX8_goes 40 = .ok (.getfield 25, 3) := by decide +kernel
theorem dX8_goes_43 : decode cX8_goes 43 = .ok (.iload 5, 2) := by decide +kernel
theorem dX8_goes_45 : decode cX8_goes 45 = .ok (.baload, 1) := by decide +kernel
theorem dX8_goes_46 : decode cX8_goes 46 = .ok (.ifCond .ne 6, 3) := by decide +kernel
theorem dX8_goes_49 : decode cX8_goes 49 = .ok (.goto 89, 3) := by decide +kernel
theorem dX8_goes_52 : decode cX8_goes 52 = .ok (.iload_n 2, 1) := by decide +kernel
theorem dX8_goes_53 : decode cX8_goes 53 = .ok (.ifCond .eq 7, 3) := by decide +kernel
theorem dX8_goes_56 : decode cX8_goes 56 = .ok (.iconst 1, 1) := by decide +kernel
theorem dX8_goes_57 : decode cX8_goes 57 = .ok (.goto 4, 3) := by decide +kernel
theorem dX8_goes_60 : decode cX8_goes 60 = .ok (.iconst 0, 1) := by decide +kernel
theorem dX8_goes_61 : decode cX8_goes 61 = .ok (.istore 6, 2) := by decide +kernel
theorem dX8_goes_63 : decode cX8_goes 63 = .ok (.iload 6, 2) := by decide +kernel
theorem dX8_goes_65 : decode cX8_goes 65 = .ok (.iconst 3, 1) := by decide +kernel
theorem dX8_goes_66 : decode cX8_goes 66 = .ok (.if_icmp .gt 72, 3) := by decide +kernel
theorem dX8_goes_69 : decode cX8_goes 69 = .ok (.iload 5, 2) := by decide +kernel
theorem dX8_goes_71 : decode cX8_goes 71 = .ok (.iload_n 1, 1) := by decide +kernel
theorem dX8_goes_72 : decode cX8_goes 72 = .ok (.iload 6, 2) := by decide +kernel
theorem dX8_goes_74 : decode cX8_goes 74 = .ok (.iload 6, 2) := by decide +kernel
theorem dX8_goes_76 : decode cX8_goes 76 = .ok (.ifCond .le 11, 3) := by decide +kernel
theorem dX8_goes_79 : decode cX8_goes 79 = .ok (.iload_n 2, 1) := by decide +kernel
theorem dX8_goes_80 : decode cX8_goes 80 = .ok (.ifCond .ne 7, 3) := by decide +kernel
theorem dX8_goes_83 : decode cX8_goes 83 = .ok (.iconst 1, 1) := by decide +kernel
theorem dX8_goes_84 : decode cX8_goes 84 = .ok (.goto 4, 3) := by decide +kernel
theorem dX8_goes_87 : decode cX8_goes 87 = .ok (.iconst 0, 1) := by decide +kernel
theorem dX8_goes_88 : decode cX8_goes 88 = .ok (.invokestatic 82, 3) := by decide +kernel
theorem dX8_goes_91 : decode cX8_goes 91 = .ok (.istore 7, 2) := by decide +kernel
theorem dX8_goes_93 : decode cX8_goes 93 = .ok (.iload 7, 2) := by decide +kernel
theorem dX8_goes_95 : decode cX8_goes 95 = .ok (.iconst (-1), 1) := by decide +kernel
theorem dX8_goes_96 : decode cX8_goes 96 = .ok (.if_icmp .eq 36, 3) := by decide +kernel
theorem dX8_goes_99 : decode cX8_goes 99 = .ok (.aload_n 0, 1) := by decide +kernel
theorem dX8_goes_100 : decode cX8_goes 100 = .ok (.getfield 22, 3) := by decide +kernel
theorem dX8_goes_103 : decode cX8_goes 103 = .ok (.sipush 3840, 3) := by decide +kernel
theorem dX8_goes_106 : decode cX8_goes 106 = .ok (.iload_n 1, 1) := by decide +kernel
theorem dX8_goes_107 : decode cX8_goes 107 = .ok (.iconst 1, 1) := by decide +kernel
theorem dX8_goes_108 : decode cX8_goes 108 = .ok (.iadd, 1) := by decide +kernel
theorem dX8_goes_109 : decode cX8_goes 109 = .ok (.imul, 1) := by decide +kernel
theorem dX8_goes_110 : decode cX8_goes 110 = .ok (.iload 7, 2) := by decide +kernel
theorem dX8_goes_112 : decode cX8_goes 112 = .ok (.iadd, 1) := by decide +kernel
theorem dX8_goes_113 : decode cX8_goes 113 = .ok (.iaload, 1) := by decide +kernel
theorem dX8_goes_114 : decode cX8_goes 114 = .ok (.iload_n 3, 1) := by decide +kernel
theorem dX8_goes_115 : decode cX8_goes 115 = .ok (.if_icmp .eq 6, 3) := by decide +kernel
theorem dX8_goes_118 : decode cX8_goes 118 = .ok (.goto 14, 3) := by decide +kernel
theorem dX8_goes_121 : decode cX8_goes 121 = .ok (.aload_n 0, 1) := by decide +kernel
theorem dX8_goes_122 : decode cX8_goes 122 = .ok (.getfield 28, 3) := by decide +kernel
theorem dX8_goes_125 : decode cX8_goes 125 = .ok (.iload 7, 2) := by decide +kernel
theorem dX8_goes_127 : decode cX8_goes 127 = .ok (.iconst 1, 1) := by decide +kernel
theorem dX8_goes_128 : decode cX8_goes 128 = .ok (.bastore, 1) := by decide +kernel
theorem dX8_goes_129 : decode cX8_goes 129 = .ok (.iconst 1, 1) := by decide +kernel
theorem dX8_goes_130 : decode cX8_goes 130 = .ok (.istore 4, 2) := by decide +kernel
theorem dX8_goes_132 : decode cX8_goes 132 = .ok (.iinc 6 1, 3) := by decide +kernel
theorem dX8_goes_135 : decode cX8_goes 135 = .ok (.goto (-72), 3) := by decide +kernel
theorem dX8_goes_138 : decode cX8_goes 138 = .ok (.iinc 5 1, 3) := by decide +kernel
theorem dX8_goes_141 : decode cX8_goes 141 = .ok (.goto (-110), 3) := by decide +kernel
theorem dX8_goes_144 : decode cX8_goes 144 = .ok (.iload 4, 2) := by decide +kernel
theorem dX8_goes_146 : decode cX8_goes 146 = .ok (.ireturn, 1) := by decide +kernel
set_option maxRecDepth 20000 in
theorem ggX8_best_X8_isSet : GoodIn wsX8_best wsX8_isSet := goodIn_r _ [5, 6] (by decide +kernel) (by decide +kernel)
set_option maxRecDepth 20000 in
theorem gX8_best_X8_isSet : GoodIn wsX8_best (va_wsS RX8 86 yX8_isSet wsX8_isSet) := goodIn_app (goodIn_of _ (by decide +kernel)) ggX8_best_X8_isSet
set_option maxRecDepth 20000 in
theorem ggX8_best_X8_none : GoodIn wsX8_best wsX8_none := goodIn_r _ [10, 1, 74, 75, 76, 77, 78, 79, 80, 81, 82, 83, 84, 85, 86, 87, 88, 89, 90, 91, 92, 93, 94, 95, 96] (by decide +kernel) (by decide +kernel)
set_option maxRecDepth 20000 in
theorem gX8_best_X8_none : GoodIn wsX8_best (wsV RX8 90 RX8 yX8_none wsX8_none) := goodIn_app (goodIn_of _ (by decide +kernel)) ggX8_best_X8_none
set_option maxRecDepth 20000 in
theorem ggX8_best_X8_bestOf : GoodIn wsX8_best wsX8_bestOf := goodIn_r _ [14, 15, 16, 17, 18, 19, 20, 21, 4, 22, 23, 24, 25, 26, 27, 28, 29, 30, 31, 32, 33, 34, 35, 36, 37, 38, 39, 40, 41, 42, 43, 44, 45, 46, 47, 48, 49, 50, 51, 52, 53, 54, 55, 56, 57, 58, 59, 60, 61, 62, 74, 75, 76, 77, 78, 79, 80, 81, 82, 83, 84, 85, 86, 87, 88, 89, 90, 91, 92, 93, 94, 95, 96] (by decide +kernel) (by decide +kernel)
set_option maxRecDepth 20000 in
theorem gX8_best_X8_bestOf : GoodIn wsX8_best (wsV RX8 143 RX8 yX8_bestOf wsX8_bestOf) := goodIn_app (goodIn_of _ (by decide +kernel)) ggX8_best_X8_bestOf
set_option maxRecDepth 20000 in
theorem ggX8_best_X8_keeps : GoodIn wsX8_best wsX8_keeps := goodIn_r _ [66, 67, 68, 69, 70, 71, 72, 4, 73, 23, 34, 35, 36, 37, 38, 39, 40, 41, 42, 28, 29, 30, 31, 32, 33, 49, 50, 51, 52, 53, 54, 74, 75, 76, 77, 78, 79, 80, 81, 82, 83, 84, 85, 86, 87, 88, 89, 90, 91, 92, 93, 94, 95, 96] (by decide +kernel) (by decide +kernel)
set_option maxRecDepth 20000 in
theorem gX8_best_X8_keeps : GoodIn wsX8_best (wsV RX8 97 RX8 yX8_keeps wsX8_keeps) := goodIn_app (goodIn_of _ (by decide +kernel)) ggX8_best_X8_keeps
