theorem dX8_best_0 : decode cX8_best 0 = .ok (.lload_n 1, 1) := by decide +kernel
theorem dX8_best_1 : decode cX8_best 1 = .ok (.invokestatic 86, 3) := by decide +kernel
theorem dX8_best_4 : decode cX8_best 4 = .ok (.ifCond .eq 21, 3) := by decide +kernel
theorem dX8_best_7 : decode cX8_best 7 = .ok (.lload_n 3, 1) := by decide +kernel
theorem dX8_best_8 : decode cX8_best 8 = .ok (.invokestatic 86, 3) := by decide +kernel
theorem dX8_best_11 : decode cX8_best 11 = .ok (.ifCond .eq 14, 3) := by decide +kernel
theorem dX8_best_14 : decode cX8_best 14 = .ok (.iload 5, 2) := by decide +kernel
theorem dX8_best_16 : decode cX8_best 16 = .ok (.ifCond .lt 9, 3) := by decide +kernel
theorem dX8_best_19 : decode cX8_best 19 = .ok (.iload 5, 2) := by decide +kernel
theorem dX8_best_21 : decode cX8_best 21 = .ok (.iconst 1, 1) := by decide +kernel
theorem dX8_best_22 : decode cX8_best 22 = .ok (.if_icmp .le 10, 3) := by decide +kernel
theorem dX8_best_25 : decode cX8_best 25 = .ok (.aload_n 0, 1) := by decide +kernel
theorem dX8_best_26 : decode cX8_best 26 = .ok (.iconst 1, 1) := by decide +kernel
theorem dX8_best_27 : decode cX8_best 27 = .ok (.invokevirtual 90, 3) := by decide +kernel
theorem dX8_best_30 : decode cX8_best 30 = .ok (.i2l, 1) := by decide +kernel
theorem dX8_best_31 : decode cX8_best 31 = .ok (.lreturn, 1) := by decide +kernel
theorem dX8_best_32 : decode cX8_best 32 = .ok (.lload_n 1, 1) := by decide +kernel
theorem dX8_best_33 : decode cX8_best 33 = .ok (.lload_n 3, 1) := by decide +kernel
theorem dX8_best_34 : decode cX8_best 34 = .ok (.land, 1) := by decide +kernel
theorem dX8_best_35 : decode cX8_best 35 = .ok (.lconst 0, 1) := by decide +kernel
theorem dX8_best_36 : decode cX8_best 36 = .ok (.lcmp, 1) := by decide +kernel
theorem dX8_best_37 : decode cX8_best 37 = .ok (.ifCond .eq 10, 3) := by decide +kernel
theorem dX8_best_40 : decode cX8_best 40 = .ok (.aload_n 0, 1) := by decide +kernel
theorem dX8_best_41 : decode cX8_best 41 = .ok (.iconst 2, 1) := by decide +kernel
theorem dX8_best_42 : decode cX8_best 42 = .ok (.invokevirtual 90, 3) := by decide +kernel
theorem dX8_best_45 : decode cX8_best 45 = .ok (.i2l, 1) := by decide +kernel
theorem dX8_best_46 : decode cX8_best 46 = .ok (.lreturn, 1) := by decide +kernel
theorem dX8_best_47 : decode cX8_best 47 = .ok (.aload_n 0, 1) := by decide +kernel
theorem dX8_best_48 : decode cX8_best 48 = .ok (.lload_n 1, 1) := by decide +kernel
theorem dX8_best_49 : decode cX8_best 49 = .ok (.lload_n 3, 1) := by decide +kernel
theorem dX8_best_50 : decode cX8_best 50 = .ok (.iload 5, 2) := by decide +kernel
theorem dX8_best_52 : decode cX8_best 52 = .ok (.invokevirtual 143, 3) := by decide +kernel
theorem dX8_best_55 : decode cX8_best 55 = .ok (.lstore 6, 2) := by decide +kernel
theorem dX8_best_57 : decode cX8_best 57 = .ok (.lload 6, 2) := by decide +kernel
theorem dX8_best_59 : decode cX8_best 59 = .ok (.lconst 0, 1) := by decide +kernel
theorem dX8_best_60 : decode cX8_best 60 = .ok (.lcmp, 1) := by decide +kernel
theorem dX8_best_61 : decode cX8_best 61 = .ok (.ifCond .ge 10, 3) := by decide +kernel
theorem dX8_best_64 : decode cX8_best 64 = .ok (.aload_n 0, 1) := by decide +kernel
theorem dX8_best_65 : decode cX8_best 65 = .ok (.iconst 3, 1) := by decide +kernel
theorem dX8_best_66 : decode cX8_best 66 = .ok (.invokevirtual 90, 3) := by decide +kernel
theorem dX8_best_69 : decode cX8_best 69 = .ok (.i2l, 1) := by decide +kernel
theorem dX8_best_70 : decode cX8_best 70 = .ok (.lreturn, 1) := by decide +kernel
theorem dX8_best_71 : decode cX8_best 71 = .ok (.aload_n 0, 1) := by decide +kernel
theorem dX8_best_72 : decode cX8_best 72 = .ok (.lload_n 1, 1) := by decide +kernel
theorem dX8_best_73 : decode cX8_best 73 = .ok (.lload 6, 2) := by decide +kernel
theorem dX8_best_75 : decode cX8_best 75 = .ok (.lor, 1) := by decide +kernel
theorem dX8_best_76 : decode cX8_best 76 = .ok (.invokevirtual 97, 3) := by decide +kernel
theorem dX8_best_79 : decode cX8_best 79 = .ok (.istore 8, 2) := by decide +kernel
theorem dX8_best_81 : decode cX8_best 81 = .ok (.aload_n 0, 1) := by decide +kernel
theorem dX8_best_82 : decode cX8_best 82 = .ok (.iconst 0, 1) := by decide +kernel
theorem dX8_best_83 : decode cX8_best 83 = .ok (.putfield 50, 3) := by decide +kernel
theorem dX8_best_86 : decode cX8_best 86 = .ok (.lload 6, 2) := by decide +kernel
theorem dX8_best_88 : decode cX8_best 88 = .ok (.lreturn, 1) := by decide +kernel
theorem dX8_opening_0 : decode cX8_opening 0 = .ok (.aload_n 0, 1) := by decide +kernel
theorem dX8_opening_1 : decode cX8_opening 1 = .ok (.iload_n 1, 1) := by decide +kernel
theorem dX8_opening_2 : decode cX8_opening 2 = .ok (.ifCond .lt 10, 3) := by decide +kernel
theorem dX8_opening_5 : decode cX8_opening 5 = .ok (.iload_n 1, 1) := by decide +kernel
theorem dX8_opening_6 : decode cX8_opening 6 = .ok (.sipush 200, 3) := by decide +kernel
theorem dX8_opening_9 : decode cX8_opening 9 = .ok (.if_icmp .le 7, 3) := by decide +kernel
theorem dX8_opening_12 : decode cX8_opening 12 = .ok (.iconst 1, 1) := by decide +kernel
theorem dX8_opening_13 : decode cX8_opening 13 = .ok (.goto 4, 3) := by decide +kernel
theorem dX8_opening_16 : decode cX8_opening 16 = .ok (.iconst 0, 1) := by decide +kernel
theorem dX8_opening_17 : decode cX8_opening 17 = .ok (.putfield 50, 3) := by decide +kernel
theorem dX8_opening_20 : decode cX8_opening 20 = .ok (.aload_n 0, 1) := by decide +kernel
theorem dX8_opening_21 : decode cX8_opening 21 = .ok (.getfield 50, 3) := by decide +kernel
theorem dX8_opening_24 : decode cX8_opening 24 = .ok (.ifCond .ne 8, 3) := by decide +kernel
theorem dX8_opening_27 : decode cX8_opening 27 = .ok (.aload_n 0, 1) := by decide +kernel
theorem dX8_opening_28 : decode cX8_opening 28 = .ok (.iload_n 1, 1) := by decide +kernel
theorem dX8_opening_29 : decode cX8_opening 29 = .ok (.putfield 31, 3) := by decide +kernel
theorem dX8_opening_32 : decode cX8_opening 32 = .ok (.aload_n 0, 1) := by decide +kernel
theorem dX8_opening_33 : decode cX8_opening 33 = .ok (.getfield 50, 3) := by decide +kernel
theorem dX8_opening_36 : decode cX8_opening 36 = .ok (.ifCond .ne 7, 3) := by decide +kernel
theorem dX8_opening_39 : decode cX8_opening 39 = .ok (.iconst 1, 1) := by decide +kernel
theorem dX8_opening_40 : decode cX8_opening 40 = .ok (.goto 4, 3) := by decide +kernel
theorem dX8_opening_43 : decode cX8_opening 43 = .ok (.iconst 0, 1) := by decide +kernel
theorem dX8_opening_44 : decode cX8_opening 44 = .ok (.ireturn, 1) := by decide +kernel
theorem dX8_deal_0 : decode cX8_deal 0 = .ok (.aload_n 0, 1) := by decide +kernel
theorem dX8_deal_1 : decode cX8_deal 1 = .ok (.iload_n 1, 1) := by decide +kernel
theorem dX8_deal_2 : decode cX8_deal 2 = .ok (.iconst 2, 1) := by decide +kernel
theorem dX8_deal_3 : decode cX8_deal 3 = .ok (.if_icmp .lt 30, 3) := by decide +kernel
theorem dX8_deal_6 : decode cX8_deal 6 = .ok (.iload_n 1, 1) := by decide +kernel
theorem dX8_deal_7 : decode cX8_deal 7 = .ok (.iconst 4, 1) := by decide +kernel
theorem dX8_deal_8 : decode cX8_deal 8 = .ok (.if_icmp .gt 25, 3) := by decide +kernel
theorem dX8_deal_11 : decode cX8_deal 11 = .ok (.iload_n 2, 1) := by decide +kernel
theorem dX8_deal_12 : decode cX8_deal 12 = .ok (.iconst 1, 1) := by decide +kernel
theorem dX8_deal_13 : decode cX8_deal 13 = .ok (.if_icmp .lt 20, 3) := by decide +kernel
theorem dX8_deal_16 : decode cX8_deal 16 = .ok (.iload_n 2, 1) := by decide +kernel
theorem dX8_deal_17 : decode cX8_deal 17 = .ok (.bipush 13, 2) := by decide +kernel
theorem dX8_deal_19 : decode cX8_deal 19 = .ok (.if_icmp .gt 14, 3) := by decide +kernel
theorem dX8_deal_22 : decode cX8_deal 22 = .ok (.iload_n 3, 1) := by decide +kernel
theorem dX8_deal_23 : decode cX8_deal 23 = .ok (.iconst 1, 1) := by decide +kernel
theorem dX8_deal_24 : decode cX8_deal 24 = .ok (.if_icmp .lt 9, 3) := by decide +kernel
theorem dX8_deal_27 : decode cX8_deal 27 = .ok (.iload_n 3, 1) := by decide +kernel
theorem dX8_deal_28 : decode cX8_deal 28 = .ok (.ldc 147, 2) := by decide +kernel
theorem dX8_deal_30 : decode cX8_deal 30 = .ok (.if_icmp .le 7, 3) := by decide +kernel
theorem dX8_deal_33 : decode cX8_deal 33 = .ok (.iconst 1, 1) := by decide +kernel
theorem dX8_deal_34 : decode cX8_deal 34 = .ok (.goto 4, 3) := by decide +kernel
theorem dX8_deal_37 : decode cX8_deal 37 = .ok (.iconst 0, 1) := by decide +kernel
theorem dX8_deal_38 : decode cX8_deal 38 = .ok (.putfield 50, 3) := by decide +kernel
theorem dX8_deal_41 : decode cX8_deal 41 = .ok (.aload_n 0, 1) := by decide +kernel
theorem dX8_deal_42 : decode cX8_deal 42 = .ok (.getfield 50, 3) := by decide +kernel
theorem dX8_deal_45 : decode cX8_deal 45 = .ok (.ifCond .le 5, 3) := by decide +kernel
theorem dX8_deal_48 : decode cX8_deal 48 = .ok (.iconst 0, 1) := by decide +kernel
theorem dX8_deal_49 : decode cX8_deal 49 = .ok (.ireturn, 1) := by decide +kernel
theorem dX8_deal_50 : decode cX8_deal 50 = .ok (.iconst 0, 1) := by decide +kernel
theorem dX8_deal_51 : decode cX8_deal 51 = .ok (.istore 4, 2) := by decide +kernel
theorem dX8_deal_53 : decode cX8_deal 53 = .ok (.iload 4, 2) := by decide +kernel
theorem dX8_deal_55 : decode cX8_deal 55 = .ok (.bipush 54, 2) := by decide +kernel
theorem dX8_deal_57 : decode cX8_deal 57 = .ok (.if_icmp .ge 18, 3) := by decide +kernel
theorem dX8_deal_60 : decode cX8_deal 60 = .ok (.aload_n 0, 1) := by decide +kernel
theorem dX8_deal_61 : decode cX8_deal 61 = .ok (.getfield 41, 3) := by decide +kernel
theorem dX8_deal_64 : decode cX8_deal 64 = .ok (.iload 4, 2) := by decide +kernel
theorem dX8_deal_66 : decode cX8_deal 66 = .ok (.iload 4, 2) := by decide +kernel
theorem dX8_deal_68 : decode cX8_deal 68 = .ok (.iastore, 1) := by decide +kernel
theorem dX8_deal_69 : decode cX8_deal 69 = .ok (.iinc 4 1, 3) := by decide +kernel
theorem dX8_deal_72 : decode cX8_deal 72 = .ok (.goto (-19), 3) := by decide +kernel
theorem dX8_deal_75 : decode cX8_deal 75 = .ok (.iload_n 3, 1) := by decide +kernel
theorem dX8_deal_76 : decode cX8_deal 76 = .ok (.i2l, 1) := by decide +kernel
theorem dX8_deal_77 : decode cX8_deal 77 = .ok (.lstore 4, 2) := by decide +kernel
theorem dX8_deal_79 : decode cX8_deal 79 = .ok (.bipush 53, 2) := by decide +kernel
theorem dX8_deal_81 : decode cX8_deal 81 = .ok (.istore 6, 2) := by decide +kernel
theorem dX8_deal_83 : decode cX8_deal 83 = .ok (.iload 6, 2) := by decide +kernel
theorem dX8_deal_85 : decode cX8_deal 85 = .ok (.ifCond .le 64, 3) := by decide +kernel
theorem dX8_deal_88 : decode cX8_deal 88 = .ok (.ldc2_w 148, 3) := by decide +kernel
theorem dX8_deal_91 : decode cX8_deal 91 = .ok (.lload 4, 2) := by decide +kernel
theorem dX8_deal_93 : decode cX8_deal 93 = .ok (.lmul, 1) := by decide +kernel
theorem dX8_deal_94 : decode cX8_deal 94 = .ok (.ldc2_w 150, 3) := by decide +kernel
theorem dX8_deal_97 : decode cX8_deal 97 = .ok (.lrem, 1) := by decide +kernel
theorem dX8_deal_98 : decode cX8_deal 98 = .ok (.lstore 4, 2) := by decide +kernel
theorem dX8_deal_100 : decode cX8_deal 100 = .ok (.lload 4, 2) := by decide +kernel
theorem dX8_deal_102 : decode cX8_deal 102 = .ok (.iload 6, 2) := by decide +kernel
theorem dX8_deal_104 : decode cX8_deal 104 = .ok (.iconst 1, 1) := by decide +kernel
theorem dX8_deal_105 : decode cX8_deal 105 = .ok (.iadd, 1) := by decide +kernel
theorem dX8_deal_106 : decode cX8_deal 106 = .ok (.i2l, 1) := by decide +kernel
theorem dX8_deal_107 : decode cX8_deal 107 = .ok (.lrem, 1) := by decide +kernel
theorem dX8_deal_108 : decode cX8_deal 108 = .ok (.l2i, 1) := by decide +kernel
theorem dX8_deal_109 : decode cX8_deal 109 = .ok (.istore 7, 2) := by decide +kernel
theorem dX8_deal_111 : decode cX8_deal 111 = .ok (.aload_n 0, 1) := by decide +kernel
theorem dX8_deal_112 : decode cX8_deal 112 = .ok (.getfield 41, 3) := by decide +kernel
theorem dX8_deal_115 : decode cX8_deal 115 = .ok (.iload 6, 2) := by decide +kernel
theorem dX8_deal_117 : decode cX8_deal 117 = .ok (.iaload, 1) := by decide +kernel
theorem dX8_deal_118 : decode cX8_deal 118 = .ok (.istore 8, 2) := by decide +kernel
theorem dX8_deal_120 : decode cX8_deal 120 = .ok (.aload_n 0, 1) := by decide +kernel
theorem dX8_deal_121 : decode cX8_deal 121 = .ok (.getfield 41, 3) := by decide +kernel
theorem dX8_deal_124 : decode cX8_deal 124 = .ok (.iload 6, 2) := by decide +kernel
theorem dX8_deal_126 : decode cX8_deal 126 = .ok (.aload_n 0, 1) := by decide +kernel
theorem dX8_deal_127 : decode cX8_deal 127 = .ok (.getfield 41, 3) := by decide +kernel
theorem dX8_deal_130 : decode cX8_deal 130 = .ok (.iload 7, 2) := by decide +kernel
theorem dX8_deal_132 : decode cX8_deal 132 = .ok (.iaload, 1) := by decide +kernel
theorem dX8_deal_133 : decode cX8_deal 133 = .ok (.iastore, 1) := by decide +kernel
theorem dX8_deal_134 : decode cX8_deal 134 = .ok (.aload_n 0, 1) := by decide +kernel
theorem dX8_deal_135 : decode cX8_deal 135 = .ok (.getfield 41, 3) := by decide +kernel
theorem dX8_deal_138 : decode cX8_deal 138 = .ok (.iload 7, 2) := by decide +kernel
theorem dX8_deal_140 : decode cX8_deal 140 = .ok (.iload 8, 2) := by decide +kernel
theorem dX8_deal_142 : decode cX8_deal 142 = .ok (.iastore, 1) := by decide +kernel
theorem dX8_deal_143 : decode cX8_deal 143 = .ok (.iinc 6 (-1), 3) := by decide +kernel
theorem dX8_deal_146 : decode cX8_deal 146 = .ok (.goto (-63), 3) := by decide +kernel
theorem dX8_deal_149 : decode cX8_deal 149 = .ok (.aload_n 0, 1) := by decide +kernel
theorem dX8_deal_150 : decode cX8_deal 150 = .ok (.iconst 0, 1) := by decide +kernel
theorem dX8_deal_151 : decode cX8_deal 151 = .ok (.putfield 152, 3) := by decide +kernel
theorem dX8_deal_154 : decode cX8_deal 154 = .ok (.iconst 0, 1) := by decide +kernel
theorem dX8_deal_155 : decode cX8_deal 155 = .ok (.istore 6, 2) := by decide +kernel
theorem dX8_deal_157 : decode cX8_deal 157 = .ok (.iload 6, 2) := by decide +kernel
theorem dX8_deal_159 : decode cX8_deal 159 = .ok (.iload_n 1, 1) := by decide +kernel
theorem dX8_deal_160 : decode cX8_deal 160 = .ok (.if_icmp .ge 71, 3) := by decide +kernel
theorem dX8_deal_163 : decode cX8_deal 163 = .ok (.aload_n 0, 1) := by decide +kernel
theorem dX8_deal_164 : decode cX8_deal 164 = .ok (.getfield 35, 3) := by decide +kernel
theorem dX8_deal_167 : decode cX8_deal 167 = .ok (.iload 6, 2) := by decide +kernel
theorem dX8_deal_169 : decode cX8_deal 169 = .ok (.lconst 0, 1) := by decide +kernel
theorem dX8_deal_170 : decode cX8_deal 170 = .ok (.lastore, 1) := by decide +kernel
theorem dX8_deal_171 : decode cX8_deal 171 = .ok (.aload_n 0, 1) := by decide +kernel
theorem dX8_deal_172 : decode cX8_deal 172 = .ok (.getfield 38, 3) := by decide +kernel
theorem dX8_deal_175 : decode cX8_deal 175 = .ok (.iload 6, 2) := by decide +kernel
theorem dX8_deal_177 : decode cX8_deal 177 = .ok (.iconst 0, 1) := by decide +kernel
theorem dX8_deal_178 : decode cX8_deal 178 = .ok (.bastore, 1) := by decide +kernel
theorem dX8_deal_179 : decode cX8_deal 179 = .ok (.iconst 0, 1) := by decide +kernel
theorem dX8_deal_180 : decode cX8_deal 180 = .ok (.istore 7, 2) := by decide +kernel
theorem dX8_deal_182 : decode cX8_deal 182 = .ok (.iload 7, 2) := by decide +kernel
theorem dX8_deal_184 : decode cX8_deal 184 = .ok (.iload_n 2, 1) := by decide +kernel
theorem dX8_deal_185 : decode cX8_deal 185 = .ok (.if_icmp .ge 40, 3) := by decide +kernel
theorem dX8_deal_188 : decode cX8_deal 188 = .ok (.aload_n 0, 1) := by decide +kernel
theorem dX8_deal_189 : decode cX8_deal 189 = .ok (.getfield 35, 3) := by decide +kernel
theorem dX8_deal_192 : decode cX8_deal 192 = .ok (.iload 6, 2) := by decide +kernel
theorem dX8_deal_194 : decode cX8_deal 194 = .ok (.dup2, 1) := by decide +kernel
theorem dX8_deal_195 : decode cX8_deal 195 = .ok (.laload, 1) := by decide +kernel
theorem dX8_deal_196 : decode cX8_deal 196 = .ok (.lconst 1, 1) := by decide +kernel
theorem dX8_deal_197 : decode cX8_deal 197 = .ok (.aload_n 0, 1) := by decide +kernel
theorem dX8_deal_198 : decode cX8_deal 198 = .ok (.getfield 41, 3) := by decide +kernel
theorem dX8_deal_201 : decode cX8_deal 201 = .ok (.aload_n 0, 1) := by decide +kernel
theorem dX8_deal_202 : decode cX8_deal 202 = .ok (.getfield 152, 3) := by decide +kernel
theorem dX8_deal_205 : decode cX8_deal 205 = .ok (.iaload, 1) := by decide +kernel
theorem dX8_deal_206 : decode cX8_deal 206 = .ok (.lshl, 1) := by decide +kernel
theorem dX8_deal_207 : decode cX8_deal 207 = .ok (.lor, 1) := by decide +kernel
theorem dX8_deal_208 : decode cX8_deal 208 = .ok (.lastore, 1) := by decide +kernel
theorem dX8_deal_209 : decode cX8_deal 209 = .ok (.aload_n 0, 1) := by decide +kernel
theorem dX8_deal_210 : decode cX8_deal 210 = .ok (.dup, 1) := by decide +kernel
theorem dX8_deal_211 : decode cX8_deal 211 = .ok (.getfield 152, 3) := by decide +kernel
theorem dX8_deal_214 : decode cX8_deal 214 = .ok (.iconst 1, 1) := by decide +kernel
theorem dX8_deal_215 : decode cX8_deal 215 = .ok (.iadd, 1) := by decide +kernel
theorem dX8_deal_216 : decode cX8_deal 216 = .ok (.putfield 152, 3) := by decide +kernel
theorem dX8_deal_219 : decode cX8_deal 219 = .ok (.iinc 7 1, 3) := by decide +kernel
theorem dX8_deal_222 : decode cX8_deal 222 = .ok (.goto (-40), 3) := by decide +kernel
theorem dX8_deal_225 : decode cX8_deal 225 = .ok (.iinc 6 1, 3) := by decide +kernel
theorem dX8_deal_228 : decode cX8_deal 228 = .ok (.goto (-71), 3) := by decide +kernel
theorem dX8_deal_231 : decode cX8_deal 231 = .ok (.aload_n 0, 1) := by decide +kernel
theorem dX8_deal_232 : decode cX8_deal 232 = .ok (.iload_n 1, 1) := by decide +kernel
theorem dX8_deal_233 : decode cX8_deal 233 = .ok (.putfield 155, 3) := by decide +kernel
theorem dX8_deal_236 : decode cX8_deal 236 = .ok (.aload_n 0, 1) := by decide +kernel
theorem dX8_deal_237 : decode cX8_deal 237 = .ok (.iconst 1, 1) := by decide +kernel
theorem dX8_deal_238 : decode cX8_deal 238 = .ok (.putfield 158, 3) := by decide +kernel
theorem dX8_deal_241 : decode cX8_deal 241 = .ok (.aload_n 0, 1) := by decide +kernel
theorem dX8_deal_242 : decode cX8_deal 242 = .ok (.iconst 0, 1) := by decide +kernel
theorem dX8_deal_243 : decode cX8_deal 243 = .ok (.putfield 162, 3) := by decide +kernel
theorem dX8_deal_246 : decode cX8_deal 246 = .ok (.aload_n 0, 1) := by decide +kernel
theorem dX8_deal_247 : decode cX8_deal 247 = .ok (.iconst 0, 1) := by decide +kernel
theorem dX8_deal_248 : decode cX8_deal 248 = .ok (.putfield 165, 3) := by decide +kernel
theorem dX8_deal_251 : decode cX8_deal 251 = .ok (.aload_n 0, 1) := by decide +kernel
theorem dX8_deal_252 : decode cX8_deal 252 = .ok (.iconst (-1), 1) := by decide +kernel
theorem dX8_deal_253 : decode cX8_deal 253 = .ok (.putfield 168, 3) := by decide +kernel
theorem dX8_deal_256 : decode cX8_deal 256 = .ok (.aload_n 0, 1) := by decide +kernel
theorem dX8_deal_257 : decode cX8_deal 257 = .ok (.iconst 0, 1) := by decide +kernel
theorem dX8_deal_258 : decode cX8_deal 258 = .ok (.putfield 171, 3) := by decide +kernel
theorem dX8_deal_261 : decode cX8_deal 261 = .ok (.aload_n 0, 1) := by decide +kernel
theorem dX8_deal_262 : decode cX8_deal 262 = .ok (.iconst 0, 1) := by decide +kernel
theorem dX8_deal_263 : decode cX8_deal 263 = .ok (.putfield 174, 3) := by decide +kernel
theorem dX8_deal_266 : decode cX8_deal 266 = .ok (.aload_n 0, 1) := by decide +kernel
theorem dX8_deal_267 : decode cX8_deal 267 = .ok (.iconst 0, 1) := by decide +kernel
theorem dX8_deal_268 : decode cX8_deal 268 = .ok (.putfield 177, 3) := by decide +kernel
theorem dX8_deal_271 : decode cX8_deal 271 = .ok (.aload_n 0, 1) := by decide +kernel
theorem dX8_deal_272 : decode cX8_deal 272 = .ok (.lconst 0, 1) := by decide +kernel
theorem dX8_deal_273 : decode cX8_deal 273 = .ok (.putfield 180, 3) := by decide +kernel
theorem dX8_deal_276 : decode cX8_deal 276 = .ok (.iconst 1, 1) := by decide +kernel
theorem dX8_deal_277 : decode cX8_deal 277 = .ok (.ireturn, 1) := by decide +kernel
set_option maxRecDepth 20000 in
theorem ggX8_hand_X8_none : GoodIn wsX8_hand wsX8_none := goodIn_r _ [9, 3, 10, 11, 12, 13, 14, 15, 16, 17, 18, 19, 20, 21, 22, 23, 24, 25, 26, 27, 28, 29, 30, 31, 32] (by decide +kernel) (by decide +kernel)
set_option maxRecDepth 20000 in
theorem gX8_hand_X8_none : GoodIn wsX8_hand (wsV RX8 90 RX8 yX8_none wsX8_none) := goodIn_app (goodIn_of _ (by decide +kernel)) ggX8_hand_X8_none
theorem dX8_hand_0 : decode cX8_hand 0 = .ok (.iload_n 1, 1) := by decide +kernel
theorem dX8_hand_1 : decode cX8_hand 1 = .ok (.ifCond .lt 8, 3) := by decide +kernel
theorem dX8_hand_4 : decode cX8_hand 4 = .ok (.iload_n 1, 1) := by decide +kernel
theorem dX8_hand_5 : decode cX8_hand 5 = .ok (.iconst 3, 1) := by decide +kernel
theorem dX8_hand_6 : decode cX8_hand 6 = .ok (.if_icmp .le 10, 3) := by decide +kernel
theorem dX8_hand_9 : decode cX8_hand 9 = .ok (.aload_n 0, 1) := by decide +kernel
theorem dX8_hand_10 : decode cX8_hand 10 = .ok (.iconst 1, 1) := by decide +kernel
theorem dX8_hand_11 : decode cX8_hand 11 = .ok (.invokevirtual 90, 3) := by decide +kernel
theorem dX8_hand_14 : decode cX8_hand 14 = .ok (.i2l, 1) := by decide +kernel
theorem dX8_hand_15 : decode cX8_hand 15 = .ok (.lreturn, 1) := by decide +kernel
theorem dX8_hand_16 : decode cX8_hand 16 = .ok (.aload_n 0, 1) := by decide +kernel
theorem dX8_hand_17 : decode cX8_hand 17 = .ok (.getfield 158, 3) := by decide +kernel
theorem dX8_hand_20 : decode cX8_hand 20 = .ok (.ifCond .ne 10, 3) := by decide +kernel
theorem dX8_hand_23 : decode cX8_hand 23 = .ok (.aload_n 0, 1) := by decide +kernel
theorem dX8_hand_24 : decode cX8_hand 24 = .ok (.iconst 4, 1) := by decide +kernel
theorem dX8_hand_25 : decode cX8_hand 25 = .ok (.invokevirtual 90, 3) := by decide +kernel
theorem dX8_hand_28 : decode cX8_hand 28 = .ok (.i2l, 1) := by decide +kernel
theorem dX8_hand_29 : decode cX8_hand 29 = .ok (.lreturn, 1) := by decide +kernel
theorem dX8_hand_30 : decode cX8_hand 30 = .ok (.iload_n 1, 1) := by decide +kernel
theorem dX8_hand_31 : decode cX8_hand 31 = .ok (.aload_n 0, 1) := by decide +kernel
theorem dX8_hand_32 : decode cX8_hand 32 = .ok (.getfield 155, 3) := by decide +kernel
theorem dX8_hand_35 : decode cX8_hand 35 = .ok (.if_icmp .lt 10, 3) := by decide +kernel
theorem dX8_hand_38 : decode cX8_hand 38 = .ok (.aload_n 0, 1) := by decide +kernel
theorem dX8_hand_39 : decode cX8_hand 39 = .ok (.iconst 1, 1) := by decide +kernel
theorem dX8_hand_40 : decode cX8_hand 40 = .ok (.invokevirtual 90, 3) := by decide +kernel
theorem dX8_hand_43 : decode cX8_hand 43 = .ok (.i2l, 1) := by decide +kernel
theorem dX8_hand_44 : decode cX8_hand 44 = .ok (.lreturn, 1) := by decide +kernel
theorem dX8_hand_45 : decode cX8_hand 45 = .ok (.aload_n 0, 1) := by decide +kernel
theorem dX8_hand_46 : decode cX8_hand 46 = .ok (.iconst 0, 1) := by decide +kernel
theorem dX8_hand_47 : decode cX8_hand 47 = .ok (.putfield 50, 3) := by decide +kernel
theorem dX8_hand_50 : decode cX8_hand 50 = .ok (.aload_n 0, 1) := by decide +kernel
theorem dX8_hand_51 : decode cX8_hand 51 = .ok (.getfield 35, 3) := by decide +kernel
theorem dX8_hand_54 : decode cX8_hand 54 = .ok (.iload_n 1, 1) := by decide +kernel
theorem dX8_hand_55 : decode cX8_hand 55 = .ok (.laload, 1) := by decide +kernel
theorem dX8_hand_56 : decode cX8_hand 56 = .ok (.lreturn, 1) := by decide +kernel
set_option maxRecDepth 20000 in
theorem ggX8_table_X8_none : GoodIn wsX8_table wsX8_none := goodIn_r _ [8, 2, 9, 10, 11, 12, 13, 14, 15, 16, 17, 18, 19, 20, 21, 22, 23, 24, 25, 26, 27, 28, 29, 30, 31] (by decide +kernel) (by decide +kernel)
set_option maxRecDepth 20000 in
theorem gX8_table_X8_none : GoodIn wsX8_table (wsV RX8 90 RX8 yX8_none wsX8_none) := goodIn_app (goodIn_of _ (by decide +kernel)) ggX8_table_X8_none
theorem dX8_table_0 : decode cX8_table 0 = .ok (.aload_n 0, 1) := by decide +kernel
theorem dX8_table_1 : decode cX8_table 1 = .ok (.getfield 158, 3) := by decide +kernel
theorem dX8_table_4 : decode cX8_table 4 = .ok (.ifCond .ne 10, 3) := by decide +kernel
theorem dX8_table_7 : decode cX8_table 7 = .ok (.aload_n 0, 1) := by decide +kernel
theorem dX8_table_8 : decode cX8_table 8 = .ok (.iconst 4, 1) := by decide +kernel
theorem dX8_table_9 : decode cX8_table 9 = .ok (.invokevirtual 90, 3) := by decide +kernel
theorem dX8_table_12 : decode cX8_table 12 = .ok (.i2l, 1) := by decide +kernel
theorem dX8_table_13 : decode cX8_table 13 = .ok (.lreturn, 1) := by decide +kernel
theorem dX8_table_14 : decode cX8_table 14 = .ok (.aload_n 0, 1) := by decide +kernel
theorem dX8_table_15 : decode cX8_table 15 = .ok (.iconst 0, 1) := by decide +kernel
theorem dX8_table_16 : decode cX8_table 16 = .ok (.putfield 50, 3) := by decide +kernel
theorem dX8_table_19 : decode cX8_table 19 = .ok (.aload_n 0, 1) := by decide +kernel
theorem dX8_table_20 : decode cX8_table 20 = .ok (.getfield 180, 3) := by decide +kernel
theorem dX8_table_23 : decode cX8_table 23 = .ok (.lreturn, 1) := by decide +kernel
set_option maxRecDepth 20000 in
theorem ggX8_tell_X8_none : GoodIn wsX8_tell wsX8_none := goodIn_r _ [14, 2, 15, 16, 17, 18, 19, 20, 21, 22, 23, 24, 25, 26, 27, 28, 29, 30, 31, 32, 33, 34, 35, 36, 37] (by decide +kernel) (by decide +kernel)
set_option maxRecDepth 20000 in
theorem gX8_tell_X8_none : GoodIn wsX8_tell (wsV RX8 90 RX8 yX8_none wsX8_none) := goodIn_app (goodIn_of _ (by decide +kernel)) ggX8_tell_X8_none
theorem dX8_tell_0 : decode cX8_tell 0 = .ok (.iload_n 1, 1) := by decide +kernel
theorem dX8_tell_1 : decode cX8_tell 1 = .ok (.ifCond .lt 9, 3) := by decide +kernel
theorem dX8_tell_4 : decode cX8_tell 4 = .ok (.iload_n 1, 1) := by decide +kernel
theorem dX8_tell_5 : decode cX8_tell 5 = .ok (.bipush 6, 2) := by decide +kernel
theorem dX8_tell_7 : decode cX8_tell 7 = .ok (.if_icmp .le 9, 3) := by decide +kernel
theorem dX8_tell_10 : decode cX8_tell 10 = .ok (.aload_n 0, 1) := by decide +kernel
theorem dX8_tell_11 : decode cX8_tell 11 = .ok (.iconst 1, 1) := by decide +kernel
theorem dX8_tell_12 : decode cX8_tell 12 = .ok (.invokevirtual 90, 3) := by decide +kernel
theorem dX8_tell_15 : decode cX8_tell 15 = .ok (.ireturn, 1) := by decide +kernel
theorem dX8_tell_16 : decode cX8_tell 16 = .ok (.aload_n 0, 1) := by decide +kernel
theorem dX8_tell_17 : decode cX8_tell 17 = .ok (.getfield 158, 3) := by decide +kernel
theorem dX8_tell_20 : decode cX8_tell 20 = .ok (.ifCond .ne 9, 3) := by decide +kernel
theorem dX8_tell_23 : decode cX8_tell 23 = .ok (.aload_n 0, 1) := by decide +kernel
theorem dX8_tell_24 : decode cX8_tell 24 = .ok (.iconst 4, 1) := by decide +kernel
theorem dX8_tell_25 : decode cX8_tell 25 = .ok (.invokevirtual 90, 3) := by decide +kernel
theorem dX8_tell_28 : decode cX8_tell 28 = .ok (.ireturn, 1) := by decide +kernel
theorem dX8_tell_29 : decode cX8_tell 29 = .ok (.aload_n 0, 1) := by decide +kernel
theorem dX8_tell_30 : decode cX8_tell 30 = .ok (.iconst 0, 1) := by decide +kernel
theorem dX8_tell_31 : decode cX8_tell 31 = .ok (.putfield 50, 3) := by decide +kernel
theorem dX8_tell_34 : decode cX8_tell 34 = .ok (.iload_n 1, 1) := by decide +kernel
theorem dX8_tell_35 : decode cX8_tell 35 = .ok (.tableswitch 78 0 5 #[37, 42, 50, 63, 68, 73], 37) := by decide +kernel
theorem dX8_tell_72 : decode cX8_tell 72 = .ok (.aload_n 0, 1) := by decide +kernel
theorem dX8_tell_73 : decode cX8_tell 73 = .ok (.getfield 165, 3) := by decide +kernel
theorem dX8_tell_76 : decode cX8_tell 76 = .ok (.ireturn, 1) := by decide +kernel
theorem dX8_tell_77 : decode cX8_tell 77 = .ok (.bipush 54, 2) := by decide +kernel
theorem dX8_tell_79 : decode cX8_tell 79 = .ok (.aload_n 0, 1) := by decide +kernel
theorem dX8_tell_80 : decode cX8_tell 80 = .ok (.getfield 152, 3) := by decide +kernel
theorem dX8_tell_83 : decode cX8_tell 83 = .ok (.isub, 1) := by decide +kernel
theorem dX8_tell_84 : decode cX8_tell 84 = .ok (.ireturn, 1) := by decide +kernel
theorem dX8_tell_85 : decode cX8_tell 85 = .ok (.aload_n 0, 1) := by decide +kernel
theorem dX8_tell_86 : decode cX8_tell 86 = .ok (.getfield 162, 3) := by decide +kernel
theorem dX8_tell_89 : decode cX8_tell 89 = .ok (.ifCond .eq 7, 3) := by decide +kernel
theorem dX8_tell_92 : decode cX8_tell 92 = .ok (.iconst 1, 1) := by decide +kernel
theorem dX8_tell_93 : decode cX8_tell 93 = .ok (.goto 4, 3) := by decide +kernel
theorem dX8_tell_96 : decode cX8_tell 96 = .ok (.iconst 0, 1) := by decide +kernel
theorem dX8_tell_97 : decode cX8_tell 97 = .ok (.ireturn, 1) := by decide +kernel
theorem dX8_tell_98 : decode cX8_tell 98 = .ok (.aload_n 0, 1) := by decide +kernel
theorem dX8_tell_99 : decode cX8_tell 99 = .ok (.getfield 168, 3) := by decide +kernel
theorem dX8_tell_102 : decode cX8_tell 102 = .ok (.ireturn, 1) := by decide +kernel
theorem dX8_tell_103 : decode cX8_tell 103 = .ok (.aload_n 0, 1) := by decide +kernel
theorem dX8_tell_104 : decode cX8_tell 104 = .ok (.getfield 171, 3) := by decide +kernel
theorem dX8_tell_107 : decode cX8_tell 107 = .ok (.ireturn, 1) := by decide +kernel
theorem dX8_tell_108 : decode cX8_tell 108 = .ok (.aload_n 0, 1) := by decide +kernel
theorem dX8_tell_109 : decode cX8_tell 109 = .ok (.getfield 174, 3) := by decide +kernel
theorem dX8_tell_112 : decode cX8_tell 112 = .ok (.ireturn, 1) := by decide +kernel
theorem dX8_tell_113 : decode cX8_tell 113 = .ok (.aload_n 0, 1) := by decide +kernel
theorem dX8_tell_114 : decode cX8_tell 114 = .ok (.getfield 155, 3) := by decide +kernel
theorem dX8_tell_117 : decode cX8_tell 117 = .ok (.ireturn, 1) := by decide +kernel
set_option maxRecDepth 20000 in
theorem ggX8_player_X8_none : GoodIn wsX8_player wsX8_none := goodIn_r _ [10, 3, 23, 24, 25, 26, 27, 28, 29, 30, 31, 32, 33, 34, 35, 36, 37, 38, 39, 40, 41, 42, 43, 44, 45] (by decide +kernel) (by decide +kernel)
set_option maxRecDepth 20000 in
theorem gX8_player_X8_none : GoodIn wsX8_player (wsV RX8 90 RX8 yX8_none wsX8_none) := goodIn_app (goodIn_of _ (by decide +kernel)) ggX8_player_X8_none
set_option maxRecDepth 20000 in
theorem ggX8_player_X8_many : GoodIn wsX8_player wsX8_many := goodIn_r _ [13, 14, 15, 9, 16] (by decide +kernel) (by decide +kernel)
set_option maxRecDepth 20000 in
theorem gX8_player_X8_many : GoodIn wsX8_player (va_wsS RX8 184 yX8_many wsX8_many) := goodIn_app (goodIn_of _ (by decide +kernel)) ggX8_player_X8_many
set_option maxRecDepth 20000 in
theorem ggX8_player_X8_worthAll : GoodIn wsX8_player wsX8_worthAll := goodIn_r _ [19, 14, 15, 9, 16, 20, 21, 22] (by decide +kernel) (by decide +kernel)
set_option maxRecDepth 20000 in
theorem gX8_player_X8_worthAll : GoodIn wsX8_player (va_wsS RX8 119 yX8_worthAll wsX8_worthAll) := goodIn_app (goodIn_of _ (by decide +kernel)) ggX8_player_X8_worthAll
theorem dX8_player_0 : decode cX8_player 0 = .ok (.iload_n 2, 1) := by decide +kernel
theorem dX8_player_1 : decode cX8_player 1 = .ok (.ifCond .lt 8, 3) := by decide +kernel
theorem dX8_player_4 : decode cX8_player 4 = .ok (.iload_n 2, 1) := by decide +kernel
theorem dX8_player_5 : decode cX8_player 5 = .ok (.iconst 2, 1) := by decide +kernel
theorem dX8_player_6 : decode cX8_player 6 = .ok (.if_icmp .le 9, 3) := by decide +kernel
theorem dX8_player_9 : decode cX8_player 9 = .ok (.aload_n 0, 1) := by decide +kernel
theorem dX8_player_10 : decode cX8_player 10 = .ok (.iconst 1, 1) := by decide +kernel
theorem dX8_player_11 : decode cX8_player 11 = .ok (.invokevirtual 90, 3) := by decide +kernel
theorem dX8_player_14 : decode cX8_player 14 = .ok (.ireturn, 1) := by decide +kernel
theorem dX8_player_15 : decode cX8_player 15 = .ok (.aload_n 0, 1) := by decide +kernel
theorem dX8_player_16 : decode cX8_player 16 = .ok (.getfield 158, 3) := by decide +kernel
theorem dX8_player_19 : decode cX8_player 19 = .ok (.ifCond .ne 9, 3) := by decide +kernel
theorem dX8_player_22 : decode cX8_player 22 = .ok (.aload_n 0, 1) := by decide +kernel
theorem dX8_player_23 : decode cX8_player 23 = .ok (.iconst 4, 1) := by decide +kernel
theorem dX8_player_24 : decode cX8_player 24 = .ok (.invokevirtual 90, 3) := by decide +kernel
theorem dX8_player_27 : decode cX8_player 27 = .ok (.ireturn, 1) := by decide +kernel
theorem dX8_player_28 : decode cX8_player 28 = .ok (.iload_n 1, 1) := by decide +kernel
theorem dX8_player_29 : decode cX8_player 29 = .ok (.ifCond .lt 11, 3) := by decide +kernel
theorem dX8_player_32 : decode cX8_player 32 = .ok (.iload_n 1, 1) := by decide +kernel
theorem dX8_player_33 : decode cX8_player 33 = .ok (.aload_n 0, 1) := by decide +kernel
theorem dX8_player_34 : decode cX8_player 34 = .ok (.getfield 155, 3) := by decide +kernel
theorem dX8_player_37 : decode cX8_player 37 = .ok (.if_icmp .lt 9, 3) := by decide +kernel
theorem dX8_player_40 : decode cX8_player 40 = .ok (.aload_n 0, 1) := by decide +kernel
theorem dX8_player_41 : decode cX8_player 41 = .ok (.iconst 1, 1) := by decide +kernel
theorem dX8_player_42 : decode cX8_player 42 = .ok (.invokevirtual 90, 3) := by decide +kernel
theorem dX8_player_45 : decode cX8_player 45 = .ok (.ireturn, 1) := by decide +kernel
theorem dX8_player_46 : decode cX8_player 46 = .ok (.aload_n 0, 1) := by decide +kernel
theorem dX8_player_47 : decode cX8_player 47 = .ok (.iconst 0, 1) := by decide +kernel
theorem dX8_player_48 : decode cX8_player 48 = .ok (.putfield 50, 3) := by decide +kernel
theorem dX8_player_51 : decode cX8_player 51 = .ok (.iload_n 2, 1) := by decide +kernel
theorem dX8_player_52 : decode cX8_player 52 = .ok (.ifCond .ne 20, 3) := by decide +kernel
theorem dX8_player_55 : decode cX8_player 55 = .ok (.aload_n 0, 1) := by decide +kernel
theorem dX8_player_56 : decode cX8_player 56 = .ok (.getfield 38, 3) := by decide +kernel
theorem dX8_player_59 : decode cX8_player 59 = .ok (.iload_n 1, 1) := by decide +kernel
theorem dX8_player_60 : decode cX8_player 60 = .ok (.baload, 1) := by decide +kernel
theorem dX8_player_61 : decode cX8_player 61 = .ok (.ifCond .eq 7, 3) := by decide +kernel
theorem dX8_player_64 : decode cX8_player 64 = .ok (.iconst 1, 1) := by decide +kernel
theorem dX8_player_65 : decode cX8_player 65 = .ok (.goto 33, 3) := by decide +kernel
theorem dX8_player_68 : decode cX8_player 68 = .ok (.iconst 0, 1) := by decide +kernel
theorem dX8_player_69 : decode cX8_player 69 = .ok (.goto 29, 3) := by decide +kernel
theorem dX8_player_72 : decode cX8_player 72 = .ok (.iload_n 2, 1) := by decide +kernel
theorem dX8_player_73 : decode cX8_player 73 = .ok (.iconst 1, 1) := by decide +kernel
theorem dX8_player_74 : decode cX8_player 74 = .ok (.if_icmp .ne 15, 3) := by decide +kernel
theorem dX8_player_77 : decode cX8_player 77 = .ok (.aload_n 0, 1) := by decide +kernel
theorem dX8_player_78 : decode cX8_player 78 = .ok (.getfield 35, 3) := by decide +kernel
theorem dX8_player_81 : decode cX8_player 81 = .ok (.iload_n 1, 1) := by decide +kernel
theorem dX8_player_82 : decode cX8_player 82 = .ok (.laload, 1) := by decide +kernel
theorem dX8_player_83 : decode cX8_player 83 = .ok (.invokestatic 184, 3) := by decide +kernel
theorem dX8_player_86 : decode cX8_player 86 = .ok (.goto 12, 3) := by decide +kernel
theorem dX8_player_89 : decode cX8_player 89 = .ok (.aload_n 0, 1) := by decide +kernel
theorem dX8_player_90 : decode cX8_player 90 = .ok (.getfield 35, 3) := by decide +kernel
theorem dX8_player_93 : decode cX8_player 93 = .ok (.iload_n 1, 1) := by decide +kernel
theorem dX8_player_94 : decode cX8_player 94 = .ok (.laload, 1) := by decide +kernel
theorem dX8_player_95 : decode cX8_player 95 = .ok (.invokestatic 119, 3) := by decide +kernel
theorem dX8_player_98 : decode cX8_player 98 = .ok (.ireturn, 1) := by decide +kernel
