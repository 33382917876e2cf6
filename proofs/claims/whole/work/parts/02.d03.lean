theorem dX5_canContinue_0 : decode cX5_canContinue 0 = .ok (.iload_n 0, 1) := by decide +kernel
theorem dX5_canContinue_1 : decode cX5_canContinue 1 = .ok (.bipush 15, 2) := by decide +kernel
theorem dX5_canContinue_3 : decode cX5_canContinue 3 = .ok (.iand, 1) := by decide +kernel
theorem dX5_canContinue_4 : decode cX5_canContinue 4 = .ok (.istore_n 2, 1) := by decide +kernel
theorem dX5_canContinue_5 : decode cX5_canContinue 5 = .ok (.iload_n 0, 1) := by decide +kernel
theorem dX5_canContinue_6 : decode cX5_canContinue 6 = .ok (.iconst 4, 1) := by decide +kernel
theorem dX5_canContinue_7 : decode cX5_canContinue 7 = .ok (.ishr, 1) := by decide +kernel
theorem dX5_canContinue_8 : decode cX5_canContinue 8 = .ok (.bipush 15, 2) := by decide +kernel
theorem dX5_canContinue_10 : decode cX5_canContinue 10 = .ok (.iand, 1) := by decide +kernel
theorem dX5_canContinue_11 : decode cX5_canContinue 11 = .ok (.istore_n 3, 1) := by decide +kernel
theorem dX5_canContinue_12 : decode cX5_canContinue 12 = .ok (.iload_n 2, 1) := by decide +kernel
theorem dX5_canContinue_13 : decode cX5_canContinue 13 = .ok (.iload_n 3, 1) := by decide +kernel
theorem dX5_canContinue_14 : decode cX5_canContinue 14 = .ok (.ixor, 1) := by decide +kernel
theorem dX5_canContinue_15 : decode cX5_canContinue 15 = .ok (.iload_n 1, 1) := by decide +kernel
theorem dX5_canContinue_16 : decode cX5_canContinue 16 = .ok (.iconst (-1), 1) := by decide +kernel
theorem dX5_canContinue_17 : decode cX5_canContinue 17 = .ok (.ixor, 1) := by decide +kernel
theorem dX5_canContinue_18 : decode cX5_canContinue 18 = .ok (.iand, 1) := by decide +kernel
theorem dX5_canContinue_19 : decode cX5_canContinue 19 = .ok (.ifCond .ne 17, 3) := by decide +kernel
theorem dX5_canContinue_22 : decode cX5_canContinue 22 = .ok (.iload_n 1, 1) := by decide +kernel
theorem dX5_canContinue_23 : decode cX5_canContinue 23 = .ok (.iload_n 2, 1) := by decide +kernel
theorem dX5_canContinue_24 : decode cX5_canContinue 24 = .ok (.iload_n 3, 1) := by decide +kernel
theorem dX5_canContinue_25 : decode cX5_canContinue 25 = .ok (.ior, 1) := by decide +kernel
theorem dX5_canContinue_26 : decode cX5_canContinue 26 = .ok (.iconst (-1), 1) := by decide +kernel
theorem dX5_canContinue_27 : decode cX5_canContinue 27 = .ok (.ixor, 1) := by decide +kernel
theorem dX5_canContinue_28 : decode cX5_canContinue 28 = .ok (.iand, 1) := by decide +kernel
theorem dX5_canContinue_29 : decode cX5_canContinue 29 = .ok (.ifCond .ne 7, 3) := by decide +kernel
theorem dX5_canContinue_32 : decode cX5_canContinue 32 = .ok (.iconst 1, 1) := by decide +kernel
theorem dX5_canContinue_33 : decode cX5_canContinue 33 = .ok (.goto 4, 3) := by decide +kernel
theorem dX5_canContinue_36 : decode cX5_canContinue 36 = .ok (.iconst 0, 1) := by decide +kernel
theorem dX5_canContinue_37 : decode cX5_canContinue 37 = .ok (.ireturn, 1) := by decide +kernel
set_option maxRecDepth 20000 in
theorem ggX5_stateAfter_X5_continued : GoodIn wsX5_stateAfter wsX5_continued := goodIn_r _ [4] (by decide +kernel) (by decide +kernel)
set_option maxRecDepth 20000 in
theorem gX5_stateAfter_X5_continued : GoodIn wsX5_stateAfter (va_wsS RX5 26 yX5_continued wsX5_continued) := goodIn_app (goodIn_of _ (by decide +kernel)) ggX5_stateAfter_X5_continued
set_option maxRecDepth 20000 in
theorem ggX5_stateAfter_X5_begun : GoodIn wsX5_stateAfter wsX5_begun := goodIn_r _ [7] (by decide +kernel) (by decide +kernel)
set_option maxRecDepth 20000 in
theorem gX5_stateAfter_X5_begun : GoodIn wsX5_stateAfter (va_wsS RX5 23 yX5_begun wsX5_begun) := goodIn_app (goodIn_of _ (by decide +kernel)) ggX5_stateAfter_X5_begun
theorem dX5_stateAfter_0 : decode cX5_stateAfter 0 = .ok (.iload_n 1, 1) := by decide +kernel
theorem dX5_stateAfter_1 : decode cX5_stateAfter 1 = .ok (.invokestatic 26, 3) := by decide +kernel
theorem dX5_stateAfter_4 : decode cX5_stateAfter 4 = .ok (.istore_n 2, 1) := by decide +kernel
theorem dX5_stateAfter_5 : decode cX5_stateAfter 5 = .ok (.iload_n 1, 1) := by decide +kernel
theorem dX5_stateAfter_6 : decode cX5_stateAfter 6 = .ok (.invokestatic 23, 3) := by decide +kernel
theorem dX5_stateAfter_9 : decode cX5_stateAfter 9 = .ok (.iload_n 2, 1) := by decide +kernel
theorem dX5_stateAfter_10 : decode cX5_stateAfter 10 = .ok (.iload_n 0, 1) := by decide +kernel
theorem dX5_stateAfter_11 : decode cX5_stateAfter 11 = .ok (.iconst 4, 1) := by decide +kernel
theorem dX5_stateAfter_12 : decode cX5_stateAfter 12 = .ok (.ishr, 1) := by decide +kernel
theorem dX5_stateAfter_13 : decode cX5_stateAfter 13 = .ok (.iand, 1) := by decide +kernel
theorem dX5_stateAfter_14 : decode cX5_stateAfter 14 = .ok (.ior, 1) := by decide +kernel
theorem dX5_stateAfter_15 : decode cX5_stateAfter 15 = .ok (.iload_n 2, 1) := by decide +kernel
theorem dX5_stateAfter_16 : decode cX5_stateAfter 16 = .ok (.iconst 4, 1) := by decide +kernel
theorem dX5_stateAfter_17 : decode cX5_stateAfter 17 = .ok (.ishl, 1) := by decide +kernel
theorem dX5_stateAfter_18 : decode cX5_stateAfter 18 = .ok (.ior, 1) := by decide +kernel
theorem dX5_stateAfter_19 : decode cX5_stateAfter 19 = .ok (.ireturn, 1) := by decide +kernel
theorem dX5_mayEnd_0 : decode cX5_mayEnd 0 = .ok (.iload_n 0, 1) := by decide +kernel
theorem dX5_mayEnd_1 : decode cX5_mayEnd 1 = .ok (.bipush 15, 2) := by decide +kernel
theorem dX5_mayEnd_3 : decode cX5_mayEnd 3 = .ok (.iand, 1) := by decide +kernel
theorem dX5_mayEnd_4 : decode cX5_mayEnd 4 = .ok (.iload_n 0, 1) := by decide +kernel
theorem dX5_mayEnd_5 : decode cX5_mayEnd 5 = .ok (.iconst 4, 1) := by decide +kernel
theorem dX5_mayEnd_6 : decode cX5_mayEnd 6 = .ok (.ishr, 1) := by decide +kernel
theorem dX5_mayEnd_7 : decode cX5_mayEnd 7 = .ok (.bipush 15, 2) := by decide +kernel
theorem dX5_mayEnd_9 : decode cX5_mayEnd 9 = .ok (.iand, 1) := by decide +kernel
theorem dX5_mayEnd_10 : decode cX5_mayEnd 10 = .ok (.if_icmp .ne 7, 3) := by decide +kernel
theorem dX5_mayEnd_13 : decode cX5_mayEnd 13 = .ok (.iconst 1, 1) := by decide +kernel
theorem dX5_mayEnd_14 : decode cX5_mayEnd 14 = .ok (.goto 4, 3) := by decide +kernel
theorem dX5_mayEnd_17 : decode cX5_mayEnd 17 = .ok (.iconst 0, 1) := by decide +kernel
theorem dX5_mayEnd_18 : decode cX5_mayEnd 18 = .ok (.ireturn, 1) := by decide +kernel
set_option maxRecDepth 20000 in
theorem ggX6_init_X3_init : GoodIn wsX6_init wsX3_init := goodIn_r _ [16, 17, 2, 3, 8, 18, 19, 20, 4, 21, 39, 40, 41, 42] (by decide +kernel) (by decide +kernel)
set_option maxRecDepth 20000 in
theorem gX6_init_X3_init_n27 : GoodIn wsX6_init (wsX3_init) := ggX6_init_X3_init
set_option maxRecDepth 20000 in
theorem ggX6_init_X5_continued : GoodIn wsX6_init wsX5_continued := goodIn_r _ [25] (by decide +kernel) (by decide +kernel)
set_option maxRecDepth 20000 in
theorem gX6_init_X5_continued : GoodIn wsX6_init (va_wsS RX6 35 yX5_continued wsX5_continued) := goodIn_app (goodIn_of _ (by decide +kernel)) ggX6_init_X5_continued
theorem dX6_init_0 : decode cX6_init 0 = .ok (.aload_n 0, 1) := by decide +kernel
theorem dX6_init_1 : decode cX6_init 1 = .ok (.invokespecial 3, 3) := by decide +kernel
theorem dX6_init_4 : decode cX6_init 4 = .ok (.aload_n 0, 1) := by decide +kernel
theorem dX6_init_5 : decode cX6_init 5 = .ok (.bipush 94, 2) := by decide +kernel
theorem dX6_init_7 : decode cX6_init 7 = .ok (.newarray .int, 2) := by decide +kernel
theorem dX6_init_9 : decode cX6_init 9 = .ok (.putfield 9, 3) := by decide +kernel
theorem dX6_init_12 : decode cX6_init 12 = .ok (.aload_n 0, 1) := by decide +kernel
theorem dX6_init_13 : decode cX6_init 13 = .ok (.bipush 94, 2) := by decide +kernel
theorem dX6_init_15 : decode cX6_init 15 = .ok (.newarray .int, 2) := by decide +kernel
theorem dX6_init_17 : decode cX6_init 17 = .ok (.putfield 15, 3) := by decide +kernel
theorem dX6_init_20 : decode cX6_init 20 = .ok (.aload_n 0, 1) := by decide +kernel
theorem dX6_init_21 : decode cX6_init 21 = .ok (.bipush 17, 2) := by decide +kernel
theorem dX6_init_23 : decode cX6_init 23 = .ok (.newarray .int, 2) := by decide +kernel
theorem dX6_init_25 : decode cX6_init 25 = .ok (.putfield 18, 3) := by decide +kernel
theorem dX6_init_28 : decode cX6_init 28 = .ok (.aload_n 0, 1) := by decide +kernel
theorem dX6_init_29 : decode cX6_init 29 = .ok (.sipush 282, 3) := by decide +kernel
theorem dX6_init_32 : decode cX6_init 32 = .ok (.newarray .long, 2) := by decide +kernel
theorem dX6_init_34 : decode cX6_init 34 = .ok (.putfield 21, 3) := by decide +kernel
theorem dX6_init_37 : decode cX6_init 37 = .ok (.aload_n 0, 1) := by decide +kernel
theorem dX6_init_38 : decode cX6_init 38 = .ok (.new 25, 3) := by decide +kernel
theorem dX6_init_41 : decode cX6_init 41 = .ok (.dup, 1) := by decide +kernel
theorem dX6_init_42 : decode cX6_init 42 = .ok (.invokespecial 27, 3) := by decide +kernel
theorem dX6_init_45 : decode cX6_init 45 = .ok (.putfield 28, 3) := by decide +kernel
theorem dX6_init_48 : decode cX6_init 48 = .ok (.aload_n 0, 1) := by decide +kernel
theorem dX6_init_49 : decode cX6_init 49 = .ok (.new 25, 3) := by decide +kernel
theorem dX6_init_52 : decode cX6_init 52 = .ok (.dup, 1) := by decide +kernel
theorem dX6_init_53 : decode cX6_init 53 = .ok (.invokespecial 27, 3) := by decide +kernel
theorem dX6_init_56 : decode cX6_init 56 = .ok (.putfield 32, 3) := by decide +kernel
theorem dX6_init_59 : decode cX6_init 59 = .ok (.iconst 0, 1) := by decide +kernel
theorem dX6_init_60 : decode cX6_init 60 = .ok (.istore_n 2, 1) := by decide +kernel
theorem dX6_init_61 : decode cX6_init 61 = .ok (.iconst 0, 1) := by decide +kernel
theorem dX6_init_62 : decode cX6_init 62 = .ok (.istore_n 3, 1) := by decide +kernel
theorem dX6_init_63 : decode cX6_init 63 = .ok (.iload_n 3, 1) := by decide +kernel
theorem dX6_init_64 : decode cX6_init 64 = .ok (.bipush 15, 2) := by decide +kernel
theorem dX6_init_66 : decode cX6_init 66 = .ok (.if_icmp .gt 55, 3) := by decide +kernel
theorem dX6_init_69 : decode cX6_init 69 = .ok (.iconst 0, 1) := by decide +kernel
theorem dX6_init_70 : decode cX6_init 70 = .ok (.istore 4, 2) := by decide +kernel
theorem dX6_init_72 : decode cX6_init 72 = .ok (.iload 4, 2) := by decide +kernel
theorem dX6_init_74 : decode cX6_init 74 = .ok (.aload_n 1, 1) := by decide +kernel
theorem dX6_init_75 : decode cX6_init 75 = .ok (.arraylength, 1) := by decide +kernel
theorem dX6_init_76 : decode cX6_init 76 = .ok (.if_icmp .ge 39, 3) := by decide +kernel
theorem dX6_init_79 : decode cX6_init 79 = .ok (.iload_n 2, 1) := by decide +kernel
theorem dX6_init_80 : decode cX6_init 80 = .ok (.bipush 94, 2) := by decide +kernel
theorem dX6_init_82 : decode cX6_init 82 = .ok (.if_icmp .ge 33, 3) := by decide +kernel
theorem dX6_init_85 : decode cX6_init 85 = .ok (.aload_n 1, 1) := by decide +kernel
theorem dX6_init_86 : decode cX6_init 86 = .ok (.iload 4, 2) := by decide +kernel
theorem dX6_init_88 : decode cX6_init 88 = .ok (.iaload, 1) := by decide +kernel
theorem dX6_init_89 : decode cX6_init 89 = .ok (.invokestatic 35, 3) := by decide +kernel
theorem dX6_init_92 : decode cX6_init 92 = .ok (.iload_n 3, 1) := by decide +kernel
theorem dX6_init_93 : decode cX6_init 93 = .ok (.if_icmp .ne 16, 3) := by decide +kernel
theorem dX6_init_96 : decode cX6_init 96 = .ok (.aload_n 0, 1) := by decide +kernel
theorem dX6_init_97 : decode cX6_init 97 = .ok (.getfield 9, 3) := by decide +kernel
theorem dX6_init_100 : decode cX6_init 100 = .ok (.iload_n 2, 1) := by decide +kernel
theorem dX6_init_101 : decode cX6_init 101 = .ok (.aload_n 1, 1) := by decide +kernel
theorem dX6_init_102 : decode cX6_init 102 = .ok (.iload 4, 2) := by decide +kernel
theorem dX6_init_104 : decode cX6_init 104 = .ok (.iaload, 1) := by decide +kernel
theorem dX6_init_105 : decode cX6_init 105 = .ok (.iastore, 1) := by decide +kernel
theorem dX6_init_106 : decode cX6_init 106 = .ok (.iinc 2 1, 3) := by decide +kernel
theorem dX6_init_109 : decode cX6_init 109 = .ok (.iinc 4 1, 3) := by decide +kernel
theorem dX6_init_112 : decode cX6_init 112 = .ok (.goto (-40), 3) := by decide +kernel
theorem dX6_init_115 : decode cX6_init 115 = .ok (.iinc 3 1, 3) := by decide +kernel
theorem dX6_init_118 : decode cX6_init 118 = .ok (.goto (-55), 3) := by decide +kernel
theorem dX6_init_121 : decode cX6_init 121 = .ok (.return_, 1) := by decide +kernel
set_option maxRecDepth 20000 in
theorem ggX6_countLayouts_X0_jokersIn : GoodIn wsX6_countLayouts wsX0_jokersIn := goodIn_r _ [8, 9, 10, 11, 12, 13, 14, 15] (by decide +kernel) (by decide +kernel)
set_option maxRecDepth 20000 in
theorem gX6_countLayouts_X0_jokersIn : GoodIn wsX6_countLayouts (va_wsS RX6 52 yX0_jokersIn wsX0_jokersIn) := goodIn_app (goodIn_of _ (by decide +kernel)) ggX6_countLayouts_X0_jokersIn
set_option maxRecDepth 20000 in
theorem ggX6_countLayouts_X6_goThrough : GoodIn wsX6_countLayouts wsX6_goThrough := goodIn_r _ [20, 21, 22, 23, 24, 25, 4, 26, 27, 28, 29, 30, 31, 32, 33, 34, 35, 36, 37, 38, 39, 40, 41, 42, 43, 44, 45, 19, 46, 1, 2, 47, 48, 49, 50, 51, 52, 53, 54, 7, 55, 56, 57, 58, 59, 60, 61, 62, 63, 64, 65, 66, 67, 68, 69, 70, 71, 72, 73, 74, 75, 76, 77, 78, 79, 80, 81, 82, 83, 84, 85, 86, 87, 88, 89, 90, 91, 92, 93, 94, 95, 96, 97, 98, 99, 100, 101, 102, 103, 104, 3, 105, 106, 107, 108, 109, 110, 111, 115, 116, 117, 118, 119, 120, 121, 122, 123, 124, 125, 126, 127, 128, 129, 130, 131] (by decide +kernel) (by decide +kernel)
set_option maxRecDepth 20000 in
theorem gX6_countLayouts_X6_goThrough : GoodIn wsX6_countLayouts (wsV RX6 58 RX6 yX6_goThrough wsX6_goThrough) := goodIn_app (goodIn_of _ (by decide +kernel)) ggX6_countLayouts_X6_goThrough
set_option maxRecDepth 20000 in
theorem ggX6_countLayouts_X5_mayEnd : GoodIn wsX6_countLayouts wsX5_mayEnd := goodIn_r _ [114] (by decide +kernel) (by decide +kernel)
set_option maxRecDepth 20000 in
theorem gX6_countLayouts_X5_mayEnd : GoodIn wsX6_countLayouts (va_wsS RX6 69 yX5_mayEnd wsX5_mayEnd) := goodIn_app (goodIn_of _ (by decide +kernel)) ggX6_countLayouts_X5_mayEnd
set_option maxRecDepth 20000 in
theorem ggX6_countLayouts_X3_at : GoodIn wsX6_countLayouts wsX3_at := goodIn_r _ [111, 35, 40, 41, 30, 42, 128, 129, 130, 131] (by decide +kernel) (by decide +kernel)
set_option maxRecDepth 20000 in
theorem gX6_countLayouts_X3_at : GoodIn wsX6_countLayouts (wsV RX6 73 RX3 yX3_at wsX3_at) := goodIn_app (goodIn_of _ (by decide +kernel)) ggX6_countLayouts_X3_at
theorem dX6_countLayouts_0 : decode cX6_countLayouts 0 = .ok (.aload_n 0, 1) := by decide +kernel
theorem dX6_countLayouts_1 : decode cX6_countLayouts 1 = .ok (.lload_n 1, 1) := by decide +kernel
theorem dX6_countLayouts_2 : decode cX6_countLayouts 2 = .ok (.putfield 41, 3) := by decide +kernel
theorem dX6_countLayouts_5 : decode cX6_countLayouts 5 = .ok (.aload_n 0, 1) := by decide +kernel
theorem dX6_countLayouts_6 : decode cX6_countLayouts 6 = .ok (.lconst 0, 1) := by decide +kernel
theorem dX6_countLayouts_7 : decode cX6_countLayouts 7 = .ok (.putfield 45, 3) := by decide +kernel
theorem dX6_countLayouts_10 : decode cX6_countLayouts 10 = .ok (.aload_n 0, 1) := by decide +kernel
theorem dX6_countLayouts_11 : decode cX6_countLayouts 11 = .ok (.iconst 1, 1) := by decide +kernel
theorem dX6_countLayouts_12 : decode cX6_countLayouts 12 = .ok (.putfield 48, 3) := by decide +kernel
theorem dX6_countLayouts_15 : decode cX6_countLayouts 15 = .ok (.lload_n 1, 1) := by decide +kernel
theorem dX6_countLayouts_16 : decode cX6_countLayouts 16 = .ok (.invokestatic 52, 3) := by decide +kernel
theorem dX6_countLayouts_19 : decode cX6_countLayouts 19 = .ok (.istore_n 3, 1) := by decide +kernel
theorem dX6_countLayouts_20 : decode cX6_countLayouts 20 = .ok (.aload_n 0, 1) := by decide +kernel
theorem dX6_countLayouts_21 : decode cX6_countLayouts 21 = .ok (.iload_n 3, 1) := by decide +kernel
theorem dX6_countLayouts_22 : decode cX6_countLayouts 22 = .ok (.invokevirtual 58, 3) := by decide +kernel
theorem dX6_countLayouts_25 : decode cX6_countLayouts 25 = .ok (.lconst 0, 1) := by decide +kernel
theorem dX6_countLayouts_26 : decode cX6_countLayouts 26 = .ok (.lstore 4, 2) := by decide +kernel
theorem dX6_countLayouts_28 : decode cX6_countLayouts 28 = .ok (.iconst 0, 1) := by decide +kernel
theorem dX6_countLayouts_29 : decode cX6_countLayouts 29 = .ok (.istore 6, 2) := by decide +kernel
theorem dX6_countLayouts_31 : decode cX6_countLayouts 31 = .ok (.iload 6, 2) := by decide +kernel
theorem dX6_countLayouts_33 : decode cX6_countLayouts 33 = .ok (.aload_n 0, 1) := by decide +kernel
theorem dX6_countLayouts_34 : decode cX6_countLayouts 34 = .ok (.getfield 28, 3) := by decide +kernel
theorem dX6_countLayouts_37 : decode cX6_countLayouts 37 = .ok (.getfield 62, 3) := by decide +kernel
theorem dX6_countLayouts_40 : decode cX6_countLayouts 40 = .ok (.if_icmp .ge 48, 3) := by decide +kernel
theorem dX6_countLayouts_43 : decode cX6_countLayouts 43 = .ok (.aload_n 0, 1) := by decide +kernel
theorem dX6_countLayouts_44 : decode cX6_countLayouts 44 = .ok (.getfield 28, 3) := by decide +kernel
theorem dX6_countLayouts_47 : decode cX6_countLayouts 47 = .ok (.getfield 66, 3) := by decide +kernel
theorem dX6_countLayouts_50 : decode cX6_countLayouts 50 = .ok (.iload 6, 2) := by decide +kernel
theorem dX6_countLayouts_52 : decode cX6_countLayouts 52 = .ok (.iaload, 1) := by decide +kernel
theorem dX6_countLayouts_53 : decode cX6_countLayouts 53 = .ok (.invokestatic 69, 3) := by decide +kernel
theorem dX6_countLayouts_56 : decode cX6_countLayouts 56 = .ok (.ifCond .eq 26, 3) := by decide +kernel
theorem dX6_countLayouts_59 : decode cX6_countLayouts 59 = .ok (.lload 4, 2) := by decide +kernel
theorem dX6_countLayouts_61 : decode cX6_countLayouts 61 = .ok (.aload_n 0, 1) := by decide +kernel
theorem dX6_countLayouts_62 : decode cX6_countLayouts 62 = .ok (.getfield 28, 3) := by decide +kernel
theorem dX6_countLayouts_65 : decode cX6_countLayouts 65 = .ok (.aload_n 0, 1) := by decide +kernel
theorem dX6_countLayouts_66 : decode cX6_countLayouts 66 = .ok (.getfield 28, 3) := by decide +kernel
theorem dX6_countLayouts_69 : decode cX6_countLayouts 69 = .ok (.getfield 66, 3) := by decide +kernel
theorem dX6_countLayouts_72 : decode cX6_countLayouts 72 = .ok (.iload 6, 2) := by decide +kernel
theorem dX6_countLayouts_74 : decode cX6_countLayouts 74 = .ok (.iaload, 1) := by decide +kernel
theorem dX6_countLayouts_75 : decode cX6_countLayouts 75 = .ok (.iload_n 3, 1) := by decide +kernel
theorem dX6_countLayouts_76 : decode cX6_countLayouts 76 = .ok (.invokevirtual 73, 3) := by decide +kernel
theorem dX6_countLayouts_79 : decode cX6_countLayouts 79 = .ok (.ladd, 1) := by decide +kernel
theorem dX6_countLayouts_80 : decode cX6_countLayouts 80 = .ok (.lstore 4, 2) := by decide +kernel
theorem dX6_countLayouts_82 : decode cX6_countLayouts 82 = .ok (.iinc 6 1, 3) := by decide +kernel
theorem dX6_countLayouts_85 : decode cX6_countLayouts 85 = .ok (.goto (-54), 3) := by decide +kernel
theorem dX6_countLayouts_88 : decode cX6_countLayouts 88 = .ok (.lload 4, 2) := by decide +kernel
theorem dX6_countLayouts_90 : decode cX6_countLayouts 90 = .ok (.lreturn, 1) := by decide +kernel
set_option maxRecDepth 20000 in
theorem ggX6_bestPart_X0_jokersIn : GoodIn wsX6_bestPart wsX0_jokersIn := goodIn_r _ [13, 14, 15, 16, 17, 18, 19, 20] (by decide +kernel) (by decide +kernel)
set_option maxRecDepth 20000 in
theorem gX6_bestPart_X0_jokersIn : GoodIn wsX6_bestPart (va_wsS RX6 52 yX0_jokersIn wsX0_jokersIn) := goodIn_app (goodIn_of _ (by decide +kernel)) ggX6_bestPart_X0_jokersIn
set_option maxRecDepth 20000 in
theorem ggX6_bestPart_X6_goThrough : GoodIn wsX6_bestPart wsX6_goThrough := goodIn_r _ [25, 5, 6, 7, 8, 26, 27, 28, 29, 30, 31, 32, 33, 34, 35, 36, 37, 38, 39, 40, 41, 42, 43, 44, 45, 46, 47, 24, 48, 1, 2, 4, 49, 50, 51, 52, 53, 54, 55, 12, 56, 57, 58, 59, 60, 61, 62, 63, 64, 65, 66, 67, 68, 69, 70, 71, 72, 73, 74, 75, 76, 9, 77, 78, 79, 80, 81, 82, 83, 84, 85, 86, 87, 88, 89, 90, 91, 92, 93, 94, 95, 96, 97, 98, 99, 100, 101, 102, 103, 104, 3, 105, 106, 107, 108, 109, 110, 111, 127, 128, 129, 130, 131, 132, 133, 134, 135, 136, 137, 138, 139, 140, 141, 142, 143] (by decide +kernel) (by decide +kernel)
set_option maxRecDepth 20000 in
theorem gX6_bestPart_X6_goThrough : GoodIn wsX6_bestPart (wsV RX6 58 RX6 yX6_goThrough wsX6_goThrough) := goodIn_app (goodIn_of _ (by decide +kernel)) ggX6_bestPart_X6_goThrough
set_option maxRecDepth 20000 in
theorem ggX6_bestPart_X6_greatestAtEnd : GoodIn wsX6_bestPart wsX6_greatestAtEnd := goodIn_r _ [115, 27, 105, 106, 7, 107, 116, 117, 63, 118, 108, 109, 110, 32, 111, 37, 42, 43, 44, 127, 128, 129, 130, 131, 132, 133, 134, 135, 136, 137, 138, 139, 140, 141, 142, 143] (by decide +kernel) (by decide +kernel)
set_option maxRecDepth 20000 in
theorem gX6_bestPart_X6_greatestAtEnd : GoodIn wsX6_bestPart (wsV RX6 86 RX6 yX6_greatestAtEnd wsX6_greatestAtEnd) := goodIn_app (goodIn_of _ (by decide +kernel)) ggX6_bestPart_X6_greatestAtEnd
set_option maxRecDepth 20000 in
theorem ggX6_bestPart_X6_cardsOfKey : GoodIn wsX6_bestPart wsX6_cardsOfKey := goodIn_r _ [122] (by decide +kernel) (by decide +kernel)
set_option maxRecDepth 20000 in
theorem gX6_bestPart_X6_cardsOfKey : GoodIn wsX6_bestPart (wsV RX6 92 RX6 yX6_cardsOfKey wsX6_cardsOfKey) := goodIn_app (goodIn_of _ (by decide +kernel)) ggX6_bestPart_X6_cardsOfKey
set_option maxRecDepth 20000 in
theorem ggX6_bestPart_X6_firstJokers : GoodIn wsX6_bestPart wsX6_firstJokers := goodIn_r _ [126, 2, 127, 128, 129, 130, 131, 132, 133, 134, 135, 136, 137, 138, 139] (by decide +kernel) (by decide +kernel)
set_option maxRecDepth 20000 in
theorem gX6_bestPart_X6_firstJokers : GoodIn wsX6_bestPart (wsV RX6 96 RX6 yX6_firstJokers wsX6_firstJokers) := goodIn_app (goodIn_of _ (by decide +kernel)) ggX6_bestPart_X6_firstJokers
theorem dX6_bestPart_0 : decode cX6_bestPart 0 = .ok (.aload_n 0, 1) := by decide +kernel
theorem dX6_bestPart_1 : decode cX6_bestPart 1 = .ok (.lload_n 1, 1) := by decide +kernel
theorem dX6_bestPart_2 : decode cX6_bestPart 2 = .ok (.putfield 41, 3) := by decide +kernel
theorem dX6_bestPart_5 : decode cX6_bestPart 5 = .ok (.aload_n 0, 1) := by decide +kernel
theorem dX6_bestPart_6 : decode cX6_bestPart 6 = .ok (.lload_n 3, 1) := by decide +kernel
theorem dX6_bestPart_7 : decode cX6_bestPart 7 = .ok (.putfield 45, 3) := by decide +kernel
theorem dX6_bestPart_10 : decode cX6_bestPart 10 = .ok (.aload_n 0, 1) := by decide +kernel
theorem dX6_bestPart_11 : decode cX6_bestPart 11 = .ok (.iconst 0, 1) := by decide +kernel
theorem dX6_bestPart_12 : decode cX6_bestPart 12 = .ok (.putfield 48, 3) := by decide +kernel
theorem dX6_bestPart_15 : decode cX6_bestPart 15 = .ok (.aload_n 0, 1) := by decide +kernel
theorem dX6_bestPart_16 : decode cX6_bestPart 16 = .ok (.iload 5, 2) := by decide +kernel
theorem dX6_bestPart_18 : decode cX6_bestPart 18 = .ok (.iconst 1, 1) := by decide +kernel
theorem dX6_bestPart_19 : decode cX6_bestPart 19 = .ok (.if_icmp .ne 7, 3) := by decide +kernel
theorem dX6_bestPart_22 : decode cX6_bestPart 22 = .ok (.iconst 1, 1) := by decide +kernel
theorem dX6_bestPart_23 : decode cX6_bestPart 23 = .ok (.goto 4, 3) := by decide +kernel
theorem dX6_bestPart_26 : decode cX6_bestPart 26 = .ok (.iconst 0, 1) := by decide +kernel
theorem dX6_bestPart_27 : decode cX6_bestPart 27 = .ok (.putfield 77, 3) := by decide +kernel
theorem dX6_bestPart_30 : decode cX6_bestPart 30 = .ok (.aload_n 0, 1) := by decide +kernel
theorem dX6_bestPart_31 : decode cX6_bestPart 31 = .ok (.getfield 41, 3) := by decide +kernel
theorem dX6_bestPart_34 : decode cX6_bestPart 34 = .ok (.invokestatic 52, 3) := by decide +kernel
theorem dX6_bestPart_37 : decode cX6_bestPart 37 = .ok (.istore 6, 2) := by decide +kernel
theorem dX6_bestPart_39 : decode cX6_bestPart 39 = .ok (.iload 6, 2) := by decide +kernel
theorem dX6_bestPart_41 : decode cX6_bestPart 41 = .ok (.aload_n 0, 1) := by decide +kernel
theorem dX6_bestPart_42 : decode cX6_bestPart 42 = .ok (.getfield 45, 3) := by decide +kernel
theorem dX6_bestPart_45 : decode cX6_bestPart 45 = .ok (.invokestatic 52, 3) := by decide +kernel
theorem dX6_bestPart_48 : decode cX6_bestPart 48 = .ok (.iadd, 1) := by decide +kernel
theorem dX6_bestPart_49 : decode cX6_bestPart 49 = .ok (.iconst 2, 1) := by decide +kernel
theorem dX6_bestPart_50 : decode cX6_bestPart 50 = .ok (.invokestatic 80, 3) := by decide +kernel
theorem dX6_bestPart_53 : decode cX6_bestPart 53 = .ok (.istore 7, 2) := by decide +kernel
theorem dX6_bestPart_55 : decode cX6_bestPart 55 = .ok (.aload_n 0, 1) := by decide +kernel
theorem dX6_bestPart_56 : decode cX6_bestPart 56 = .ok (.iload 7, 2) := by decide +kernel
theorem dX6_bestPart_58 : decode cX6_bestPart 58 = .ok (.invokevirtual 58, 3) := by decide +kernel
theorem dX6_bestPart_61 : decode cX6_bestPart 61 = .ok (.lconst 0, 1) := by decide +kernel
theorem dX6_bestPart_62 : decode cX6_bestPart 62 = .ok (.lstore 8, 2) := by decide +kernel
theorem dX6_bestPart_64 : decode cX6_bestPart 64 = .ok (.iconst 0, 1) := by decide +kernel
theorem dX6_bestPart_65 : decode cX6_bestPart 65 = .ok (.istore 10, 2) := by decide +kernel
theorem dX6_bestPart_67 : decode cX6_bestPart 67 = .ok (.iload 6, 2) := by decide +kernel
theorem dX6_bestPart_69 : decode cX6_bestPart 69 = .ok (.istore 11, 2) := by decide +kernel
theorem dX6_bestPart_71 : decode cX6_bestPart 71 = .ok (.iload 11, 2) := by decide +kernel
theorem dX6_bestPart_73 : decode cX6_bestPart 73 = .ok (.iload 7, 2) := by decide +kernel
theorem dX6_bestPart_75 : decode cX6_bestPart 75 = .ok (.if_icmp .gt 72, 3) := by decide +kernel
theorem dX6_bestPart_78 : decode cX6_bestPart 78 = .ok (.aload_n 0, 1) := by decide +kernel
theorem dX6_bestPart_79 : decode cX6_bestPart 79 = .ok (.iload 11, 2) := by decide +kernel
theorem dX6_bestPart_81 : decode cX6_bestPart 81 = .ok (.invokevirtual 86, 3) := by decide +kernel
theorem dX6_bestPart_84 : decode cX6_bestPart 84 = .ok (.lstore 12, 2) := by decide +kernel
theorem dX6_bestPart_86 : decode cX6_bestPart 86 = .ok (.lload 12, 2) := by decide +kernel
theorem dX6_bestPart_88 : decode cX6_bestPart 88 = .ok (.lconst 0, 1) := by decide +kernel
theorem dX6_bestPart_89 : decode cX6_bestPart 89 = .ok (.lcmp, 1) := by decide +kernel
theorem dX6_bestPart_90 : decode cX6_bestPart 90 = .ok (.ifCond .eq 51, 3) := by decide +kernel
theorem dX6_bestPart_93 : decode cX6_bestPart 93 = .ok (.lload 12, 2) := by decide +kernel
theorem dX6_bestPart_95 : decode cX6_bestPart 95 = .ok (.iload 11, 2) := by decide +kernel
theorem dX6_bestPart_97 : decode cX6_bestPart 97 = .ok (.iload 6, 2) := by decide +kernel
theorem dX6_bestPart_99 : decode cX6_bestPart 99 = .ok (.isub, 1) := by decide +kernel
theorem dX6_bestPart_100 : decode cX6_bestPart 100 = .ok (.i2l, 1) := by decide +kernel
theorem dX6_bestPart_101 : decode cX6_bestPart 101 = .ok (.aload_n 0, 1) := by decide +kernel
theorem dX6_bestPart_102 : decode cX6_bestPart 102 = .ok (.getfield 77, 3) := by decide +kernel
theorem dX6_bestPart_105 : decode cX6_bestPart 105 = .ok (.ifCond .eq 8, 3) := by decide +kernel
theorem dX6_bestPart_108 : decode cX6_bestPart 108 = .ok (.bipush 20, 2) := by decide +kernel
theorem dX6_bestPart_110 : decode cX6_bestPart 110 = .ok (.goto 4, 3) := by decide +kernel
theorem dX6_bestPart_113 : decode cX6_bestPart 113 = .ok (.iconst 1, 1) := by decide +kernel
theorem dX6_bestPart_114 : decode cX6_bestPart 114 = .ok (.i2l, 1) := by decide +kernel
theorem dX6_bestPart_115 : decode cX6_bestPart 115 = .ok (.lmul, 1) := by decide +kernel
theorem dX6_bestPart_116 : decode cX6_bestPart 116 = .ok (.bipush 53, 2) := by decide +kernel
theorem dX6_bestPart_118 : decode cX6_bestPart 118 = .ok (.lshl, 1) := by decide +kernel
theorem dX6_bestPart_119 : decode cX6_bestPart 119 = .ok (.ladd, 1) := by decide +kernel
theorem dX6_bestPart_120 : decode cX6_bestPart 120 = .ok (.lstore 12, 2) := by decide +kernel
theorem dX6_bestPart_122 : decode cX6_bestPart 122 = .ok (.lload 12, 2) := by decide +kernel
theorem dX6_bestPart_124 : decode cX6_bestPart 124 = .ok (.lload 8, 2) := by decide +kernel
theorem dX6_bestPart_126 : decode cX6_bestPart 126 = .ok (.lcmp, 1) := by decide +kernel
theorem dX6_bestPart_127 : decode cX6_bestPart 127 = .ok (.ifCond .le 14, 3) := by decide +kernel
theorem dX6_bestPart_130 : decode cX6_bestPart 130 = .ok (.lload 12, 2) := by decide +kernel
theorem dX6_bestPart_132 : decode cX6_bestPart 132 = .ok (.lstore 8, 2) := by decide +kernel
theorem dX6_bestPart_134 : decode cX6_bestPart 134 = .ok (.iload 11, 2) := by decide +kernel
theorem dX6_bestPart_136 : decode cX6_bestPart 136 = .ok (.iload 6, 2) := by decide +kernel
theorem dX6_bestPart_138 : decode cX6_bestPart 138 = .ok (.isub, 1) := by decide +kernel
theorem dX6_bestPart_139 : decode cX6_bestPart 139 = .ok (.istore 10, 2) := by decide +kernel
theorem dX6_bestPart_141 : decode cX6_bestPart 141 = .ok (.iinc 11 1, 3) := by decide +kernel
theorem dX6_bestPart_144 : decode cX6_bestPart 144 = .ok (.goto (-73), 3) := by decide +kernel
theorem dX6_bestPart_147 : decode cX6_bestPart 147 = .ok (.lload 8, 2) := by decide +kernel
theorem dX6_bestPart_149 : decode cX6_bestPart 149 = .ok (.lconst 0, 1) := by decide +kernel
theorem dX6_bestPart_150 : decode cX6_bestPart 150 = .ok (.lcmp, 1) := by decide +kernel
theorem dX6_bestPart_151 : decode cX6_bestPart 151 = .ok (.ifCond .ne 9, 3) := by decide +kernel
theorem dX6_bestPart_154 : decode cX6_bestPart 154 = .ok (.ldc2_w 90, 3) := by decide +kernel
theorem dX6_bestPart_157 : decode cX6_bestPart 157 = .ok (.goto 16, 3) := by decide +kernel
theorem dX6_bestPart_160 : decode cX6_bestPart 160 = .ok (.aload_n 0, 1) := by decide +kernel
theorem dX6_bestPart_161 : decode cX6_bestPart 161 = .ok (.lload 8, 2) := by decide +kernel
theorem dX6_bestPart_163 : decode cX6_bestPart 163 = .ok (.invokevirtual 92, 3) := by decide +kernel
theorem dX6_bestPart_166 : decode cX6_bestPart 166 = .ok (.aload_n 0, 1) := by decide +kernel
theorem dX6_bestPart_167 : decode cX6_bestPart 167 = .ok (.iload 10, 2) := by decide +kernel
theorem dX6_bestPart_169 : decode cX6_bestPart 169 = .ok (.invokevirtual 96, 3) := by decide +kernel
theorem dX6_bestPart_172 : decode cX6_bestPart 172 = .ok (.lor, 1) := by decide +kernel
theorem dX6_bestPart_173 : decode cX6_bestPart 173 = .ok (.lreturn, 1) := by decide +kernel
set_option maxRecDepth 20000 in
theorem ggX6_greatestAtEnd_X5_mayEnd : GoodIn wsX6_greatestAtEnd wsX5_mayEnd := goodIn_r _ [9] (by decide +kernel) (by decide +kernel)
set_option maxRecDepth 20000 in
theorem gX6_greatestAtEnd_X5_mayEnd : GoodIn wsX6_greatestAtEnd (va_wsS RX6 69 yX5_mayEnd wsX5_mayEnd) := goodIn_app (goodIn_of _ (by decide +kernel)) ggX6_greatestAtEnd_X5_mayEnd
set_option maxRecDepth 20000 in
theorem ggX6_greatestAtEnd_X3_at : GoodIn wsX6_greatestAtEnd wsX3_at := goodIn_r _ [14, 15, 16, 17, 13, 18, 32, 33, 34, 35] (by decide +kernel) (by decide +kernel)
set_option maxRecDepth 20000 in
theorem gX6_greatestAtEnd_X3_at : GoodIn wsX6_greatestAtEnd (wsV RX6 73 RX3 yX3_at wsX3_at) := goodIn_app (goodIn_of _ (by decide +kernel)) ggX6_greatestAtEnd_X3_at
theorem dX6_greatestAtEnd_0 : decode cX6_greatestAtEnd 0 = .ok (.lconst 0, 1) := by decide +kernel
theorem dX6_greatestAtEnd_1 : decode cX6_greatestAtEnd 1 = .ok (.lstore_n 2, 1) := by decide +kernel
theorem dX6_greatestAtEnd_2 : decode cX6_greatestAtEnd 2 = .ok (.iconst 0, 1) := by decide +kernel
theorem dX6_greatestAtEnd_3 : decode cX6_greatestAtEnd 3 = .ok (.istore 4, 2) := by decide +kernel
theorem dX6_greatestAtEnd_5 : decode cX6_greatestAtEnd 5 = .ok (.iload 4, 2) := by decide +kernel
theorem dX6_greatestAtEnd_7 : decode cX6_greatestAtEnd 7 = .ok (.aload_n 0, 1) := by decide +kernel
theorem dX6_greatestAtEnd_8 : decode cX6_greatestAtEnd 8 = .ok (.getfield 28, 3) := by decide +kernel
theorem dX6_greatestAtEnd_11 : decode cX6_greatestAtEnd 11 = .ok (.getfield 62, 3) := by decide +kernel
theorem dX6_greatestAtEnd_14 : decode cX6_greatestAtEnd 14 = .ok (.if_icmp .ge 48, 3) := by decide +kernel
theorem dX6_greatestAtEnd_17 : decode cX6_greatestAtEnd 17 = .ok (.aload_n 0, 1) := by decide +kernel
theorem dX6_greatestAtEnd_18 : decode cX6_greatestAtEnd 18 = .ok (.getfield 28, 3) := by decide +kernel
theorem dX6_greatestAtEnd_21 : decode cX6_greatestAtEnd 21 = .ok (.getfield 66, 3) := by decide +kernel
theorem dX6_greatestAtEnd_24 : decode cX6_greatestAtEnd 24 = .ok (.iload 4, 2) := by decide +kernel
theorem dX6_greatestAtEnd_26 : decode cX6_greatestAtEnd 26 = .ok (.iaload, 1) := by decide +kernel
theorem dX6_greatestAtEnd_27 : decode cX6_greatestAtEnd 27 = .ok (.invokestatic 69, 3) := by decide +kernel
theorem dX6_greatestAtEnd_30 : decode cX6_greatestAtEnd 30 = .ok (.ifCond .eq 26, 3) := by decide +kernel
theorem dX6_greatestAtEnd_33 : decode cX6_greatestAtEnd 33 = .ok (.lload_n 2, 1) := by decide +kernel
theorem dX6_greatestAtEnd_34 : decode cX6_greatestAtEnd 34 = .ok (.aload_n 0, 1) := by decide +kernel
theorem dX6_greatestAtEnd_35 : decode cX6_greatestAtEnd 35 = .ok (.getfield 28, 3) := by decide +kernel
theorem dX6_greatestAtEnd_38 : decode cX6_greatestAtEnd 38 = .ok (.aload_n 0, 1) := by decide +kernel
theorem dX6_greatestAtEnd_39 : decode cX6_greatestAtEnd 39 = .ok (.getfield 28, 3) := by decide +kernel
theorem dX6_greatestAtEnd_42 : decode cX6_greatestAtEnd 42 = .ok (.getfield 66, 3) := by decide +kernel
theorem dX6_greatestAtEnd_45 : decode cX6_greatestAtEnd 45 = .ok (.iload 4, 2) := by decide +kernel
theorem dX6_greatestAtEnd_47 : decode cX6_greatestAtEnd 47 = .ok (.iaload, 1) := by decide +kernel
theorem dX6_greatestAtEnd_48 : decode cX6_greatestAtEnd 48 = .ok (.iload_n 1, 1) := by decide +kernel
theorem dX6_greatestAtEnd_49 : decode cX6_greatestAtEnd 49 = .ok (.invokevirtual 73, 3) := by decide +kernel
theorem dX6_greatestAtEnd_52 : decode cX6_greatestAtEnd 52 = .ok (.invokestatic 99, 3) := by decide +kernel
theorem dX6_greatestAtEnd_55 : decode cX6_greatestAtEnd 55 = .ok (.lstore_n 2, 1) := by decide +kernel
theorem dX6_greatestAtEnd_56 : decode cX6_greatestAtEnd 56 = .ok (.iinc 4 1, 3) := by decide +kernel
theorem dX6_greatestAtEnd_59 : decode cX6_greatestAtEnd 59 = .ok (.goto (-54), 3) := by decide +kernel
theorem dX6_greatestAtEnd_62 : decode cX6_greatestAtEnd 62 = .ok (.lload_n 2, 1) := by decide +kernel
theorem dX6_greatestAtEnd_63 : decode cX6_greatestAtEnd 63 = .ok (.lreturn, 1) := by decide +kernel
theorem dX6_cardsOfKey_0 : decode cX6_cardsOfKey 0 = .ok (.lconst 0, 1) := by decide +kernel
theorem dX6_cardsOfKey_1 : decode cX6_cardsOfKey 1 = .ok (.lstore_n 3, 1) := by decide +kernel
theorem dX6_cardsOfKey_2 : decode cX6_cardsOfKey 2 = .ok (.iconst 0, 1) := by decide +kernel
theorem dX6_cardsOfKey_3 : decode cX6_cardsOfKey 3 = .ok (.istore 5, 2) := by decide +kernel
theorem dX6_cardsOfKey_5 : decode cX6_cardsOfKey 5 = .ok (.iload 5, 2) := by decide +kernel
theorem dX6_cardsOfKey_7 : decode cX6_cardsOfKey 7 = .ok (.bipush 52, 2) := by decide +kernel
theorem dX6_cardsOfKey_9 : decode cX6_cardsOfKey 9 = .ok (.if_icmp .ge 24, 3) := by decide +kernel
theorem dX6_cardsOfKey_12 : decode cX6_cardsOfKey 12 = .ok (.lload_n 3, 1) := by decide +kernel
theorem dX6_cardsOfKey_13 : decode cX6_cardsOfKey 13 = .ok (.lload_n 1, 1) := by decide +kernel
theorem dX6_cardsOfKey_14 : decode cX6_cardsOfKey 14 = .ok (.bipush 52, 2) := by decide +kernel
theorem dX6_cardsOfKey_16 : decode cX6_cardsOfKey 16 = .ok (.iload 5, 2) := by decide +kernel
theorem dX6_cardsOfKey_18 : decode cX6_cardsOfKey 18 = .ok (.isub, 1) := by decide +kernel
theorem dX6_cardsOfKey_19 : decode cX6_cardsOfKey 19 = .ok (.lushr, 1) := by decide +kernel
theorem dX6_cardsOfKey_20 : decode cX6_cardsOfKey 20 = .ok (.lconst 1, 1) := by decide +kernel
theorem dX6_cardsOfKey_21 : decode cX6_cardsOfKey 21 = .ok (.land, 1) := by decide +kernel
theorem dX6_cardsOfKey_22 : decode cX6_cardsOfKey 22 = .ok (.iload 5, 2) := by decide +kernel
theorem dX6_cardsOfKey_24 : decode cX6_cardsOfKey 24 = .ok (.lshl, 1) := by decide +kernel
theorem dX6_cardsOfKey_25 : decode cX6_cardsOfKey 25 = .ok (.lor, 1) := by decide +kernel
theorem dX6_cardsOfKey_26 : decode cX6_cardsOfKey 26 = .ok (.lstore_n 3, 1) := by decide +kernel
theorem dX6_cardsOfKey_27 : decode cX6_cardsOfKey 27 = .ok (.iinc 5 1, 3) := by decide +kernel
theorem dX6_cardsOfKey_30 : decode cX6_cardsOfKey 30 = .ok (.goto (-25), 3) := by decide +kernel
theorem dX6_cardsOfKey_33 : decode cX6_cardsOfKey 33 = .ok (.lload_n 3, 1) := by decide +kernel
theorem dX6_cardsOfKey_34 : decode cX6_cardsOfKey 34 = .ok (.lreturn, 1) := by decide +kernel
