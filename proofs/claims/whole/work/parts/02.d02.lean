theorem dX3_put_0 : decode cX3_put 0 = .ok (.iload_n 1, 1) := by decide +kernel
theorem dX3_put_1 : decode cX3_put 1 = .ok (.iload_n 2, 1) := by decide +kernel
theorem dX3_put_2 : decode cX3_put 2 = .ok (.invokestatic 27, 3) := by decide +kernel
theorem dX3_put_5 : decode cX3_put 5 = .ok (.ifCond .ne 4, 3) := by decide +kernel
theorem dX3_put_8 : decode cX3_put 8 = .ok (.return_, 1) := by decide +kernel
theorem dX3_put_9 : decode cX3_put 9 = .ok (.aload_n 0, 1) := by decide +kernel
theorem dX3_put_10 : decode cX3_put 10 = .ok (.getfield 15, 3) := by decide +kernel
theorem dX3_put_13 : decode cX3_put 13 = .ok (.iload_n 1, 1) := by decide +kernel
theorem dX3_put_14 : decode cX3_put 14 = .ok (.baload, 1) := by decide +kernel
theorem dX3_put_15 : decode cX3_put 15 = .ok (.ifCond .ne 40, 3) := by decide +kernel
theorem dX3_put_18 : decode cX3_put 18 = .ok (.aload_n 0, 1) := by decide +kernel
theorem dX3_put_19 : decode cX3_put 19 = .ok (.getfield 23, 3) := by decide +kernel
theorem dX3_put_22 : decode cX3_put 22 = .ok (.sipush 256, 3) := by decide +kernel
theorem dX3_put_25 : decode cX3_put 25 = .ok (.if_icmp .ge 30, 3) := by decide +kernel
theorem dX3_put_28 : decode cX3_put 28 = .ok (.aload_n 0, 1) := by decide +kernel
theorem dX3_put_29 : decode cX3_put 29 = .ok (.getfield 15, 3) := by decide +kernel
theorem dX3_put_32 : decode cX3_put 32 = .ok (.iload_n 1, 1) := by decide +kernel
theorem dX3_put_33 : decode cX3_put 33 = .ok (.iconst 1, 1) := by decide +kernel
theorem dX3_put_34 : decode cX3_put 34 = .ok (.bastore, 1) := by decide +kernel
theorem dX3_put_35 : decode cX3_put 35 = .ok (.aload_n 0, 1) := by decide +kernel
theorem dX3_put_36 : decode cX3_put 36 = .ok (.getfield 19, 3) := by decide +kernel
theorem dX3_put_39 : decode cX3_put 39 = .ok (.aload_n 0, 1) := by decide +kernel
theorem dX3_put_40 : decode cX3_put 40 = .ok (.getfield 23, 3) := by decide +kernel
theorem dX3_put_43 : decode cX3_put 43 = .ok (.iload_n 1, 1) := by decide +kernel
theorem dX3_put_44 : decode cX3_put 44 = .ok (.iastore, 1) := by decide +kernel
theorem dX3_put_45 : decode cX3_put 45 = .ok (.aload_n 0, 1) := by decide +kernel
theorem dX3_put_46 : decode cX3_put 46 = .ok (.dup, 1) := by decide +kernel
theorem dX3_put_47 : decode cX3_put 47 = .ok (.getfield 23, 3) := by decide +kernel
theorem dX3_put_50 : decode cX3_put 50 = .ok (.iconst 1, 1) := by decide +kernel
theorem dX3_put_51 : decode cX3_put 51 = .ok (.iadd, 1) := by decide +kernel
theorem dX3_put_52 : decode cX3_put 52 = .ok (.putfield 23, 3) := by decide +kernel
theorem dX3_put_55 : decode cX3_put 55 = .ok (.aload_n 0, 1) := by decide +kernel
theorem dX3_put_56 : decode cX3_put 56 = .ok (.getfield 9, 3) := by decide +kernel
theorem dX3_put_59 : decode cX3_put 59 = .ok (.iload_n 1, 1) := by decide +kernel
theorem dX3_put_60 : decode cX3_put 60 = .ok (.iconst 3, 1) := by decide +kernel
theorem dX3_put_61 : decode cX3_put 61 = .ok (.imul, 1) := by decide +kernel
theorem dX3_put_62 : decode cX3_put 62 = .ok (.iload_n 2, 1) := by decide +kernel
theorem dX3_put_63 : decode cX3_put 63 = .ok (.iadd, 1) := by decide +kernel
theorem dX3_put_64 : decode cX3_put 64 = .ok (.lload_n 3, 1) := by decide +kernel
theorem dX3_put_65 : decode cX3_put 65 = .ok (.lastore, 1) := by decide +kernel
theorem dX3_put_66 : decode cX3_put 66 = .ok (.return_, 1) := by decide +kernel
theorem dX4_init_0 : decode cX4_init 0 = .ok (.aload_n 0, 1) := by decide +kernel
theorem dX4_init_1 : decode cX4_init 1 = .ok (.invokespecial 3, 3) := by decide +kernel
theorem dX4_init_4 : decode cX4_init 4 = .ok (.aload_n 0, 1) := by decide +kernel
theorem dX4_init_5 : decode cX4_init 5 = .ok (.sipush 156, 3) := by decide +kernel
theorem dX4_init_8 : decode cX4_init 8 = .ok (.newarray .long, 2) := by decide +kernel
theorem dX4_init_10 : decode cX4_init 10 = .ok (.putfield 11, 3) := by decide +kernel
theorem dX4_init_13 : decode cX4_init 13 = .ok (.aload_n 0, 1) := by decide +kernel
theorem dX4_init_14 : decode cX4_init 14 = .ok (.aload_n 1, 1) := by decide +kernel
theorem dX4_init_15 : decode cX4_init 15 = .ok (.putfield 15, 3) := by decide +kernel
theorem dX4_init_18 : decode cX4_init 18 = .ok (.return_, 1) := by decide +kernel
set_option maxRecDepth 20000 in
theorem ggX4_findFirst_J7_fill_d0a16 : GoodIn wsX4_findFirst wsJ7_fill_d0a16 := goodIn_r _ [6] (by decide +kernel) (by decide +kernel)
set_option maxRecDepth 20000 in
theorem gX4_findFirst_J7_fill_d0a16 : GoodIn wsX4_findFirst (va_wsS RX4 23 yJ7_fill_d0a16 wsJ7_fill_d0a16) := goodIn_app (goodIn_of _ (by decide +kernel)) ggX4_findFirst_J7_fill_d0a16
set_option maxRecDepth 20000 in
theorem ggX4_findFirst_X0_jokersIn : GoodIn wsX4_findFirst wsX0_jokersIn := goodIn_r _ [10, 11, 12, 13, 14, 15, 16, 17] (by decide +kernel) (by decide +kernel)
set_option maxRecDepth 20000 in
theorem gX4_findFirst_X0_jokersIn : GoodIn wsX4_findFirst (va_wsS RX4 29 yX0_jokersIn wsX0_jokersIn) := goodIn_app (goodIn_of _ (by decide +kernel)) ggX4_findFirst_X0_jokersIn
set_option maxRecDepth 20000 in
theorem ggX4_findFirst_X4_reachesEnd : GoodIn wsX4_findFirst wsX4_reachesEnd := goodIn_r _ [22, 2, 1, 23, 24, 25, 26, 27, 28, 29, 9, 30, 31, 32, 33, 34, 35, 36, 37, 38, 39, 40, 41, 42, 43, 44, 45, 46, 47, 48, 49, 50, 51, 52, 53, 18, 19, 20, 21, 54, 55, 56, 57, 58] (by decide +kernel) (by decide +kernel)
set_option maxRecDepth 20000 in
theorem gX4_findFirst_X4_reachesEnd : GoodIn wsX4_findFirst (wsV RX4 35 RX4 yX4_reachesEnd wsX4_reachesEnd) := goodIn_app (goodIn_of _ (by decide +kernel)) ggX4_findFirst_X4_reachesEnd
theorem dX4_findFirst_0 : decode cX4_findFirst 0 = .ok (.aload_n 0, 1) := by decide +kernel
theorem dX4_findFirst_1 : decode cX4_findFirst 1 = .ok (.lload_n 1, 1) := by decide +kernel
theorem dX4_findFirst_2 : decode cX4_findFirst 2 = .ok (.putfield 19, 3) := by decide +kernel
theorem dX4_findFirst_5 : decode cX4_findFirst 5 = .ok (.aload_n 0, 1) := by decide +kernel
theorem dX4_findFirst_6 : decode cX4_findFirst 6 = .ok (.getfield 11, 3) := by decide +kernel
theorem dX4_findFirst_9 : decode cX4_findFirst 9 = .ok (.lconst 0, 1) := by decide +kernel
theorem dX4_findFirst_10 : decode cX4_findFirst 10 = .ok (.invokestatic 23, 3) := by decide +kernel
theorem dX4_findFirst_13 : decode cX4_findFirst 13 = .ok (.aload_n 0, 1) := by decide +kernel
theorem dX4_findFirst_14 : decode cX4_findFirst 14 = .ok (.iconst 0, 1) := by decide +kernel
theorem dX4_findFirst_15 : decode cX4_findFirst 15 = .ok (.iconst 0, 1) := by decide +kernel
theorem dX4_findFirst_16 : decode cX4_findFirst 16 = .ok (.lload_n 1, 1) := by decide +kernel
theorem dX4_findFirst_17 : decode cX4_findFirst 17 = .ok (.invokestatic 29, 3) := by decide +kernel
theorem dX4_findFirst_20 : decode cX4_findFirst 20 = .ok (.aload_n 3, 1) := by decide +kernel
theorem dX4_findFirst_21 : decode cX4_findFirst 21 = .ok (.invokevirtual 35, 3) := by decide +kernel
theorem dX4_findFirst_24 : decode cX4_findFirst 24 = .ok (.ifCond .ne 5, 3) := by decide +kernel
theorem dX4_findFirst_27 : decode cX4_findFirst 27 = .ok (.iconst 0, 1) := by decide +kernel
theorem dX4_findFirst_28 : decode cX4_findFirst 28 = .ok (.ireturn, 1) := by decide +kernel
theorem dX4_findFirst_29 : decode cX4_findFirst 29 = .ok (.aload_n 3, 1) := by decide +kernel
theorem dX4_findFirst_30 : decode cX4_findFirst 30 = .ok (.lload_n 1, 1) := by decide +kernel
theorem dX4_findFirst_31 : decode cX4_findFirst 31 = .ok (.putfield 39, 3) := by decide +kernel
theorem dX4_findFirst_34 : decode cX4_findFirst 34 = .ok (.iconst 1, 1) := by decide +kernel
theorem dX4_findFirst_35 : decode cX4_findFirst 35 = .ok (.ireturn, 1) := by decide +kernel
set_option maxRecDepth 20000 in
theorem ggX4_reachesEnd_X5_mayEnd : GoodIn wsX4_reachesEnd wsX5_mayEnd := goodIn_r _ [7] (by decide +kernel) (by decide +kernel)
set_option maxRecDepth 20000 in
theorem gX4_reachesEnd_X5_mayEnd : GoodIn wsX4_reachesEnd (va_wsS RX4 44 yX5_mayEnd wsX5_mayEnd) := goodIn_app (goodIn_of _ (by decide +kernel)) ggX4_reachesEnd_X5_mayEnd
set_option maxRecDepth 20000 in
theorem ggX4_reachesEnd_X0_coloursOf : GoodIn wsX4_reachesEnd wsX0_coloursOf := goodIn_r _ [11] (by decide +kernel) (by decide +kernel)
set_option maxRecDepth 20000 in
theorem gX4_reachesEnd_X0_coloursOf : GoodIn wsX4_reachesEnd (va_wsS RX4 50 yX0_coloursOf wsX0_coloursOf) := goodIn_app (goodIn_of _ (by decide +kernel)) ggX4_reachesEnd_X0_coloursOf
set_option maxRecDepth 20000 in
theorem ggX4_reachesEnd_X5_shown : GoodIn wsX4_reachesEnd wsX5_shown := goodIn_r _ [14] (by decide +kernel) (by decide +kernel)
set_option maxRecDepth 20000 in
theorem gX4_reachesEnd_X5_shown : GoodIn wsX4_reachesEnd (va_wsS RX4 54 yX5_shown wsX5_shown) := goodIn_app (goodIn_of _ (by decide +kernel)) ggX4_reachesEnd_X5_shown
set_option maxRecDepth 20000 in
theorem ggX4_reachesEnd_X5_continued : GoodIn wsX4_reachesEnd wsX5_continued := goodIn_r _ [17] (by decide +kernel) (by decide +kernel)
set_option maxRecDepth 20000 in
theorem gX4_reachesEnd_X5_continued : GoodIn wsX4_reachesEnd (va_wsS RX4 58 yX5_continued wsX5_continued) := goodIn_app (goodIn_of _ (by decide +kernel)) ggX4_reachesEnd_X5_continued
set_option maxRecDepth 20000 in
theorem ggX4_reachesEnd_X5_canContinue : GoodIn wsX4_reachesEnd wsX5_canContinue := goodIn_r _ [20] (by decide +kernel) (by decide +kernel)
set_option maxRecDepth 20000 in
theorem gX4_reachesEnd_X5_canContinue : GoodIn wsX4_reachesEnd (va_wsS RX4 61 yX5_canContinue wsX5_canContinue) := goodIn_app (goodIn_of _ (by decide +kernel)) ggX4_reachesEnd_X5_canContinue
set_option maxRecDepth 20000 in
theorem ggX4_reachesEnd_J6_bitCount_0f7a4 : GoodIn wsX4_reachesEnd wsJ6_bitCount_0f7a4 := goodIn_r _ [24, 25, 26, 27] (by decide +kernel) (by decide +kernel)
set_option maxRecDepth 20000 in
theorem gX4_reachesEnd_J6_bitCount_0f7a4 : GoodIn wsX4_reachesEnd (va_wsS RX4 65 yJ6_bitCount_0f7a4 wsJ6_bitCount_0f7a4) := goodIn_app (goodIn_of _ (by decide +kernel)) ggX4_reachesEnd_J6_bitCount_0f7a4
set_option maxRecDepth 20000 in
theorem ggX4_reachesEnd_X5_stateAfter : GoodIn wsX4_reachesEnd wsX5_stateAfter := goodIn_r _ [30, 31, 16, 6, 17, 32, 33, 34] (by decide +kernel) (by decide +kernel)
set_option maxRecDepth 20000 in
theorem gX4_reachesEnd_X5_stateAfter : GoodIn wsX4_reachesEnd (va_wsS RX4 70 yX5_stateAfter wsX5_stateAfter) := goodIn_app (goodIn_of _ (by decide +kernel)) ggX4_reachesEnd_X5_stateAfter
set_option maxRecDepth 20000 in
theorem ggX4_reachesEnd_X4_reachesEnd : GoodIn wsX4_reachesEnd wsX4_reachesEnd := goodIn_r _ [0, 1, 2, 3, 4, 5, 6, 7, 8, 9, 10, 11, 12, 13, 14, 15, 16, 17, 18, 19, 20, 21, 22, 23, 24, 25, 26, 27, 28, 29, 30, 31, 32, 33, 34, 35, 36, 37, 38, 39, 40, 41, 42, 43] (by decide +kernel) (by decide +kernel)
set_option maxRecDepth 20000 in
theorem gX4_reachesEnd_X4_reachesEnd : GoodIn wsX4_reachesEnd (wsV RX4 35 RX4 yX4_reachesEnd wsX4_reachesEnd) := goodIn_app (goodIn_of _ (by decide +kernel)) ggX4_reachesEnd_X4_reachesEnd
theorem dX4_reachesEnd_0 : decode cX4_reachesEnd 0 = .ok (.iload_n 3, 1) := by decide +kernel
theorem dX4_reachesEnd_1 : decode cX4_reachesEnd 1 = .ok (.ifCond .lt 19, 3) := by decide +kernel
theorem dX4_reachesEnd_4 : decode cX4_reachesEnd 4 = .ok (.iload_n 3, 1) := by decide +kernel
theorem dX4_reachesEnd_5 : decode cX4_reachesEnd 5 = .ok (.iconst 2, 1) := by decide +kernel
theorem dX4_reachesEnd_6 : decode cX4_reachesEnd 6 = .ok (.if_icmp .gt 14, 3) := by decide +kernel
theorem dX4_reachesEnd_9 : decode cX4_reachesEnd 9 = .ok (.iload_n 2, 1) := by decide +kernel
theorem dX4_reachesEnd_10 : decode cX4_reachesEnd 10 = .ok (.ifCond .lt 10, 3) := by decide +kernel
theorem dX4_reachesEnd_13 : decode cX4_reachesEnd 13 = .ok (.iload_n 2, 1) := by decide +kernel
theorem dX4_reachesEnd_14 : decode cX4_reachesEnd 14 = .ok (.sipush 256, 3) := by decide +kernel
theorem dX4_reachesEnd_17 : decode cX4_reachesEnd 17 = .ok (.if_icmp .lt 5, 3) := by decide +kernel
theorem dX4_reachesEnd_20 : decode cX4_reachesEnd 20 = .ok (.iconst 0, 1) := by decide +kernel
theorem dX4_reachesEnd_21 : decode cX4_reachesEnd 21 = .ok (.ireturn, 1) := by decide +kernel
theorem dX4_reachesEnd_22 : decode cX4_reachesEnd 22 = .ok (.iload_n 1, 1) := by decide +kernel
theorem dX4_reachesEnd_23 : decode cX4_reachesEnd 23 = .ok (.ifCond .lt 9, 3) := by decide +kernel
theorem dX4_reachesEnd_26 : decode cX4_reachesEnd 26 = .ok (.iload_n 1, 1) := by decide +kernel
theorem dX4_reachesEnd_27 : decode cX4_reachesEnd 27 = .ok (.bipush 13, 2) := by decide +kernel
theorem dX4_reachesEnd_29 : decode cX4_reachesEnd 29 = .ok (.if_icmp .lt 26, 3) := by decide +kernel
theorem dX4_reachesEnd_32 : decode cX4_reachesEnd 32 = .ok (.iload_n 1, 1) := by decide +kernel
theorem dX4_reachesEnd_33 : decode cX4_reachesEnd 33 = .ok (.bipush 13, 2) := by decide +kernel
theorem dX4_reachesEnd_35 : decode cX4_reachesEnd 35 = .ok (.if_icmp .ne 18, 3) := by decide +kernel
theorem dX4_reachesEnd_38 : decode cX4_reachesEnd 38 = .ok (.iload_n 3, 1) := by decide +kernel
theorem dX4_reachesEnd_39 : decode cX4_reachesEnd 39 = .ok (.ifCond .ne 14, 3) := by decide +kernel
theorem dX4_reachesEnd_42 : decode cX4_reachesEnd 42 = .ok (.iload_n 2, 1) := by decide +kernel
theorem dX4_reachesEnd_43 : decode cX4_reachesEnd 43 = .ok (.invokestatic 44, 3) := by decide +kernel
theorem dX4_reachesEnd_46 : decode cX4_reachesEnd 46 = .ok (.ifCond .eq 7, 3) := by decide +kernel
theorem dX4_reachesEnd_49 : decode cX4_reachesEnd 49 = .ok (.iconst 1, 1) := by decide +kernel
theorem dX4_reachesEnd_50 : decode cX4_reachesEnd 50 = .ok (.goto 4, 3) := by decide +kernel
theorem dX4_reachesEnd_53 : decode cX4_reachesEnd 53 = .ok (.iconst 0, 1) := by decide +kernel
theorem dX4_reachesEnd_54 : decode cX4_reachesEnd 54 = .ok (.ireturn, 1) := by decide +kernel
theorem dX4_reachesEnd_55 : decode cX4_reachesEnd 55 = .ok (.iload_n 1, 1) := by decide +kernel
theorem dX4_reachesEnd_56 : decode cX4_reachesEnd 56 = .ok (.iconst 3, 1) := by decide +kernel
theorem dX4_reachesEnd_57 : decode cX4_reachesEnd 57 = .ok (.imul, 1) := by decide +kernel
theorem dX4_reachesEnd_58 : decode cX4_reachesEnd 58 = .ok (.iload_n 3, 1) := by decide +kernel
theorem dX4_reachesEnd_59 : decode cX4_reachesEnd 59 = .ok (.iadd, 1) := by decide +kernel
theorem dX4_reachesEnd_60 : decode cX4_reachesEnd 60 = .ok (.sipush 256, 3) := by decide +kernel
theorem dX4_reachesEnd_63 : decode cX4_reachesEnd 63 = .ok (.imul, 1) := by decide +kernel
theorem dX4_reachesEnd_64 : decode cX4_reachesEnd 64 = .ok (.iload_n 2, 1) := by decide +kernel
theorem dX4_reachesEnd_65 : decode cX4_reachesEnd 65 = .ok (.iadd, 1) := by decide +kernel
theorem dX4_reachesEnd_66 : decode cX4_reachesEnd 66 = .ok (.istore 5, 2) := by decide +kernel
theorem dX4_reachesEnd_68 : decode cX4_reachesEnd 68 = .ok (.aload_n 0, 1) := by decide +kernel
theorem dX4_reachesEnd_69 : decode cX4_reachesEnd 69 = .ok (.getfield 11, 3) := by decide +kernel
theorem dX4_reachesEnd_72 : decode cX4_reachesEnd 72 = .ok (.iload 5, 2) := by decide +kernel
theorem dX4_reachesEnd_74 : decode cX4_reachesEnd 74 = .ok (.bipush 64, 2) := by decide +kernel
theorem dX4_reachesEnd_76 : decode cX4_reachesEnd 76 = .ok (.idiv, 1) := by decide +kernel
theorem dX4_reachesEnd_77 : decode cX4_reachesEnd 77 = .ok (.laload, 1) := by decide +kernel
theorem dX4_reachesEnd_78 : decode cX4_reachesEnd 78 = .ok (.iload 5, 2) := by decide +kernel
theorem dX4_reachesEnd_80 : decode cX4_reachesEnd 80 = .ok (.bipush 64, 2) := by decide +kernel
theorem dX4_reachesEnd_82 : decode cX4_reachesEnd 82 = .ok (.irem, 1) := by decide +kernel
theorem dX4_reachesEnd_83 : decode cX4_reachesEnd 83 = .ok (.lushr, 1) := by decide +kernel
theorem dX4_reachesEnd_84 : decode cX4_reachesEnd 84 = .ok (.lconst 1, 1) := by decide +kernel
theorem dX4_reachesEnd_85 : decode cX4_reachesEnd 85 = .ok (.land, 1) := by decide +kernel
theorem dX4_reachesEnd_86 : decode cX4_reachesEnd 86 = .ok (.lconst 0, 1) := by decide +kernel
theorem dX4_reachesEnd_87 : decode cX4_reachesEnd 87 = .ok (.lcmp, 1) := by decide +kernel
theorem dX4_reachesEnd_88 : decode cX4_reachesEnd 88 = .ok (.ifCond .eq 5, 3) := by decide +kernel
theorem dX4_reachesEnd_91 : decode cX4_reachesEnd 91 = .ok (.iconst 0, 1) := by decide +kernel
theorem dX4_reachesEnd_92 : decode cX4_reachesEnd 92 = .ok (.ireturn, 1) := by decide +kernel
theorem dX4_reachesEnd_93 : decode cX4_reachesEnd 93 = .ok (.aload_n 0, 1) := by decide +kernel
theorem dX4_reachesEnd_94 : decode cX4_reachesEnd 94 = .ok (.getfield 19, 3) := by decide +kernel
theorem dX4_reachesEnd_97 : decode cX4_reachesEnd 97 = .ok (.iload_n 1, 1) := by decide +kernel
theorem dX4_reachesEnd_98 : decode cX4_reachesEnd 98 = .ok (.invokestatic 50, 3) := by decide +kernel
theorem dX4_reachesEnd_101 : decode cX4_reachesEnd 101 = .ok (.istore 6, 2) := by decide +kernel
theorem dX4_reachesEnd_103 : decode cX4_reachesEnd 103 = .ok (.iconst 0, 1) := by decide +kernel
theorem dX4_reachesEnd_104 : decode cX4_reachesEnd 104 = .ok (.istore 7, 2) := by decide +kernel
theorem dX4_reachesEnd_106 : decode cX4_reachesEnd 106 = .ok (.iload 7, 2) := by decide +kernel
theorem dX4_reachesEnd_108 : decode cX4_reachesEnd 108 = .ok (.aload_n 0, 1) := by decide +kernel
theorem dX4_reachesEnd_109 : decode cX4_reachesEnd 109 = .ok (.getfield 15, 3) := by decide +kernel
theorem dX4_reachesEnd_112 : decode cX4_reachesEnd 112 = .ok (.arraylength, 1) := by decide +kernel
theorem dX4_reachesEnd_113 : decode cX4_reachesEnd 113 = .ok (.if_icmp .ge 108, 3) := by decide +kernel
theorem dX4_reachesEnd_116 : decode cX4_reachesEnd 116 = .ok (.aload_n 0, 1) := by decide +kernel
theorem dX4_reachesEnd_117 : decode cX4_reachesEnd 117 = .ok (.getfield 15, 3) := by decide +kernel
theorem dX4_reachesEnd_120 : decode cX4_reachesEnd 120 = .ok (.iload 7, 2) := by decide +kernel
theorem dX4_reachesEnd_122 : decode cX4_reachesEnd 122 = .ok (.iaload, 1) := by decide +kernel
theorem dX4_reachesEnd_123 : decode cX4_reachesEnd 123 = .ok (.invokestatic 54, 3) := by decide +kernel
theorem dX4_reachesEnd_126 : decode cX4_reachesEnd 126 = .ok (.istore 8, 2) := by decide +kernel
theorem dX4_reachesEnd_128 : decode cX4_reachesEnd 128 = .ok (.iload 6, 2) := by decide +kernel
theorem dX4_reachesEnd_130 : decode cX4_reachesEnd 130 = .ok (.iload 8, 2) := by decide +kernel
theorem dX4_reachesEnd_132 : decode cX4_reachesEnd 132 = .ok (.iconst (-1), 1) := by decide +kernel
theorem dX4_reachesEnd_133 : decode cX4_reachesEnd 133 = .ok (.ixor, 1) := by decide +kernel
theorem dX4_reachesEnd_134 : decode cX4_reachesEnd 134 = .ok (.iand, 1) := by decide +kernel
theorem dX4_reachesEnd_135 : decode cX4_reachesEnd 135 = .ok (.ifCond .ne 80, 3) := by decide +kernel
theorem dX4_reachesEnd_138 : decode cX4_reachesEnd 138 = .ok (.iload_n 2, 1) := by decide +kernel
theorem dX4_reachesEnd_139 : decode cX4_reachesEnd 139 = .ok (.aload_n 0, 1) := by decide +kernel
theorem dX4_reachesEnd_140 : decode cX4_reachesEnd 140 = .ok (.getfield 15, 3) := by decide +kernel
theorem dX4_reachesEnd_143 : decode cX4_reachesEnd 143 = .ok (.iload 7, 2) := by decide +kernel
theorem dX4_reachesEnd_145 : decode cX4_reachesEnd 145 = .ok (.iaload, 1) := by decide +kernel
theorem dX4_reachesEnd_146 : decode cX4_reachesEnd 146 = .ok (.invokestatic 58, 3) := by decide +kernel
theorem dX4_reachesEnd_149 : decode cX4_reachesEnd 149 = .ok (.invokestatic 61, 3) := by decide +kernel
theorem dX4_reachesEnd_152 : decode cX4_reachesEnd 152 = .ok (.ifCond .eq 63, 3) := by decide +kernel
theorem dX4_reachesEnd_155 : decode cX4_reachesEnd 155 = .ok (.iload_n 3, 1) := by decide +kernel
theorem dX4_reachesEnd_156 : decode cX4_reachesEnd 156 = .ok (.iload 8, 2) := by decide +kernel
theorem dX4_reachesEnd_158 : decode cX4_reachesEnd 158 = .ok (.iload 6, 2) := by decide +kernel
theorem dX4_reachesEnd_160 : decode cX4_reachesEnd 160 = .ok (.iconst (-1), 1) := by decide +kernel
theorem dX4_reachesEnd_161 : decode cX4_reachesEnd 161 = .ok (.ixor, 1) := by decide +kernel
theorem dX4_reachesEnd_162 : decode cX4_reachesEnd 162 = .ok (.iand, 1) := by decide +kernel
theorem dX4_reachesEnd_163 : decode cX4_reachesEnd 163 = .ok (.invokestatic 65, 3) := by decide +kernel
theorem dX4_reachesEnd_166 : decode cX4_reachesEnd 166 = .ok (.isub, 1) := by decide +kernel
theorem dX4_reachesEnd_167 : decode cX4_reachesEnd 167 = .ok (.istore 9, 2) := by decide +kernel
theorem dX4_reachesEnd_169 : decode cX4_reachesEnd 169 = .ok (.iload 9, 2) := by decide +kernel
theorem dX4_reachesEnd_171 : decode cX4_reachesEnd 171 = .ok (.ifCond .lt 44, 3) := by decide +kernel
theorem dX4_reachesEnd_174 : decode cX4_reachesEnd 174 = .ok (.aload_n 0, 1) := by decide +kernel
theorem dX4_reachesEnd_175 : decode cX4_reachesEnd 175 = .ok (.iload_n 1, 1) := by decide +kernel
theorem dX4_reachesEnd_176 : decode cX4_reachesEnd 176 = .ok (.iconst 1, 1) := by decide +kernel
theorem dX4_reachesEnd_177 : decode cX4_reachesEnd 177 = .ok (.iadd, 1) := by decide +kernel
theorem dX4_reachesEnd_178 : decode cX4_reachesEnd 178 = .ok (.iload_n 2, 1) := by decide +kernel
theorem dX4_reachesEnd_179 : decode cX4_reachesEnd 179 = .ok (.aload_n 0, 1) := by decide +kernel
theorem dX4_reachesEnd_180 : decode cX4_reachesEnd 180 = .ok (.getfield 15, 3) := by decide +kernel
theorem dX4_reachesEnd_183 : decode cX4_reachesEnd 183 = .ok (.iload 7, 2) := by decide +kernel
theorem dX4_reachesEnd_185 : decode cX4_reachesEnd 185 = .ok (.iaload, 1) := by decide +kernel
theorem dX4_reachesEnd_186 : decode cX4_reachesEnd 186 = .ok (.invokestatic 70, 3) := by decide +kernel
theorem dX4_reachesEnd_189 : decode cX4_reachesEnd 189 = .ok (.iload 9, 2) := by decide +kernel
theorem dX4_reachesEnd_191 : decode cX4_reachesEnd 191 = .ok (.aload 4, 2) := by decide +kernel
theorem dX4_reachesEnd_193 : decode cX4_reachesEnd 193 = .ok (.invokevirtual 35, 3) := by decide +kernel
theorem dX4_reachesEnd_196 : decode cX4_reachesEnd 196 = .ok (.ifCond .eq 19, 3) := by decide +kernel
theorem dX4_reachesEnd_199 : decode cX4_reachesEnd 199 = .ok (.aload 4, 2) := by decide +kernel
theorem dX4_reachesEnd_201 : decode cX4_reachesEnd 201 = .ok (.getfield 74, 3) := by decide +kernel
theorem dX4_reachesEnd_204 : decode cX4_reachesEnd 204 = .ok (.iload_n 1, 1) := by decide +kernel
theorem dX4_reachesEnd_205 : decode cX4_reachesEnd 205 = .ok (.aload_n 0, 1) := by decide +kernel
theorem dX4_reachesEnd_206 : decode cX4_reachesEnd 206 = .ok (.getfield 15, 3) := by decide +kernel
theorem dX4_reachesEnd_209 : decode cX4_reachesEnd 209 = .ok (.iload 7, 2) := by decide +kernel
theorem dX4_reachesEnd_211 : decode cX4_reachesEnd 211 = .ok (.iaload, 1) := by decide +kernel
theorem dX4_reachesEnd_212 : decode cX4_reachesEnd 212 = .ok (.iastore, 1) := by decide +kernel
theorem dX4_reachesEnd_213 : decode cX4_reachesEnd 213 = .ok (.iconst 1, 1) := by decide +kernel
theorem dX4_reachesEnd_214 : decode cX4_reachesEnd 214 = .ok (.ireturn, 1) := by decide +kernel
theorem dX4_reachesEnd_215 : decode cX4_reachesEnd 215 = .ok (.iinc 7 1, 3) := by decide +kernel
theorem dX4_reachesEnd_218 : decode cX4_reachesEnd 218 = .ok (.goto (-112), 3) := by decide +kernel
theorem dX4_reachesEnd_221 : decode cX4_reachesEnd 221 = .ok (.aload_n 0, 1) := by decide +kernel
theorem dX4_reachesEnd_222 : decode cX4_reachesEnd 222 = .ok (.getfield 11, 3) := by decide +kernel
theorem dX4_reachesEnd_225 : decode cX4_reachesEnd 225 = .ok (.iload 5, 2) := by decide +kernel
theorem dX4_reachesEnd_227 : decode cX4_reachesEnd 227 = .ok (.bipush 64, 2) := by decide +kernel
theorem dX4_reachesEnd_229 : decode cX4_reachesEnd 229 = .ok (.idiv, 1) := by decide +kernel
theorem dX4_reachesEnd_230 : decode cX4_reachesEnd 230 = .ok (.dup2, 1) := by decide +kernel
theorem dX4_reachesEnd_231 : decode cX4_reachesEnd 231 = .ok (.laload, 1) := by decide +kernel
theorem dX4_reachesEnd_232 : decode cX4_reachesEnd 232 = .ok (.lconst 1, 1) := by decide +kernel
theorem dX4_reachesEnd_233 : decode cX4_reachesEnd 233 = .ok (.iload 5, 2) := by decide +kernel
theorem dX4_reachesEnd_235 : decode cX4_reachesEnd 235 = .ok (.bipush 64, 2) := by decide +kernel
theorem dX4_reachesEnd_237 : decode cX4_reachesEnd 237 = .ok (.irem, 1) := by decide +kernel
theorem dX4_reachesEnd_238 : decode cX4_reachesEnd 238 = .ok (.lshl, 1) := by decide +kernel
theorem dX4_reachesEnd_239 : decode cX4_reachesEnd 239 = .ok (.lor, 1) := by decide +kernel
theorem dX4_reachesEnd_240 : decode cX4_reachesEnd 240 = .ok (.lastore, 1) := by decide +kernel
theorem dX4_reachesEnd_241 : decode cX4_reachesEnd 241 = .ok (.iconst 0, 1) := by decide +kernel
theorem dX4_reachesEnd_242 : decode cX4_reachesEnd 242 = .ok (.ireturn, 1) := by decide +kernel
set_option maxRecDepth 20000 in
theorem ggX5_allInOrder_X5_fromPlaces : GoodIn wsX5_allInOrder wsX5_fromPlaces := goodIn_r _ [5] (by decide +kernel) (by decide +kernel)
set_option maxRecDepth 20000 in
theorem gX5_allInOrder_X5_fromPlaces : GoodIn wsX5_allInOrder (va_wsS RX5 9 yX5_fromPlaces wsX5_fromPlaces) := goodIn_app (goodIn_of _ (by decide +kernel)) ggX5_allInOrder_X5_fromPlaces
set_option maxRecDepth 20000 in
theorem ggX5_allInOrder_X5_grouped : GoodIn wsX5_allInOrder wsX5_grouped := goodIn_r _ [8] (by decide +kernel) (by decide +kernel)
set_option maxRecDepth 20000 in
theorem gX5_allInOrder_X5_grouped : GoodIn wsX5_allInOrder (va_wsS RX5 15 yX5_grouped wsX5_grouped) := goodIn_app (goodIn_of _ (by decide +kernel)) ggX5_allInOrder_X5_grouped
set_option maxRecDepth 20000 in
theorem ggX5_allInOrder_J6_bitCount_0f7a4 : GoodIn wsX5_allInOrder wsJ6_bitCount_0f7a4 := goodIn_r _ [12, 13, 14, 15] (by decide +kernel) (by decide +kernel)
set_option maxRecDepth 20000 in
theorem gX5_allInOrder_J6_bitCount_0f7a4 : GoodIn wsX5_allInOrder (va_wsS RX5 18 yJ6_bitCount_0f7a4 wsJ6_bitCount_0f7a4) := goodIn_app (goodIn_of _ (by decide +kernel)) ggX5_allInOrder_J6_bitCount_0f7a4
theorem dX5_allInOrder_0 : decode cX5_allInOrder 0 = .ok (.bipush 94, 2) := by decide +kernel
theorem dX5_allInOrder_2 : decode cX5_allInOrder 2 = .ok (.newarray .int, 2) := by decide +kernel
theorem dX5_allInOrder_4 : decode cX5_allInOrder 4 = .ok (.astore_n 0, 1) := by decide +kernel
theorem dX5_allInOrder_5 : decode cX5_allInOrder 5 = .ok (.iconst 0, 1) := by decide +kernel
theorem dX5_allInOrder_6 : decode cX5_allInOrder 6 = .ok (.istore_n 1, 1) := by decide +kernel
theorem dX5_allInOrder_7 : decode cX5_allInOrder 7 = .ok (.iconst 0, 1) := by decide +kernel
theorem dX5_allInOrder_8 : decode cX5_allInOrder 8 = .ok (.istore_n 2, 1) := by decide +kernel
theorem dX5_allInOrder_9 : decode cX5_allInOrder 9 = .ok (.iload_n 2, 1) := by decide +kernel
theorem dX5_allInOrder_10 : decode cX5_allInOrder 10 = .ok (.sipush 256, 3) := by decide +kernel
theorem dX5_allInOrder_13 : decode cX5_allInOrder 13 = .ok (.if_icmp .ge 47, 3) := by decide +kernel
theorem dX5_allInOrder_16 : decode cX5_allInOrder 16 = .ok (.iload_n 2, 1) := by decide +kernel
theorem dX5_allInOrder_17 : decode cX5_allInOrder 17 = .ok (.invokestatic 9, 3) := by decide +kernel
theorem dX5_allInOrder_20 : decode cX5_allInOrder 20 = .ok (.istore_n 3, 1) := by decide +kernel
theorem dX5_allInOrder_21 : decode cX5_allInOrder 21 = .ok (.iload_n 3, 1) := by decide +kernel
theorem dX5_allInOrder_22 : decode cX5_allInOrder 22 = .ok (.invokestatic 15, 3) := by decide +kernel
theorem dX5_allInOrder_25 : decode cX5_allInOrder 25 = .ok (.invokestatic 18, 3) := by decide +kernel
theorem dX5_allInOrder_28 : decode cX5_allInOrder 28 = .ok (.istore 4, 2) := by decide +kernel
theorem dX5_allInOrder_30 : decode cX5_allInOrder 30 = .ok (.iload 4, 2) := by decide +kernel
theorem dX5_allInOrder_32 : decode cX5_allInOrder 32 = .ok (.ifCond .eq 9, 3) := by decide +kernel
theorem dX5_allInOrder_35 : decode cX5_allInOrder 35 = .ok (.iload 4, 2) := by decide +kernel
theorem dX5_allInOrder_37 : decode cX5_allInOrder 37 = .ok (.iconst 3, 1) := by decide +kernel
theorem dX5_allInOrder_38 : decode cX5_allInOrder 38 = .ok (.if_icmp .lt 16, 3) := by decide +kernel
theorem dX5_allInOrder_41 : decode cX5_allInOrder 41 = .ok (.iload_n 1, 1) := by decide +kernel
theorem dX5_allInOrder_42 : decode cX5_allInOrder 42 = .ok (.bipush 94, 2) := by decide +kernel
theorem dX5_allInOrder_44 : decode cX5_allInOrder 44 = .ok (.if_icmp .ge 10, 3) := by decide +kernel
theorem dX5_allInOrder_47 : decode cX5_allInOrder 47 = .ok (.aload_n 0, 1) := by decide +kernel
theorem dX5_allInOrder_48 : decode cX5_allInOrder 48 = .ok (.iload_n 1, 1) := by decide +kernel
theorem dX5_allInOrder_49 : decode cX5_allInOrder 49 = .ok (.iload_n 3, 1) := by decide +kernel
theorem dX5_allInOrder_50 : decode cX5_allInOrder 50 = .ok (.iastore, 1) := by decide +kernel
theorem dX5_allInOrder_51 : decode cX5_allInOrder 51 = .ok (.iinc 1 1, 3) := by decide +kernel
theorem dX5_allInOrder_54 : decode cX5_allInOrder 54 = .ok (.iinc 2 1, 3) := by decide +kernel
theorem dX5_allInOrder_57 : decode cX5_allInOrder 57 = .ok (.goto (-48), 3) := by decide +kernel
theorem dX5_allInOrder_60 : decode cX5_allInOrder 60 = .ok (.aload_n 0, 1) := by decide +kernel
theorem dX5_allInOrder_61 : decode cX5_allInOrder 61 = .ok (.areturn, 1) := by decide +kernel
theorem dX5_fromPlaces_0 : decode cX5_fromPlaces 0 = .ok (.iconst 0, 1) := by decide +kernel
theorem dX5_fromPlaces_1 : decode cX5_fromPlaces 1 = .ok (.istore_n 1, 1) := by decide +kernel
theorem dX5_fromPlaces_2 : decode cX5_fromPlaces 2 = .ok (.iconst 0, 1) := by decide +kernel
theorem dX5_fromPlaces_3 : decode cX5_fromPlaces 3 = .ok (.istore_n 2, 1) := by decide +kernel
theorem dX5_fromPlaces_4 : decode cX5_fromPlaces 4 = .ok (.iload_n 2, 1) := by decide +kernel
theorem dX5_fromPlaces_5 : decode cX5_fromPlaces 5 = .ok (.iconst 4, 1) := by decide +kernel
theorem dX5_fromPlaces_6 : decode cX5_fromPlaces 6 = .ok (.if_icmp .ge 42, 3) := by decide +kernel
theorem dX5_fromPlaces_9 : decode cX5_fromPlaces 9 = .ok (.iload_n 0, 1) := by decide +kernel
theorem dX5_fromPlaces_10 : decode cX5_fromPlaces 10 = .ok (.iconst 2, 1) := by decide +kernel
theorem dX5_fromPlaces_11 : decode cX5_fromPlaces 11 = .ok (.iconst 3, 1) := by decide +kernel
theorem dX5_fromPlaces_12 : decode cX5_fromPlaces 12 = .ok (.iload_n 2, 1) := by decide +kernel
theorem dX5_fromPlaces_13 : decode cX5_fromPlaces 13 = .ok (.isub, 1) := by decide +kernel
theorem dX5_fromPlaces_14 : decode cX5_fromPlaces 14 = .ok (.imul, 1) := by decide +kernel
theorem dX5_fromPlaces_15 : decode cX5_fromPlaces 15 = .ok (.ishr, 1) := by decide +kernel
theorem dX5_fromPlaces_16 : decode cX5_fromPlaces 16 = .ok (.iconst 3, 1) := by decide +kernel
theorem dX5_fromPlaces_17 : decode cX5_fromPlaces 17 = .ok (.iand, 1) := by decide +kernel
theorem dX5_fromPlaces_18 : decode cX5_fromPlaces 18 = .ok (.istore_n 3, 1) := by decide +kernel
theorem dX5_fromPlaces_19 : decode cX5_fromPlaces 19 = .ok (.iload_n 3, 1) := by decide +kernel
theorem dX5_fromPlaces_20 : decode cX5_fromPlaces 20 = .ok (.ifCond .eq 22, 3) := by decide +kernel
theorem dX5_fromPlaces_23 : decode cX5_fromPlaces 23 = .ok (.iload_n 1, 1) := by decide +kernel
theorem dX5_fromPlaces_24 : decode cX5_fromPlaces 24 = .ok (.iconst 1, 1) := by decide +kernel
theorem dX5_fromPlaces_25 : decode cX5_fromPlaces 25 = .ok (.iconst 4, 1) := by decide +kernel
theorem dX5_fromPlaces_26 : decode cX5_fromPlaces 26 = .ok (.iload_n 3, 1) := by decide +kernel
theorem dX5_fromPlaces_27 : decode cX5_fromPlaces 27 = .ok (.iconst 1, 1) := by decide +kernel
theorem dX5_fromPlaces_28 : decode cX5_fromPlaces 28 = .ok (.isub, 1) := by decide +kernel
theorem dX5_fromPlaces_29 : decode cX5_fromPlaces 29 = .ok (.imul, 1) := by decide +kernel
theorem dX5_fromPlaces_30 : decode cX5_fromPlaces 30 = .ok (.iload_n 2, 1) := by decide +kernel
theorem dX5_fromPlaces_31 : decode cX5_fromPlaces 31 = .ok (.iadd, 1) := by decide +kernel
theorem dX5_fromPlaces_32 : decode cX5_fromPlaces 32 = .ok (.ishl, 1) := by decide +kernel
theorem dX5_fromPlaces_33 : decode cX5_fromPlaces 33 = .ok (.iconst 1, 1) := by decide +kernel
theorem dX5_fromPlaces_34 : decode cX5_fromPlaces 34 = .ok (.bipush 12, 2) := by decide +kernel
theorem dX5_fromPlaces_36 : decode cX5_fromPlaces 36 = .ok (.iload_n 2, 1) := by decide +kernel
theorem dX5_fromPlaces_37 : decode cX5_fromPlaces 37 = .ok (.iadd, 1) := by decide +kernel
theorem dX5_fromPlaces_38 : decode cX5_fromPlaces 38 = .ok (.ishl, 1) := by decide +kernel
theorem dX5_fromPlaces_39 : decode cX5_fromPlaces 39 = .ok (.ior, 1) := by decide +kernel
theorem dX5_fromPlaces_40 : decode cX5_fromPlaces 40 = .ok (.ior, 1) := by decide +kernel
theorem dX5_fromPlaces_41 : decode cX5_fromPlaces 41 = .ok (.istore_n 1, 1) := by decide +kernel
theorem dX5_fromPlaces_42 : decode cX5_fromPlaces 42 = .ok (.iinc 2 1, 3) := by decide +kernel
theorem dX5_fromPlaces_45 : decode cX5_fromPlaces 45 = .ok (.goto (-41), 3) := by decide +kernel
theorem dX5_fromPlaces_48 : decode cX5_fromPlaces 48 = .ok (.iload_n 1, 1) := by decide +kernel
theorem dX5_fromPlaces_49 : decode cX5_fromPlaces 49 = .ok (.ireturn, 1) := by decide +kernel
theorem dX5_grouped_0 : decode cX5_grouped 0 = .ok (.iload_n 0, 1) := by decide +kernel
theorem dX5_grouped_1 : decode cX5_grouped 1 = .ok (.bipush 15, 2) := by decide +kernel
theorem dX5_grouped_3 : decode cX5_grouped 3 = .ok (.iand, 1) := by decide +kernel
theorem dX5_grouped_4 : decode cX5_grouped 4 = .ok (.ireturn, 1) := by decide +kernel
theorem dX5_begun_0 : decode cX5_begun 0 = .ok (.iload_n 0, 1) := by decide +kernel
theorem dX5_begun_1 : decode cX5_begun 1 = .ok (.iconst 4, 1) := by decide +kernel
theorem dX5_begun_2 : decode cX5_begun 2 = .ok (.ishr, 1) := by decide +kernel
theorem dX5_begun_3 : decode cX5_begun 3 = .ok (.bipush 15, 2) := by decide +kernel
theorem dX5_begun_5 : decode cX5_begun 5 = .ok (.iand, 1) := by decide +kernel
theorem dX5_begun_6 : decode cX5_begun 6 = .ok (.ireturn, 1) := by decide +kernel
theorem dX5_continued_0 : decode cX5_continued 0 = .ok (.iload_n 0, 1) := by decide +kernel
theorem dX5_continued_1 : decode cX5_continued 1 = .ok (.bipush 8, 2) := by decide +kernel
theorem dX5_continued_3 : decode cX5_continued 3 = .ok (.ishr, 1) := by decide +kernel
theorem dX5_continued_4 : decode cX5_continued 4 = .ok (.bipush 15, 2) := by decide +kernel
theorem dX5_continued_6 : decode cX5_continued 6 = .ok (.iand, 1) := by decide +kernel
theorem dX5_continued_7 : decode cX5_continued 7 = .ok (.ireturn, 1) := by decide +kernel
theorem dX5_shown_0 : decode cX5_shown 0 = .ok (.iload_n 0, 1) := by decide +kernel
theorem dX5_shown_1 : decode cX5_shown 1 = .ok (.bipush 12, 2) := by decide +kernel
theorem dX5_shown_3 : decode cX5_shown 3 = .ok (.ishr, 1) := by decide +kernel
theorem dX5_shown_4 : decode cX5_shown 4 = .ok (.bipush 15, 2) := by decide +kernel
theorem dX5_shown_6 : decode cX5_shown 6 = .ok (.iand, 1) := by decide +kernel
theorem dX5_shown_7 : decode cX5_shown 7 = .ok (.ireturn, 1) := by decide +kernel
set_option maxRecDepth 20000 in
theorem ggX5_placeOf_X5_grouped : GoodIn wsX5_placeOf wsX5_grouped := goodIn_r _ [4] (by decide +kernel) (by decide +kernel)
set_option maxRecDepth 20000 in
theorem gX5_placeOf_X5_grouped : GoodIn wsX5_placeOf (va_wsS RX5 15 yX5_grouped wsX5_grouped) := goodIn_app (goodIn_of _ (by decide +kernel)) ggX5_placeOf_X5_grouped
set_option maxRecDepth 20000 in
theorem ggX5_placeOf_X5_begun : GoodIn wsX5_placeOf wsX5_begun := goodIn_r _ [7] (by decide +kernel) (by decide +kernel)
set_option maxRecDepth 20000 in
theorem gX5_placeOf_X5_begun : GoodIn wsX5_placeOf (va_wsS RX5 23 yX5_begun wsX5_begun) := goodIn_app (goodIn_of _ (by decide +kernel)) ggX5_placeOf_X5_begun
set_option maxRecDepth 20000 in
theorem ggX5_placeOf_X5_continued : GoodIn wsX5_placeOf wsX5_continued := goodIn_r _ [10] (by decide +kernel) (by decide +kernel)
set_option maxRecDepth 20000 in
theorem gX5_placeOf_X5_continued : GoodIn wsX5_placeOf (va_wsS RX5 26 yX5_continued wsX5_continued) := goodIn_app (goodIn_of _ (by decide +kernel)) ggX5_placeOf_X5_continued
theorem dX5_placeOf_0 : decode cX5_placeOf 0 = .ok (.iload_n 0, 1) := by decide +kernel
theorem dX5_placeOf_1 : decode cX5_placeOf 1 = .ok (.invokestatic 15, 3) := by decide +kernel
theorem dX5_placeOf_4 : decode cX5_placeOf 4 = .ok (.iload_n 1, 1) := by decide +kernel
theorem dX5_placeOf_5 : decode cX5_placeOf 5 = .ok (.ishr, 1) := by decide +kernel
theorem dX5_placeOf_6 : decode cX5_placeOf 6 = .ok (.iconst 1, 1) := by decide +kernel
theorem dX5_placeOf_7 : decode cX5_placeOf 7 = .ok (.iand, 1) := by decide +kernel
theorem dX5_placeOf_8 : decode cX5_placeOf 8 = .ok (.ifCond .eq 5, 3) := by decide +kernel
theorem dX5_placeOf_11 : decode cX5_placeOf 11 = .ok (.iconst 1, 1) := by decide +kernel
theorem dX5_placeOf_12 : decode cX5_placeOf 12 = .ok (.ireturn, 1) := by decide +kernel
theorem dX5_placeOf_13 : decode cX5_placeOf 13 = .ok (.iload_n 0, 1) := by decide +kernel
theorem dX5_placeOf_14 : decode cX5_placeOf 14 = .ok (.invokestatic 23, 3) := by decide +kernel
theorem dX5_placeOf_17 : decode cX5_placeOf 17 = .ok (.iload_n 1, 1) := by decide +kernel
theorem dX5_placeOf_18 : decode cX5_placeOf 18 = .ok (.ishr, 1) := by decide +kernel
theorem dX5_placeOf_19 : decode cX5_placeOf 19 = .ok (.iconst 1, 1) := by decide +kernel
theorem dX5_placeOf_20 : decode cX5_placeOf 20 = .ok (.iand, 1) := by decide +kernel
theorem dX5_placeOf_21 : decode cX5_placeOf 21 = .ok (.ifCond .eq 5, 3) := by decide +kernel
theorem dX5_placeOf_24 : decode cX5_placeOf 24 = .ok (.iconst 2, 1) := by decide +kernel
theorem dX5_placeOf_25 : decode cX5_placeOf 25 = .ok (.ireturn, 1) := by decide +kernel
theorem dX5_placeOf_26 : decode cX5_placeOf 26 = .ok (.iload_n 0, 1) := by decide +kernel
theorem dX5_placeOf_27 : decode cX5_placeOf 27 = .ok (.invokestatic 26, 3) := by decide +kernel
theorem dX5_placeOf_30 : decode cX5_placeOf 30 = .ok (.iload_n 1, 1) := by decide +kernel
theorem dX5_placeOf_31 : decode cX5_placeOf 31 = .ok (.ishr, 1) := by decide +kernel
theorem dX5_placeOf_32 : decode cX5_placeOf 32 = .ok (.iconst 1, 1) := by decide +kernel
theorem dX5_placeOf_33 : decode cX5_placeOf 33 = .ok (.iand, 1) := by decide +kernel
theorem dX5_placeOf_34 : decode cX5_placeOf 34 = .ok (.ifCond .eq 7, 3) := by decide +kernel
theorem dX5_placeOf_37 : decode cX5_placeOf 37 = .ok (.iconst 3, 1) := by decide +kernel
theorem dX5_placeOf_38 : decode cX5_placeOf 38 = .ok (.goto 4, 3) := by decide +kernel
theorem dX5_placeOf_41 : decode cX5_placeOf 41 = .ok (.iconst 0, 1) := by decide +kernel
theorem dX5_placeOf_42 : decode cX5_placeOf 42 = .ok (.ireturn, 1) := by decide +kernel
