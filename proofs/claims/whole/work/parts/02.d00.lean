theorem dX0_isSet_0 : decode cX0_isSet 0 = .ok (.lload_n 0, 1) := by decide +kernel
theorem dX0_isSet_1 : decode cX0_isSet 1 = .ok (.bipush 54, 2) := by decide +kernel
theorem dX0_isSet_3 : decode cX0_isSet 3 = .ok (.lushr, 1) := by decide +kernel
theorem dX0_isSet_4 : decode cX0_isSet 4 = .ok (.lconst 0, 1) := by decide +kernel
theorem dX0_isSet_5 : decode cX0_isSet 5 = .ok (.lcmp, 1) := by decide +kernel
theorem dX0_isSet_6 : decode cX0_isSet 6 = .ok (.ifCond .ne 7, 3) := by decide +kernel
theorem dX0_isSet_9 : decode cX0_isSet 9 = .ok (.iconst 1, 1) := by decide +kernel
theorem dX0_isSet_10 : decode cX0_isSet 10 = .ok (.goto 4, 3) := by decide +kernel
theorem dX0_isSet_13 : decode cX0_isSet 13 = .ok (.iconst 0, 1) := by decide +kernel
theorem dX0_isSet_14 : decode cX0_isSet 14 = .ok (.ireturn, 1) := by decide +kernel
theorem dX0_worthOfNumber_0 : decode cX0_worthOfNumber 0 = .ok (.iload_n 0, 1) := by decide +kernel
theorem dX0_worthOfNumber_1 : decode cX0_worthOfNumber 1 = .ok (.iconst 1, 1) := by decide +kernel
theorem dX0_worthOfNumber_2 : decode cX0_worthOfNumber 2 = .ok (.iadd, 1) := by decide +kernel
theorem dX0_worthOfNumber_3 : decode cX0_worthOfNumber 3 = .ok (.bipush 10, 2) := by decide +kernel
theorem dX0_worthOfNumber_5 : decode cX0_worthOfNumber 5 = .ok (.invokestatic 9, 3) := by decide +kernel
theorem dX0_worthOfNumber_8 : decode cX0_worthOfNumber 8 = .ok (.ireturn, 1) := by decide +kernel
set_option maxRecDepth 20000 in
theorem ggX0_worthOfSet_X0_jokersIn : GoodIn wsX0_worthOfSet wsX0_jokersIn := goodIn_r _ [4, 5, 6, 7, 8, 9, 10, 11] (by decide +kernel) (by decide +kernel)
set_option maxRecDepth 20000 in
theorem gX0_worthOfSet_X0_jokersIn : GoodIn wsX0_worthOfSet (va_wsS RX0 15 yX0_jokersIn wsX0_jokersIn) := goodIn_app (goodIn_of _ (by decide +kernel)) ggX0_worthOfSet_X0_jokersIn
set_option maxRecDepth 20000 in
theorem ggX0_worthOfSet_X0_worthOfNumber : GoodIn wsX0_worthOfSet wsX0_worthOfNumber := goodIn_r _ [14, 15, 16, 17, 18] (by decide +kernel) (by decide +kernel)
set_option maxRecDepth 20000 in
theorem gX0_worthOfSet_X0_worthOfNumber : GoodIn wsX0_worthOfSet (va_wsS RX0 21 yX0_worthOfNumber wsX0_worthOfNumber) := goodIn_app (goodIn_of _ (by decide +kernel)) ggX0_worthOfSet_X0_worthOfNumber
set_option maxRecDepth 20000 in
theorem ggX0_worthOfSet_X0_coloursOf : GoodIn wsX0_worthOfSet wsX0_coloursOf := goodIn_r _ [21] (by decide +kernel) (by decide +kernel)
set_option maxRecDepth 20000 in
theorem gX0_worthOfSet_X0_coloursOf : GoodIn wsX0_worthOfSet (va_wsS RX0 25 yX0_coloursOf wsX0_coloursOf) := goodIn_app (goodIn_of _ (by decide +kernel)) ggX0_worthOfSet_X0_coloursOf
set_option maxRecDepth 20000 in
theorem ggX0_worthOfSet_J6_bitCount_0f7a4 : GoodIn wsX0_worthOfSet wsJ6_bitCount_0f7a4 := goodIn_r _ [25, 26, 27, 28] (by decide +kernel) (by decide +kernel)
set_option maxRecDepth 20000 in
theorem gX0_worthOfSet_J6_bitCount_0f7a4 : GoodIn wsX0_worthOfSet (va_wsS RX0 29 yJ6_bitCount_0f7a4 wsJ6_bitCount_0f7a4) := goodIn_app (goodIn_of _ (by decide +kernel)) ggX0_worthOfSet_J6_bitCount_0f7a4
theorem dX0_worthOfSet_0 : decode cX0_worthOfSet 0 = .ok (.bipush 20, 2) := by decide +kernel
theorem dX0_worthOfSet_2 : decode cX0_worthOfSet 2 = .ok (.lload_n 0, 1) := by decide +kernel
theorem dX0_worthOfSet_3 : decode cX0_worthOfSet 3 = .ok (.invokestatic 15, 3) := by decide +kernel
theorem dX0_worthOfSet_6 : decode cX0_worthOfSet 6 = .ok (.imul, 1) := by decide +kernel
theorem dX0_worthOfSet_7 : decode cX0_worthOfSet 7 = .ok (.istore_n 2, 1) := by decide +kernel
theorem dX0_worthOfSet_8 : decode cX0_worthOfSet 8 = .ok (.iconst 0, 1) := by decide +kernel
theorem dX0_worthOfSet_9 : decode cX0_worthOfSet 9 = .ok (.istore_n 3, 1) := by decide +kernel
theorem dX0_worthOfSet_10 : decode cX0_worthOfSet 10 = .ok (.iload_n 3, 1) := by decide +kernel
theorem dX0_worthOfSet_11 : decode cX0_worthOfSet 11 = .ok (.bipush 13, 2) := by decide +kernel
theorem dX0_worthOfSet_13 : decode cX0_worthOfSet 13 = .ok (.if_icmp .ge 25, 3) := by decide +kernel
theorem dX0_worthOfSet_16 : decode cX0_worthOfSet 16 = .ok (.iload_n 2, 1) := by decide +kernel
theorem dX0_worthOfSet_17 : decode cX0_worthOfSet 17 = .ok (.iload_n 3, 1) := by decide +kernel
theorem dX0_worthOfSet_18 : decode cX0_worthOfSet 18 = .ok (.invokestatic 21, 3) := by decide +kernel
theorem dX0_worthOfSet_21 : decode cX0_worthOfSet 21 = .ok (.lload_n 0, 1) := by decide +kernel
theorem dX0_worthOfSet_22 : decode cX0_worthOfSet 22 = .ok (.iload_n 3, 1) := by decide +kernel
theorem dX0_worthOfSet_23 : decode cX0_worthOfSet 23 = .ok (.invokestatic 25, 3) := by decide +kernel
theorem dX0_worthOfSet_26 : decode cX0_worthOfSet 26 = .ok (.invokestatic 29, 3) := by decide +kernel
theorem dX0_worthOfSet_29 : decode cX0_worthOfSet 29 = .ok (.imul, 1) := by decide +kernel
theorem dX0_worthOfSet_30 : decode cX0_worthOfSet 30 = .ok (.iadd, 1) := by decide +kernel
theorem dX0_worthOfSet_31 : decode cX0_worthOfSet 31 = .ok (.istore_n 2, 1) := by decide +kernel
theorem dX0_worthOfSet_32 : decode cX0_worthOfSet 32 = .ok (.iinc 3 1, 3) := by decide +kernel
theorem dX0_worthOfSet_35 : decode cX0_worthOfSet 35 = .ok (.goto (-25), 3) := by decide +kernel
theorem dX0_worthOfSet_38 : decode cX0_worthOfSet 38 = .ok (.iload_n 2, 1) := by decide +kernel
theorem dX0_worthOfSet_39 : decode cX0_worthOfSet 39 = .ok (.ireturn, 1) := by decide +kernel
set_option maxRecDepth 20000 in
theorem ggX0_jokersIn_J13_bitCount_95d88 : GoodIn wsX0_jokersIn wsJ13_bitCount_95d88 := goodIn_r _ [4, 5, 6, 7] (by decide +kernel) (by decide +kernel)
set_option maxRecDepth 20000 in
theorem gX0_jokersIn_J13_bitCount_95d88 : GoodIn wsX0_jokersIn (va_wsS RX0 34 yJ13_bitCount_95d88 wsJ13_bitCount_95d88) := goodIn_app (goodIn_of _ (by decide +kernel)) ggX0_jokersIn_J13_bitCount_95d88
theorem dX0_jokersIn_0 : decode cX0_jokersIn 0 = .ok (.lload_n 0, 1) := by decide +kernel
theorem dX0_jokersIn_1 : decode cX0_jokersIn 1 = .ok (.bipush 52, 2) := by decide +kernel
theorem dX0_jokersIn_3 : decode cX0_jokersIn 3 = .ok (.lushr, 1) := by decide +kernel
theorem dX0_jokersIn_4 : decode cX0_jokersIn 4 = .ok (.invokestatic 34, 3) := by decide +kernel
theorem dX0_jokersIn_7 : decode cX0_jokersIn 7 = .ok (.ireturn, 1) := by decide +kernel
theorem dX0_coloursOf_0 : decode cX0_coloursOf 0 = .ok (.lload_n 0, 1) := by decide +kernel
theorem dX0_coloursOf_1 : decode cX0_coloursOf 1 = .ok (.iconst 4, 1) := by decide +kernel
theorem dX0_coloursOf_2 : decode cX0_coloursOf 2 = .ok (.iload_n 2, 1) := by decide +kernel
theorem dX0_coloursOf_3 : decode cX0_coloursOf 3 = .ok (.imul, 1) := by decide +kernel
theorem dX0_coloursOf_4 : decode cX0_coloursOf 4 = .ok (.lushr, 1) := by decide +kernel
theorem dX0_coloursOf_5 : decode cX0_coloursOf 5 = .ok (.l2i, 1) := by decide +kernel
theorem dX0_coloursOf_6 : decode cX0_coloursOf 6 = .ok (.bipush 15, 2) := by decide +kernel
theorem dX0_coloursOf_8 : decode cX0_coloursOf 8 = .ok (.iand, 1) := by decide +kernel
theorem dX0_coloursOf_9 : decode cX0_coloursOf 9 = .ok (.ireturn, 1) := by decide +kernel
theorem dX1_init_0 : decode cX1_init 0 = .ok (.aload_n 0, 1) := by decide +kernel
theorem dX1_init_1 : decode cX1_init 1 = .ok (.invokespecial 3, 3) := by decide +kernel
theorem dX1_init_4 : decode cX1_init 4 = .ok (.aload_n 0, 1) := by decide +kernel
theorem dX1_init_5 : decode cX1_init 5 = .ok (.iconst 4, 1) := by decide +kernel
theorem dX1_init_6 : decode cX1_init 6 = .ok (.newarray .long, 2) := by decide +kernel
theorem dX1_init_8 : decode cX1_init 8 = .ok (.putfield 9, 3) := by decide +kernel
theorem dX1_init_11 : decode cX1_init 11 = .ok (.aload_n 0, 1) := by decide +kernel
theorem dX1_init_12 : decode cX1_init 12 = .ok (.iconst 4, 1) := by decide +kernel
theorem dX1_init_13 : decode cX1_init 13 = .ok (.newarray .boolean, 2) := by decide +kernel
theorem dX1_init_15 : decode cX1_init 15 = .ok (.putfield 15, 3) := by decide +kernel
theorem dX1_init_18 : decode cX1_init 18 = .ok (.aload_n 0, 1) := by decide +kernel
theorem dX1_init_19 : decode cX1_init 19 = .ok (.bipush 54, 2) := by decide +kernel
theorem dX1_init_21 : decode cX1_init 21 = .ok (.newarray .int, 2) := by decide +kernel
theorem dX1_init_23 : decode cX1_init 23 = .ok (.putfield 19, 3) := by decide +kernel
theorem dX1_init_26 : decode cX1_init 26 = .ok (.return_, 1) := by decide +kernel
set_option maxRecDepth 20000 in
theorem ggX1_begin_X1_shuffle : GoodIn wsX1_begin wsX1_shuffle := goodIn_r _ [20, 21, 22, 23, 31, 32, 33, 34, 35, 36, 37, 38, 39, 40, 41, 42] (by decide +kernel) (by decide +kernel)
set_option maxRecDepth 20000 in
theorem gX1_begin_X1_shuffle : GoodIn wsX1_begin (wsV RX1 23 RX1 yX1_shuffle wsX1_shuffle) := goodIn_app (goodIn_of _ (by decide +kernel)) ggX1_begin_X1_shuffle
set_option maxRecDepth 20000 in
theorem ggX1_begin_X1_drawn : GoodIn wsX1_begin wsX1_drawn := goodIn_r _ [27, 6, 21, 31, 32, 33, 34, 35, 36, 37, 38, 39, 40, 41, 42] (by decide +kernel) (by decide +kernel)
set_option maxRecDepth 20000 in
theorem gX1_begin_X1_drawn : GoodIn wsX1_begin (wsV RX1 40 RX1 yX1_drawn wsX1_drawn) := goodIn_app (goodIn_of _ (by decide +kernel)) ggX1_begin_X1_drawn
set_option maxRecDepth 20000 in
theorem ggX1_begin_X1_bitOf : GoodIn wsX1_begin wsX1_bitOf := goodIn_r _ [30] (by decide +kernel) (by decide +kernel)
set_option maxRecDepth 20000 in
theorem gX1_begin_X1_bitOf : GoodIn wsX1_begin (va_wsS RX1 44 yX1_bitOf wsX1_bitOf) := goodIn_app (goodIn_of _ (by decide +kernel)) ggX1_begin_X1_bitOf
theorem dX1_begin_0 : decode cX1_begin 0 = .ok (.aload_n 0, 1) := by decide +kernel
theorem dX1_begin_1 : decode cX1_begin 1 = .ok (.iload_n 3, 1) := by decide +kernel
theorem dX1_begin_2 : decode cX1_begin 2 = .ok (.invokevirtual 23, 3) := by decide +kernel
theorem dX1_begin_5 : decode cX1_begin 5 = .ok (.aload_n 0, 1) := by decide +kernel
theorem dX1_begin_6 : decode cX1_begin 6 = .ok (.iload_n 1, 1) := by decide +kernel
theorem dX1_begin_7 : decode cX1_begin 7 = .ok (.iconst 4, 1) := by decide +kernel
theorem dX1_begin_8 : decode cX1_begin 8 = .ok (.invokestatic 27, 3) := by decide +kernel
theorem dX1_begin_11 : decode cX1_begin 11 = .ok (.putfield 33, 3) := by decide +kernel
theorem dX1_begin_14 : decode cX1_begin 14 = .ok (.aload_n 0, 1) := by decide +kernel
theorem dX1_begin_15 : decode cX1_begin 15 = .ok (.iconst 0, 1) := by decide +kernel
theorem dX1_begin_16 : decode cX1_begin 16 = .ok (.putfield 37, 3) := by decide +kernel
theorem dX1_begin_19 : decode cX1_begin 19 = .ok (.iconst 0, 1) := by decide +kernel
theorem dX1_begin_20 : decode cX1_begin 20 = .ok (.istore 4, 2) := by decide +kernel
theorem dX1_begin_22 : decode cX1_begin 22 = .ok (.iload 4, 2) := by decide +kernel
theorem dX1_begin_24 : decode cX1_begin 24 = .ok (.iconst 4, 1) := by decide +kernel
theorem dX1_begin_25 : decode cX1_begin 25 = .ok (.if_icmp .ge 66, 3) := by decide +kernel
theorem dX1_begin_28 : decode cX1_begin 28 = .ok (.aload_n 0, 1) := by decide +kernel
theorem dX1_begin_29 : decode cX1_begin 29 = .ok (.getfield 15, 3) := by decide +kernel
theorem dX1_begin_32 : decode cX1_begin 32 = .ok (.iload 4, 2) := by decide +kernel
theorem dX1_begin_34 : decode cX1_begin 34 = .ok (.iconst 0, 1) := by decide +kernel
theorem dX1_begin_35 : decode cX1_begin 35 = .ok (.bastore, 1) := by decide +kernel
theorem dX1_begin_36 : decode cX1_begin 36 = .ok (.aload_n 0, 1) := by decide +kernel
theorem dX1_begin_37 : decode cX1_begin 37 = .ok (.getfield 9, 3) := by decide +kernel
theorem dX1_begin_40 : decode cX1_begin 40 = .ok (.iload 4, 2) := by decide +kernel
theorem dX1_begin_42 : decode cX1_begin 42 = .ok (.lconst 0, 1) := by decide +kernel
theorem dX1_begin_43 : decode cX1_begin 43 = .ok (.lastore, 1) := by decide +kernel
theorem dX1_begin_44 : decode cX1_begin 44 = .ok (.iconst 0, 1) := by decide +kernel
theorem dX1_begin_45 : decode cX1_begin 45 = .ok (.istore 5, 2) := by decide +kernel
theorem dX1_begin_47 : decode cX1_begin 47 = .ok (.iload 5, 2) := by decide +kernel
theorem dX1_begin_49 : decode cX1_begin 49 = .ok (.iload_n 2, 1) := by decide +kernel
theorem dX1_begin_50 : decode cX1_begin 50 = .ok (.if_icmp .ge 35, 3) := by decide +kernel
theorem dX1_begin_53 : decode cX1_begin 53 = .ok (.iload 4, 2) := by decide +kernel
theorem dX1_begin_55 : decode cX1_begin 55 = .ok (.aload_n 0, 1) := by decide +kernel
theorem dX1_begin_56 : decode cX1_begin 56 = .ok (.getfield 33, 3) := by decide +kernel
theorem dX1_begin_59 : decode cX1_begin 59 = .ok (.if_icmp .ge 26, 3) := by decide +kernel
theorem dX1_begin_62 : decode cX1_begin 62 = .ok (.aload_n 0, 1) := by decide +kernel
theorem dX1_begin_63 : decode cX1_begin 63 = .ok (.getfield 9, 3) := by decide +kernel
theorem dX1_begin_66 : decode cX1_begin 66 = .ok (.iload 4, 2) := by decide +kernel
theorem dX1_begin_68 : decode cX1_begin 68 = .ok (.dup2, 1) := by decide +kernel
theorem dX1_begin_69 : decode cX1_begin 69 = .ok (.laload, 1) := by decide +kernel
theorem dX1_begin_70 : decode cX1_begin 70 = .ok (.aload_n 0, 1) := by decide +kernel
theorem dX1_begin_71 : decode cX1_begin 71 = .ok (.invokevirtual 40, 3) := by decide +kernel
theorem dX1_begin_74 : decode cX1_begin 74 = .ok (.invokestatic 44, 3) := by decide +kernel
theorem dX1_begin_77 : decode cX1_begin 77 = .ok (.lor, 1) := by decide +kernel
theorem dX1_begin_78 : decode cX1_begin 78 = .ok (.lastore, 1) := by decide +kernel
theorem dX1_begin_79 : decode cX1_begin 79 = .ok (.iinc 5 1, 3) := by decide +kernel
theorem dX1_begin_82 : decode cX1_begin 82 = .ok (.goto (-35), 3) := by decide +kernel
theorem dX1_begin_85 : decode cX1_begin 85 = .ok (.iinc 4 1, 3) := by decide +kernel
theorem dX1_begin_88 : decode cX1_begin 88 = .ok (.goto (-66), 3) := by decide +kernel
theorem dX1_begin_91 : decode cX1_begin 91 = .ok (.aload_n 0, 1) := by decide +kernel
theorem dX1_begin_92 : decode cX1_begin 92 = .ok (.lconst 0, 1) := by decide +kernel
theorem dX1_begin_93 : decode cX1_begin 93 = .ok (.putfield 48, 3) := by decide +kernel
theorem dX1_begin_96 : decode cX1_begin 96 = .ok (.aload_n 0, 1) := by decide +kernel
theorem dX1_begin_97 : decode cX1_begin 97 = .ok (.iconst 0, 1) := by decide +kernel
theorem dX1_begin_98 : decode cX1_begin 98 = .ok (.putfield 52, 3) := by decide +kernel
theorem dX1_begin_101 : decode cX1_begin 101 = .ok (.aload_n 0, 1) := by decide +kernel
theorem dX1_begin_102 : decode cX1_begin 102 = .ok (.iconst 0, 1) := by decide +kernel
theorem dX1_begin_103 : decode cX1_begin 103 = .ok (.putfield 55, 3) := by decide +kernel
theorem dX1_begin_106 : decode cX1_begin 106 = .ok (.aload_n 0, 1) := by decide +kernel
theorem dX1_begin_107 : decode cX1_begin 107 = .ok (.iconst 0, 1) := by decide +kernel
theorem dX1_begin_108 : decode cX1_begin 108 = .ok (.putfield 58, 3) := by decide +kernel
theorem dX1_begin_111 : decode cX1_begin 111 = .ok (.aload_n 0, 1) := by decide +kernel
theorem dX1_begin_112 : decode cX1_begin 112 = .ok (.iconst 0, 1) := by decide +kernel
theorem dX1_begin_113 : decode cX1_begin 113 = .ok (.putfield 61, 3) := by decide +kernel
theorem dX1_begin_116 : decode cX1_begin 116 = .ok (.aload_n 0, 1) := by decide +kernel
theorem dX1_begin_117 : decode cX1_begin 117 = .ok (.iconst 0, 1) := by decide +kernel
theorem dX1_begin_118 : decode cX1_begin 118 = .ok (.putfield 64, 3) := by decide +kernel
theorem dX1_begin_121 : decode cX1_begin 121 = .ok (.aload_n 0, 1) := by decide +kernel
theorem dX1_begin_122 : decode cX1_begin 122 = .ok (.iconst (-1), 1) := by decide +kernel
theorem dX1_begin_123 : decode cX1_begin 123 = .ok (.putfield 68, 3) := by decide +kernel
theorem dX1_begin_126 : decode cX1_begin 126 = .ok (.return_, 1) := by decide +kernel
theorem dX1_shuffle_0 : decode cX1_shuffle 0 = .ok (.iconst 0, 1) := by decide +kernel
theorem dX1_shuffle_1 : decode cX1_shuffle 1 = .ok (.istore_n 2, 1) := by decide +kernel
theorem dX1_shuffle_2 : decode cX1_shuffle 2 = .ok (.iload_n 2, 1) := by decide +kernel
theorem dX1_shuffle_3 : decode cX1_shuffle 3 = .ok (.bipush 54, 2) := by decide +kernel
theorem dX1_shuffle_5 : decode cX1_shuffle 5 = .ok (.if_icmp .ge 16, 3) := by decide +kernel
theorem dX1_shuffle_8 : decode cX1_shuffle 8 = .ok (.aload_n 0, 1) := by decide +kernel
theorem dX1_shuffle_9 : decode cX1_shuffle 9 = .ok (.getfield 19, 3) := by decide +kernel
theorem dX1_shuffle_12 : decode cX1_shuffle 12 = .ok (.iload_n 2, 1) := by decide +kernel
theorem dX1_shuffle_13 : decode cX1_shuffle 13 = .ok (.iload_n 2, 1) := by decide +kernel
theorem dX1_shuffle_14 : decode cX1_shuffle 14 = .ok (.iastore, 1) := by decide +kernel
theorem dX1_shuffle_15 : decode cX1_shuffle 15 = .ok (.iinc 2 1, 3) := by decide +kernel
theorem dX1_shuffle_18 : decode cX1_shuffle 18 = .ok (.goto (-16), 3) := by decide +kernel
theorem dX1_shuffle_21 : decode cX1_shuffle 21 = .ok (.iload_n 1, 1) := by decide +kernel
theorem dX1_shuffle_22 : decode cX1_shuffle 22 = .ok (.i2l, 1) := by decide +kernel
theorem dX1_shuffle_23 : decode cX1_shuffle 23 = .ok (.lstore_n 2, 1) := by decide +kernel
theorem dX1_shuffle_24 : decode cX1_shuffle 24 = .ok (.bipush 53, 2) := by decide +kernel
theorem dX1_shuffle_26 : decode cX1_shuffle 26 = .ok (.istore 4, 2) := by decide +kernel
theorem dX1_shuffle_28 : decode cX1_shuffle 28 = .ok (.iload 4, 2) := by decide +kernel
theorem dX1_shuffle_30 : decode cX1_shuffle 30 = .ok (.iconst 1, 1) := by decide +kernel
theorem dX1_shuffle_31 : decode cX1_shuffle 31 = .ok (.if_icmp .lt 61, 3) := by decide +kernel
theorem dX1_shuffle_34 : decode cX1_shuffle 34 = .ok (.ldc2_w 71, 3) := by decide +kernel
theorem dX1_shuffle_37 : decode cX1_shuffle 37 = .ok (.lload_n 2, 1) := by decide +kernel
theorem dX1_shuffle_38 : decode cX1_shuffle 38 = .ok (.lmul, 1) := by decide +kernel
theorem dX1_shuffle_39 : decode cX1_shuffle 39 = .ok (.ldc2_w 73, 3) := by decide +kernel
theorem dX1_shuffle_42 : decode cX1_shuffle 42 = .ok (.lrem, 1) := by decide +kernel
theorem dX1_shuffle_43 : decode cX1_shuffle 43 = .ok (.lstore_n 2, 1) := by decide +kernel
theorem dX1_shuffle_44 : decode cX1_shuffle 44 = .ok (.lload_n 2, 1) := by decide +kernel
theorem dX1_shuffle_45 : decode cX1_shuffle 45 = .ok (.iload 4, 2) := by decide +kernel
theorem dX1_shuffle_47 : decode cX1_shuffle 47 = .ok (.iconst 1, 1) := by decide +kernel
theorem dX1_shuffle_48 : decode cX1_shuffle 48 = .ok (.iadd, 1) := by decide +kernel
theorem dX1_shuffle_49 : decode cX1_shuffle 49 = .ok (.i2l, 1) := by decide +kernel
theorem dX1_shuffle_50 : decode cX1_shuffle 50 = .ok (.lrem, 1) := by decide +kernel
theorem dX1_shuffle_51 : decode cX1_shuffle 51 = .ok (.l2i, 1) := by decide +kernel
theorem dX1_shuffle_52 : decode cX1_shuffle 52 = .ok (.istore 5, 2) := by decide +kernel
theorem dX1_shuffle_54 : decode cX1_shuffle 54 = .ok (.aload_n 0, 1) := by decide +kernel
theorem dX1_shuffle_55 : decode cX1_shuffle 55 = .ok (.getfield 19, 3) := by decide +kernel
theorem dX1_shuffle_58 : decode cX1_shuffle 58 = .ok (.iload 4, 2) := by decide +kernel
theorem dX1_shuffle_60 : decode cX1_shuffle 60 = .ok (.iaload, 1) := by decide +kernel
theorem dX1_shuffle_61 : decode cX1_shuffle 61 = .ok (.istore 6, 2) := by decide +kernel
theorem dX1_shuffle_63 : decode cX1_shuffle 63 = .ok (.aload_n 0, 1) := by decide +kernel
theorem dX1_shuffle_64 : decode cX1_shuffle 64 = .ok (.getfield 19, 3) := by decide +kernel
theorem dX1_shuffle_67 : decode cX1_shuffle 67 = .ok (.iload 4, 2) := by decide +kernel
theorem dX1_shuffle_69 : decode cX1_shuffle 69 = .ok (.aload_n 0, 1) := by decide +kernel
theorem dX1_shuffle_70 : decode cX1_shuffle 70 = .ok (.getfield 19, 3) := by decide +kernel
theorem dX1_shuffle_73 : decode cX1_shuffle 73 = .ok (.iload 5, 2) := by decide +kernel
theorem dX1_shuffle_75 : decode cX1_shuffle 75 = .ok (.iaload, 1) := by decide +kernel
theorem dX1_shuffle_76 : decode cX1_shuffle 76 = .ok (.iastore, 1) := by decide +kernel
theorem dX1_shuffle_77 : decode cX1_shuffle 77 = .ok (.aload_n 0, 1) := by decide +kernel
theorem dX1_shuffle_78 : decode cX1_shuffle 78 = .ok (.getfield 19, 3) := by decide +kernel
theorem dX1_shuffle_81 : decode cX1_shuffle 81 = .ok (.iload 5, 2) := by decide +kernel
theorem dX1_shuffle_83 : decode cX1_shuffle 83 = .ok (.iload 6, 2) := by decide +kernel
theorem dX1_shuffle_85 : decode cX1_shuffle 85 = .ok (.iastore, 1) := by decide +kernel
theorem dX1_shuffle_86 : decode cX1_shuffle 86 = .ok (.iinc 4 (-1), 3) := by decide +kernel
theorem dX1_shuffle_89 : decode cX1_shuffle 89 = .ok (.goto (-61), 3) := by decide +kernel
theorem dX1_shuffle_92 : decode cX1_shuffle 92 = .ok (.return_, 1) := by decide +kernel
theorem dX1_drawn_0 : decode cX1_drawn 0 = .ok (.aload_n 0, 1) := by decide +kernel
theorem dX1_drawn_1 : decode cX1_drawn 1 = .ok (.getfield 37, 3) := by decide +kernel
theorem dX1_drawn_4 : decode cX1_drawn 4 = .ok (.ifCond .lt 12, 3) := by decide +kernel
theorem dX1_drawn_7 : decode cX1_drawn 7 = .ok (.aload_n 0, 1) := by decide +kernel
theorem dX1_drawn_8 : decode cX1_drawn 8 = .ok (.getfield 37, 3) := by decide +kernel
theorem dX1_drawn_11 : decode cX1_drawn 11 = .ok (.bipush 54, 2) := by decide +kernel
theorem dX1_drawn_13 : decode cX1_drawn 13 = .ok (.if_icmp .lt 6, 3) := by decide +kernel
theorem dX1_drawn_16 : decode cX1_drawn 16 = .ok (.bipush 54, 2) := by decide +kernel
theorem dX1_drawn_18 : decode cX1_drawn 18 = .ok (.ireturn, 1) := by decide +kernel
theorem dX1_drawn_19 : decode cX1_drawn 19 = .ok (.aload_n 0, 1) := by decide +kernel
theorem dX1_drawn_20 : decode cX1_drawn 20 = .ok (.getfield 19, 3) := by decide +kernel
theorem dX1_drawn_23 : decode cX1_drawn 23 = .ok (.aload_n 0, 1) := by decide +kernel
theorem dX1_drawn_24 : decode cX1_drawn 24 = .ok (.getfield 37, 3) := by decide +kernel
theorem dX1_drawn_27 : decode cX1_drawn 27 = .ok (.iaload, 1) := by decide +kernel
theorem dX1_drawn_28 : decode cX1_drawn 28 = .ok (.istore_n 1, 1) := by decide +kernel
theorem dX1_drawn_29 : decode cX1_drawn 29 = .ok (.aload_n 0, 1) := by decide +kernel
theorem dX1_drawn_30 : decode cX1_drawn 30 = .ok (.dup, 1) := by decide +kernel
theorem dX1_drawn_31 : decode cX1_drawn 31 = .ok (.getfield 37, 3) := by decide +kernel
theorem dX1_drawn_34 : decode cX1_drawn 34 = .ok (.iconst 1, 1) := by decide +kernel
theorem dX1_drawn_35 : decode cX1_drawn 35 = .ok (.iadd, 1) := by decide +kernel
theorem dX1_drawn_36 : decode cX1_drawn 36 = .ok (.putfield 37, 3) := by decide +kernel
theorem dX1_drawn_39 : decode cX1_drawn 39 = .ok (.iload_n 1, 1) := by decide +kernel
theorem dX1_drawn_40 : decode cX1_drawn 40 = .ok (.ireturn, 1) := by decide +kernel
theorem dX1_bitOf_0 : decode cX1_bitOf 0 = .ok (.iload_n 0, 1) := by decide +kernel
theorem dX1_bitOf_1 : decode cX1_bitOf 1 = .ok (.ifCond .lt 15, 3) := by decide +kernel
theorem dX1_bitOf_4 : decode cX1_bitOf 4 = .ok (.iload_n 0, 1) := by decide +kernel
theorem dX1_bitOf_5 : decode cX1_bitOf 5 = .ok (.bipush 54, 2) := by decide +kernel
theorem dX1_bitOf_7 : decode cX1_bitOf 7 = .ok (.if_icmp .ge 9, 3) := by decide +kernel
theorem dX1_bitOf_10 : decode cX1_bitOf 10 = .ok (.lconst 1, 1) := by decide +kernel
theorem dX1_bitOf_11 : decode cX1_bitOf 11 = .ok (.iload_n 0, 1) := by decide +kernel
theorem dX1_bitOf_12 : decode cX1_bitOf 12 = .ok (.lshl, 1) := by decide +kernel
theorem dX1_bitOf_13 : decode cX1_bitOf 13 = .ok (.goto 4, 3) := by decide +kernel
theorem dX1_bitOf_16 : decode cX1_bitOf 16 = .ok (.lconst 0, 1) := by decide +kernel
theorem dX1_bitOf_17 : decode cX1_bitOf 17 = .ok (.lreturn, 1) := by decide +kernel
theorem dX1_isDealt_0 : decode cX1_isDealt 0 = .ok (.aload_n 0, 1) := by decide +kernel
theorem dX1_isDealt_1 : decode cX1_isDealt 1 = .ok (.getfield 33, 3) := by decide +kernel
theorem dX1_isDealt_4 : decode cX1_isDealt 4 = .ok (.ifCond .le 7, 3) := by decide +kernel
theorem dX1_isDealt_7 : decode cX1_isDealt 7 = .ok (.iconst 1, 1) := by decide +kernel
theorem dX1_isDealt_8 : decode cX1_isDealt 8 = .ok (.goto 4, 3) := by decide +kernel
theorem dX1_isDealt_11 : decode cX1_isDealt 11 = .ok (.iconst 0, 1) := by decide +kernel
theorem dX1_isDealt_12 : decode cX1_isDealt 12 = .ok (.ireturn, 1) := by decide +kernel
theorem dX1_has_0 : decode cX1_has 0 = .ok (.iload_n 1, 1) := by decide +kernel
theorem dX1_has_1 : decode cX1_has 1 = .ok (.ifCond .lt 20, 3) := by decide +kernel
theorem dX1_has_4 : decode cX1_has 4 = .ok (.iload_n 1, 1) := by decide +kernel
theorem dX1_has_5 : decode cX1_has 5 = .ok (.aload_n 0, 1) := by decide +kernel
theorem dX1_has_6 : decode cX1_has 6 = .ok (.getfield 33, 3) := by decide +kernel
theorem dX1_has_9 : decode cX1_has 9 = .ok (.if_icmp .ge 12, 3) := by decide +kernel
theorem dX1_has_12 : decode cX1_has 12 = .ok (.iload_n 1, 1) := by decide +kernel
theorem dX1_has_13 : decode cX1_has 13 = .ok (.iconst 4, 1) := by decide +kernel
theorem dX1_has_14 : decode cX1_has 14 = .ok (.if_icmp .ge 7, 3) := by decide +kernel
theorem dX1_has_17 : decode cX1_has 17 = .ok (.iconst 1, 1) := by decide +kernel
theorem dX1_has_18 : decode cX1_has 18 = .ok (.goto 4, 3) := by decide +kernel
theorem dX1_has_21 : decode cX1_has 21 = .ok (.iconst 0, 1) := by decide +kernel
theorem dX1_has_22 : decode cX1_has 22 = .ok (.ireturn, 1) := by decide +kernel
set_option maxRecDepth 20000 in
theorem ggX1_handOf_X1_has : GoodIn wsX1_handOf wsX1_has := goodIn_r _ [6, 7, 8, 9, 10, 11, 12, 13, 14, 15, 16, 17, 18, 19] (by decide +kernel) (by decide +kernel)
set_option maxRecDepth 20000 in
theorem gX1_handOf_X1_has : GoodIn wsX1_handOf (wsV RX1 75 RX1 yX1_has wsX1_has) := goodIn_app (goodIn_of _ (by decide +kernel)) ggX1_handOf_X1_has
theorem dX1_handOf_0 : decode cX1_handOf 0 = .ok (.aload_n 0, 1) := by decide +kernel
theorem dX1_handOf_1 : decode cX1_handOf 1 = .ok (.iload_n 1, 1) := by decide +kernel
theorem dX1_handOf_2 : decode cX1_handOf 2 = .ok (.invokevirtual 75, 3) := by decide +kernel
theorem dX1_handOf_5 : decode cX1_handOf 5 = .ok (.ifCond .eq 12, 3) := by decide +kernel
theorem dX1_handOf_8 : decode cX1_handOf 8 = .ok (.aload_n 0, 1) := by decide +kernel
theorem dX1_handOf_9 : decode cX1_handOf 9 = .ok (.getfield 9, 3) := by decide +kernel
theorem dX1_handOf_12 : decode cX1_handOf 12 = .ok (.iload_n 1, 1) := by decide +kernel
theorem dX1_handOf_13 : decode cX1_handOf 13 = .ok (.laload, 1) := by decide +kernel
theorem dX1_handOf_14 : decode cX1_handOf 14 = .ok (.goto 4, 3) := by decide +kernel
theorem dX1_handOf_17 : decode cX1_handOf 17 = .ok (.lconst 0, 1) := by decide +kernel
theorem dX1_handOf_18 : decode cX1_handOf 18 = .ok (.lreturn, 1) := by decide +kernel
set_option maxRecDepth 20000 in
theorem ggX1_hasOpened_X1_has : GoodIn wsX1_hasOpened wsX1_has := goodIn_r _ [6, 7, 8, 9, 10, 11, 12, 13, 14, 15, 16, 17, 18, 19] (by decide +kernel) (by decide +kernel)
set_option maxRecDepth 20000 in
theorem gX1_hasOpened_X1_has : GoodIn wsX1_hasOpened (wsV RX1 75 RX1 yX1_has wsX1_has) := goodIn_app (goodIn_of _ (by decide +kernel)) ggX1_hasOpened_X1_has
theorem dX1_hasOpened_0 : decode cX1_hasOpened 0 = .ok (.aload_n 0, 1) := by decide +kernel
theorem dX1_hasOpened_1 : decode cX1_hasOpened 1 = .ok (.iload_n 1, 1) := by decide +kernel
theorem dX1_hasOpened_2 : decode cX1_hasOpened 2 = .ok (.invokevirtual 75, 3) := by decide +kernel
theorem dX1_hasOpened_5 : decode cX1_hasOpened 5 = .ok (.ifCond .eq 16, 3) := by decide +kernel
theorem dX1_hasOpened_8 : decode cX1_hasOpened 8 = .ok (.aload_n 0, 1) := by decide +kernel
theorem dX1_hasOpened_9 : decode cX1_hasOpened 9 = .ok (.getfield 15, 3) := by decide +kernel
theorem dX1_hasOpened_12 : decode cX1_hasOpened 12 = .ok (.iload_n 1, 1) := by decide +kernel
theorem dX1_hasOpened_13 : decode cX1_hasOpened 13 = .ok (.baload, 1) := by decide +kernel
theorem dX1_hasOpened_14 : decode cX1_hasOpened 14 = .ok (.ifCond .eq 7, 3) := by decide +kernel
theorem dX1_hasOpened_17 : decode cX1_hasOpened 17 = .ok (.iconst 1, 1) := by decide +kernel
theorem dX1_hasOpened_18 : decode cX1_hasOpened 18 = .ok (.goto 4, 3) := by decide +kernel
theorem dX1_hasOpened_21 : decode cX1_hasOpened 21 = .ok (.iconst 0, 1) := by decide +kernel
theorem dX1_hasOpened_22 : decode cX1_hasOpened 22 = .ok (.ireturn, 1) := by decide +kernel
theorem dX1_fact_0 : decode cX1_fact 0 = .ok (.iload_n 1, 1) := by decide +kernel
theorem dX1_fact_1 : decode cX1_fact 1 = .ok (.tableswitch 80 0 5 #[39, 44, 52, 65, 70, 75], 39) := by decide +kernel
theorem dX1_fact_40 : decode cX1_fact 40 = .ok (.aload_n 0, 1) := by decide +kernel
theorem dX1_fact_41 : decode cX1_fact 41 = .ok (.getfield 52, 3) := by decide +kernel
theorem dX1_fact_44 : decode cX1_fact 44 = .ok (.ireturn, 1) := by decide +kernel
theorem dX1_fact_45 : decode cX1_fact 45 = .ok (.bipush 54, 2) := by decide +kernel
theorem dX1_fact_47 : decode cX1_fact 47 = .ok (.aload_n 0, 1) := by decide +kernel
theorem dX1_fact_48 : decode cX1_fact 48 = .ok (.getfield 37, 3) := by decide +kernel
theorem dX1_fact_51 : decode cX1_fact 51 = .ok (.isub, 1) := by decide +kernel
theorem dX1_fact_52 : decode cX1_fact 52 = .ok (.ireturn, 1) := by decide +kernel
theorem dX1_fact_53 : decode cX1_fact 53 = .ok (.aload_n 0, 1) := by decide +kernel
theorem dX1_fact_54 : decode cX1_fact 54 = .ok (.getfield 64, 3) := by decide +kernel
theorem dX1_fact_57 : decode cX1_fact 57 = .ok (.ifCond .eq 7, 3) := by decide +kernel
theorem dX1_fact_60 : decode cX1_fact 60 = .ok (.iconst 1, 1) := by decide +kernel
theorem dX1_fact_61 : decode cX1_fact 61 = .ok (.goto 4, 3) := by decide +kernel
theorem dX1_fact_64 : decode cX1_fact 64 = .ok (.iconst 0, 1) := by decide +kernel
theorem dX1_fact_65 : decode cX1_fact 65 = .ok (.ireturn, 1) := by decide +kernel
theorem dX1_fact_66 : decode cX1_fact 66 = .ok (.aload_n 0, 1) := by decide +kernel
theorem dX1_fact_67 : decode cX1_fact 67 = .ok (.getfield 68, 3) := by decide +kernel
theorem dX1_fact_70 : decode cX1_fact 70 = .ok (.ireturn, 1) := by decide +kernel
theorem dX1_fact_71 : decode cX1_fact 71 = .ok (.aload_n 0, 1) := by decide +kernel
theorem dX1_fact_72 : decode cX1_fact 72 = .ok (.getfield 55, 3) := by decide +kernel
theorem dX1_fact_75 : decode cX1_fact 75 = .ok (.ireturn, 1) := by decide +kernel
theorem dX1_fact_76 : decode cX1_fact 76 = .ok (.aload_n 0, 1) := by decide +kernel
theorem dX1_fact_77 : decode cX1_fact 77 = .ok (.getfield 58, 3) := by decide +kernel
theorem dX1_fact_80 : decode cX1_fact 80 = .ok (.ireturn, 1) := by decide +kernel
theorem dX1_fact_81 : decode cX1_fact 81 = .ok (.aload_n 0, 1) := by decide +kernel
theorem dX1_fact_82 : decode cX1_fact 82 = .ok (.getfield 33, 3) := by decide +kernel
theorem dX1_fact_85 : decode cX1_fact 85 = .ok (.ireturn, 1) := by decide +kernel
set_option maxRecDepth 20000 in
theorem ggX1_putDown_X1_has : GoodIn wsX1_putDown wsX1_has := goodIn_r _ [13, 14, 15, 16, 17, 18, 19, 20, 21, 22, 23, 24, 25, 26] (by decide +kernel) (by decide +kernel)
set_option maxRecDepth 20000 in
theorem gX1_putDown_X1_has : GoodIn wsX1_putDown (wsV RX1 75 RX1 yX1_has wsX1_has) := goodIn_app (goodIn_of _ (by decide +kernel)) ggX1_putDown_X1_has
theorem dX1_putDown_0 : decode cX1_putDown 0 = .ok (.aload_n 0, 1) := by decide +kernel
theorem dX1_putDown_1 : decode cX1_putDown 1 = .ok (.aload_n 0, 1) := by decide +kernel
theorem dX1_putDown_2 : decode cX1_putDown 2 = .ok (.getfield 52, 3) := by decide +kernel
theorem dX1_putDown_5 : decode cX1_putDown 5 = .ok (.invokevirtual 75, 3) := by decide +kernel
theorem dX1_putDown_8 : decode cX1_putDown 8 = .ok (.ifCond .ne 4, 3) := by decide +kernel
theorem dX1_putDown_11 : decode cX1_putDown 11 = .ok (.return_, 1) := by decide +kernel
theorem dX1_putDown_12 : decode cX1_putDown 12 = .ok (.aload_n 0, 1) := by decide +kernel
theorem dX1_putDown_13 : decode cX1_putDown 13 = .ok (.getfield 9, 3) := by decide +kernel
theorem dX1_putDown_16 : decode cX1_putDown 16 = .ok (.aload_n 0, 1) := by decide +kernel
theorem dX1_putDown_17 : decode cX1_putDown 17 = .ok (.getfield 52, 3) := by decide +kernel
theorem dX1_putDown_20 : decode cX1_putDown 20 = .ok (.dup2, 1) := by decide +kernel
theorem dX1_putDown_21 : decode cX1_putDown 21 = .ok (.laload, 1) := by decide +kernel
theorem dX1_putDown_22 : decode cX1_putDown 22 = .ok (.lload_n 1, 1) := by decide +kernel
theorem dX1_putDown_23 : decode cX1_putDown 23 = .ok (.ldc2_w 79, 3) := by decide +kernel
theorem dX1_putDown_26 : decode cX1_putDown 26 = .ok (.lxor, 1) := by decide +kernel
theorem dX1_putDown_27 : decode cX1_putDown 27 = .ok (.land, 1) := by decide +kernel
theorem dX1_putDown_28 : decode cX1_putDown 28 = .ok (.lastore, 1) := by decide +kernel
theorem dX1_putDown_29 : decode cX1_putDown 29 = .ok (.aload_n 0, 1) := by decide +kernel
theorem dX1_putDown_30 : decode cX1_putDown 30 = .ok (.getfield 15, 3) := by decide +kernel
theorem dX1_putDown_33 : decode cX1_putDown 33 = .ok (.aload_n 0, 1) := by decide +kernel
theorem dX1_putDown_34 : decode cX1_putDown 34 = .ok (.getfield 52, 3) := by decide +kernel
theorem dX1_putDown_37 : decode cX1_putDown 37 = .ok (.iconst 1, 1) := by decide +kernel
theorem dX1_putDown_38 : decode cX1_putDown 38 = .ok (.bastore, 1) := by decide +kernel
theorem dX1_putDown_39 : decode cX1_putDown 39 = .ok (.aload_n 0, 1) := by decide +kernel
theorem dX1_putDown_40 : decode cX1_putDown 40 = .ok (.dup, 1) := by decide +kernel
theorem dX1_putDown_41 : decode cX1_putDown 41 = .ok (.getfield 48, 3) := by decide +kernel
theorem dX1_putDown_44 : decode cX1_putDown 44 = .ok (.lload_n 1, 1) := by decide +kernel
theorem dX1_putDown_45 : decode cX1_putDown 45 = .ok (.lor, 1) := by decide +kernel
theorem dX1_putDown_46 : decode cX1_putDown 46 = .ok (.putfield 48, 3) := by decide +kernel
theorem dX1_putDown_49 : decode cX1_putDown 49 = .ok (.aload_n 0, 1) := by decide +kernel
theorem dX1_putDown_50 : decode cX1_putDown 50 = .ok (.dup, 1) := by decide +kernel
theorem dX1_putDown_51 : decode cX1_putDown 51 = .ok (.getfield 58, 3) := by decide +kernel
theorem dX1_putDown_54 : decode cX1_putDown 54 = .ok (.iconst 1, 1) := by decide +kernel
theorem dX1_putDown_55 : decode cX1_putDown 55 = .ok (.iadd, 1) := by decide +kernel
theorem dX1_putDown_56 : decode cX1_putDown 56 = .ok (.putfield 58, 3) := by decide +kernel
theorem dX1_putDown_59 : decode cX1_putDown 59 = .ok (.aload_n 0, 1) := by decide +kernel
theorem dX1_putDown_60 : decode cX1_putDown 60 = .ok (.getfield 9, 3) := by decide +kernel
theorem dX1_putDown_63 : decode cX1_putDown 63 = .ok (.aload_n 0, 1) := by decide +kernel
theorem dX1_putDown_64 : decode cX1_putDown 64 = .ok (.getfield 52, 3) := by decide +kernel
theorem dX1_putDown_67 : decode cX1_putDown 67 = .ok (.laload, 1) := by decide +kernel
theorem dX1_putDown_68 : decode cX1_putDown 68 = .ok (.lconst 0, 1) := by decide +kernel
theorem dX1_putDown_69 : decode cX1_putDown 69 = .ok (.lcmp, 1) := by decide +kernel
theorem dX1_putDown_70 : decode cX1_putDown 70 = .ok (.ifCond .ne 16, 3) := by decide +kernel
theorem dX1_putDown_73 : decode cX1_putDown 73 = .ok (.aload_n 0, 1) := by decide +kernel
theorem dX1_putDown_74 : decode cX1_putDown 74 = .ok (.iconst 1, 1) := by decide +kernel
theorem dX1_putDown_75 : decode cX1_putDown 75 = .ok (.putfield 64, 3) := by decide +kernel
theorem dX1_putDown_78 : decode cX1_putDown 78 = .ok (.aload_n 0, 1) := by decide +kernel
theorem dX1_putDown_79 : decode cX1_putDown 79 = .ok (.aload_n 0, 1) := by decide +kernel
theorem dX1_putDown_80 : decode cX1_putDown 80 = .ok (.getfield 52, 3) := by decide +kernel
theorem dX1_putDown_83 : decode cX1_putDown 83 = .ok (.putfield 68, 3) := by decide +kernel
theorem dX1_putDown_86 : decode cX1_putDown 86 = .ok (.return_, 1) := by decide +kernel
set_option maxRecDepth 20000 in
theorem ggX1_endTurn_X1_drawn : GoodIn wsX1_endTurn wsX1_drawn := goodIn_r _ [12, 13, 14, 22, 23, 24, 25, 26, 27, 28, 29, 30, 31, 32, 33] (by decide +kernel) (by decide +kernel)
set_option maxRecDepth 20000 in
theorem gX1_endTurn_X1_drawn : GoodIn wsX1_endTurn (wsV RX1 40 RX1 yX1_drawn wsX1_drawn) := goodIn_app (goodIn_of _ (by decide +kernel)) ggX1_endTurn_X1_drawn
set_option maxRecDepth 20000 in
theorem ggX1_endTurn_X1_has : GoodIn wsX1_endTurn wsX1_has := goodIn_r _ [18, 5, 22, 23, 24, 25, 26, 27, 28, 29, 30, 31, 32, 33] (by decide +kernel) (by decide +kernel)
set_option maxRecDepth 20000 in
theorem gX1_endTurn_X1_has : GoodIn wsX1_endTurn (wsV RX1 75 RX1 yX1_has wsX1_has) := goodIn_app (goodIn_of _ (by decide +kernel)) ggX1_endTurn_X1_has
set_option maxRecDepth 20000 in
theorem ggX1_endTurn_X1_bitOf : GoodIn wsX1_endTurn wsX1_bitOf := goodIn_r _ [21] (by decide +kernel) (by decide +kernel)
set_option maxRecDepth 20000 in
theorem gX1_endTurn_X1_bitOf : GoodIn wsX1_endTurn (va_wsS RX1 44 yX1_bitOf wsX1_bitOf) := goodIn_app (goodIn_of _ (by decide +kernel)) ggX1_endTurn_X1_bitOf
