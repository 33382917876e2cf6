theorem dX1_endTurn_0 : decode cX1_endTurn 0 = .ok (.aload_n 0, 1) := by decide +kernel
theorem dX1_endTurn_1 : decode cX1_endTurn 1 = .ok (.getfield 58, 3) := by decide +kernel
theorem dX1_endTurn_4 : decode cX1_endTurn 4 = .ok (.ifCond .ne 10, 3) := by decide +kernel
theorem dX1_endTurn_7 : decode cX1_endTurn 7 = .ok (.aload_n 0, 1) := by decide +kernel
theorem dX1_endTurn_8 : decode cX1_endTurn 8 = .ok (.invokevirtual 40, 3) := by decide +kernel
theorem dX1_endTurn_11 : decode cX1_endTurn 11 = .ok (.goto 5, 3) := by decide +kernel
theorem dX1_endTurn_14 : decode cX1_endTurn 14 = .ok (.bipush 54, 2) := by decide +kernel
theorem dX1_endTurn_16 : decode cX1_endTurn 16 = .ok (.istore_n 1, 1) := by decide +kernel
theorem dX1_endTurn_17 : decode cX1_endTurn 17 = .ok (.aload_n 0, 1) := by decide +kernel
theorem dX1_endTurn_18 : decode cX1_endTurn 18 = .ok (.aload_n 0, 1) := by decide +kernel
theorem dX1_endTurn_19 : decode cX1_endTurn 19 = .ok (.getfield 52, 3) := by decide +kernel
theorem dX1_endTurn_22 : decode cX1_endTurn 22 = .ok (.invokevirtual 75, 3) := by decide +kernel
theorem dX1_endTurn_25 : decode cX1_endTurn 25 = .ok (.ifCond .eq 19, 3) := by decide +kernel
theorem dX1_endTurn_28 : decode cX1_endTurn 28 = .ok (.aload_n 0, 1) := by decide +kernel
theorem dX1_endTurn_29 : decode cX1_endTurn 29 = .ok (.getfield 9, 3) := by decide +kernel
theorem dX1_endTurn_32 : decode cX1_endTurn 32 = .ok (.aload_n 0, 1) := by decide +kernel
theorem dX1_endTurn_33 : decode cX1_endTurn 33 = .ok (.getfield 52, 3) := by decide +kernel
theorem dX1_endTurn_36 : decode cX1_endTurn 36 = .ok (.dup2, 1) := by decide +kernel
theorem dX1_endTurn_37 : decode cX1_endTurn 37 = .ok (.laload, 1) := by decide +kernel
theorem dX1_endTurn_38 : decode cX1_endTurn 38 = .ok (.iload_n 1, 1) := by decide +kernel
theorem dX1_endTurn_39 : decode cX1_endTurn 39 = .ok (.invokestatic 44, 3) := by decide +kernel
theorem dX1_endTurn_42 : decode cX1_endTurn 42 = .ok (.lor, 1) := by decide +kernel
theorem dX1_endTurn_43 : decode cX1_endTurn 43 = .ok (.lastore, 1) := by decide +kernel
theorem dX1_endTurn_44 : decode cX1_endTurn 44 = .ok (.aload_n 0, 1) := by decide +kernel
theorem dX1_endTurn_45 : decode cX1_endTurn 45 = .ok (.aload_n 0, 1) := by decide +kernel
theorem dX1_endTurn_46 : decode cX1_endTurn 46 = .ok (.getfield 58, 3) := by decide +kernel
theorem dX1_endTurn_49 : decode cX1_endTurn 49 = .ok (.ifCond .ne 18, 3) := by decide +kernel
theorem dX1_endTurn_52 : decode cX1_endTurn 52 = .ok (.iload_n 1, 1) := by decide +kernel
theorem dX1_endTurn_53 : decode cX1_endTurn 53 = .ok (.bipush 54, 2) := by decide +kernel
theorem dX1_endTurn_55 : decode cX1_endTurn 55 = .ok (.if_icmp .ne 12, 3) := by decide +kernel
theorem dX1_endTurn_58 : decode cX1_endTurn 58 = .ok (.aload_n 0, 1) := by decide +kernel
theorem dX1_endTurn_59 : decode cX1_endTurn 59 = .ok (.getfield 61, 3) := by decide +kernel
theorem dX1_endTurn_62 : decode cX1_endTurn 62 = .ok (.iconst 1, 1) := by decide +kernel
theorem dX1_endTurn_63 : decode cX1_endTurn 63 = .ok (.iadd, 1) := by decide +kernel
theorem dX1_endTurn_64 : decode cX1_endTurn 64 = .ok (.goto 4, 3) := by decide +kernel
theorem dX1_endTurn_67 : decode cX1_endTurn 67 = .ok (.iconst 0, 1) := by decide +kernel
theorem dX1_endTurn_68 : decode cX1_endTurn 68 = .ok (.putfield 61, 3) := by decide +kernel
theorem dX1_endTurn_71 : decode cX1_endTurn 71 = .ok (.aload_n 0, 1) := by decide +kernel
theorem dX1_endTurn_72 : decode cX1_endTurn 72 = .ok (.aload_n 0, 1) := by decide +kernel
theorem dX1_endTurn_73 : decode cX1_endTurn 73 = .ok (.getfield 61, 3) := by decide +kernel
theorem dX1_endTurn_76 : decode cX1_endTurn 76 = .ok (.aload_n 0, 1) := by decide +kernel
theorem dX1_endTurn_77 : decode cX1_endTurn 77 = .ok (.getfield 33, 3) := by decide +kernel
theorem dX1_endTurn_80 : decode cX1_endTurn 80 = .ok (.if_icmp .lt 7, 3) := by decide +kernel
theorem dX1_endTurn_83 : decode cX1_endTurn 83 = .ok (.iconst 1, 1) := by decide +kernel
theorem dX1_endTurn_84 : decode cX1_endTurn 84 = .ok (.goto 4, 3) := by decide +kernel
theorem dX1_endTurn_87 : decode cX1_endTurn 87 = .ok (.iconst 0, 1) := by decide +kernel
theorem dX1_endTurn_88 : decode cX1_endTurn 88 = .ok (.putfield 64, 3) := by decide +kernel
theorem dX1_endTurn_91 : decode cX1_endTurn 91 = .ok (.aload_n 0, 1) := by decide +kernel
theorem dX1_endTurn_92 : decode cX1_endTurn 92 = .ok (.dup, 1) := by decide +kernel
theorem dX1_endTurn_93 : decode cX1_endTurn 93 = .ok (.getfield 55, 3) := by decide +kernel
theorem dX1_endTurn_96 : decode cX1_endTurn 96 = .ok (.iconst 1, 1) := by decide +kernel
theorem dX1_endTurn_97 : decode cX1_endTurn 97 = .ok (.iadd, 1) := by decide +kernel
theorem dX1_endTurn_98 : decode cX1_endTurn 98 = .ok (.putfield 55, 3) := by decide +kernel
theorem dX1_endTurn_101 : decode cX1_endTurn 101 = .ok (.aload_n 0, 1) := by decide +kernel
theorem dX1_endTurn_102 : decode cX1_endTurn 102 = .ok (.iconst 0, 1) := by decide +kernel
theorem dX1_endTurn_103 : decode cX1_endTurn 103 = .ok (.putfield 58, 3) := by decide +kernel
theorem dX1_endTurn_106 : decode cX1_endTurn 106 = .ok (.aload_n 0, 1) := by decide +kernel
theorem dX1_endTurn_107 : decode cX1_endTurn 107 = .ok (.aload_n 0, 1) := by decide +kernel
theorem dX1_endTurn_108 : decode cX1_endTurn 108 = .ok (.getfield 52, 3) := by decide +kernel
theorem dX1_endTurn_111 : decode cX1_endTurn 111 = .ok (.iconst 1, 1) := by decide +kernel
theorem dX1_endTurn_112 : decode cX1_endTurn 112 = .ok (.iadd, 1) := by decide +kernel
theorem dX1_endTurn_113 : decode cX1_endTurn 113 = .ok (.aload_n 0, 1) := by decide +kernel
theorem dX1_endTurn_114 : decode cX1_endTurn 114 = .ok (.getfield 33, 3) := by decide +kernel
theorem dX1_endTurn_117 : decode cX1_endTurn 117 = .ok (.if_icmp .ge 12, 3) := by decide +kernel
theorem dX1_endTurn_120 : decode cX1_endTurn 120 = .ok (.aload_n 0, 1) := by decide +kernel
theorem dX1_endTurn_121 : decode cX1_endTurn 121 = .ok (.getfield 52, 3) := by decide +kernel
theorem dX1_endTurn_124 : decode cX1_endTurn 124 = .ok (.iconst 1, 1) := by decide +kernel
theorem dX1_endTurn_125 : decode cX1_endTurn 125 = .ok (.iadd, 1) := by decide +kernel
theorem dX1_endTurn_126 : decode cX1_endTurn 126 = .ok (.goto 4, 3) := by decide +kernel
theorem dX1_endTurn_129 : decode cX1_endTurn 129 = .ok (.iconst 0, 1) := by decide +kernel
theorem dX1_endTurn_130 : decode cX1_endTurn 130 = .ok (.putfield 52, 3) := by decide +kernel
theorem dX1_endTurn_133 : decode cX1_endTurn 133 = .ok (.iload_n 1, 1) := by decide +kernel
theorem dX1_endTurn_134 : decode cX1_endTurn 134 = .ok (.ireturn, 1) := by decide +kernel
theorem dX2_init_0 : decode cX2_init 0 = .ok (.aload_n 0, 1) := by decide +kernel
theorem dX2_init_1 : decode cX2_init 1 = .ok (.invokespecial 3, 3) := by decide +kernel
theorem dX2_init_4 : decode cX2_init 4 = .ok (.aload_n 0, 1) := by decide +kernel
theorem dX2_init_5 : decode cX2_init 5 = .ok (.bipush 13, 2) := by decide +kernel
theorem dX2_init_7 : decode cX2_init 7 = .ok (.newarray .int, 2) := by decide +kernel
theorem dX2_init_9 : decode cX2_init 9 = .ok (.putfield 9, 3) := by decide +kernel
theorem dX2_init_12 : decode cX2_init 12 = .ok (.return_, 1) := by decide +kernel
set_option maxRecDepth 20000 in
theorem ggX2_placeOf_X5_placeOf : GoodIn wsX2_placeOf wsX5_placeOf := goodIn_r _ [5, 6, 7, 4, 8, 9, 10, 11, 12, 13, 14] (by decide +kernel) (by decide +kernel)
set_option maxRecDepth 20000 in
theorem gX2_placeOf_X5_placeOf : GoodIn wsX2_placeOf (va_wsS RX2 15 yX5_placeOf wsX5_placeOf) := goodIn_app (goodIn_of _ (by decide +kernel)) ggX2_placeOf_X5_placeOf
theorem dX2_placeOf_0 : decode cX2_placeOf 0 = .ok (.iload_n 1, 1) := by decide +kernel
theorem dX2_placeOf_1 : decode cX2_placeOf 1 = .ok (.ifCond .lt 9, 3) := by decide +kernel
theorem dX2_placeOf_4 : decode cX2_placeOf 4 = .ok (.iload_n 1, 1) := by decide +kernel
theorem dX2_placeOf_5 : decode cX2_placeOf 5 = .ok (.bipush 52, 2) := by decide +kernel
theorem dX2_placeOf_7 : decode cX2_placeOf 7 = .ok (.if_icmp .lt 5, 3) := by decide +kernel
theorem dX2_placeOf_10 : decode cX2_placeOf 10 = .ok (.iconst (-1), 1) := by decide +kernel
theorem dX2_placeOf_11 : decode cX2_placeOf 11 = .ok (.ireturn, 1) := by decide +kernel
theorem dX2_placeOf_12 : decode cX2_placeOf 12 = .ok (.aload_n 0, 1) := by decide +kernel
theorem dX2_placeOf_13 : decode cX2_placeOf 13 = .ok (.getfield 9, 3) := by decide +kernel
theorem dX2_placeOf_16 : decode cX2_placeOf 16 = .ok (.iload_n 1, 1) := by decide +kernel
theorem dX2_placeOf_17 : decode cX2_placeOf 17 = .ok (.iconst 4, 1) := by decide +kernel
theorem dX2_placeOf_18 : decode cX2_placeOf 18 = .ok (.idiv, 1) := by decide +kernel
theorem dX2_placeOf_19 : decode cX2_placeOf 19 = .ok (.iaload, 1) := by decide +kernel
theorem dX2_placeOf_20 : decode cX2_placeOf 20 = .ok (.iload_n 1, 1) := by decide +kernel
theorem dX2_placeOf_21 : decode cX2_placeOf 21 = .ok (.iconst 4, 1) := by decide +kernel
theorem dX2_placeOf_22 : decode cX2_placeOf 22 = .ok (.irem, 1) := by decide +kernel
theorem dX2_placeOf_23 : decode cX2_placeOf 23 = .ok (.invokestatic 15, 3) := by decide +kernel
theorem dX2_placeOf_26 : decode cX2_placeOf 26 = .ok (.ireturn, 1) := by decide +kernel
set_option maxRecDepth 20000 in
theorem ggX2_jokerFor_X2_placeOf : GoodIn wsX2_jokerFor wsX2_placeOf := goodIn_r _ [6, 7, 8, 9, 10, 11, 12, 13, 14, 15, 16, 17, 18, 19, 20, 21, 22] (by decide +kernel) (by decide +kernel)
set_option maxRecDepth 20000 in
theorem gX2_jokerFor_X2_placeOf : GoodIn wsX2_jokerFor (wsV RX2 21 RX2 yX2_placeOf wsX2_placeOf) := goodIn_app (goodIn_of _ (by decide +kernel)) ggX2_jokerFor_X2_placeOf
theorem dX2_jokerFor_0 : decode cX2_jokerFor 0 = .ok (.iload_n 1, 1) := by decide +kernel
theorem dX2_jokerFor_1 : decode cX2_jokerFor 1 = .ok (.ifCond .lt 9, 3) := by decide +kernel
theorem dX2_jokerFor_4 : decode cX2_jokerFor 4 = .ok (.iload_n 1, 1) := by decide +kernel
theorem dX2_jokerFor_5 : decode cX2_jokerFor 5 = .ok (.bipush 52, 2) := by decide +kernel
theorem dX2_jokerFor_7 : decode cX2_jokerFor 7 = .ok (.if_icmp .lt 5, 3) := by decide +kernel
theorem dX2_jokerFor_10 : decode cX2_jokerFor 10 = .ok (.iconst (-1), 1) := by decide +kernel
theorem dX2_jokerFor_11 : decode cX2_jokerFor 11 = .ok (.ireturn, 1) := by decide +kernel
theorem dX2_jokerFor_12 : decode cX2_jokerFor 12 = .ok (.aload_n 0, 1) := by decide +kernel
theorem dX2_jokerFor_13 : decode cX2_jokerFor 13 = .ok (.iload_n 1, 1) := by decide +kernel
theorem dX2_jokerFor_14 : decode cX2_jokerFor 14 = .ok (.invokevirtual 21, 3) := by decide +kernel
theorem dX2_jokerFor_17 : decode cX2_jokerFor 17 = .ok (.ifCond .eq 20, 3) := by decide +kernel
theorem dX2_jokerFor_20 : decode cX2_jokerFor 20 = .ok (.aload_n 0, 1) := by decide +kernel
theorem dX2_jokerFor_21 : decode cX2_jokerFor 21 = .ok (.getfield 24, 3) := by decide +kernel
theorem dX2_jokerFor_24 : decode cX2_jokerFor 24 = .ok (.iload_n 1, 1) := by decide +kernel
theorem dX2_jokerFor_25 : decode cX2_jokerFor 25 = .ok (.lushr, 1) := by decide +kernel
theorem dX2_jokerFor_26 : decode cX2_jokerFor 26 = .ok (.lconst 1, 1) := by decide +kernel
theorem dX2_jokerFor_27 : decode cX2_jokerFor 27 = .ok (.land, 1) := by decide +kernel
theorem dX2_jokerFor_28 : decode cX2_jokerFor 28 = .ok (.lconst 0, 1) := by decide +kernel
theorem dX2_jokerFor_29 : decode cX2_jokerFor 29 = .ok (.lcmp, 1) := by decide +kernel
theorem dX2_jokerFor_30 : decode cX2_jokerFor 30 = .ok (.ifCond .ne 7, 3) := by decide +kernel
theorem dX2_jokerFor_33 : decode cX2_jokerFor 33 = .ok (.iconst 1, 1) := by decide +kernel
theorem dX2_jokerFor_34 : decode cX2_jokerFor 34 = .ok (.goto 4, 3) := by decide +kernel
theorem dX2_jokerFor_37 : decode cX2_jokerFor 37 = .ok (.iconst 0, 1) := by decide +kernel
theorem dX2_jokerFor_38 : decode cX2_jokerFor 38 = .ok (.ireturn, 1) := by decide +kernel
set_option maxRecDepth 20000 in
theorem ggX2_groups_X5_grouped : GoodIn wsX2_groups wsX5_grouped := goodIn_r _ [5] (by decide +kernel) (by decide +kernel)
set_option maxRecDepth 20000 in
theorem gX2_groups_X5_grouped : GoodIn wsX2_groups (va_wsS RX2 28 yX5_grouped wsX5_grouped) := goodIn_app (goodIn_of _ (by decide +kernel)) ggX2_groups_X5_grouped
theorem dX2_groups_0 : decode cX2_groups 0 = .ok (.iconst 0, 1) := by decide +kernel
theorem dX2_groups_1 : decode cX2_groups 1 = .ok (.istore_n 1, 1) := by decide +kernel
theorem dX2_groups_2 : decode cX2_groups 2 = .ok (.aload_n 0, 1) := by decide +kernel
theorem dX2_groups_3 : decode cX2_groups 3 = .ok (.getfield 9, 3) := by decide +kernel
theorem dX2_groups_6 : decode cX2_groups 6 = .ok (.astore_n 2, 1) := by decide +kernel
theorem dX2_groups_7 : decode cX2_groups 7 = .ok (.aload_n 2, 1) := by decide +kernel
theorem dX2_groups_8 : decode cX2_groups 8 = .ok (.arraylength, 1) := by decide +kernel
theorem dX2_groups_9 : decode cX2_groups 9 = .ok (.istore_n 3, 1) := by decide +kernel
theorem dX2_groups_10 : decode cX2_groups 10 = .ok (.iconst 0, 1) := by decide +kernel
theorem dX2_groups_11 : decode cX2_groups 11 = .ok (.istore 4, 2) := by decide +kernel
theorem dX2_groups_13 : decode cX2_groups 13 = .ok (.iload 4, 2) := by decide +kernel
theorem dX2_groups_15 : decode cX2_groups 15 = .ok (.iload_n 3, 1) := by decide +kernel
theorem dX2_groups_16 : decode cX2_groups 16 = .ok (.if_icmp .ge 26, 3) := by decide +kernel
theorem dX2_groups_19 : decode cX2_groups 19 = .ok (.aload_n 2, 1) := by decide +kernel
theorem dX2_groups_20 : decode cX2_groups 20 = .ok (.iload 4, 2) := by decide +kernel
theorem dX2_groups_22 : decode cX2_groups 22 = .ok (.iaload, 1) := by decide +kernel
theorem dX2_groups_23 : decode cX2_groups 23 = .ok (.istore 5, 2) := by decide +kernel
theorem dX2_groups_25 : decode cX2_groups 25 = .ok (.iload 5, 2) := by decide +kernel
theorem dX2_groups_27 : decode cX2_groups 27 = .ok (.invokestatic 28, 3) := by decide +kernel
theorem dX2_groups_30 : decode cX2_groups 30 = .ok (.ifCond .eq 6, 3) := by decide +kernel
theorem dX2_groups_33 : decode cX2_groups 33 = .ok (.iinc 1 1, 3) := by decide +kernel
theorem dX2_groups_36 : decode cX2_groups 36 = .ok (.iinc 4 1, 3) := by decide +kernel
theorem dX2_groups_39 : decode cX2_groups 39 = .ok (.goto (-26), 3) := by decide +kernel
theorem dX2_groups_42 : decode cX2_groups 42 = .ok (.iload_n 1, 1) := by decide +kernel
theorem dX2_groups_43 : decode cX2_groups 43 = .ok (.ireturn, 1) := by decide +kernel
set_option maxRecDepth 20000 in
theorem ggX2_runs_X5_begun : GoodIn wsX2_runs wsX5_begun := goodIn_r _ [5] (by decide +kernel) (by decide +kernel)
set_option maxRecDepth 20000 in
theorem gX2_runs_X5_begun : GoodIn wsX2_runs (va_wsS RX2 31 yX5_begun wsX5_begun) := goodIn_app (goodIn_of _ (by decide +kernel)) ggX2_runs_X5_begun
set_option maxRecDepth 20000 in
theorem ggX2_runs_J6_bitCount_0f7a4 : GoodIn wsX2_runs wsJ6_bitCount_0f7a4 := goodIn_r _ [9, 10, 11, 12] (by decide +kernel) (by decide +kernel)
set_option maxRecDepth 20000 in
theorem gX2_runs_J6_bitCount_0f7a4 : GoodIn wsX2_runs (va_wsS RX2 34 yJ6_bitCount_0f7a4 wsJ6_bitCount_0f7a4) := goodIn_app (goodIn_of _ (by decide +kernel)) ggX2_runs_J6_bitCount_0f7a4
theorem dX2_runs_0 : decode cX2_runs 0 = .ok (.iconst 0, 1) := by decide +kernel
theorem dX2_runs_1 : decode cX2_runs 1 = .ok (.istore_n 1, 1) := by decide +kernel
theorem dX2_runs_2 : decode cX2_runs 2 = .ok (.aload_n 0, 1) := by decide +kernel
theorem dX2_runs_3 : decode cX2_runs 3 = .ok (.getfield 9, 3) := by decide +kernel
theorem dX2_runs_6 : decode cX2_runs 6 = .ok (.astore_n 2, 1) := by decide +kernel
theorem dX2_runs_7 : decode cX2_runs 7 = .ok (.aload_n 2, 1) := by decide +kernel
theorem dX2_runs_8 : decode cX2_runs 8 = .ok (.arraylength, 1) := by decide +kernel
theorem dX2_runs_9 : decode cX2_runs 9 = .ok (.istore_n 3, 1) := by decide +kernel
theorem dX2_runs_10 : decode cX2_runs 10 = .ok (.iconst 0, 1) := by decide +kernel
theorem dX2_runs_11 : decode cX2_runs 11 = .ok (.istore 4, 2) := by decide +kernel
theorem dX2_runs_13 : decode cX2_runs 13 = .ok (.iload 4, 2) := by decide +kernel
theorem dX2_runs_15 : decode cX2_runs 15 = .ok (.iload_n 3, 1) := by decide +kernel
theorem dX2_runs_16 : decode cX2_runs 16 = .ok (.if_icmp .ge 26, 3) := by decide +kernel
theorem dX2_runs_19 : decode cX2_runs 19 = .ok (.aload_n 2, 1) := by decide +kernel
theorem dX2_runs_20 : decode cX2_runs 20 = .ok (.iload 4, 2) := by decide +kernel
theorem dX2_runs_22 : decode cX2_runs 22 = .ok (.iaload, 1) := by decide +kernel
theorem dX2_runs_23 : decode cX2_runs 23 = .ok (.istore 5, 2) := by decide +kernel
theorem dX2_runs_25 : decode cX2_runs 25 = .ok (.iload_n 1, 1) := by decide +kernel
theorem dX2_runs_26 : decode cX2_runs 26 = .ok (.iload 5, 2) := by decide +kernel
theorem dX2_runs_28 : decode cX2_runs 28 = .ok (.invokestatic 31, 3) := by decide +kernel
theorem dX2_runs_31 : decode cX2_runs 31 = .ok (.invokestatic 34, 3) := by decide +kernel
theorem dX2_runs_34 : decode cX2_runs 34 = .ok (.iadd, 1) := by decide +kernel
theorem dX2_runs_35 : decode cX2_runs 35 = .ok (.istore_n 1, 1) := by decide +kernel
theorem dX2_runs_36 : decode cX2_runs 36 = .ok (.iinc 4 1, 3) := by decide +kernel
theorem dX2_runs_39 : decode cX2_runs 39 = .ok (.goto (-26), 3) := by decide +kernel
theorem dX2_runs_42 : decode cX2_runs 42 = .ok (.iload_n 1, 1) := by decide +kernel
theorem dX2_runs_43 : decode cX2_runs 43 = .ok (.ireturn, 1) := by decide +kernel
set_option maxRecDepth 20000 in
theorem ggX2_shownCards_X5_shown : GoodIn wsX2_shownCards wsX5_shown := goodIn_r _ [5] (by decide +kernel) (by decide +kernel)
set_option maxRecDepth 20000 in
theorem gX2_shownCards_X5_shown : GoodIn wsX2_shownCards (va_wsS RX2 39 yX5_shown wsX5_shown) := goodIn_app (goodIn_of _ (by decide +kernel)) ggX2_shownCards_X5_shown
set_option maxRecDepth 20000 in
theorem ggX2_shownCards_J6_bitCount_0f7a4 : GoodIn wsX2_shownCards wsJ6_bitCount_0f7a4 := goodIn_r _ [9, 10, 11, 12] (by decide +kernel) (by decide +kernel)
set_option maxRecDepth 20000 in
theorem gX2_shownCards_J6_bitCount_0f7a4 : GoodIn wsX2_shownCards (va_wsS RX2 34 yJ6_bitCount_0f7a4 wsJ6_bitCount_0f7a4) := goodIn_app (goodIn_of _ (by decide +kernel)) ggX2_shownCards_J6_bitCount_0f7a4
theorem dX2_shownCards_0 : decode cX2_shownCards 0 = .ok (.iconst 0, 1) := by decide +kernel
theorem dX2_shownCards_1 : decode cX2_shownCards 1 = .ok (.istore_n 1, 1) := by decide +kernel
theorem dX2_shownCards_2 : decode cX2_shownCards 2 = .ok (.aload_n 0, 1) := by decide +kernel
theorem dX2_shownCards_3 : decode cX2_shownCards 3 = .ok (.getfield 9, 3) := by decide +kernel
theorem dX2_shownCards_6 : decode cX2_shownCards 6 = .ok (.astore_n 2, 1) := by decide +kernel
theorem dX2_shownCards_7 : decode cX2_shownCards 7 = .ok (.aload_n 2, 1) := by decide +kernel
theorem dX2_shownCards_8 : decode cX2_shownCards 8 = .ok (.arraylength, 1) := by decide +kernel
theorem dX2_shownCards_9 : decode cX2_shownCards 9 = .ok (.istore_n 3, 1) := by decide +kernel
theorem dX2_shownCards_10 : decode cX2_shownCards 10 = .ok (.iconst 0, 1) := by decide +kernel
theorem dX2_shownCards_11 : decode cX2_shownCards 11 = .ok (.istore 4, 2) := by decide +kernel
theorem dX2_shownCards_13 : decode cX2_shownCards 13 = .ok (.iload 4, 2) := by decide +kernel
theorem dX2_shownCards_15 : decode cX2_shownCards 15 = .ok (.iload_n 3, 1) := by decide +kernel
theorem dX2_shownCards_16 : decode cX2_shownCards 16 = .ok (.if_icmp .ge 26, 3) := by decide +kernel
theorem dX2_shownCards_19 : decode cX2_shownCards 19 = .ok (.aload_n 2, 1) := by decide +kernel
theorem dX2_shownCards_20 : decode cX2_shownCards 20 = .ok (.iload 4, 2) := by decide +kernel
theorem dX2_shownCards_22 : decode cX2_shownCards 22 = .ok (.iaload, 1) := by decide +kernel
theorem dX2_shownCards_23 : decode cX2_shownCards 23 = .ok (.istore 5, 2) := by decide +kernel
theorem dX2_shownCards_25 : decode cX2_shownCards 25 = .ok (.iload_n 1, 1) := by decide +kernel
theorem dX2_shownCards_26 : decode cX2_shownCards 26 = .ok (.iload 5, 2) := by decide +kernel
theorem dX2_shownCards_28 : decode cX2_shownCards 28 = .ok (.invokestatic 39, 3) := by decide +kernel
theorem dX2_shownCards_31 : decode cX2_shownCards 31 = .ok (.invokestatic 34, 3) := by decide +kernel
theorem dX2_shownCards_34 : decode cX2_shownCards 34 = .ok (.iadd, 1) := by decide +kernel
theorem dX2_shownCards_35 : decode cX2_shownCards 35 = .ok (.istore_n 1, 1) := by decide +kernel
theorem dX2_shownCards_36 : decode cX2_shownCards 36 = .ok (.iinc 4 1, 3) := by decide +kernel
theorem dX2_shownCards_39 : decode cX2_shownCards 39 = .ok (.goto (-26), 3) := by decide +kernel
theorem dX2_shownCards_42 : decode cX2_shownCards 42 = .ok (.iload_n 1, 1) := by decide +kernel
theorem dX2_shownCards_43 : decode cX2_shownCards 43 = .ok (.ireturn, 1) := by decide +kernel
set_option maxRecDepth 20000 in
theorem ggX2_shownWorth_X0_worthOfNumber : GoodIn wsX2_shownWorth wsX0_worthOfNumber := goodIn_r _ [5, 6, 7, 8, 9] (by decide +kernel) (by decide +kernel)
set_option maxRecDepth 20000 in
theorem gX2_shownWorth_X0_worthOfNumber : GoodIn wsX2_shownWorth (va_wsS RX2 42 yX0_worthOfNumber wsX0_worthOfNumber) := goodIn_app (goodIn_of _ (by decide +kernel)) ggX2_shownWorth_X0_worthOfNumber
set_option maxRecDepth 20000 in
theorem ggX2_shownWorth_X5_shown : GoodIn wsX2_shownWorth wsX5_shown := goodIn_r _ [13] (by decide +kernel) (by decide +kernel)
set_option maxRecDepth 20000 in
theorem gX2_shownWorth_X5_shown : GoodIn wsX2_shownWorth (va_wsS RX2 39 yX5_shown wsX5_shown) := goodIn_app (goodIn_of _ (by decide +kernel)) ggX2_shownWorth_X5_shown
set_option maxRecDepth 20000 in
theorem ggX2_shownWorth_J6_bitCount_0f7a4 : GoodIn wsX2_shownWorth wsJ6_bitCount_0f7a4 := goodIn_r _ [17, 18, 19, 20] (by decide +kernel) (by decide +kernel)
set_option maxRecDepth 20000 in
theorem gX2_shownWorth_J6_bitCount_0f7a4 : GoodIn wsX2_shownWorth (va_wsS RX2 34 yJ6_bitCount_0f7a4 wsJ6_bitCount_0f7a4) := goodIn_app (goodIn_of _ (by decide +kernel)) ggX2_shownWorth_J6_bitCount_0f7a4
theorem dX2_shownWorth_0 : decode cX2_shownWorth 0 = .ok (.iconst 0, 1) := by decide +kernel
theorem dX2_shownWorth_1 : decode cX2_shownWorth 1 = .ok (.istore_n 1, 1) := by decide +kernel
theorem dX2_shownWorth_2 : decode cX2_shownWorth 2 = .ok (.iconst 0, 1) := by decide +kernel
theorem dX2_shownWorth_3 : decode cX2_shownWorth 3 = .ok (.istore_n 2, 1) := by decide +kernel
theorem dX2_shownWorth_4 : decode cX2_shownWorth 4 = .ok (.iload_n 2, 1) := by decide +kernel
theorem dX2_shownWorth_5 : decode cX2_shownWorth 5 = .ok (.bipush 13, 2) := by decide +kernel
theorem dX2_shownWorth_7 : decode cX2_shownWorth 7 = .ok (.if_icmp .ge 29, 3) := by decide +kernel
theorem dX2_shownWorth_10 : decode cX2_shownWorth 10 = .ok (.iload_n 1, 1) := by decide +kernel
theorem dX2_shownWorth_11 : decode cX2_shownWorth 11 = .ok (.iload_n 2, 1) := by decide +kernel
theorem dX2_shownWorth_12 : decode cX2_shownWorth 12 = .ok (.invokestatic 42, 3) := by decide +kernel
theorem dX2_shownWorth_15 : decode cX2_shownWorth 15 = .ok (.aload_n 0, 1) := by decide +kernel
theorem dX2_shownWorth_16 : decode cX2_shownWorth 16 = .ok (.getfield 9, 3) := by decide +kernel
theorem dX2_shownWorth_19 : decode cX2_shownWorth 19 = .ok (.iload_n 2, 1) := by decide +kernel
theorem dX2_shownWorth_20 : decode cX2_shownWorth 20 = .ok (.iaload, 1) := by decide +kernel
theorem dX2_shownWorth_21 : decode cX2_shownWorth 21 = .ok (.invokestatic 39, 3) := by decide +kernel
theorem dX2_shownWorth_24 : decode cX2_shownWorth 24 = .ok (.invokestatic 34, 3) := by decide +kernel
theorem dX2_shownWorth_27 : decode cX2_shownWorth 27 = .ok (.imul, 1) := by decide +kernel
theorem dX2_shownWorth_28 : decode cX2_shownWorth 28 = .ok (.iadd, 1) := by decide +kernel
theorem dX2_shownWorth_29 : decode cX2_shownWorth 29 = .ok (.istore_n 1, 1) := by decide +kernel
theorem dX2_shownWorth_30 : decode cX2_shownWorth 30 = .ok (.iinc 2 1, 3) := by decide +kernel
theorem dX2_shownWorth_33 : decode cX2_shownWorth 33 = .ok (.goto (-29), 3) := by decide +kernel
theorem dX2_shownWorth_36 : decode cX2_shownWorth 36 = .ok (.iload_n 1, 1) := by decide +kernel
theorem dX2_shownWorth_37 : decode cX2_shownWorth 37 = .ok (.ireturn, 1) := by decide +kernel
set_option maxRecDepth 20000 in
theorem ggX2_longestRun_X5_placeOf : GoodIn wsX2_longestRun wsX5_placeOf := goodIn_r _ [9, 10, 11, 8, 12, 13, 14, 15, 16, 17, 18] (by decide +kernel) (by decide +kernel)
set_option maxRecDepth 20000 in
theorem gX2_longestRun_X5_placeOf : GoodIn wsX2_longestRun (va_wsS RX2 15 yX5_placeOf wsX5_placeOf) := goodIn_app (goodIn_of _ (by decide +kernel)) ggX2_longestRun_X5_placeOf
theorem dX2_longestRun_0 : decode cX2_longestRun 0 = .ok (.iconst 0, 1) := by decide +kernel
theorem dX2_longestRun_1 : decode cX2_longestRun 1 = .ok (.istore_n 1, 1) := by decide +kernel
theorem dX2_longestRun_2 : decode cX2_longestRun 2 = .ok (.iconst 0, 1) := by decide +kernel
theorem dX2_longestRun_3 : decode cX2_longestRun 3 = .ok (.istore_n 2, 1) := by decide +kernel
theorem dX2_longestRun_4 : decode cX2_longestRun 4 = .ok (.iload_n 2, 1) := by decide +kernel
theorem dX2_longestRun_5 : decode cX2_longestRun 5 = .ok (.iconst 4, 1) := by decide +kernel
theorem dX2_longestRun_6 : decode cX2_longestRun 6 = .ok (.if_icmp .ge 70, 3) := by decide +kernel
theorem dX2_longestRun_9 : decode cX2_longestRun 9 = .ok (.iconst 0, 1) := by decide +kernel
theorem dX2_longestRun_10 : decode cX2_longestRun 10 = .ok (.istore_n 3, 1) := by decide +kernel
theorem dX2_longestRun_11 : decode cX2_longestRun 11 = .ok (.iconst 0, 1) := by decide +kernel
theorem dX2_longestRun_12 : decode cX2_longestRun 12 = .ok (.istore 4, 2) := by decide +kernel
theorem dX2_longestRun_14 : decode cX2_longestRun 14 = .ok (.iload 4, 2) := by decide +kernel
theorem dX2_longestRun_16 : decode cX2_longestRun 16 = .ok (.bipush 13, 2) := by decide +kernel
theorem dX2_longestRun_18 : decode cX2_longestRun 18 = .ok (.if_icmp .ge 52, 3) := by decide +kernel
theorem dX2_longestRun_21 : decode cX2_longestRun 21 = .ok (.aload_n 0, 1) := by decide +kernel
theorem dX2_longestRun_22 : decode cX2_longestRun 22 = .ok (.getfield 9, 3) := by decide +kernel
theorem dX2_longestRun_25 : decode cX2_longestRun 25 = .ok (.iload 4, 2) := by decide +kernel
theorem dX2_longestRun_27 : decode cX2_longestRun 27 = .ok (.iaload, 1) := by decide +kernel
theorem dX2_longestRun_28 : decode cX2_longestRun 28 = .ok (.iload_n 2, 1) := by decide +kernel
theorem dX2_longestRun_29 : decode cX2_longestRun 29 = .ok (.invokestatic 15, 3) := by decide +kernel
theorem dX2_longestRun_32 : decode cX2_longestRun 32 = .ok (.istore 5, 2) := by decide +kernel
theorem dX2_longestRun_34 : decode cX2_longestRun 34 = .ok (.iload 5, 2) := by decide +kernel
theorem dX2_longestRun_36 : decode cX2_longestRun 36 = .ok (.iconst 3, 1) := by decide +kernel
theorem dX2_longestRun_37 : decode cX2_longestRun 37 = .ok (.if_icmp .ne 9, 3) := by decide +kernel
theorem dX2_longestRun_40 : decode cX2_longestRun 40 = .ok (.iload_n 3, 1) := by decide +kernel
theorem dX2_longestRun_41 : decode cX2_longestRun 41 = .ok (.iconst 1, 1) := by decide +kernel
theorem dX2_longestRun_42 : decode cX2_longestRun 42 = .ok (.iadd, 1) := by decide +kernel
theorem dX2_longestRun_43 : decode cX2_longestRun 43 = .ok (.goto 14, 3) := by decide +kernel
theorem dX2_longestRun_46 : decode cX2_longestRun 46 = .ok (.iload 5, 2) := by decide +kernel
theorem dX2_longestRun_48 : decode cX2_longestRun 48 = .ok (.iconst 2, 1) := by decide +kernel
theorem dX2_longestRun_49 : decode cX2_longestRun 49 = .ok (.if_icmp .ne 7, 3) := by decide +kernel
theorem dX2_longestRun_52 : decode cX2_longestRun 52 = .ok (.iconst 1, 1) := by decide +kernel
theorem dX2_longestRun_53 : decode cX2_longestRun 53 = .ok (.goto 4, 3) := by decide +kernel
theorem dX2_longestRun_56 : decode cX2_longestRun 56 = .ok (.iconst 0, 1) := by decide +kernel
theorem dX2_longestRun_57 : decode cX2_longestRun 57 = .ok (.istore_n 3, 1) := by decide +kernel
theorem dX2_longestRun_58 : decode cX2_longestRun 58 = .ok (.iload_n 1, 1) := by decide +kernel
theorem dX2_longestRun_59 : decode cX2_longestRun 59 = .ok (.iload_n 3, 1) := by decide +kernel
theorem dX2_longestRun_60 : decode cX2_longestRun 60 = .ok (.invokestatic 47, 3) := by decide +kernel
theorem dX2_longestRun_63 : decode cX2_longestRun 63 = .ok (.istore_n 1, 1) := by decide +kernel
theorem dX2_longestRun_64 : decode cX2_longestRun 64 = .ok (.iinc 4 1, 3) := by decide +kernel
theorem dX2_longestRun_67 : decode cX2_longestRun 67 = .ok (.goto (-53), 3) := by decide +kernel
theorem dX2_longestRun_70 : decode cX2_longestRun 70 = .ok (.iinc 2 1, 3) := by decide +kernel
theorem dX2_longestRun_73 : decode cX2_longestRun 73 = .ok (.goto (-69), 3) := by decide +kernel
theorem dX2_longestRun_76 : decode cX2_longestRun 76 = .ok (.iload_n 1, 1) := by decide +kernel
theorem dX2_longestRun_77 : decode cX2_longestRun 77 = .ok (.ireturn, 1) := by decide +kernel
theorem dX3_init_0 : decode cX3_init 0 = .ok (.aload_n 0, 1) := by decide +kernel
theorem dX3_init_1 : decode cX3_init 1 = .ok (.invokespecial 3, 3) := by decide +kernel
theorem dX3_init_4 : decode cX3_init 4 = .ok (.aload_n 0, 1) := by decide +kernel
theorem dX3_init_5 : decode cX3_init 5 = .ok (.sipush 768, 3) := by decide +kernel
theorem dX3_init_8 : decode cX3_init 8 = .ok (.newarray .long, 2) := by decide +kernel
theorem dX3_init_10 : decode cX3_init 10 = .ok (.putfield 9, 3) := by decide +kernel
theorem dX3_init_13 : decode cX3_init 13 = .ok (.aload_n 0, 1) := by decide +kernel
theorem dX3_init_14 : decode cX3_init 14 = .ok (.sipush 256, 3) := by decide +kernel
theorem dX3_init_17 : decode cX3_init 17 = .ok (.newarray .boolean, 2) := by decide +kernel
theorem dX3_init_19 : decode cX3_init 19 = .ok (.putfield 15, 3) := by decide +kernel
theorem dX3_init_22 : decode cX3_init 22 = .ok (.aload_n 0, 1) := by decide +kernel
theorem dX3_init_23 : decode cX3_init 23 = .ok (.sipush 256, 3) := by decide +kernel
theorem dX3_init_26 : decode cX3_init 26 = .ok (.newarray .int, 2) := by decide +kernel
theorem dX3_init_28 : decode cX3_init 28 = .ok (.putfield 19, 3) := by decide +kernel
theorem dX3_init_31 : decode cX3_init 31 = .ok (.return_, 1) := by decide +kernel
theorem dX3_clear_0 : decode cX3_clear 0 = .ok (.iconst 0, 1) := by decide +kernel
theorem dX3_clear_1 : decode cX3_clear 1 = .ok (.istore_n 1, 1) := by decide +kernel
theorem dX3_clear_2 : decode cX3_clear 2 = .ok (.iload_n 1, 1) := by decide +kernel
theorem dX3_clear_3 : decode cX3_clear 3 = .ok (.aload_n 0, 1) := by decide +kernel
theorem dX3_clear_4 : decode cX3_clear 4 = .ok (.getfield 23, 3) := by decide +kernel
theorem dX3_clear_7 : decode cX3_clear 7 = .ok (.if_icmp .ge 47, 3) := by decide +kernel
theorem dX3_clear_10 : decode cX3_clear 10 = .ok (.aload_n 0, 1) := by decide +kernel
theorem dX3_clear_11 : decode cX3_clear 11 = .ok (.getfield 19, 3) := by decide +kernel
theorem dX3_clear_14 : decode cX3_clear 14 = .ok (.iload_n 1, 1) := by decide +kernel
theorem dX3_clear_15 : decode cX3_clear 15 = .ok (.iaload, 1) := by decide +kernel
theorem dX3_clear_16 : decode cX3_clear 16 = .ok (.istore_n 2, 1) := by decide +kernel
theorem dX3_clear_17 : decode cX3_clear 17 = .ok (.aload_n 0, 1) := by decide +kernel
theorem dX3_clear_18 : decode cX3_clear 18 = .ok (.getfield 15, 3) := by decide +kernel
theorem dX3_clear_21 : decode cX3_clear 21 = .ok (.iload_n 2, 1) := by decide +kernel
theorem dX3_clear_22 : decode cX3_clear 22 = .ok (.iconst 0, 1) := by decide +kernel
theorem dX3_clear_23 : decode cX3_clear 23 = .ok (.bastore, 1) := by decide +kernel
theorem dX3_clear_24 : decode cX3_clear 24 = .ok (.iconst 0, 1) := by decide +kernel
theorem dX3_clear_25 : decode cX3_clear 25 = .ok (.istore_n 3, 1) := by decide +kernel
theorem dX3_clear_26 : decode cX3_clear 26 = .ok (.iload_n 3, 1) := by decide +kernel
theorem dX3_clear_27 : decode cX3_clear 27 = .ok (.iconst 3, 1) := by decide +kernel
theorem dX3_clear_28 : decode cX3_clear 28 = .ok (.if_icmp .ge 20, 3) := by decide +kernel
theorem dX3_clear_31 : decode cX3_clear 31 = .ok (.aload_n 0, 1) := by decide +kernel
theorem dX3_clear_32 : decode cX3_clear 32 = .ok (.getfield 9, 3) := by decide +kernel
theorem dX3_clear_35 : decode cX3_clear 35 = .ok (.iload_n 2, 1) := by decide +kernel
theorem dX3_clear_36 : decode cX3_clear 36 = .ok (.iconst 3, 1) := by decide +kernel
theorem dX3_clear_37 : decode cX3_clear 37 = .ok (.imul, 1) := by decide +kernel
theorem dX3_clear_38 : decode cX3_clear 38 = .ok (.iload_n 3, 1) := by decide +kernel
theorem dX3_clear_39 : decode cX3_clear 39 = .ok (.iadd, 1) := by decide +kernel
theorem dX3_clear_40 : decode cX3_clear 40 = .ok (.lconst 0, 1) := by decide +kernel
theorem dX3_clear_41 : decode cX3_clear 41 = .ok (.lastore, 1) := by decide +kernel
theorem dX3_clear_42 : decode cX3_clear 42 = .ok (.iinc 3 1, 3) := by decide +kernel
theorem dX3_clear_45 : decode cX3_clear 45 = .ok (.goto (-19), 3) := by decide +kernel
theorem dX3_clear_48 : decode cX3_clear 48 = .ok (.iinc 1 1, 3) := by decide +kernel
theorem dX3_clear_51 : decode cX3_clear 51 = .ok (.goto (-49), 3) := by decide +kernel
theorem dX3_clear_54 : decode cX3_clear 54 = .ok (.aload_n 0, 1) := by decide +kernel
theorem dX3_clear_55 : decode cX3_clear 55 = .ok (.iconst 0, 1) := by decide +kernel
theorem dX3_clear_56 : decode cX3_clear 56 = .ok (.putfield 23, 3) := by decide +kernel
theorem dX3_clear_59 : decode cX3_clear 59 = .ok (.return_, 1) := by decide +kernel
theorem dX3_isCell_0 : decode cX3_isCell 0 = .ok (.iload_n 0, 1) := by decide +kernel
theorem dX3_isCell_1 : decode cX3_isCell 1 = .ok (.ifCond .lt 23, 3) := by decide +kernel
theorem dX3_isCell_4 : decode cX3_isCell 4 = .ok (.iload_n 0, 1) := by decide +kernel
theorem dX3_isCell_5 : decode cX3_isCell 5 = .ok (.sipush 256, 3) := by decide +kernel
theorem dX3_isCell_8 : decode cX3_isCell 8 = .ok (.if_icmp .ge 16, 3) := by decide +kernel
theorem dX3_isCell_11 : decode cX3_isCell 11 = .ok (.iload_n 1, 1) := by decide +kernel
theorem dX3_isCell_12 : decode cX3_isCell 12 = .ok (.ifCond .lt 12, 3) := by decide +kernel
theorem dX3_isCell_15 : decode cX3_isCell 15 = .ok (.iload_n 1, 1) := by decide +kernel
theorem dX3_isCell_16 : decode cX3_isCell 16 = .ok (.iconst 3, 1) := by decide +kernel
theorem dX3_isCell_17 : decode cX3_isCell 17 = .ok (.if_icmp .ge 7, 3) := by decide +kernel
theorem dX3_isCell_20 : decode cX3_isCell 20 = .ok (.iconst 1, 1) := by decide +kernel
theorem dX3_isCell_21 : decode cX3_isCell 21 = .ok (.goto 4, 3) := by decide +kernel
theorem dX3_isCell_24 : decode cX3_isCell 24 = .ok (.iconst 0, 1) := by decide +kernel
theorem dX3_isCell_25 : decode cX3_isCell 25 = .ok (.ireturn, 1) := by decide +kernel
set_option maxRecDepth 20000 in
theorem ggX3_at_X3_isCell : GoodIn wsX3_at wsX3_isCell := goodIn_r _ [5] (by decide +kernel) (by decide +kernel)
set_option maxRecDepth 20000 in
theorem gX3_at_X3_isCell : GoodIn wsX3_at (va_wsS RX3 27 yX3_isCell wsX3_isCell) := goodIn_app (goodIn_of _ (by decide +kernel)) ggX3_at_X3_isCell
theorem dX3_at_0 : decode cX3_at 0 = .ok (.iload_n 1, 1) := by decide +kernel
theorem dX3_at_1 : decode cX3_at 1 = .ok (.iload_n 2, 1) := by decide +kernel
theorem dX3_at_2 : decode cX3_at 2 = .ok (.invokestatic 27, 3) := by decide +kernel
theorem dX3_at_5 : decode cX3_at 5 = .ok (.ifCond .eq 16, 3) := by decide +kernel
theorem dX3_at_8 : decode cX3_at 8 = .ok (.aload_n 0, 1) := by decide +kernel
theorem dX3_at_9 : decode cX3_at 9 = .ok (.getfield 9, 3) := by decide +kernel
theorem dX3_at_12 : decode cX3_at 12 = .ok (.iload_n 1, 1) := by decide +kernel
theorem dX3_at_13 : decode cX3_at 13 = .ok (.iconst 3, 1) := by decide +kernel
theorem dX3_at_14 : decode cX3_at 14 = .ok (.imul, 1) := by decide +kernel
theorem dX3_at_15 : decode cX3_at 15 = .ok (.iload_n 2, 1) := by decide +kernel
theorem dX3_at_16 : decode cX3_at 16 = .ok (.iadd, 1) := by decide +kernel
theorem dX3_at_17 : decode cX3_at 17 = .ok (.laload, 1) := by decide +kernel
theorem dX3_at_18 : decode cX3_at 18 = .ok (.goto 4, 3) := by decide +kernel
theorem dX3_at_21 : decode cX3_at 21 = .ok (.lconst 0, 1) := by decide +kernel
theorem dX3_at_22 : decode cX3_at 22 = .ok (.lreturn, 1) := by decide +kernel
set_option maxRecDepth 20000 in
theorem ggX3_put_X3_isCell : GoodIn wsX3_put wsX3_isCell := goodIn_r _ [8] (by decide +kernel) (by decide +kernel)
set_option maxRecDepth 20000 in
theorem gX3_put_X3_isCell : GoodIn wsX3_put (va_wsS RX3 27 yX3_isCell wsX3_isCell) := goodIn_app (goodIn_of _ (by decide +kernel)) ggX3_put_X3_isCell
