theorem dX7_deal_0 : decode cX7_deal 0 = .ok (.iload_n 1, 1) := by decide +kernel
theorem dX7_deal_1 : decode cX7_deal 1 = .ok (.iconst 2, 1) := by decide +kernel
theorem dX7_deal_2 : decode cX7_deal 2 = .ok (.if_icmp .lt 34, 3) := by decide +kernel
theorem dX7_deal_5 : decode cX7_deal 5 = .ok (.iload_n 1, 1) := by decide +kernel
theorem dX7_deal_6 : decode cX7_deal 6 = .ok (.iconst 4, 1) := by decide +kernel
theorem dX7_deal_7 : decode cX7_deal 7 = .ok (.if_icmp .gt 29, 3) := by decide +kernel
theorem dX7_deal_10 : decode cX7_deal 10 = .ok (.iload_n 2, 1) := by decide +kernel
theorem dX7_deal_11 : decode cX7_deal 11 = .ok (.iconst 1, 1) := by decide +kernel
theorem dX7_deal_12 : decode cX7_deal 12 = .ok (.if_icmp .lt 24, 3) := by decide +kernel
theorem dX7_deal_15 : decode cX7_deal 15 = .ok (.iload_n 2, 1) := by decide +kernel
theorem dX7_deal_16 : decode cX7_deal 16 = .ok (.bipush 13, 2) := by decide +kernel
theorem dX7_deal_18 : decode cX7_deal 18 = .ok (.if_icmp .gt 18, 3) := by decide +kernel
theorem dX7_deal_21 : decode cX7_deal 21 = .ok (.iload_n 3, 1) := by decide +kernel
theorem dX7_deal_22 : decode cX7_deal 22 = .ok (.iconst 1, 1) := by decide +kernel
theorem dX7_deal_23 : decode cX7_deal 23 = .ok (.if_icmp .lt 13, 3) := by decide +kernel
theorem dX7_deal_26 : decode cX7_deal 26 = .ok (.iload_n 3, 1) := by decide +kernel
theorem dX7_deal_27 : decode cX7_deal 27 = .ok (.ldc 117, 2) := by decide +kernel
theorem dX7_deal_29 : decode cX7_deal 29 = .ok (.if_icmp .gt 7, 3) := by decide +kernel
theorem dX7_deal_32 : decode cX7_deal 32 = .ok (.iconst 1, 1) := by decide +kernel
theorem dX7_deal_33 : decode cX7_deal 33 = .ok (.goto 4, 3) := by decide +kernel
theorem dX7_deal_36 : decode cX7_deal 36 = .ok (.iconst 0, 1) := by decide +kernel
theorem dX7_deal_37 : decode cX7_deal 37 = .ok (.istore 4, 2) := by decide +kernel
theorem dX7_deal_39 : decode cX7_deal 39 = .ok (.iload 4, 2) := by decide +kernel
theorem dX7_deal_41 : decode cX7_deal 41 = .ok (.ifCond .ne 10, 3) := by decide +kernel
theorem dX7_deal_44 : decode cX7_deal 44 = .ok (.aload_n 0, 1) := by decide +kernel
theorem dX7_deal_45 : decode cX7_deal 45 = .ok (.iconst 1, 1) := by decide +kernel
theorem dX7_deal_46 : decode cX7_deal 46 = .ok (.putfield 52, 3) := by decide +kernel
theorem dX7_deal_49 : decode cX7_deal 49 = .ok (.iconst 0, 1) := by decide +kernel
theorem dX7_deal_50 : decode cX7_deal 50 = .ok (.ireturn, 1) := by decide +kernel
theorem dX7_deal_51 : decode cX7_deal 51 = .ok (.aload_n 0, 1) := by decide +kernel
theorem dX7_deal_52 : decode cX7_deal 52 = .ok (.getfield 34, 3) := by decide +kernel
theorem dX7_deal_55 : decode cX7_deal 55 = .ok (.iload_n 1, 1) := by decide +kernel
theorem dX7_deal_56 : decode cX7_deal 56 = .ok (.iload_n 2, 1) := by decide +kernel
theorem dX7_deal_57 : decode cX7_deal 57 = .ok (.iload_n 3, 1) := by decide +kernel
theorem dX7_deal_58 : decode cX7_deal 58 = .ok (.invokevirtual 118, 3) := by decide +kernel
theorem dX7_deal_61 : decode cX7_deal 61 = .ok (.aload_n 0, 1) := by decide +kernel
theorem dX7_deal_62 : decode cX7_deal 62 = .ok (.iconst 0, 1) := by decide +kernel
theorem dX7_deal_63 : decode cX7_deal 63 = .ok (.putfield 52, 3) := by decide +kernel
theorem dX7_deal_66 : decode cX7_deal 66 = .ok (.iconst 1, 1) := by decide +kernel
theorem dX7_deal_67 : decode cX7_deal 67 = .ok (.ireturn, 1) := by decide +kernel
set_option maxRecDepth 20000 in
theorem ggX7_hand_X7_refuse : GoodIn wsX7_hand wsX7_refuse := goodIn_r _ [7, 2, 24, 25, 26, 27, 28, 29, 30] (by decide +kernel) (by decide +kernel)
set_option maxRecDepth 20000 in
theorem gX7_hand_X7_refuse : GoodIn wsX7_hand (wsV RX7 61 RX7 yX7_refuse wsX7_refuse) := goodIn_app (goodIn_of _ (by decide +kernel)) ggX7_hand_X7_refuse
set_option maxRecDepth 20000 in
theorem ggX7_hand_X1_isDealt : GoodIn wsX7_hand wsX1_isDealt := goodIn_r _ [12, 13, 31, 32, 33, 34, 35, 36, 37, 38, 39, 40, 41, 42] (by decide +kernel) (by decide +kernel)
set_option maxRecDepth 20000 in
theorem gX7_hand_X1_isDealt : GoodIn wsX7_hand (wsV RX7 122 RX1 yX1_isDealt wsX1_isDealt) := goodIn_app (goodIn_of _ (by decide +kernel)) ggX7_hand_X1_isDealt
set_option maxRecDepth 20000 in
theorem ggX7_hand_X1_has : GoodIn wsX7_hand wsX1_has := goodIn_r _ [17, 13, 31, 32, 33, 34, 35, 36, 37, 38, 39, 40, 41, 42] (by decide +kernel) (by decide +kernel)
set_option maxRecDepth 20000 in
theorem gX7_hand_X1_has : GoodIn wsX7_hand (wsV RX7 126 RX1 yX1_has wsX1_has) := goodIn_app (goodIn_of _ (by decide +kernel)) ggX7_hand_X1_has
set_option maxRecDepth 20000 in
theorem ggX7_hand_X1_handOf : GoodIn wsX7_hand wsX1_handOf := goodIn_r _ [21, 22, 23, 15, 16, 11, 17, 13, 31, 32, 33, 34, 35, 36, 37, 38, 39, 40, 41, 42] (by decide +kernel) (by decide +kernel)
set_option maxRecDepth 20000 in
theorem gX7_hand_X1_handOf : GoodIn wsX7_hand (wsV RX7 129 RX1 yX1_handOf wsX1_handOf) := goodIn_app (goodIn_of _ (by decide +kernel)) ggX7_hand_X1_handOf
theorem dX7_hand_0 : decode cX7_hand 0 = .ok (.iload_n 1, 1) := by decide +kernel
theorem dX7_hand_1 : decode cX7_hand 1 = .ok (.ifCond .lt 8, 3) := by decide +kernel
theorem dX7_hand_4 : decode cX7_hand 4 = .ok (.iload_n 1, 1) := by decide +kernel
theorem dX7_hand_5 : decode cX7_hand 5 = .ok (.iconst 4, 1) := by decide +kernel
theorem dX7_hand_6 : decode cX7_hand 6 = .ok (.if_icmp .lt 10, 3) := by decide +kernel
theorem dX7_hand_9 : decode cX7_hand 9 = .ok (.aload_n 0, 1) := by decide +kernel
theorem dX7_hand_10 : decode cX7_hand 10 = .ok (.iconst 1, 1) := by decide +kernel
theorem dX7_hand_11 : decode cX7_hand 11 = .ok (.invokevirtual 61, 3) := by decide +kernel
theorem dX7_hand_14 : decode cX7_hand 14 = .ok (.i2l, 1) := by decide +kernel
theorem dX7_hand_15 : decode cX7_hand 15 = .ok (.lreturn, 1) := by decide +kernel
theorem dX7_hand_16 : decode cX7_hand 16 = .ok (.aload_n 0, 1) := by decide +kernel
theorem dX7_hand_17 : decode cX7_hand 17 = .ok (.getfield 34, 3) := by decide +kernel
theorem dX7_hand_20 : decode cX7_hand 20 = .ok (.invokevirtual 122, 3) := by decide +kernel
theorem dX7_hand_23 : decode cX7_hand 23 = .ok (.ifCond .ne 10, 3) := by decide +kernel
theorem dX7_hand_26 : decode cX7_hand 26 = .ok (.aload_n 0, 1) := by decide +kernel
theorem dX7_hand_27 : decode cX7_hand 27 = .ok (.iconst 4, 1) := by decide +kernel
theorem dX7_hand_28 : decode cX7_hand 28 = .ok (.invokevirtual 61, 3) := by decide +kernel
theorem dX7_hand_31 : decode cX7_hand 31 = .ok (.i2l, 1) := by decide +kernel
theorem dX7_hand_32 : decode cX7_hand 32 = .ok (.lreturn, 1) := by decide +kernel
theorem dX7_hand_33 : decode cX7_hand 33 = .ok (.aload_n 0, 1) := by decide +kernel
theorem dX7_hand_34 : decode cX7_hand 34 = .ok (.getfield 34, 3) := by decide +kernel
theorem dX7_hand_37 : decode cX7_hand 37 = .ok (.iload_n 1, 1) := by decide +kernel
theorem dX7_hand_38 : decode cX7_hand 38 = .ok (.invokevirtual 126, 3) := by decide +kernel
theorem dX7_hand_41 : decode cX7_hand 41 = .ok (.ifCond .ne 10, 3) := by decide +kernel
theorem dX7_hand_44 : decode cX7_hand 44 = .ok (.aload_n 0, 1) := by decide +kernel
theorem dX7_hand_45 : decode cX7_hand 45 = .ok (.iconst 1, 1) := by decide +kernel
theorem dX7_hand_46 : decode cX7_hand 46 = .ok (.invokevirtual 61, 3) := by decide +kernel
theorem dX7_hand_49 : decode cX7_hand 49 = .ok (.i2l, 1) := by decide +kernel
theorem dX7_hand_50 : decode cX7_hand 50 = .ok (.lreturn, 1) := by decide +kernel
theorem dX7_hand_51 : decode cX7_hand 51 = .ok (.aload_n 0, 1) := by decide +kernel
theorem dX7_hand_52 : decode cX7_hand 52 = .ok (.iconst 0, 1) := by decide +kernel
theorem dX7_hand_53 : decode cX7_hand 53 = .ok (.putfield 52, 3) := by decide +kernel
theorem dX7_hand_56 : decode cX7_hand 56 = .ok (.aload_n 0, 1) := by decide +kernel
theorem dX7_hand_57 : decode cX7_hand 57 = .ok (.getfield 34, 3) := by decide +kernel
theorem dX7_hand_60 : decode cX7_hand 60 = .ok (.iload_n 1, 1) := by decide +kernel
theorem dX7_hand_61 : decode cX7_hand 61 = .ok (.invokevirtual 129, 3) := by decide +kernel
theorem dX7_hand_64 : decode cX7_hand 64 = .ok (.lreturn, 1) := by decide +kernel
set_option maxRecDepth 20000 in
theorem ggX7_table_X1_isDealt : GoodIn wsX7_table wsX1_isDealt := goodIn_r _ [7, 8, 21, 22, 23, 24, 25, 26, 27, 28, 29, 30, 31, 32] (by decide +kernel) (by decide +kernel)
set_option maxRecDepth 20000 in
theorem gX7_table_X1_isDealt : GoodIn wsX7_table (wsV RX7 122 RX1 yX1_isDealt wsX1_isDealt) := goodIn_app (goodIn_of _ (by decide +kernel)) ggX7_table_X1_isDealt
set_option maxRecDepth 20000 in
theorem ggX7_table_X7_refuse : GoodIn wsX7_table wsX7_refuse := goodIn_r _ [13, 2, 14, 15, 16, 17, 18, 19, 20] (by decide +kernel) (by decide +kernel)
set_option maxRecDepth 20000 in
theorem gX7_table_X7_refuse : GoodIn wsX7_table (wsV RX7 61 RX7 yX7_refuse wsX7_refuse) := goodIn_app (goodIn_of _ (by decide +kernel)) ggX7_table_X7_refuse
theorem dX7_table_0 : decode cX7_table 0 = .ok (.aload_n 0, 1) := by decide +kernel
theorem dX7_table_1 : decode cX7_table 1 = .ok (.getfield 34, 3) := by decide +kernel
theorem dX7_table_4 : decode cX7_table 4 = .ok (.invokevirtual 122, 3) := by decide +kernel
theorem dX7_table_7 : decode cX7_table 7 = .ok (.ifCond .ne 10, 3) := by decide +kernel
theorem dX7_table_10 : decode cX7_table 10 = .ok (.aload_n 0, 1) := by decide +kernel
theorem dX7_table_11 : decode cX7_table 11 = .ok (.iconst 4, 1) := by decide +kernel
theorem dX7_table_12 : decode cX7_table 12 = .ok (.invokevirtual 61, 3) := by decide +kernel
theorem dX7_table_15 : decode cX7_table 15 = .ok (.i2l, 1) := by decide +kernel
theorem dX7_table_16 : decode cX7_table 16 = .ok (.lreturn, 1) := by decide +kernel
theorem dX7_table_17 : decode cX7_table 17 = .ok (.aload_n 0, 1) := by decide +kernel
theorem dX7_table_18 : decode cX7_table 18 = .ok (.iconst 0, 1) := by decide +kernel
theorem dX7_table_19 : decode cX7_table 19 = .ok (.putfield 52, 3) := by decide +kernel
theorem dX7_table_22 : decode cX7_table 22 = .ok (.aload_n 0, 1) := by decide +kernel
theorem dX7_table_23 : decode cX7_table 23 = .ok (.getfield 34, 3) := by decide +kernel
theorem dX7_table_26 : decode cX7_table 26 = .ok (.getfield 133, 3) := by decide +kernel
theorem dX7_table_29 : decode cX7_table 29 = .ok (.lreturn, 1) := by decide +kernel
set_option maxRecDepth 20000 in
theorem ggX7_tell_X7_refuse : GoodIn wsX7_tell wsX7_refuse := goodIn_r _ [7, 2, 24, 25, 26, 27, 28, 29, 30] (by decide +kernel) (by decide +kernel)
set_option maxRecDepth 20000 in
theorem gX7_tell_X7_refuse : GoodIn wsX7_tell (wsV RX7 61 RX7 yX7_refuse wsX7_refuse) := goodIn_app (goodIn_of _ (by decide +kernel)) ggX7_tell_X7_refuse
set_option maxRecDepth 20000 in
theorem ggX7_tell_X1_isDealt : GoodIn wsX7_tell wsX1_isDealt := goodIn_r _ [12, 13, 31, 32, 33, 34, 35, 36, 37, 38, 39, 40, 41, 42] (by decide +kernel) (by decide +kernel)
set_option maxRecDepth 20000 in
theorem gX7_tell_X1_isDealt : GoodIn wsX7_tell (wsV RX7 122 RX1 yX1_isDealt wsX1_isDealt) := goodIn_app (goodIn_of _ (by decide +kernel)) ggX7_tell_X1_isDealt
set_option maxRecDepth 20000 in
theorem ggX7_tell_X1_fact : GoodIn wsX7_tell wsX1_fact := goodIn_r _ [17, 18, 19, 20, 21, 22, 23, 13, 31, 32, 33, 34, 35, 36, 37, 38, 39, 40, 41, 42] (by decide +kernel) (by decide +kernel)
set_option maxRecDepth 20000 in
theorem gX7_tell_X1_fact : GoodIn wsX7_tell (wsV RX7 136 RX1 yX1_fact wsX1_fact) := goodIn_app (goodIn_of _ (by decide +kernel)) ggX7_tell_X1_fact
theorem dX7_tell_0 : decode cX7_tell 0 = .ok (.iload_n 1, 1) := by decide +kernel
theorem dX7_tell_1 : decode cX7_tell 1 = .ok (.ifCond .lt 9, 3) := by decide +kernel
theorem dX7_tell_4 : decode cX7_tell 4 = .ok (.iload_n 1, 1) := by decide +kernel
theorem dX7_tell_5 : decode cX7_tell 5 = .ok (.bipush 6, 2) := by decide +kernel
theorem dX7_tell_7 : decode cX7_tell 7 = .ok (.if_icmp .le 9, 3) := by decide +kernel
theorem dX7_tell_10 : decode cX7_tell 10 = .ok (.aload_n 0, 1) := by decide +kernel
theorem dX7_tell_11 : decode cX7_tell 11 = .ok (.iconst 1, 1) := by decide +kernel
theorem dX7_tell_12 : decode cX7_tell 12 = .ok (.invokevirtual 61, 3) := by decide +kernel
theorem dX7_tell_15 : decode cX7_tell 15 = .ok (.ireturn, 1) := by decide +kernel
theorem dX7_tell_16 : decode cX7_tell 16 = .ok (.aload_n 0, 1) := by decide +kernel
theorem dX7_tell_17 : decode cX7_tell 17 = .ok (.getfield 34, 3) := by decide +kernel
theorem dX7_tell_20 : decode cX7_tell 20 = .ok (.invokevirtual 122, 3) := by decide +kernel
theorem dX7_tell_23 : decode cX7_tell 23 = .ok (.ifCond .ne 9, 3) := by decide +kernel
theorem dX7_tell_26 : decode cX7_tell 26 = .ok (.aload_n 0, 1) := by decide +kernel
theorem dX7_tell_27 : decode cX7_tell 27 = .ok (.iconst 4, 1) := by decide +kernel
theorem dX7_tell_28 : decode cX7_tell 28 = .ok (.invokevirtual 61, 3) := by decide +kernel
theorem dX7_tell_31 : decode cX7_tell 31 = .ok (.ireturn, 1) := by decide +kernel
theorem dX7_tell_32 : decode cX7_tell 32 = .ok (.aload_n 0, 1) := by decide +kernel
theorem dX7_tell_33 : decode cX7_tell 33 = .ok (.iconst 0, 1) := by decide +kernel
theorem dX7_tell_34 : decode cX7_tell 34 = .ok (.putfield 52, 3) := by decide +kernel
theorem dX7_tell_37 : decode cX7_tell 37 = .ok (.aload_n 0, 1) := by decide +kernel
theorem dX7_tell_38 : decode cX7_tell 38 = .ok (.getfield 34, 3) := by decide +kernel
theorem dX7_tell_41 : decode cX7_tell 41 = .ok (.iload_n 1, 1) := by decide +kernel
theorem dX7_tell_42 : decode cX7_tell 42 = .ok (.invokevirtual 136, 3) := by decide +kernel
theorem dX7_tell_45 : decode cX7_tell 45 = .ok (.ireturn, 1) := by decide +kernel
set_option maxRecDepth 20000 in
theorem ggX7_player_X7_refuse : GoodIn wsX7_player wsX7_refuse := goodIn_r _ [7, 2, 61, 62, 63, 64, 65, 66, 67] (by decide +kernel) (by decide +kernel)
set_option maxRecDepth 20000 in
theorem gX7_player_X7_refuse : GoodIn wsX7_player (wsV RX7 61 RX7 yX7_refuse wsX7_refuse) := goodIn_app (goodIn_of _ (by decide +kernel)) ggX7_player_X7_refuse
set_option maxRecDepth 20000 in
theorem ggX7_player_X1_isDealt : GoodIn wsX7_player wsX1_isDealt := goodIn_r _ [12, 13, 68, 69, 70, 71, 72, 73, 74, 75, 76, 77, 78, 79] (by decide +kernel) (by decide +kernel)
set_option maxRecDepth 20000 in
theorem gX7_player_X1_isDealt : GoodIn wsX7_player (wsV RX7 122 RX1 yX1_isDealt wsX1_isDealt) := goodIn_app (goodIn_of _ (by decide +kernel)) ggX7_player_X1_isDealt
set_option maxRecDepth 20000 in
theorem ggX7_player_X1_has : GoodIn wsX7_player wsX1_has := goodIn_r _ [17, 13, 68, 69, 70, 71, 72, 73, 74, 75, 76, 77, 78, 79] (by decide +kernel) (by decide +kernel)
set_option maxRecDepth 20000 in
theorem gX7_player_X1_has : GoodIn wsX7_player (wsV RX7 126 RX1 yX1_has wsX1_has) := goodIn_app (goodIn_of _ (by decide +kernel)) ggX7_player_X1_has
set_option maxRecDepth 20000 in
theorem ggX7_player_X1_hasOpened : GoodIn wsX7_player wsX1_hasOpened := goodIn_r _ [21, 22, 23, 15, 16, 11, 17, 13, 68, 69, 70, 71, 72, 73, 74, 75, 76, 77, 78, 79] (by decide +kernel) (by decide +kernel)
set_option maxRecDepth 20000 in
theorem gX7_player_X1_hasOpened : GoodIn wsX7_player (wsV RX7 139 RX1 yX1_hasOpened wsX1_hasOpened) := goodIn_app (goodIn_of _ (by decide +kernel)) ggX7_player_X1_hasOpened
set_option maxRecDepth 20000 in
theorem ggX7_player_X1_handOf : GoodIn wsX7_player wsX1_handOf := goodIn_r _ [27, 28, 23, 15, 16, 11, 17, 13, 68, 69, 70, 71, 72, 73, 74, 75, 76, 77, 78, 79] (by decide +kernel) (by decide +kernel)
set_option maxRecDepth 20000 in
theorem gX7_player_X1_handOf : GoodIn wsX7_player (wsV RX7 129 RX1 yX1_handOf wsX1_handOf) := goodIn_app (goodIn_of _ (by decide +kernel)) ggX7_player_X1_handOf
set_option maxRecDepth 20000 in
theorem ggX7_player_J13_bitCount_95d88 : GoodIn wsX7_player wsJ13_bitCount_95d88 := goodIn_r _ [32, 33, 34, 35] (by decide +kernel) (by decide +kernel)
set_option maxRecDepth 20000 in
theorem gX7_player_J13_bitCount_95d88 : GoodIn wsX7_player (va_wsS RX7 142 yJ13_bitCount_95d88 wsJ13_bitCount_95d88) := goodIn_app (goodIn_of _ (by decide +kernel)) ggX7_player_J13_bitCount_95d88
set_option maxRecDepth 20000 in
theorem ggX7_player_X0_worthOfSet : GoodIn wsX7_player wsX0_worthOfSet := goodIn_r _ [39, 40, 41, 38, 42, 43, 30, 31, 32, 33, 34, 35, 44, 45, 46, 47, 48, 49, 50, 51, 52, 53, 54, 55, 56, 57, 58, 59, 60] (by decide +kernel) (by decide +kernel)
set_option maxRecDepth 20000 in
theorem gX7_player_X0_worthOfSet : GoodIn wsX7_player (va_wsS RX7 114 yX0_worthOfSet wsX0_worthOfSet) := goodIn_app (goodIn_of _ (by decide +kernel)) ggX7_player_X0_worthOfSet
theorem dX7_player_0 : decode cX7_player 0 = .ok (.iload_n 2, 1) := by decide +kernel
theorem dX7_player_1 : decode cX7_player 1 = .ok (.ifCond .lt 8, 3) := by decide +kernel
theorem dX7_player_4 : decode cX7_player 4 = .ok (.iload_n 2, 1) := by decide +kernel
theorem dX7_player_5 : decode cX7_player 5 = .ok (.iconst 2, 1) := by decide +kernel
theorem dX7_player_6 : decode cX7_player 6 = .ok (.if_icmp .le 9, 3) := by decide +kernel
theorem dX7_player_9 : decode cX7_player 9 = .ok (.aload_n 0, 1) := by decide +kernel
theorem dX7_player_10 : decode cX7_player 10 = .ok (.iconst 1, 1) := by decide +kernel
theorem dX7_player_11 : decode cX7_player 11 = .ok (.invokevirtual 61, 3) := by decide +kernel
theorem dX7_player_14 : decode cX7_player 14 = .ok (.ireturn, 1) := by decide +kernel
theorem dX7_player_15 : decode cX7_player 15 = .ok (.aload_n 0, 1) := by decide +kernel
theorem dX7_player_16 : decode cX7_player 16 = .ok (.getfield 34, 3) := by decide +kernel
theorem dX7_player_19 : decode cX7_player 19 = .ok (.invokevirtual 122, 3) := by decide +kernel
theorem dX7_player_22 : decode cX7_player 22 = .ok (.ifCond .ne 9, 3) := by decide +kernel
theorem dX7_player_25 : decode cX7_player 25 = .ok (.aload_n 0, 1) := by decide +kernel
theorem dX7_player_26 : decode cX7_player 26 = .ok (.iconst 4, 1) := by decide +kernel
theorem dX7_player_27 : decode cX7_player 27 = .ok (.invokevirtual 61, 3) := by decide +kernel
theorem dX7_player_30 : decode cX7_player 30 = .ok (.ireturn, 1) := by decide +kernel
theorem dX7_player_31 : decode cX7_player 31 = .ok (.aload_n 0, 1) := by decide +kernel
theorem dX7_player_32 : decode cX7_player 32 = .ok (.getfield 34, 3) := by decide +kernel
theorem dX7_player_35 : decode cX7_player 35 = .ok (.iload_n 1, 1) := by decide +kernel
theorem dX7_player_36 : decode cX7_player 36 = .ok (.invokevirtual 126, 3) := by decide +kernel
theorem dX7_player_39 : decode cX7_player 39 = .ok (.ifCond .ne 9, 3) := by decide +kernel
theorem dX7_player_42 : decode cX7_player 42 = .ok (.aload_n 0, 1) := by decide +kernel
theorem dX7_player_43 : decode cX7_player 43 = .ok (.iconst 1, 1) := by decide +kernel
theorem dX7_player_44 : decode cX7_player 44 = .ok (.invokevirtual 61, 3) := by decide +kernel
theorem dX7_player_47 : decode cX7_player 47 = .ok (.ireturn, 1) := by decide +kernel
theorem dX7_player_48 : decode cX7_player 48 = .ok (.aload_n 0, 1) := by decide +kernel
theorem dX7_player_49 : decode cX7_player 49 = .ok (.iconst 0, 1) := by decide +kernel
theorem dX7_player_50 : decode cX7_player 50 = .ok (.putfield 52, 3) := by decide +kernel
theorem dX7_player_53 : decode cX7_player 53 = .ok (.iload_n 2, 1) := by decide +kernel
theorem dX7_player_54 : decode cX7_player 54 = .ok (.ifCond .ne 20, 3) := by decide +kernel
theorem dX7_player_57 : decode cX7_player 57 = .ok (.aload_n 0, 1) := by decide +kernel
theorem dX7_player_58 : decode cX7_player 58 = .ok (.getfield 34, 3) := by decide +kernel
theorem dX7_player_61 : decode cX7_player 61 = .ok (.iload_n 1, 1) := by decide +kernel
theorem dX7_player_62 : decode cX7_player 62 = .ok (.invokevirtual 139, 3) := by decide +kernel
theorem dX7_player_65 : decode cX7_player 65 = .ok (.ifCond .eq 7, 3) := by decide +kernel
theorem dX7_player_68 : decode cX7_player 68 = .ok (.iconst 1, 1) := by decide +kernel
theorem dX7_player_69 : decode cX7_player 69 = .ok (.goto 4, 3) := by decide +kernel
theorem dX7_player_72 : decode cX7_player 72 = .ok (.iconst 0, 1) := by decide +kernel
theorem dX7_player_73 : decode cX7_player 73 = .ok (.ireturn, 1) := by decide +kernel
theorem dX7_player_74 : decode cX7_player 74 = .ok (.aload_n 0, 1) := by decide +kernel
theorem dX7_player_75 : decode cX7_player 75 = .ok (.getfield 34, 3) := by decide +kernel
theorem dX7_player_78 : decode cX7_player 78 = .ok (.iload_n 1, 1) := by decide +kernel
theorem dX7_player_79 : decode cX7_player 79 = .ok (.invokevirtual 129, 3) := by decide +kernel
theorem dX7_player_82 : decode cX7_player 82 = .ok (.lstore_n 3, 1) := by decide +kernel
theorem dX7_player_83 : decode cX7_player 83 = .ok (.iload_n 2, 1) := by decide +kernel
theorem dX7_player_84 : decode cX7_player 84 = .ok (.iconst 1, 1) := by decide +kernel
theorem dX7_player_85 : decode cX7_player 85 = .ok (.if_icmp .ne 10, 3) := by decide +kernel
theorem dX7_player_88 : decode cX7_player 88 = .ok (.lload_n 3, 1) := by decide +kernel
theorem dX7_player_89 : decode cX7_player 89 = .ok (.invokestatic 142, 3) := by decide +kernel
theorem dX7_player_92 : decode cX7_player 92 = .ok (.goto 7, 3) := by decide +kernel
theorem dX7_player_95 : decode cX7_player 95 = .ok (.lload_n 3, 1) := by decide +kernel
theorem dX7_player_96 : decode cX7_player 96 = .ok (.invokestatic 114, 3) := by decide +kernel
theorem dX7_player_99 : decode cX7_player 99 = .ok (.ireturn, 1) := by decide +kernel
set_option maxRecDepth 20000 in
theorem ggX7_lay_X0_isSet : GoodIn wsX7_lay wsX0_isSet := goodIn_r _ [7] (by decide +kernel) (by decide +kernel)
set_option maxRecDepth 20000 in
theorem gX7_lay_X0_isSet : GoodIn wsX7_lay (va_wsS RX7 55 yX0_isSet wsX0_isSet) := goodIn_app (goodIn_of _ (by decide +kernel)) ggX7_lay_X0_isSet
set_option maxRecDepth 20000 in
theorem ggX7_lay_X7_refuse : GoodIn wsX7_lay wsX7_refuse := goodIn_r _ [12, 3, 135, 136, 137, 138, 139, 140, 141] (by decide +kernel) (by decide +kernel)
set_option maxRecDepth 20000 in
theorem gX7_lay_X7_refuse : GoodIn wsX7_lay (wsV RX7 61 RX7 yX7_refuse wsX7_refuse) := goodIn_app (goodIn_of _ (by decide +kernel)) ggX7_lay_X7_refuse
set_option maxRecDepth 20000 in
theorem ggX7_lay_X7_barToPlay : GoodIn wsX7_lay wsX7_barToPlay := goodIn_r _ [16, 1, 17, 18, 19, 20, 21, 22, 135, 136, 137, 138, 139, 140, 141, 142, 143, 144, 145, 146, 147, 148, 149, 150, 151, 152, 153] (by decide +kernel) (by decide +kernel)
set_option maxRecDepth 20000 in
theorem gX7_lay_X7_barToPlay : GoodIn wsX7_lay (wsV RX7 147 RX7 yX7_barToPlay wsX7_barToPlay) := goodIn_app (goodIn_of _ (by decide +kernel)) ggX7_lay_X7_barToPlay
set_option maxRecDepth 20000 in
theorem ggX7_lay_X1_handOf : GoodIn wsX7_lay wsX1_handOf := goodIn_r _ [26, 27, 28, 29, 30, 20, 31, 22, 142, 143, 144, 145, 146, 147, 148, 149, 150, 151, 152, 153] (by decide +kernel) (by decide +kernel)
set_option maxRecDepth 20000 in
theorem gX7_lay_X1_handOf : GoodIn wsX7_lay (wsV RX7 129 RX1 yX1_handOf wsX1_handOf) := goodIn_app (goodIn_of _ (by decide +kernel)) ggX7_lay_X1_handOf
set_option maxRecDepth 20000 in
theorem ggX7_lay_X7_tryLaying : GoodIn wsX7_lay wsX7_tryLaying := goodIn_r _ [35, 1, 36, 37, 38, 39, 40, 41, 20, 42, 43, 28, 29, 30, 31, 22, 44, 45, 46, 47, 48, 49, 50, 51, 52, 53, 54, 55, 56, 6, 57, 58, 59, 60, 61, 62, 63, 64, 65, 66, 67, 68, 69, 70, 71, 72, 73, 74, 75, 76, 77, 78, 79, 80, 81, 82, 83, 84, 85, 86, 87, 88, 89, 90, 91, 92, 93, 94, 95, 96, 97, 98, 99, 100, 101, 102, 103, 104, 105, 106, 107, 108, 109, 110, 111, 112, 113, 114, 135, 136, 137, 138, 139, 140, 141, 142, 143, 144, 145, 146, 147, 148, 149, 150, 151, 152, 153, 154, 155, 156, 157, 158] (by decide +kernel) (by decide +kernel)
set_option maxRecDepth 20000 in
theorem gX7_lay_X7_tryLaying : GoodIn wsX7_lay (wsV RX7 155 RX7 yX7_tryLaying wsX7_tryLaying) := goodIn_app (goodIn_of _ (by decide +kernel)) ggX7_lay_X7_tryLaying
set_option maxRecDepth 20000 in
theorem ggX7_lay_X7_carryOut : GoodIn wsX7_lay wsX7_carryOut := goodIn_r _ [118, 1, 119, 120, 121, 20, 122, 123, 27, 124, 43, 125, 126, 127, 128, 28, 29, 30, 31, 22, 129, 130, 131, 11, 132, 133, 37, 135, 136, 137, 138, 139, 140, 141, 142, 143, 144, 145, 146, 147, 148, 149, 150, 151, 152, 153] (by decide +kernel) (by decide +kernel)
set_option maxRecDepth 20000 in
theorem gX7_lay_X7_carryOut : GoodIn wsX7_lay (wsV RX7 158 RX7 yX7_carryOut wsX7_carryOut) := goodIn_app (goodIn_of _ (by decide +kernel)) ggX7_lay_X7_carryOut
set_option maxRecDepth 20000 in
theorem ggX7_lay_J13_bitCount_95d88 : GoodIn wsX7_lay wsJ13_bitCount_95d88 := goodIn_r _ [61, 62, 63, 64] (by decide +kernel) (by decide +kernel)
set_option maxRecDepth 20000 in
theorem gX7_lay_J13_bitCount_95d88 : GoodIn wsX7_lay (va_wsS RX7 142 yJ13_bitCount_95d88 wsJ13_bitCount_95d88) := goodIn_app (goodIn_of _ (by decide +kernel)) ggX7_lay_J13_bitCount_95d88
theorem dX7_lay_0 : decode cX7_lay 0 = .ok (.lload_n 1, 1) := by decide +kernel
theorem dX7_lay_1 : decode cX7_lay 1 = .ok (.invokestatic 55, 3) := by decide +kernel
theorem dX7_lay_4 : decode cX7_lay 4 = .ok (.ifCond .eq 9, 3) := by decide +kernel
theorem dX7_lay_7 : decode cX7_lay 7 = .ok (.lload_n 1, 1) := by decide +kernel
theorem dX7_lay_8 : decode cX7_lay 8 = .ok (.lconst 0, 1) := by decide +kernel
theorem dX7_lay_9 : decode cX7_lay 9 = .ok (.lcmp, 1) := by decide +kernel
theorem dX7_lay_10 : decode cX7_lay 10 = .ok (.ifCond .ne 9, 3) := by decide +kernel
theorem dX7_lay_13 : decode cX7_lay 13 = .ok (.aload_n 0, 1) := by decide +kernel
theorem dX7_lay_14 : decode cX7_lay 14 = .ok (.iconst 1, 1) := by decide +kernel
theorem dX7_lay_15 : decode cX7_lay 15 = .ok (.invokevirtual 61, 3) := by decide +kernel
theorem dX7_lay_18 : decode cX7_lay 18 = .ok (.ireturn, 1) := by decide +kernel
theorem dX7_lay_19 : decode cX7_lay 19 = .ok (.aload_n 0, 1) := by decide +kernel
theorem dX7_lay_20 : decode cX7_lay 20 = .ok (.invokevirtual 147, 3) := by decide +kernel
theorem dX7_lay_23 : decode cX7_lay 23 = .ok (.istore_n 3, 1) := by decide +kernel
theorem dX7_lay_24 : decode cX7_lay 24 = .ok (.iload_n 3, 1) := by decide +kernel
theorem dX7_lay_25 : decode cX7_lay 25 = .ok (.ifCond .eq 9, 3) := by decide +kernel
theorem dX7_lay_28 : decode cX7_lay 28 = .ok (.aload_n 0, 1) := by decide +kernel
theorem dX7_lay_29 : decode cX7_lay 29 = .ok (.iload_n 3, 1) := by decide +kernel
theorem dX7_lay_30 : decode cX7_lay 30 = .ok (.invokevirtual 61, 3) := by decide +kernel
theorem dX7_lay_33 : decode cX7_lay 33 = .ok (.ireturn, 1) := by decide +kernel
theorem dX7_lay_34 : decode cX7_lay 34 = .ok (.lload_n 1, 1) := by decide +kernel
theorem dX7_lay_35 : decode cX7_lay 35 = .ok (.aload_n 0, 1) := by decide +kernel
theorem dX7_lay_36 : decode cX7_lay 36 = .ok (.getfield 34, 3) := by decide +kernel
theorem dX7_lay_39 : decode cX7_lay 39 = .ok (.aload_n 0, 1) := by decide +kernel
theorem dX7_lay_40 : decode cX7_lay 40 = .ok (.getfield 34, 3) := by decide +kernel
theorem dX7_lay_43 : decode cX7_lay 43 = .ok (.getfield 150, 3) := by decide +kernel
theorem dX7_lay_46 : decode cX7_lay 46 = .ok (.invokevirtual 129, 3) := by decide +kernel
theorem dX7_lay_49 : decode cX7_lay 49 = .ok (.ldc2_w 153, 3) := by decide +kernel
theorem dX7_lay_52 : decode cX7_lay 52 = .ok (.lxor, 1) := by decide +kernel
theorem dX7_lay_53 : decode cX7_lay 53 = .ok (.land, 1) := by decide +kernel
theorem dX7_lay_54 : decode cX7_lay 54 = .ok (.lconst 0, 1) := by decide +kernel
theorem dX7_lay_55 : decode cX7_lay 55 = .ok (.lcmp, 1) := by decide +kernel
theorem dX7_lay_56 : decode cX7_lay 56 = .ok (.ifCond .eq 10, 3) := by decide +kernel
theorem dX7_lay_59 : decode cX7_lay 59 = .ok (.aload_n 0, 1) := by decide +kernel
theorem dX7_lay_60 : decode cX7_lay 60 = .ok (.bipush 6, 2) := by decide +kernel
theorem dX7_lay_62 : decode cX7_lay 62 = .ok (.invokevirtual 61, 3) := by decide +kernel
theorem dX7_lay_65 : decode cX7_lay 65 = .ok (.ireturn, 1) := by decide +kernel
theorem dX7_lay_66 : decode cX7_lay 66 = .ok (.aload_n 0, 1) := by decide +kernel
theorem dX7_lay_67 : decode cX7_lay 67 = .ok (.lload_n 1, 1) := by decide +kernel
theorem dX7_lay_68 : decode cX7_lay 68 = .ok (.invokevirtual 155, 3) := by decide +kernel
theorem dX7_lay_71 : decode cX7_lay 71 = .ok (.istore 4, 2) := by decide +kernel
theorem dX7_lay_73 : decode cX7_lay 73 = .ok (.iload 4, 2) := by decide +kernel
theorem dX7_lay_75 : decode cX7_lay 75 = .ok (.ifCond .eq 10, 3) := by decide +kernel
theorem dX7_lay_78 : decode cX7_lay 78 = .ok (.aload_n 0, 1) := by decide +kernel
theorem dX7_lay_79 : decode cX7_lay 79 = .ok (.iload 4, 2) := by decide +kernel
theorem dX7_lay_81 : decode cX7_lay 81 = .ok (.invokevirtual 61, 3) := by decide +kernel
theorem dX7_lay_84 : decode cX7_lay 84 = .ok (.ireturn, 1) := by decide +kernel
theorem dX7_lay_85 : decode cX7_lay 85 = .ok (.aload_n 0, 1) := by decide +kernel
theorem dX7_lay_86 : decode cX7_lay 86 = .ok (.lload_n 1, 1) := by decide +kernel
theorem dX7_lay_87 : decode cX7_lay 87 = .ok (.invokevirtual 158, 3) := by decide +kernel
theorem dX7_lay_90 : decode cX7_lay 90 = .ok (.aload_n 0, 1) := by decide +kernel
theorem dX7_lay_91 : decode cX7_lay 91 = .ok (.iconst 0, 1) := by decide +kernel
theorem dX7_lay_92 : decode cX7_lay 92 = .ok (.putfield 52, 3) := by decide +kernel
theorem dX7_lay_95 : decode cX7_lay 95 = .ok (.aload_n 0, 1) := by decide +kernel
theorem dX7_lay_96 : decode cX7_lay 96 = .ok (.getfield 34, 3) := by decide +kernel
theorem dX7_lay_99 : decode cX7_lay 99 = .ok (.getfield 133, 3) := by decide +kernel
theorem dX7_lay_102 : decode cX7_lay 102 = .ok (.invokestatic 142, 3) := by decide +kernel
theorem dX7_lay_105 : decode cX7_lay 105 = .ok (.ireturn, 1) := by decide +kernel
set_option maxRecDepth 20000 in
theorem ggX7_end_X7_barToPlay : GoodIn wsX7_end wsX7_barToPlay := goodIn_r _ [7, 2, 8, 9, 10, 11, 12, 13, 41, 42, 43, 44, 45, 46, 47, 48, 49, 50, 51, 52, 53, 54, 55, 56, 57, 58, 59] (by decide +kernel) (by decide +kernel)
set_option maxRecDepth 20000 in
theorem gX7_end_X7_barToPlay : GoodIn wsX7_end (wsV RX7 147 RX7 yX7_barToPlay wsX7_barToPlay) := goodIn_app (goodIn_of _ (by decide +kernel)) ggX7_end_X7_barToPlay
set_option maxRecDepth 20000 in
theorem ggX7_end_X7_refuse : GoodIn wsX7_end wsX7_refuse := goodIn_r _ [17, 1, 41, 42, 43, 44, 45, 46, 47] (by decide +kernel) (by decide +kernel)
set_option maxRecDepth 20000 in
theorem gX7_end_X7_refuse : GoodIn wsX7_end (wsV RX7 61 RX7 yX7_refuse wsX7_refuse) := goodIn_app (goodIn_of _ (by decide +kernel)) ggX7_end_X7_refuse
set_option maxRecDepth 20000 in
theorem ggX7_end_X1_endTurn : GoodIn wsX7_end wsX1_endTurn := goodIn_r _ [21, 22, 23, 24, 25, 13, 26, 27, 28, 29, 30, 11, 31, 32, 33, 34, 35, 36, 37, 38, 39, 40, 48, 49, 50, 51, 52, 53, 54, 55, 56, 57, 58, 59] (by decide +kernel) (by decide +kernel)
set_option maxRecDepth 20000 in
theorem gX7_end_X1_endTurn : GoodIn wsX7_end (wsV RX7 162 RX1 yX1_endTurn wsX1_endTurn) := goodIn_app (goodIn_of _ (by decide +kernel)) ggX7_end_X1_endTurn
theorem dX7_end_0 : decode cX7_end 0 = .ok (.aload_n 0, 1) := by decide +kernel
theorem dX7_end_1 : decode cX7_end 1 = .ok (.invokevirtual 147, 3) := by decide +kernel
theorem dX7_end_4 : decode cX7_end 4 = .ok (.istore_n 1, 1) := by decide +kernel
theorem dX7_end_5 : decode cX7_end 5 = .ok (.iload_n 1, 1) := by decide +kernel
theorem dX7_end_6 : decode cX7_end 6 = .ok (.ifCond .eq 9, 3) := by decide +kernel
theorem dX7_end_9 : decode cX7_end 9 = .ok (.aload_n 0, 1) := by decide +kernel
theorem dX7_end_10 : decode cX7_end 10 = .ok (.iload_n 1, 1) := by decide +kernel
theorem dX7_end_11 : decode cX7_end 11 = .ok (.invokevirtual 61, 3) := by decide +kernel
theorem dX7_end_14 : decode cX7_end 14 = .ok (.ireturn, 1) := by decide +kernel
theorem dX7_end_15 : decode cX7_end 15 = .ok (.aload_n 0, 1) := by decide +kernel
theorem dX7_end_16 : decode cX7_end 16 = .ok (.iconst 0, 1) := by decide +kernel
theorem dX7_end_17 : decode cX7_end 17 = .ok (.putfield 52, 3) := by decide +kernel
theorem dX7_end_20 : decode cX7_end 20 = .ok (.aload_n 0, 1) := by decide +kernel
theorem dX7_end_21 : decode cX7_end 21 = .ok (.getfield 34, 3) := by decide +kernel
theorem dX7_end_24 : decode cX7_end 24 = .ok (.invokevirtual 162, 3) := by decide +kernel
theorem dX7_end_27 : decode cX7_end 27 = .ok (.ireturn, 1) := by decide +kernel
set_option maxRecDepth 20000 in
theorem ggX7_robot_X7_isAim : GoodIn wsX7_robot wsX7_isAim := goodIn_r _ [6] (by decide +kernel) (by decide +kernel)
set_option maxRecDepth 20000 in
theorem gX7_robot_X7_isAim : GoodIn wsX7_robot (va_wsS RX7 83 yX7_isAim wsX7_isAim) := goodIn_app (goodIn_of _ (by decide +kernel)) ggX7_robot_X7_isAim
set_option maxRecDepth 20000 in
theorem ggX7_robot_X7_refuse : GoodIn wsX7_robot wsX7_refuse := goodIn_r _ [10, 2, 245, 246, 247, 248, 249, 250, 251] (by decide +kernel) (by decide +kernel)
set_option maxRecDepth 20000 in
theorem gX7_robot_X7_refuse : GoodIn wsX7_robot (wsV RX7 61 RX7 yX7_refuse wsX7_refuse) := goodIn_app (goodIn_of _ (by decide +kernel)) ggX7_robot_X7_refuse
set_option maxRecDepth 20000 in
theorem ggX7_robot_X7_barToPlay : GoodIn wsX7_robot wsX7_barToPlay := goodIn_r _ [14, 1, 15, 16, 17, 18, 19, 20, 245, 246, 247, 248, 249, 250, 251, 252, 253, 254, 255, 256, 257, 258, 259, 260, 261, 262, 263] (by decide +kernel) (by decide +kernel)
set_option maxRecDepth 20000 in
theorem gX7_robot_X7_barToPlay : GoodIn wsX7_robot (wsV RX7 147 RX7 yX7_barToPlay wsX7_barToPlay) := goodIn_app (goodIn_of _ (by decide +kernel)) ggX7_robot_X7_barToPlay
set_option maxRecDepth 20000 in
theorem ggX7_robot_X7_layAllBest : GoodIn wsX7_robot wsX7_layAllBest := goodIn_r _ [24, 1, 25, 26, 27, 28, 18, 29, 30, 31, 32, 33, 34, 20, 35, 36, 37, 38, 39, 40, 41, 42, 43, 44, 45, 46, 47, 48, 49, 50, 51, 52, 53, 54, 55, 56, 57, 58, 59, 60, 61, 62, 63, 64, 65, 66, 67, 68, 69, 70, 71, 72, 73, 74, 75, 76, 77, 78, 79, 80, 81, 82, 83, 84, 85, 86, 87, 88, 89, 90, 91, 92, 93, 94, 95, 96, 97, 98, 99, 100, 101, 102, 103, 104, 105, 106, 107, 108, 109, 110, 111, 112, 113, 114, 115, 116, 117, 118, 119, 120, 121, 122, 123, 124, 125, 126, 127, 128, 129, 130, 131, 132, 133, 134, 135, 136, 137, 138, 139, 140, 141, 142, 143, 144, 145, 146, 147, 148, 149, 150, 151, 152, 153, 154, 155, 156, 157, 158, 159, 160, 161, 162, 163, 164, 165, 166, 167, 168, 169, 170, 171, 172, 5, 173, 174, 175, 176, 177, 178, 179, 180, 181, 182, 183, 184, 185, 186, 187, 188, 189, 190, 191, 192, 193, 194, 195, 196, 197, 198, 199, 200, 201, 202, 203, 204, 205, 206, 207, 208, 209, 210, 211, 212, 213, 214, 215, 216, 217, 218, 219, 220, 221, 222, 223, 224, 225, 226, 227, 228, 229, 245, 246, 247, 248, 249, 250, 251, 252, 253, 254, 255, 256, 257, 258, 259, 260, 261, 262, 263, 264, 265, 266, 267, 268, 269, 270, 271, 272, 273, 274, 275, 276, 277, 278, 279, 280, 281, 282, 283, 284, 285] (by decide +kernel) (by decide +kernel)
set_option maxRecDepth 20000 in
theorem gX7_robot_X7_layAllBest : GoodIn wsX7_robot (wsV RX7 165 RX7 yX7_layAllBest wsX7_layAllBest) := goodIn_app (goodIn_of _ (by decide +kernel)) ggX7_robot_X7_layAllBest
set_option maxRecDepth 20000 in
theorem ggX7_robot_X1_endTurn : GoodIn wsX7_robot wsX1_endTurn := goodIn_r _ [233, 221, 218, 39, 234, 20, 222, 235, 236, 237, 238, 18, 239, 240, 241, 31, 32, 33, 34, 242, 243, 244, 252, 253, 254, 255, 256, 257, 258, 259, 260, 261, 262, 263] (by decide +kernel) (by decide +kernel)
set_option maxRecDepth 20000 in
theorem gX7_robot_X1_endTurn : GoodIn wsX7_robot (wsV RX7 162 RX1 yX1_endTurn wsX1_endTurn) := goodIn_app (goodIn_of _ (by decide +kernel)) ggX7_robot_X1_endTurn
theorem dX7_robot_0 : decode cX7_robot 0 = .ok (.iload_n 1, 1) := by decide +kernel
theorem dX7_robot_1 : decode cX7_robot 1 = .ok (.invokestatic 83, 3) := by decide +kernel
theorem dX7_robot_4 : decode cX7_robot 4 = .ok (.ifCond .ne 9, 3) := by decide +kernel
theorem dX7_robot_7 : decode cX7_robot 7 = .ok (.aload_n 0, 1) := by decide +kernel
theorem dX7_robot_8 : decode cX7_robot 8 = .ok (.iconst 1, 1) := by decide +kernel
theorem dX7_robot_9 : decode cX7_robot 9 = .ok (.invokevirtual 61, 3) := by decide +kernel
theorem dX7_robot_12 : decode cX7_robot 12 = .ok (.ireturn, 1) := by decide +kernel
theorem dX7_robot_13 : decode cX7_robot 13 = .ok (.aload_n 0, 1) := by decide +kernel
theorem dX7_robot_14 : decode cX7_robot 14 = .ok (.invokevirtual 147, 3) := by decide +kernel
theorem dX7_robot_17 : decode cX7_robot 17 = .ok (.istore_n 2, 1) := by decide +kernel
theorem dX7_robot_18 : decode cX7_robot 18 = .ok (.iload_n 2, 1) := by decide +kernel
theorem dX7_robot_19 : decode cX7_robot 19 = .ok (.ifCond .eq 9, 3) := by decide +kernel
theorem dX7_robot_22 : decode cX7_robot 22 = .ok (.aload_n 0, 1) := by decide +kernel
theorem dX7_robot_23 : decode cX7_robot 23 = .ok (.iload_n 2, 1) := by decide +kernel
theorem dX7_robot_24 : decode cX7_robot 24 = .ok (.invokevirtual 61, 3) := by decide +kernel
theorem dX7_robot_27 : decode cX7_robot 27 = .ok (.ireturn, 1) := by decide +kernel
theorem dX7_robot_28 : decode cX7_robot 28 = .ok (.aload_n 0, 1) := by decide +kernel
theorem dX7_robot_29 : decode cX7_robot 29 = .ok (.iload_n 1, 1) := by decide +kernel
theorem dX7_robot_30 : decode cX7_robot 30 = .ok (.invokevirtual 165, 3) := by decide +kernel
theorem dX7_robot_33 : decode cX7_robot 33 = .ok (.istore_n 3, 1) := by decide +kernel
theorem dX7_robot_34 : decode cX7_robot 34 = .ok (.aload_n 0, 1) := by decide +kernel
theorem dX7_robot_35 : decode cX7_robot 35 = .ok (.getfield 34, 3) := by decide +kernel
theorem dX7_robot_38 : decode cX7_robot 38 = .ok (.getfield 168, 3) := by decide +kernel
theorem dX7_robot_41 : decode cX7_robot 41 = .ok (.ifCond .ne 11, 3) := by decide +kernel
theorem dX7_robot_44 : decode cX7_robot 44 = .ok (.aload_n 0, 1) := by decide +kernel
theorem dX7_robot_45 : decode cX7_robot 45 = .ok (.getfield 34, 3) := by decide +kernel
theorem dX7_robot_48 : decode cX7_robot 48 = .ok (.invokevirtual 162, 3) := by decide +kernel
theorem dX7_robot_51 : decode cX7_robot 51 = .ok (.pop, 1) := by decide +kernel
theorem dX7_robot_52 : decode cX7_robot 52 = .ok (.aload_n 0, 1) := by decide +kernel
theorem dX7_robot_53 : decode cX7_robot 53 = .ok (.iconst 0, 1) := by decide +kernel
theorem dX7_robot_54 : decode cX7_robot 54 = .ok (.putfield 52, 3) := by decide +kernel
theorem dX7_robot_57 : decode cX7_robot 57 = .ok (.iload_n 3, 1) := by decide +kernel
theorem dX7_robot_58 : decode cX7_robot 58 = .ok (.ireturn, 1) := by decide +kernel
theorem dX7_refuse_0 : decode cX7_refuse 0 = .ok (.aload_n 0, 1) := by decide +kernel
theorem dX7_refuse_1 : decode cX7_refuse 1 = .ok (.iload_n 1, 1) := by decide +kernel
theorem dX7_refuse_2 : decode cX7_refuse 2 = .ok (.putfield 52, 3) := by decide +kernel
theorem dX7_refuse_5 : decode cX7_refuse 5 = .ok (.iconst (-1), 1) := by decide +kernel
theorem dX7_refuse_6 : decode cX7_refuse 6 = .ok (.ireturn, 1) := by decide +kernel
