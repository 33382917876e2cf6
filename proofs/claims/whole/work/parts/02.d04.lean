theorem dX6_firstJokers_0 : decode cX6_firstJokers 0 = .ok (.lconst 0, 1) := by decide +kernel
theorem dX6_firstJokers_1 : decode cX6_firstJokers 1 = .ok (.lstore_n 2, 1) := by decide +kernel
theorem dX6_firstJokers_2 : decode cX6_firstJokers 2 = .ok (.iload_n 1, 1) := by decide +kernel
theorem dX6_firstJokers_3 : decode cX6_firstJokers 3 = .ok (.istore 4, 2) := by decide +kernel
theorem dX6_firstJokers_5 : decode cX6_firstJokers 5 = .ok (.bipush 52, 2) := by decide +kernel
theorem dX6_firstJokers_7 : decode cX6_firstJokers 7 = .ok (.istore 5, 2) := by decide +kernel
theorem dX6_firstJokers_9 : decode cX6_firstJokers 9 = .ok (.iload 5, 2) := by decide +kernel
theorem dX6_firstJokers_11 : decode cX6_firstJokers 11 = .ok (.bipush 54, 2) := by decide +kernel
theorem dX6_firstJokers_13 : decode cX6_firstJokers 13 = .ok (.if_icmp .ge 38, 3) := by decide +kernel
theorem dX6_firstJokers_16 : decode cX6_firstJokers 16 = .ok (.iload 4, 2) := by decide +kernel
theorem dX6_firstJokers_18 : decode cX6_firstJokers 18 = .ok (.ifCond .le 33, 3) := by decide +kernel
theorem dX6_firstJokers_21 : decode cX6_firstJokers 21 = .ok (.aload_n 0, 1) := by decide +kernel
theorem dX6_firstJokers_22 : decode cX6_firstJokers 22 = .ok (.getfield 45, 3) := by decide +kernel
theorem dX6_firstJokers_25 : decode cX6_firstJokers 25 = .ok (.iload 5, 2) := by decide +kernel
theorem dX6_firstJokers_27 : decode cX6_firstJokers 27 = .ok (.lushr, 1) := by decide +kernel
theorem dX6_firstJokers_28 : decode cX6_firstJokers 28 = .ok (.lconst 1, 1) := by decide +kernel
theorem dX6_firstJokers_29 : decode cX6_firstJokers 29 = .ok (.land, 1) := by decide +kernel
theorem dX6_firstJokers_30 : decode cX6_firstJokers 30 = .ok (.lconst 0, 1) := by decide +kernel
theorem dX6_firstJokers_31 : decode cX6_firstJokers 31 = .ok (.lcmp, 1) := by decide +kernel
theorem dX6_firstJokers_32 : decode cX6_firstJokers 32 = .ok (.ifCond .eq 13, 3) := by decide +kernel
theorem dX6_firstJokers_35 : decode cX6_firstJokers 35 = .ok (.lload_n 2, 1) := by decide +kernel
theorem dX6_firstJokers_36 : decode cX6_firstJokers 36 = .ok (.lconst 1, 1) := by decide +kernel
theorem dX6_firstJokers_37 : decode cX6_firstJokers 37 = .ok (.iload 5, 2) := by decide +kernel
theorem dX6_firstJokers_39 : decode cX6_firstJokers 39 = .ok (.lshl, 1) := by decide +kernel
theorem dX6_firstJokers_40 : decode cX6_firstJokers 40 = .ok (.lor, 1) := by decide +kernel
theorem dX6_firstJokers_41 : decode cX6_firstJokers 41 = .ok (.lstore_n 2, 1) := by decide +kernel
theorem dX6_firstJokers_42 : decode cX6_firstJokers 42 = .ok (.iinc 4 (-1), 3) := by decide +kernel
theorem dX6_firstJokers_45 : decode cX6_firstJokers 45 = .ok (.iinc 5 1, 3) := by decide +kernel
theorem dX6_firstJokers_48 : decode cX6_firstJokers 48 = .ok (.goto (-39), 3) := by decide +kernel
theorem dX6_firstJokers_51 : decode cX6_firstJokers 51 = .ok (.lload_n 2, 1) := by decide +kernel
theorem dX6_firstJokers_52 : decode cX6_firstJokers 52 = .ok (.lreturn, 1) := by decide +kernel
set_option maxRecDepth 20000 in
theorem ggX6_goThrough_X3_clear : GoodIn wsX6_goThrough wsX3_clear := goodIn_r _ [12, 13, 14, 15, 16, 111, 112, 113, 114] (by decide +kernel) (by decide +kernel)
set_option maxRecDepth 20000 in
theorem gX6_goThrough_X3_clear : GoodIn wsX6_goThrough (wsV RX6 106 RX3 yX3_clear wsX3_clear) := goodIn_app (goodIn_of _ (by decide +kernel)) ggX6_goThrough_X3_clear
set_option maxRecDepth 20000 in
theorem ggX6_goThrough_X3_put : GoodIn wsX6_goThrough wsX3_put := goodIn_r _ [20, 15, 13, 14, 16, 21, 22, 11, 23, 111, 112, 113, 114] (by decide +kernel) (by decide +kernel)
set_option maxRecDepth 20000 in
theorem gX6_goThrough_X3_put : GoodIn wsX6_goThrough (wsV RX6 109 RX3 yX3_put wsX3_put) := goodIn_app (goodIn_of _ (by decide +kernel)) ggX6_goThrough_X3_put
set_option maxRecDepth 20000 in
theorem ggX6_goThrough_X6_gatherFitting : GoodIn wsX6_goThrough wsX6_gatherFitting := goodIn_r _ [28, 29, 30, 31, 32, 33, 34, 5, 35, 36, 37, 38, 39, 40, 41, 42, 43, 44, 2, 3, 4, 45, 46, 47, 48, 49, 50, 51, 52, 53, 54, 55, 56, 57, 58, 27, 59, 60, 61, 62, 63, 64, 65, 66, 67, 68, 69, 70, 71, 98, 99, 100, 101, 102, 103, 104, 105, 106, 107, 108, 109, 110] (by decide +kernel) (by decide +kernel)
set_option maxRecDepth 20000 in
theorem gX6_goThrough_X6_gatherFitting : GoodIn wsX6_goThrough (wsV RX6 113 RX6 yX6_gatherFitting wsX6_gatherFitting) := goodIn_app (goodIn_of _ (by decide +kernel)) ggX6_goThrough_X6_gatherFitting
set_option maxRecDepth 20000 in
theorem ggX6_goThrough_X6_goOnFrom : GoodIn wsX6_goThrough wsX6_goOnFrom := goodIn_r _ [75, 36, 35, 76, 77, 47, 78, 79, 80, 81, 82, 70, 71, 83, 84, 85, 86, 87, 88, 27, 89, 5, 6, 60, 7, 90, 91, 92, 3, 93, 94, 95, 96, 11, 97, 16, 21, 22, 23, 17, 18, 19, 20, 15, 13, 14, 98, 99, 100, 101, 102, 103, 104, 105, 106, 107, 108, 109, 110, 111, 112, 113, 114] (by decide +kernel) (by decide +kernel)
set_option maxRecDepth 20000 in
theorem gX6_goThrough_X6_goOnFrom : GoodIn wsX6_goThrough (wsV RX6 116 RX6 yX6_goOnFrom wsX6_goOnFrom) := goodIn_app (goodIn_of _ (by decide +kernel)) ggX6_goThrough_X6_goOnFrom
theorem dX6_goThrough_0 : decode cX6_goThrough 0 = .ok (.aload_n 0, 1) := by decide +kernel
theorem dX6_goThrough_1 : decode cX6_goThrough 1 = .ok (.iload_n 1, 1) := by decide +kernel
theorem dX6_goThrough_2 : decode cX6_goThrough 2 = .ok (.iconst 2, 1) := by decide +kernel
theorem dX6_goThrough_3 : decode cX6_goThrough 3 = .ok (.invokestatic 80, 3) := by decide +kernel
theorem dX6_goThrough_6 : decode cX6_goThrough 6 = .ok (.putfield 103, 3) := by decide +kernel
theorem dX6_goThrough_9 : decode cX6_goThrough 9 = .ok (.aload_n 0, 1) := by decide +kernel
theorem dX6_goThrough_10 : decode cX6_goThrough 10 = .ok (.getfield 28, 3) := by decide +kernel
theorem dX6_goThrough_13 : decode cX6_goThrough 13 = .ok (.invokevirtual 106, 3) := by decide +kernel
theorem dX6_goThrough_16 : decode cX6_goThrough 16 = .ok (.aload_n 0, 1) := by decide +kernel
theorem dX6_goThrough_17 : decode cX6_goThrough 17 = .ok (.getfield 28, 3) := by decide +kernel
theorem dX6_goThrough_20 : decode cX6_goThrough 20 = .ok (.iconst 0, 1) := by decide +kernel
theorem dX6_goThrough_21 : decode cX6_goThrough 21 = .ok (.iconst 0, 1) := by decide +kernel
theorem dX6_goThrough_22 : decode cX6_goThrough 22 = .ok (.lconst 1, 1) := by decide +kernel
theorem dX6_goThrough_23 : decode cX6_goThrough 23 = .ok (.invokevirtual 109, 3) := by decide +kernel
theorem dX6_goThrough_26 : decode cX6_goThrough 26 = .ok (.iconst 0, 1) := by decide +kernel
theorem dX6_goThrough_27 : decode cX6_goThrough 27 = .ok (.istore_n 2, 1) := by decide +kernel
theorem dX6_goThrough_28 : decode cX6_goThrough 28 = .ok (.iload_n 2, 1) := by decide +kernel
theorem dX6_goThrough_29 : decode cX6_goThrough 29 = .ok (.bipush 13, 2) := by decide +kernel
theorem dX6_goThrough_31 : decode cX6_goThrough 31 = .ok (.if_icmp .ge 71, 3) := by decide +kernel
theorem dX6_goThrough_34 : decode cX6_goThrough 34 = .ok (.aload_n 0, 1) := by decide +kernel
theorem dX6_goThrough_35 : decode cX6_goThrough 35 = .ok (.iload_n 2, 1) := by decide +kernel
theorem dX6_goThrough_36 : decode cX6_goThrough 36 = .ok (.invokevirtual 113, 3) := by decide +kernel
theorem dX6_goThrough_39 : decode cX6_goThrough 39 = .ok (.aload_n 0, 1) := by decide +kernel
theorem dX6_goThrough_40 : decode cX6_goThrough 40 = .ok (.getfield 32, 3) := by decide +kernel
theorem dX6_goThrough_43 : decode cX6_goThrough 43 = .ok (.invokevirtual 106, 3) := by decide +kernel
theorem dX6_goThrough_46 : decode cX6_goThrough 46 = .ok (.iconst 0, 1) := by decide +kernel
theorem dX6_goThrough_47 : decode cX6_goThrough 47 = .ok (.istore_n 3, 1) := by decide +kernel
theorem dX6_goThrough_48 : decode cX6_goThrough 48 = .ok (.iload_n 3, 1) := by decide +kernel
theorem dX6_goThrough_49 : decode cX6_goThrough 49 = .ok (.aload_n 0, 1) := by decide +kernel
theorem dX6_goThrough_50 : decode cX6_goThrough 50 = .ok (.getfield 28, 3) := by decide +kernel
theorem dX6_goThrough_53 : decode cX6_goThrough 53 = .ok (.getfield 62, 3) := by decide +kernel
theorem dX6_goThrough_56 : decode cX6_goThrough 56 = .ok (.if_icmp .ge 22, 3) := by decide +kernel
theorem dX6_goThrough_59 : decode cX6_goThrough 59 = .ok (.aload_n 0, 1) := by decide +kernel
theorem dX6_goThrough_60 : decode cX6_goThrough 60 = .ok (.aload_n 0, 1) := by decide +kernel
theorem dX6_goThrough_61 : decode cX6_goThrough 61 = .ok (.getfield 28, 3) := by decide +kernel
theorem dX6_goThrough_64 : decode cX6_goThrough 64 = .ok (.getfield 66, 3) := by decide +kernel
theorem dX6_goThrough_67 : decode cX6_goThrough 67 = .ok (.iload_n 3, 1) := by decide +kernel
theorem dX6_goThrough_68 : decode cX6_goThrough 68 = .ok (.iaload, 1) := by decide +kernel
theorem dX6_goThrough_69 : decode cX6_goThrough 69 = .ok (.invokevirtual 116, 3) := by decide +kernel
theorem dX6_goThrough_72 : decode cX6_goThrough 72 = .ok (.iinc 3 1, 3) := by decide +kernel
theorem dX6_goThrough_75 : decode cX6_goThrough 75 = .ok (.goto (-27), 3) := by decide +kernel
theorem dX6_goThrough_78 : decode cX6_goThrough 78 = .ok (.aload_n 0, 1) := by decide +kernel
theorem dX6_goThrough_79 : decode cX6_goThrough 79 = .ok (.getfield 28, 3) := by decide +kernel
theorem dX6_goThrough_82 : decode cX6_goThrough 82 = .ok (.astore_n 3, 1) := by decide +kernel
theorem dX6_goThrough_83 : decode cX6_goThrough 83 = .ok (.aload_n 0, 1) := by decide +kernel
theorem dX6_goThrough_84 : decode cX6_goThrough 84 = .ok (.aload_n 0, 1) := by decide +kernel
theorem dX6_goThrough_85 : decode cX6_goThrough 85 = .ok (.getfield 32, 3) := by decide +kernel
theorem dX6_goThrough_88 : decode cX6_goThrough 88 = .ok (.putfield 28, 3) := by decide +kernel
theorem dX6_goThrough_91 : decode cX6_goThrough 91 = .ok (.aload_n 0, 1) := by decide +kernel
theorem dX6_goThrough_92 : decode cX6_goThrough 92 = .ok (.aload_n 3, 1) := by decide +kernel
theorem dX6_goThrough_93 : decode cX6_goThrough 93 = .ok (.putfield 32, 3) := by decide +kernel
theorem dX6_goThrough_96 : decode cX6_goThrough 96 = .ok (.iinc 2 1, 3) := by decide +kernel
theorem dX6_goThrough_99 : decode cX6_goThrough 99 = .ok (.goto (-71), 3) := by decide +kernel
theorem dX6_goThrough_102 : decode cX6_goThrough 102 = .ok (.return_, 1) := by decide +kernel
set_option maxRecDepth 20000 in
theorem ggX6_goOnFrom_X5_canContinue : GoodIn wsX6_goOnFrom wsX5_canContinue := goodIn_r _ [6] (by decide +kernel) (by decide +kernel)
set_option maxRecDepth 20000 in
theorem gX6_goOnFrom_X5_canContinue : GoodIn wsX6_goOnFrom (va_wsS RX6 119 yX5_canContinue wsX5_canContinue) := goodIn_app (goodIn_of _ (by decide +kernel)) ggX6_goOnFrom_X5_canContinue
set_option maxRecDepth 20000 in
theorem ggX6_goOnFrom_X5_stateAfter : GoodIn wsX6_goOnFrom wsX5_stateAfter := goodIn_r _ [9, 10, 11, 5, 12, 13, 14, 15] (by decide +kernel) (by decide +kernel)
set_option maxRecDepth 20000 in
theorem gX6_goOnFrom_X5_stateAfter : GoodIn wsX6_goOnFrom (va_wsS RX6 123 yX5_stateAfter wsX5_stateAfter) := goodIn_app (goodIn_of _ (by decide +kernel)) ggX6_goOnFrom_X5_stateAfter
set_option maxRecDepth 20000 in
theorem ggX6_goOnFrom_X6_carry : GoodIn wsX6_goOnFrom wsX6_carry := goodIn_r _ [20, 21, 22, 23, 24, 25, 26, 27, 28, 29, 30, 31, 32, 33, 34, 35, 36, 37, 38, 39, 40, 41, 42, 43, 44, 45, 46, 47, 48, 49, 50, 51, 52, 53, 54, 55, 56, 57, 58, 59, 60, 61, 62] (by decide +kernel) (by decide +kernel)
set_option maxRecDepth 20000 in
theorem gX6_goOnFrom_X6_carry : GoodIn wsX6_goOnFrom (wsV RX6 126 RX6 yX6_carry wsX6_carry) := goodIn_app (goodIn_of _ (by decide +kernel)) ggX6_goOnFrom_X6_carry
theorem dX6_goOnFrom_0 : decode cX6_goOnFrom 0 = .ok (.iconst 0, 1) := by decide +kernel
theorem dX6_goOnFrom_1 : decode cX6_goOnFrom 1 = .ok (.istore_n 2, 1) := by decide +kernel
theorem dX6_goOnFrom_2 : decode cX6_goOnFrom 2 = .ok (.iload_n 2, 1) := by decide +kernel
theorem dX6_goOnFrom_3 : decode cX6_goOnFrom 3 = .ok (.bipush 15, 2) := by decide +kernel
theorem dX6_goOnFrom_5 : decode cX6_goOnFrom 5 = .ok (.if_icmp .gt 58, 3) := by decide +kernel
theorem dX6_goOnFrom_8 : decode cX6_goOnFrom 8 = .ok (.iload_n 1, 1) := by decide +kernel
theorem dX6_goOnFrom_9 : decode cX6_goOnFrom 9 = .ok (.iload_n 2, 1) := by decide +kernel
theorem dX6_goOnFrom_10 : decode cX6_goOnFrom 10 = .ok (.invokestatic 119, 3) := by decide +kernel
theorem dX6_goOnFrom_13 : decode cX6_goOnFrom 13 = .ok (.ifCond .eq 44, 3) := by decide +kernel
theorem dX6_goOnFrom_16 : decode cX6_goOnFrom 16 = .ok (.aload_n 0, 1) := by decide +kernel
theorem dX6_goOnFrom_17 : decode cX6_goOnFrom 17 = .ok (.getfield 18, 3) := by decide +kernel
theorem dX6_goOnFrom_20 : decode cX6_goOnFrom 20 = .ok (.iload_n 2, 1) := by decide +kernel
theorem dX6_goOnFrom_21 : decode cX6_goOnFrom 21 = .ok (.iaload, 1) := by decide +kernel
theorem dX6_goOnFrom_22 : decode cX6_goOnFrom 22 = .ok (.istore_n 3, 1) := by decide +kernel
theorem dX6_goOnFrom_23 : decode cX6_goOnFrom 23 = .ok (.iload_n 3, 1) := by decide +kernel
theorem dX6_goOnFrom_24 : decode cX6_goOnFrom 24 = .ok (.aload_n 0, 1) := by decide +kernel
theorem dX6_goOnFrom_25 : decode cX6_goOnFrom 25 = .ok (.getfield 18, 3) := by decide +kernel
theorem dX6_goOnFrom_28 : decode cX6_goOnFrom 28 = .ok (.iload_n 2, 1) := by decide +kernel
theorem dX6_goOnFrom_29 : decode cX6_goOnFrom 29 = .ok (.iconst 1, 1) := by decide +kernel
theorem dX6_goOnFrom_30 : decode cX6_goOnFrom 30 = .ok (.iadd, 1) := by decide +kernel
theorem dX6_goOnFrom_31 : decode cX6_goOnFrom 31 = .ok (.iaload, 1) := by decide +kernel
theorem dX6_goOnFrom_32 : decode cX6_goOnFrom 32 = .ok (.if_icmp .ge 25, 3) := by decide +kernel
theorem dX6_goOnFrom_35 : decode cX6_goOnFrom 35 = .ok (.aload_n 0, 1) := by decide +kernel
theorem dX6_goOnFrom_36 : decode cX6_goOnFrom 36 = .ok (.iload_n 1, 1) := by decide +kernel
theorem dX6_goOnFrom_37 : decode cX6_goOnFrom 37 = .ok (.iload_n 1, 1) := by decide +kernel
theorem dX6_goOnFrom_38 : decode cX6_goOnFrom 38 = .ok (.aload_n 0, 1) := by decide +kernel
theorem dX6_goOnFrom_39 : decode cX6_goOnFrom 39 = .ok (.getfield 15, 3) := by decide +kernel
theorem dX6_goOnFrom_42 : decode cX6_goOnFrom 42 = .ok (.iload_n 3, 1) := by decide +kernel
theorem dX6_goOnFrom_43 : decode cX6_goOnFrom 43 = .ok (.iaload, 1) := by decide +kernel
theorem dX6_goOnFrom_44 : decode cX6_goOnFrom 44 = .ok (.invokestatic 123, 3) := by decide +kernel
theorem dX6_goOnFrom_47 : decode cX6_goOnFrom 47 = .ok (.iload_n 3, 1) := by decide +kernel
theorem dX6_goOnFrom_48 : decode cX6_goOnFrom 48 = .ok (.invokevirtual 126, 3) := by decide +kernel
theorem dX6_goOnFrom_51 : decode cX6_goOnFrom 51 = .ok (.iinc 3 1, 3) := by decide +kernel
theorem dX6_goOnFrom_54 : decode cX6_goOnFrom 54 = .ok (.goto (-31), 3) := by decide +kernel
theorem dX6_goOnFrom_57 : decode cX6_goOnFrom 57 = .ok (.iinc 2 1, 3) := by decide +kernel
theorem dX6_goOnFrom_60 : decode cX6_goOnFrom 60 = .ok (.goto (-58), 3) := by decide +kernel
theorem dX6_goOnFrom_63 : decode cX6_goOnFrom 63 = .ok (.return_, 1) := by decide +kernel
set_option maxRecDepth 20000 in
theorem ggX6_carry_X3_at : GoodIn wsX6_carry wsX3_at := goodIn_r _ [14, 15, 16, 17, 13, 18, 39, 40, 41, 42] (by decide +kernel) (by decide +kernel)
set_option maxRecDepth 20000 in
theorem gX6_carry_X3_at : GoodIn wsX6_carry (wsV RX6 73 RX3 yX3_at wsX3_at) := goodIn_app (goodIn_of _ (by decide +kernel)) ggX6_carry_X3_at
set_option maxRecDepth 20000 in
theorem ggX6_carry_X3_put : GoodIn wsX6_carry wsX3_put := goodIn_r _ [22, 23, 24, 25, 15, 16, 17, 13, 18, 39, 40, 41, 42] (by decide +kernel) (by decide +kernel)
set_option maxRecDepth 20000 in
theorem gX6_carry_X3_put : GoodIn wsX6_carry (wsV RX6 109 RX3 yX3_put wsX3_put) := goodIn_app (goodIn_of _ (by decide +kernel)) ggX6_carry_X3_put
theorem dX6_carry_0 : decode cX6_carry 0 = .ok (.iconst 0, 1) := by decide +kernel
theorem dX6_carry_1 : decode cX6_carry 1 = .ok (.istore 4, 2) := by decide +kernel
theorem dX6_carry_3 : decode cX6_carry 3 = .ok (.iload 4, 2) := by decide +kernel
theorem dX6_carry_5 : decode cX6_carry 5 = .ok (.aload_n 0, 1) := by decide +kernel
theorem dX6_carry_6 : decode cX6_carry 6 = .ok (.getfield 103, 3) := by decide +kernel
theorem dX6_carry_9 : decode cX6_carry 9 = .ok (.if_icmp .gt 122, 3) := by decide +kernel
theorem dX6_carry_12 : decode cX6_carry 12 = .ok (.aload_n 0, 1) := by decide +kernel
theorem dX6_carry_13 : decode cX6_carry 13 = .ok (.getfield 28, 3) := by decide +kernel
theorem dX6_carry_16 : decode cX6_carry 16 = .ok (.iload_n 1, 1) := by decide +kernel
theorem dX6_carry_17 : decode cX6_carry 17 = .ok (.iload 4, 2) := by decide +kernel
theorem dX6_carry_19 : decode cX6_carry 19 = .ok (.invokevirtual 73, 3) := by decide +kernel
theorem dX6_carry_22 : decode cX6_carry 22 = .ok (.lstore 5, 2) := by decide +kernel
theorem dX6_carry_24 : decode cX6_carry 24 = .ok (.iconst 0, 1) := by decide +kernel
theorem dX6_carry_25 : decode cX6_carry 25 = .ok (.istore 7, 2) := by decide +kernel
theorem dX6_carry_27 : decode cX6_carry 27 = .ok (.lload 5, 2) := by decide +kernel
theorem dX6_carry_29 : decode cX6_carry 29 = .ok (.lconst 0, 1) := by decide +kernel
theorem dX6_carry_30 : decode cX6_carry 30 = .ok (.lcmp, 1) := by decide +kernel
theorem dX6_carry_31 : decode cX6_carry 31 = .ok (.ifCond .eq 94, 3) := by decide +kernel
theorem dX6_carry_34 : decode cX6_carry 34 = .ok (.iload 4, 2) := by decide +kernel
theorem dX6_carry_36 : decode cX6_carry 36 = .ok (.iload 7, 2) := by decide +kernel
theorem dX6_carry_38 : decode cX6_carry 38 = .ok (.iadd, 1) := by decide +kernel
theorem dX6_carry_39 : decode cX6_carry 39 = .ok (.aload_n 0, 1) := by decide +kernel
theorem dX6_carry_40 : decode cX6_carry 40 = .ok (.getfield 103, 3) := by decide +kernel
theorem dX6_carry_43 : decode cX6_carry 43 = .ok (.if_icmp .gt 82, 3) := by decide +kernel
theorem dX6_carry_46 : decode cX6_carry 46 = .ok (.aload_n 0, 1) := by decide +kernel
theorem dX6_carry_47 : decode cX6_carry 47 = .ok (.getfield 21, 3) := by decide +kernel
theorem dX6_carry_50 : decode cX6_carry 50 = .ok (.iload_n 3, 1) := by decide +kernel
theorem dX6_carry_51 : decode cX6_carry 51 = .ok (.iconst 3, 1) := by decide +kernel
theorem dX6_carry_52 : decode cX6_carry 52 = .ok (.imul, 1) := by decide +kernel
theorem dX6_carry_53 : decode cX6_carry 53 = .ok (.iload 7, 2) := by decide +kernel
theorem dX6_carry_55 : decode cX6_carry 55 = .ok (.iadd, 1) := by decide +kernel
theorem dX6_carry_56 : decode cX6_carry 56 = .ok (.laload, 1) := by decide +kernel
theorem dX6_carry_57 : decode cX6_carry 57 = .ok (.lstore 8, 2) := by decide +kernel
theorem dX6_carry_59 : decode cX6_carry 59 = .ok (.lload 8, 2) := by decide +kernel
theorem dX6_carry_61 : decode cX6_carry 61 = .ok (.lconst 0, 1) := by decide +kernel
theorem dX6_carry_62 : decode cX6_carry 62 = .ok (.lcmp, 1) := by decide +kernel
theorem dX6_carry_63 : decode cX6_carry 63 = .ok (.ifCond .lt 56, 3) := by decide +kernel
theorem dX6_carry_66 : decode cX6_carry 66 = .ok (.aload_n 0, 1) := by decide +kernel
theorem dX6_carry_67 : decode cX6_carry 67 = .ok (.getfield 32, 3) := by decide +kernel
theorem dX6_carry_70 : decode cX6_carry 70 = .ok (.iload_n 2, 1) := by decide +kernel
theorem dX6_carry_71 : decode cX6_carry 71 = .ok (.iload 4, 2) := by decide +kernel
theorem dX6_carry_73 : decode cX6_carry 73 = .ok (.iload 7, 2) := by decide +kernel
theorem dX6_carry_75 : decode cX6_carry 75 = .ok (.iadd, 1) := by decide +kernel
theorem dX6_carry_76 : decode cX6_carry 76 = .ok (.invokevirtual 73, 3) := by decide +kernel
theorem dX6_carry_79 : decode cX6_carry 79 = .ok (.lstore 10, 2) := by decide +kernel
theorem dX6_carry_81 : decode cX6_carry 81 = .ok (.aload_n 0, 1) := by decide +kernel
theorem dX6_carry_82 : decode cX6_carry 82 = .ok (.getfield 32, 3) := by decide +kernel
theorem dX6_carry_85 : decode cX6_carry 85 = .ok (.iload_n 2, 1) := by decide +kernel
theorem dX6_carry_86 : decode cX6_carry 86 = .ok (.iload 4, 2) := by decide +kernel
theorem dX6_carry_88 : decode cX6_carry 88 = .ok (.iload 7, 2) := by decide +kernel
theorem dX6_carry_90 : decode cX6_carry 90 = .ok (.iadd, 1) := by decide +kernel
theorem dX6_carry_91 : decode cX6_carry 91 = .ok (.aload_n 0, 1) := by decide +kernel
theorem dX6_carry_92 : decode cX6_carry 92 = .ok (.getfield 48, 3) := by decide +kernel
theorem dX6_carry_95 : decode cX6_carry 95 = .ok (.ifCond .eq 11, 3) := by decide +kernel
theorem dX6_carry_98 : decode cX6_carry 98 = .ok (.lload 10, 2) := by decide +kernel
theorem dX6_carry_100 : decode cX6_carry 100 = .ok (.lload 5, 2) := by decide +kernel
theorem dX6_carry_102 : decode cX6_carry 102 = .ok (.ladd, 1) := by decide +kernel
theorem dX6_carry_103 : decode cX6_carry 103 = .ok (.goto 13, 3) := by decide +kernel
theorem dX6_carry_106 : decode cX6_carry 106 = .ok (.lload 10, 2) := by decide +kernel
theorem dX6_carry_108 : decode cX6_carry 108 = .ok (.lload 5, 2) := by decide +kernel
theorem dX6_carry_110 : decode cX6_carry 110 = .ok (.lload 8, 2) := by decide +kernel
theorem dX6_carry_112 : decode cX6_carry 112 = .ok (.ladd, 1) := by decide +kernel
theorem dX6_carry_113 : decode cX6_carry 113 = .ok (.invokestatic 99, 3) := by decide +kernel
theorem dX6_carry_116 : decode cX6_carry 116 = .ok (.invokevirtual 109, 3) := by decide +kernel
theorem dX6_carry_119 : decode cX6_carry 119 = .ok (.iinc 7 1, 3) := by decide +kernel
theorem dX6_carry_122 : decode cX6_carry 122 = .ok (.goto (-95), 3) := by decide +kernel
theorem dX6_carry_125 : decode cX6_carry 125 = .ok (.iinc 4 1, 3) := by decide +kernel
theorem dX6_carry_128 : decode cX6_carry 128 = .ok (.goto (-125), 3) := by decide +kernel
theorem dX6_carry_131 : decode cX6_carry 131 = .ok (.return_, 1) := by decide +kernel
set_option maxRecDepth 20000 in
theorem ggX6_gatherFitting_X0_coloursOf : GoodIn wsX6_gatherFitting wsX0_coloursOf := goodIn_r _ [13] (by decide +kernel) (by decide +kernel)
set_option maxRecDepth 20000 in
theorem gX6_gatherFitting_X0_coloursOf : GoodIn wsX6_gatherFitting (va_wsS RX6 130 yX0_coloursOf wsX0_coloursOf) := goodIn_app (goodIn_of _ (by decide +kernel)) ggX6_gatherFitting_X0_coloursOf
set_option maxRecDepth 20000 in
theorem ggX6_gatherFitting_X0_worthOfNumber : GoodIn wsX6_gatherFitting wsX0_worthOfNumber := goodIn_r _ [16, 17, 18, 19, 20] (by decide +kernel) (by decide +kernel)
set_option maxRecDepth 20000 in
theorem gX6_gatherFitting_X0_worthOfNumber : GoodIn wsX6_gatherFitting (va_wsS RX6 134 yX0_worthOfNumber wsX0_worthOfNumber) := goodIn_app (goodIn_of _ (by decide +kernel)) ggX6_gatherFitting_X0_worthOfNumber
set_option maxRecDepth 20000 in
theorem ggX6_gatherFitting_X5_shown : GoodIn wsX6_gatherFitting wsX5_shown := goodIn_r _ [24] (by decide +kernel) (by decide +kernel)
set_option maxRecDepth 20000 in
theorem gX6_gatherFitting_X5_shown : GoodIn wsX6_gatherFitting (va_wsS RX6 143 yX5_shown wsX5_shown) := goodIn_app (goodIn_of _ (by decide +kernel)) ggX6_gatherFitting_X5_shown
set_option maxRecDepth 20000 in
theorem ggX6_gatherFitting_J6_bitCount_0f7a4 : GoodIn wsX6_gatherFitting wsJ6_bitCount_0f7a4 := goodIn_r _ [28, 29, 30, 31] (by decide +kernel) (by decide +kernel)
set_option maxRecDepth 20000 in
theorem gX6_gatherFitting_J6_bitCount_0f7a4 : GoodIn wsX6_gatherFitting (va_wsS RX6 146 yJ6_bitCount_0f7a4 wsJ6_bitCount_0f7a4) := goodIn_app (goodIn_of _ (by decide +kernel)) ggX6_gatherFitting_J6_bitCount_0f7a4
set_option maxRecDepth 20000 in
theorem ggX6_gatherFitting_X6_setGains : GoodIn wsX6_gatherFitting wsX6_setGains := goodIn_r _ [36, 5, 37, 38, 39, 40, 41, 35, 42, 4, 25, 26, 27, 28, 29, 30, 31, 43, 44, 45, 49, 50, 51, 52, 53, 54, 55, 56, 57, 58, 59, 60, 61] (by decide +kernel) (by decide +kernel)
set_option maxRecDepth 20000 in
theorem gX6_gatherFitting_X6_setGains : GoodIn wsX6_gatherFitting (wsV RX6 151 RX6 yX6_setGains wsX6_setGains) := goodIn_app (goodIn_of _ (by decide +kernel)) ggX6_gatherFitting_X6_setGains
set_option maxRecDepth 20000 in
theorem ggX6_gatherFitting_X5_continued : GoodIn wsX6_gatherFitting wsX5_continued := goodIn_r _ [48] (by decide +kernel) (by decide +kernel)
set_option maxRecDepth 20000 in
theorem gX6_gatherFitting_X5_continued : GoodIn wsX6_gatherFitting (va_wsS RX6 35 yX5_continued wsX5_continued) := goodIn_app (goodIn_of _ (by decide +kernel)) ggX6_gatherFitting_X5_continued
theorem dX6_gatherFitting_0 : decode cX6_gatherFitting 0 = .ok (.aload_n 0, 1) := by decide +kernel
theorem dX6_gatherFitting_1 : decode cX6_gatherFitting 1 = .ok (.getfield 41, 3) := by decide +kernel
theorem dX6_gatherFitting_4 : decode cX6_gatherFitting 4 = .ok (.iload_n 1, 1) := by decide +kernel
theorem dX6_gatherFitting_5 : decode cX6_gatherFitting 5 = .ok (.invokestatic 130, 3) := by decide +kernel
theorem dX6_gatherFitting_8 : decode cX6_gatherFitting 8 = .ok (.istore_n 2, 1) := by decide +kernel
theorem dX6_gatherFitting_9 : decode cX6_gatherFitting 9 = .ok (.aload_n 0, 1) := by decide +kernel
theorem dX6_gatherFitting_10 : decode cX6_gatherFitting 10 = .ok (.getfield 45, 3) := by decide +kernel
theorem dX6_gatherFitting_13 : decode cX6_gatherFitting 13 = .ok (.iload_n 1, 1) := by decide +kernel
theorem dX6_gatherFitting_14 : decode cX6_gatherFitting 14 = .ok (.invokestatic 130, 3) := by decide +kernel
theorem dX6_gatherFitting_17 : decode cX6_gatherFitting 17 = .ok (.istore_n 3, 1) := by decide +kernel
theorem dX6_gatherFitting_18 : decode cX6_gatherFitting 18 = .ok (.aload_n 0, 1) := by decide +kernel
theorem dX6_gatherFitting_19 : decode cX6_gatherFitting 19 = .ok (.aload_n 0, 1) := by decide +kernel
theorem dX6_gatherFitting_20 : decode cX6_gatherFitting 20 = .ok (.getfield 77, 3) := by decide +kernel
theorem dX6_gatherFitting_23 : decode cX6_gatherFitting 23 = .ok (.ifCond .eq 10, 3) := by decide +kernel
theorem dX6_gatherFitting_26 : decode cX6_gatherFitting 26 = .ok (.iload_n 1, 1) := by decide +kernel
theorem dX6_gatherFitting_27 : decode cX6_gatherFitting 27 = .ok (.invokestatic 134, 3) := by decide +kernel
theorem dX6_gatherFitting_30 : decode cX6_gatherFitting 30 = .ok (.goto 4, 3) := by decide +kernel
theorem dX6_gatherFitting_33 : decode cX6_gatherFitting 33 = .ok (.iconst 1, 1) := by decide +kernel
theorem dX6_gatherFitting_34 : decode cX6_gatherFitting 34 = .ok (.putfield 137, 3) := by decide +kernel
theorem dX6_gatherFitting_37 : decode cX6_gatherFitting 37 = .ok (.aload_n 0, 1) := by decide +kernel
theorem dX6_gatherFitting_38 : decode cX6_gatherFitting 38 = .ok (.iconst 0, 1) := by decide +kernel
theorem dX6_gatherFitting_39 : decode cX6_gatherFitting 39 = .ok (.putfield 140, 3) := by decide +kernel
theorem dX6_gatherFitting_42 : decode cX6_gatherFitting 42 = .ok (.iconst 0, 1) := by decide +kernel
theorem dX6_gatherFitting_43 : decode cX6_gatherFitting 43 = .ok (.istore 4, 2) := by decide +kernel
theorem dX6_gatherFitting_45 : decode cX6_gatherFitting 45 = .ok (.iload 4, 2) := by decide +kernel
theorem dX6_gatherFitting_47 : decode cX6_gatherFitting 47 = .ok (.bipush 94, 2) := by decide +kernel
theorem dX6_gatherFitting_49 : decode cX6_gatherFitting 49 = .ok (.if_icmp .ge 110, 3) := by decide +kernel
theorem dX6_gatherFitting_52 : decode cX6_gatherFitting 52 = .ok (.aload_n 0, 1) := by decide +kernel
theorem dX6_gatherFitting_53 : decode cX6_gatherFitting 53 = .ok (.getfield 9, 3) := by decide +kernel
theorem dX6_gatherFitting_56 : decode cX6_gatherFitting 56 = .ok (.iload 4, 2) := by decide +kernel
theorem dX6_gatherFitting_58 : decode cX6_gatherFitting 58 = .ok (.iaload, 1) := by decide +kernel
theorem dX6_gatherFitting_59 : decode cX6_gatherFitting 59 = .ok (.invokestatic 143, 3) := by decide +kernel
theorem dX6_gatherFitting_62 : decode cX6_gatherFitting 62 = .ok (.istore 5, 2) := by decide +kernel
theorem dX6_gatherFitting_64 : decode cX6_gatherFitting 64 = .ok (.iload 5, 2) := by decide +kernel
theorem dX6_gatherFitting_66 : decode cX6_gatherFitting 66 = .ok (.iload_n 2, 1) := by decide +kernel
theorem dX6_gatherFitting_67 : decode cX6_gatherFitting 67 = .ok (.iload_n 3, 1) := by decide +kernel
theorem dX6_gatherFitting_68 : decode cX6_gatherFitting 68 = .ok (.ior, 1) := by decide +kernel
theorem dX6_gatherFitting_69 : decode cX6_gatherFitting 69 = .ok (.iconst (-1), 1) := by decide +kernel
theorem dX6_gatherFitting_70 : decode cX6_gatherFitting 70 = .ok (.ixor, 1) := by decide +kernel
theorem dX6_gatherFitting_71 : decode cX6_gatherFitting 71 = .ok (.iand, 1) := by decide +kernel
theorem dX6_gatherFitting_72 : decode cX6_gatherFitting 72 = .ok (.invokestatic 146, 3) := by decide +kernel
theorem dX6_gatherFitting_75 : decode cX6_gatherFitting 75 = .ok (.istore 6, 2) := by decide +kernel
theorem dX6_gatherFitting_77 : decode cX6_gatherFitting 77 = .ok (.iload_n 2, 1) := by decide +kernel
theorem dX6_gatherFitting_78 : decode cX6_gatherFitting 78 = .ok (.iload 5, 2) := by decide +kernel
theorem dX6_gatherFitting_80 : decode cX6_gatherFitting 80 = .ok (.iconst (-1), 1) := by decide +kernel
theorem dX6_gatherFitting_81 : decode cX6_gatherFitting 81 = .ok (.ixor, 1) := by decide +kernel
theorem dX6_gatherFitting_82 : decode cX6_gatherFitting 82 = .ok (.iand, 1) := by decide +kernel
theorem dX6_gatherFitting_83 : decode cX6_gatherFitting 83 = .ok (.ifCond .ne 49, 3) := by decide +kernel
theorem dX6_gatherFitting_86 : decode cX6_gatherFitting 86 = .ok (.iload 6, 2) := by decide +kernel
theorem dX6_gatherFitting_88 : decode cX6_gatherFitting 88 = .ok (.aload_n 0, 1) := by decide +kernel
theorem dX6_gatherFitting_89 : decode cX6_gatherFitting 89 = .ok (.getfield 103, 3) := by decide +kernel
theorem dX6_gatherFitting_92 : decode cX6_gatherFitting 92 = .ok (.if_icmp .gt 40, 3) := by decide +kernel
theorem dX6_gatherFitting_95 : decode cX6_gatherFitting 95 = .ok (.aload_n 0, 1) := by decide +kernel
theorem dX6_gatherFitting_96 : decode cX6_gatherFitting 96 = .ok (.getfield 15, 3) := by decide +kernel
theorem dX6_gatherFitting_99 : decode cX6_gatherFitting 99 = .ok (.aload_n 0, 1) := by decide +kernel
theorem dX6_gatherFitting_100 : decode cX6_gatherFitting 100 = .ok (.getfield 140, 3) := by decide +kernel
theorem dX6_gatherFitting_103 : decode cX6_gatherFitting 103 = .ok (.aload_n 0, 1) := by decide +kernel
theorem dX6_gatherFitting_104 : decode cX6_gatherFitting 104 = .ok (.getfield 9, 3) := by decide +kernel
theorem dX6_gatherFitting_107 : decode cX6_gatherFitting 107 = .ok (.iload 4, 2) := by decide +kernel
theorem dX6_gatherFitting_109 : decode cX6_gatherFitting 109 = .ok (.iaload, 1) := by decide +kernel
theorem dX6_gatherFitting_110 : decode cX6_gatherFitting 110 = .ok (.iastore, 1) := by decide +kernel
theorem dX6_gatherFitting_111 : decode cX6_gatherFitting 111 = .ok (.aload_n 0, 1) := by decide +kernel
theorem dX6_gatherFitting_112 : decode cX6_gatherFitting 112 = .ok (.iload_n 1, 1) := by decide +kernel
theorem dX6_gatherFitting_113 : decode cX6_gatherFitting 113 = .ok (.iload 6, 2) := by decide +kernel
theorem dX6_gatherFitting_115 : decode cX6_gatherFitting 115 = .ok (.iload 5, 2) := by decide +kernel
theorem dX6_gatherFitting_117 : decode cX6_gatherFitting 117 = .ok (.iload_n 3, 1) := by decide +kernel
theorem dX6_gatherFitting_118 : decode cX6_gatherFitting 118 = .ok (.iand, 1) := by decide +kernel
theorem dX6_gatherFitting_119 : decode cX6_gatherFitting 119 = .ok (.invokevirtual 151, 3) := by decide +kernel
theorem dX6_gatherFitting_122 : decode cX6_gatherFitting 122 = .ok (.aload_n 0, 1) := by decide +kernel
theorem dX6_gatherFitting_123 : decode cX6_gatherFitting 123 = .ok (.dup, 1) := by decide +kernel
theorem dX6_gatherFitting_124 : decode cX6_gatherFitting 124 = .ok (.getfield 140, 3) := by decide +kernel
theorem dX6_gatherFitting_127 : decode cX6_gatherFitting 127 = .ok (.iconst 1, 1) := by decide +kernel
theorem dX6_gatherFitting_128 : decode cX6_gatherFitting 128 = .ok (.iadd, 1) := by decide +kernel
theorem dX6_gatherFitting_129 : decode cX6_gatherFitting 129 = .ok (.putfield 140, 3) := by decide +kernel
theorem dX6_gatherFitting_132 : decode cX6_gatherFitting 132 = .ok (.aload_n 0, 1) := by decide +kernel
theorem dX6_gatherFitting_133 : decode cX6_gatherFitting 133 = .ok (.getfield 18, 3) := by decide +kernel
theorem dX6_gatherFitting_136 : decode cX6_gatherFitting 136 = .ok (.aload_n 0, 1) := by decide +kernel
theorem dX6_gatherFitting_137 : decode cX6_gatherFitting 137 = .ok (.getfield 9, 3) := by decide +kernel
theorem dX6_gatherFitting_140 : decode cX6_gatherFitting 140 = .ok (.iload 4, 2) := by decide +kernel
theorem dX6_gatherFitting_142 : decode cX6_gatherFitting 142 = .ok (.iaload, 1) := by decide +kernel
theorem dX6_gatherFitting_143 : decode cX6_gatherFitting 143 = .ok (.invokestatic 35, 3) := by decide +kernel
theorem dX6_gatherFitting_146 : decode cX6_gatherFitting 146 = .ok (.iconst 1, 1) := by decide +kernel
theorem dX6_gatherFitting_147 : decode cX6_gatherFitting 147 = .ok (.iadd, 1) := by decide +kernel
theorem dX6_gatherFitting_148 : decode cX6_gatherFitting 148 = .ok (.aload_n 0, 1) := by decide +kernel
theorem dX6_gatherFitting_149 : decode cX6_gatherFitting 149 = .ok (.getfield 140, 3) := by decide +kernel
theorem dX6_gatherFitting_152 : decode cX6_gatherFitting 152 = .ok (.iastore, 1) := by decide +kernel
theorem dX6_gatherFitting_153 : decode cX6_gatherFitting 153 = .ok (.iinc 4 1, 3) := by decide +kernel
theorem dX6_gatherFitting_156 : decode cX6_gatherFitting 156 = .ok (.goto (-111), 3) := by decide +kernel
theorem dX6_gatherFitting_159 : decode cX6_gatherFitting 159 = .ok (.return_, 1) := by decide +kernel
set_option maxRecDepth 20000 in
theorem ggX6_setGains_X6_gainOf : GoodIn wsX6_setGains wsX6_gainOf := goodIn_r _ [8, 9, 10, 11, 12, 13, 14, 15, 16, 20, 21, 22, 23, 24, 25, 26, 27, 28, 29, 30, 31, 32] (by decide +kernel) (by decide +kernel)
set_option maxRecDepth 20000 in
theorem gX6_setGains_X6_gainOf : GoodIn wsX6_setGains (wsV RX6 154 RX6 yX6_gainOf wsX6_gainOf) := goodIn_app (goodIn_of _ (by decide +kernel)) ggX6_setGains_X6_gainOf
set_option maxRecDepth 20000 in
theorem ggX6_setGains_X6_withoutLast : GoodIn wsX6_setGains wsX6_withoutLast := goodIn_r _ [19] (by decide +kernel) (by decide +kernel)
set_option maxRecDepth 20000 in
theorem gX6_setGains_X6_withoutLast : GoodIn wsX6_setGains (va_wsS RX6 157 yX6_withoutLast wsX6_withoutLast) := goodIn_app (goodIn_of _ (by decide +kernel)) ggX6_setGains_X6_withoutLast
theorem dX6_setGains_0 : decode cX6_setGains 0 = .ok (.iload_n 3, 1) := by decide +kernel
theorem dX6_setGains_1 : decode cX6_setGains 1 = .ok (.istore 4, 2) := by decide +kernel
theorem dX6_setGains_3 : decode cX6_setGains 3 = .ok (.iconst 1, 1) := by decide +kernel
theorem dX6_setGains_4 : decode cX6_setGains 4 = .ok (.istore 5, 2) := by decide +kernel
theorem dX6_setGains_6 : decode cX6_setGains 6 = .ok (.iconst 0, 1) := by decide +kernel
theorem dX6_setGains_7 : decode cX6_setGains 7 = .ok (.istore 6, 2) := by decide +kernel
theorem dX6_setGains_9 : decode cX6_setGains 9 = .ok (.iload 6, 2) := by decide +kernel
theorem dX6_setGains_11 : decode cX6_setGains 11 = .ok (.iconst 3, 1) := by decide +kernel
theorem dX6_setGains_12 : decode cX6_setGains 12 = .ok (.if_icmp .ge 77, 3) := by decide +kernel
theorem dX6_setGains_15 : decode cX6_setGains 15 = .ok (.aload_n 0, 1) := by decide +kernel
theorem dX6_setGains_16 : decode cX6_setGains 16 = .ok (.getfield 140, 3) := by decide +kernel
theorem dX6_setGains_19 : decode cX6_setGains 19 = .ok (.iconst 3, 1) := by decide +kernel
theorem dX6_setGains_20 : decode cX6_setGains 20 = .ok (.imul, 1) := by decide +kernel
theorem dX6_setGains_21 : decode cX6_setGains 21 = .ok (.iload 6, 2) := by decide +kernel
theorem dX6_setGains_23 : decode cX6_setGains 23 = .ok (.iadd, 1) := by decide +kernel
theorem dX6_setGains_24 : decode cX6_setGains 24 = .ok (.istore 7, 2) := by decide +kernel
theorem dX6_setGains_26 : decode cX6_setGains 26 = .ok (.iload 6, 2) := by decide +kernel
theorem dX6_setGains_28 : decode cX6_setGains 28 = .ok (.iload_n 2, 1) := by decide +kernel
theorem dX6_setGains_29 : decode cX6_setGains 29 = .ok (.if_icmp .lt 8, 3) := by decide +kernel
theorem dX6_setGains_32 : decode cX6_setGains 32 = .ok (.iload 5, 2) := by decide +kernel
theorem dX6_setGains_34 : decode cX6_setGains 34 = .ok (.ifCond .ne 16, 3) := by decide +kernel
theorem dX6_setGains_37 : decode cX6_setGains 37 = .ok (.aload_n 0, 1) := by decide +kernel
theorem dX6_setGains_38 : decode cX6_setGains 38 = .ok (.getfield 21, 3) := by decide +kernel
theorem dX6_setGains_41 : decode cX6_setGains 41 = .ok (.iload 7, 2) := by decide +kernel
theorem dX6_setGains_43 : decode cX6_setGains 43 = .ok (.ldc2_w 90, 3) := by decide +kernel
theorem dX6_setGains_46 : decode cX6_setGains 46 = .ok (.lastore, 1) := by decide +kernel
theorem dX6_setGains_47 : decode cX6_setGains 47 = .ok (.goto 36, 3) := by decide +kernel
theorem dX6_setGains_50 : decode cX6_setGains 50 = .ok (.aload_n 0, 1) := by decide +kernel
theorem dX6_setGains_51 : decode cX6_setGains 51 = .ok (.getfield 21, 3) := by decide +kernel
theorem dX6_setGains_54 : decode cX6_setGains 54 = .ok (.iload 7, 2) := by decide +kernel
theorem dX6_setGains_56 : decode cX6_setGains 56 = .ok (.aload_n 0, 1) := by decide +kernel
theorem dX6_setGains_57 : decode cX6_setGains 57 = .ok (.iload_n 1, 1) := by decide +kernel
theorem dX6_setGains_58 : decode cX6_setGains 58 = .ok (.iload 4, 2) := by decide +kernel
theorem dX6_setGains_60 : decode cX6_setGains 60 = .ok (.invokevirtual 154, 3) := by decide +kernel
theorem dX6_setGains_63 : decode cX6_setGains 63 = .ok (.lastore, 1) := by decide +kernel
theorem dX6_setGains_64 : decode cX6_setGains 64 = .ok (.iload 4, 2) := by decide +kernel
theorem dX6_setGains_66 : decode cX6_setGains 66 = .ok (.ifCond .eq 7, 3) := by decide +kernel
theorem dX6_setGains_69 : decode cX6_setGains 69 = .ok (.iconst 1, 1) := by decide +kernel
theorem dX6_setGains_70 : decode cX6_setGains 70 = .ok (.goto 4, 3) := by decide +kernel
theorem dX6_setGains_73 : decode cX6_setGains 73 = .ok (.iconst 0, 1) := by decide +kernel
theorem dX6_setGains_74 : decode cX6_setGains 74 = .ok (.istore 5, 2) := by decide +kernel
theorem dX6_setGains_76 : decode cX6_setGains 76 = .ok (.iload 4, 2) := by decide +kernel
theorem dX6_setGains_78 : decode cX6_setGains 78 = .ok (.invokestatic 157, 3) := by decide +kernel
theorem dX6_setGains_81 : decode cX6_setGains 81 = .ok (.istore 4, 2) := by decide +kernel
theorem dX6_setGains_83 : decode cX6_setGains 83 = .ok (.iinc 6 1, 3) := by decide +kernel
theorem dX6_setGains_86 : decode cX6_setGains 86 = .ok (.goto (-77), 3) := by decide +kernel
theorem dX6_setGains_89 : decode cX6_setGains 89 = .ok (.return_, 1) := by decide +kernel
set_option maxRecDepth 20000 in
theorem ggX6_gainOf_J6_bitCount_0f7a4 : GoodIn wsX6_gainOf wsJ6_bitCount_0f7a4 := goodIn_r _ [5, 6, 7, 8] (by decide +kernel) (by decide +kernel)
set_option maxRecDepth 20000 in
theorem gX6_gainOf_J6_bitCount_0f7a4 : GoodIn wsX6_gainOf (va_wsS RX6 146 yJ6_bitCount_0f7a4 wsJ6_bitCount_0f7a4) := goodIn_app (goodIn_of _ (by decide +kernel)) ggX6_gainOf_J6_bitCount_0f7a4
