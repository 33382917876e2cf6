theorem dX6_gainOf_0 : decode cX6_gainOf 0 = .ok (.aload_n 0, 1) := by decide +kernel
theorem dX6_gainOf_1 : decode cX6_gainOf 1 = .ok (.getfield 137, 3) := by decide +kernel
theorem dX6_gainOf_4 : decode cX6_gainOf 4 = .ok (.i2l, 1) := by decide +kernel
theorem dX6_gainOf_5 : decode cX6_gainOf 5 = .ok (.iload_n 2, 1) := by decide +kernel
theorem dX6_gainOf_6 : decode cX6_gainOf 6 = .ok (.invokestatic 146, 3) := by decide +kernel
theorem dX6_gainOf_9 : decode cX6_gainOf 9 = .ok (.i2l, 1) := by decide +kernel
theorem dX6_gainOf_10 : decode cX6_gainOf 10 = .ok (.lmul, 1) := by decide +kernel
theorem dX6_gainOf_11 : decode cX6_gainOf 11 = .ok (.bipush 53, 2) := by decide +kernel
theorem dX6_gainOf_13 : decode cX6_gainOf 13 = .ok (.lshl, 1) := by decide +kernel
theorem dX6_gainOf_14 : decode cX6_gainOf 14 = .ok (.lstore_n 3, 1) := by decide +kernel
theorem dX6_gainOf_15 : decode cX6_gainOf 15 = .ok (.iconst 0, 1) := by decide +kernel
theorem dX6_gainOf_16 : decode cX6_gainOf 16 = .ok (.istore 5, 2) := by decide +kernel
theorem dX6_gainOf_18 : decode cX6_gainOf 18 = .ok (.iload 5, 2) := by decide +kernel
theorem dX6_gainOf_20 : decode cX6_gainOf 20 = .ok (.iconst 4, 1) := by decide +kernel
theorem dX6_gainOf_21 : decode cX6_gainOf 21 = .ok (.if_icmp .ge 32, 3) := by decide +kernel
theorem dX6_gainOf_24 : decode cX6_gainOf 24 = .ok (.iload_n 2, 1) := by decide +kernel
theorem dX6_gainOf_25 : decode cX6_gainOf 25 = .ok (.iload 5, 2) := by decide +kernel
theorem dX6_gainOf_27 : decode cX6_gainOf 27 = .ok (.ishr, 1) := by decide +kernel
theorem dX6_gainOf_28 : decode cX6_gainOf 28 = .ok (.iconst 1, 1) := by decide +kernel
theorem dX6_gainOf_29 : decode cX6_gainOf 29 = .ok (.iand, 1) := by decide +kernel
theorem dX6_gainOf_30 : decode cX6_gainOf 30 = .ok (.ifCond .eq 17, 3) := by decide +kernel
theorem dX6_gainOf_33 : decode cX6_gainOf 33 = .ok (.lload_n 3, 1) := by decide +kernel
theorem dX6_gainOf_34 : decode cX6_gainOf 34 = .ok (.lconst 1, 1) := by decide +kernel
theorem dX6_gainOf_35 : decode cX6_gainOf 35 = .ok (.bipush 52, 2) := by decide +kernel
theorem dX6_gainOf_37 : decode cX6_gainOf 37 = .ok (.iconst 4, 1) := by decide +kernel
theorem dX6_gainOf_38 : decode cX6_gainOf 38 = .ok (.iload_n 1, 1) := by decide +kernel
theorem dX6_gainOf_39 : decode cX6_gainOf 39 = .ok (.imul, 1) := by decide +kernel
theorem dX6_gainOf_40 : decode cX6_gainOf 40 = .ok (.isub, 1) := by decide +kernel
theorem dX6_gainOf_41 : decode cX6_gainOf 41 = .ok (.iload 5, 2) := by decide +kernel
theorem dX6_gainOf_43 : decode cX6_gainOf 43 = .ok (.isub, 1) := by decide +kernel
theorem dX6_gainOf_44 : decode cX6_gainOf 44 = .ok (.lshl, 1) := by decide +kernel
theorem dX6_gainOf_45 : decode cX6_gainOf 45 = .ok (.lor, 1) := by decide +kernel
theorem dX6_gainOf_46 : decode cX6_gainOf 46 = .ok (.lstore_n 3, 1) := by decide +kernel
theorem dX6_gainOf_47 : decode cX6_gainOf 47 = .ok (.iinc 5 1, 3) := by decide +kernel
theorem dX6_gainOf_50 : decode cX6_gainOf 50 = .ok (.goto (-32), 3) := by decide +kernel
theorem dX6_gainOf_53 : decode cX6_gainOf 53 = .ok (.lload_n 3, 1) := by decide +kernel
theorem dX6_gainOf_54 : decode cX6_gainOf 54 = .ok (.lreturn, 1) := by decide +kernel
theorem dX6_withoutLast_0 : decode cX6_withoutLast 0 = .ok (.iconst 3, 1) := by decide +kernel
theorem dX6_withoutLast_1 : decode cX6_withoutLast 1 = .ok (.istore_n 1, 1) := by decide +kernel
theorem dX6_withoutLast_2 : decode cX6_withoutLast 2 = .ok (.iload_n 1, 1) := by decide +kernel
theorem dX6_withoutLast_3 : decode cX6_withoutLast 3 = .ok (.ifCond .lt 25, 3) := by decide +kernel
theorem dX6_withoutLast_6 : decode cX6_withoutLast 6 = .ok (.iload_n 0, 1) := by decide +kernel
theorem dX6_withoutLast_7 : decode cX6_withoutLast 7 = .ok (.iload_n 1, 1) := by decide +kernel
theorem dX6_withoutLast_8 : decode cX6_withoutLast 8 = .ok (.ishr, 1) := by decide +kernel
theorem dX6_withoutLast_9 : decode cX6_withoutLast 9 = .ok (.iconst 1, 1) := by decide +kernel
theorem dX6_withoutLast_10 : decode cX6_withoutLast 10 = .ok (.iand, 1) := by decide +kernel
theorem dX6_withoutLast_11 : decode cX6_withoutLast 11 = .ok (.ifCond .eq 11, 3) := by decide +kernel
theorem dX6_withoutLast_14 : decode cX6_withoutLast 14 = .ok (.iload_n 0, 1) := by decide +kernel
theorem dX6_withoutLast_15 : decode cX6_withoutLast 15 = .ok (.iconst 1, 1) := by decide +kernel
theorem dX6_withoutLast_16 : decode cX6_withoutLast 16 = .ok (.iload_n 1, 1) := by decide +kernel
theorem dX6_withoutLast_17 : decode cX6_withoutLast 17 = .ok (.ishl, 1) := by decide +kernel
theorem dX6_withoutLast_18 : decode cX6_withoutLast 18 = .ok (.iconst (-1), 1) := by decide +kernel
theorem dX6_withoutLast_19 : decode cX6_withoutLast 19 = .ok (.ixor, 1) := by decide +kernel
theorem dX6_withoutLast_20 : decode cX6_withoutLast 20 = .ok (.iand, 1) := by decide +kernel
theorem dX6_withoutLast_21 : decode cX6_withoutLast 21 = .ok (.ireturn, 1) := by decide +kernel
theorem dX6_withoutLast_22 : decode cX6_withoutLast 22 = .ok (.iinc 1 (-1), 3) := by decide +kernel
theorem dX6_withoutLast_25 : decode cX6_withoutLast 25 = .ok (.goto (-23), 3) := by decide +kernel
theorem dX6_withoutLast_28 : decode cX6_withoutLast 28 = .ok (.iconst 0, 1) := by decide +kernel
theorem dX6_withoutLast_29 : decode cX6_withoutLast 29 = .ok (.ireturn, 1) := by decide +kernel
set_option maxRecDepth 20000 in
theorem ggX7_init_X5_allInOrder : GoodIn wsX7_init wsX5_allInOrder := goodIn_r _ [26, 27, 28, 29, 25, 30, 31, 32, 33, 34, 35, 36, 37, 38, 39, 40] (by decide +kernel) (by decide +kernel)
set_option maxRecDepth 20000 in
theorem gX7_init_X5_allInOrder : GoodIn wsX7_init (va_wsS RX7 9 yX5_allInOrder wsX5_allInOrder) := goodIn_app (goodIn_of _ (by decide +kernel)) ggX7_init_X5_allInOrder
set_option maxRecDepth 20000 in
theorem ggX7_init_X6_init : GoodIn wsX7_init wsX6_init := goodIn_r _ [43, 44, 2, 3, 27, 45, 46, 47, 48, 49, 50, 51, 52, 53, 54, 55, 56, 57, 58, 59, 60, 61, 62, 63, 25, 64, 81, 82, 83, 84, 85, 86, 87, 88, 89, 90, 91, 92, 93, 118, 119, 120, 121] (by decide +kernel) (by decide +kernel)
set_option maxRecDepth 20000 in
theorem gX7_init_X6_init : GoodIn wsX7_init (wsX6_init) := ggX7_init_X6_init
set_option maxRecDepth 20000 in
theorem ggX7_init_X4_init : GoodIn wsX7_init wsX4_init := goodIn_r _ [67, 68, 2, 3, 48, 69, 70, 101, 102, 103] (by decide +kernel) (by decide +kernel)
set_option maxRecDepth 20000 in
theorem gX7_init_X4_init : GoodIn wsX7_init (wsX4_init) := ggX7_init_X4_init
set_option maxRecDepth 20000 in
theorem ggX7_init_X1_init : GoodIn wsX7_init wsX1_init := goodIn_r _ [72, 73, 2, 3, 48, 74, 59, 75, 27, 76, 104, 105, 106, 107, 108, 109, 110, 111, 112, 113, 114, 115] (by decide +kernel) (by decide +kernel)
set_option maxRecDepth 20000 in
theorem gX7_init_X1_init_n33 : GoodIn wsX7_init (wsX1_init) := ggX7_init_X1_init
set_option maxRecDepth 20000 in
theorem ggX7_init_X2_init : GoodIn wsX7_init wsX2_init := goodIn_r _ [78, 79, 2, 3, 27, 80, 116, 117] (by decide +kernel) (by decide +kernel)
set_option maxRecDepth 20000 in
theorem gX7_init_X2_init_n40 : GoodIn wsX7_init (wsX2_init) := ggX7_init_X2_init
theorem dX7_init_0 : decode cX7_init 0 = .ok (.aload_n 0, 1) := by decide +kernel
theorem dX7_init_1 : decode cX7_init 1 = .ok (.invokespecial 3, 3) := by decide +kernel
theorem dX7_init_4 : decode cX7_init 4 = .ok (.invokestatic 9, 3) := by decide +kernel
theorem dX7_init_7 : decode cX7_init 7 = .ok (.astore_n 1, 1) := by decide +kernel
theorem dX7_init_8 : decode cX7_init 8 = .ok (.aload_n 0, 1) := by decide +kernel
theorem dX7_init_9 : decode cX7_init 9 = .ok (.new 15, 3) := by decide +kernel
theorem dX7_init_12 : decode cX7_init 12 = .ok (.dup, 1) := by decide +kernel
theorem dX7_init_13 : decode cX7_init 13 = .ok (.aload_n 1, 1) := by decide +kernel
theorem dX7_init_14 : decode cX7_init 14 = .ok (.invokespecial 17, 3) := by decide +kernel
theorem dX7_init_17 : decode cX7_init 17 = .ok (.putfield 20, 3) := by decide +kernel
theorem dX7_init_20 : decode cX7_init 20 = .ok (.aload_n 0, 1) := by decide +kernel
theorem dX7_init_21 : decode cX7_init 21 = .ok (.new 24, 3) := by decide +kernel
theorem dX7_init_24 : decode cX7_init 24 = .ok (.dup, 1) := by decide +kernel
theorem dX7_init_25 : decode cX7_init 25 = .ok (.aload_n 1, 1) := by decide +kernel
theorem dX7_init_26 : decode cX7_init 26 = .ok (.invokespecial 26, 3) := by decide +kernel
theorem dX7_init_29 : decode cX7_init 29 = .ok (.putfield 27, 3) := by decide +kernel
theorem dX7_init_32 : decode cX7_init 32 = .ok (.aload_n 0, 1) := by decide +kernel
theorem dX7_init_33 : decode cX7_init 33 = .ok (.new 31, 3) := by decide +kernel
theorem dX7_init_36 : decode cX7_init 36 = .ok (.dup, 1) := by decide +kernel
theorem dX7_init_37 : decode cX7_init 37 = .ok (.invokespecial 33, 3) := by decide +kernel
theorem dX7_init_40 : decode cX7_init 40 = .ok (.putfield 34, 3) := by decide +kernel
theorem dX7_init_43 : decode cX7_init 43 = .ok (.aload_n 0, 1) := by decide +kernel
theorem dX7_init_44 : decode cX7_init 44 = .ok (.new 38, 3) := by decide +kernel
theorem dX7_init_47 : decode cX7_init 47 = .ok (.dup, 1) := by decide +kernel
theorem dX7_init_48 : decode cX7_init 48 = .ok (.invokespecial 40, 3) := by decide +kernel
theorem dX7_init_51 : decode cX7_init 51 = .ok (.putfield 41, 3) := by decide +kernel
theorem dX7_init_54 : decode cX7_init 54 = .ok (.aload_n 0, 1) := by decide +kernel
theorem dX7_init_55 : decode cX7_init 55 = .ok (.new 38, 3) := by decide +kernel
theorem dX7_init_58 : decode cX7_init 58 = .ok (.dup, 1) := by decide +kernel
theorem dX7_init_59 : decode cX7_init 59 = .ok (.invokespecial 40, 3) := by decide +kernel
theorem dX7_init_62 : decode cX7_init 62 = .ok (.putfield 45, 3) := by decide +kernel
theorem dX7_init_65 : decode cX7_init 65 = .ok (.aload_n 0, 1) := by decide +kernel
theorem dX7_init_66 : decode cX7_init 66 = .ok (.bipush 30, 2) := by decide +kernel
theorem dX7_init_68 : decode cX7_init 68 = .ok (.putfield 48, 3) := by decide +kernel
theorem dX7_init_71 : decode cX7_init 71 = .ok (.aload_n 0, 1) := by decide +kernel
theorem dX7_init_72 : decode cX7_init 72 = .ok (.iconst 0, 1) := by decide +kernel
theorem dX7_init_73 : decode cX7_init 73 = .ok (.putfield 52, 3) := by decide +kernel
theorem dX7_init_76 : decode cX7_init 76 = .ok (.return_, 1) := by decide +kernel
theorem dX7_status_0 : decode cX7_status 0 = .ok (.aload_n 0, 1) := by decide +kernel
theorem dX7_status_1 : decode cX7_status 1 = .ok (.getfield 52, 3) := by decide +kernel
theorem dX7_status_4 : decode cX7_status 4 = .ok (.ireturn, 1) := by decide +kernel
set_option maxRecDepth 20000 in
theorem ggX7_ways_X0_isSet : GoodIn wsX7_ways wsX0_isSet := goodIn_r _ [6] (by decide +kernel) (by decide +kernel)
set_option maxRecDepth 20000 in
theorem gX7_ways_X0_isSet : GoodIn wsX7_ways (va_wsS RX7 55 yX0_isSet wsX0_isSet) := goodIn_app (goodIn_of _ (by decide +kernel)) ggX7_ways_X0_isSet
set_option maxRecDepth 20000 in
theorem ggX7_ways_X7_refuse : GoodIn wsX7_ways wsX7_refuse := goodIn_r _ [11, 1, 129, 130, 131, 132, 133, 134, 135] (by decide +kernel) (by decide +kernel)
set_option maxRecDepth 20000 in
theorem gX7_ways_X7_refuse : GoodIn wsX7_ways (wsV RX7 61 RX7 yX7_refuse wsX7_refuse) := goodIn_app (goodIn_of _ (by decide +kernel)) ggX7_ways_X7_refuse
set_option maxRecDepth 20000 in
theorem ggX7_ways_X6_countLayouts : GoodIn wsX7_ways wsX6_countLayouts := goodIn_r _ [16, 17, 18, 19, 20, 21, 22, 5, 23, 24, 25, 26, 27, 28, 29, 30, 31, 32, 33, 15, 34, 35, 36, 37, 38, 39, 40, 41, 42, 43, 44, 45, 46, 47, 48, 49, 50, 51, 52, 53, 54, 55, 56, 57, 58, 59, 60, 61, 62, 63, 64, 65, 66, 67, 68, 69, 70, 71, 72, 73, 74, 75, 76, 77, 78, 79, 80, 81, 82, 83, 84, 85, 86, 87, 88, 89, 90, 91, 92, 93, 94, 95, 96, 97, 98, 99, 100, 101, 102, 103, 104, 105, 106, 107, 108, 109, 110, 111, 112, 113, 114, 115, 116, 117, 118, 119, 120, 121, 122, 123, 124, 125, 126, 127, 128, 136, 137, 138, 139, 140, 141, 142, 143, 144, 145, 146, 147, 148, 149, 150, 151, 152] (by decide +kernel) (by decide +kernel)
set_option maxRecDepth 20000 in
theorem gX7_ways_X6_countLayouts : GoodIn wsX7_ways (wsV RX7 65 RX6 yX6_countLayouts wsX6_countLayouts) := goodIn_app (goodIn_of _ (by decide +kernel)) ggX7_ways_X6_countLayouts
theorem dX7_ways_0 : decode cX7_ways 0 = .ok (.lload_n 1, 1) := by decide +kernel
theorem dX7_ways_1 : decode cX7_ways 1 = .ok (.invokestatic 55, 3) := by decide +kernel
theorem dX7_ways_4 : decode cX7_ways 4 = .ok (.ifCond .ne 10, 3) := by decide +kernel
theorem dX7_ways_7 : decode cX7_ways 7 = .ok (.aload_n 0, 1) := by decide +kernel
theorem dX7_ways_8 : decode cX7_ways 8 = .ok (.iconst 1, 1) := by decide +kernel
theorem dX7_ways_9 : decode cX7_ways 9 = .ok (.invokevirtual 61, 3) := by decide +kernel
theorem dX7_ways_12 : decode cX7_ways 12 = .ok (.i2l, 1) := by decide +kernel
theorem dX7_ways_13 : decode cX7_ways 13 = .ok (.lreturn, 1) := by decide +kernel
theorem dX7_ways_14 : decode cX7_ways 14 = .ok (.aload_n 0, 1) := by decide +kernel
theorem dX7_ways_15 : decode cX7_ways 15 = .ok (.iconst 0, 1) := by decide +kernel
theorem dX7_ways_16 : decode cX7_ways 16 = .ok (.putfield 52, 3) := by decide +kernel
theorem dX7_ways_19 : decode cX7_ways 19 = .ok (.aload_n 0, 1) := by decide +kernel
theorem dX7_ways_20 : decode cX7_ways 20 = .ok (.getfield 20, 3) := by decide +kernel
theorem dX7_ways_23 : decode cX7_ways 23 = .ok (.lload_n 1, 1) := by decide +kernel
theorem dX7_ways_24 : decode cX7_ways 24 = .ok (.invokevirtual 65, 3) := by decide +kernel
theorem dX7_ways_27 : decode cX7_ways 27 = .ok (.lreturn, 1) := by decide +kernel
set_option maxRecDepth 20000 in
theorem ggX7_layout_X0_isSet : GoodIn wsX7_layout wsX0_isSet := goodIn_r _ [8] (by decide +kernel) (by decide +kernel)
set_option maxRecDepth 20000 in
theorem gX7_layout_X0_isSet : GoodIn wsX7_layout (va_wsS RX7 55 yX0_isSet wsX0_isSet) := goodIn_app (goodIn_of _ (by decide +kernel)) ggX7_layout_X0_isSet
set_option maxRecDepth 20000 in
theorem ggX7_layout_X7_refuse : GoodIn wsX7_layout wsX7_refuse := goodIn_r _ [13, 3, 89, 90, 91, 92, 93, 94, 95] (by decide +kernel) (by decide +kernel)
set_option maxRecDepth 20000 in
theorem gX7_layout_X7_refuse : GoodIn wsX7_layout (wsV RX7 61 RX7 yX7_refuse wsX7_refuse) := goodIn_app (goodIn_of _ (by decide +kernel)) ggX7_layout_X7_refuse
set_option maxRecDepth 20000 in
theorem ggX7_layout_X4_findFirst : GoodIn wsX7_layout wsX4_findFirst := goodIn_r _ [18, 19, 20, 21, 22, 23, 24, 25, 26, 7, 27, 28, 29, 30, 31, 32, 33, 34, 35, 36, 37, 17, 38, 39, 40, 41, 42, 43, 44, 45, 46, 47, 48, 49, 50, 51, 52, 53, 54, 55, 56, 57, 58, 59, 60, 61, 62, 63, 64, 65, 66, 67, 68, 69, 96, 97, 98, 99, 100] (by decide +kernel) (by decide +kernel)
set_option maxRecDepth 20000 in
theorem gX7_layout_X4_findFirst : GoodIn wsX7_layout (wsV RX7 69 RX4 yX4_findFirst wsX4_findFirst) := goodIn_app (goodIn_of _ (by decide +kernel)) ggX7_layout_X4_findFirst
set_option maxRecDepth 20000 in
theorem ggX7_layout_X7_keepTrial : GoodIn wsX7_layout wsX7_keepTrial := goodIn_r _ [73, 4, 2, 89, 90, 91, 92, 93, 94, 95] (by decide +kernel) (by decide +kernel)
set_option maxRecDepth 20000 in
theorem gX7_layout_X7_keepTrial : GoodIn wsX7_layout (wsV RX7 73 RX7 yX7_keepTrial wsX7_keepTrial) := goodIn_app (goodIn_of _ (by decide +kernel)) ggX7_layout_X7_keepTrial
set_option maxRecDepth 20000 in
theorem ggX7_layout_X2_groups : GoodIn wsX7_layout wsX2_groups := goodIn_r _ [78, 79, 80, 81, 42, 82, 99, 100] (by decide +kernel) (by decide +kernel)
set_option maxRecDepth 20000 in
theorem gX7_layout_X2_groups : GoodIn wsX7_layout (wsV RX7 76 RX2 yX2_groups wsX2_groups) := goodIn_app (goodIn_of _ (by decide +kernel)) ggX7_layout_X2_groups
set_option maxRecDepth 20000 in
theorem ggX7_layout_X2_runs : GoodIn wsX7_layout wsX2_runs := goodIn_r _ [86, 79, 87, 68, 42, 69, 88, 57, 58, 59, 60, 61, 62, 99, 100] (by decide +kernel) (by decide +kernel)
set_option maxRecDepth 20000 in
theorem gX7_layout_X2_runs : GoodIn wsX7_layout (wsV RX7 80 RX2 yX2_runs wsX2_runs) := goodIn_app (goodIn_of _ (by decide +kernel)) ggX7_layout_X2_runs
theorem dX7_layout_0 : decode cX7_layout 0 = .ok (.lload_n 1, 1) := by decide +kernel
theorem dX7_layout_1 : decode cX7_layout 1 = .ok (.invokestatic 55, 3) := by decide +kernel
theorem dX7_layout_4 : decode cX7_layout 4 = .ok (.ifCond .ne 9, 3) := by decide +kernel
theorem dX7_layout_7 : decode cX7_layout 7 = .ok (.aload_n 0, 1) := by decide +kernel
theorem dX7_layout_8 : decode cX7_layout 8 = .ok (.iconst 1, 1) := by decide +kernel
theorem dX7_layout_9 : decode cX7_layout 9 = .ok (.invokevirtual 61, 3) := by decide +kernel
theorem dX7_layout_12 : decode cX7_layout 12 = .ok (.ireturn, 1) := by decide +kernel
theorem dX7_layout_13 : decode cX7_layout 13 = .ok (.aload_n 0, 1) := by decide +kernel
theorem dX7_layout_14 : decode cX7_layout 14 = .ok (.getfield 27, 3) := by decide +kernel
theorem dX7_layout_17 : decode cX7_layout 17 = .ok (.lload_n 1, 1) := by decide +kernel
theorem dX7_layout_18 : decode cX7_layout 18 = .ok (.aload_n 0, 1) := by decide +kernel
theorem dX7_layout_19 : decode cX7_layout 19 = .ok (.getfield 45, 3) := by decide +kernel
theorem dX7_layout_22 : decode cX7_layout 22 = .ok (.invokevirtual 69, 3) := by decide +kernel
theorem dX7_layout_25 : decode cX7_layout 25 = .ok (.ifCond .ne 9, 3) := by decide +kernel
theorem dX7_layout_28 : decode cX7_layout 28 = .ok (.aload_n 0, 1) := by decide +kernel
theorem dX7_layout_29 : decode cX7_layout 29 = .ok (.iconst 3, 1) := by decide +kernel
theorem dX7_layout_30 : decode cX7_layout 30 = .ok (.invokevirtual 61, 3) := by decide +kernel
theorem dX7_layout_33 : decode cX7_layout 33 = .ok (.ireturn, 1) := by decide +kernel
theorem dX7_layout_34 : decode cX7_layout 34 = .ok (.aload_n 0, 1) := by decide +kernel
theorem dX7_layout_35 : decode cX7_layout 35 = .ok (.invokevirtual 73, 3) := by decide +kernel
theorem dX7_layout_38 : decode cX7_layout 38 = .ok (.aload_n 0, 1) := by decide +kernel
theorem dX7_layout_39 : decode cX7_layout 39 = .ok (.iconst 0, 1) := by decide +kernel
theorem dX7_layout_40 : decode cX7_layout 40 = .ok (.putfield 52, 3) := by decide +kernel
theorem dX7_layout_43 : decode cX7_layout 43 = .ok (.aload_n 0, 1) := by decide +kernel
theorem dX7_layout_44 : decode cX7_layout 44 = .ok (.getfield 41, 3) := by decide +kernel
theorem dX7_layout_47 : decode cX7_layout 47 = .ok (.invokevirtual 76, 3) := by decide +kernel
theorem dX7_layout_50 : decode cX7_layout 50 = .ok (.aload_n 0, 1) := by decide +kernel
theorem dX7_layout_51 : decode cX7_layout 51 = .ok (.getfield 41, 3) := by decide +kernel
theorem dX7_layout_54 : decode cX7_layout 54 = .ok (.invokevirtual 80, 3) := by decide +kernel
theorem dX7_layout_57 : decode cX7_layout 57 = .ok (.iadd, 1) := by decide +kernel
theorem dX7_layout_58 : decode cX7_layout 58 = .ok (.ireturn, 1) := by decide +kernel
set_option maxRecDepth 20000 in
theorem ggX7_best_X0_isSet : GoodIn wsX7_best wsX0_isSet := goodIn_r _ [8] (by decide +kernel) (by decide +kernel)
set_option maxRecDepth 20000 in
theorem gX7_best_X0_isSet : GoodIn wsX7_best (va_wsS RX7 55 yX0_isSet wsX0_isSet) := goodIn_app (goodIn_of _ (by decide +kernel)) ggX7_best_X0_isSet
set_option maxRecDepth 20000 in
theorem ggX7_best_X7_isAim : GoodIn wsX7_best wsX7_isAim := goodIn_r _ [12] (by decide +kernel) (by decide +kernel)
set_option maxRecDepth 20000 in
theorem gX7_best_X7_isAim : GoodIn wsX7_best (va_wsS RX7 83 yX7_isAim wsX7_isAim) := goodIn_app (goodIn_of _ (by decide +kernel)) ggX7_best_X7_isAim
set_option maxRecDepth 20000 in
theorem ggX7_best_X7_refuse : GoodIn wsX7_best wsX7_refuse := goodIn_r _ [16, 4, 175, 176, 177, 178, 179, 180, 181] (by decide +kernel) (by decide +kernel)
set_option maxRecDepth 20000 in
theorem gX7_best_X7_refuse : GoodIn wsX7_best (wsV RX7 61 RX7 yX7_refuse wsX7_refuse) := goodIn_app (goodIn_of _ (by decide +kernel)) ggX7_best_X7_refuse
set_option maxRecDepth 20000 in
theorem ggX7_best_X6_bestPart : GoodIn wsX7_best wsX6_bestPart := goodIn_r _ [21, 22, 23, 24, 25, 26, 27, 28, 29, 30, 31, 32, 7, 33, 34, 35, 36, 37, 38, 39, 40, 41, 42, 43, 20, 44, 45, 46, 47, 48, 49, 50, 51, 52, 53, 54, 55, 56, 57, 58, 59, 60, 61, 62, 63, 64, 65, 66, 67, 68, 69, 70, 71, 72, 73, 74, 75, 76, 77, 78, 79, 80, 81, 82, 83, 84, 85, 86, 87, 88, 89, 90, 91, 92, 93, 94, 95, 96, 97, 98, 99, 100, 101, 102, 103, 104, 105, 106, 107, 108, 109, 110, 111, 112, 113, 114, 115, 116, 117, 118, 119, 120, 121, 122, 123, 124, 125, 126, 127, 128, 129, 130, 131, 132, 133, 134, 135, 136, 137, 138, 139, 140, 141, 142, 143, 144, 145, 182, 183, 184, 185, 186, 187, 188, 189, 190, 191, 192, 193, 194, 195, 196, 197, 198] (by decide +kernel) (by decide +kernel)
set_option maxRecDepth 20000 in
theorem gX7_best_X6_bestPart : GoodIn wsX7_best (wsV RX7 87 RX6 yX6_bestPart wsX6_bestPart) := goodIn_app (goodIn_of _ (by decide +kernel)) ggX7_best_X6_bestPart
set_option maxRecDepth 20000 in
theorem ggX7_best_X4_findFirst : GoodIn wsX7_best wsX4_findFirst := goodIn_r _ [150, 151, 152, 153, 154, 155, 156, 157, 32, 7, 33, 34, 35, 36, 37, 38, 39, 40, 158, 159, 160, 149, 161, 162, 163, 136, 82, 137, 164, 74, 75, 165, 81, 83, 166, 104, 105, 167, 111, 112, 168, 85, 86, 87, 88, 89, 90, 169, 114, 115, 116, 117, 118, 119, 199, 200, 201, 202, 203] (by decide +kernel) (by decide +kernel)
set_option maxRecDepth 20000 in
theorem gX7_best_X4_findFirst : GoodIn wsX7_best (wsV RX7 69 RX4 yX4_findFirst wsX4_findFirst) := goodIn_app (goodIn_of _ (by decide +kernel)) ggX7_best_X4_findFirst
set_option maxRecDepth 20000 in
theorem ggX7_best_X7_keepTrial : GoodIn wsX7_best wsX7_keepTrial := goodIn_r _ [173, 174, 3, 175, 176, 177, 178, 179, 180, 181] (by decide +kernel) (by decide +kernel)
set_option maxRecDepth 20000 in
theorem gX7_best_X7_keepTrial : GoodIn wsX7_best (wsV RX7 73 RX7 yX7_keepTrial wsX7_keepTrial) := goodIn_app (goodIn_of _ (by decide +kernel)) ggX7_best_X7_keepTrial
theorem dX7_best_0 : decode cX7_best 0 = .ok (.lload_n 1, 1) := by decide +kernel
theorem dX7_best_1 : decode cX7_best 1 = .ok (.invokestatic 55, 3) := by decide +kernel
theorem dX7_best_4 : decode cX7_best 4 = .ok (.ifCond .eq 18, 3) := by decide +kernel
theorem dX7_best_7 : decode cX7_best 7 = .ok (.lload_n 3, 1) := by decide +kernel
theorem dX7_best_8 : decode cX7_best 8 = .ok (.invokestatic 55, 3) := by decide +kernel
theorem dX7_best_11 : decode cX7_best 11 = .ok (.ifCond .eq 11, 3) := by decide +kernel
theorem dX7_best_14 : decode cX7_best 14 = .ok (.iload 5, 2) := by decide +kernel
theorem dX7_best_16 : decode cX7_best 16 = .ok (.invokestatic 83, 3) := by decide +kernel
theorem dX7_best_19 : decode cX7_best 19 = .ok (.ifCond .ne 10, 3) := by decide +kernel
theorem dX7_best_22 : decode cX7_best 22 = .ok (.aload_n 0, 1) := by decide +kernel
theorem dX7_best_23 : decode cX7_best 23 = .ok (.iconst 1, 1) := by decide +kernel
theorem dX7_best_24 : decode cX7_best 24 = .ok (.invokevirtual 61, 3) := by decide +kernel
theorem dX7_best_27 : decode cX7_best 27 = .ok (.i2l, 1) := by decide +kernel
theorem dX7_best_28 : decode cX7_best 28 = .ok (.lreturn, 1) := by decide +kernel
theorem dX7_best_29 : decode cX7_best 29 = .ok (.lload_n 1, 1) := by decide +kernel
theorem dX7_best_30 : decode cX7_best 30 = .ok (.lload_n 3, 1) := by decide +kernel
theorem dX7_best_31 : decode cX7_best 31 = .ok (.land, 1) := by decide +kernel
theorem dX7_best_32 : decode cX7_best 32 = .ok (.lconst 0, 1) := by decide +kernel
theorem dX7_best_33 : decode cX7_best 33 = .ok (.lcmp, 1) := by decide +kernel
theorem dX7_best_34 : decode cX7_best 34 = .ok (.ifCond .eq 10, 3) := by decide +kernel
theorem dX7_best_37 : decode cX7_best 37 = .ok (.aload_n 0, 1) := by decide +kernel
theorem dX7_best_38 : decode cX7_best 38 = .ok (.iconst 2, 1) := by decide +kernel
theorem dX7_best_39 : decode cX7_best 39 = .ok (.invokevirtual 61, 3) := by decide +kernel
theorem dX7_best_42 : decode cX7_best 42 = .ok (.i2l, 1) := by decide +kernel
theorem dX7_best_43 : decode cX7_best 43 = .ok (.lreturn, 1) := by decide +kernel
theorem dX7_best_44 : decode cX7_best 44 = .ok (.aload_n 0, 1) := by decide +kernel
theorem dX7_best_45 : decode cX7_best 45 = .ok (.getfield 20, 3) := by decide +kernel
theorem dX7_best_48 : decode cX7_best 48 = .ok (.lload_n 1, 1) := by decide +kernel
theorem dX7_best_49 : decode cX7_best 49 = .ok (.lload_n 3, 1) := by decide +kernel
theorem dX7_best_50 : decode cX7_best 50 = .ok (.iload 5, 2) := by decide +kernel
theorem dX7_best_52 : decode cX7_best 52 = .ok (.invokevirtual 87, 3) := by decide +kernel
theorem dX7_best_55 : decode cX7_best 55 = .ok (.lstore 6, 2) := by decide +kernel
theorem dX7_best_57 : decode cX7_best 57 = .ok (.lload 6, 2) := by decide +kernel
theorem dX7_best_59 : decode cX7_best 59 = .ok (.lconst 0, 1) := by decide +kernel
theorem dX7_best_60 : decode cX7_best 60 = .ok (.lcmp, 1) := by decide +kernel
theorem dX7_best_61 : decode cX7_best 61 = .ok (.ifCond .lt 21, 3) := by decide +kernel
theorem dX7_best_64 : decode cX7_best 64 = .ok (.aload_n 0, 1) := by decide +kernel
theorem dX7_best_65 : decode cX7_best 65 = .ok (.getfield 27, 3) := by decide +kernel
theorem dX7_best_68 : decode cX7_best 68 = .ok (.lload_n 1, 1) := by decide +kernel
theorem dX7_best_69 : decode cX7_best 69 = .ok (.lload 6, 2) := by decide +kernel
theorem dX7_best_71 : decode cX7_best 71 = .ok (.lor, 1) := by decide +kernel
theorem dX7_best_72 : decode cX7_best 72 = .ok (.aload_n 0, 1) := by decide +kernel
theorem dX7_best_73 : decode cX7_best 73 = .ok (.getfield 45, 3) := by decide +kernel
theorem dX7_best_76 : decode cX7_best 76 = .ok (.invokevirtual 69, 3) := by decide +kernel
theorem dX7_best_79 : decode cX7_best 79 = .ok (.ifCond .ne 10, 3) := by decide +kernel
theorem dX7_best_82 : decode cX7_best 82 = .ok (.aload_n 0, 1) := by decide +kernel
theorem dX7_best_83 : decode cX7_best 83 = .ok (.iconst 3, 1) := by decide +kernel
theorem dX7_best_84 : decode cX7_best 84 = .ok (.invokevirtual 61, 3) := by decide +kernel
theorem dX7_best_87 : decode cX7_best 87 = .ok (.i2l, 1) := by decide +kernel
theorem dX7_best_88 : decode cX7_best 88 = .ok (.lreturn, 1) := by decide +kernel
theorem dX7_best_89 : decode cX7_best 89 = .ok (.aload_n 0, 1) := by decide +kernel
theorem dX7_best_90 : decode cX7_best 90 = .ok (.invokevirtual 73, 3) := by decide +kernel
theorem dX7_best_93 : decode cX7_best 93 = .ok (.aload_n 0, 1) := by decide +kernel
theorem dX7_best_94 : decode cX7_best 94 = .ok (.iconst 0, 1) := by decide +kernel
theorem dX7_best_95 : decode cX7_best 95 = .ok (.putfield 52, 3) := by decide +kernel
theorem dX7_best_98 : decode cX7_best 98 = .ok (.lload 6, 2) := by decide +kernel
theorem dX7_best_100 : decode cX7_best 100 = .ok (.lreturn, 1) := by decide +kernel
set_option maxRecDepth 20000 in
theorem ggX7_place_X2_placeOf : GoodIn wsX7_place wsX2_placeOf := goodIn_r _ [6, 7, 8, 9, 10, 11, 12, 13, 14, 15, 16, 17, 18, 19, 20, 28, 29] (by decide +kernel) (by decide +kernel)
set_option maxRecDepth 20000 in
theorem gX7_place_X2_placeOf : GoodIn wsX7_place (wsV RX7 91 RX2 yX2_placeOf wsX2_placeOf) := goodIn_app (goodIn_of _ (by decide +kernel)) ggX7_place_X2_placeOf
theorem dX7_place_0 : decode cX7_place 0 = .ok (.aload_n 0, 1) := by decide +kernel
theorem dX7_place_1 : decode cX7_place 1 = .ok (.getfield 41, 3) := by decide +kernel
theorem dX7_place_4 : decode cX7_place 4 = .ok (.iload_n 1, 1) := by decide +kernel
theorem dX7_place_5 : decode cX7_place 5 = .ok (.invokevirtual 91, 3) := by decide +kernel
theorem dX7_place_8 : decode cX7_place 8 = .ok (.ireturn, 1) := by decide +kernel
set_option maxRecDepth 20000 in
theorem ggX7_stands_X2_jokerFor : GoodIn wsX7_stands wsX2_jokerFor := goodIn_r _ [6, 7, 8, 9, 10, 5, 11, 12, 13, 14, 15, 16, 17, 18, 19, 20, 21, 22, 23, 24, 25, 33, 34] (by decide +kernel) (by decide +kernel)
set_option maxRecDepth 20000 in
theorem gX7_stands_X2_jokerFor : GoodIn wsX7_stands (wsV RX7 94 RX2 yX2_jokerFor wsX2_jokerFor) := goodIn_app (goodIn_of _ (by decide +kernel)) ggX7_stands_X2_jokerFor
theorem dX7_stands_0 : decode cX7_stands 0 = .ok (.aload_n 0, 1) := by decide +kernel
theorem dX7_stands_1 : decode cX7_stands 1 = .ok (.getfield 41, 3) := by decide +kernel
theorem dX7_stands_4 : decode cX7_stands 4 = .ok (.iload_n 1, 1) := by decide +kernel
theorem dX7_stands_5 : decode cX7_stands 5 = .ok (.invokevirtual 94, 3) := by decide +kernel
theorem dX7_stands_8 : decode cX7_stands 8 = .ok (.ireturn, 1) := by decide +kernel
set_option maxRecDepth 20000 in
theorem ggX7_shows_X2_groups : GoodIn wsX7_shows wsX2_groups := goodIn_r _ [6, 7, 8, 9, 10, 11, 77, 78] (by decide +kernel) (by decide +kernel)
set_option maxRecDepth 20000 in
theorem gX7_shows_X2_groups : GoodIn wsX7_shows (wsV RX7 76 RX2 yX2_groups wsX2_groups) := goodIn_app (goodIn_of _ (by decide +kernel)) ggX7_shows_X2_groups
set_option maxRecDepth 20000 in
theorem ggX7_shows_X2_runs : GoodIn wsX7_shows wsX2_runs := goodIn_r _ [15, 7, 16, 17, 10, 18, 19, 20, 21, 22, 23, 24, 25, 77, 78] (by decide +kernel) (by decide +kernel)
set_option maxRecDepth 20000 in
theorem gX7_shows_X2_runs : GoodIn wsX7_shows (wsV RX7 80 RX2 yX2_runs wsX2_runs) := goodIn_app (goodIn_of _ (by decide +kernel)) ggX7_shows_X2_runs
set_option maxRecDepth 20000 in
theorem ggX7_shows_X2_shownCards : GoodIn wsX7_shows wsX2_shownCards := goodIn_r _ [29, 7, 30, 31, 10, 32, 19, 20, 21, 22, 23, 24, 25, 77, 78] (by decide +kernel) (by decide +kernel)
set_option maxRecDepth 20000 in
theorem gX7_shows_X2_shownCards : GoodIn wsX7_shows (wsV RX7 97 RX2 yX2_shownCards wsX2_shownCards) := goodIn_app (goodIn_of _ (by decide +kernel)) ggX7_shows_X2_shownCards
set_option maxRecDepth 20000 in
theorem ggX7_shows_X0_jokersIn : GoodIn wsX7_shows wsX0_jokersIn := goodIn_r _ [36, 37, 38, 39, 40, 41, 42, 43] (by decide +kernel) (by decide +kernel)
set_option maxRecDepth 20000 in
theorem gX7_shows_X0_jokersIn : GoodIn wsX7_shows (va_wsS RX7 104 yX0_jokersIn wsX0_jokersIn) := goodIn_app (goodIn_of _ (by decide +kernel)) ggX7_shows_X0_jokersIn
set_option maxRecDepth 20000 in
theorem ggX7_shows_X2_shownWorth : GoodIn wsX7_shows wsX2_shownWorth := goodIn_r _ [47, 7, 48, 49, 35, 50, 51, 52, 53, 54, 30, 31, 10, 32, 19, 20, 21, 22, 23, 24, 25, 77, 78] (by decide +kernel) (by decide +kernel)
set_option maxRecDepth 20000 in
theorem gX7_shows_X2_shownWorth : GoodIn wsX7_shows (wsV RX7 108 RX2 yX2_shownWorth wsX2_shownWorth) := goodIn_app (goodIn_of _ (by decide +kernel)) ggX7_shows_X2_shownWorth
set_option maxRecDepth 20000 in
theorem ggX7_shows_X2_longestRun : GoodIn wsX7_shows wsX2_longestRun := goodIn_r _ [58, 7, 59, 60, 53, 61, 62, 63, 10, 64, 65, 9, 11, 66, 17, 18, 67, 68, 69, 77, 78] (by decide +kernel) (by decide +kernel)
set_option maxRecDepth 20000 in
theorem gX7_shows_X2_longestRun : GoodIn wsX7_shows (wsV RX7 111 RX2 yX2_longestRun wsX2_longestRun) := goodIn_app (goodIn_of _ (by decide +kernel)) ggX7_shows_X2_longestRun
theorem dX7_shows_0 : decode cX7_shows 0 = .ok (.iload_n 1, 1) := by decide +kernel
theorem dX7_shows_1 : decode cX7_shows 1 = .ok (.tableswitch 90 0 5 #[39, 47, 55, 63, 74, 82], 39) := by decide +kernel
theorem dX7_shows_40 : decode cX7_shows 40 = .ok (.aload_n 0, 1) := by decide +kernel
theorem dX7_shows_41 : decode cX7_shows 41 = .ok (.getfield 41, 3) := by decide +kernel
theorem dX7_shows_44 : decode cX7_shows 44 = .ok (.invokevirtual 76, 3) := by decide +kernel
theorem dX7_shows_47 : decode cX7_shows 47 = .ok (.ireturn, 1) := by decide +kernel
theorem dX7_shows_48 : decode cX7_shows 48 = .ok (.aload_n 0, 1) := by decide +kernel
theorem dX7_shows_49 : decode cX7_shows 49 = .ok (.getfield 41, 3) := by decide +kernel
theorem dX7_shows_52 : decode cX7_shows 52 = .ok (.invokevirtual 80, 3) := by decide +kernel
theorem dX7_shows_55 : decode cX7_shows 55 = .ok (.ireturn, 1) := by decide +kernel
theorem dX7_shows_56 : decode cX7_shows 56 = .ok (.aload_n 0, 1) := by decide +kernel
theorem dX7_shows_57 : decode cX7_shows 57 = .ok (.getfield 41, 3) := by decide +kernel
theorem dX7_shows_60 : decode cX7_shows 60 = .ok (.invokevirtual 97, 3) := by decide +kernel
theorem dX7_shows_63 : decode cX7_shows 63 = .ok (.ireturn, 1) := by decide +kernel
theorem dX7_shows_64 : decode cX7_shows 64 = .ok (.aload_n 0, 1) := by decide +kernel
theorem dX7_shows_65 : decode cX7_shows 65 = .ok (.getfield 41, 3) := by decide +kernel
theorem dX7_shows_68 : decode cX7_shows 68 = .ok (.getfield 100, 3) := by decide +kernel
theorem dX7_shows_71 : decode cX7_shows 71 = .ok (.invokestatic 104, 3) := by decide +kernel
theorem dX7_shows_74 : decode cX7_shows 74 = .ok (.ireturn, 1) := by decide +kernel
theorem dX7_shows_75 : decode cX7_shows 75 = .ok (.aload_n 0, 1) := by decide +kernel
theorem dX7_shows_76 : decode cX7_shows 76 = .ok (.getfield 41, 3) := by decide +kernel
theorem dX7_shows_79 : decode cX7_shows 79 = .ok (.invokevirtual 108, 3) := by decide +kernel
theorem dX7_shows_82 : decode cX7_shows 82 = .ok (.ireturn, 1) := by decide +kernel
theorem dX7_shows_83 : decode cX7_shows 83 = .ok (.aload_n 0, 1) := by decide +kernel
theorem dX7_shows_84 : decode cX7_shows 84 = .ok (.getfield 41, 3) := by decide +kernel
theorem dX7_shows_87 : decode cX7_shows 87 = .ok (.invokevirtual 111, 3) := by decide +kernel
theorem dX7_shows_90 : decode cX7_shows 90 = .ok (.ireturn, 1) := by decide +kernel
theorem dX7_shows_91 : decode cX7_shows 91 = .ok (.iconst (-1), 1) := by decide +kernel
theorem dX7_shows_92 : decode cX7_shows 92 = .ok (.ireturn, 1) := by decide +kernel
set_option maxRecDepth 20000 in
theorem ggX7_worth_X0_isSet : GoodIn wsX7_worth wsX0_isSet := goodIn_r _ [5] (by decide +kernel) (by decide +kernel)
set_option maxRecDepth 20000 in
theorem gX7_worth_X0_isSet : GoodIn wsX7_worth (va_wsS RX7 55 yX0_isSet wsX0_isSet) := goodIn_app (goodIn_of _ (by decide +kernel)) ggX7_worth_X0_isSet
set_option maxRecDepth 20000 in
theorem ggX7_worth_X7_refuse : GoodIn wsX7_worth wsX7_refuse := goodIn_r _ [10, 1, 41, 42, 43, 44, 45, 46, 47] (by decide +kernel) (by decide +kernel)
set_option maxRecDepth 20000 in
theorem gX7_worth_X7_refuse : GoodIn wsX7_worth (wsV RX7 61 RX7 yX7_refuse wsX7_refuse) := goodIn_app (goodIn_of _ (by decide +kernel)) ggX7_worth_X7_refuse
set_option maxRecDepth 20000 in
theorem ggX7_worth_X0_worthOfSet : GoodIn wsX7_worth wsX0_worthOfSet := goodIn_r _ [13, 14, 15, 4, 16, 17, 18, 19, 20, 21, 22, 23, 24, 25, 26, 27, 28, 29, 30, 31, 32, 33, 34, 35, 36, 37, 38, 39, 40] (by decide +kernel) (by decide +kernel)
set_option maxRecDepth 20000 in
theorem gX7_worth_X0_worthOfSet : GoodIn wsX7_worth (va_wsS RX7 114 yX0_worthOfSet wsX0_worthOfSet) := goodIn_app (goodIn_of _ (by decide +kernel)) ggX7_worth_X0_worthOfSet
theorem dX7_worth_0 : decode cX7_worth 0 = .ok (.lload_n 1, 1) := by decide +kernel
theorem dX7_worth_1 : decode cX7_worth 1 = .ok (.invokestatic 55, 3) := by decide +kernel
theorem dX7_worth_4 : decode cX7_worth 4 = .ok (.ifCond .ne 9, 3) := by decide +kernel
theorem dX7_worth_7 : decode cX7_worth 7 = .ok (.aload_n 0, 1) := by decide +kernel
theorem dX7_worth_8 : decode cX7_worth 8 = .ok (.iconst 1, 1) := by decide +kernel
theorem dX7_worth_9 : decode cX7_worth 9 = .ok (.invokevirtual 61, 3) := by decide +kernel
theorem dX7_worth_12 : decode cX7_worth 12 = .ok (.ireturn, 1) := by decide +kernel
theorem dX7_worth_13 : decode cX7_worth 13 = .ok (.aload_n 0, 1) := by decide +kernel
theorem dX7_worth_14 : decode cX7_worth 14 = .ok (.iconst 0, 1) := by decide +kernel
theorem dX7_worth_15 : decode cX7_worth 15 = .ok (.putfield 52, 3) := by decide +kernel
theorem dX7_worth_18 : decode cX7_worth 18 = .ok (.lload_n 1, 1) := by decide +kernel
theorem dX7_worth_19 : decode cX7_worth 19 = .ok (.invokestatic 114, 3) := by decide +kernel
theorem dX7_worth_22 : decode cX7_worth 22 = .ok (.ireturn, 1) := by decide +kernel
theorem dX7_opening_0 : decode cX7_opening 0 = .ok (.iload_n 1, 1) := by decide +kernel
theorem dX7_opening_1 : decode cX7_opening 1 = .ok (.ifCond .lt 10, 3) := by decide +kernel
theorem dX7_opening_4 : decode cX7_opening 4 = .ok (.iload_n 1, 1) := by decide +kernel
theorem dX7_opening_5 : decode cX7_opening 5 = .ok (.sipush 200, 3) := by decide +kernel
theorem dX7_opening_8 : decode cX7_opening 8 = .ok (.if_icmp .le 10, 3) := by decide +kernel
theorem dX7_opening_11 : decode cX7_opening 11 = .ok (.aload_n 0, 1) := by decide +kernel
theorem dX7_opening_12 : decode cX7_opening 12 = .ok (.iconst 1, 1) := by decide +kernel
theorem dX7_opening_13 : decode cX7_opening 13 = .ok (.putfield 52, 3) := by decide +kernel
theorem dX7_opening_16 : decode cX7_opening 16 = .ok (.iconst 0, 1) := by decide +kernel
theorem dX7_opening_17 : decode cX7_opening 17 = .ok (.ireturn, 1) := by decide +kernel
theorem dX7_opening_18 : decode cX7_opening 18 = .ok (.aload_n 0, 1) := by decide +kernel
theorem dX7_opening_19 : decode cX7_opening 19 = .ok (.iload_n 1, 1) := by decide +kernel
theorem dX7_opening_20 : decode cX7_opening 20 = .ok (.putfield 48, 3) := by decide +kernel
theorem dX7_opening_23 : decode cX7_opening 23 = .ok (.aload_n 0, 1) := by decide +kernel
theorem dX7_opening_24 : decode cX7_opening 24 = .ok (.iconst 0, 1) := by decide +kernel
theorem dX7_opening_25 : decode cX7_opening 25 = .ok (.putfield 52, 3) := by decide +kernel
theorem dX7_opening_28 : decode cX7_opening 28 = .ok (.iconst 1, 1) := by decide +kernel
theorem dX7_opening_29 : decode cX7_opening 29 = .ok (.ireturn, 1) := by decide +kernel
set_option maxRecDepth 20000 in
theorem ggX7_deal_X1_begin : GoodIn wsX7_deal wsX1_begin := goodIn_r _ [8, 9, 10, 11, 12, 13, 14, 15, 16, 17, 18, 19, 20, 21, 22, 23, 24, 25, 26, 7, 27, 28, 29, 30, 31, 32, 33, 34, 35, 36, 37, 45, 46, 47, 48, 49, 50, 51, 52, 53, 54, 55, 56] (by decide +kernel) (by decide +kernel)
set_option maxRecDepth 20000 in
theorem gX7_deal_X1_begin : GoodIn wsX7_deal (wsV RX7 118 RX1 yX1_begin wsX1_begin) := goodIn_app (goodIn_of _ (by decide +kernel)) ggX7_deal_X1_begin
