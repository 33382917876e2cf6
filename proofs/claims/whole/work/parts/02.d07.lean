theorem dX7_isAim_0 : decode cX7_isAim 0 = .ok (.iload_n 0, 1) := by decide +kernel
theorem dX7_isAim_1 : decode cX7_isAim 1 = .ok (.ifCond .eq 8, 3) := by decide +kernel
theorem dX7_isAim_4 : decode cX7_isAim 4 = .ok (.iload_n 0, 1) := by decide +kernel
theorem dX7_isAim_5 : decode cX7_isAim 5 = .ok (.iconst 1, 1) := by decide +kernel
theorem dX7_isAim_6 : decode cX7_isAim 6 = .ok (.if_icmp .ne 7, 3) := by decide +kernel
theorem dX7_isAim_9 : decode cX7_isAim 9 = .ok (.iconst 1, 1) := by decide +kernel
theorem dX7_isAim_10 : decode cX7_isAim 10 = .ok (.goto 4, 3) := by decide +kernel
theorem dX7_isAim_13 : decode cX7_isAim 13 = .ok (.iconst 0, 1) := by decide +kernel
theorem dX7_isAim_14 : decode cX7_isAim 14 = .ok (.ireturn, 1) := by decide +kernel
set_option maxRecDepth 20000 in
theorem ggX7_barToPlay_X1_isDealt : GoodIn wsX7_barToPlay wsX1_isDealt := goodIn_r _ [6, 7, 15, 16, 17, 18, 19, 20, 21, 22, 23, 24, 25, 26] (by decide +kernel) (by decide +kernel)
set_option maxRecDepth 20000 in
theorem gX7_barToPlay_X1_isDealt : GoodIn wsX7_barToPlay (wsV RX7 122 RX1 yX1_isDealt wsX1_isDealt) := goodIn_app (goodIn_of _ (by decide +kernel)) ggX7_barToPlay_X1_isDealt
theorem dX7_barToPlay_0 : decode cX7_barToPlay 0 = .ok (.aload_n 0, 1) := by decide +kernel
theorem dX7_barToPlay_1 : decode cX7_barToPlay 1 = .ok (.getfield 34, 3) := by decide +kernel
theorem dX7_barToPlay_4 : decode cX7_barToPlay 4 = .ok (.invokevirtual 122, 3) := by decide +kernel
theorem dX7_barToPlay_7 : decode cX7_barToPlay 7 = .ok (.ifCond .ne 5, 3) := by decide +kernel
theorem dX7_barToPlay_10 : decode cX7_barToPlay 10 = .ok (.iconst 4, 1) := by decide +kernel
theorem dX7_barToPlay_11 : decode cX7_barToPlay 11 = .ok (.ireturn, 1) := by decide +kernel
theorem dX7_barToPlay_12 : decode cX7_barToPlay 12 = .ok (.aload_n 0, 1) := by decide +kernel
theorem dX7_barToPlay_13 : decode cX7_barToPlay 13 = .ok (.getfield 34, 3) := by decide +kernel
theorem dX7_barToPlay_16 : decode cX7_barToPlay 16 = .ok (.getfield 168, 3) := by decide +kernel
theorem dX7_barToPlay_19 : decode cX7_barToPlay 19 = .ok (.ifCond .eq 7, 3) := by decide +kernel
theorem dX7_barToPlay_22 : decode cX7_barToPlay 22 = .ok (.iconst 5, 1) := by decide +kernel
theorem dX7_barToPlay_23 : decode cX7_barToPlay 23 = .ok (.goto 4, 3) := by decide +kernel
theorem dX7_barToPlay_26 : decode cX7_barToPlay 26 = .ok (.iconst 0, 1) := by decide +kernel
theorem dX7_barToPlay_27 : decode cX7_barToPlay 27 = .ok (.ireturn, 1) := by decide +kernel
theorem dX7_keepTrial_0 : decode cX7_keepTrial 0 = .ok (.aload_n 0, 1) := by decide +kernel
theorem dX7_keepTrial_1 : decode cX7_keepTrial 1 = .ok (.getfield 41, 3) := by decide +kernel
theorem dX7_keepTrial_4 : decode cX7_keepTrial 4 = .ok (.astore_n 1, 1) := by decide +kernel
theorem dX7_keepTrial_5 : decode cX7_keepTrial 5 = .ok (.aload_n 0, 1) := by decide +kernel
theorem dX7_keepTrial_6 : decode cX7_keepTrial 6 = .ok (.aload_n 0, 1) := by decide +kernel
theorem dX7_keepTrial_7 : decode cX7_keepTrial 7 = .ok (.getfield 45, 3) := by decide +kernel
theorem dX7_keepTrial_10 : decode cX7_keepTrial 10 = .ok (.putfield 41, 3) := by decide +kernel
theorem dX7_keepTrial_13 : decode cX7_keepTrial 13 = .ok (.aload_n 0, 1) := by decide +kernel
theorem dX7_keepTrial_14 : decode cX7_keepTrial 14 = .ok (.aload_n 1, 1) := by decide +kernel
theorem dX7_keepTrial_15 : decode cX7_keepTrial 15 = .ok (.putfield 45, 3) := by decide +kernel
theorem dX7_keepTrial_18 : decode cX7_keepTrial 18 = .ok (.return_, 1) := by decide +kernel
set_option maxRecDepth 20000 in
theorem ggX7_tryLaying_X1_hasOpened : GoodIn wsX7_tryLaying wsX1_hasOpened := goodIn_r _ [9, 10, 11, 12, 13, 8, 14, 15, 95, 96, 97, 98, 99, 100, 101, 102, 103, 104, 105, 106] (by decide +kernel) (by decide +kernel)
set_option maxRecDepth 20000 in
theorem gX7_tryLaying_X1_hasOpened : GoodIn wsX7_tryLaying (wsV RX7 139 RX1 yX1_hasOpened wsX1_hasOpened) := goodIn_app (goodIn_of _ (by decide +kernel)) ggX7_tryLaying_X1_hasOpened
set_option maxRecDepth 20000 in
theorem ggX7_tryLaying_X4_findFirst : GoodIn wsX7_tryLaying wsX4_findFirst := goodIn_r _ [20, 21, 22, 23, 24, 25, 26, 27, 28, 29, 30, 31, 32, 33, 34, 35, 36, 37, 38, 39, 40, 19, 41, 42, 43, 44, 45, 46, 47, 48, 49, 50, 51, 52, 53, 54, 55, 56, 57, 58, 59, 60, 61, 62, 63, 64, 65, 66, 67, 68, 69, 70, 71, 72, 107, 108, 109, 110, 111] (by decide +kernel) (by decide +kernel)
set_option maxRecDepth 20000 in
theorem gX7_tryLaying_X4_findFirst : GoodIn wsX7_tryLaying (wsV RX7 69 RX4 yX4_findFirst wsX4_findFirst) := goodIn_app (goodIn_of _ (by decide +kernel)) ggX7_tryLaying_X4_findFirst
set_option maxRecDepth 20000 in
theorem ggX7_tryLaying_X2_shownWorth : GoodIn wsX7_tryLaying wsX2_shownWorth := goodIn_r _ [77, 78, 79, 80, 29, 81, 82, 83, 84, 85, 86, 51, 45, 52, 87, 60, 61, 62, 63, 64, 65, 110, 111] (by decide +kernel) (by decide +kernel)
set_option maxRecDepth 20000 in
theorem gX7_tryLaying_X2_shownWorth : GoodIn wsX7_tryLaying (wsV RX7 108 RX2 yX2_shownWorth wsX2_shownWorth) := goodIn_app (goodIn_of _ (by decide +kernel)) ggX7_tryLaying_X2_shownWorth
theorem dX7_tryLaying_0 : decode cX7_tryLaying 0 = .ok (.aload_n 0, 1) := by decide +kernel
theorem dX7_tryLaying_1 : decode cX7_tryLaying 1 = .ok (.getfield 34, 3) := by decide +kernel
theorem dX7_tryLaying_4 : decode cX7_tryLaying 4 = .ok (.aload_n 0, 1) := by decide +kernel
theorem dX7_tryLaying_5 : decode cX7_tryLaying 5 = .ok (.getfield 34, 3) := by decide +kernel
theorem dX7_tryLaying_8 : decode cX7_tryLaying 8 = .ok (.getfield 150, 3) := by decide +kernel
theorem dX7_tryLaying_11 : decode cX7_tryLaying 11 = .ok (.invokevirtual 139, 3) := by decide +kernel
theorem dX7_tryLaying_14 : decode cX7_tryLaying 14 = .ok (.ifCond .ne 35, 3) := by decide +kernel
theorem dX7_tryLaying_17 : decode cX7_tryLaying 17 = .ok (.aload_n 0, 1) := by decide +kernel
theorem dX7_tryLaying_18 : decode cX7_tryLaying 18 = .ok (.getfield 27, 3) := by decide +kernel
theorem dX7_tryLaying_21 : decode cX7_tryLaying 21 = .ok (.lload_n 1, 1) := by decide +kernel
theorem dX7_tryLaying_22 : decode cX7_tryLaying 22 = .ok (.aload_n 0, 1) := by decide +kernel
theorem dX7_tryLaying_23 : decode cX7_tryLaying 23 = .ok (.getfield 45, 3) := by decide +kernel
theorem dX7_tryLaying_26 : decode cX7_tryLaying 26 = .ok (.invokevirtual 69, 3) := by decide +kernel
theorem dX7_tryLaying_29 : decode cX7_tryLaying 29 = .ok (.ifCond .eq 17, 3) := by decide +kernel
theorem dX7_tryLaying_32 : decode cX7_tryLaying 32 = .ok (.aload_n 0, 1) := by decide +kernel
theorem dX7_tryLaying_33 : decode cX7_tryLaying 33 = .ok (.getfield 45, 3) := by decide +kernel
theorem dX7_tryLaying_36 : decode cX7_tryLaying 36 = .ok (.invokevirtual 108, 3) := by decide +kernel
theorem dX7_tryLaying_39 : decode cX7_tryLaying 39 = .ok (.aload_n 0, 1) := by decide +kernel
theorem dX7_tryLaying_40 : decode cX7_tryLaying 40 = .ok (.getfield 48, 3) := by decide +kernel
theorem dX7_tryLaying_43 : decode cX7_tryLaying 43 = .ok (.if_icmp .ge 6, 3) := by decide +kernel
theorem dX7_tryLaying_46 : decode cX7_tryLaying 46 = .ok (.bipush 7, 2) := by decide +kernel
theorem dX7_tryLaying_48 : decode cX7_tryLaying 48 = .ok (.ireturn, 1) := by decide +kernel
theorem dX7_tryLaying_49 : decode cX7_tryLaying 49 = .ok (.aload_n 0, 1) := by decide +kernel
theorem dX7_tryLaying_50 : decode cX7_tryLaying 50 = .ok (.getfield 27, 3) := by decide +kernel
theorem dX7_tryLaying_53 : decode cX7_tryLaying 53 = .ok (.aload_n 0, 1) := by decide +kernel
theorem dX7_tryLaying_54 : decode cX7_tryLaying 54 = .ok (.getfield 34, 3) := by decide +kernel
theorem dX7_tryLaying_57 : decode cX7_tryLaying 57 = .ok (.getfield 133, 3) := by decide +kernel
theorem dX7_tryLaying_60 : decode cX7_tryLaying 60 = .ok (.lload_n 1, 1) := by decide +kernel
theorem dX7_tryLaying_61 : decode cX7_tryLaying 61 = .ok (.lor, 1) := by decide +kernel
theorem dX7_tryLaying_62 : decode cX7_tryLaying 62 = .ok (.aload_n 0, 1) := by decide +kernel
theorem dX7_tryLaying_63 : decode cX7_tryLaying 63 = .ok (.getfield 45, 3) := by decide +kernel
theorem dX7_tryLaying_66 : decode cX7_tryLaying 66 = .ok (.invokevirtual 69, 3) := by decide +kernel
theorem dX7_tryLaying_69 : decode cX7_tryLaying 69 = .ok (.ifCond .eq 7, 3) := by decide +kernel
theorem dX7_tryLaying_72 : decode cX7_tryLaying 72 = .ok (.iconst 0, 1) := by decide +kernel
theorem dX7_tryLaying_73 : decode cX7_tryLaying 73 = .ok (.goto 4, 3) := by decide +kernel
theorem dX7_tryLaying_76 : decode cX7_tryLaying 76 = .ok (.iconst 3, 1) := by decide +kernel
theorem dX7_tryLaying_77 : decode cX7_tryLaying 77 = .ok (.ireturn, 1) := by decide +kernel
set_option maxRecDepth 20000 in
theorem ggX7_carryOut_X1_putDown : GoodIn wsX7_carryOut wsX1_putDown := goodIn_r _ [6, 7, 8, 9, 10, 11, 12, 13, 14, 15, 16, 17, 5, 18, 19, 34, 35, 36, 37, 38, 39, 40, 41, 42, 43, 44, 45] (by decide +kernel) (by decide +kernel)
set_option maxRecDepth 20000 in
theorem gX7_carryOut_X1_putDown : GoodIn wsX7_carryOut (wsV RX7 172 RX1 yX1_putDown wsX1_putDown) := goodIn_app (goodIn_of _ (by decide +kernel)) ggX7_carryOut_X1_putDown
set_option maxRecDepth 20000 in
theorem ggX7_carryOut_X7_keepTrial : GoodIn wsX7_carryOut wsX7_keepTrial := goodIn_r _ [24, 25, 26, 27, 28, 29, 30, 31, 32, 33] (by decide +kernel) (by decide +kernel)
set_option maxRecDepth 20000 in
theorem gX7_carryOut_X7_keepTrial : GoodIn wsX7_carryOut (wsV RX7 73 RX7 yX7_keepTrial wsX7_keepTrial) := goodIn_app (goodIn_of _ (by decide +kernel)) ggX7_carryOut_X7_keepTrial
theorem dX7_carryOut_0 : decode cX7_carryOut 0 = .ok (.aload_n 0, 1) := by decide +kernel
theorem dX7_carryOut_1 : decode cX7_carryOut 1 = .ok (.getfield 34, 3) := by decide +kernel
theorem dX7_carryOut_4 : decode cX7_carryOut 4 = .ok (.lload_n 1, 1) := by decide +kernel
theorem dX7_carryOut_5 : decode cX7_carryOut 5 = .ok (.invokevirtual 172, 3) := by decide +kernel
theorem dX7_carryOut_8 : decode cX7_carryOut 8 = .ok (.aload_n 0, 1) := by decide +kernel
theorem dX7_carryOut_9 : decode cX7_carryOut 9 = .ok (.invokevirtual 73, 3) := by decide +kernel
theorem dX7_carryOut_12 : decode cX7_carryOut 12 = .ok (.return_, 1) := by decide +kernel
set_option maxRecDepth 20000 in
theorem ggX7_layAllBest_X1_hasOpened : GoodIn wsX7_layAllBest wsX1_hasOpened := goodIn_r _ [7, 8, 9, 10, 11, 6, 12, 13, 217, 218, 219, 220, 221, 222, 223, 224, 225, 226, 227, 228] (by decide +kernel) (by decide +kernel)
set_option maxRecDepth 20000 in
theorem gX7_layAllBest_X1_hasOpened : GoodIn wsX7_layAllBest (wsV RX7 139 RX1 yX1_hasOpened wsX1_hasOpened) := goodIn_app (goodIn_of _ (by decide +kernel)) ggX7_layAllBest_X1_hasOpened
set_option maxRecDepth 20000 in
theorem ggX7_layAllBest_X1_handOf : GoodIn wsX7_layAllBest wsX1_handOf := goodIn_r _ [17, 18, 9, 10, 11, 6, 12, 13, 217, 218, 219, 220, 221, 222, 223, 224, 225, 226, 227, 228] (by decide +kernel) (by decide +kernel)
set_option maxRecDepth 20000 in
theorem gX7_layAllBest_X1_handOf : GoodIn wsX7_layAllBest (wsV RX7 129 RX1 yX1_handOf wsX1_handOf) := goodIn_app (goodIn_of _ (by decide +kernel)) ggX7_layAllBest_X1_handOf
set_option maxRecDepth 20000 in
theorem ggX7_layAllBest_X6_bestPart : GoodIn wsX7_layAllBest wsX6_bestPart := goodIn_r _ [23, 24, 25, 26, 27, 28, 29, 30, 31, 32, 33, 34, 35, 36, 37, 38, 39, 40, 41, 42, 43, 44, 45, 46, 22, 47, 48, 49, 50, 51, 52, 53, 54, 55, 56, 57, 58, 59, 60, 61, 62, 63, 64, 65, 66, 67, 68, 69, 70, 71, 72, 73, 74, 75, 76, 77, 78, 79, 80, 81, 82, 83, 84, 85, 86, 87, 88, 89, 90, 91, 92, 93, 94, 95, 96, 97, 98, 99, 100, 101, 102, 103, 104, 105, 106, 107, 108, 109, 110, 111, 112, 113, 114, 115, 116, 117, 118, 119, 120, 121, 122, 123, 124, 125, 126, 127, 128, 129, 130, 131, 132, 133, 134, 135, 136, 137, 138, 139, 140, 141, 142, 143, 144, 145, 146, 147, 148, 229, 230, 231, 232, 233, 234, 235, 236, 237, 238, 239, 240, 241, 242, 243, 244, 245] (by decide +kernel) (by decide +kernel)
set_option maxRecDepth 20000 in
theorem gX7_layAllBest_X6_bestPart : GoodIn wsX7_layAllBest (wsV RX7 87 RX6 yX6_bestPart wsX6_bestPart) := goodIn_app (goodIn_of _ (by decide +kernel)) ggX7_layAllBest_X6_bestPart
set_option maxRecDepth 20000 in
theorem ggX7_layAllBest_X7_tryLaying : GoodIn wsX7_layAllBest wsX7_tryLaying := goodIn_r _ [153, 1, 154, 155, 156, 3, 4, 5, 6, 7, 8, 9, 10, 11, 12, 13, 157, 158, 159, 160, 161, 162, 163, 164, 165, 166, 167, 168, 34, 35, 36, 37, 38, 39, 40, 41, 42, 43, 169, 170, 171, 172, 173, 174, 139, 85, 140, 175, 77, 78, 176, 84, 86, 177, 107, 108, 178, 114, 115, 179, 88, 89, 90, 91, 92, 93, 180, 117, 118, 119, 120, 121, 122, 181, 182, 183, 184, 185, 186, 187, 80, 81, 82, 29, 30, 31, 188, 189, 210, 211, 212, 213, 214, 215, 216, 217, 218, 219, 220, 221, 222, 223, 224, 225, 226, 227, 228, 246, 247, 248, 249, 250] (by decide +kernel) (by decide +kernel)
set_option maxRecDepth 20000 in
theorem gX7_layAllBest_X7_tryLaying : GoodIn wsX7_layAllBest (wsV RX7 155 RX7 yX7_tryLaying wsX7_tryLaying) := goodIn_app (goodIn_of _ (by decide +kernel)) ggX7_layAllBest_X7_tryLaying
set_option maxRecDepth 20000 in
theorem ggX7_layAllBest_X7_carryOut : GoodIn wsX7_layAllBest wsX7_carryOut := goodIn_r _ [193, 1, 194, 195, 196, 6, 197, 198, 18, 199, 8, 200, 201, 202, 203, 9, 10, 11, 12, 13, 204, 205, 206, 152, 207, 208, 155, 210, 211, 212, 213, 214, 215, 216, 217, 218, 219, 220, 221, 222, 223, 224, 225, 226, 227, 228] (by decide +kernel) (by decide +kernel)
set_option maxRecDepth 20000 in
theorem gX7_layAllBest_X7_carryOut : GoodIn wsX7_layAllBest (wsV RX7 158 RX7 yX7_carryOut wsX7_carryOut) := goodIn_app (goodIn_of _ (by decide +kernel)) ggX7_layAllBest_X7_carryOut
set_option maxRecDepth 20000 in
theorem ggX7_layAllBest_J13_bitCount_95d88 : GoodIn wsX7_layAllBest wsJ13_bitCount_95d88 := goodIn_r _ [40, 41, 42, 43] (by decide +kernel) (by decide +kernel)
set_option maxRecDepth 20000 in
theorem gX7_layAllBest_J13_bitCount_95d88 : GoodIn wsX7_layAllBest (va_wsS RX7 142 yJ13_bitCount_95d88 wsJ13_bitCount_95d88) := goodIn_app (goodIn_of _ (by decide +kernel)) ggX7_layAllBest_J13_bitCount_95d88
theorem dX7_layAllBest_0 : decode cX7_layAllBest 0 = .ok (.iconst 0, 1) := by decide +kernel
theorem dX7_layAllBest_1 : decode cX7_layAllBest 1 = .ok (.istore_n 2, 1) := by decide +kernel
theorem dX7_layAllBest_2 : decode cX7_layAllBest 2 = .ok (.iconst 0, 1) := by decide +kernel
theorem dX7_layAllBest_3 : decode cX7_layAllBest 3 = .ok (.istore_n 3, 1) := by decide +kernel
theorem dX7_layAllBest_4 : decode cX7_layAllBest 4 = .ok (.iload_n 3, 1) := by decide +kernel
theorem dX7_layAllBest_5 : decode cX7_layAllBest 5 = .ok (.bipush 54, 2) := by decide +kernel
theorem dX7_layAllBest_7 : decode cX7_layAllBest 7 = .ok (.if_icmp .ge 108, 3) := by decide +kernel
theorem dX7_layAllBest_10 : decode cX7_layAllBest 10 = .ok (.aload_n 0, 1) := by decide +kernel
theorem dX7_layAllBest_11 : decode cX7_layAllBest 11 = .ok (.getfield 34, 3) := by decide +kernel
theorem dX7_layAllBest_14 : decode cX7_layAllBest 14 = .ok (.getfield 168, 3) := by decide +kernel
theorem dX7_layAllBest_17 : decode cX7_layAllBest 17 = .ok (.ifCond .ne 98, 3) := by decide +kernel
theorem dX7_layAllBest_20 : decode cX7_layAllBest 20 = .ok (.aload_n 0, 1) := by decide +kernel
theorem dX7_layAllBest_21 : decode cX7_layAllBest 21 = .ok (.getfield 34, 3) := by decide +kernel
theorem dX7_layAllBest_24 : decode cX7_layAllBest 24 = .ok (.aload_n 0, 1) := by decide +kernel
theorem dX7_layAllBest_25 : decode cX7_layAllBest 25 = .ok (.getfield 34, 3) := by decide +kernel
theorem dX7_layAllBest_28 : decode cX7_layAllBest 28 = .ok (.getfield 150, 3) := by decide +kernel
theorem dX7_layAllBest_31 : decode cX7_layAllBest 31 = .ok (.invokevirtual 139, 3) := by decide +kernel
theorem dX7_layAllBest_34 : decode cX7_layAllBest 34 = .ok (.ifCond .eq 13, 3) := by decide +kernel
theorem dX7_layAllBest_37 : decode cX7_layAllBest 37 = .ok (.aload_n 0, 1) := by decide +kernel
theorem dX7_layAllBest_38 : decode cX7_layAllBest 38 = .ok (.getfield 34, 3) := by decide +kernel
theorem dX7_layAllBest_41 : decode cX7_layAllBest 41 = .ok (.getfield 133, 3) := by decide +kernel
theorem dX7_layAllBest_44 : decode cX7_layAllBest 44 = .ok (.goto 4, 3) := by decide +kernel
theorem dX7_layAllBest_47 : decode cX7_layAllBest 47 = .ok (.lconst 0, 1) := by decide +kernel
theorem dX7_layAllBest_48 : decode cX7_layAllBest 48 = .ok (.lstore 4, 2) := by decide +kernel
theorem dX7_layAllBest_50 : decode cX7_layAllBest 50 = .ok (.aload_n 0, 1) := by decide +kernel
theorem dX7_layAllBest_51 : decode cX7_layAllBest 51 = .ok (.getfield 20, 3) := by decide +kernel
theorem dX7_layAllBest_54 : decode cX7_layAllBest 54 = .ok (.lload 4, 2) := by decide +kernel
theorem dX7_layAllBest_56 : decode cX7_layAllBest 56 = .ok (.aload_n 0, 1) := by decide +kernel
theorem dX7_layAllBest_57 : decode cX7_layAllBest 57 = .ok (.getfield 34, 3) := by decide +kernel
theorem dX7_layAllBest_60 : decode cX7_layAllBest 60 = .ok (.aload_n 0, 1) := by decide +kernel
theorem dX7_layAllBest_61 : decode cX7_layAllBest 61 = .ok (.getfield 34, 3) := by decide +kernel
theorem dX7_layAllBest_64 : decode cX7_layAllBest 64 = .ok (.getfield 150, 3) := by decide +kernel
theorem dX7_layAllBest_67 : decode cX7_layAllBest 67 = .ok (.invokevirtual 129, 3) := by decide +kernel
theorem dX7_layAllBest_70 : decode cX7_layAllBest 70 = .ok (.iload_n 1, 1) := by decide +kernel
theorem dX7_layAllBest_71 : decode cX7_layAllBest 71 = .ok (.invokevirtual 87, 3) := by decide +kernel
theorem dX7_layAllBest_74 : decode cX7_layAllBest 74 = .ok (.lstore 6, 2) := by decide +kernel
theorem dX7_layAllBest_76 : decode cX7_layAllBest 76 = .ok (.lload 6, 2) := by decide +kernel
theorem dX7_layAllBest_78 : decode cX7_layAllBest 78 = .ok (.lconst 0, 1) := by decide +kernel
theorem dX7_layAllBest_79 : decode cX7_layAllBest 79 = .ok (.lcmp, 1) := by decide +kernel
theorem dX7_layAllBest_80 : decode cX7_layAllBest 80 = .ok (.ifCond .le 35, 3) := by decide +kernel
theorem dX7_layAllBest_83 : decode cX7_layAllBest 83 = .ok (.aload_n 0, 1) := by decide +kernel
theorem dX7_layAllBest_84 : decode cX7_layAllBest 84 = .ok (.lload 6, 2) := by decide +kernel
theorem dX7_layAllBest_86 : decode cX7_layAllBest 86 = .ok (.invokevirtual 155, 3) := by decide +kernel
theorem dX7_layAllBest_89 : decode cX7_layAllBest 89 = .ok (.ifCond .eq 6, 3) := by decide +kernel
theorem dX7_layAllBest_92 : decode cX7_layAllBest 92 = .ok (.goto 23, 3) := by decide +kernel
theorem dX7_layAllBest_95 : decode cX7_layAllBest 95 = .ok (.aload_n 0, 1) := by decide +kernel
theorem dX7_layAllBest_96 : decode cX7_layAllBest 96 = .ok (.lload 6, 2) := by decide +kernel
theorem dX7_layAllBest_98 : decode cX7_layAllBest 98 = .ok (.invokevirtual 158, 3) := by decide +kernel
theorem dX7_layAllBest_101 : decode cX7_layAllBest 101 = .ok (.iload_n 2, 1) := by decide +kernel
theorem dX7_layAllBest_102 : decode cX7_layAllBest 102 = .ok (.lload 6, 2) := by decide +kernel
theorem dX7_layAllBest_104 : decode cX7_layAllBest 104 = .ok (.invokestatic 142, 3) := by decide +kernel
theorem dX7_layAllBest_107 : decode cX7_layAllBest 107 = .ok (.iadd, 1) := by decide +kernel
theorem dX7_layAllBest_108 : decode cX7_layAllBest 108 = .ok (.istore_n 2, 1) := by decide +kernel
theorem dX7_layAllBest_109 : decode cX7_layAllBest 109 = .ok (.iinc 3 1, 3) := by decide +kernel
theorem dX7_layAllBest_112 : decode cX7_layAllBest 112 = .ok (.goto (-108), 3) := by decide +kernel
theorem dX7_layAllBest_115 : decode cX7_layAllBest 115 = .ok (.iload_n 2, 1) := by decide +kernel
theorem dX7_layAllBest_116 : decode cX7_layAllBest 116 = .ok (.ireturn, 1) := by decide +kernel
theorem dX8_init_0 : decode cX8_init 0 = .ok (.aload_n 0, 1) := by decide +kernel
theorem dX8_init_1 : decode cX8_init 1 = .ok (.invokespecial 1, 3) := by decide +kernel
theorem dX8_init_4 : decode cX8_init 4 = .ok (.aload_n 0, 1) := by decide +kernel
theorem dX8_init_5 : decode cX8_init 5 = .ok (.ldc 7, 2) := by decide +kernel
theorem dX8_init_7 : decode cX8_init 7 = .ok (.newarray .long, 2) := by decide +kernel
theorem dX8_init_9 : decode cX8_init 9 = .ok (.putfield 8, 3) := by decide +kernel
theorem dX8_init_12 : decode cX8_init 12 = .ok (.aload_n 0, 1) := by decide +kernel
theorem dX8_init_13 : decode cX8_init 13 = .ok (.bipush 52, 2) := by decide +kernel
theorem dX8_init_15 : decode cX8_init 15 = .ok (.newarray .int, 2) := by decide +kernel
theorem dX8_init_17 : decode cX8_init 17 = .ok (.putfield 14, 3) := by decide +kernel
theorem dX8_init_20 : decode cX8_init 20 = .ok (.aload_n 0, 1) := by decide +kernel
theorem dX8_init_21 : decode cX8_init 21 = .ok (.bipush 52, 2) := by decide +kernel
theorem dX8_init_23 : decode cX8_init 23 = .ok (.newarray .boolean, 2) := by decide +kernel
theorem dX8_init_25 : decode cX8_init 25 = .ok (.putfield 18, 3) := by decide +kernel
theorem dX8_init_28 : decode cX8_init 28 = .ok (.aload_n 0, 1) := by decide +kernel
theorem dX8_init_29 : decode cX8_init 29 = .ok (.ldc 7, 2) := by decide +kernel
theorem dX8_init_31 : decode cX8_init 31 = .ok (.newarray .int, 2) := by decide +kernel
theorem dX8_init_33 : decode cX8_init 33 = .ok (.putfield 22, 3) := by decide +kernel
theorem dX8_init_36 : decode cX8_init 36 = .ok (.aload_n 0, 1) := by decide +kernel
theorem dX8_init_37 : decode cX8_init 37 = .ok (.sipush 3840, 3) := by decide +kernel
theorem dX8_init_40 : decode cX8_init 40 = .ok (.newarray .boolean, 2) := by decide +kernel
theorem dX8_init_42 : decode cX8_init 42 = .ok (.putfield 25, 3) := by decide +kernel
theorem dX8_init_45 : decode cX8_init 45 = .ok (.aload_n 0, 1) := by decide +kernel
theorem dX8_init_46 : decode cX8_init 46 = .ok (.sipush 3840, 3) := by decide +kernel
theorem dX8_init_49 : decode cX8_init 49 = .ok (.newarray .boolean, 2) := by decide +kernel
theorem dX8_init_51 : decode cX8_init 51 = .ok (.putfield 28, 3) := by decide +kernel
theorem dX8_init_54 : decode cX8_init 54 = .ok (.aload_n 0, 1) := by decide +kernel
theorem dX8_init_55 : decode cX8_init 55 = .ok (.bipush 30, 2) := by decide +kernel
theorem dX8_init_57 : decode cX8_init 57 = .ok (.putfield 31, 3) := by decide +kernel
theorem dX8_init_60 : decode cX8_init 60 = .ok (.aload_n 0, 1) := by decide +kernel
theorem dX8_init_61 : decode cX8_init 61 = .ok (.iconst 4, 1) := by decide +kernel
theorem dX8_init_62 : decode cX8_init 62 = .ok (.newarray .long, 2) := by decide +kernel
theorem dX8_init_64 : decode cX8_init 64 = .ok (.putfield 35, 3) := by decide +kernel
theorem dX8_init_67 : decode cX8_init 67 = .ok (.aload_n 0, 1) := by decide +kernel
theorem dX8_init_68 : decode cX8_init 68 = .ok (.iconst 4, 1) := by decide +kernel
theorem dX8_init_69 : decode cX8_init 69 = .ok (.newarray .boolean, 2) := by decide +kernel
theorem dX8_init_71 : decode cX8_init 71 = .ok (.putfield 38, 3) := by decide +kernel
theorem dX8_init_74 : decode cX8_init 74 = .ok (.aload_n 0, 1) := by decide +kernel
theorem dX8_init_75 : decode cX8_init 75 = .ok (.bipush 54, 2) := by decide +kernel
theorem dX8_init_77 : decode cX8_init 77 = .ok (.newarray .int, 2) := by decide +kernel
theorem dX8_init_79 : decode cX8_init 79 = .ok (.putfield 41, 3) := by decide +kernel
theorem dX8_init_82 : decode cX8_init 82 = .ok (.aload_n 0, 1) := by decide +kernel
theorem dX8_init_83 : decode cX8_init 83 = .ok (.bipush 52, 2) := by decide +kernel
theorem dX8_init_85 : decode cX8_init 85 = .ok (.newarray .int, 2) := by decide +kernel
theorem dX8_init_87 : decode cX8_init 87 = .ok (.putfield 44, 3) := by decide +kernel
theorem dX8_init_90 : decode cX8_init 90 = .ok (.aload_n 0, 1) := by decide +kernel
theorem dX8_init_91 : decode cX8_init 91 = .ok (.bipush 52, 2) := by decide +kernel
theorem dX8_init_93 : decode cX8_init 93 = .ok (.newarray .boolean, 2) := by decide +kernel
theorem dX8_init_95 : decode cX8_init 95 = .ok (.putfield 47, 3) := by decide +kernel
theorem dX8_init_98 : decode cX8_init 98 = .ok (.return_, 1) := by decide +kernel
theorem dX8_status_0 : decode cX8_status 0 = .ok (.aload_n 0, 1) := by decide +kernel
theorem dX8_status_1 : decode cX8_status 1 = .ok (.getfield 50, 3) := by decide +kernel
theorem dX8_status_4 : decode cX8_status 4 = .ok (.ireturn, 1) := by decide +kernel
theorem dX8_none_0 : decode cX8_none 0 = .ok (.aload_n 0, 1) := by decide +kernel
theorem dX8_none_1 : decode cX8_none 1 = .ok (.iload_n 1, 1) := by decide +kernel
theorem dX8_none_2 : decode cX8_none 2 = .ok (.putfield 50, 3) := by decide +kernel
theorem dX8_none_5 : decode cX8_none 5 = .ok (.iconst (-1), 1) := by decide +kernel
theorem dX8_none_6 : decode cX8_none 6 = .ok (.ireturn, 1) := by decide +kernel
theorem dX8_isSet_0 : decode cX8_isSet 0 = .ok (.lload_n 0, 1) := by decide +kernel
theorem dX8_isSet_1 : decode cX8_isSet 1 = .ok (.lconst 0, 1) := by decide +kernel
theorem dX8_isSet_2 : decode cX8_isSet 2 = .ok (.lcmp, 1) := by decide +kernel
theorem dX8_isSet_3 : decode cX8_isSet 3 = .ok (.ifCond .lt 15, 3) := by decide +kernel
theorem dX8_isSet_6 : decode cX8_isSet 6 = .ok (.lload_n 0, 1) := by decide +kernel
theorem dX8_isSet_7 : decode cX8_isSet 7 = .ok (.ldc2_w 53, 3) := by decide +kernel
theorem dX8_isSet_10 : decode cX8_isSet 10 = .ok (.lcmp, 1) := by decide +kernel
theorem dX8_isSet_11 : decode cX8_isSet 11 = .ok (.ifCond .gt 7, 3) := by decide +kernel
theorem dX8_isSet_14 : decode cX8_isSet 14 = .ok (.iconst 1, 1) := by decide +kernel
theorem dX8_isSet_15 : decode cX8_isSet 15 = .ok (.goto 4, 3) := by decide +kernel
theorem dX8_isSet_18 : decode cX8_isSet 18 = .ok (.iconst 0, 1) := by decide +kernel
theorem dX8_isSet_19 : decode cX8_isSet 19 = .ok (.ireturn, 1) := by decide +kernel
theorem dX8_has_0 : decode cX8_has 0 = .ok (.lload_n 0, 1) := by decide +kernel
theorem dX8_has_1 : decode cX8_has 1 = .ok (.iload_n 2, 1) := by decide +kernel
theorem dX8_has_2 : decode cX8_has 2 = .ok (.lshr, 1) := by decide +kernel
theorem dX8_has_3 : decode cX8_has 3 = .ok (.lconst 1, 1) := by decide +kernel
theorem dX8_has_4 : decode cX8_has 4 = .ok (.land, 1) := by decide +kernel
theorem dX8_has_5 : decode cX8_has 5 = .ok (.lconst 1, 1) := by decide +kernel
theorem dX8_has_6 : decode cX8_has 6 = .ok (.lcmp, 1) := by decide +kernel
theorem dX8_has_7 : decode cX8_has 7 = .ok (.ifCond .ne 7, 3) := by decide +kernel
theorem dX8_has_10 : decode cX8_has 10 = .ok (.iconst 1, 1) := by decide +kernel
theorem dX8_has_11 : decode cX8_has 11 = .ok (.goto 4, 3) := by decide +kernel
theorem dX8_has_14 : decode cX8_has 14 = .ok (.iconst 0, 1) := by decide +kernel
theorem dX8_has_15 : decode cX8_has 15 = .ok (.ireturn, 1) := by decide +kernel
theorem dX8_jokersOf_0 : decode cX8_jokersOf 0 = .ok (.lload_n 0, 1) := by decide +kernel
theorem dX8_jokersOf_1 : decode cX8_jokersOf 1 = .ok (.bipush 52, 2) := by decide +kernel
theorem dX8_jokersOf_3 : decode cX8_jokersOf 3 = .ok (.lshr, 1) := by decide +kernel
theorem dX8_jokersOf_4 : decode cX8_jokersOf 4 = .ok (.lconst 1, 1) := by decide +kernel
theorem dX8_jokersOf_5 : decode cX8_jokersOf 5 = .ok (.land, 1) := by decide +kernel
theorem dX8_jokersOf_6 : decode cX8_jokersOf 6 = .ok (.l2i, 1) := by decide +kernel
theorem dX8_jokersOf_7 : decode cX8_jokersOf 7 = .ok (.lload_n 0, 1) := by decide +kernel
theorem dX8_jokersOf_8 : decode cX8_jokersOf 8 = .ok (.bipush 53, 2) := by decide +kernel
theorem dX8_jokersOf_10 : decode cX8_jokersOf 10 = .ok (.lshr, 1) := by decide +kernel
theorem dX8_jokersOf_11 : decode cX8_jokersOf 11 = .ok (.lconst 1, 1) := by decide +kernel
theorem dX8_jokersOf_12 : decode cX8_jokersOf 12 = .ok (.land, 1) := by decide +kernel
theorem dX8_jokersOf_13 : decode cX8_jokersOf 13 = .ok (.l2i, 1) := by decide +kernel
theorem dX8_jokersOf_14 : decode cX8_jokersOf 14 = .ok (.iadd, 1) := by decide +kernel
theorem dX8_jokersOf_15 : decode cX8_jokersOf 15 = .ok (.ireturn, 1) := by decide +kernel
theorem dX8_worthOf_0 : decode cX8_worthOf 0 = .ok (.iload_n 0, 1) := by decide +kernel
theorem dX8_worthOf_1 : decode cX8_worthOf 1 = .ok (.bipush 51, 2) := by decide +kernel
theorem dX8_worthOf_3 : decode cX8_worthOf 3 = .ok (.if_icmp .le 8, 3) := by decide +kernel
theorem dX8_worthOf_6 : decode cX8_worthOf 6 = .ok (.bipush 20, 2) := by decide +kernel
theorem dX8_worthOf_8 : decode cX8_worthOf 8 = .ok (.goto 21, 3) := by decide +kernel
theorem dX8_worthOf_11 : decode cX8_worthOf 11 = .ok (.iload_n 0, 1) := by decide +kernel
theorem dX8_worthOf_12 : decode cX8_worthOf 12 = .ok (.iconst 4, 1) := by decide +kernel
theorem dX8_worthOf_13 : decode cX8_worthOf 13 = .ok (.idiv, 1) := by decide +kernel
theorem dX8_worthOf_14 : decode cX8_worthOf 14 = .ok (.bipush 8, 2) := by decide +kernel
theorem dX8_worthOf_16 : decode cX8_worthOf 16 = .ok (.if_icmp .le 8, 3) := by decide +kernel
theorem dX8_worthOf_19 : decode cX8_worthOf 19 = .ok (.bipush 10, 2) := by decide +kernel
theorem dX8_worthOf_21 : decode cX8_worthOf 21 = .ok (.goto 8, 3) := by decide +kernel
theorem dX8_worthOf_24 : decode cX8_worthOf 24 = .ok (.iload_n 0, 1) := by decide +kernel
theorem dX8_worthOf_25 : decode cX8_worthOf 25 = .ok (.iconst 4, 1) := by decide +kernel
theorem dX8_worthOf_26 : decode cX8_worthOf 26 = .ok (.idiv, 1) := by decide +kernel
theorem dX8_worthOf_27 : decode cX8_worthOf 27 = .ok (.iconst 1, 1) := by decide +kernel
theorem dX8_worthOf_28 : decode cX8_worthOf 28 = .ok (.iadd, 1) := by decide +kernel
theorem dX8_worthOf_29 : decode cX8_worthOf 29 = .ok (.ireturn, 1) := by decide +kernel
set_option maxRecDepth 20000 in
theorem ggX8_many_X8_has : GoodIn wsX8_many wsX8_has := goodIn_r _ [4] (by decide +kernel) (by decide +kernel)
set_option maxRecDepth 20000 in
theorem gX8_many_X8_has : GoodIn wsX8_many (va_wsS RX8 55 yX8_has wsX8_has) := goodIn_app (goodIn_of _ (by decide +kernel)) ggX8_many_X8_has
theorem dX8_many_0 : decode cX8_many 0 = .ok (.iconst 0, 1) := by decide +kernel
theorem dX8_many_1 : decode cX8_many 1 = .ok (.istore_n 2, 1) := by decide +kernel
theorem dX8_many_2 : decode cX8_many 2 = .ok (.iconst 0, 1) := by decide +kernel
theorem dX8_many_3 : decode cX8_many 3 = .ok (.istore_n 3, 1) := by decide +kernel
theorem dX8_many_4 : decode cX8_many 4 = .ok (.iload_n 3, 1) := by decide +kernel
theorem dX8_many_5 : decode cX8_many 5 = .ok (.bipush 54, 2) := by decide +kernel
theorem dX8_many_7 : decode cX8_many 7 = .ok (.if_icmp .ge 25, 3) := by decide +kernel
theorem dX8_many_10 : decode cX8_many 10 = .ok (.iload_n 2, 1) := by decide +kernel
theorem dX8_many_11 : decode cX8_many 11 = .ok (.lload_n 0, 1) := by decide +kernel
theorem dX8_many_12 : decode cX8_many 12 = .ok (.iload_n 3, 1) := by decide +kernel
theorem dX8_many_13 : decode cX8_many 13 = .ok (.invokestatic 55, 3) := by decide +kernel
theorem dX8_many_16 : decode cX8_many 16 = .ok (.ifCond .eq 7, 3) := by decide +kernel
theorem dX8_many_19 : decode cX8_many 19 = .ok (.iconst 1, 1) := by decide +kernel
theorem dX8_many_20 : decode cX8_many 20 = .ok (.goto 4, 3) := by decide +kernel
theorem dX8_many_23 : decode cX8_many 23 = .ok (.iconst 0, 1) := by decide +kernel
theorem dX8_many_24 : decode cX8_many 24 = .ok (.iadd, 1) := by decide +kernel
theorem dX8_many_25 : decode cX8_many 25 = .ok (.istore_n 2, 1) := by decide +kernel
theorem dX8_many_26 : decode cX8_many 26 = .ok (.iinc 3 1, 3) := by decide +kernel
theorem dX8_many_29 : decode cX8_many 29 = .ok (.goto (-25), 3) := by decide +kernel
theorem dX8_many_32 : decode cX8_many 32 = .ok (.iload_n 2, 1) := by decide +kernel
theorem dX8_many_33 : decode cX8_many 33 = .ok (.ireturn, 1) := by decide +kernel
set_option maxRecDepth 20000 in
theorem ggX8_worthAll_X8_has : GoodIn wsX8_worthAll wsX8_has := goodIn_r _ [4] (by decide +kernel) (by decide +kernel)
set_option maxRecDepth 20000 in
theorem gX8_worthAll_X8_has : GoodIn wsX8_worthAll (va_wsS RX8 55 yX8_has wsX8_has) := goodIn_app (goodIn_of _ (by decide +kernel)) ggX8_worthAll_X8_has
set_option maxRecDepth 20000 in
theorem ggX8_worthAll_X8_worthOf : GoodIn wsX8_worthAll wsX8_worthOf := goodIn_r _ [7] (by decide +kernel) (by decide +kernel)
set_option maxRecDepth 20000 in
theorem gX8_worthAll_X8_worthOf : GoodIn wsX8_worthAll (va_wsS RX8 59 yX8_worthOf wsX8_worthOf) := goodIn_app (goodIn_of _ (by decide +kernel)) ggX8_worthAll_X8_worthOf
theorem dX8_worthAll_0 : decode cX8_worthAll 0 = .ok (.iconst 0, 1) := by decide +kernel
theorem dX8_worthAll_1 : decode cX8_worthAll 1 = .ok (.istore_n 2, 1) := by decide +kernel
theorem dX8_worthAll_2 : decode cX8_worthAll 2 = .ok (.iconst 0, 1) := by decide +kernel
theorem dX8_worthAll_3 : decode cX8_worthAll 3 = .ok (.istore_n 3, 1) := by decide +kernel
theorem dX8_worthAll_4 : decode cX8_worthAll 4 = .ok (.iload_n 3, 1) := by decide +kernel
theorem dX8_worthAll_5 : decode cX8_worthAll 5 = .ok (.bipush 54, 2) := by decide +kernel
theorem dX8_worthAll_7 : decode cX8_worthAll 7 = .ok (.if_icmp .ge 28, 3) := by decide +kernel
theorem dX8_worthAll_10 : decode cX8_worthAll 10 = .ok (.iload_n 2, 1) := by decide +kernel
theorem dX8_worthAll_11 : decode cX8_worthAll 11 = .ok (.lload_n 0, 1) := by decide +kernel
theorem dX8_worthAll_12 : decode cX8_worthAll 12 = .ok (.iload_n 3, 1) := by decide +kernel
theorem dX8_worthAll_13 : decode cX8_worthAll 13 = .ok (.invokestatic 55, 3) := by decide +kernel
theorem dX8_worthAll_16 : decode cX8_worthAll 16 = .ok (.ifCond .eq 10, 3) := by decide +kernel
theorem dX8_worthAll_19 : decode cX8_worthAll 19 = .ok (.iload_n 3, 1) := by decide +kernel
theorem dX8_worthAll_20 : decode cX8_worthAll 20 = .ok (.invokestatic 59, 3) := by decide +kernel
theorem dX8_worthAll_23 : decode cX8_worthAll 23 = .ok (.goto 4, 3) := by decide +kernel
theorem dX8_worthAll_26 : decode cX8_worthAll 26 = .ok (.iconst 0, 1) := by decide +kernel
theorem dX8_worthAll_27 : decode cX8_worthAll 27 = .ok (.iadd, 1) := by decide +kernel
theorem dX8_worthAll_28 : decode cX8_worthAll 28 = .ok (.istore_n 2, 1) := by decide +kernel
theorem dX8_worthAll_29 : decode cX8_worthAll 29 = .ok (.iinc 3 1, 3) := by decide +kernel
theorem dX8_worthAll_32 : decode cX8_worthAll 32 = .ok (.goto (-28), 3) := by decide +kernel
theorem dX8_worthAll_35 : decode cX8_worthAll 35 = .ok (.iload_n 2, 1) := by decide +kernel
theorem dX8_worthAll_36 : decode cX8_worthAll 36 = .ok (.ireturn, 1) := by decide +kernel
theorem dX8_run_0 : decode cX8_run 0 = .ok (.iload_n 0, 1) := by decide +kernel
theorem dX8_run_1 : decode cX8_run 1 = .ok (.bipush 15, 2) := by decide +kernel
theorem dX8_run_3 : decode cX8_run 3 = .ok (.idiv, 1) := by decide +kernel
theorem dX8_run_4 : decode cX8_run 4 = .ok (.iconst 2, 1) := by decide +kernel
theorem dX8_run_5 : decode cX8_run 5 = .ok (.iload_n 1, 1) := by decide +kernel
theorem dX8_run_6 : decode cX8_run 6 = .ok (.imul, 1) := by decide +kernel
theorem dX8_run_7 : decode cX8_run 7 = .ok (.ishr, 1) := by decide +kernel
theorem dX8_run_8 : decode cX8_run 8 = .ok (.iconst 3, 1) := by decide +kernel
theorem dX8_run_9 : decode cX8_run 9 = .ok (.iand, 1) := by decide +kernel
theorem dX8_run_10 : decode cX8_run 10 = .ok (.ireturn, 1) := by decide +kernel
theorem dX8_inGroup_0 : decode cX8_inGroup 0 = .ok (.iload_n 0, 1) := by decide +kernel
theorem dX8_inGroup_1 : decode cX8_inGroup 1 = .ok (.iconst 3, 1) := by decide +kernel
theorem dX8_inGroup_2 : decode cX8_inGroup 2 = .ok (.idiv, 1) := by decide +kernel
theorem dX8_inGroup_3 : decode cX8_inGroup 3 = .ok (.iconst 5, 1) := by decide +kernel
theorem dX8_inGroup_4 : decode cX8_inGroup 4 = .ok (.irem, 1) := by decide +kernel
theorem dX8_inGroup_5 : decode cX8_inGroup 5 = .ok (.ireturn, 1) := by decide +kernel
theorem dX8_jokers_0 : decode cX8_jokers 0 = .ok (.iload_n 0, 1) := by decide +kernel
theorem dX8_jokers_1 : decode cX8_jokers 1 = .ok (.iconst 3, 1) := by decide +kernel
theorem dX8_jokers_2 : decode cX8_jokers 2 = .ok (.irem, 1) := by decide +kernel
theorem dX8_jokers_3 : decode cX8_jokers 3 = .ok (.ireturn, 1) := by decide +kernel
set_option maxRecDepth 20000 in
theorem ggX8_behind_X8_run : GoodIn wsX8_behind wsX8_run := goodIn_r _ [4] (by decide +kernel) (by decide +kernel)
set_option maxRecDepth 20000 in
theorem gX8_behind_X8_run : GoodIn wsX8_behind (va_wsS RX8 63 yX8_run wsX8_run) := goodIn_app (goodIn_of _ (by decide +kernel)) ggX8_behind_X8_run
set_option maxRecDepth 20000 in
theorem ggX8_behind_X8_inGroup : GoodIn wsX8_behind wsX8_inGroup := goodIn_r _ [7] (by decide +kernel) (by decide +kernel)
set_option maxRecDepth 20000 in
theorem gX8_behind_X8_inGroup : GoodIn wsX8_behind (va_wsS RX8 67 yX8_inGroup wsX8_inGroup) := goodIn_app (goodIn_of _ (by decide +kernel)) ggX8_behind_X8_inGroup
set_option maxRecDepth 20000 in
theorem ggX8_behind_X8_jokers : GoodIn wsX8_behind wsX8_jokers := goodIn_r _ [10] (by decide +kernel) (by decide +kernel)
set_option maxRecDepth 20000 in
theorem gX8_behind_X8_jokers : GoodIn wsX8_behind (va_wsS RX8 70 yX8_jokers wsX8_jokers) := goodIn_app (goodIn_of _ (by decide +kernel)) ggX8_behind_X8_jokers
