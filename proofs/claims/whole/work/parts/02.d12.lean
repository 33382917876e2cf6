theorem dX8_remember_0 : decode cX8_remember 0 = .ok (.iconst 0, 1) := by decide +kernel
theorem dX8_remember_1 : decode cX8_remember 1 = .ok (.istore_n 1, 1) := by decide +kernel
theorem dX8_remember_2 : decode cX8_remember 2 = .ok (.iload_n 1, 1) := by decide +kernel
theorem dX8_remember_3 : decode cX8_remember 3 = .ok (.bipush 52, 2) := by decide +kernel
theorem dX8_remember_5 : decode cX8_remember 5 = .ok (.if_icmp .ge 33, 3) := by decide +kernel
theorem dX8_remember_8 : decode cX8_remember 8 = .ok (.aload_n 0, 1) := by decide +kernel
theorem dX8_remember_9 : decode cX8_remember 9 = .ok (.getfield 44, 3) := by decide +kernel
theorem dX8_remember_12 : decode cX8_remember 12 = .ok (.iload_n 1, 1) := by decide +kernel
theorem dX8_remember_13 : decode cX8_remember 13 = .ok (.aload_n 0, 1) := by decide +kernel
theorem dX8_remember_14 : decode cX8_remember 14 = .ok (.getfield 14, 3) := by decide +kernel
theorem dX8_remember_17 : decode cX8_remember 17 = .ok (.iload_n 1, 1) := by decide +kernel
theorem dX8_remember_18 : decode cX8_remember 18 = .ok (.iaload, 1) := by decide +kernel
theorem dX8_remember_19 : decode cX8_remember 19 = .ok (.iastore, 1) := by decide +kernel
theorem dX8_remember_20 : decode cX8_remember 20 = .ok (.aload_n 0, 1) := by decide +kernel
theorem dX8_remember_21 : decode cX8_remember 21 = .ok (.getfield 47, 3) := by decide +kernel
theorem dX8_remember_24 : decode cX8_remember 24 = .ok (.iload_n 1, 1) := by decide +kernel
theorem dX8_remember_25 : decode cX8_remember 25 = .ok (.aload_n 0, 1) := by decide +kernel
theorem dX8_remember_26 : decode cX8_remember 26 = .ok (.getfield 18, 3) := by decide +kernel
theorem dX8_remember_29 : decode cX8_remember 29 = .ok (.iload_n 1, 1) := by decide +kernel
theorem dX8_remember_30 : decode cX8_remember 30 = .ok (.baload, 1) := by decide +kernel
theorem dX8_remember_31 : decode cX8_remember 31 = .ok (.bastore, 1) := by decide +kernel
theorem dX8_remember_32 : decode cX8_remember 32 = .ok (.iinc 1 1, 3) := by decide +kernel
theorem dX8_remember_35 : decode cX8_remember 35 = .ok (.goto (-33), 3) := by decide +kernel
theorem dX8_remember_38 : decode cX8_remember 38 = .ok (.return_, 1) := by decide +kernel
theorem dX8_recall_0 : decode cX8_recall 0 = .ok (.iconst 0, 1) := by decide +kernel
theorem dX8_recall_1 : decode cX8_recall 1 = .ok (.istore_n 1, 1) := by decide +kernel
theorem dX8_recall_2 : decode cX8_recall 2 = .ok (.iload_n 1, 1) := by decide +kernel
theorem dX8_recall_3 : decode cX8_recall 3 = .ok (.bipush 52, 2) := by decide +kernel
theorem dX8_recall_5 : decode cX8_recall 5 = .ok (.if_icmp .ge 33, 3) := by decide +kernel
theorem dX8_recall_8 : decode cX8_recall 8 = .ok (.aload_n 0, 1) := by decide +kernel
theorem dX8_recall_9 : decode cX8_recall 9 = .ok (.getfield 14, 3) := by decide +kernel
theorem dX8_recall_12 : decode cX8_recall 12 = .ok (.iload_n 1, 1) := by decide +kernel
theorem dX8_recall_13 : decode cX8_recall 13 = .ok (.aload_n 0, 1) := by decide +kernel
theorem dX8_recall_14 : decode cX8_recall 14 = .ok (.getfield 44, 3) := by decide +kernel
theorem dX8_recall_17 : decode cX8_recall 17 = .ok (.iload_n 1, 1) := by decide +kernel
theorem dX8_recall_18 : decode cX8_recall 18 = .ok (.iaload, 1) := by decide +kernel
theorem dX8_recall_19 : decode cX8_recall 19 = .ok (.iastore, 1) := by decide +kernel
theorem dX8_recall_20 : decode cX8_recall 20 = .ok (.aload_n 0, 1) := by decide +kernel
theorem dX8_recall_21 : decode cX8_recall 21 = .ok (.getfield 18, 3) := by decide +kernel
theorem dX8_recall_24 : decode cX8_recall 24 = .ok (.iload_n 1, 1) := by decide +kernel
theorem dX8_recall_25 : decode cX8_recall 25 = .ok (.aload_n 0, 1) := by decide +kernel
theorem dX8_recall_26 : decode cX8_recall 26 = .ok (.getfield 47, 3) := by decide +kernel
theorem dX8_recall_29 : decode cX8_recall 29 = .ok (.iload_n 1, 1) := by decide +kernel
theorem dX8_recall_30 : decode cX8_recall 30 = .ok (.baload, 1) := by decide +kernel
theorem dX8_recall_31 : decode cX8_recall 31 = .ok (.bastore, 1) := by decide +kernel
theorem dX8_recall_32 : decode cX8_recall 32 = .ok (.iinc 1 1, 3) := by decide +kernel
theorem dX8_recall_35 : decode cX8_recall 35 = .ok (.goto (-33), 3) := by decide +kernel
theorem dX8_recall_38 : decode cX8_recall 38 = .ok (.return_, 1) := by decide +kernel
set_option maxRecDepth 20000 in
theorem ggX8_mayLay_X8_remember : GoodIn wsX8_mayLay wsX8_remember := goodIn_r _ [9, 10, 11, 12, 13, 56, 57, 58, 59, 60, 61, 62, 63, 64, 65, 66, 67, 68, 69, 70, 71, 72, 73, 74, 75, 76, 77, 78] (by decide +kernel) (by decide +kernel)
set_option maxRecDepth 20000 in
theorem gX8_mayLay_X8_remember : GoodIn wsX8_mayLay (wsV RX8 187 RX8 yX8_remember wsX8_remember) := goodIn_app (goodIn_of _ (by decide +kernel)) ggX8_mayLay_X8_remember
set_option maxRecDepth 20000 in
theorem ggX8_mayLay_X8_keeps : GoodIn wsX8_mayLay wsX8_keeps := goodIn_r _ [17, 18, 11, 13, 19, 20, 21, 8, 22, 23, 24, 25, 26, 27, 28, 29, 30, 31, 32, 33, 34, 35, 36, 37, 38, 39, 40, 41, 42, 43, 44, 56, 57, 58, 59, 60, 61, 62, 63, 64, 65, 66, 67, 68, 69, 70, 71, 72, 73, 74, 75, 76, 77, 78] (by decide +kernel) (by decide +kernel)
set_option maxRecDepth 20000 in
theorem gX8_mayLay_X8_keeps : GoodIn wsX8_mayLay (wsV RX8 97 RX8 yX8_keeps wsX8_keeps) := goodIn_app (goodIn_of _ (by decide +kernel)) ggX8_mayLay_X8_keeps
set_option maxRecDepth 20000 in
theorem ggX8_mayLay_X8_worthShown : GoodIn wsX8_mayLay wsX8_worthShown := goodIn_r _ [48, 11, 49, 50, 8, 51, 56, 57, 58, 59, 60, 61, 62, 63, 64, 65, 66, 67, 68, 69, 70, 71, 72, 73, 74, 75, 76, 77, 78] (by decide +kernel) (by decide +kernel)
set_option maxRecDepth 20000 in
theorem gX8_mayLay_X8_worthShown : GoodIn wsX8_mayLay (wsV RX8 113 RX8 yX8_worthShown wsX8_worthShown) := goodIn_app (goodIn_of _ (by decide +kernel)) ggX8_mayLay_X8_worthShown
set_option maxRecDepth 20000 in
theorem ggX8_mayLay_X8_recall : GoodIn wsX8_mayLay wsX8_recall := goodIn_r _ [55, 11, 10, 13, 12, 56, 57, 58, 59, 60, 61, 62, 63, 64, 65, 66, 67, 68, 69, 70, 71, 72, 73, 74, 75, 76, 77, 78] (by decide +kernel) (by decide +kernel)
set_option maxRecDepth 20000 in
theorem gX8_mayLay_X8_recall : GoodIn wsX8_mayLay (wsV RX8 190 RX8 yX8_recall wsX8_recall) := goodIn_app (goodIn_of _ (by decide +kernel)) ggX8_mayLay_X8_recall
theorem dX8_mayLay_0 : decode cX8_mayLay 0 = .ok (.aload_n 0, 1) := by decide +kernel
theorem dX8_mayLay_1 : decode cX8_mayLay 1 = .ok (.invokevirtual 187, 3) := by decide +kernel
theorem dX8_mayLay_4 : decode cX8_mayLay 4 = .ok (.iconst 0, 1) := by decide +kernel
theorem dX8_mayLay_5 : decode cX8_mayLay 5 = .ok (.istore_n 3, 1) := by decide +kernel
theorem dX8_mayLay_6 : decode cX8_mayLay 6 = .ok (.aload_n 0, 1) := by decide +kernel
theorem dX8_mayLay_7 : decode cX8_mayLay 7 = .ok (.getfield 38, 3) := by decide +kernel
theorem dX8_mayLay_10 : decode cX8_mayLay 10 = .ok (.aload_n 0, 1) := by decide +kernel
theorem dX8_mayLay_11 : decode cX8_mayLay 11 = .ok (.getfield 165, 3) := by decide +kernel
theorem dX8_mayLay_14 : decode cX8_mayLay 14 = .ok (.baload, 1) := by decide +kernel
theorem dX8_mayLay_15 : decode cX8_mayLay 15 = .ok (.ifCond .ne 25, 3) := by decide +kernel
theorem dX8_mayLay_18 : decode cX8_mayLay 18 = .ok (.aload_n 0, 1) := by decide +kernel
theorem dX8_mayLay_19 : decode cX8_mayLay 19 = .ok (.lload_n 1, 1) := by decide +kernel
theorem dX8_mayLay_20 : decode cX8_mayLay 20 = .ok (.invokevirtual 97, 3) := by decide +kernel
theorem dX8_mayLay_23 : decode cX8_mayLay 23 = .ok (.ifCond .eq 14, 3) := by decide +kernel
theorem dX8_mayLay_26 : decode cX8_mayLay 26 = .ok (.aload_n 0, 1) := by decide +kernel
theorem dX8_mayLay_27 : decode cX8_mayLay 27 = .ok (.invokevirtual 113, 3) := by decide +kernel
theorem dX8_mayLay_30 : decode cX8_mayLay 30 = .ok (.aload_n 0, 1) := by decide +kernel
theorem dX8_mayLay_31 : decode cX8_mayLay 31 = .ok (.getfield 31, 3) := by decide +kernel
theorem dX8_mayLay_34 : decode cX8_mayLay 34 = .ok (.if_icmp .ge 6, 3) := by decide +kernel
theorem dX8_mayLay_37 : decode cX8_mayLay 37 = .ok (.bipush 7, 2) := by decide +kernel
theorem dX8_mayLay_39 : decode cX8_mayLay 39 = .ok (.istore_n 3, 1) := by decide +kernel
theorem dX8_mayLay_40 : decode cX8_mayLay 40 = .ok (.iload_n 3, 1) := by decide +kernel
theorem dX8_mayLay_41 : decode cX8_mayLay 41 = .ok (.ifCond .ne 18, 3) := by decide +kernel
theorem dX8_mayLay_44 : decode cX8_mayLay 44 = .ok (.aload_n 0, 1) := by decide +kernel
theorem dX8_mayLay_45 : decode cX8_mayLay 45 = .ok (.aload_n 0, 1) := by decide +kernel
theorem dX8_mayLay_46 : decode cX8_mayLay 46 = .ok (.getfield 180, 3) := by decide +kernel
theorem dX8_mayLay_49 : decode cX8_mayLay 49 = .ok (.lload_n 1, 1) := by decide +kernel
theorem dX8_mayLay_50 : decode cX8_mayLay 50 = .ok (.lor, 1) := by decide +kernel
theorem dX8_mayLay_51 : decode cX8_mayLay 51 = .ok (.invokevirtual 97, 3) := by decide +kernel
theorem dX8_mayLay_54 : decode cX8_mayLay 54 = .ok (.ifCond .ne 5, 3) := by decide +kernel
theorem dX8_mayLay_57 : decode cX8_mayLay 57 = .ok (.iconst 3, 1) := by decide +kernel
theorem dX8_mayLay_58 : decode cX8_mayLay 58 = .ok (.istore_n 3, 1) := by decide +kernel
theorem dX8_mayLay_59 : decode cX8_mayLay 59 = .ok (.iload_n 3, 1) := by decide +kernel
theorem dX8_mayLay_60 : decode cX8_mayLay 60 = .ok (.ifCond .le 7, 3) := by decide +kernel
theorem dX8_mayLay_63 : decode cX8_mayLay 63 = .ok (.aload_n 0, 1) := by decide +kernel
theorem dX8_mayLay_64 : decode cX8_mayLay 64 = .ok (.invokevirtual 190, 3) := by decide +kernel
theorem dX8_mayLay_67 : decode cX8_mayLay 67 = .ok (.iload_n 3, 1) := by decide +kernel
theorem dX8_mayLay_68 : decode cX8_mayLay 68 = .ok (.ireturn, 1) := by decide +kernel
theorem dX8_laid_0 : decode cX8_laid 0 = .ok (.aload_n 0, 1) := by decide +kernel
theorem dX8_laid_1 : decode cX8_laid 1 = .ok (.dup, 1) := by decide +kernel
theorem dX8_laid_2 : decode cX8_laid 2 = .ok (.getfield 180, 3) := by decide +kernel
theorem dX8_laid_5 : decode cX8_laid 5 = .ok (.lload_n 1, 1) := by decide +kernel
theorem dX8_laid_6 : decode cX8_laid 6 = .ok (.lor, 1) := by decide +kernel
theorem dX8_laid_7 : decode cX8_laid 7 = .ok (.putfield 180, 3) := by decide +kernel
theorem dX8_laid_10 : decode cX8_laid 10 = .ok (.aload_n 0, 1) := by decide +kernel
theorem dX8_laid_11 : decode cX8_laid 11 = .ok (.getfield 35, 3) := by decide +kernel
theorem dX8_laid_14 : decode cX8_laid 14 = .ok (.aload_n 0, 1) := by decide +kernel
theorem dX8_laid_15 : decode cX8_laid 15 = .ok (.getfield 165, 3) := by decide +kernel
theorem dX8_laid_18 : decode cX8_laid 18 = .ok (.dup2, 1) := by decide +kernel
theorem dX8_laid_19 : decode cX8_laid 19 = .ok (.laload, 1) := by decide +kernel
theorem dX8_laid_20 : decode cX8_laid 20 = .ok (.lload_n 1, 1) := by decide +kernel
theorem dX8_laid_21 : decode cX8_laid 21 = .ok (.ldc2_w 137, 3) := by decide +kernel
theorem dX8_laid_24 : decode cX8_laid 24 = .ok (.lxor, 1) := by decide +kernel
theorem dX8_laid_25 : decode cX8_laid 25 = .ok (.land, 1) := by decide +kernel
theorem dX8_laid_26 : decode cX8_laid 26 = .ok (.lastore, 1) := by decide +kernel
theorem dX8_laid_27 : decode cX8_laid 27 = .ok (.aload_n 0, 1) := by decide +kernel
theorem dX8_laid_28 : decode cX8_laid 28 = .ok (.getfield 38, 3) := by decide +kernel
theorem dX8_laid_31 : decode cX8_laid 31 = .ok (.aload_n 0, 1) := by decide +kernel
theorem dX8_laid_32 : decode cX8_laid 32 = .ok (.getfield 165, 3) := by decide +kernel
theorem dX8_laid_35 : decode cX8_laid 35 = .ok (.iconst 1, 1) := by decide +kernel
theorem dX8_laid_36 : decode cX8_laid 36 = .ok (.bastore, 1) := by decide +kernel
theorem dX8_laid_37 : decode cX8_laid 37 = .ok (.aload_n 0, 1) := by decide +kernel
theorem dX8_laid_38 : decode cX8_laid 38 = .ok (.dup, 1) := by decide +kernel
theorem dX8_laid_39 : decode cX8_laid 39 = .ok (.getfield 174, 3) := by decide +kernel
theorem dX8_laid_42 : decode cX8_laid 42 = .ok (.iconst 1, 1) := by decide +kernel
theorem dX8_laid_43 : decode cX8_laid 43 = .ok (.iadd, 1) := by decide +kernel
theorem dX8_laid_44 : decode cX8_laid 44 = .ok (.putfield 174, 3) := by decide +kernel
theorem dX8_laid_47 : decode cX8_laid 47 = .ok (.aload_n 0, 1) := by decide +kernel
theorem dX8_laid_48 : decode cX8_laid 48 = .ok (.getfield 35, 3) := by decide +kernel
theorem dX8_laid_51 : decode cX8_laid 51 = .ok (.aload_n 0, 1) := by decide +kernel
theorem dX8_laid_52 : decode cX8_laid 52 = .ok (.getfield 165, 3) := by decide +kernel
theorem dX8_laid_55 : decode cX8_laid 55 = .ok (.laload, 1) := by decide +kernel
theorem dX8_laid_56 : decode cX8_laid 56 = .ok (.lconst 0, 1) := by decide +kernel
theorem dX8_laid_57 : decode cX8_laid 57 = .ok (.lcmp, 1) := by decide +kernel
theorem dX8_laid_58 : decode cX8_laid 58 = .ok (.ifCond .eq 4, 3) := by decide +kernel
theorem dX8_laid_61 : decode cX8_laid 61 = .ok (.return_, 1) := by decide +kernel
theorem dX8_laid_62 : decode cX8_laid 62 = .ok (.aload_n 0, 1) := by decide +kernel
theorem dX8_laid_63 : decode cX8_laid 63 = .ok (.iconst 1, 1) := by decide +kernel
theorem dX8_laid_64 : decode cX8_laid 64 = .ok (.putfield 162, 3) := by decide +kernel
theorem dX8_laid_67 : decode cX8_laid 67 = .ok (.aload_n 0, 1) := by decide +kernel
theorem dX8_laid_68 : decode cX8_laid 68 = .ok (.aload_n 0, 1) := by decide +kernel
theorem dX8_laid_69 : decode cX8_laid 69 = .ok (.getfield 165, 3) := by decide +kernel
theorem dX8_laid_72 : decode cX8_laid 72 = .ok (.putfield 168, 3) := by decide +kernel
theorem dX8_laid_75 : decode cX8_laid 75 = .ok (.return_, 1) := by decide +kernel
set_option maxRecDepth 20000 in
theorem ggX8_lay_X8_isSet : GoodIn wsX8_lay wsX8_isSet := goodIn_r _ [11, 12] (by decide +kernel) (by decide +kernel)
set_option maxRecDepth 20000 in
theorem gX8_lay_X8_isSet : GoodIn wsX8_lay (va_wsS RX8 86 yX8_isSet wsX8_isSet) := goodIn_app (goodIn_of _ (by decide +kernel)) ggX8_lay_X8_isSet
set_option maxRecDepth 20000 in
theorem ggX8_lay_X8_none : GoodIn wsX8_lay wsX8_none := goodIn_r _ [16, 6, 82, 83, 84, 85, 86, 87, 88, 89, 90, 91, 92, 93, 94, 95, 96, 97, 98, 99, 100, 101, 102, 103, 104] (by decide +kernel) (by decide +kernel)
set_option maxRecDepth 20000 in
theorem gX8_lay_X8_none : GoodIn wsX8_lay (wsV RX8 90 RX8 yX8_none wsX8_none) := goodIn_app (goodIn_of _ (by decide +kernel)) ggX8_lay_X8_none
set_option maxRecDepth 20000 in
theorem ggX8_lay_X8_mayLay : GoodIn wsX8_lay wsX8_mayLay := goodIn_r _ [20, 21, 4, 22, 7, 23, 24, 25, 10, 26, 27, 28, 29, 30, 31, 32, 33, 34, 35, 36, 37, 38, 39, 40, 41, 42, 43, 44, 45, 46, 47, 48, 49, 50, 51, 52, 53, 54, 55, 56, 57, 58, 59, 60, 61, 62, 63, 64, 65, 66, 67, 68, 69, 70, 71, 72, 82, 83, 84, 85, 86, 87, 88, 89, 90, 91, 92, 93, 94, 95, 96, 97, 98, 99, 100, 101, 102, 103, 104] (by decide +kernel) (by decide +kernel)
set_option maxRecDepth 20000 in
theorem gX8_lay_X8_mayLay : GoodIn wsX8_lay (wsV RX8 193 RX8 yX8_mayLay wsX8_mayLay) := goodIn_app (goodIn_of _ (by decide +kernel)) ggX8_lay_X8_mayLay
set_option maxRecDepth 20000 in
theorem ggX8_lay_X8_laid : GoodIn wsX8_lay wsX8_laid := goodIn_r _ [76, 7, 3, 4, 5, 21, 77, 2, 78, 82, 83, 84, 85, 86, 87, 88, 89, 90, 91, 92, 93, 94, 95, 96, 97, 98, 99, 100, 101, 102, 103, 104] (by decide +kernel) (by decide +kernel)
set_option maxRecDepth 20000 in
theorem gX8_lay_X8_laid : GoodIn wsX8_lay (wsV RX8 196 RX8 yX8_laid wsX8_laid) := goodIn_app (goodIn_of _ (by decide +kernel)) ggX8_lay_X8_laid
set_option maxRecDepth 20000 in
theorem ggX8_lay_X8_many : GoodIn wsX8_lay wsX8_many := goodIn_r _ [81, 56, 57, 10, 58] (by decide +kernel) (by decide +kernel)
set_option maxRecDepth 20000 in
theorem gX8_lay_X8_many : GoodIn wsX8_lay (va_wsS RX8 184 yX8_many wsX8_many) := goodIn_app (goodIn_of _ (by decide +kernel)) ggX8_lay_X8_many
theorem dX8_lay_0 : decode cX8_lay 0 = .ok (.lload_n 1, 1) := by decide +kernel
theorem dX8_lay_1 : decode cX8_lay 1 = .ok (.invokestatic 86, 3) := by decide +kernel
theorem dX8_lay_4 : decode cX8_lay 4 = .ok (.ifCond .eq 9, 3) := by decide +kernel
theorem dX8_lay_7 : decode cX8_lay 7 = .ok (.lload_n 1, 1) := by decide +kernel
theorem dX8_lay_8 : decode cX8_lay 8 = .ok (.lconst 0, 1) := by decide +kernel
theorem dX8_lay_9 : decode cX8_lay 9 = .ok (.lcmp, 1) := by decide +kernel
theorem dX8_lay_10 : decode cX8_lay 10 = .ok (.ifCond .ne 9, 3) := by decide +kernel
theorem dX8_lay_13 : decode cX8_lay 13 = .ok (.aload_n 0, 1) := by decide +kernel
theorem dX8_lay_14 : decode cX8_lay 14 = .ok (.iconst 1, 1) := by decide +kernel
theorem dX8_lay_15 : decode cX8_lay 15 = .ok (.invokevirtual 90, 3) := by decide +kernel
theorem dX8_lay_18 : decode cX8_lay 18 = .ok (.ireturn, 1) := by decide +kernel
theorem dX8_lay_19 : decode cX8_lay 19 = .ok (.aload_n 0, 1) := by decide +kernel
theorem dX8_lay_20 : decode cX8_lay 20 = .ok (.getfield 158, 3) := by decide +kernel
theorem dX8_lay_23 : decode cX8_lay 23 = .ok (.ifCond .ne 9, 3) := by decide +kernel
theorem dX8_lay_26 : decode cX8_lay 26 = .ok (.aload_n 0, 1) := by decide +kernel
theorem dX8_lay_27 : decode cX8_lay 27 = .ok (.iconst 4, 1) := by decide +kernel
theorem dX8_lay_28 : decode cX8_lay 28 = .ok (.invokevirtual 90, 3) := by decide +kernel
theorem dX8_lay_31 : decode cX8_lay 31 = .ok (.ireturn, 1) := by decide +kernel
theorem dX8_lay_32 : decode cX8_lay 32 = .ok (.aload_n 0, 1) := by decide +kernel
theorem dX8_lay_33 : decode cX8_lay 33 = .ok (.getfield 162, 3) := by decide +kernel
theorem dX8_lay_36 : decode cX8_lay 36 = .ok (.ifCond .eq 9, 3) := by decide +kernel
theorem dX8_lay_39 : decode cX8_lay 39 = .ok (.aload_n 0, 1) := by decide +kernel
theorem dX8_lay_40 : decode cX8_lay 40 = .ok (.iconst 5, 1) := by decide +kernel
theorem dX8_lay_41 : decode cX8_lay 41 = .ok (.invokevirtual 90, 3) := by decide +kernel
theorem dX8_lay_44 : decode cX8_lay 44 = .ok (.ireturn, 1) := by decide +kernel
theorem dX8_lay_45 : decode cX8_lay 45 = .ok (.lload_n 1, 1) := by decide +kernel
theorem dX8_lay_46 : decode cX8_lay 46 = .ok (.aload_n 0, 1) := by decide +kernel
theorem dX8_lay_47 : decode cX8_lay 47 = .ok (.getfield 35, 3) := by decide +kernel
theorem dX8_lay_50 : decode cX8_lay 50 = .ok (.aload_n 0, 1) := by decide +kernel
theorem dX8_lay_51 : decode cX8_lay 51 = .ok (.getfield 165, 3) := by decide +kernel
theorem dX8_lay_54 : decode cX8_lay 54 = .ok (.laload, 1) := by decide +kernel
theorem dX8_lay_55 : decode cX8_lay 55 = .ok (.ldc2_w 137, 3) := by decide +kernel
theorem dX8_lay_58 : decode cX8_lay 58 = .ok (.lxor, 1) := by decide +kernel
theorem dX8_lay_59 : decode cX8_lay 59 = .ok (.land, 1) := by decide +kernel
theorem dX8_lay_60 : decode cX8_lay 60 = .ok (.lconst 0, 1) := by decide +kernel
theorem dX8_lay_61 : decode cX8_lay 61 = .ok (.lcmp, 1) := by decide +kernel
theorem dX8_lay_62 : decode cX8_lay 62 = .ok (.ifCond .eq 10, 3) := by decide +kernel
theorem dX8_lay_65 : decode cX8_lay 65 = .ok (.aload_n 0, 1) := by decide +kernel
theorem dX8_lay_66 : decode cX8_lay 66 = .ok (.bipush 6, 2) := by decide +kernel
theorem dX8_lay_68 : decode cX8_lay 68 = .ok (.invokevirtual 90, 3) := by decide +kernel
theorem dX8_lay_71 : decode cX8_lay 71 = .ok (.ireturn, 1) := by decide +kernel
theorem dX8_lay_72 : decode cX8_lay 72 = .ok (.aload_n 0, 1) := by decide +kernel
theorem dX8_lay_73 : decode cX8_lay 73 = .ok (.lload_n 1, 1) := by decide +kernel
theorem dX8_lay_74 : decode cX8_lay 74 = .ok (.invokevirtual 193, 3) := by decide +kernel
theorem dX8_lay_77 : decode cX8_lay 77 = .ok (.istore_n 3, 1) := by decide +kernel
theorem dX8_lay_78 : decode cX8_lay 78 = .ok (.iload_n 3, 1) := by decide +kernel
theorem dX8_lay_79 : decode cX8_lay 79 = .ok (.ifCond .le 9, 3) := by decide +kernel
theorem dX8_lay_82 : decode cX8_lay 82 = .ok (.aload_n 0, 1) := by decide +kernel
theorem dX8_lay_83 : decode cX8_lay 83 = .ok (.iload_n 3, 1) := by decide +kernel
theorem dX8_lay_84 : decode cX8_lay 84 = .ok (.invokevirtual 90, 3) := by decide +kernel
theorem dX8_lay_87 : decode cX8_lay 87 = .ok (.ireturn, 1) := by decide +kernel
theorem dX8_lay_88 : decode cX8_lay 88 = .ok (.aload_n 0, 1) := by decide +kernel
theorem dX8_lay_89 : decode cX8_lay 89 = .ok (.lload_n 1, 1) := by decide +kernel
theorem dX8_lay_90 : decode cX8_lay 90 = .ok (.invokevirtual 196, 3) := by decide +kernel
theorem dX8_lay_93 : decode cX8_lay 93 = .ok (.aload_n 0, 1) := by decide +kernel
theorem dX8_lay_94 : decode cX8_lay 94 = .ok (.iconst 0, 1) := by decide +kernel
theorem dX8_lay_95 : decode cX8_lay 95 = .ok (.putfield 50, 3) := by decide +kernel
theorem dX8_lay_98 : decode cX8_lay 98 = .ok (.aload_n 0, 1) := by decide +kernel
theorem dX8_lay_99 : decode cX8_lay 99 = .ok (.getfield 180, 3) := by decide +kernel
theorem dX8_lay_102 : decode cX8_lay 102 = .ok (.invokestatic 184, 3) := by decide +kernel
theorem dX8_lay_105 : decode cX8_lay 105 = .ok (.ireturn, 1) := by decide +kernel
theorem dX8_ends_0 : decode cX8_ends 0 = .ok (.bipush 54, 2) := by decide +kernel
theorem dX8_ends_2 : decode cX8_ends 2 = .ok (.istore_n 1, 1) := by decide +kernel
theorem dX8_ends_3 : decode cX8_ends 3 = .ok (.aload_n 0, 1) := by decide +kernel
theorem dX8_ends_4 : decode cX8_ends 4 = .ok (.getfield 174, 3) := by decide +kernel
theorem dX8_ends_7 : decode cX8_ends 7 = .ok (.ifCond .ne 47, 3) := by decide +kernel
theorem dX8_ends_10 : decode cX8_ends 10 = .ok (.aload_n 0, 1) := by decide +kernel
theorem dX8_ends_11 : decode cX8_ends 11 = .ok (.getfield 152, 3) := by decide +kernel
theorem dX8_ends_14 : decode cX8_ends 14 = .ok (.bipush 54, 2) := by decide +kernel
theorem dX8_ends_16 : decode cX8_ends 16 = .ok (.if_icmp .ge 38, 3) := by decide +kernel
theorem dX8_ends_19 : decode cX8_ends 19 = .ok (.aload_n 0, 1) := by decide +kernel
theorem dX8_ends_20 : decode cX8_ends 20 = .ok (.getfield 41, 3) := by decide +kernel
theorem dX8_ends_23 : decode cX8_ends 23 = .ok (.aload_n 0, 1) := by decide +kernel
theorem dX8_ends_24 : decode cX8_ends 24 = .ok (.getfield 152, 3) := by decide +kernel
theorem dX8_ends_27 : decode cX8_ends 27 = .ok (.iaload, 1) := by decide +kernel
theorem dX8_ends_28 : decode cX8_ends 28 = .ok (.istore_n 1, 1) := by decide +kernel
theorem dX8_ends_29 : decode cX8_ends 29 = .ok (.aload_n 0, 1) := by decide +kernel
theorem dX8_ends_30 : decode cX8_ends 30 = .ok (.dup, 1) := by decide +kernel
theorem dX8_ends_31 : decode cX8_ends 31 = .ok (.getfield 152, 3) := by decide +kernel
theorem dX8_ends_34 : decode cX8_ends 34 = .ok (.iconst 1, 1) := by decide +kernel
theorem dX8_ends_35 : decode cX8_ends 35 = .ok (.iadd, 1) := by decide +kernel
theorem dX8_ends_36 : decode cX8_ends 36 = .ok (.putfield 152, 3) := by decide +kernel
theorem dX8_ends_39 : decode cX8_ends 39 = .ok (.aload_n 0, 1) := by decide +kernel
theorem dX8_ends_40 : decode cX8_ends 40 = .ok (.getfield 35, 3) := by decide +kernel
theorem dX8_ends_43 : decode cX8_ends 43 = .ok (.aload_n 0, 1) := by decide +kernel
theorem dX8_ends_44 : decode cX8_ends 44 = .ok (.getfield 165, 3) := by decide +kernel
theorem dX8_ends_47 : decode cX8_ends 47 = .ok (.dup2, 1) := by decide +kernel
theorem dX8_ends_48 : decode cX8_ends 48 = .ok (.laload, 1) := by decide +kernel
theorem dX8_ends_49 : decode cX8_ends 49 = .ok (.lconst 1, 1) := by decide +kernel
theorem dX8_ends_50 : decode cX8_ends 50 = .ok (.iload_n 1, 1) := by decide +kernel
theorem dX8_ends_51 : decode cX8_ends 51 = .ok (.lshl, 1) := by decide +kernel
theorem dX8_ends_52 : decode cX8_ends 52 = .ok (.lor, 1) := by decide +kernel
theorem dX8_ends_53 : decode cX8_ends 53 = .ok (.lastore, 1) := by decide +kernel
theorem dX8_ends_54 : decode cX8_ends 54 = .ok (.aload_n 0, 1) := by decide +kernel
theorem dX8_ends_55 : decode cX8_ends 55 = .ok (.aload_n 0, 1) := by decide +kernel
theorem dX8_ends_56 : decode cX8_ends 56 = .ok (.getfield 174, 3) := by decide +kernel
theorem dX8_ends_59 : decode cX8_ends 59 = .ok (.ifCond .ne 18, 3) := by decide +kernel
theorem dX8_ends_62 : decode cX8_ends 62 = .ok (.iload_n 1, 1) := by decide +kernel
theorem dX8_ends_63 : decode cX8_ends 63 = .ok (.bipush 54, 2) := by decide +kernel
theorem dX8_ends_65 : decode cX8_ends 65 = .ok (.if_icmp .ne 12, 3) := by decide +kernel
theorem dX8_ends_68 : decode cX8_ends 68 = .ok (.aload_n 0, 1) := by decide +kernel
theorem dX8_ends_69 : decode cX8_ends 69 = .ok (.getfield 177, 3) := by decide +kernel
theorem dX8_ends_72 : decode cX8_ends 72 = .ok (.iconst 1, 1) := by decide +kernel
theorem dX8_ends_73 : decode cX8_ends 73 = .ok (.iadd, 1) := by decide +kernel
theorem dX8_ends_74 : decode cX8_ends 74 = .ok (.goto 4, 3) := by decide +kernel
theorem dX8_ends_77 : decode cX8_ends 77 = .ok (.iconst 0, 1) := by decide +kernel
theorem dX8_ends_78 : decode cX8_ends 78 = .ok (.putfield 177, 3) := by decide +kernel
theorem dX8_ends_81 : decode cX8_ends 81 = .ok (.aload_n 0, 1) := by decide +kernel
theorem dX8_ends_82 : decode cX8_ends 82 = .ok (.aload_n 0, 1) := by decide +kernel
theorem dX8_ends_83 : decode cX8_ends 83 = .ok (.getfield 177, 3) := by decide +kernel
theorem dX8_ends_86 : decode cX8_ends 86 = .ok (.aload_n 0, 1) := by decide +kernel
theorem dX8_ends_87 : decode cX8_ends 87 = .ok (.getfield 155, 3) := by decide +kernel
theorem dX8_ends_90 : decode cX8_ends 90 = .ok (.if_icmp .ne 7, 3) := by decide +kernel
theorem dX8_ends_93 : decode cX8_ends 93 = .ok (.iconst 1, 1) := by decide +kernel
theorem dX8_ends_94 : decode cX8_ends 94 = .ok (.goto 4, 3) := by decide +kernel
theorem dX8_ends_97 : decode cX8_ends 97 = .ok (.iconst 0, 1) := by decide +kernel
theorem dX8_ends_98 : decode cX8_ends 98 = .ok (.putfield 162, 3) := by decide +kernel
theorem dX8_ends_101 : decode cX8_ends 101 = .ok (.aload_n 0, 1) := by decide +kernel
theorem dX8_ends_102 : decode cX8_ends 102 = .ok (.iconst 0, 1) := by decide +kernel
theorem dX8_ends_103 : decode cX8_ends 103 = .ok (.putfield 174, 3) := by decide +kernel
theorem dX8_ends_106 : decode cX8_ends 106 = .ok (.aload_n 0, 1) := by decide +kernel
theorem dX8_ends_107 : decode cX8_ends 107 = .ok (.dup, 1) := by decide +kernel
theorem dX8_ends_108 : decode cX8_ends 108 = .ok (.getfield 171, 3) := by decide +kernel
theorem dX8_ends_111 : decode cX8_ends 111 = .ok (.iconst 1, 1) := by decide +kernel
theorem dX8_ends_112 : decode cX8_ends 112 = .ok (.iadd, 1) := by decide +kernel
theorem dX8_ends_113 : decode cX8_ends 113 = .ok (.putfield 171, 3) := by decide +kernel
theorem dX8_ends_116 : decode cX8_ends 116 = .ok (.aload_n 0, 1) := by decide +kernel
theorem dX8_ends_117 : decode cX8_ends 117 = .ok (.aload_n 0, 1) := by decide +kernel
theorem dX8_ends_118 : decode cX8_ends 118 = .ok (.getfield 165, 3) := by decide +kernel
theorem dX8_ends_121 : decode cX8_ends 121 = .ok (.iconst 1, 1) := by decide +kernel
theorem dX8_ends_122 : decode cX8_ends 122 = .ok (.iadd, 1) := by decide +kernel
theorem dX8_ends_123 : decode cX8_ends 123 = .ok (.aload_n 0, 1) := by decide +kernel
theorem dX8_ends_124 : decode cX8_ends 124 = .ok (.getfield 155, 3) := by decide +kernel
theorem dX8_ends_127 : decode cX8_ends 127 = .ok (.irem, 1) := by decide +kernel
theorem dX8_ends_128 : decode cX8_ends 128 = .ok (.putfield 165, 3) := by decide +kernel
theorem dX8_ends_131 : decode cX8_ends 131 = .ok (.iload_n 1, 1) := by decide +kernel
theorem dX8_ends_132 : decode cX8_ends 132 = .ok (.ireturn, 1) := by decide +kernel
set_option maxRecDepth 20000 in
theorem ggX8_end_X8_none : GoodIn wsX8_end wsX8_none := goodIn_r _ [8, 3, 21, 22, 23, 24, 25, 26, 27, 28, 29, 30, 31, 32, 33, 34, 35, 36, 37, 38, 39, 40, 41, 42, 43] (by decide +kernel) (by decide +kernel)
set_option maxRecDepth 20000 in
theorem gX8_end_X8_none : GoodIn wsX8_end (wsV RX8 90 RX8 yX8_none wsX8_none) := goodIn_app (goodIn_of _ (by decide +kernel)) ggX8_end_X8_none
set_option maxRecDepth 20000 in
theorem ggX8_end_X8_ends : GoodIn wsX8_end wsX8_ends := goodIn_r _ [12, 13, 14, 15, 16, 17, 18, 19, 2, 20, 21, 22, 23, 24, 25, 26, 27, 28, 29, 30, 31, 32, 33, 34, 35, 36, 37, 38, 39, 40, 41, 42, 43] (by decide +kernel) (by decide +kernel)
set_option maxRecDepth 20000 in
theorem gX8_end_X8_ends : GoodIn wsX8_end (wsV RX8 199 RX8 yX8_ends wsX8_ends) := goodIn_app (goodIn_of _ (by decide +kernel)) ggX8_end_X8_ends
theorem dX8_end_0 : decode cX8_end 0 = .ok (.aload_n 0, 1) := by decide +kernel
theorem dX8_end_1 : decode cX8_end 1 = .ok (.getfield 158, 3) := by decide +kernel
theorem dX8_end_4 : decode cX8_end 4 = .ok (.ifCond .ne 9, 3) := by decide +kernel
theorem dX8_end_7 : decode cX8_end 7 = .ok (.aload_n 0, 1) := by decide +kernel
theorem dX8_end_8 : decode cX8_end 8 = .ok (.iconst 4, 1) := by decide +kernel
theorem dX8_end_9 : decode cX8_end 9 = .ok (.invokevirtual 90, 3) := by decide +kernel
theorem dX8_end_12 : decode cX8_end 12 = .ok (.ireturn, 1) := by decide +kernel
theorem dX8_end_13 : decode cX8_end 13 = .ok (.aload_n 0, 1) := by decide +kernel
theorem dX8_end_14 : decode cX8_end 14 = .ok (.getfield 162, 3) := by decide +kernel
theorem dX8_end_17 : decode cX8_end 17 = .ok (.ifCond .eq 9, 3) := by decide +kernel
theorem dX8_end_20 : decode cX8_end 20 = .ok (.aload_n 0, 1) := by decide +kernel
theorem dX8_end_21 : decode cX8_end 21 = .ok (.iconst 5, 1) := by decide +kernel
theorem dX8_end_22 : decode cX8_end 22 = .ok (.invokevirtual 90, 3) := by decide +kernel
theorem dX8_end_25 : decode cX8_end 25 = .ok (.ireturn, 1) := by decide +kernel
theorem dX8_end_26 : decode cX8_end 26 = .ok (.aload_n 0, 1) := by decide +kernel
theorem dX8_end_27 : decode cX8_end 27 = .ok (.iconst 0, 1) := by decide +kernel
theorem dX8_end_28 : decode cX8_end 28 = .ok (.putfield 50, 3) := by decide +kernel
theorem dX8_end_31 : decode cX8_end 31 = .ok (.aload_n 0, 1) := by decide +kernel
theorem dX8_end_32 : decode cX8_end 32 = .ok (.invokevirtual 199, 3) := by decide +kernel
theorem dX8_end_35 : decode cX8_end 35 = .ok (.ireturn, 1) := by decide +kernel
set_option maxRecDepth 20000 in
theorem ggX8_robot_X8_none : GoodIn wsX8_robot wsX8_none := goodIn_r _ [12, 3, 113, 114, 115, 116, 117, 118, 119, 120, 121, 122, 123, 124, 125, 126, 127, 128, 129, 130, 131, 132, 133, 134, 135] (by decide +kernel) (by decide +kernel)
set_option maxRecDepth 20000 in
theorem gX8_robot_X8_none : GoodIn wsX8_robot (wsV RX8 90 RX8 yX8_none wsX8_none) := goodIn_app (goodIn_of _ (by decide +kernel)) ggX8_robot_X8_none
set_option maxRecDepth 20000 in
theorem ggX8_robot_X8_bestOf : GoodIn wsX8_robot wsX8_bestOf := goodIn_r _ [16, 17, 18, 19, 20, 21, 22, 23, 11, 24, 25, 26, 27, 28, 29, 30, 31, 32, 33, 34, 35, 36, 37, 38, 39, 40, 41, 42, 43, 44, 45, 46, 47, 48, 49, 50, 51, 52, 53, 54, 55, 56, 57, 58, 59, 60, 61, 62, 63, 64, 113, 114, 115, 116, 117, 118, 119, 120, 121, 122, 123, 124, 125, 126, 127, 128, 129, 130, 131, 132, 133, 134, 135] (by decide +kernel) (by decide +kernel)
set_option maxRecDepth 20000 in
theorem gX8_robot_X8_bestOf : GoodIn wsX8_robot (wsV RX8 143 RX8 yX8_bestOf wsX8_bestOf) := goodIn_app (goodIn_of _ (by decide +kernel)) ggX8_robot_X8_bestOf
set_option maxRecDepth 20000 in
theorem ggX8_robot_X8_mayLay : GoodIn wsX8_robot wsX8_mayLay := goodIn_r _ [68, 4, 5, 69, 6, 70, 71, 72, 11, 73, 74, 75, 76, 77, 78, 79, 80, 81, 82, 83, 84, 85, 86, 25, 36, 37, 38, 39, 40, 41, 42, 43, 44, 30, 31, 32, 33, 34, 35, 51, 52, 53, 54, 55, 56, 87, 88, 89, 90, 48, 49, 50, 91, 92, 93, 94, 113, 114, 115, 116, 117, 118, 119, 120, 121, 122, 123, 124, 125, 126, 127, 128, 129, 130, 131, 132, 133, 134, 135] (by decide +kernel) (by decide +kernel)
set_option maxRecDepth 20000 in
theorem gX8_robot_X8_mayLay : GoodIn wsX8_robot (wsV RX8 193 RX8 yX8_mayLay wsX8_mayLay) := goodIn_app (goodIn_of _ (by decide +kernel)) ggX8_robot_X8_mayLay
set_option maxRecDepth 20000 in
theorem ggX8_robot_X8_many : GoodIn wsX8_robot wsX8_many := goodIn_r _ [97, 51, 52, 11, 53] (by decide +kernel) (by decide +kernel)
set_option maxRecDepth 20000 in
theorem gX8_robot_X8_many : GoodIn wsX8_robot (va_wsS RX8 184 yX8_many wsX8_many) := goodIn_app (goodIn_of _ (by decide +kernel)) ggX8_robot_X8_many
set_option maxRecDepth 20000 in
theorem ggX8_robot_X8_laid : GoodIn wsX8_robot wsX8_laid := goodIn_r _ [101, 6, 7, 5, 18, 4, 102, 2, 103, 113, 114, 115, 116, 117, 118, 119, 120, 121, 122, 123, 124, 125, 126, 127, 128, 129, 130, 131, 132, 133, 134, 135] (by decide +kernel) (by decide +kernel)
set_option maxRecDepth 20000 in
theorem gX8_robot_X8_laid : GoodIn wsX8_robot (wsV RX8 196 RX8 yX8_laid wsX8_laid) := goodIn_app (goodIn_of _ (by decide +kernel)) ggX8_robot_X8_laid
set_option maxRecDepth 20000 in
theorem ggX8_robot_X8_ends : GoodIn wsX8_robot wsX8_ends := goodIn_r _ [107, 102, 108, 109, 7, 5, 110, 111, 2, 112, 113, 114, 115, 116, 117, 118, 119, 120, 121, 122, 123, 124, 125, 126, 127, 128, 129, 130, 131, 132, 133, 134, 135] (by decide +kernel) (by decide +kernel)
set_option maxRecDepth 20000 in
theorem gX8_robot_X8_ends : GoodIn wsX8_robot (wsV RX8 199 RX8 yX8_ends wsX8_ends) := goodIn_app (goodIn_of _ (by decide +kernel)) ggX8_robot_X8_ends
