theorem dX8_melds_0 : decode cX8_melds 0 = .ok (.iconst 0, 1) := by decide +kernel
theorem dX8_melds_1 : decode cX8_melds 1 = .ok (.istore_n 1, 1) := by decide +kernel
theorem dX8_melds_2 : decode cX8_melds 2 = .ok (.iconst 0, 1) := by decide +kernel
theorem dX8_melds_3 : decode cX8_melds 3 = .ok (.istore_n 2, 1) := by decide +kernel
theorem dX8_melds_4 : decode cX8_melds 4 = .ok (.iconst 0, 1) := by decide +kernel
theorem dX8_melds_5 : decode cX8_melds 5 = .ok (.istore_n 3, 1) := by decide +kernel
theorem dX8_melds_6 : decode cX8_melds 6 = .ok (.iload_n 3, 1) := by decide +kernel
theorem dX8_melds_7 : decode cX8_melds 7 = .ok (.bipush 52, 2) := by decide +kernel
theorem dX8_melds_9 : decode cX8_melds 9 = .ok (.if_icmp .ge 69, 3) := by decide +kernel
theorem dX8_melds_12 : decode cX8_melds 12 = .ok (.iload_n 1, 1) := by decide +kernel
theorem dX8_melds_13 : decode cX8_melds 13 = .ok (.aload_n 0, 1) := by decide +kernel
theorem dX8_melds_14 : decode cX8_melds 14 = .ok (.getfield 14, 3) := by decide +kernel
theorem dX8_melds_17 : decode cX8_melds 17 = .ok (.iload_n 3, 1) := by decide +kernel
theorem dX8_melds_18 : decode cX8_melds 18 = .ok (.iaload, 1) := by decide +kernel
theorem dX8_melds_19 : decode cX8_melds 19 = .ok (.iconst 2, 1) := by decide +kernel
theorem dX8_melds_20 : decode cX8_melds 20 = .ok (.if_icmp .ne 7, 3) := by decide +kernel
theorem dX8_melds_23 : decode cX8_melds 23 = .ok (.iconst 1, 1) := by decide +kernel
theorem dX8_melds_24 : decode cX8_melds 24 = .ok (.goto 4, 3) := by decide +kernel
theorem dX8_melds_27 : decode cX8_melds 27 = .ok (.iconst 0, 1) := by decide +kernel
theorem dX8_melds_28 : decode cX8_melds 28 = .ok (.iadd, 1) := by decide +kernel
theorem dX8_melds_29 : decode cX8_melds 29 = .ok (.istore_n 1, 1) := by decide +kernel
theorem dX8_melds_30 : decode cX8_melds 30 = .ok (.iload_n 2, 1) := by decide +kernel
theorem dX8_melds_31 : decode cX8_melds 31 = .ok (.aload_n 0, 1) := by decide +kernel
theorem dX8_melds_32 : decode cX8_melds 32 = .ok (.getfield 14, 3) := by decide +kernel
theorem dX8_melds_35 : decode cX8_melds 35 = .ok (.iload_n 3, 1) := by decide +kernel
theorem dX8_melds_36 : decode cX8_melds 36 = .ok (.iaload, 1) := by decide +kernel
theorem dX8_melds_37 : decode cX8_melds 37 = .ok (.iconst 1, 1) := by decide +kernel
theorem dX8_melds_38 : decode cX8_melds 38 = .ok (.if_icmp .ne 7, 3) := by decide +kernel
theorem dX8_melds_41 : decode cX8_melds 41 = .ok (.iconst 1, 1) := by decide +kernel
theorem dX8_melds_42 : decode cX8_melds 42 = .ok (.goto 4, 3) := by decide +kernel
theorem dX8_melds_45 : decode cX8_melds 45 = .ok (.iconst 0, 1) := by decide +kernel
theorem dX8_melds_46 : decode cX8_melds 46 = .ok (.iadd, 1) := by decide +kernel
theorem dX8_melds_47 : decode cX8_melds 47 = .ok (.istore_n 2, 1) := by decide +kernel
theorem dX8_melds_48 : decode cX8_melds 48 = .ok (.iload_n 3, 1) := by decide +kernel
theorem dX8_melds_49 : decode cX8_melds 49 = .ok (.iconst 4, 1) := by decide +kernel
theorem dX8_melds_50 : decode cX8_melds 50 = .ok (.irem, 1) := by decide +kernel
theorem dX8_melds_51 : decode cX8_melds 51 = .ok (.iconst 3, 1) := by decide +kernel
theorem dX8_melds_52 : decode cX8_melds 52 = .ok (.if_icmp .ge 6, 3) := by decide +kernel
theorem dX8_melds_55 : decode cX8_melds 55 = .ok (.goto 17, 3) := by decide +kernel
theorem dX8_melds_58 : decode cX8_melds 58 = .ok (.iload_n 1, 1) := by decide +kernel
theorem dX8_melds_59 : decode cX8_melds 59 = .ok (.iload_n 2, 1) := by decide +kernel
theorem dX8_melds_60 : decode cX8_melds 60 = .ok (.ifCond .le 7, 3) := by decide +kernel
theorem dX8_melds_63 : decode cX8_melds 63 = .ok (.iconst 1, 1) := by decide +kernel
theorem dX8_melds_64 : decode cX8_melds 64 = .ok (.goto 4, 3) := by decide +kernel
theorem dX8_melds_67 : decode cX8_melds 67 = .ok (.iconst 0, 1) := by decide +kernel
theorem dX8_melds_68 : decode cX8_melds 68 = .ok (.iadd, 1) := by decide +kernel
theorem dX8_melds_69 : decode cX8_melds 69 = .ok (.istore_n 1, 1) := by decide +kernel
theorem dX8_melds_70 : decode cX8_melds 70 = .ok (.iconst 0, 1) := by decide +kernel
theorem dX8_melds_71 : decode cX8_melds 71 = .ok (.istore_n 2, 1) := by decide +kernel
theorem dX8_melds_72 : decode cX8_melds 72 = .ok (.iinc 3 1, 3) := by decide +kernel
theorem dX8_melds_75 : decode cX8_melds 75 = .ok (.goto (-69), 3) := by decide +kernel
theorem dX8_melds_78 : decode cX8_melds 78 = .ok (.iload_n 1, 1) := by decide +kernel
theorem dX8_melds_79 : decode cX8_melds 79 = .ok (.ireturn, 1) := by decide +kernel
set_option maxRecDepth 20000 in
theorem ggX8_layout_X8_isSet : GoodIn wsX8_layout wsX8_isSet := goodIn_r _ [5, 6] (by decide +kernel) (by decide +kernel)
set_option maxRecDepth 20000 in
theorem gX8_layout_X8_isSet : GoodIn wsX8_layout (va_wsS RX8 86 yX8_isSet wsX8_isSet) := goodIn_app (goodIn_of _ (by decide +kernel)) ggX8_layout_X8_isSet
set_option maxRecDepth 20000 in
theorem ggX8_layout_X8_none : GoodIn wsX8_layout wsX8_none := goodIn_r _ [10, 1, 48, 49, 50, 51, 52, 53, 54, 55, 56, 57, 58, 59, 60, 61, 62, 63, 64, 65, 66, 67, 68, 69, 70] (by decide +kernel) (by decide +kernel)
set_option maxRecDepth 20000 in
theorem gX8_layout_X8_none : GoodIn wsX8_layout (wsV RX8 90 RX8 yX8_none wsX8_none) := goodIn_app (goodIn_of _ (by decide +kernel)) ggX8_layout_X8_none
set_option maxRecDepth 20000 in
theorem ggX8_layout_X8_keeps : GoodIn wsX8_layout wsX8_keeps := goodIn_r _ [14, 15, 16, 17, 18, 19, 20, 4, 21, 22, 23, 24, 25, 26, 27, 28, 29, 30, 31, 32, 33, 34, 35, 36, 37, 38, 39, 40, 41, 42, 43, 48, 49, 50, 51, 52, 53, 54, 55, 56, 57, 58, 59, 60, 61, 62, 63, 64, 65, 66, 67, 68, 69, 70] (by decide +kernel) (by decide +kernel)
set_option maxRecDepth 20000 in
theorem gX8_layout_X8_keeps : GoodIn wsX8_layout (wsV RX8 97 RX8 yX8_keeps wsX8_keeps) := goodIn_app (goodIn_of _ (by decide +kernel)) ggX8_layout_X8_keeps
set_option maxRecDepth 20000 in
theorem ggX8_layout_X8_melds : GoodIn wsX8_layout wsX8_melds := goodIn_r _ [47, 16, 48, 49, 50, 51, 52, 53, 54, 55, 56, 57, 58, 59, 60, 61, 62, 63, 64, 65, 66, 67, 68, 69, 70] (by decide +kernel) (by decide +kernel)
set_option maxRecDepth 20000 in
theorem gX8_layout_X8_melds : GoodIn wsX8_layout (wsV RX8 100 RX8 yX8_melds wsX8_melds) := goodIn_app (goodIn_of _ (by decide +kernel)) ggX8_layout_X8_melds
theorem dX8_layout_0 : decode cX8_layout 0 = .ok (.lload_n 1, 1) := by decide +kernel
theorem dX8_layout_1 : decode cX8_layout 1 = .ok (.invokestatic 86, 3) := by decide +kernel
theorem dX8_layout_4 : decode cX8_layout 4 = .ok (.ifCond .ne 9, 3) := by decide +kernel
theorem dX8_layout_7 : decode cX8_layout 7 = .ok (.aload_n 0, 1) := by decide +kernel
theorem dX8_layout_8 : decode cX8_layout 8 = .ok (.iconst 1, 1) := by decide +kernel
theorem dX8_layout_9 : decode cX8_layout 9 = .ok (.invokevirtual 90, 3) := by decide +kernel
theorem dX8_layout_12 : decode cX8_layout 12 = .ok (.ireturn, 1) := by decide +kernel
theorem dX8_layout_13 : decode cX8_layout 13 = .ok (.aload_n 0, 1) := by decide +kernel
theorem dX8_layout_14 : decode cX8_layout 14 = .ok (.lload_n 1, 1) := by decide +kernel
theorem dX8_layout_15 : decode cX8_layout 15 = .ok (.invokevirtual 97, 3) := by decide +kernel
theorem dX8_layout_18 : decode cX8_layout 18 = .ok (.ifCond .ne 9, 3) := by decide +kernel
theorem dX8_layout_21 : decode cX8_layout 21 = .ok (.aload_n 0, 1) := by decide +kernel
theorem dX8_layout_22 : decode cX8_layout 22 = .ok (.iconst 3, 1) := by decide +kernel
theorem dX8_layout_23 : decode cX8_layout 23 = .ok (.invokevirtual 90, 3) := by decide +kernel
theorem dX8_layout_26 : decode cX8_layout 26 = .ok (.ireturn, 1) := by decide +kernel
theorem dX8_layout_27 : decode cX8_layout 27 = .ok (.aload_n 0, 1) := by decide +kernel
theorem dX8_layout_28 : decode cX8_layout 28 = .ok (.iconst 0, 1) := by decide +kernel
theorem dX8_layout_29 : decode cX8_layout 29 = .ok (.putfield 50, 3) := by decide +kernel
theorem dX8_layout_32 : decode cX8_layout 32 = .ok (.aload_n 0, 1) := by decide +kernel
theorem dX8_layout_33 : decode cX8_layout 33 = .ok (.invokevirtual 100, 3) := by decide +kernel
theorem dX8_layout_36 : decode cX8_layout 36 = .ok (.ireturn, 1) := by decide +kernel
theorem dX8_place_0 : decode cX8_place 0 = .ok (.iload_n 1, 1) := by decide +kernel
theorem dX8_place_1 : decode cX8_place 1 = .ok (.ifCond .lt 18, 3) := by decide +kernel
theorem dX8_place_4 : decode cX8_place 4 = .ok (.iload_n 1, 1) := by decide +kernel
theorem dX8_place_5 : decode cX8_place 5 = .ok (.bipush 52, 2) := by decide +kernel
theorem dX8_place_7 : decode cX8_place 7 = .ok (.if_icmp .ge 12, 3) := by decide +kernel
theorem dX8_place_10 : decode cX8_place 10 = .ok (.aload_n 0, 1) := by decide +kernel
theorem dX8_place_11 : decode cX8_place 11 = .ok (.getfield 14, 3) := by decide +kernel
theorem dX8_place_14 : decode cX8_place 14 = .ok (.iload_n 1, 1) := by decide +kernel
theorem dX8_place_15 : decode cX8_place 15 = .ok (.iaload, 1) := by decide +kernel
theorem dX8_place_16 : decode cX8_place 16 = .ok (.goto 4, 3) := by decide +kernel
theorem dX8_place_19 : decode cX8_place 19 = .ok (.iconst (-1), 1) := by decide +kernel
theorem dX8_place_20 : decode cX8_place 20 = .ok (.ireturn, 1) := by decide +kernel
theorem dX8_stands_0 : decode cX8_stands 0 = .ok (.iload_n 1, 1) := by decide +kernel
theorem dX8_stands_1 : decode cX8_stands 1 = .ok (.ifCond .lt 26, 3) := by decide +kernel
theorem dX8_stands_4 : decode cX8_stands 4 = .ok (.iload_n 1, 1) := by decide +kernel
theorem dX8_stands_5 : decode cX8_stands 5 = .ok (.bipush 52, 2) := by decide +kernel
theorem dX8_stands_7 : decode cX8_stands 7 = .ok (.if_icmp .ge 20, 3) := by decide +kernel
theorem dX8_stands_10 : decode cX8_stands 10 = .ok (.aload_n 0, 1) := by decide +kernel
theorem dX8_stands_11 : decode cX8_stands 11 = .ok (.getfield 18, 3) := by decide +kernel
theorem dX8_stands_14 : decode cX8_stands 14 = .ok (.iload_n 1, 1) := by decide +kernel
theorem dX8_stands_15 : decode cX8_stands 15 = .ok (.baload, 1) := by decide +kernel
theorem dX8_stands_16 : decode cX8_stands 16 = .ok (.ifCond .eq 7, 3) := by decide +kernel
theorem dX8_stands_19 : decode cX8_stands 19 = .ok (.iconst 1, 1) := by decide +kernel
theorem dX8_stands_20 : decode cX8_stands 20 = .ok (.goto 8, 3) := by decide +kernel
theorem dX8_stands_23 : decode cX8_stands 23 = .ok (.iconst 0, 1) := by decide +kernel
theorem dX8_stands_24 : decode cX8_stands 24 = .ok (.goto 4, 3) := by decide +kernel
theorem dX8_stands_27 : decode cX8_stands 27 = .ok (.iconst (-1), 1) := by decide +kernel
theorem dX8_stands_28 : decode cX8_stands 28 = .ok (.ireturn, 1) := by decide +kernel
theorem dX8_runs_0 : decode cX8_runs 0 = .ok (.iconst 0, 1) := by decide +kernel
theorem dX8_runs_1 : decode cX8_runs 1 = .ok (.istore_n 1, 1) := by decide +kernel
theorem dX8_runs_2 : decode cX8_runs 2 = .ok (.iconst 0, 1) := by decide +kernel
theorem dX8_runs_3 : decode cX8_runs 3 = .ok (.istore_n 2, 1) := by decide +kernel
theorem dX8_runs_4 : decode cX8_runs 4 = .ok (.iload_n 2, 1) := by decide +kernel
theorem dX8_runs_5 : decode cX8_runs 5 = .ok (.bipush 52, 2) := by decide +kernel
theorem dX8_runs_7 : decode cX8_runs 7 = .ok (.if_icmp .ge 27, 3) := by decide +kernel
theorem dX8_runs_10 : decode cX8_runs 10 = .ok (.iload_n 1, 1) := by decide +kernel
theorem dX8_runs_11 : decode cX8_runs 11 = .ok (.aload_n 0, 1) := by decide +kernel
theorem dX8_runs_12 : decode cX8_runs 12 = .ok (.getfield 14, 3) := by decide +kernel
theorem dX8_runs_15 : decode cX8_runs 15 = .ok (.iload_n 2, 1) := by decide +kernel
theorem dX8_runs_16 : decode cX8_runs 16 = .ok (.iaload, 1) := by decide +kernel
theorem dX8_runs_17 : decode cX8_runs 17 = .ok (.iconst 2, 1) := by decide +kernel
theorem dX8_runs_18 : decode cX8_runs 18 = .ok (.if_icmp .ne 7, 3) := by decide +kernel
theorem dX8_runs_21 : decode cX8_runs 21 = .ok (.iconst 1, 1) := by decide +kernel
theorem dX8_runs_22 : decode cX8_runs 22 = .ok (.goto 4, 3) := by decide +kernel
theorem dX8_runs_25 : decode cX8_runs 25 = .ok (.iconst 0, 1) := by decide +kernel
theorem dX8_runs_26 : decode cX8_runs 26 = .ok (.iadd, 1) := by decide +kernel
theorem dX8_runs_27 : decode cX8_runs 27 = .ok (.istore_n 1, 1) := by decide +kernel
theorem dX8_runs_28 : decode cX8_runs 28 = .ok (.iinc 2 1, 3) := by decide +kernel
theorem dX8_runs_31 : decode cX8_runs 31 = .ok (.goto (-27), 3) := by decide +kernel
theorem dX8_runs_34 : decode cX8_runs 34 = .ok (.iload_n 1, 1) := by decide +kernel
theorem dX8_runs_35 : decode cX8_runs 35 = .ok (.ireturn, 1) := by decide +kernel
theorem dX8_shown_0 : decode cX8_shown 0 = .ok (.iconst 0, 1) := by decide +kernel
theorem dX8_shown_1 : decode cX8_shown 1 = .ok (.istore_n 1, 1) := by decide +kernel
theorem dX8_shown_2 : decode cX8_shown 2 = .ok (.iconst 0, 1) := by decide +kernel
theorem dX8_shown_3 : decode cX8_shown 3 = .ok (.istore_n 2, 1) := by decide +kernel
theorem dX8_shown_4 : decode cX8_shown 4 = .ok (.iload_n 2, 1) := by decide +kernel
theorem dX8_shown_5 : decode cX8_shown 5 = .ok (.bipush 52, 2) := by decide +kernel
theorem dX8_shown_7 : decode cX8_shown 7 = .ok (.if_icmp .ge 26, 3) := by decide +kernel
theorem dX8_shown_10 : decode cX8_shown 10 = .ok (.iload_n 1, 1) := by decide +kernel
theorem dX8_shown_11 : decode cX8_shown 11 = .ok (.aload_n 0, 1) := by decide +kernel
theorem dX8_shown_12 : decode cX8_shown 12 = .ok (.getfield 14, 3) := by decide +kernel
theorem dX8_shown_15 : decode cX8_shown 15 = .ok (.iload_n 2, 1) := by decide +kernel
theorem dX8_shown_16 : decode cX8_shown 16 = .ok (.iaload, 1) := by decide +kernel
theorem dX8_shown_17 : decode cX8_shown 17 = .ok (.ifCond .le 7, 3) := by decide +kernel
theorem dX8_shown_20 : decode cX8_shown 20 = .ok (.iconst 1, 1) := by decide +kernel
theorem dX8_shown_21 : decode cX8_shown 21 = .ok (.goto 4, 3) := by decide +kernel
theorem dX8_shown_24 : decode cX8_shown 24 = .ok (.iconst 0, 1) := by decide +kernel
theorem dX8_shown_25 : decode cX8_shown 25 = .ok (.iadd, 1) := by decide +kernel
theorem dX8_shown_26 : decode cX8_shown 26 = .ok (.istore_n 1, 1) := by decide +kernel
theorem dX8_shown_27 : decode cX8_shown 27 = .ok (.iinc 2 1, 3) := by decide +kernel
theorem dX8_shown_30 : decode cX8_shown 30 = .ok (.goto (-26), 3) := by decide +kernel
theorem dX8_shown_33 : decode cX8_shown 33 = .ok (.iload_n 1, 1) := by decide +kernel
theorem dX8_shown_34 : decode cX8_shown 34 = .ok (.ireturn, 1) := by decide +kernel
theorem dX8_stood_0 : decode cX8_stood 0 = .ok (.iconst 0, 1) := by decide +kernel
theorem dX8_stood_1 : decode cX8_stood 1 = .ok (.istore_n 1, 1) := by decide +kernel
theorem dX8_stood_2 : decode cX8_stood 2 = .ok (.iconst 0, 1) := by decide +kernel
theorem dX8_stood_3 : decode cX8_stood 3 = .ok (.istore_n 2, 1) := by decide +kernel
theorem dX8_stood_4 : decode cX8_stood 4 = .ok (.iload_n 2, 1) := by decide +kernel
theorem dX8_stood_5 : decode cX8_stood 5 = .ok (.bipush 52, 2) := by decide +kernel
theorem dX8_stood_7 : decode cX8_stood 7 = .ok (.if_icmp .ge 26, 3) := by decide +kernel
theorem dX8_stood_10 : decode cX8_stood 10 = .ok (.iload_n 1, 1) := by decide +kernel
theorem dX8_stood_11 : decode cX8_stood 11 = .ok (.aload_n 0, 1) := by decide +kernel
theorem dX8_stood_12 : decode cX8_stood 12 = .ok (.getfield 18, 3) := by decide +kernel
theorem dX8_stood_15 : decode cX8_stood 15 = .ok (.iload_n 2, 1) := by decide +kernel
theorem dX8_stood_16 : decode cX8_stood 16 = .ok (.baload, 1) := by decide +kernel
theorem dX8_stood_17 : decode cX8_stood 17 = .ok (.ifCond .eq 7, 3) := by decide +kernel
theorem dX8_stood_20 : decode cX8_stood 20 = .ok (.iconst 1, 1) := by decide +kernel
theorem dX8_stood_21 : decode cX8_stood 21 = .ok (.goto 4, 3) := by decide +kernel
theorem dX8_stood_24 : decode cX8_stood 24 = .ok (.iconst 0, 1) := by decide +kernel
theorem dX8_stood_25 : decode cX8_stood 25 = .ok (.iadd, 1) := by decide +kernel
theorem dX8_stood_26 : decode cX8_stood 26 = .ok (.istore_n 1, 1) := by decide +kernel
theorem dX8_stood_27 : decode cX8_stood 27 = .ok (.iinc 2 1, 3) := by decide +kernel
theorem dX8_stood_30 : decode cX8_stood 30 = .ok (.goto (-26), 3) := by decide +kernel
theorem dX8_stood_33 : decode cX8_stood 33 = .ok (.iload_n 1, 1) := by decide +kernel
theorem dX8_stood_34 : decode cX8_stood 34 = .ok (.ireturn, 1) := by decide +kernel
set_option maxRecDepth 20000 in
theorem ggX8_worthShown_X8_worthOf : GoodIn wsX8_worthShown wsX8_worthOf := goodIn_r _ [5] (by decide +kernel) (by decide +kernel)
set_option maxRecDepth 20000 in
theorem gX8_worthShown_X8_worthOf : GoodIn wsX8_worthShown (va_wsS RX8 59 yX8_worthOf wsX8_worthOf) := goodIn_app (goodIn_of _ (by decide +kernel)) ggX8_worthShown_X8_worthOf
theorem dX8_worthShown_0 : decode cX8_worthShown 0 = .ok (.iconst 0, 1) := by decide +kernel
theorem dX8_worthShown_1 : decode cX8_worthShown 1 = .ok (.istore_n 1, 1) := by decide +kernel
theorem dX8_worthShown_2 : decode cX8_worthShown 2 = .ok (.iconst 0, 1) := by decide +kernel
theorem dX8_worthShown_3 : decode cX8_worthShown 3 = .ok (.istore_n 2, 1) := by decide +kernel
theorem dX8_worthShown_4 : decode cX8_worthShown 4 = .ok (.iload_n 2, 1) := by decide +kernel
theorem dX8_worthShown_5 : decode cX8_worthShown 5 = .ok (.bipush 52, 2) := by decide +kernel
theorem dX8_worthShown_7 : decode cX8_worthShown 7 = .ok (.if_icmp .ge 29, 3) := by decide +kernel
theorem dX8_worthShown_10 : decode cX8_worthShown 10 = .ok (.iload_n 1, 1) := by decide +kernel
theorem dX8_worthShown_11 : decode cX8_worthShown 11 = .ok (.aload_n 0, 1) := by decide +kernel
theorem dX8_worthShown_12 : decode cX8_worthShown 12 = .ok (.getfield 14, 3) := by decide +kernel
theorem dX8_worthShown_15 : decode cX8_worthShown 15 = .ok (.iload_n 2, 1) := by decide +kernel
theorem dX8_worthShown_16 : decode cX8_worthShown 16 = .ok (.iaload, 1) := by decide +kernel
theorem dX8_worthShown_17 : decode cX8_worthShown 17 = .ok (.ifCond .le 10, 3) := by decide +kernel
theorem dX8_worthShown_20 : decode cX8_worthShown 20 = .ok (.iload_n 2, 1) := by decide +kernel
theorem dX8_worthShown_21 : decode cX8_worthShown 21 = .ok (.invokestatic 59, 3) := by decide +kernel
theorem dX8_worthShown_24 : decode cX8_worthShown 24 = .ok (.goto 4, 3) := by decide +kernel
theorem dX8_worthShown_27 : decode cX8_worthShown 27 = .ok (.iconst 0, 1) := by decide +kernel
theorem dX8_worthShown_28 : decode cX8_worthShown 28 = .ok (.iadd, 1) := by decide +kernel
theorem dX8_worthShown_29 : decode cX8_worthShown 29 = .ok (.istore_n 1, 1) := by decide +kernel
theorem dX8_worthShown_30 : decode cX8_worthShown 30 = .ok (.iinc 2 1, 3) := by decide +kernel
theorem dX8_worthShown_33 : decode cX8_worthShown 33 = .ok (.goto (-29), 3) := by decide +kernel
theorem dX8_worthShown_36 : decode cX8_worthShown 36 = .ok (.iload_n 1, 1) := by decide +kernel
theorem dX8_worthShown_37 : decode cX8_worthShown 37 = .ok (.ireturn, 1) := by decide +kernel
theorem dX8_longest_0 : decode cX8_longest 0 = .ok (.iconst 0, 1) := by decide +kernel
theorem dX8_longest_1 : decode cX8_longest 1 = .ok (.istore_n 1, 1) := by decide +kernel
theorem dX8_longest_2 : decode cX8_longest 2 = .ok (.iconst 0, 1) := by decide +kernel
theorem dX8_longest_3 : decode cX8_longest 3 = .ok (.istore_n 2, 1) := by decide +kernel
theorem dX8_longest_4 : decode cX8_longest 4 = .ok (.iload_n 2, 1) := by decide +kernel
theorem dX8_longest_5 : decode cX8_longest 5 = .ok (.iconst 4, 1) := by decide +kernel
theorem dX8_longest_6 : decode cX8_longest 6 = .ok (.if_icmp .ge 68, 3) := by decide +kernel
theorem dX8_longest_9 : decode cX8_longest 9 = .ok (.iconst 0, 1) := by decide +kernel
theorem dX8_longest_10 : decode cX8_longest 10 = .ok (.istore_n 3, 1) := by decide +kernel
theorem dX8_longest_11 : decode cX8_longest 11 = .ok (.iload_n 2, 1) := by decide +kernel
theorem dX8_longest_12 : decode cX8_longest 12 = .ok (.istore 4, 2) := by decide +kernel
theorem dX8_longest_14 : decode cX8_longest 14 = .ok (.iload 4, 2) := by decide +kernel
theorem dX8_longest_16 : decode cX8_longest 16 = .ok (.bipush 52, 2) := by decide +kernel
theorem dX8_longest_18 : decode cX8_longest 18 = .ok (.if_icmp .ge 50, 3) := by decide +kernel
theorem dX8_longest_21 : decode cX8_longest 21 = .ok (.aload_n 0, 1) := by decide +kernel
theorem dX8_longest_22 : decode cX8_longest 22 = .ok (.getfield 14, 3) := by decide +kernel
theorem dX8_longest_25 : decode cX8_longest 25 = .ok (.iload 4, 2) := by decide +kernel
theorem dX8_longest_27 : decode cX8_longest 27 = .ok (.iaload, 1) := by decide +kernel
theorem dX8_longest_28 : decode cX8_longest 28 = .ok (.iconst 3, 1) := by decide +kernel
theorem dX8_longest_29 : decode cX8_longest 29 = .ok (.if_icmp .ne 9, 3) := by decide +kernel
theorem dX8_longest_32 : decode cX8_longest 32 = .ok (.iload_n 3, 1) := by decide +kernel
theorem dX8_longest_33 : decode cX8_longest 33 = .ok (.iconst 1, 1) := by decide +kernel
theorem dX8_longest_34 : decode cX8_longest 34 = .ok (.iadd, 1) := by decide +kernel
theorem dX8_longest_35 : decode cX8_longest 35 = .ok (.goto 19, 3) := by decide +kernel
theorem dX8_longest_38 : decode cX8_longest 38 = .ok (.aload_n 0, 1) := by decide +kernel
theorem dX8_longest_39 : decode cX8_longest 39 = .ok (.getfield 14, 3) := by decide +kernel
theorem dX8_longest_42 : decode cX8_longest 42 = .ok (.iload 4, 2) := by decide +kernel
theorem dX8_longest_44 : decode cX8_longest 44 = .ok (.iaload, 1) := by decide +kernel
theorem dX8_longest_45 : decode cX8_longest 45 = .ok (.iconst 2, 1) := by decide +kernel
theorem dX8_longest_46 : decode cX8_longest 46 = .ok (.if_icmp .ne 7, 3) := by decide +kernel
theorem dX8_longest_49 : decode cX8_longest 49 = .ok (.iconst 1, 1) := by decide +kernel
theorem dX8_longest_50 : decode cX8_longest 50 = .ok (.goto 4, 3) := by decide +kernel
theorem dX8_longest_53 : decode cX8_longest 53 = .ok (.iconst 0, 1) := by decide +kernel
theorem dX8_longest_54 : decode cX8_longest 54 = .ok (.istore_n 3, 1) := by decide +kernel
theorem dX8_longest_55 : decode cX8_longest 55 = .ok (.iload_n 3, 1) := by decide +kernel
theorem dX8_longest_56 : decode cX8_longest 56 = .ok (.iload_n 1, 1) := by decide +kernel
theorem dX8_longest_57 : decode cX8_longest 57 = .ok (.if_icmp .le 5, 3) := by decide +kernel
theorem dX8_longest_60 : decode cX8_longest 60 = .ok (.iload_n 3, 1) := by decide +kernel
theorem dX8_longest_61 : decode cX8_longest 61 = .ok (.istore_n 1, 1) := by decide +kernel
theorem dX8_longest_62 : decode cX8_longest 62 = .ok (.iinc 4 4, 3) := by decide +kernel
theorem dX8_longest_65 : decode cX8_longest 65 = .ok (.goto (-51), 3) := by decide +kernel
theorem dX8_longest_68 : decode cX8_longest 68 = .ok (.iinc 2 1, 3) := by decide +kernel
theorem dX8_longest_71 : decode cX8_longest 71 = .ok (.goto (-67), 3) := by decide +kernel
theorem dX8_longest_74 : decode cX8_longest 74 = .ok (.iload_n 1, 1) := by decide +kernel
theorem dX8_longest_75 : decode cX8_longest 75 = .ok (.ireturn, 1) := by decide +kernel
set_option maxRecDepth 20000 in
theorem ggX8_shows_X8_melds : GoodIn wsX8_shows wsX8_melds := goodIn_r _ [5, 6, 31, 32, 33, 34, 35, 36, 37, 38, 39, 40, 41, 42, 43, 44, 45, 46, 47, 48, 49, 50, 51, 52, 53] (by decide +kernel) (by decide +kernel)
set_option maxRecDepth 20000 in
theorem gX8_shows_X8_melds : GoodIn wsX8_shows (wsV RX8 100 RX8 yX8_melds wsX8_melds) := goodIn_app (goodIn_of _ (by decide +kernel)) ggX8_shows_X8_melds
set_option maxRecDepth 20000 in
theorem ggX8_shows_X8_runs : GoodIn wsX8_shows wsX8_runs := goodIn_r _ [10, 6, 31, 32, 33, 34, 35, 36, 37, 38, 39, 40, 41, 42, 43, 44, 45, 46, 47, 48, 49, 50, 51, 52, 53] (by decide +kernel) (by decide +kernel)
set_option maxRecDepth 20000 in
theorem gX8_shows_X8_runs : GoodIn wsX8_shows (wsV RX8 104 RX8 yX8_runs wsX8_runs) := goodIn_app (goodIn_of _ (by decide +kernel)) ggX8_shows_X8_runs
set_option maxRecDepth 20000 in
theorem ggX8_shows_X8_shown : GoodIn wsX8_shows wsX8_shown := goodIn_r _ [14, 6, 31, 32, 33, 34, 35, 36, 37, 38, 39, 40, 41, 42, 43, 44, 45, 46, 47, 48, 49, 50, 51, 52, 53] (by decide +kernel) (by decide +kernel)
set_option maxRecDepth 20000 in
theorem gX8_shows_X8_shown : GoodIn wsX8_shows (wsV RX8 107 RX8 yX8_shown wsX8_shown) := goodIn_app (goodIn_of _ (by decide +kernel)) ggX8_shows_X8_shown
set_option maxRecDepth 20000 in
theorem ggX8_shows_X8_stood : GoodIn wsX8_shows wsX8_stood := goodIn_r _ [18, 19, 31, 32, 33, 34, 35, 36, 37, 38, 39, 40, 41, 42, 43, 44, 45, 46, 47, 48, 49, 50, 51, 52, 53] (by decide +kernel) (by decide +kernel)
set_option maxRecDepth 20000 in
theorem gX8_shows_X8_stood : GoodIn wsX8_shows (wsV RX8 110 RX8 yX8_stood wsX8_stood) := goodIn_app (goodIn_of _ (by decide +kernel)) ggX8_shows_X8_stood
set_option maxRecDepth 20000 in
theorem ggX8_shows_X8_worthShown : GoodIn wsX8_shows wsX8_worthShown := goodIn_r _ [23, 6, 24, 25, 4, 26, 31, 32, 33, 34, 35, 36, 37, 38, 39, 40, 41, 42, 43, 44, 45, 46, 47, 48, 49, 50, 51, 52, 53] (by decide +kernel) (by decide +kernel)
set_option maxRecDepth 20000 in
theorem gX8_shows_X8_worthShown : GoodIn wsX8_shows (wsV RX8 113 RX8 yX8_worthShown wsX8_worthShown) := goodIn_app (goodIn_of _ (by decide +kernel)) ggX8_shows_X8_worthShown
set_option maxRecDepth 20000 in
theorem ggX8_shows_X8_longest : GoodIn wsX8_shows wsX8_longest := goodIn_r _ [30, 6, 31, 32, 33, 34, 35, 36, 37, 38, 39, 40, 41, 42, 43, 44, 45, 46, 47, 48, 49, 50, 51, 52, 53] (by decide +kernel) (by decide +kernel)
set_option maxRecDepth 20000 in
theorem gX8_shows_X8_longest : GoodIn wsX8_shows (wsV RX8 116 RX8 yX8_longest wsX8_longest) := goodIn_app (goodIn_of _ (by decide +kernel)) ggX8_shows_X8_longest
theorem dX8_shows_0 : decode cX8_shows 0 = .ok (.iload_n 1, 1) := by decide +kernel
theorem dX8_shows_1 : decode cX8_shows 1 = .ok (.tableswitch 74 0 5 #[39, 49, 54, 59, 64, 69], 39) := by decide +kernel
theorem dX8_shows_40 : decode cX8_shows 40 = .ok (.aload_n 0, 1) := by decide +kernel
theorem dX8_shows_41 : decode cX8_shows 41 = .ok (.invokevirtual 100, 3) := by decide +kernel
theorem dX8_shows_44 : decode cX8_shows 44 = .ok (.aload_n 0, 1) := by decide +kernel
theorem dX8_shows_45 : decode cX8_shows 45 = .ok (.invokevirtual 104, 3) := by decide +kernel
theorem dX8_shows_48 : decode cX8_shows 48 = .ok (.isub, 1) := by decide +kernel
theorem dX8_shows_49 : decode cX8_shows 49 = .ok (.ireturn, 1) := by decide +kernel
theorem dX8_shows_50 : decode cX8_shows 50 = .ok (.aload_n 0, 1) := by decide +kernel
theorem dX8_shows_51 : decode cX8_shows 51 = .ok (.invokevirtual 104, 3) := by decide +kernel
theorem dX8_shows_54 : decode cX8_shows 54 = .ok (.ireturn, 1) := by decide +kernel
theorem dX8_shows_55 : decode cX8_shows 55 = .ok (.aload_n 0, 1) := by decide +kernel
theorem dX8_shows_56 : decode cX8_shows 56 = .ok (.invokevirtual 107, 3) := by decide +kernel
theorem dX8_shows_59 : decode cX8_shows 59 = .ok (.ireturn, 1) := by decide +kernel
theorem dX8_shows_60 : decode cX8_shows 60 = .ok (.aload_n 0, 1) := by decide +kernel
theorem dX8_shows_61 : decode cX8_shows 61 = .ok (.invokevirtual 110, 3) := by decide +kernel
theorem dX8_shows_64 : decode cX8_shows 64 = .ok (.ireturn, 1) := by decide +kernel
theorem dX8_shows_65 : decode cX8_shows 65 = .ok (.aload_n 0, 1) := by decide +kernel
theorem dX8_shows_66 : decode cX8_shows 66 = .ok (.invokevirtual 113, 3) := by decide +kernel
theorem dX8_shows_69 : decode cX8_shows 69 = .ok (.ireturn, 1) := by decide +kernel
theorem dX8_shows_70 : decode cX8_shows 70 = .ok (.aload_n 0, 1) := by decide +kernel
theorem dX8_shows_71 : decode cX8_shows 71 = .ok (.invokevirtual 116, 3) := by decide +kernel
theorem dX8_shows_74 : decode cX8_shows 74 = .ok (.ireturn, 1) := by decide +kernel
theorem dX8_shows_75 : decode cX8_shows 75 = .ok (.iconst (-1), 1) := by decide +kernel
theorem dX8_shows_76 : decode cX8_shows 76 = .ok (.ireturn, 1) := by decide +kernel
set_option maxRecDepth 20000 in
theorem ggX8_worth_X8_isSet : GoodIn wsX8_worth wsX8_isSet := goodIn_r _ [5, 6] (by decide +kernel) (by decide +kernel)
set_option maxRecDepth 20000 in
theorem gX8_worth_X8_isSet : GoodIn wsX8_worth (va_wsS RX8 86 yX8_isSet wsX8_isSet) := goodIn_app (goodIn_of _ (by decide +kernel)) ggX8_worth_X8_isSet
set_option maxRecDepth 20000 in
theorem ggX8_worth_X8_none : GoodIn wsX8_worth wsX8_none := goodIn_r _ [10, 1, 20, 21, 22, 23, 24, 25, 26, 27, 28, 29, 30, 31, 32, 33, 34, 35, 36, 37, 38, 39, 40, 41, 42] (by decide +kernel) (by decide +kernel)
set_option maxRecDepth 20000 in
theorem gX8_worth_X8_none : GoodIn wsX8_worth (wsV RX8 90 RX8 yX8_none wsX8_none) := goodIn_app (goodIn_of _ (by decide +kernel)) ggX8_worth_X8_none
set_option maxRecDepth 20000 in
theorem ggX8_worth_X8_worthAll : GoodIn wsX8_worth wsX8_worthAll := goodIn_r _ [13, 14, 15, 4, 16, 17, 18, 19] (by decide +kernel) (by decide +kernel)
set_option maxRecDepth 20000 in
theorem gX8_worth_X8_worthAll : GoodIn wsX8_worth (va_wsS RX8 119 yX8_worthAll wsX8_worthAll) := goodIn_app (goodIn_of _ (by decide +kernel)) ggX8_worth_X8_worthAll
theorem dX8_worth_0 : decode cX8_worth 0 = .ok (.lload_n 1, 1) := by decide +kernel
theorem dX8_worth_1 : decode cX8_worth 1 = .ok (.invokestatic 86, 3) := by decide +kernel
theorem dX8_worth_4 : decode cX8_worth 4 = .ok (.ifCond .ne 9, 3) := by decide +kernel
theorem dX8_worth_7 : decode cX8_worth 7 = .ok (.aload_n 0, 1) := by decide +kernel
theorem dX8_worth_8 : decode cX8_worth 8 = .ok (.iconst 1, 1) := by decide +kernel
theorem dX8_worth_9 : decode cX8_worth 9 = .ok (.invokevirtual 90, 3) := by decide +kernel
theorem dX8_worth_12 : decode cX8_worth 12 = .ok (.ireturn, 1) := by decide +kernel
theorem dX8_worth_13 : decode cX8_worth 13 = .ok (.aload_n 0, 1) := by decide +kernel
theorem dX8_worth_14 : decode cX8_worth 14 = .ok (.iconst 0, 1) := by decide +kernel
theorem dX8_worth_15 : decode cX8_worth 15 = .ok (.putfield 50, 3) := by decide +kernel
theorem dX8_worth_18 : decode cX8_worth 18 = .ok (.lload_n 1, 1) := by decide +kernel
theorem dX8_worth_19 : decode cX8_worth 19 = .ok (.invokestatic 119, 3) := by decide +kernel
theorem dX8_worth_22 : decode cX8_worth 22 = .ok (.ireturn, 1) := by decide +kernel
set_option maxRecDepth 20000 in
theorem ggX8_gain_X8_worthOf : GoodIn wsX8_gain wsX8_worthOf := goodIn_r _ [4] (by decide +kernel) (by decide +kernel)
set_option maxRecDepth 20000 in
theorem gX8_gain_X8_worthOf : GoodIn wsX8_gain (va_wsS RX8 59 yX8_worthOf wsX8_worthOf) := goodIn_app (goodIn_of _ (by decide +kernel)) ggX8_gain_X8_worthOf
theorem dX8_gain_0 : decode cX8_gain 0 = .ok (.iload_n 1, 1) := by decide +kernel
theorem dX8_gain_1 : decode cX8_gain 1 = .ok (.ifCond .ne 7, 3) := by decide +kernel
theorem dX8_gain_4 : decode cX8_gain 4 = .ok (.iconst 1, 1) := by decide +kernel
theorem dX8_gain_5 : decode cX8_gain 5 = .ok (.goto 7, 3) := by decide +kernel
theorem dX8_gain_8 : decode cX8_gain 8 = .ok (.iload_n 0, 1) := by decide +kernel
theorem dX8_gain_9 : decode cX8_gain 9 = .ok (.invokestatic 59, 3) := by decide +kernel
theorem dX8_gain_12 : decode cX8_gain 12 = .ok (.ireturn, 1) := by decide +kernel
set_option maxRecDepth 20000 in
theorem ggX8_reckon_X8_jokers : GoodIn wsX8_reckon wsX8_jokers := goodIn_r _ [10] (by decide +kernel) (by decide +kernel)
set_option maxRecDepth 20000 in
theorem gX8_reckon_X8_jokers : GoodIn wsX8_reckon (va_wsS RX8 70 yX8_jokers wsX8_jokers) := goodIn_app (goodIn_of _ (by decide +kernel)) ggX8_reckon_X8_jokers
set_option maxRecDepth 20000 in
theorem ggX8_reckon_X8_jokersOf : GoodIn wsX8_reckon wsX8_jokersOf := goodIn_r _ [13] (by decide +kernel) (by decide +kernel)
set_option maxRecDepth 20000 in
theorem gX8_reckon_X8_jokersOf : GoodIn wsX8_reckon (va_wsS RX8 78 yX8_jokersOf wsX8_jokersOf) := goodIn_app (goodIn_of _ (by decide +kernel)) ggX8_reckon_X8_jokersOf
set_option maxRecDepth 20000 in
theorem ggX8_reckon_X8_isWhole : GoodIn wsX8_reckon wsX8_isWhole := goodIn_r _ [16, 17, 18, 9, 19, 20, 21, 22] (by decide +kernel) (by decide +kernel)
set_option maxRecDepth 20000 in
theorem gX8_reckon_X8_isWhole : GoodIn wsX8_reckon (va_wsS RX8 74 yX8_isWhole wsX8_isWhole) := goodIn_app (goodIn_of _ (by decide +kernel)) ggX8_reckon_X8_isWhole
set_option maxRecDepth 20000 in
theorem ggX8_reckon_X8_gain : GoodIn wsX8_reckon wsX8_gain := goodIn_r _ [25, 26, 27, 9, 28] (by decide +kernel) (by decide +kernel)
set_option maxRecDepth 20000 in
theorem gX8_reckon_X8_gain : GoodIn wsX8_reckon (va_wsS RX8 122 yX8_gain wsX8_gain) := goodIn_app (goodIn_of _ (by decide +kernel)) ggX8_reckon_X8_gain
set_option maxRecDepth 20000 in
theorem ggX8_reckon_X8_has : GoodIn wsX8_reckon wsX8_has := goodIn_r _ [31] (by decide +kernel) (by decide +kernel)
set_option maxRecDepth 20000 in
theorem gX8_reckon_X8_has : GoodIn wsX8_reckon (va_wsS RX8 55 yX8_has wsX8_has) := goodIn_app (goodIn_of _ (by decide +kernel)) ggX8_reckon_X8_has
set_option maxRecDepth 20000 in
theorem ggX8_reckon_X8_behind : GoodIn wsX8_reckon wsX8_behind := goodIn_r _ [34, 17, 18, 9, 19, 20, 21, 22, 7, 8, 10] (by decide +kernel) (by decide +kernel)
set_option maxRecDepth 20000 in
theorem gX8_reckon_X8_behind : GoodIn wsX8_reckon (va_wsS RX8 82 yX8_behind wsX8_behind) := goodIn_app (goodIn_of _ (by decide +kernel)) ggX8_reckon_X8_behind
set_option maxRecDepth 20000 in
theorem ggX8_reckon_X8_after : GoodIn wsX8_reckon wsX8_after := goodIn_r _ [38, 1, 39, 40, 41, 42, 43, 44, 45, 46, 47, 48, 49, 50, 51, 52, 53, 54, 55, 56, 57, 58, 59, 60, 61] (by decide +kernel) (by decide +kernel)
set_option maxRecDepth 20000 in
theorem gX8_reckon_X8_after : GoodIn wsX8_reckon (wsV RX8 125 RX8 yX8_after wsX8_after) := goodIn_app (goodIn_of _ (by decide +kernel)) ggX8_reckon_X8_after
