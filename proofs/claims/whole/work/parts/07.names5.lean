theorem dX8_fault_95 : decode cX8_fault 95 = .ok (.goto 33, 3) := by decide +kernel
theorem dX8_fault_98 : decode cX8_fault 98 = .ok (.iload 6, 2) := by decide +kernel
theorem dX8_fault_100 : decode cX8_fault 100 = .ok (.iconst 1, 1) := by decide +kernel
theorem dX8_fault_101 : decode cX8_fault 101 = .ok (.if_icmp .ne 10, 3) := by decide +kernel
theorem dX8_fault_104 : decode cX8_fault 104 = .ok (.aload_n 0, 1) := by decide +kernel
theorem dX8_fault_105 : decode cX8_fault 105 = .ok (.getfield 110, 3) := by decide +kernel
theorem dX8_fault_108 : decode cX8_fault 108 = .ok (.goto 20, 3) := by decide +kernel
theorem dX8_fault_111 : decode cX8_fault 111 = .ok (.iload 6, 2) := by decide +kernel
theorem dX8_fault_113 : decode cX8_fault 113 = .ok (.iconst 2, 1) := by decide +kernel
theorem dX8_fault_114 : decode cX8_fault 114 = .ok (.if_icmp .ne 10, 3) := by decide +kernel
theorem dX8_fault_117 : decode cX8_fault 117 = .ok (.aload_n 0, 1) := by decide +kernel
theorem dX8_fault_118 : decode cX8_fault 118 = .ok (.getfield 113, 3) := by decide +kernel
theorem dX8_fault_121 : decode cX8_fault 121 = .ok (.goto 7, 3) := by decide +kernel
theorem dX8_fault_124 : decode cX8_fault 124 = .ok (.aload_n 0, 1) := by decide +kernel
theorem dX8_fault_125 : decode cX8_fault 125 = .ok (.getfield 116, 3) := by decide +kernel
theorem dX8_fault_128 : decode cX8_fault 128 = .ok (.ireturn, 1) := by decide +kernel
set_option maxRecDepth 20000 in
theorem ggX8_best_X8_isHorse : GoodIn wsX8_best wsX8_isHorse := goodIn_r _ [8, 9, 10, 11, 7, 12, 54, 55, 56, 57, 58, 59, 60, 61, 62, 63, 64, 65, 66, 67, 68, 69, 70, 71, 72, 73, 74, 75, 76, 77, 78, 79, 80] (by decide +kernel) (by decide +kernel)
set_option maxRecDepth 20000 in
theorem gX8_best_X8_isHorse : GoodIn wsX8_best (wsV RX8 75 RX8 yX8_isHorse wsX8_isHorse) := goodIn_app (goodIn_of _ (by decide +kernel)) ggX8_best_X8_isHorse
set_option maxRecDepth 20000 in
theorem ggX8_best_X8_isDay : GoodIn wsX8_best wsX8_isDay := goodIn_r _ [15, 16, 10, 11, 7, 12] (by decide +kernel) (by decide +kernel)
set_option maxRecDepth 20000 in
theorem gX8_best_X8_isDay : GoodIn wsX8_best (va_wsS RX8 78 yX8_isDay wsX8_isDay) := goodIn_app (goodIn_of _ (by decide +kernel)) ggX8_best_X8_isDay
set_option maxRecDepth 20000 in
theorem ggX8_best_X8_isLoad : GoodIn wsX8_best wsX8_isLoad := goodIn_r _ [19, 20, 10, 11, 7, 12] (by decide +kernel) (by decide +kernel)
set_option maxRecDepth 20000 in
theorem gX8_best_X8_isLoad : GoodIn wsX8_best (va_wsS RX8 125 yX8_isLoad wsX8_isLoad) := goodIn_app (goodIn_of _ (by decide +kernel)) ggX8_best_X8_isLoad
set_option maxRecDepth 20000 in
theorem ggX8_best_X8_backAt : GoodIn wsX8_best wsX8_backAt := goodIn_r _ [24, 25, 26, 54, 55, 56, 57, 58, 59, 60, 61, 62, 63, 64, 65, 66, 67, 68, 69, 70, 71, 72, 73, 74, 75, 76, 77, 78, 79, 80] (by decide +kernel) (by decide +kernel)
set_option maxRecDepth 20000 in
theorem gX8_best_X8_backAt : GoodIn wsX8_best (wsV RX8 85 RX8 yX8_backAt wsX8_backAt) := goodIn_app (goodIn_of _ (by decide +kernel)) ggX8_best_X8_backAt
set_option maxRecDepth 20000 in
theorem ggX8_best_X8_judge : GoodIn wsX8_best wsX8_judge := goodIn_r _ [30, 2, 31, 3, 32, 33, 34, 35, 36, 7, 37, 38, 39, 40, 41, 42, 43, 44, 45, 46, 47, 48, 49, 50, 51, 52, 53, 54, 55, 56, 57, 58, 59, 60, 61, 62, 63, 64, 65, 66, 67, 68, 69, 70, 71, 72, 73, 74, 75, 76, 77, 78, 79, 80] (by decide +kernel) (by decide +kernel)
set_option maxRecDepth 20000 in
theorem gX8_best_X8_judge : GoodIn wsX8_best (wsV RX8 130 RX8 yX8_judge wsX8_judge) := goodIn_app (goodIn_of _ (by decide +kernel)) ggX8_best_X8_judge
theorem dX8_best_0 : decode cX8_best 0 = .ok (.aload_n 0, 1) := by decide +kernel
theorem dX8_best_1 : decode cX8_best 1 = .ok (.iload_n 1, 1) := by decide +kernel
theorem dX8_best_2 : decode cX8_best 2 = .ok (.invokevirtual 75, 3) := by decide +kernel
theorem dX8_best_5 : decode cX8_best 5 = .ok (.ifCond .ne 6, 3) := by decide +kernel
theorem dX8_best_8 : decode cX8_best 8 = .ok (.bipush (-101), 2) := by decide +kernel
theorem dX8_best_10 : decode cX8_best 10 = .ok (.ireturn, 1) := by decide +kernel
theorem dX8_best_11 : decode cX8_best 11 = .ok (.iload_n 2, 1) := by decide +kernel
theorem dX8_best_12 : decode cX8_best 12 = .ok (.invokestatic 78, 3) := by decide +kernel
theorem dX8_best_15 : decode cX8_best 15 = .ok (.ifCond .eq 18, 3) := by decide +kernel
theorem dX8_best_18 : decode cX8_best 18 = .ok (.iload_n 3, 1) := by decide +kernel
theorem dX8_best_19 : decode cX8_best 19 = .ok (.invokestatic 125, 3) := by decide +kernel
theorem dX8_best_22 : decode cX8_best 22 = .ok (.ifCond .eq 11, 3) := by decide +kernel
theorem dX8_best_25 : decode cX8_best 25 = .ok (.iload 4, 2) := by decide +kernel
theorem dX8_best_27 : decode cX8_best 27 = .ok (.invokestatic 125, 3) := by decide +kernel
theorem dX8_best_30 : decode cX8_best 30 = .ok (.ifCond .ne 6, 3) := by decide +kernel
theorem dX8_best_33 : decode cX8_best 33 = .ok (.bipush (-102), 2) := by decide +kernel
theorem dX8_best_35 : decode cX8_best 35 = .ok (.ireturn, 1) := by decide +kernel
theorem dX8_best_36 : decode cX8_best 36 = .ok (.aload_n 0, 1) := by decide +kernel
theorem dX8_best_37 : decode cX8_best 37 = .ok (.iload_n 1, 1) := by decide +kernel
theorem dX8_best_38 : decode cX8_best 38 = .ok (.iload_n 2, 1) := by decide +kernel
theorem dX8_best_39 : decode cX8_best 39 = .ok (.invokevirtual 85, 3) := by decide +kernel
theorem dX8_best_42 : decode cX8_best 42 = .ok (.istore 5, 2) := by decide +kernel
theorem dX8_best_44 : decode cX8_best 44 = .ok (.iload 5, 2) := by decide +kernel
theorem dX8_best_46 : decode cX8_best 46 = .ok (.iconst (-1), 1) := by decide +kernel
theorem dX8_best_47 : decode cX8_best 47 = .ok (.if_icmp .ne 6, 3) := by decide +kernel
theorem dX8_best_50 : decode cX8_best 50 = .ok (.bipush (-103), 2) := by decide +kernel
theorem dX8_best_52 : decode cX8_best 52 = .ok (.ireturn, 1) := by decide +kernel
theorem dX8_best_53 : decode cX8_best 53 = .ok (.iconst (-1), 1) := by decide +kernel
theorem dX8_best_54 : decode cX8_best 54 = .ok (.istore 6, 2) := by decide +kernel
theorem dX8_best_56 : decode cX8_best 56 = .ok (.iconst 0, 1) := by decide +kernel
theorem dX8_best_57 : decode cX8_best 57 = .ok (.istore 7, 2) := by decide +kernel
theorem dX8_best_59 : decode cX8_best 59 = .ok (.iconst 0, 1) := by decide +kernel
theorem dX8_best_60 : decode cX8_best 60 = .ok (.istore 8, 2) := by decide +kernel
theorem dX8_best_62 : decode cX8_best 62 = .ok (.iload 8, 2) := by decide +kernel
theorem dX8_best_64 : decode cX8_best 64 = .ok (.aload_n 0, 1) := by decide +kernel
theorem dX8_best_65 : decode cX8_best 65 = .ok (.getfield 88, 3) := by decide +kernel
theorem dX8_best_68 : decode cX8_best 68 = .ok (.if_icmp .ge 52, 3) := by decide +kernel
theorem dX8_best_71 : decode cX8_best 71 = .ok (.aload_n 0, 1) := by decide +kernel
theorem dX8_best_72 : decode cX8_best 72 = .ok (.iload 8, 2) := by decide +kernel
theorem dX8_best_74 : decode cX8_best 74 = .ok (.iload 5, 2) := by decide +kernel
theorem dX8_best_76 : decode cX8_best 76 = .ok (.iload_n 3, 1) := by decide +kernel
theorem dX8_best_77 : decode cX8_best 77 = .ok (.iload 4, 2) := by decide +kernel
theorem dX8_best_79 : decode cX8_best 79 = .ok (.invokevirtual 130, 3) := by decide +kernel
theorem dX8_best_82 : decode cX8_best 82 = .ok (.aload_n 0, 1) := by decide +kernel
theorem dX8_best_83 : decode cX8_best 83 = .ok (.getfield 107, 3) := by decide +kernel
theorem dX8_best_86 : decode cX8_best 86 = .ok (.ifCond .ne 28, 3) := by decide +kernel
theorem dX8_best_89 : decode cX8_best 89 = .ok (.iload 6, 2) := by decide +kernel
theorem dX8_best_91 : decode cX8_best 91 = .ok (.iconst (-1), 1) := by decide +kernel
theorem dX8_best_92 : decode cX8_best 92 = .ok (.if_icmp .eq 12, 3) := by decide +kernel
theorem dX8_best_95 : decode cX8_best 95 = .ok (.aload_n 0, 1) := by decide +kernel
theorem dX8_best_96 : decode cX8_best 96 = .ok (.getfield 113, 3) := by decide +kernel
theorem dX8_best_99 : decode cX8_best 99 = .ok (.iload 7, 2) := by decide +kernel
theorem dX8_best_101 : decode cX8_best 101 = .ok (.if_icmp .ge 13, 3) := by decide +kernel
theorem dX8_best_104 : decode cX8_best 104 = .ok (.iload 8, 2) := by decide +kernel
theorem dX8_best_106 : decode cX8_best 106 = .ok (.istore 6, 2) := by decide +kernel
theorem dX8_best_108 : decode cX8_best 108 = .ok (.aload_n 0, 1) := by decide +kernel
theorem dX8_best_109 : decode cX8_best 109 = .ok (.getfield 113, 3) := by decide +kernel
theorem dX8_best_112 : decode cX8_best 112 = .ok (.istore 7, 2) := by decide +kernel
theorem dX8_best_114 : decode cX8_best 114 = .ok (.iinc 8 1, 3) := by decide +kernel
theorem dX8_best_117 : decode cX8_best 117 = .ok (.goto (-55), 3) := by decide +kernel
theorem dX8_best_120 : decode cX8_best 120 = .ok (.iload 6, 2) := by decide +kernel
theorem dX8_best_122 : decode cX8_best 122 = .ok (.ireturn, 1) := by decide +kernel
set_option maxRecDepth 20000 in
theorem ggX8_day_X8_isDay : GoodIn wsX8_day wsX8_isDay := goodIn_r _ [6, 7, 8, 9, 5, 10] (by decide +kernel) (by decide +kernel)
set_option maxRecDepth 20000 in
theorem gX8_day_X8_isDay : GoodIn wsX8_day (va_wsS RX8 78 yX8_isDay wsX8_isDay) := goodIn_app (goodIn_of _ (by decide +kernel)) ggX8_day_X8_isDay
theorem dX8_day_0 : decode cX8_day 0 = .ok (.iload_n 1, 1) := by decide +kernel
theorem dX8_day_1 : decode cX8_day 1 = .ok (.invokestatic 78, 3) := by decide +kernel
theorem dX8_day_4 : decode cX8_day 4 = .ok (.ifCond .ne 6, 3) := by decide +kernel
theorem dX8_day_7 : decode cX8_day 7 = .ok (.bipush (-102), 2) := by decide +kernel
theorem dX8_day_9 : decode cX8_day 9 = .ok (.ireturn, 1) := by decide +kernel
theorem dX8_day_10 : decode cX8_day 10 = .ok (.iconst 0, 1) := by decide +kernel
theorem dX8_day_11 : decode cX8_day 11 = .ok (.istore_n 2, 1) := by decide +kernel
theorem dX8_day_12 : decode cX8_day 12 = .ok (.iload_n 2, 1) := by decide +kernel
theorem dX8_day_13 : decode cX8_day 13 = .ok (.aload_n 0, 1) := by decide +kernel
theorem dX8_day_14 : decode cX8_day 14 = .ok (.getfield 134, 3) := by decide +kernel
theorem dX8_day_17 : decode cX8_day 17 = .ok (.if_icmp .ge 22, 3) := by decide +kernel
theorem dX8_day_20 : decode cX8_day 20 = .ok (.aload_n 0, 1) := by decide +kernel
theorem dX8_day_21 : decode cX8_day 21 = .ok (.getfield 34, 3) := by decide +kernel
theorem dX8_day_24 : decode cX8_day 24 = .ok (.iload_n 2, 1) := by decide +kernel
theorem dX8_day_25 : decode cX8_day 25 = .ok (.iaload, 1) := by decide +kernel
theorem dX8_day_26 : decode cX8_day 26 = .ok (.iload_n 1, 1) := by decide +kernel
theorem dX8_day_27 : decode cX8_day 27 = .ok (.if_icmp .ne 6, 3) := by decide +kernel
theorem dX8_day_30 : decode cX8_day 30 = .ok (.bipush (-103), 2) := by decide +kernel
theorem dX8_day_32 : decode cX8_day 32 = .ok (.ireturn, 1) := by decide +kernel
theorem dX8_day_33 : decode cX8_day 33 = .ok (.iinc 2 1, 3) := by decide +kernel
theorem dX8_day_36 : decode cX8_day 36 = .ok (.goto (-24), 3) := by decide +kernel
theorem dX8_day_39 : decode cX8_day 39 = .ok (.aload_n 0, 1) := by decide +kernel
theorem dX8_day_40 : decode cX8_day 40 = .ok (.getfield 134, 3) := by decide +kernel
theorem dX8_day_43 : decode cX8_day 43 = .ok (.bipush 6, 2) := by decide +kernel
theorem dX8_day_45 : decode cX8_day 45 = .ok (.if_icmp .ne 6, 3) := by decide +kernel
theorem dX8_day_48 : decode cX8_day 48 = .ok (.bipush (-104), 2) := by decide +kernel
theorem dX8_day_50 : decode cX8_day 50 = .ok (.ireturn, 1) := by decide +kernel
theorem dX8_day_51 : decode cX8_day 51 = .ok (.aload_n 0, 1) := by decide +kernel
theorem dX8_day_52 : decode cX8_day 52 = .ok (.getfield 34, 3) := by decide +kernel
theorem dX8_day_55 : decode cX8_day 55 = .ok (.aload_n 0, 1) := by decide +kernel
theorem dX8_day_56 : decode cX8_day 56 = .ok (.getfield 134, 3) := by decide +kernel
theorem dX8_day_59 : decode cX8_day 59 = .ok (.iload_n 1, 1) := by decide +kernel
theorem dX8_day_60 : decode cX8_day 60 = .ok (.iastore, 1) := by decide +kernel
theorem dX8_day_61 : decode cX8_day 61 = .ok (.aload_n 0, 1) := by decide +kernel
theorem dX8_day_62 : decode cX8_day 62 = .ok (.dup, 1) := by decide +kernel
theorem dX8_day_63 : decode cX8_day 63 = .ok (.getfield 134, 3) := by decide +kernel
theorem dX8_day_66 : decode cX8_day 66 = .ok (.iconst 1, 1) := by decide +kernel
theorem dX8_day_67 : decode cX8_day 67 = .ok (.iadd, 1) := by decide +kernel
theorem dX8_day_68 : decode cX8_day 68 = .ok (.putfield 134, 3) := by decide +kernel
theorem dX8_day_71 : decode cX8_day 71 = .ok (.aload_n 0, 1) := by decide +kernel
theorem dX8_day_72 : decode cX8_day 72 = .ok (.getfield 134, 3) := by decide +kernel
theorem dX8_day_75 : decode cX8_day 75 = .ok (.ireturn, 1) := by decide +kernel
theorem dX8_clear_0 : decode cX8_clear 0 = .ok (.aload_n 0, 1) := by decide +kernel
theorem dX8_clear_1 : decode cX8_clear 1 = .ok (.getfield 134, 3) := by decide +kernel
theorem dX8_clear_4 : decode cX8_clear 4 = .ok (.istore_n 1, 1) := by decide +kernel
theorem dX8_clear_5 : decode cX8_clear 5 = .ok (.aload_n 0, 1) := by decide +kernel
theorem dX8_clear_6 : decode cX8_clear 6 = .ok (.iconst 0, 1) := by decide +kernel
theorem dX8_clear_7 : decode cX8_clear 7 = .ok (.putfield 134, 3) := by decide +kernel
theorem dX8_clear_10 : decode cX8_clear 10 = .ok (.iload_n 1, 1) := by decide +kernel
theorem dX8_clear_11 : decode cX8_clear 11 = .ok (.ireturn, 1) := by decide +kernel
set_option maxRecDepth 20000 in
theorem ggX8_findFitting_X8_backAt : GoodIn wsX8_findFitting wsX8_backAt := goodIn_r _ [12, 13, 14, 43, 44, 45, 46, 47, 48, 49, 50, 51, 52, 53, 54, 55, 56, 57, 58, 59, 60, 61, 62, 63, 64, 65, 66, 67, 68, 69] (by decide +kernel) (by decide +kernel)
set_option maxRecDepth 20000 in
theorem gX8_findFitting_X8_backAt : GoodIn wsX8_findFitting (wsV RX8 85 RX8 yX8_backAt wsX8_backAt) := goodIn_app (goodIn_of _ (by decide +kernel)) ggX8_findFitting_X8_backAt
set_option maxRecDepth 20000 in
theorem ggX8_findFitting_X8_judge : GoodIn wsX8_findFitting wsX8_judge := goodIn_r _ [18, 6, 19, 20, 21, 22, 23, 24, 25, 11, 26, 27, 28, 29, 30, 31, 32, 33, 34, 35, 36, 37, 38, 39, 40, 41, 42, 43, 44, 45, 46, 47, 48, 49, 50, 51, 52, 53, 54, 55, 56, 57, 58, 59, 60, 61, 62, 63, 64, 65, 66, 67, 68, 69] (by decide +kernel) (by decide +kernel)
set_option maxRecDepth 20000 in
theorem gX8_findFitting_X8_judge : GoodIn wsX8_findFitting (wsV RX8 130 RX8 yX8_judge wsX8_judge) := goodIn_app (goodIn_of _ (by decide +kernel)) ggX8_findFitting_X8_judge
theorem dX8_findFitting_0 : decode cX8_findFitting 0 = .ok (.aload_n 0, 1) := by decide +kernel
theorem dX8_findFitting_1 : decode cX8_findFitting 1 = .ok (.iconst 0, 1) := by decide +kernel
theorem dX8_findFitting_2 : decode cX8_findFitting 2 = .ok (.putfield 137, 3) := by decide +kernel
theorem dX8_findFitting_5 : decode cX8_findFitting 5 = .ok (.iconst 0, 1) := by decide +kernel
theorem dX8_findFitting_6 : decode cX8_findFitting 6 = .ok (.istore_n 3, 1) := by decide +kernel
theorem dX8_findFitting_7 : decode cX8_findFitting 7 = .ok (.iload_n 3, 1) := by decide +kernel
theorem dX8_findFitting_8 : decode cX8_findFitting 8 = .ok (.aload_n 0, 1) := by decide +kernel
theorem dX8_findFitting_9 : decode cX8_findFitting 9 = .ok (.getfield 64, 3) := by decide +kernel
theorem dX8_findFitting_12 : decode cX8_findFitting 12 = .ok (.if_icmp .ge 119, 3) := by decide +kernel
theorem dX8_findFitting_15 : decode cX8_findFitting 15 = .ok (.iconst 0, 1) := by decide +kernel
theorem dX8_findFitting_16 : decode cX8_findFitting 16 = .ok (.istore 4, 2) := by decide +kernel
theorem dX8_findFitting_18 : decode cX8_findFitting 18 = .ok (.iload 4, 2) := by decide +kernel
theorem dX8_findFitting_20 : decode cX8_findFitting 20 = .ok (.aload_n 0, 1) := by decide +kernel
theorem dX8_findFitting_21 : decode cX8_findFitting 21 = .ok (.getfield 134, 3) := by decide +kernel
theorem dX8_findFitting_24 : decode cX8_findFitting 24 = .ok (.if_icmp .ge 101, 3) := by decide +kernel
theorem dX8_findFitting_27 : decode cX8_findFitting 27 = .ok (.aload_n 0, 1) := by decide +kernel
theorem dX8_findFitting_28 : decode cX8_findFitting 28 = .ok (.iload_n 3, 1) := by decide +kernel
theorem dX8_findFitting_29 : decode cX8_findFitting 29 = .ok (.aload_n 0, 1) := by decide +kernel
theorem dX8_findFitting_30 : decode cX8_findFitting 30 = .ok (.getfield 34, 3) := by decide +kernel
theorem dX8_findFitting_33 : decode cX8_findFitting 33 = .ok (.iload 4, 2) := by decide +kernel
theorem dX8_findFitting_35 : decode cX8_findFitting 35 = .ok (.iaload, 1) := by decide +kernel
theorem dX8_findFitting_36 : decode cX8_findFitting 36 = .ok (.invokevirtual 85, 3) := by decide +kernel
theorem dX8_findFitting_39 : decode cX8_findFitting 39 = .ok (.istore 5, 2) := by decide +kernel
theorem dX8_findFitting_41 : decode cX8_findFitting 41 = .ok (.iload 5, 2) := by decide +kernel
theorem dX8_findFitting_43 : decode cX8_findFitting 43 = .ok (.iconst (-1), 1) := by decide +kernel
theorem dX8_findFitting_44 : decode cX8_findFitting 44 = .ok (.if_icmp .eq 75, 3) := by decide +kernel
theorem dX8_findFitting_47 : decode cX8_findFitting 47 = .ok (.iconst 0, 1) := by decide +kernel
theorem dX8_findFitting_48 : decode cX8_findFitting 48 = .ok (.istore 6, 2) := by decide +kernel
theorem dX8_findFitting_50 : decode cX8_findFitting 50 = .ok (.iconst 0, 1) := by decide +kernel
theorem dX8_findFitting_51 : decode cX8_findFitting 51 = .ok (.istore 7, 2) := by decide +kernel
theorem dX8_findFitting_53 : decode cX8_findFitting 53 = .ok (.iload 7, 2) := by decide +kernel
theorem dX8_findFitting_55 : decode cX8_findFitting 55 = .ok (.aload_n 0, 1) := by decide +kernel
theorem dX8_findFitting_56 : decode cX8_findFitting 56 = .ok (.getfield 88, 3) := by decide +kernel
theorem dX8_findFitting_59 : decode cX8_findFitting 59 = .ok (.if_icmp .ge 39, 3) := by decide +kernel
theorem dX8_findFitting_62 : decode cX8_findFitting 62 = .ok (.aload_n 0, 1) := by decide +kernel
theorem dX8_findFitting_63 : decode cX8_findFitting 63 = .ok (.iload 7, 2) := by decide +kernel
theorem dX8_findFitting_65 : decode cX8_findFitting 65 = .ok (.iload 5, 2) := by decide +kernel
theorem dX8_findFitting_67 : decode cX8_findFitting 67 = .ok (.iload_n 1, 1) := by decide +kernel
theorem dX8_findFitting_68 : decode cX8_findFitting 68 = .ok (.iload_n 2, 1) := by decide +kernel
theorem dX8_findFitting_69 : decode cX8_findFitting 69 = .ok (.invokevirtual 130, 3) := by decide +kernel
theorem dX8_findFitting_72 : decode cX8_findFitting 72 = .ok (.iload 6, 2) := by decide +kernel
theorem dX8_findFitting_74 : decode cX8_findFitting 74 = .ok (.aload_n 0, 1) := by decide +kernel
theorem dX8_findFitting_75 : decode cX8_findFitting 75 = .ok (.getfield 107, 3) := by decide +kernel
theorem dX8_findFitting_78 : decode cX8_findFitting 78 = .ok (.ifCond .ne 10, 3) := by decide +kernel
theorem dX8_findFitting_81 : decode cX8_findFitting 81 = .ok (.iconst 1, 1) := by decide +kernel
theorem dX8_findFitting_82 : decode cX8_findFitting 82 = .ok (.iload 7, 2) := by decide +kernel
theorem dX8_findFitting_84 : decode cX8_findFitting 84 = .ok (.ishl, 1) := by decide +kernel
theorem dX8_findFitting_85 : decode cX8_findFitting 85 = .ok (.goto 4, 3) := by decide +kernel
theorem dX8_findFitting_88 : decode cX8_findFitting 88 = .ok (.iconst 0, 1) := by decide +kernel
theorem dX8_findFitting_89 : decode cX8_findFitting 89 = .ok (.ior, 1) := by decide +kernel
theorem dX8_findFitting_90 : decode cX8_findFitting 90 = .ok (.istore 6, 2) := by decide +kernel
theorem dX8_findFitting_92 : decode cX8_findFitting 92 = .ok (.iinc 7 1, 3) := by decide +kernel
theorem dX8_findFitting_95 : decode cX8_findFitting 95 = .ok (.goto (-42), 3) := by decide +kernel
theorem dX8_findFitting_98 : decode cX8_findFitting 98 = .ok (.aload_n 0, 1) := by decide +kernel
theorem dX8_findFitting_99 : decode cX8_findFitting 99 = .ok (.getfield 37, 3) := by decide +kernel
theorem dX8_findFitting_102 : decode cX8_findFitting 102 = .ok (.aload_n 0, 1) := by decide +kernel
theorem dX8_findFitting_103 : decode cX8_findFitting 103 = .ok (.getfield 137, 3) := by decide +kernel
theorem dX8_findFitting_106 : decode cX8_findFitting 106 = .ok (.iload 6, 2) := by decide +kernel
theorem dX8_findFitting_108 : decode cX8_findFitting 108 = .ok (.iastore, 1) := by decide +kernel
theorem dX8_findFitting_109 : decode cX8_findFitting 109 = .ok (.aload_n 0, 1) := by decide +kernel
theorem dX8_findFitting_110 : decode cX8_findFitting 110 = .ok (.dup, 1) := by decide +kernel
theorem dX8_findFitting_111 : decode cX8_findFitting 111 = .ok (.getfield 137, 3) := by decide +kernel
theorem dX8_findFitting_114 : decode cX8_findFitting 114 = .ok (.iconst 1, 1) := by decide +kernel
theorem dX8_findFitting_115 : decode cX8_findFitting 115 = .ok (.iadd, 1) := by decide +kernel
theorem dX8_findFitting_116 : decode cX8_findFitting 116 = .ok (.putfield 137, 3) := by decide +kernel
theorem dX8_findFitting_119 : decode cX8_findFitting 119 = .ok (.iinc 4 1, 3) := by decide +kernel
theorem dX8_findFitting_122 : decode cX8_findFitting 122 = .ok (.goto (-104), 3) := by decide +kernel
theorem dX8_findFitting_125 : decode cX8_findFitting 125 = .ok (.iinc 3 1, 3) := by decide +kernel
theorem dX8_findFitting_128 : decode cX8_findFitting 128 = .ok (.goto (-121), 3) := by decide +kernel
theorem dX8_findFitting_131 : decode cX8_findFitting 131 = .ok (.return_, 1) := by decide +kernel
theorem dX8_servesAll_0 : decode cX8_servesAll 0 = .ok (.iconst 1, 1) := by decide +kernel
theorem dX8_servesAll_1 : decode cX8_servesAll 1 = .ok (.istore_n 2, 1) := by decide +kernel
theorem dX8_servesAll_2 : decode cX8_servesAll 2 = .ok (.iconst 0, 1) := by decide +kernel
theorem dX8_servesAll_3 : decode cX8_servesAll 3 = .ok (.istore_n 3, 1) := by decide +kernel
theorem dX8_servesAll_4 : decode cX8_servesAll 4 = .ok (.iload_n 3, 1) := by decide +kernel
theorem dX8_servesAll_5 : decode cX8_servesAll 5 = .ok (.aload_n 0, 1) := by decide +kernel
theorem dX8_servesAll_6 : decode cX8_servesAll 6 = .ok (.getfield 137, 3) := by decide +kernel
theorem dX8_servesAll_9 : decode cX8_servesAll 9 = .ok (.if_icmp .ge 30, 3) := by decide +kernel
theorem dX8_servesAll_12 : decode cX8_servesAll 12 = .ok (.iload_n 2, 1) := by decide +kernel
theorem dX8_servesAll_13 : decode cX8_servesAll 13 = .ok (.ifCond .eq 18, 3) := by decide +kernel
theorem dX8_servesAll_16 : decode cX8_servesAll 16 = .ok (.aload_n 0, 1) := by decide +kernel
theorem dX8_servesAll_17 : decode cX8_servesAll 17 = .ok (.getfield 37, 3) := by decide +kernel
theorem dX8_servesAll_20 : decode cX8_servesAll 20 = .ok (.iload_n 3, 1) := by decide +kernel
theorem dX8_servesAll_21 : decode cX8_servesAll 21 = .ok (.iaload, 1) := by decide +kernel
theorem dX8_servesAll_22 : decode cX8_servesAll 22 = .ok (.iload_n 1, 1) := by decide +kernel
theorem dX8_servesAll_23 : decode cX8_servesAll 23 = .ok (.iand, 1) := by decide +kernel
theorem dX8_servesAll_24 : decode cX8_servesAll 24 = .ok (.ifCond .eq 7, 3) := by decide +kernel
theorem dX8_servesAll_27 : decode cX8_servesAll 27 = .ok (.iconst 1, 1) := by decide +kernel
theorem dX8_servesAll_28 : decode cX8_servesAll 28 = .ok (.goto 4, 3) := by decide +kernel
theorem dX8_servesAll_31 : decode cX8_servesAll 31 = .ok (.iconst 0, 1) := by decide +kernel
theorem dX8_servesAll_32 : decode cX8_servesAll 32 = .ok (.istore_n 2, 1) := by decide +kernel
theorem dX8_servesAll_33 : decode cX8_servesAll 33 = .ok (.iinc 3 1, 3) := by decide +kernel
theorem dX8_servesAll_36 : decode cX8_servesAll 36 = .ok (.goto (-32), 3) := by decide +kernel
theorem dX8_servesAll_39 : decode cX8_servesAll 39 = .ok (.iload_n 2, 1) := by decide +kernel
theorem dX8_servesAll_40 : decode cX8_servesAll 40 = .ok (.ireturn, 1) := by decide +kernel
set_option maxRecDepth 20000 in
theorem ggX8_serves_X8_isLoad : GoodIn wsX8_serves wsX8_isLoad := goodIn_r _ [4, 5, 6, 7, 3, 8] (by decide +kernel) (by decide +kernel)
set_option maxRecDepth 20000 in
theorem gX8_serves_X8_isLoad : GoodIn wsX8_serves (va_wsS RX8 125 yX8_isLoad wsX8_isLoad) := goodIn_app (goodIn_of _ (by decide +kernel)) ggX8_serves_X8_isLoad
set_option maxRecDepth 20000 in
theorem ggX8_serves_X8_findFitting : GoodIn wsX8_serves wsX8_findFitting := goodIn_r _ [12, 13, 14, 15, 16, 17, 18, 19, 20, 21, 22, 3, 23, 24, 25, 26, 27, 28, 29, 30, 31, 32, 33, 34, 35, 36, 37, 38, 39, 40, 41, 42, 43, 44, 45, 46, 47, 48, 49, 50, 51, 52, 53, 58, 59, 60, 61, 62, 63, 64, 65, 66, 67, 68, 69, 70, 71, 72, 73, 74, 75, 76, 77, 78, 79, 80, 81, 82, 83, 84] (by decide +kernel) (by decide +kernel)
set_option maxRecDepth 20000 in
theorem gX8_serves_X8_findFitting : GoodIn wsX8_serves (wsV RX8 140 RX8 yX8_findFitting wsX8_findFitting) := goodIn_app (goodIn_of _ (by decide +kernel)) ggX8_serves_X8_findFitting
set_option maxRecDepth 20000 in
theorem ggX8_serves_X8_servesAll : GoodIn wsX8_serves wsX8_servesAll := goodIn_r _ [57, 13, 19, 58, 59, 60, 61, 62, 63, 64, 65, 66, 67, 68, 69, 70, 71, 72, 73, 74, 75, 76, 77, 78, 79, 80, 81, 82, 83, 84] (by decide +kernel) (by decide +kernel)
set_option maxRecDepth 20000 in
theorem gX8_serves_X8_servesAll : GoodIn wsX8_serves (wsV RX8 144 RX8 yX8_servesAll wsX8_servesAll) := goodIn_app (goodIn_of _ (by decide +kernel)) ggX8_serves_X8_servesAll
theorem dX8_serves_0 : decode cX8_serves 0 = .ok (.iload_n 2, 1) := by decide +kernel
theorem dX8_serves_1 : decode cX8_serves 1 = .ok (.invokestatic 125, 3) := by decide +kernel
theorem dX8_serves_4 : decode cX8_serves 4 = .ok (.ifCond .eq 10, 3) := by decide +kernel
theorem dX8_serves_7 : decode cX8_serves 7 = .ok (.iload_n 3, 1) := by decide +kernel
theorem dX8_serves_8 : decode cX8_serves 8 = .ok (.invokestatic 125, 3) := by decide +kernel
theorem dX8_serves_11 : decode cX8_serves 11 = .ok (.ifCond .ne 6, 3) := by decide +kernel
theorem dX8_serves_14 : decode cX8_serves 14 = .ok (.bipush (-102), 2) := by decide +kernel
theorem dX8_serves_16 : decode cX8_serves 16 = .ok (.ireturn, 1) := by decide +kernel
theorem dX8_serves_17 : decode cX8_serves 17 = .ok (.aload_n 0, 1) := by decide +kernel
theorem dX8_serves_18 : decode cX8_serves 18 = .ok (.iload_n 2, 1) := by decide +kernel
theorem dX8_serves_19 : decode cX8_serves 19 = .ok (.iload_n 3, 1) := by decide +kernel
theorem dX8_serves_20 : decode cX8_serves 20 = .ok (.invokevirtual 140, 3) := by decide +kernel
theorem dX8_serves_23 : decode cX8_serves 23 = .ok (.aload_n 0, 1) := by decide +kernel
theorem dX8_serves_24 : decode cX8_serves 24 = .ok (.iload_n 1, 1) := by decide +kernel
theorem dX8_serves_25 : decode cX8_serves 25 = .ok (.invokevirtual 144, 3) := by decide +kernel
theorem dX8_serves_28 : decode cX8_serves 28 = .ok (.ifCond .eq 7, 3) := by decide +kernel
theorem dX8_serves_31 : decode cX8_serves 31 = .ok (.iconst 1, 1) := by decide +kernel
theorem dX8_serves_32 : decode cX8_serves 32 = .ok (.goto 4, 3) := by decide +kernel
theorem dX8_serves_35 : decode cX8_serves 35 = .ok (.iconst 0, 1) := by decide +kernel
theorem dX8_serves_36 : decode cX8_serves 36 = .ok (.ireturn, 1) := by decide +kernel
theorem dX8_many_0 : decode cX8_many 0 = .ok (.iconst 0, 1) := by decide +kernel
theorem dX8_many_1 : decode cX8_many 1 = .ok (.istore_n 1, 1) := by decide +kernel
theorem dX8_many_2 : decode cX8_many 2 = .ok (.iconst 0, 1) := by decide +kernel
theorem dX8_many_3 : decode cX8_many 3 = .ok (.istore_n 2, 1) := by decide +kernel
theorem dX8_many_4 : decode cX8_many 4 = .ok (.iload_n 2, 1) := by decide +kernel
theorem dX8_many_5 : decode cX8_many 5 = .ok (.bipush 8, 2) := by decide +kernel
theorem dX8_many_7 : decode cX8_many 7 = .ok (.if_icmp .ge 17, 3) := by decide +kernel
theorem dX8_many_10 : decode cX8_many 10 = .ok (.iload_n 1, 1) := by decide +kernel
theorem dX8_many_11 : decode cX8_many 11 = .ok (.iload_n 0, 1) := by decide +kernel
theorem dX8_many_12 : decode cX8_many 12 = .ok (.iload_n 2, 1) := by decide +kernel
theorem dX8_many_13 : decode cX8_many 13 = .ok (.ishr, 1) := by decide +kernel
theorem dX8_many_14 : decode cX8_many 14 = .ok (.iconst 1, 1) := by decide +kernel
theorem dX8_many_15 : decode cX8_many 15 = .ok (.iand, 1) := by decide +kernel
theorem dX8_many_16 : decode cX8_many 16 = .ok (.iadd, 1) := by decide +kernel
theorem dX8_many_17 : decode cX8_many 17 = .ok (.istore_n 1, 1) := by decide +kernel
theorem dX8_many_18 : decode cX8_many 18 = .ok (.iinc 2 1, 3) := by decide +kernel
theorem dX8_many_21 : decode cX8_many 21 = .ok (.goto (-17), 3) := by decide +kernel
theorem dX8_many_24 : decode cX8_many 24 = .ok (.iload_n 1, 1) := by decide +kernel
theorem dX8_many_25 : decode cX8_many 25 = .ok (.ireturn, 1) := by decide +kernel
set_option maxRecDepth 20000 in
theorem ggX8_fewest_X8_isLoad : GoodIn wsX8_fewest wsX8_isLoad := goodIn_r _ [5, 6, 7, 8, 4, 9] (by decide +kernel) (by decide +kernel)
set_option maxRecDepth 20000 in
theorem gX8_fewest_X8_isLoad : GoodIn wsX8_fewest (va_wsS RX8 125 yX8_isLoad wsX8_isLoad) := goodIn_app (goodIn_of _ (by decide +kernel)) ggX8_fewest_X8_isLoad
set_option maxRecDepth 20000 in
theorem ggX8_fewest_X8_findFitting : GoodIn wsX8_fewest wsX8_findFitting := goodIn_r _ [13, 14, 15, 16, 17, 1, 18, 19, 20, 21, 22, 4, 23, 24, 25, 26, 27, 28, 29, 30, 31, 32, 33, 34, 35, 36, 37, 38, 39, 40, 41, 42, 43, 44, 45, 46, 47, 48, 49, 50, 51, 52, 53, 61, 62, 63, 64, 65, 66, 67, 68, 69, 70, 71, 72, 73, 74, 75, 76, 77, 78, 79, 80, 81, 82, 83, 84, 85, 86, 87] (by decide +kernel) (by decide +kernel)
set_option maxRecDepth 20000 in
theorem gX8_fewest_X8_findFitting : GoodIn wsX8_fewest (wsV RX8 140 RX8 yX8_findFitting wsX8_findFitting) := goodIn_app (goodIn_of _ (by decide +kernel)) ggX8_fewest_X8_findFitting
set_option maxRecDepth 20000 in
theorem ggX8_fewest_X8_servesAll : GoodIn wsX8_fewest wsX8_servesAll := goodIn_r _ [57, 14, 19, 61, 62, 63, 64, 65, 66, 67, 68, 69, 70, 71, 72, 73, 74, 75, 76, 77, 78, 79, 80, 81, 82, 83, 84, 85, 86, 87] (by decide +kernel) (by decide +kernel)
set_option maxRecDepth 20000 in
theorem gX8_fewest_X8_servesAll : GoodIn wsX8_fewest (wsV RX8 144 RX8 yX8_servesAll wsX8_servesAll) := goodIn_app (goodIn_of _ (by decide +kernel)) ggX8_fewest_X8_servesAll
set_option maxRecDepth 20000 in
theorem ggX8_fewest_X8_many : GoodIn wsX8_fewest wsX8_many := goodIn_r _ [60] (by decide +kernel) (by decide +kernel)
set_option maxRecDepth 20000 in
theorem gX8_fewest_X8_many : GoodIn wsX8_fewest (va_wsS RX8 147 yX8_many wsX8_many) := goodIn_app (goodIn_of _ (by decide +kernel)) ggX8_fewest_X8_many
theorem dX8_fewest_0 : decode cX8_fewest 0 = .ok (.iload_n 1, 1) := by decide +kernel
theorem dX8_fewest_1 : decode cX8_fewest 1 = .ok (.invokestatic 125, 3) := by decide +kernel
theorem dX8_fewest_4 : decode cX8_fewest 4 = .ok (.ifCond .eq 10, 3) := by decide +kernel
theorem dX8_fewest_7 : decode cX8_fewest 7 = .ok (.iload_n 2, 1) := by decide +kernel
theorem dX8_fewest_8 : decode cX8_fewest 8 = .ok (.invokestatic 125, 3) := by decide +kernel
theorem dX8_fewest_11 : decode cX8_fewest 11 = .ok (.ifCond .ne 6, 3) := by decide +kernel
theorem dX8_fewest_14 : decode cX8_fewest 14 = .ok (.bipush (-102), 2) := by decide +kernel
theorem dX8_fewest_16 : decode cX8_fewest 16 = .ok (.ireturn, 1) := by decide +kernel
theorem dX8_fewest_17 : decode cX8_fewest 17 = .ok (.aload_n 0, 1) := by decide +kernel
theorem dX8_fewest_18 : decode cX8_fewest 18 = .ok (.iload_n 1, 1) := by decide +kernel
theorem dX8_fewest_19 : decode cX8_fewest 19 = .ok (.iload_n 2, 1) := by decide +kernel
theorem dX8_fewest_20 : decode cX8_fewest 20 = .ok (.invokevirtual 140, 3) := by decide +kernel
theorem dX8_fewest_23 : decode cX8_fewest 23 = .ok (.iconst (-1), 1) := by decide +kernel
theorem dX8_fewest_24 : decode cX8_fewest 24 = .ok (.istore_n 3, 1) := by decide +kernel
theorem dX8_fewest_25 : decode cX8_fewest 25 = .ok (.iconst 0, 1) := by decide +kernel
theorem dX8_fewest_26 : decode cX8_fewest 26 = .ok (.istore 4, 2) := by decide +kernel
theorem dX8_fewest_28 : decode cX8_fewest 28 = .ok (.iload 4, 2) := by decide +kernel
theorem dX8_fewest_30 : decode cX8_fewest 30 = .ok (.iconst 1, 1) := by decide +kernel
theorem dX8_fewest_31 : decode cX8_fewest 31 = .ok (.aload_n 0, 1) := by decide +kernel
theorem dX8_fewest_32 : decode cX8_fewest 32 = .ok (.getfield 88, 3) := by decide +kernel
theorem dX8_fewest_35 : decode cX8_fewest 35 = .ok (.ishl, 1) := by decide +kernel
theorem dX8_fewest_36 : decode cX8_fewest 36 = .ok (.if_icmp .ge 38, 3) := by decide +kernel
theorem dX8_fewest_39 : decode cX8_fewest 39 = .ok (.aload_n 0, 1) := by decide +kernel
theorem dX8_fewest_40 : decode cX8_fewest 40 = .ok (.iload 4, 2) := by decide +kernel
theorem dX8_fewest_42 : decode cX8_fewest 42 = .ok (.invokevirtual 144, 3) := by decide +kernel
theorem dX8_fewest_45 : decode cX8_fewest 45 = .ok (.ifCond .eq 23, 3) := by decide +kernel
theorem dX8_fewest_48 : decode cX8_fewest 48 = .ok (.iload_n 3, 1) := by decide +kernel
theorem dX8_fewest_49 : decode cX8_fewest 49 = .ok (.iconst (-1), 1) := by decide +kernel
theorem dX8_fewest_50 : decode cX8_fewest 50 = .ok (.if_icmp .eq 15, 3) := by decide +kernel
theorem dX8_fewest_53 : decode cX8_fewest 53 = .ok (.iload 4, 2) := by decide +kernel
theorem dX8_fewest_55 : decode cX8_fewest 55 = .ok (.invokestatic 147, 3) := by decide +kernel
theorem dX8_fewest_58 : decode cX8_fewest 58 = .ok (.iload_n 3, 1) := by decide +kernel
theorem dX8_fewest_59 : decode cX8_fewest 59 = .ok (.invokestatic 147, 3) := by decide +kernel
theorem dX8_fewest_62 : decode cX8_fewest 62 = .ok (.if_icmp .ge 6, 3) := by decide +kernel
theorem dX8_fewest_65 : decode cX8_fewest 65 = .ok (.iload 4, 2) := by decide +kernel
theorem dX8_fewest_67 : decode cX8_fewest 67 = .ok (.istore_n 3, 1) := by decide +kernel
theorem dX8_fewest_68 : decode cX8_fewest 68 = .ok (.iinc 4 1, 3) := by decide +kernel
theorem dX8_fewest_71 : decode cX8_fewest 71 = .ok (.goto (-43), 3) := by decide +kernel
theorem dX8_fewest_74 : decode cX8_fewest 74 = .ok (.iload_n 3, 1) := by decide +kernel
theorem dX8_fewest_75 : decode cX8_fewest 75 = .ok (.ireturn, 1) := by decide +kernel
set_option maxRecDepth 20000 in
theorem ggX8_isHide_X8_in : GoodIn wsX8_isHide wsX8_in := goodIn_r _ [5] (by decide +kernel) (by decide +kernel)
set_option maxRecDepth 20000 in
theorem gX8_isHide_X8_in : GoodIn wsX8_isHide (va_wsS RX8 58 yX8_in wsX8_in) := goodIn_app (goodIn_of _ (by decide +kernel)) ggX8_isHide_X8_in
theorem dX8_isHide_0 : decode cX8_isHide 0 = .ok (.iload_n 1, 1) := by decide +kernel
theorem dX8_isHide_1 : decode cX8_isHide 1 = .ok (.i2l, 1) := by decide +kernel
theorem dX8_isHide_2 : decode cX8_isHide 2 = .ok (.lconst 0, 1) := by decide +kernel
theorem dX8_isHide_3 : decode cX8_isHide 3 = .ok (.aload_n 0, 1) := by decide +kernel
theorem dX8_isHide_4 : decode cX8_isHide 4 = .ok (.getfield 151, 3) := by decide +kernel
theorem dX8_isHide_7 : decode cX8_isHide 7 = .ok (.iconst 1, 1) := by decide +kernel
theorem dX8_isHide_8 : decode cX8_isHide 8 = .ok (.isub, 1) := by decide +kernel
theorem dX8_isHide_9 : decode cX8_isHide 9 = .ok (.i2l, 1) := by decide +kernel
theorem dX8_isHide_10 : decode cX8_isHide 10 = .ok (.invokestatic 58, 3) := by decide +kernel
theorem dX8_isHide_13 : decode cX8_isHide 13 = .ok (.ireturn, 1) := by decide +kernel
set_option maxRecDepth 20000 in
theorem ggX8_isPatch_X8_in : GoodIn wsX8_isPatch wsX8_in := goodIn_r _ [6] (by decide +kernel) (by decide +kernel)
set_option maxRecDepth 20000 in
theorem gX8_isPatch_X8_in : GoodIn wsX8_isPatch (va_wsS RX8 58 yX8_in wsX8_in) := goodIn_app (goodIn_of _ (by decide +kernel)) ggX8_isPatch_X8_in
theorem dX8_isPatch_0 : decode cX8_isPatch 0 = .ok (.iload_n 0, 1) := by decide +kernel
theorem dX8_isPatch_1 : decode cX8_isPatch 1 = .ok (.i2l, 1) := by decide +kernel
theorem dX8_isPatch_2 : decode cX8_isPatch 2 = .ok (.lconst 0, 1) := by decide +kernel
theorem dX8_isPatch_3 : decode cX8_isPatch 3 = .ok (.ldc2_w 154, 3) := by decide +kernel
theorem dX8_isPatch_6 : decode cX8_isPatch 6 = .ok (.invokestatic 58, 3) := by decide +kernel
theorem dX8_isPatch_9 : decode cX8_isPatch 9 = .ok (.ifCond .eq 19, 3) := by decide +kernel
theorem dX8_isPatch_12 : decode cX8_isPatch 12 = .ok (.iload_n 1, 1) := by decide +kernel
theorem dX8_isPatch_13 : decode cX8_isPatch 13 = .ok (.i2l, 1) := by decide +kernel
theorem dX8_isPatch_14 : decode cX8_isPatch 14 = .ok (.lconst 0, 1) := by decide +kernel
theorem dX8_isPatch_15 : decode cX8_isPatch 15 = .ok (.ldc2_w 156, 3) := by decide +kernel
theorem dX8_isPatch_18 : decode cX8_isPatch 18 = .ok (.invokestatic 58, 3) := by decide +kernel
theorem dX8_isPatch_21 : decode cX8_isPatch 21 = .ok (.ifCond .eq 7, 3) := by decide +kernel
theorem dX8_isPatch_24 : decode cX8_isPatch 24 = .ok (.iconst 1, 1) := by decide +kernel
theorem dX8_isPatch_25 : decode cX8_isPatch 25 = .ok (.goto 4, 3) := by decide +kernel
theorem dX8_isPatch_28 : decode cX8_isPatch 28 = .ok (.iconst 0, 1) := by decide +kernel
theorem dX8_isPatch_29 : decode cX8_isPatch 29 = .ok (.ireturn, 1) := by decide +kernel
theorem dX8_hide_0 : decode cX8_hide 0 = .ok (.aload_n 0, 1) := by decide +kernel
theorem dX8_hide_1 : decode cX8_hide 1 = .ok (.getfield 151, 3) := by decide +kernel
theorem dX8_hide_4 : decode cX8_hide 4 = .ok (.iconst 4, 1) := by decide +kernel
theorem dX8_hide_5 : decode cX8_hide 5 = .ok (.if_icmp .ne 6, 3) := by decide +kernel
theorem dX8_hide_8 : decode cX8_hide 8 = .ok (.bipush (-104), 2) := by decide +kernel
theorem dX8_hide_10 : decode cX8_hide 10 = .ok (.ireturn, 1) := by decide +kernel
theorem dX8_hide_11 : decode cX8_hide 11 = .ok (.aload_n 0, 1) := by decide +kernel
theorem dX8_hide_12 : decode cX8_hide 12 = .ok (.dup, 1) := by decide +kernel
theorem dX8_hide_13 : decode cX8_hide 13 = .ok (.getfield 151, 3) := by decide +kernel
theorem dX8_hide_16 : decode cX8_hide 16 = .ok (.iconst 1, 1) := by decide +kernel
theorem dX8_hide_17 : decode cX8_hide 17 = .ok (.iadd, 1) := by decide +kernel
theorem dX8_hide_18 : decode cX8_hide 18 = .ok (.putfield 151, 3) := by decide +kernel
theorem dX8_hide_21 : decode cX8_hide 21 = .ok (.aload_n 0, 1) := by decide +kernel
theorem dX8_hide_22 : decode cX8_hide 22 = .ok (.getfield 151, 3) := by decide +kernel
theorem dX8_hide_25 : decode cX8_hide 25 = .ok (.iconst 1, 1) := by decide +kernel
theorem dX8_hide_26 : decode cX8_hide 26 = .ok (.isub, 1) := by decide +kernel
theorem dX8_hide_27 : decode cX8_hide 27 = .ok (.ireturn, 1) := by decide +kernel
set_option maxRecDepth 20000 in
theorem ggX8_flaw_X8_isHide : GoodIn wsX8_flaw wsX8_isHide := goodIn_r _ [6, 7, 8, 9, 5, 10, 16, 17, 18, 19, 20, 21, 22, 23, 24, 25, 26, 27, 28, 29, 30, 31, 32, 33, 34, 35, 36, 37, 38, 39, 40, 41, 42] (by decide +kernel) (by decide +kernel)
set_option maxRecDepth 20000 in
theorem gX8_flaw_X8_isHide : GoodIn wsX8_flaw (wsV RX8 158 RX8 yX8_isHide wsX8_isHide) := goodIn_app (goodIn_of _ (by decide +kernel)) ggX8_flaw_X8_isHide
set_option maxRecDepth 20000 in
theorem ggX8_flaw_X8_isPatch : GoodIn wsX8_flaw wsX8_isPatch := goodIn_r _ [13, 14, 15, 8, 9, 5, 10] (by decide +kernel) (by decide +kernel)
set_option maxRecDepth 20000 in
theorem gX8_flaw_X8_isPatch : GoodIn wsX8_flaw (va_wsS RX8 161 yX8_isPatch wsX8_isPatch) := goodIn_app (goodIn_of _ (by decide +kernel)) ggX8_flaw_X8_isPatch
theorem dX8_flaw_0 : decode cX8_flaw 0 = .ok (.aload_n 0, 1) := by decide +kernel
theorem dX8_flaw_1 : decode cX8_flaw 1 = .ok (.iload_n 1, 1) := by decide +kernel
theorem dX8_flaw_2 : decode cX8_flaw 2 = .ok (.invokevirtual 158, 3) := by decide +kernel
theorem dX8_flaw_5 : decode cX8_flaw 5 = .ok (.ifCond .eq 11, 3) := by decide +kernel
theorem dX8_flaw_8 : decode cX8_flaw 8 = .ok (.iload_n 2, 1) := by decide +kernel
theorem dX8_flaw_9 : decode cX8_flaw 9 = .ok (.iload_n 3, 1) := by decide +kernel
theorem dX8_flaw_10 : decode cX8_flaw 10 = .ok (.invokestatic 161, 3) := by decide +kernel
theorem dX8_flaw_13 : decode cX8_flaw 13 = .ok (.ifCond .ne 6, 3) := by decide +kernel
theorem dX8_flaw_16 : decode cX8_flaw 16 = .ok (.bipush (-101), 2) := by decide +kernel
theorem dX8_flaw_18 : decode cX8_flaw 18 = .ok (.ireturn, 1) := by decide +kernel
theorem dX8_flaw_19 : decode cX8_flaw 19 = .ok (.sipush 192, 3) := by decide +kernel
theorem dX8_flaw_22 : decode cX8_flaw 22 = .ok (.iload_n 1, 1) := by decide +kernel
theorem dX8_flaw_23 : decode cX8_flaw 23 = .ok (.imul, 1) := by decide +kernel
theorem dX8_flaw_24 : decode cX8_flaw 24 = .ok (.bipush 16, 2) := by decide +kernel
theorem dX8_flaw_26 : decode cX8_flaw 26 = .ok (.iload_n 3, 1) := by decide +kernel
theorem dX8_flaw_27 : decode cX8_flaw 27 = .ok (.imul, 1) := by decide +kernel
theorem dX8_flaw_28 : decode cX8_flaw 28 = .ok (.iadd, 1) := by decide +kernel
theorem dX8_flaw_29 : decode cX8_flaw 29 = .ok (.iload_n 2, 1) := by decide +kernel
theorem dX8_flaw_30 : decode cX8_flaw 30 = .ok (.iadd, 1) := by decide +kernel
theorem dX8_flaw_31 : decode cX8_flaw 31 = .ok (.istore 4, 2) := by decide +kernel
theorem dX8_flaw_33 : decode cX8_flaw 33 = .ok (.aload_n 0, 1) := by decide +kernel
theorem dX8_flaw_34 : decode cX8_flaw 34 = .ok (.getfield 40, 3) := by decide +kernel
theorem dX8_flaw_37 : decode cX8_flaw 37 = .ok (.iload 4, 2) := by decide +kernel
theorem dX8_flaw_39 : decode cX8_flaw 39 = .ok (.iaload, 1) := by decide +kernel
theorem dX8_flaw_40 : decode cX8_flaw 40 = .ok (.iconst 2, 1) := by decide +kernel
theorem dX8_flaw_41 : decode cX8_flaw 41 = .ok (.if_icmp .ne 6, 3) := by decide +kernel
theorem dX8_flaw_44 : decode cX8_flaw 44 = .ok (.bipush (-103), 2) := by decide +kernel
theorem dX8_flaw_46 : decode cX8_flaw 46 = .ok (.ireturn, 1) := by decide +kernel
theorem dX8_flaw_47 : decode cX8_flaw 47 = .ok (.aload_n 0, 1) := by decide +kernel
theorem dX8_flaw_48 : decode cX8_flaw 48 = .ok (.getfield 40, 3) := by decide +kernel
theorem dX8_flaw_51 : decode cX8_flaw 51 = .ok (.iload 4, 2) := by decide +kernel
theorem dX8_flaw_53 : decode cX8_flaw 53 = .ok (.iaload, 1) := by decide +kernel
theorem dX8_flaw_54 : decode cX8_flaw 54 = .ok (.istore 5, 2) := by decide +kernel
theorem dX8_flaw_56 : decode cX8_flaw 56 = .ok (.aload_n 0, 1) := by decide +kernel
theorem dX8_flaw_57 : decode cX8_flaw 57 = .ok (.getfield 40, 3) := by decide +kernel
theorem dX8_flaw_60 : decode cX8_flaw 60 = .ok (.iload 4, 2) := by decide +kernel
theorem dX8_flaw_62 : decode cX8_flaw 62 = .ok (.iconst 1, 1) := by decide +kernel
theorem dX8_flaw_63 : decode cX8_flaw 63 = .ok (.iastore, 1) := by decide +kernel
theorem dX8_flaw_64 : decode cX8_flaw 64 = .ok (.iload 5, 2) := by decide +kernel
theorem dX8_flaw_66 : decode cX8_flaw 66 = .ok (.ireturn, 1) := by decide +kernel
theorem dX8_fill_0 : decode cX8_fill 0 = .ok (.iconst 0, 1) := by decide +kernel
theorem dX8_fill_1 : decode cX8_fill 1 = .ok (.istore 6, 2) := by decide +kernel
theorem dX8_fill_3 : decode cX8_fill 3 = .ok (.iload 6, 2) := by decide +kernel
theorem dX8_fill_5 : decode cX8_fill 5 = .ok (.iload_n 3, 1) := by decide +kernel
theorem dX8_fill_6 : decode cX8_fill 6 = .ok (.iload 4, 2) := by decide +kernel
theorem dX8_fill_8 : decode cX8_fill 8 = .ok (.imul, 1) := by decide +kernel
theorem dX8_fill_9 : decode cX8_fill 9 = .ok (.if_icmp .ge 36, 3) := by decide +kernel
theorem dX8_fill_12 : decode cX8_fill 12 = .ok (.aload_n 0, 1) := by decide +kernel
theorem dX8_fill_13 : decode cX8_fill 13 = .ok (.getfield 40, 3) := by decide +kernel
theorem dX8_fill_16 : decode cX8_fill 16 = .ok (.sipush 192, 3) := by decide +kernel
theorem dX8_fill_19 : decode cX8_fill 19 = .ok (.iload_n 1, 1) := by decide +kernel
theorem dX8_fill_20 : decode cX8_fill 20 = .ok (.imul, 1) := by decide +kernel
theorem dX8_fill_21 : decode cX8_fill 21 = .ok (.iload_n 2, 1) := by decide +kernel
theorem dX8_fill_22 : decode cX8_fill 22 = .ok (.iadd, 1) := by decide +kernel
theorem dX8_fill_23 : decode cX8_fill 23 = .ok (.bipush 16, 2) := by decide +kernel
theorem dX8_fill_25 : decode cX8_fill 25 = .ok (.iload 6, 2) := by decide +kernel
theorem dX8_fill_27 : decode cX8_fill 27 = .ok (.iload_n 3, 1) := by decide +kernel
theorem dX8_fill_28 : decode cX8_fill 28 = .ok (.idiv, 1) := by decide +kernel
theorem dX8_fill_29 : decode cX8_fill 29 = .ok (.imul, 1) := by decide +kernel
theorem dX8_fill_30 : decode cX8_fill 30 = .ok (.iadd, 1) := by decide +kernel
theorem dX8_fill_31 : decode cX8_fill 31 = .ok (.iload 6, 2) := by decide +kernel
theorem dX8_fill_33 : decode cX8_fill 33 = .ok (.iload_n 3, 1) := by decide +kernel
theorem dX8_fill_34 : decode cX8_fill 34 = .ok (.irem, 1) := by decide +kernel
theorem dX8_fill_35 : decode cX8_fill 35 = .ok (.iadd, 1) := by decide +kernel
theorem dX8_fill_36 : decode cX8_fill 36 = .ok (.iload 5, 2) := by decide +kernel
theorem dX8_fill_38 : decode cX8_fill 38 = .ok (.iastore, 1) := by decide +kernel
theorem dX8_fill_39 : decode cX8_fill 39 = .ok (.iinc 6 1, 3) := by decide +kernel
theorem dX8_fill_42 : decode cX8_fill 42 = .ok (.goto (-39), 3) := by decide +kernel
theorem dX8_fill_45 : decode cX8_fill 45 = .ok (.return_, 1) := by decide +kernel
theorem dX8_room_0 : decode cX8_room 0 = .ok (.iconst 0, 1) := by decide +kernel
theorem dX8_room_1 : decode cX8_room 1 = .ok (.istore 4, 2) := by decide +kernel
theorem dX8_room_3 : decode cX8_room 3 = .ok (.iload 4, 2) := by decide +kernel
theorem dX8_room_5 : decode cX8_room 5 = .ok (.iload_n 3, 1) := by decide +kernel
theorem dX8_room_6 : decode cX8_room 6 = .ok (.iadd, 1) := by decide +kernel
theorem dX8_room_7 : decode cX8_room 7 = .ok (.bipush 12, 2) := by decide +kernel
theorem dX8_room_9 : decode cX8_room 9 = .ok (.if_icmp .gt 105, 3) := by decide +kernel
theorem dX8_room_12 : decode cX8_room 12 = .ok (.iconst 0, 1) := by decide +kernel
theorem dX8_room_13 : decode cX8_room 13 = .ok (.istore 5, 2) := by decide +kernel
theorem dX8_room_15 : decode cX8_room 15 = .ok (.iload 5, 2) := by decide +kernel
theorem dX8_room_17 : decode cX8_room 17 = .ok (.iload_n 2, 1) := by decide +kernel
theorem dX8_room_18 : decode cX8_room 18 = .ok (.iadd, 1) := by decide +kernel
theorem dX8_room_19 : decode cX8_room 19 = .ok (.bipush 16, 2) := by decide +kernel
theorem dX8_room_21 : decode cX8_room 21 = .ok (.if_icmp .gt 87, 3) := by decide +kernel
theorem dX8_room_24 : decode cX8_room 24 = .ok (.iconst 1, 1) := by decide +kernel
theorem dX8_room_25 : decode cX8_room 25 = .ok (.istore 6, 2) := by decide +kernel
theorem dX8_room_27 : decode cX8_room 27 = .ok (.iconst 0, 1) := by decide +kernel
theorem dX8_room_28 : decode cX8_room 28 = .ok (.istore 7, 2) := by decide +kernel
theorem dX8_room_30 : decode cX8_room 30 = .ok (.iload 7, 2) := by decide +kernel
theorem dX8_room_32 : decode cX8_room 32 = .ok (.iload_n 2, 1) := by decide +kernel
theorem dX8_room_33 : decode cX8_room 33 = .ok (.iload_n 3, 1) := by decide +kernel
theorem dX8_room_34 : decode cX8_room 34 = .ok (.imul, 1) := by decide +kernel
theorem dX8_room_35 : decode cX8_room 35 = .ok (.if_icmp .ge 53, 3) := by decide +kernel
theorem dX8_room_38 : decode cX8_room 38 = .ok (.iload 6, 2) := by decide +kernel
theorem dX8_room_40 : decode cX8_room 40 = .ok (.ifCond .eq 48, 3) := by decide +kernel
theorem dX8_room_43 : decode cX8_room 43 = .ok (.aload_n 0, 1) := by decide +kernel
theorem dX8_room_44 : decode cX8_room 44 = .ok (.getfield 40, 3) := by decide +kernel
theorem dX8_room_47 : decode cX8_room 47 = .ok (.sipush 192, 3) := by decide +kernel
theorem dX8_room_50 : decode cX8_room 50 = .ok (.iload_n 1, 1) := by decide +kernel
theorem dX8_room_51 : decode cX8_room 51 = .ok (.imul, 1) := by decide +kernel
theorem dX8_room_52 : decode cX8_room 52 = .ok (.bipush 16, 2) := by decide +kernel
theorem dX8_room_54 : decode cX8_room 54 = .ok (.iload 4, 2) := by decide +kernel
theorem dX8_room_56 : decode cX8_room 56 = .ok (.iload 7, 2) := by decide +kernel
theorem dX8_room_58 : decode cX8_room 58 = .ok (.iload_n 2, 1) := by decide +kernel
theorem dX8_room_59 : decode cX8_room 59 = .ok (.idiv, 1) := by decide +kernel
theorem dX8_room_60 : decode cX8_room 60 = .ok (.iadd, 1) := by decide +kernel
theorem dX8_room_61 : decode cX8_room 61 = .ok (.imul, 1) := by decide +kernel
theorem dX8_room_62 : decode cX8_room 62 = .ok (.iadd, 1) := by decide +kernel
theorem dX8_room_63 : decode cX8_room 63 = .ok (.iload 5, 2) := by decide +kernel
theorem dX8_room_65 : decode cX8_room 65 = .ok (.iadd, 1) := by decide +kernel
theorem dX8_room_66 : decode cX8_room 66 = .ok (.iload 7, 2) := by decide +kernel
theorem dX8_room_68 : decode cX8_room 68 = .ok (.iload_n 2, 1) := by decide +kernel
theorem dX8_room_69 : decode cX8_room 69 = .ok (.irem, 1) := by decide +kernel
theorem dX8_room_70 : decode cX8_room 70 = .ok (.iadd, 1) := by decide +kernel
theorem dX8_room_71 : decode cX8_room 71 = .ok (.iaload, 1) := by decide +kernel
theorem dX8_room_72 : decode cX8_room 72 = .ok (.ifCond .ne 7, 3) := by decide +kernel
theorem dX8_room_75 : decode cX8_room 75 = .ok (.iconst 1, 1) := by decide +kernel
theorem dX8_room_76 : decode cX8_room 76 = .ok (.goto 4, 3) := by decide +kernel
theorem dX8_room_79 : decode cX8_room 79 = .ok (.iconst 0, 1) := by decide +kernel
theorem dX8_room_80 : decode cX8_room 80 = .ok (.istore 6, 2) := by decide +kernel
theorem dX8_room_82 : decode cX8_room 82 = .ok (.iinc 7 1, 3) := by decide +kernel
theorem dX8_room_85 : decode cX8_room 85 = .ok (.goto (-55), 3) := by decide +kernel
theorem dX8_room_88 : decode cX8_room 88 = .ok (.iload 6, 2) := by decide +kernel
theorem dX8_room_90 : decode cX8_room 90 = .ok (.ifCond .eq 12, 3) := by decide +kernel
theorem dX8_room_93 : decode cX8_room 93 = .ok (.bipush 16, 2) := by decide +kernel
theorem dX8_room_95 : decode cX8_room 95 = .ok (.iload 4, 2) := by decide +kernel
theorem dX8_room_97 : decode cX8_room 97 = .ok (.imul, 1) := by decide +kernel
theorem dX8_room_98 : decode cX8_room 98 = .ok (.iload 5, 2) := by decide +kernel
theorem dX8_room_100 : decode cX8_room 100 = .ok (.iadd, 1) := by decide +kernel
theorem dX8_room_101 : decode cX8_room 101 = .ok (.ireturn, 1) := by decide +kernel
theorem dX8_room_102 : decode cX8_room 102 = .ok (.iinc 5 1, 3) := by decide +kernel
theorem dX8_room_105 : decode cX8_room 105 = .ok (.goto (-90), 3) := by decide +kernel
theorem dX8_room_108 : decode cX8_room 108 = .ok (.iinc 4 1, 3) := by decide +kernel
theorem dX8_room_111 : decode cX8_room 111 = .ok (.goto (-108), 3) := by decide +kernel
theorem dX8_room_114 : decode cX8_room 114 = .ok (.iconst (-1), 1) := by decide +kernel
theorem dX8_room_115 : decode cX8_room 115 = .ok (.ireturn, 1) := by decide +kernel
set_option maxRecDepth 20000 in
theorem ggX8_cut_X8_isHide : GoodIn wsX8_cut wsX8_isHide := goodIn_r _ [7, 8, 9, 10, 6, 11, 21, 22, 23, 24, 25, 26, 27, 28, 29, 30, 31, 32, 33, 34, 35, 36, 37, 38, 39, 40, 41, 42, 43, 44, 45, 46, 47] (by decide +kernel) (by decide +kernel)
set_option maxRecDepth 20000 in
theorem gX8_cut_X8_isHide : GoodIn wsX8_cut (wsV RX8 158 RX8 yX8_isHide wsX8_isHide) := goodIn_app (goodIn_of _ (by decide +kernel)) ggX8_cut_X8_isHide
set_option maxRecDepth 20000 in
theorem ggX8_cut_X8_in : GoodIn wsX8_cut wsX8_in := goodIn_r _ [11] (by decide +kernel) (by decide +kernel)
set_option maxRecDepth 20000 in
theorem gX8_cut_X8_in : GoodIn wsX8_cut (va_wsS RX8 58 yX8_in wsX8_in) := goodIn_app (goodIn_of _ (by decide +kernel)) ggX8_cut_X8_in
set_option maxRecDepth 20000 in
theorem ggX8_cut_X8_room : GoodIn wsX8_cut wsX8_room := goodIn_r _ [15, 16, 21, 22, 23, 24, 25, 26, 27, 28, 29, 30, 31, 32, 33, 34, 35, 36, 37, 38, 39, 40, 41, 42, 43, 44, 45, 46, 47] (by decide +kernel) (by decide +kernel)
set_option maxRecDepth 20000 in
theorem gX8_cut_X8_room : GoodIn wsX8_cut (wsV RX8 168 RX8 yX8_room wsX8_room) := goodIn_app (goodIn_of _ (by decide +kernel)) ggX8_cut_X8_room
set_option maxRecDepth 20000 in
theorem ggX8_cut_X8_fill : GoodIn wsX8_cut wsX8_fill := goodIn_r _ [20, 16, 21, 22, 23, 24, 25, 26, 27, 28, 29, 30, 31, 32, 33, 34, 35, 36, 37, 38, 39, 40, 41, 42, 43, 44, 45, 46, 47] (by decide +kernel) (by decide +kernel)
set_option maxRecDepth 20000 in
theorem gX8_cut_X8_fill : GoodIn wsX8_cut (wsV RX8 172 RX8 yX8_fill wsX8_fill) := goodIn_app (goodIn_of _ (by decide +kernel)) ggX8_cut_X8_fill
theorem dX8_cut_0 : decode cX8_cut 0 = .ok (.aload_n 0, 1) := by decide +kernel
theorem dX8_cut_1 : decode cX8_cut 1 = .ok (.iload_n 1, 1) := by decide +kernel
theorem dX8_cut_2 : decode cX8_cut 2 = .ok (.invokevirtual 158, 3) := by decide +kernel
theorem dX8_cut_5 : decode cX8_cut 5 = .ok (.ifCond .ne 6, 3) := by decide +kernel
theorem dX8_cut_8 : decode cX8_cut 8 = .ok (.bipush (-101), 2) := by decide +kernel
theorem dX8_cut_10 : decode cX8_cut 10 = .ok (.ireturn, 1) := by decide +kernel
theorem dX8_cut_11 : decode cX8_cut 11 = .ok (.iload_n 2, 1) := by decide +kernel
theorem dX8_cut_12 : decode cX8_cut 12 = .ok (.i2l, 1) := by decide +kernel
theorem dX8_cut_13 : decode cX8_cut 13 = .ok (.lconst 1, 1) := by decide +kernel
theorem dX8_cut_14 : decode cX8_cut 14 = .ok (.ldc2_w 164, 3) := by decide +kernel
theorem dX8_cut_17 : decode cX8_cut 17 = .ok (.invokestatic 58, 3) := by decide +kernel
theorem dX8_cut_20 : decode cX8_cut 20 = .ok (.ifCond .eq 15, 3) := by decide +kernel
theorem dX8_cut_23 : decode cX8_cut 23 = .ok (.iload_n 3, 1) := by decide +kernel
theorem dX8_cut_24 : decode cX8_cut 24 = .ok (.i2l, 1) := by decide +kernel
theorem dX8_cut_25 : decode cX8_cut 25 = .ok (.lconst 1, 1) := by decide +kernel
theorem dX8_cut_26 : decode cX8_cut 26 = .ok (.ldc2_w 166, 3) := by decide +kernel
theorem dX8_cut_29 : decode cX8_cut 29 = .ok (.invokestatic 58, 3) := by decide +kernel
theorem dX8_cut_32 : decode cX8_cut 32 = .ok (.ifCond .ne 6, 3) := by decide +kernel
theorem dX8_cut_35 : decode cX8_cut 35 = .ok (.bipush (-102), 2) := by decide +kernel
theorem dX8_cut_37 : decode cX8_cut 37 = .ok (.ireturn, 1) := by decide +kernel
theorem dX8_cut_38 : decode cX8_cut 38 = .ok (.aload_n 0, 1) := by decide +kernel
theorem dX8_cut_39 : decode cX8_cut 39 = .ok (.iload_n 1, 1) := by decide +kernel
theorem dX8_cut_40 : decode cX8_cut 40 = .ok (.iload_n 2, 1) := by decide +kernel
theorem dX8_cut_41 : decode cX8_cut 41 = .ok (.iload_n 3, 1) := by decide +kernel
theorem dX8_cut_42 : decode cX8_cut 42 = .ok (.invokevirtual 168, 3) := by decide +kernel
theorem dX8_cut_45 : decode cX8_cut 45 = .ok (.istore 4, 2) := by decide +kernel
theorem dX8_cut_47 : decode cX8_cut 47 = .ok (.iload 4, 2) := by decide +kernel
theorem dX8_cut_49 : decode cX8_cut 49 = .ok (.iconst (-1), 1) := by decide +kernel
theorem dX8_cut_50 : decode cX8_cut 50 = .ok (.if_icmp .eq 13, 3) := by decide +kernel
theorem dX8_cut_53 : decode cX8_cut 53 = .ok (.aload_n 0, 1) := by decide +kernel
theorem dX8_cut_54 : decode cX8_cut 54 = .ok (.iload_n 1, 1) := by decide +kernel
theorem dX8_cut_55 : decode cX8_cut 55 = .ok (.iload 4, 2) := by decide +kernel
theorem dX8_cut_57 : decode cX8_cut 57 = .ok (.iload_n 2, 1) := by decide +kernel
theorem dX8_cut_58 : decode cX8_cut 58 = .ok (.iload_n 3, 1) := by decide +kernel
theorem dX8_cut_59 : decode cX8_cut 59 = .ok (.iconst 2, 1) := by decide +kernel
theorem dX8_cut_60 : decode cX8_cut 60 = .ok (.invokevirtual 172, 3) := by decide +kernel
theorem dX8_cut_63 : decode cX8_cut 63 = .ok (.iload 4, 2) := by decide +kernel
theorem dX8_cut_65 : decode cX8_cut 65 = .ok (.ireturn, 1) := by decide +kernel
set_option maxRecDepth 20000 in
theorem ggX8_pair_X8_isHide : GoodIn wsX8_pair wsX8_isHide := goodIn_r _ [7, 8, 9, 10, 6, 11, 21, 22, 23, 24, 25, 26, 27, 28, 29, 30, 31, 32, 33, 34, 35, 36, 37, 38, 39, 40, 41, 42, 43, 44, 45, 46, 47] (by decide +kernel) (by decide +kernel)
set_option maxRecDepth 20000 in
theorem gX8_pair_X8_isHide : GoodIn wsX8_pair (wsV RX8 158 RX8 yX8_isHide wsX8_isHide) := goodIn_app (goodIn_of _ (by decide +kernel)) ggX8_pair_X8_isHide
set_option maxRecDepth 20000 in
theorem ggX8_pair_X8_in : GoodIn wsX8_pair wsX8_in := goodIn_r _ [11] (by decide +kernel) (by decide +kernel)
set_option maxRecDepth 20000 in
theorem gX8_pair_X8_in : GoodIn wsX8_pair (va_wsS RX8 58 yX8_in wsX8_in) := goodIn_app (goodIn_of _ (by decide +kernel)) ggX8_pair_X8_in
set_option maxRecDepth 20000 in
theorem ggX8_pair_X8_room : GoodIn wsX8_pair wsX8_room := goodIn_r _ [15, 16, 21, 22, 23, 24, 25, 26, 27, 28, 29, 30, 31, 32, 33, 34, 35, 36, 37, 38, 39, 40, 41, 42, 43, 44, 45, 46, 47] (by decide +kernel) (by decide +kernel)
set_option maxRecDepth 20000 in
theorem gX8_pair_X8_room : GoodIn wsX8_pair (wsV RX8 168 RX8 yX8_room wsX8_room) := goodIn_app (goodIn_of _ (by decide +kernel)) ggX8_pair_X8_room
set_option maxRecDepth 20000 in
theorem ggX8_pair_X8_fill : GoodIn wsX8_pair wsX8_fill := goodIn_r _ [20, 16, 21, 22, 23, 24, 25, 26, 27, 28, 29, 30, 31, 32, 33, 34, 35, 36, 37, 38, 39, 40, 41, 42, 43, 44, 45, 46, 47] (by decide +kernel) (by decide +kernel)
set_option maxRecDepth 20000 in
theorem gX8_pair_X8_fill : GoodIn wsX8_pair (wsV RX8 172 RX8 yX8_fill wsX8_fill) := goodIn_app (goodIn_of _ (by decide +kernel)) ggX8_pair_X8_fill
theorem dX8_pair_0 : decode cX8_pair 0 = .ok (.aload_n 0, 1) := by decide +kernel
theorem dX8_pair_1 : decode cX8_pair 1 = .ok (.iload_n 1, 1) := by decide +kernel
theorem dX8_pair_2 : decode cX8_pair 2 = .ok (.invokevirtual 158, 3) := by decide +kernel
theorem dX8_pair_5 : decode cX8_pair 5 = .ok (.ifCond .ne 6, 3) := by decide +kernel
theorem dX8_pair_8 : decode cX8_pair 8 = .ok (.bipush (-101), 2) := by decide +kernel
theorem dX8_pair_10 : decode cX8_pair 10 = .ok (.ireturn, 1) := by decide +kernel
theorem dX8_pair_11 : decode cX8_pair 11 = .ok (.iload_n 2, 1) := by decide +kernel
theorem dX8_pair_12 : decode cX8_pair 12 = .ok (.i2l, 1) := by decide +kernel
theorem dX8_pair_13 : decode cX8_pair 13 = .ok (.lconst 1, 1) := by decide +kernel
theorem dX8_pair_14 : decode cX8_pair 14 = .ok (.ldc2_w 164, 3) := by decide +kernel
theorem dX8_pair_17 : decode cX8_pair 17 = .ok (.invokestatic 58, 3) := by decide +kernel
theorem dX8_pair_20 : decode cX8_pair 20 = .ok (.ifCond .eq 15, 3) := by decide +kernel
theorem dX8_pair_23 : decode cX8_pair 23 = .ok (.iload_n 3, 1) := by decide +kernel
theorem dX8_pair_24 : decode cX8_pair 24 = .ok (.i2l, 1) := by decide +kernel
theorem dX8_pair_25 : decode cX8_pair 25 = .ok (.lconst 1, 1) := by decide +kernel
theorem dX8_pair_26 : decode cX8_pair 26 = .ok (.ldc2_w 166, 3) := by decide +kernel
theorem dX8_pair_29 : decode cX8_pair 29 = .ok (.invokestatic 58, 3) := by decide +kernel
theorem dX8_pair_32 : decode cX8_pair 32 = .ok (.ifCond .ne 6, 3) := by decide +kernel
theorem dX8_pair_35 : decode cX8_pair 35 = .ok (.bipush (-102), 2) := by decide +kernel
theorem dX8_pair_37 : decode cX8_pair 37 = .ok (.ireturn, 1) := by decide +kernel
theorem dX8_pair_38 : decode cX8_pair 38 = .ok (.aload_n 0, 1) := by decide +kernel
theorem dX8_pair_39 : decode cX8_pair 39 = .ok (.iload_n 1, 1) := by decide +kernel
theorem dX8_pair_40 : decode cX8_pair 40 = .ok (.iload_n 2, 1) := by decide +kernel
theorem dX8_pair_41 : decode cX8_pair 41 = .ok (.iload_n 3, 1) := by decide +kernel
theorem dX8_pair_42 : decode cX8_pair 42 = .ok (.invokevirtual 168, 3) := by decide +kernel
theorem dX8_pair_45 : decode cX8_pair 45 = .ok (.istore 4, 2) := by decide +kernel
theorem dX8_pair_47 : decode cX8_pair 47 = .ok (.iload 4, 2) := by decide +kernel
theorem dX8_pair_49 : decode cX8_pair 49 = .ok (.iconst (-1), 1) := by decide +kernel
theorem dX8_pair_50 : decode cX8_pair 50 = .ok (.if_icmp .ne 5, 3) := by decide +kernel
theorem dX8_pair_53 : decode cX8_pair 53 = .ok (.iconst (-1), 1) := by decide +kernel
theorem dX8_pair_54 : decode cX8_pair 54 = .ok (.ireturn, 1) := by decide +kernel
theorem dX8_pair_55 : decode cX8_pair 55 = .ok (.aload_n 0, 1) := by decide +kernel
theorem dX8_pair_56 : decode cX8_pair 56 = .ok (.iload_n 1, 1) := by decide +kernel
theorem dX8_pair_57 : decode cX8_pair 57 = .ok (.iload 4, 2) := by decide +kernel
theorem dX8_pair_59 : decode cX8_pair 59 = .ok (.iload_n 2, 1) := by decide +kernel
theorem dX8_pair_60 : decode cX8_pair 60 = .ok (.iload_n 3, 1) := by decide +kernel
theorem dX8_pair_61 : decode cX8_pair 61 = .ok (.iconst 2, 1) := by decide +kernel
theorem dX8_pair_62 : decode cX8_pair 62 = .ok (.invokevirtual 172, 3) := by decide +kernel
theorem dX8_pair_65 : decode cX8_pair 65 = .ok (.aload_n 0, 1) := by decide +kernel
theorem dX8_pair_66 : decode cX8_pair 66 = .ok (.iload_n 1, 1) := by decide +kernel
theorem dX8_pair_67 : decode cX8_pair 67 = .ok (.iload_n 2, 1) := by decide +kernel
theorem dX8_pair_68 : decode cX8_pair 68 = .ok (.iload_n 3, 1) := by decide +kernel
theorem dX8_pair_69 : decode cX8_pair 69 = .ok (.invokevirtual 168, 3) := by decide +kernel
theorem dX8_pair_72 : decode cX8_pair 72 = .ok (.istore 5, 2) := by decide +kernel
theorem dX8_pair_74 : decode cX8_pair 74 = .ok (.iload 5, 2) := by decide +kernel
theorem dX8_pair_76 : decode cX8_pair 76 = .ok (.iconst (-1), 1) := by decide +kernel
theorem dX8_pair_77 : decode cX8_pair 77 = .ok (.if_icmp .ne 15, 3) := by decide +kernel
theorem dX8_pair_80 : decode cX8_pair 80 = .ok (.aload_n 0, 1) := by decide +kernel
theorem dX8_pair_81 : decode cX8_pair 81 = .ok (.iload_n 1, 1) := by decide +kernel
theorem dX8_pair_82 : decode cX8_pair 82 = .ok (.iload 4, 2) := by decide +kernel
theorem dX8_pair_84 : decode cX8_pair 84 = .ok (.iload_n 2, 1) := by decide +kernel
theorem dX8_pair_85 : decode cX8_pair 85 = .ok (.iload_n 3, 1) := by decide +kernel
theorem dX8_pair_86 : decode cX8_pair 86 = .ok (.iconst 0, 1) := by decide +kernel
theorem dX8_pair_87 : decode cX8_pair 87 = .ok (.invokevirtual 172, 3) := by decide +kernel
theorem dX8_pair_90 : decode cX8_pair 90 = .ok (.iconst (-1), 1) := by decide +kernel
theorem dX8_pair_91 : decode cX8_pair 91 = .ok (.ireturn, 1) := by decide +kernel
theorem dX8_pair_92 : decode cX8_pair 92 = .ok (.aload_n 0, 1) := by decide +kernel
theorem dX8_pair_93 : decode cX8_pair 93 = .ok (.iload_n 1, 1) := by decide +kernel
theorem dX8_pair_94 : decode cX8_pair 94 = .ok (.iload 5, 2) := by decide +kernel
theorem dX8_pair_96 : decode cX8_pair 96 = .ok (.iload_n 2, 1) := by decide +kernel
theorem dX8_pair_97 : decode cX8_pair 97 = .ok (.iload_n 3, 1) := by decide +kernel
theorem dX8_pair_98 : decode cX8_pair 98 = .ok (.iconst 2, 1) := by decide +kernel
theorem dX8_pair_99 : decode cX8_pair 99 = .ok (.invokevirtual 172, 3) := by decide +kernel
theorem dX8_pair_102 : decode cX8_pair 102 = .ok (.iload 4, 2) := by decide +kernel
theorem dX8_pair_104 : decode cX8_pair 104 = .ok (.sipush 256, 3) := by decide +kernel
theorem dX8_pair_107 : decode cX8_pair 107 = .ok (.iload 5, 2) := by decide +kernel
theorem dX8_pair_109 : decode cX8_pair 109 = .ok (.imul, 1) := by decide +kernel
theorem dX8_pair_110 : decode cX8_pair 110 = .ok (.iadd, 1) := by decide +kernel
theorem dX8_pair_111 : decode cX8_pair 111 = .ok (.ireturn, 1) := by decide +kernel
set_option maxRecDepth 20000 in
theorem ggX8_patch_X8_isHide : GoodIn wsX8_patch wsX8_isHide := goodIn_r _ [6, 7, 8, 9, 5, 10, 16, 17, 18, 19, 20, 21, 22, 23, 24, 25, 26, 27, 28, 29, 30, 31, 32, 33, 34, 35, 36, 37, 38, 39, 40, 41, 42] (by decide +kernel) (by decide +kernel)
set_option maxRecDepth 20000 in
theorem gX8_patch_X8_isHide : GoodIn wsX8_patch (wsV RX8 158 RX8 yX8_isHide wsX8_isHide) := goodIn_app (goodIn_of _ (by decide +kernel)) ggX8_patch_X8_isHide
set_option maxRecDepth 20000 in
theorem ggX8_patch_X8_isPatch : GoodIn wsX8_patch wsX8_isPatch := goodIn_r _ [13, 14, 15, 8, 9, 5, 10] (by decide +kernel) (by decide +kernel)
set_option maxRecDepth 20000 in
theorem gX8_patch_X8_isPatch : GoodIn wsX8_patch (va_wsS RX8 161 yX8_isPatch wsX8_isPatch) := goodIn_app (goodIn_of _ (by decide +kernel)) ggX8_patch_X8_isPatch
theorem dX8_patch_0 : decode cX8_patch 0 = .ok (.aload_n 0, 1) := by decide +kernel
theorem dX8_patch_1 : decode cX8_patch 1 = .ok (.iload_n 1, 1) := by decide +kernel
theorem dX8_patch_2 : decode cX8_patch 2 = .ok (.invokevirtual 158, 3) := by decide +kernel
theorem dX8_patch_5 : decode cX8_patch 5 = .ok (.ifCond .eq 31, 3) := by decide +kernel
theorem dX8_patch_8 : decode cX8_patch 8 = .ok (.iload_n 2, 1) := by decide +kernel
theorem dX8_patch_9 : decode cX8_patch 9 = .ok (.iload_n 3, 1) := by decide +kernel
theorem dX8_patch_10 : decode cX8_patch 10 = .ok (.invokestatic 161, 3) := by decide +kernel
theorem dX8_patch_13 : decode cX8_patch 13 = .ok (.ifCond .eq 23, 3) := by decide +kernel
theorem dX8_patch_16 : decode cX8_patch 16 = .ok (.aload_n 0, 1) := by decide +kernel
theorem dX8_patch_17 : decode cX8_patch 17 = .ok (.getfield 40, 3) := by decide +kernel
theorem dX8_patch_20 : decode cX8_patch 20 = .ok (.sipush 192, 3) := by decide +kernel
theorem dX8_patch_23 : decode cX8_patch 23 = .ok (.iload_n 1, 1) := by decide +kernel
theorem dX8_patch_24 : decode cX8_patch 24 = .ok (.imul, 1) := by decide +kernel
theorem dX8_patch_25 : decode cX8_patch 25 = .ok (.bipush 16, 2) := by decide +kernel
theorem dX8_patch_27 : decode cX8_patch 27 = .ok (.iload_n 3, 1) := by decide +kernel
theorem dX8_patch_28 : decode cX8_patch 28 = .ok (.imul, 1) := by decide +kernel
theorem dX8_patch_29 : decode cX8_patch 29 = .ok (.iadd, 1) := by decide +kernel
theorem dX8_patch_30 : decode cX8_patch 30 = .ok (.iload_n 2, 1) := by decide +kernel
theorem dX8_patch_31 : decode cX8_patch 31 = .ok (.iadd, 1) := by decide +kernel
theorem dX8_patch_32 : decode cX8_patch 32 = .ok (.iaload, 1) := by decide +kernel
theorem dX8_patch_33 : decode cX8_patch 33 = .ok (.goto 5, 3) := by decide +kernel
theorem dX8_patch_36 : decode cX8_patch 36 = .ok (.bipush (-101), 2) := by decide +kernel
theorem dX8_patch_38 : decode cX8_patch 38 = .ok (.ireturn, 1) := by decide +kernel
set_option maxRecDepth 20000 in
theorem ggX8_bench_X8_in : GoodIn wsX8_bench wsX8_in := goodIn_r _ [7] (by decide +kernel) (by decide +kernel)
set_option maxRecDepth 20000 in
theorem gX8_bench_X8_in : GoodIn wsX8_bench (va_wsS RX8 58 yX8_in wsX8_in) := goodIn_app (goodIn_of _ (by decide +kernel)) ggX8_bench_X8_in
theorem dX8_bench_0 : decode cX8_bench 0 = .ok (.iload_n 1, 1) := by decide +kernel
theorem dX8_bench_1 : decode cX8_bench 1 = .ok (.i2l, 1) := by decide +kernel
theorem dX8_bench_2 : decode cX8_bench 2 = .ok (.lconst 1, 1) := by decide +kernel
theorem dX8_bench_3 : decode cX8_bench 3 = .ok (.ldc2_w 176, 3) := by decide +kernel
theorem dX8_bench_6 : decode cX8_bench 6 = .ok (.invokestatic 58, 3) := by decide +kernel
theorem dX8_bench_9 : decode cX8_bench 9 = .ok (.ifCond .ne 6, 3) := by decide +kernel
theorem dX8_bench_12 : decode cX8_bench 12 = .ok (.bipush (-102), 2) := by decide +kernel
theorem dX8_bench_14 : decode cX8_bench 14 = .ok (.ireturn, 1) := by decide +kernel
theorem dX8_bench_15 : decode cX8_bench 15 = .ok (.aload_n 0, 1) := by decide +kernel
theorem dX8_bench_16 : decode cX8_bench 16 = .ok (.getfield 178, 3) := by decide +kernel
theorem dX8_bench_19 : decode cX8_bench 19 = .ok (.iconst 3, 1) := by decide +kernel
theorem dX8_bench_20 : decode cX8_bench 20 = .ok (.if_icmp .ne 6, 3) := by decide +kernel
theorem dX8_bench_23 : decode cX8_bench 23 = .ok (.bipush (-104), 2) := by decide +kernel
theorem dX8_bench_25 : decode cX8_bench 25 = .ok (.ireturn, 1) := by decide +kernel
theorem dX8_bench_26 : decode cX8_bench 26 = .ok (.aload_n 0, 1) := by decide +kernel
theorem dX8_bench_27 : decode cX8_bench 27 = .ok (.getfield 43, 3) := by decide +kernel
theorem dX8_bench_30 : decode cX8_bench 30 = .ok (.aload_n 0, 1) := by decide +kernel
theorem dX8_bench_31 : decode cX8_bench 31 = .ok (.getfield 178, 3) := by decide +kernel
theorem dX8_bench_34 : decode cX8_bench 34 = .ok (.iload_n 1, 1) := by decide +kernel
theorem dX8_bench_35 : decode cX8_bench 35 = .ok (.iastore, 1) := by decide +kernel
theorem dX8_bench_36 : decode cX8_bench 36 = .ok (.aload_n 0, 1) := by decide +kernel
theorem dX8_bench_37 : decode cX8_bench 37 = .ok (.dup, 1) := by decide +kernel
theorem dX8_bench_38 : decode cX8_bench 38 = .ok (.getfield 178, 3) := by decide +kernel
theorem dX8_bench_41 : decode cX8_bench 41 = .ok (.iconst 1, 1) := by decide +kernel
theorem dX8_bench_42 : decode cX8_bench 42 = .ok (.iadd, 1) := by decide +kernel
theorem dX8_bench_43 : decode cX8_bench 43 = .ok (.putfield 178, 3) := by decide +kernel
theorem dX8_bench_46 : decode cX8_bench 46 = .ok (.aload_n 0, 1) := by decide +kernel
theorem dX8_bench_47 : decode cX8_bench 47 = .ok (.getfield 178, 3) := by decide +kernel
theorem dX8_bench_50 : decode cX8_bench 50 = .ok (.iconst 1, 1) := by decide +kernel
theorem dX8_bench_51 : decode cX8_bench 51 = .ok (.isub, 1) := by decide +kernel
theorem dX8_bench_52 : decode cX8_bench 52 = .ok (.ireturn, 1) := by decide +kernel
set_option maxRecDepth 20000 in
theorem ggX8_work_X8_in : GoodIn wsX8_work wsX8_in := goodIn_r _ [11] (by decide +kernel) (by decide +kernel)
set_option maxRecDepth 20000 in
theorem gX8_work_X8_in : GoodIn wsX8_work (va_wsS RX8 58 yX8_in wsX8_in) := goodIn_app (goodIn_of _ (by decide +kernel)) ggX8_work_X8_in
set_option maxRecDepth 20000 in
theorem ggX8_work_X8_isDay : GoodIn wsX8_work wsX8_isDay := goodIn_r _ [14, 15, 8, 9, 10, 11] (by decide +kernel) (by decide +kernel)
set_option maxRecDepth 20000 in
theorem gX8_work_X8_isDay : GoodIn wsX8_work (va_wsS RX8 78 yX8_isDay wsX8_isDay) := goodIn_app (goodIn_of _ (by decide +kernel)) ggX8_work_X8_isDay
theorem dX8_work_0 : decode cX8_work 0 = .ok (.iload_n 1, 1) := by decide +kernel
theorem dX8_work_1 : decode cX8_work 1 = .ok (.i2l, 1) := by decide +kernel
theorem dX8_work_2 : decode cX8_work 2 = .ok (.lconst 1, 1) := by decide +kernel
theorem dX8_work_3 : decode cX8_work 3 = .ok (.ldc2_w 181, 3) := by decide +kernel
theorem dX8_work_6 : decode cX8_work 6 = .ok (.invokestatic 58, 3) := by decide +kernel
theorem dX8_work_9 : decode cX8_work 9 = .ok (.ifCond .eq 10, 3) := by decide +kernel
theorem dX8_work_12 : decode cX8_work 12 = .ok (.iload_n 2, 1) := by decide +kernel
theorem dX8_work_13 : decode cX8_work 13 = .ok (.invokestatic 78, 3) := by decide +kernel
theorem dX8_work_16 : decode cX8_work 16 = .ok (.ifCond .ne 6, 3) := by decide +kernel
theorem dX8_work_19 : decode cX8_work 19 = .ok (.bipush (-102), 2) := by decide +kernel
theorem dX8_work_21 : decode cX8_work 21 = .ok (.ireturn, 1) := by decide +kernel
theorem dX8_work_22 : decode cX8_work 22 = .ok (.iconst (-1), 1) := by decide +kernel
theorem dX8_work_23 : decode cX8_work 23 = .ok (.istore_n 3, 1) := by decide +kernel
theorem dX8_work_24 : decode cX8_work 24 = .ok (.iconst 0, 1) := by decide +kernel
theorem dX8_work_25 : decode cX8_work 25 = .ok (.istore 4, 2) := by decide +kernel
theorem dX8_work_27 : decode cX8_work 27 = .ok (.iconst 0, 1) := by decide +kernel
theorem dX8_work_28 : decode cX8_work 28 = .ok (.istore 5, 2) := by decide +kernel
theorem dX8_work_30 : decode cX8_work 30 = .ok (.iconst 0, 1) := by decide +kernel
theorem dX8_work_31 : decode cX8_work 31 = .ok (.istore 6, 2) := by decide +kernel
theorem dX8_work_33 : decode cX8_work 33 = .ok (.iload 6, 2) := by decide +kernel
theorem dX8_work_35 : decode cX8_work 35 = .ok (.aload_n 0, 1) := by decide +kernel
theorem dX8_work_36 : decode cX8_work 36 = .ok (.getfield 178, 3) := by decide +kernel
theorem dX8_work_39 : decode cX8_work 39 = .ok (.if_icmp .ge 90, 3) := by decide +kernel
theorem dX8_work_42 : decode cX8_work 42 = .ok (.iload_n 2, 1) := by decide +kernel
theorem dX8_work_43 : decode cX8_work 43 = .ok (.aload_n 0, 1) := by decide +kernel
theorem dX8_work_44 : decode cX8_work 44 = .ok (.getfield 43, 3) := by decide +kernel
theorem dX8_work_47 : decode cX8_work 47 = .ok (.iload 6, 2) := by decide +kernel
theorem dX8_work_49 : decode cX8_work 49 = .ok (.iaload, 1) := by decide +kernel
theorem dX8_work_50 : decode cX8_work 50 = .ok (.imul, 1) := by decide +kernel
theorem dX8_work_51 : decode cX8_work 51 = .ok (.aload_n 0, 1) := by decide +kernel
theorem dX8_work_52 : decode cX8_work 52 = .ok (.getfield 46, 3) := by decide +kernel
theorem dX8_work_55 : decode cX8_work 55 = .ok (.iload 6, 2) := by decide +kernel
theorem dX8_work_57 : decode cX8_work 57 = .ok (.iaload, 1) := by decide +kernel
theorem dX8_work_58 : decode cX8_work 58 = .ok (.if_icmp .le 15, 3) := by decide +kernel
theorem dX8_work_61 : decode cX8_work 61 = .ok (.iload_n 2, 1) := by decide +kernel
theorem dX8_work_62 : decode cX8_work 62 = .ok (.aload_n 0, 1) := by decide +kernel
theorem dX8_work_63 : decode cX8_work 63 = .ok (.getfield 43, 3) := by decide +kernel
theorem dX8_work_66 : decode cX8_work 66 = .ok (.iload 6, 2) := by decide +kernel
theorem dX8_work_68 : decode cX8_work 68 = .ok (.iaload, 1) := by decide +kernel
theorem dX8_work_69 : decode cX8_work 69 = .ok (.imul, 1) := by decide +kernel
theorem dX8_work_70 : decode cX8_work 70 = .ok (.goto 10, 3) := by decide +kernel
theorem dX8_work_73 : decode cX8_work 73 = .ok (.aload_n 0, 1) := by decide +kernel
theorem dX8_work_74 : decode cX8_work 74 = .ok (.getfield 46, 3) := by decide +kernel
theorem dX8_work_77 : decode cX8_work 77 = .ok (.iload 6, 2) := by decide +kernel
theorem dX8_work_79 : decode cX8_work 79 = .ok (.iaload, 1) := by decide +kernel
theorem dX8_work_80 : decode cX8_work 80 = .ok (.istore 7, 2) := by decide +kernel
theorem dX8_work_82 : decode cX8_work 82 = .ok (.iload 7, 2) := by decide +kernel
theorem dX8_work_84 : decode cX8_work 84 = .ok (.iload_n 1, 1) := by decide +kernel
theorem dX8_work_85 : decode cX8_work 85 = .ok (.iadd, 1) := by decide +kernel
theorem dX8_work_86 : decode cX8_work 86 = .ok (.iconst 1, 1) := by decide +kernel
theorem dX8_work_87 : decode cX8_work 87 = .ok (.isub, 1) := by decide +kernel
theorem dX8_work_88 : decode cX8_work 88 = .ok (.aload_n 0, 1) := by decide +kernel
theorem dX8_work_89 : decode cX8_work 89 = .ok (.getfield 43, 3) := by decide +kernel
theorem dX8_work_92 : decode cX8_work 92 = .ok (.iload 6, 2) := by decide +kernel
theorem dX8_work_94 : decode cX8_work 94 = .ok (.iaload, 1) := by decide +kernel
theorem dX8_work_95 : decode cX8_work 95 = .ok (.idiv, 1) := by decide +kernel
theorem dX8_work_96 : decode cX8_work 96 = .ok (.istore 8, 2) := by decide +kernel
theorem dX8_work_98 : decode cX8_work 98 = .ok (.iload_n 3, 1) := by decide +kernel
theorem dX8_work_99 : decode cX8_work 99 = .ok (.iconst (-1), 1) := by decide +kernel
theorem dX8_work_100 : decode cX8_work 100 = .ok (.if_icmp .eq 10, 3) := by decide +kernel
theorem dX8_work_103 : decode cX8_work 103 = .ok (.iload 8, 2) := by decide +kernel
theorem dX8_work_105 : decode cX8_work 105 = .ok (.iload 4, 2) := by decide +kernel
theorem dX8_work_107 : decode cX8_work 107 = .ok (.if_icmp .ge 16, 3) := by decide +kernel
theorem dX8_work_110 : decode cX8_work 110 = .ok (.iload 6, 2) := by decide +kernel
theorem dX8_work_112 : decode cX8_work 112 = .ok (.istore_n 3, 1) := by decide +kernel
theorem dX8_work_113 : decode cX8_work 113 = .ok (.iload 8, 2) := by decide +kernel
theorem dX8_work_115 : decode cX8_work 115 = .ok (.istore 4, 2) := by decide +kernel
theorem dX8_work_117 : decode cX8_work 117 = .ok (.iload 7, 2) := by decide +kernel
theorem dX8_work_119 : decode cX8_work 119 = .ok (.iload_n 1, 1) := by decide +kernel
theorem dX8_work_120 : decode cX8_work 120 = .ok (.iadd, 1) := by decide +kernel
theorem dX8_work_121 : decode cX8_work 121 = .ok (.istore 5, 2) := by decide +kernel
theorem dX8_work_123 : decode cX8_work 123 = .ok (.iinc 6 1, 3) := by decide +kernel
theorem dX8_work_126 : decode cX8_work 126 = .ok (.goto (-93), 3) := by decide +kernel
theorem dX8_work_129 : decode cX8_work 129 = .ok (.iload_n 3, 1) := by decide +kernel
theorem dX8_work_130 : decode cX8_work 130 = .ok (.iconst (-1), 1) := by decide +kernel
theorem dX8_work_131 : decode cX8_work 131 = .ok (.if_icmp .eq 10, 3) := by decide +kernel
theorem dX8_work_134 : decode cX8_work 134 = .ok (.iload 4, 2) := by decide +kernel
theorem dX8_work_136 : decode cX8_work 136 = .ok (.ldc 183, 2) := by decide +kernel
theorem dX8_work_138 : decode cX8_work 138 = .ok (.if_icmp .le 6, 3) := by decide +kernel
theorem dX8_work_141 : decode cX8_work 141 = .ok (.bipush (-103), 2) := by decide +kernel
theorem dX8_work_143 : decode cX8_work 143 = .ok (.ireturn, 1) := by decide +kernel
theorem dX8_work_144 : decode cX8_work 144 = .ok (.aload_n 0, 1) := by decide +kernel
theorem dX8_work_145 : decode cX8_work 145 = .ok (.getfield 46, 3) := by decide +kernel
theorem dX8_work_148 : decode cX8_work 148 = .ok (.iload_n 3, 1) := by decide +kernel
theorem dX8_work_149 : decode cX8_work 149 = .ok (.iload 5, 2) := by decide +kernel
theorem dX8_work_151 : decode cX8_work 151 = .ok (.iastore, 1) := by decide +kernel
theorem dX8_work_152 : decode cX8_work 152 = .ok (.aload_n 0, 1) := by decide +kernel
theorem dX8_work_153 : decode cX8_work 153 = .ok (.iload_n 3, 1) := by decide +kernel
theorem dX8_work_154 : decode cX8_work 154 = .ok (.putfield 52, 3) := by decide +kernel
theorem dX8_work_157 : decode cX8_work 157 = .ok (.aload_n 0, 1) := by decide +kernel
theorem dX8_work_158 : decode cX8_work 158 = .ok (.dup, 1) := by decide +kernel
theorem dX8_work_159 : decode cX8_work 159 = .ok (.getfield 184, 3) := by decide +kernel
theorem dX8_work_162 : decode cX8_work 162 = .ok (.iload_n 1, 1) := by decide +kernel
theorem dX8_work_163 : decode cX8_work 163 = .ok (.iadd, 1) := by decide +kernel
theorem dX8_work_164 : decode cX8_work 164 = .ok (.putfield 184, 3) := by decide +kernel
theorem dX8_work_167 : decode cX8_work 167 = .ok (.iload 4, 2) := by decide +kernel
theorem dX8_work_169 : decode cX8_work 169 = .ok (.ireturn, 1) := by decide +kernel
theorem dX8_where_0 : decode cX8_where 0 = .ok (.aload_n 0, 1) := by decide +kernel
theorem dX8_where_1 : decode cX8_where 1 = .ok (.getfield 52, 3) := by decide +kernel
theorem dX8_where_4 : decode cX8_where 4 = .ok (.ireturn, 1) := by decide +kernel
set_option maxRecDepth 20000 in
theorem ggX8_saddle_X8_isTree : GoodIn wsX8_saddle wsX8_isTree := goodIn_r _ [9, 10, 11, 12, 8, 13, 29, 30, 31, 32, 33, 34, 35, 36, 37, 38, 39, 40, 41, 42, 43, 44, 45, 46, 47, 48, 49, 50, 51, 52, 53, 54, 55] (by decide +kernel) (by decide +kernel)
set_option maxRecDepth 20000 in
theorem gX8_saddle_X8_isTree : GoodIn wsX8_saddle (wsV RX8 91 RX8 yX8_isTree wsX8_isTree) := goodIn_app (goodIn_of _ (by decide +kernel)) ggX8_saddle_X8_isTree
set_option maxRecDepth 20000 in
theorem ggX8_saddle_X8_isHorse : GoodIn wsX8_saddle wsX8_isHorse := goodIn_r _ [17, 18, 11, 12, 8, 13, 29, 30, 31, 32, 33, 34, 35, 36, 37, 38, 39, 40, 41, 42, 43, 44, 45, 46, 47, 48, 49, 50, 51, 52, 53, 54, 55] (by decide +kernel) (by decide +kernel)
set_option maxRecDepth 20000 in
theorem gX8_saddle_X8_isHorse : GoodIn wsX8_saddle (wsV RX8 75 RX8 yX8_isHorse wsX8_isHorse) := goodIn_app (goodIn_of _ (by decide +kernel)) ggX8_saddle_X8_isHorse
set_option maxRecDepth 20000 in
theorem ggX8_saddle_X8_isDay : GoodIn wsX8_saddle wsX8_isDay := goodIn_r _ [21, 22, 11, 12, 8, 13] (by decide +kernel) (by decide +kernel)
set_option maxRecDepth 20000 in
theorem gX8_saddle_X8_isDay : GoodIn wsX8_saddle (va_wsS RX8 78 yX8_isDay wsX8_isDay) := goodIn_app (goodIn_of _ (by decide +kernel)) ggX8_saddle_X8_isDay
set_option maxRecDepth 20000 in
theorem ggX8_saddle_X8_in : GoodIn wsX8_saddle wsX8_in := goodIn_r _ [13] (by decide +kernel) (by decide +kernel)
set_option maxRecDepth 20000 in
theorem gX8_saddle_X8_in : GoodIn wsX8_saddle (va_wsS RX8 58 yX8_in wsX8_in) := goodIn_app (goodIn_of _ (by decide +kernel)) ggX8_saddle_X8_in
set_option maxRecDepth 20000 in
theorem ggX8_saddle_X8_backAt : GoodIn wsX8_saddle wsX8_backAt := goodIn_r _ [26, 27, 28, 29, 30, 31, 32, 33, 34, 35, 36, 37, 38, 39, 40, 41, 42, 43, 44, 45, 46, 47, 48, 49, 50, 51, 52, 53, 54, 55] (by decide +kernel) (by decide +kernel)
set_option maxRecDepth 20000 in
theorem gX8_saddle_X8_backAt : GoodIn wsX8_saddle (wsV RX8 85 RX8 yX8_backAt wsX8_backAt) := goodIn_app (goodIn_of _ (by decide +kernel)) ggX8_saddle_X8_backAt
theorem dX8_saddle_0 : decode cX8_saddle 0 = .ok (.aload_n 0, 1) := by decide +kernel
theorem dX8_saddle_1 : decode cX8_saddle 1 = .ok (.iload_n 1, 1) := by decide +kernel
theorem dX8_saddle_2 : decode cX8_saddle 2 = .ok (.invokevirtual 91, 3) := by decide +kernel
theorem dX8_saddle_5 : decode cX8_saddle 5 = .ok (.ifCond .eq 11, 3) := by decide +kernel
theorem dX8_saddle_8 : decode cX8_saddle 8 = .ok (.aload_n 0, 1) := by decide +kernel
theorem dX8_saddle_9 : decode cX8_saddle 9 = .ok (.iload_n 2, 1) := by decide +kernel
theorem dX8_saddle_10 : decode cX8_saddle 10 = .ok (.invokevirtual 75, 3) := by decide +kernel
theorem dX8_saddle_13 : decode cX8_saddle 13 = .ok (.ifCond .ne 6, 3) := by decide +kernel
theorem dX8_saddle_16 : decode cX8_saddle 16 = .ok (.bipush (-101), 2) := by decide +kernel
theorem dX8_saddle_18 : decode cX8_saddle 18 = .ok (.ireturn, 1) := by decide +kernel
theorem dX8_saddle_19 : decode cX8_saddle 19 = .ok (.iload_n 3, 1) := by decide +kernel
theorem dX8_saddle_20 : decode cX8_saddle 20 = .ok (.invokestatic 78, 3) := by decide +kernel
theorem dX8_saddle_23 : decode cX8_saddle 23 = .ok (.ifCond .eq 29, 3) := by decide +kernel
theorem dX8_saddle_26 : decode cX8_saddle 26 = .ok (.iload 4, 2) := by decide +kernel
theorem dX8_saddle_28 : decode cX8_saddle 28 = .ok (.i2l, 1) := by decide +kernel
theorem dX8_saddle_29 : decode cX8_saddle 29 = .ok (.lconst 0, 1) := by decide +kernel
theorem dX8_saddle_30 : decode cX8_saddle 30 = .ok (.ldc2_w 123, 3) := by decide +kernel
theorem dX8_saddle_33 : decode cX8_saddle 33 = .ok (.invokestatic 58, 3) := by decide +kernel
theorem dX8_saddle_36 : decode cX8_saddle 36 = .ok (.ifCond .eq 16, 3) := by decide +kernel
theorem dX8_saddle_39 : decode cX8_saddle 39 = .ok (.iload 5, 2) := by decide +kernel
theorem dX8_saddle_41 : decode cX8_saddle 41 = .ok (.i2l, 1) := by decide +kernel
theorem dX8_saddle_42 : decode cX8_saddle 42 = .ok (.lconst 0, 1) := by decide +kernel
theorem dX8_saddle_43 : decode cX8_saddle 43 = .ok (.ldc2_w 73, 3) := by decide +kernel
theorem dX8_saddle_46 : decode cX8_saddle 46 = .ok (.invokestatic 58, 3) := by decide +kernel
theorem dX8_saddle_49 : decode cX8_saddle 49 = .ok (.ifCond .ne 6, 3) := by decide +kernel
theorem dX8_saddle_52 : decode cX8_saddle 52 = .ok (.bipush (-102), 2) := by decide +kernel
theorem dX8_saddle_54 : decode cX8_saddle 54 = .ok (.ireturn, 1) := by decide +kernel
theorem dX8_saddle_55 : decode cX8_saddle 55 = .ok (.aload_n 0, 1) := by decide +kernel
theorem dX8_saddle_56 : decode cX8_saddle 56 = .ok (.iload_n 2, 1) := by decide +kernel
theorem dX8_saddle_57 : decode cX8_saddle 57 = .ok (.iload_n 3, 1) := by decide +kernel
theorem dX8_saddle_58 : decode cX8_saddle 58 = .ok (.invokevirtual 85, 3) := by decide +kernel
theorem dX8_saddle_61 : decode cX8_saddle 61 = .ok (.iconst (-1), 1) := by decide +kernel
theorem dX8_saddle_62 : decode cX8_saddle 62 = .ok (.if_icmp .ne 6, 3) := by decide +kernel
theorem dX8_saddle_65 : decode cX8_saddle 65 = .ok (.bipush (-103), 2) := by decide +kernel
theorem dX8_saddle_67 : decode cX8_saddle 67 = .ok (.ireturn, 1) := by decide +kernel
theorem dX8_saddle_68 : decode cX8_saddle 68 = .ok (.aload_n 0, 1) := by decide +kernel
theorem dX8_saddle_69 : decode cX8_saddle 69 = .ok (.getfield 187, 3) := by decide +kernel
theorem dX8_saddle_72 : decode cX8_saddle 72 = .ok (.bipush 12, 2) := by decide +kernel
theorem dX8_saddle_74 : decode cX8_saddle 74 = .ok (.if_icmp .ne 6, 3) := by decide +kernel
theorem dX8_saddle_77 : decode cX8_saddle 77 = .ok (.bipush (-104), 2) := by decide +kernel
theorem dX8_saddle_79 : decode cX8_saddle 79 = .ok (.ireturn, 1) := by decide +kernel
theorem dX8_saddle_80 : decode cX8_saddle 80 = .ok (.iconst 5, 1) := by decide +kernel
theorem dX8_saddle_81 : decode cX8_saddle 81 = .ok (.aload_n 0, 1) := by decide +kernel
theorem dX8_saddle_82 : decode cX8_saddle 82 = .ok (.getfield 187, 3) := by decide +kernel
theorem dX8_saddle_85 : decode cX8_saddle 85 = .ok (.imul, 1) := by decide +kernel
theorem dX8_saddle_86 : decode cX8_saddle 86 = .ok (.istore 6, 2) := by decide +kernel
theorem dX8_saddle_88 : decode cX8_saddle 88 = .ok (.aload_n 0, 1) := by decide +kernel
theorem dX8_saddle_89 : decode cX8_saddle 89 = .ok (.getfield 49, 3) := by decide +kernel
theorem dX8_saddle_92 : decode cX8_saddle 92 = .ok (.iload 6, 2) := by decide +kernel
theorem dX8_saddle_94 : decode cX8_saddle 94 = .ok (.iload_n 1, 1) := by decide +kernel
theorem dX8_saddle_95 : decode cX8_saddle 95 = .ok (.iastore, 1) := by decide +kernel
theorem dX8_saddle_96 : decode cX8_saddle 96 = .ok (.aload_n 0, 1) := by decide +kernel
theorem dX8_saddle_97 : decode cX8_saddle 97 = .ok (.getfield 49, 3) := by decide +kernel
theorem dX8_saddle_100 : decode cX8_saddle 100 = .ok (.iload 6, 2) := by decide +kernel
theorem dX8_saddle_102 : decode cX8_saddle 102 = .ok (.iconst 1, 1) := by decide +kernel
theorem dX8_saddle_103 : decode cX8_saddle 103 = .ok (.iadd, 1) := by decide +kernel
theorem dX8_saddle_104 : decode cX8_saddle 104 = .ok (.iload_n 2, 1) := by decide +kernel
theorem dX8_saddle_105 : decode cX8_saddle 105 = .ok (.iastore, 1) := by decide +kernel
theorem dX8_saddle_106 : decode cX8_saddle 106 = .ok (.aload_n 0, 1) := by decide +kernel
theorem dX8_saddle_107 : decode cX8_saddle 107 = .ok (.getfield 49, 3) := by decide +kernel
theorem dX8_saddle_110 : decode cX8_saddle 110 = .ok (.iload 6, 2) := by decide +kernel
theorem dX8_saddle_112 : decode cX8_saddle 112 = .ok (.iconst 2, 1) := by decide +kernel
theorem dX8_saddle_113 : decode cX8_saddle 113 = .ok (.iadd, 1) := by decide +kernel
theorem dX8_saddle_114 : decode cX8_saddle 114 = .ok (.iload_n 3, 1) := by decide +kernel
theorem dX8_saddle_115 : decode cX8_saddle 115 = .ok (.iastore, 1) := by decide +kernel
theorem dX8_saddle_116 : decode cX8_saddle 116 = .ok (.aload_n 0, 1) := by decide +kernel
theorem dX8_saddle_117 : decode cX8_saddle 117 = .ok (.getfield 49, 3) := by decide +kernel
theorem dX8_saddle_120 : decode cX8_saddle 120 = .ok (.iload 6, 2) := by decide +kernel
theorem dX8_saddle_122 : decode cX8_saddle 122 = .ok (.iconst 3, 1) := by decide +kernel
theorem dX8_saddle_123 : decode cX8_saddle 123 = .ok (.iadd, 1) := by decide +kernel
theorem dX8_saddle_124 : decode cX8_saddle 124 = .ok (.iload 4, 2) := by decide +kernel
theorem dX8_saddle_126 : decode cX8_saddle 126 = .ok (.iastore, 1) := by decide +kernel
theorem dX8_saddle_127 : decode cX8_saddle 127 = .ok (.aload_n 0, 1) := by decide +kernel
theorem dX8_saddle_128 : decode cX8_saddle 128 = .ok (.getfield 49, 3) := by decide +kernel
theorem dX8_saddle_131 : decode cX8_saddle 131 = .ok (.iload 6, 2) := by decide +kernel
theorem dX8_saddle_133 : decode cX8_saddle 133 = .ok (.iconst 4, 1) := by decide +kernel
theorem dX8_saddle_134 : decode cX8_saddle 134 = .ok (.iadd, 1) := by decide +kernel
theorem dX8_saddle_135 : decode cX8_saddle 135 = .ok (.iload 5, 2) := by decide +kernel
theorem dX8_saddle_137 : decode cX8_saddle 137 = .ok (.iastore, 1) := by decide +kernel
theorem dX8_saddle_138 : decode cX8_saddle 138 = .ok (.aload_n 0, 1) := by decide +kernel
theorem dX8_saddle_139 : decode cX8_saddle 139 = .ok (.dup, 1) := by decide +kernel
theorem dX8_saddle_140 : decode cX8_saddle 140 = .ok (.getfield 187, 3) := by decide +kernel
theorem dX8_saddle_143 : decode cX8_saddle 143 = .ok (.iconst 1, 1) := by decide +kernel
theorem dX8_saddle_144 : decode cX8_saddle 144 = .ok (.iadd, 1) := by decide +kernel
theorem dX8_saddle_145 : decode cX8_saddle 145 = .ok (.putfield 187, 3) := by decide +kernel
theorem dX8_saddle_148 : decode cX8_saddle 148 = .ok (.aload_n 0, 1) := by decide +kernel
theorem dX8_saddle_149 : decode cX8_saddle 149 = .ok (.getfield 187, 3) := by decide +kernel
theorem dX8_saddle_152 : decode cX8_saddle 152 = .ok (.iconst 1, 1) := by decide +kernel
theorem dX8_saddle_153 : decode cX8_saddle 153 = .ok (.isub, 1) := by decide +kernel
theorem dX8_saddle_154 : decode cX8_saddle 154 = .ok (.ireturn, 1) := by decide +kernel
set_option maxRecDepth 20000 in
theorem ggX8_changedOf_X8_backAt : GoodIn wsX8_changedOf wsX8_backAt := goodIn_r _ [7, 8, 9, 10, 11, 12, 13, 14, 15, 16, 17, 18, 19, 20, 21, 22, 23, 24, 25, 26, 27, 28, 29, 30, 31, 32, 33, 34, 35, 36] (by decide +kernel) (by decide +kernel)
set_option maxRecDepth 20000 in
theorem gX8_changedOf_X8_backAt : GoodIn wsX8_changedOf (wsV RX8 85 RX8 yX8_backAt wsX8_backAt) := goodIn_app (goodIn_of _ (by decide +kernel)) ggX8_changedOf_X8_backAt
theorem dX8_changedOf_0 : decode cX8_changedOf 0 = .ok (.aload_n 0, 1) := by decide +kernel
theorem dX8_changedOf_1 : decode cX8_changedOf 1 = .ok (.getfield 49, 3) := by decide +kernel
theorem dX8_changedOf_4 : decode cX8_changedOf 4 = .ok (.iconst 5, 1) := by decide +kernel
theorem dX8_changedOf_5 : decode cX8_changedOf 5 = .ok (.iload_n 1, 1) := by decide +kernel
theorem dX8_changedOf_6 : decode cX8_changedOf 6 = .ok (.imul, 1) := by decide +kernel
theorem dX8_changedOf_7 : decode cX8_changedOf 7 = .ok (.iconst 1, 1) := by decide +kernel
theorem dX8_changedOf_8 : decode cX8_changedOf 8 = .ok (.iadd, 1) := by decide +kernel
theorem dX8_changedOf_9 : decode cX8_changedOf 9 = .ok (.iaload, 1) := by decide +kernel
theorem dX8_changedOf_10 : decode cX8_changedOf 10 = .ok (.istore_n 3, 1) := by decide +kernel
theorem dX8_changedOf_11 : decode cX8_changedOf 11 = .ok (.aload_n 0, 1) := by decide +kernel
theorem dX8_changedOf_12 : decode cX8_changedOf 12 = .ok (.iload_n 3, 1) := by decide +kernel
theorem dX8_changedOf_13 : decode cX8_changedOf 13 = .ok (.aload_n 0, 1) := by decide +kernel
theorem dX8_changedOf_14 : decode cX8_changedOf 14 = .ok (.getfield 49, 3) := by decide +kernel
theorem dX8_changedOf_17 : decode cX8_changedOf 17 = .ok (.iconst 5, 1) := by decide +kernel
theorem dX8_changedOf_18 : decode cX8_changedOf 18 = .ok (.iload_n 1, 1) := by decide +kernel
theorem dX8_changedOf_19 : decode cX8_changedOf 19 = .ok (.imul, 1) := by decide +kernel
theorem dX8_changedOf_20 : decode cX8_changedOf 20 = .ok (.iconst 2, 1) := by decide +kernel
theorem dX8_changedOf_21 : decode cX8_changedOf 21 = .ok (.iadd, 1) := by decide +kernel
theorem dX8_changedOf_22 : decode cX8_changedOf 22 = .ok (.iaload, 1) := by decide +kernel
theorem dX8_changedOf_23 : decode cX8_changedOf 23 = .ok (.invokevirtual 85, 3) := by decide +kernel
theorem dX8_changedOf_26 : decode cX8_changedOf 26 = .ok (.istore 4, 2) := by decide +kernel
theorem dX8_changedOf_28 : decode cX8_changedOf 28 = .ok (.aload_n 0, 1) := by decide +kernel
theorem dX8_changedOf_29 : decode cX8_changedOf 29 = .ok (.iload_n 3, 1) := by decide +kernel
theorem dX8_changedOf_30 : decode cX8_changedOf 30 = .ok (.iload_n 2, 1) := by decide +kernel
theorem dX8_changedOf_31 : decode cX8_changedOf 31 = .ok (.invokevirtual 85, 3) := by decide +kernel
theorem dX8_changedOf_34 : decode cX8_changedOf 34 = .ok (.istore 5, 2) := by decide +kernel
theorem dX8_changedOf_36 : decode cX8_changedOf 36 = .ok (.iconst 0, 1) := by decide +kernel
theorem dX8_changedOf_37 : decode cX8_changedOf 37 = .ok (.istore 6, 2) := by decide +kernel
theorem dX8_changedOf_39 : decode cX8_changedOf 39 = .ok (.iconst 0, 1) := by decide +kernel
theorem dX8_changedOf_40 : decode cX8_changedOf 40 = .ok (.istore 7, 2) := by decide +kernel
theorem dX8_changedOf_42 : decode cX8_changedOf 42 = .ok (.iload 7, 2) := by decide +kernel
theorem dX8_changedOf_44 : decode cX8_changedOf 44 = .ok (.bipush 9, 2) := by decide +kernel
theorem dX8_changedOf_46 : decode cX8_changedOf 46 = .ok (.if_icmp .ge 63, 3) := by decide +kernel
theorem dX8_changedOf_49 : decode cX8_changedOf 49 = .ok (.aload_n 0, 1) := by decide +kernel
theorem dX8_changedOf_50 : decode cX8_changedOf 50 = .ok (.getfield 19, 3) := by decide +kernel
theorem dX8_changedOf_53 : decode cX8_changedOf 53 = .ok (.iload 5, 2) := by decide +kernel
theorem dX8_changedOf_55 : decode cX8_changedOf 55 = .ok (.iload 7, 2) := by decide +kernel
theorem dX8_changedOf_57 : decode cX8_changedOf 57 = .ok (.iadd, 1) := by decide +kernel
theorem dX8_changedOf_58 : decode cX8_changedOf 58 = .ok (.iaload, 1) := by decide +kernel
theorem dX8_changedOf_59 : decode cX8_changedOf 59 = .ok (.aload_n 0, 1) := by decide +kernel
theorem dX8_changedOf_60 : decode cX8_changedOf 60 = .ok (.getfield 19, 3) := by decide +kernel
theorem dX8_changedOf_63 : decode cX8_changedOf 63 = .ok (.iload 4, 2) := by decide +kernel
theorem dX8_changedOf_65 : decode cX8_changedOf 65 = .ok (.iload 7, 2) := by decide +kernel
theorem dX8_changedOf_67 : decode cX8_changedOf 67 = .ok (.iadd, 1) := by decide +kernel
theorem dX8_changedOf_68 : decode cX8_changedOf 68 = .ok (.iaload, 1) := by decide +kernel
theorem dX8_changedOf_69 : decode cX8_changedOf 69 = .ok (.isub, 1) := by decide +kernel
theorem dX8_changedOf_70 : decode cX8_changedOf 70 = .ok (.istore 8, 2) := by decide +kernel
theorem dX8_changedOf_72 : decode cX8_changedOf 72 = .ok (.iload 8, 2) := by decide +kernel
theorem dX8_changedOf_74 : decode cX8_changedOf 74 = .ok (.ifCond .ge 9, 3) := by decide +kernel
theorem dX8_changedOf_77 : decode cX8_changedOf 77 = .ok (.iload 8, 2) := by decide +kernel
theorem dX8_changedOf_79 : decode cX8_changedOf 79 = .ok (.ineg, 1) := by decide +kernel
theorem dX8_changedOf_80 : decode cX8_changedOf 80 = .ok (.goto 5, 3) := by decide +kernel
theorem dX8_changedOf_83 : decode cX8_changedOf 83 = .ok (.iload 8, 2) := by decide +kernel
theorem dX8_changedOf_85 : decode cX8_changedOf 85 = .ok (.istore 8, 2) := by decide +kernel
theorem dX8_changedOf_87 : decode cX8_changedOf 87 = .ok (.iload 8, 2) := by decide +kernel
theorem dX8_changedOf_89 : decode cX8_changedOf 89 = .ok (.iload 6, 2) := by decide +kernel
theorem dX8_changedOf_91 : decode cX8_changedOf 91 = .ok (.if_icmp .le 8, 3) := by decide +kernel
theorem dX8_changedOf_94 : decode cX8_changedOf 94 = .ok (.iload 8, 2) := by decide +kernel
theorem dX8_changedOf_96 : decode cX8_changedOf 96 = .ok (.goto 5, 3) := by decide +kernel
theorem dX8_changedOf_99 : decode cX8_changedOf 99 = .ok (.iload 6, 2) := by decide +kernel
theorem dX8_changedOf_101 : decode cX8_changedOf 101 = .ok (.istore 6, 2) := by decide +kernel
theorem dX8_changedOf_103 : decode cX8_changedOf 103 = .ok (.iinc 7 1, 3) := by decide +kernel
theorem dX8_changedOf_106 : decode cX8_changedOf 106 = .ok (.goto (-64), 3) := by decide +kernel
theorem dX8_changedOf_109 : decode cX8_changedOf 109 = .ok (.iload 6, 2) := by decide +kernel
theorem dX8_changedOf_111 : decode cX8_changedOf 111 = .ok (.ireturn, 1) := by decide +kernel
set_option maxRecDepth 20000 in
theorem ggX8_isLater_X8_isDay : GoodIn wsX8_isLater wsX8_isDay := goodIn_r _ [5, 6, 7, 8, 4, 9] (by decide +kernel) (by decide +kernel)
set_option maxRecDepth 20000 in
theorem gX8_isLater_X8_isDay : GoodIn wsX8_isLater (va_wsS RX8 78 yX8_isDay wsX8_isDay) := goodIn_app (goodIn_of _ (by decide +kernel)) ggX8_isLater_X8_isDay
theorem dX8_isLater_0 : decode cX8_isLater 0 = .ok (.iload_n 2, 1) := by decide +kernel
theorem dX8_isLater_1 : decode cX8_isLater 1 = .ok (.invokestatic 78, 3) := by decide +kernel
theorem dX8_isLater_4 : decode cX8_isLater 4 = .ok (.ifCond .eq 21, 3) := by decide +kernel
theorem dX8_isLater_7 : decode cX8_isLater 7 = .ok (.iload_n 2, 1) := by decide +kernel
theorem dX8_isLater_8 : decode cX8_isLater 8 = .ok (.aload_n 0, 1) := by decide +kernel
theorem dX8_isLater_9 : decode cX8_isLater 9 = .ok (.getfield 49, 3) := by decide +kernel
theorem dX8_isLater_12 : decode cX8_isLater 12 = .ok (.iconst 5, 1) := by decide +kernel
theorem dX8_isLater_13 : decode cX8_isLater 13 = .ok (.iload_n 1, 1) := by decide +kernel
theorem dX8_isLater_14 : decode cX8_isLater 14 = .ok (.imul, 1) := by decide +kernel
theorem dX8_isLater_15 : decode cX8_isLater 15 = .ok (.iconst 2, 1) := by decide +kernel
theorem dX8_isLater_16 : decode cX8_isLater 16 = .ok (.iadd, 1) := by decide +kernel
theorem dX8_isLater_17 : decode cX8_isLater 17 = .ok (.iaload, 1) := by decide +kernel
theorem dX8_isLater_18 : decode cX8_isLater 18 = .ok (.if_icmp .le 7, 3) := by decide +kernel
theorem dX8_isLater_21 : decode cX8_isLater 21 = .ok (.iconst 1, 1) := by decide +kernel
theorem dX8_isLater_22 : decode cX8_isLater 22 = .ok (.goto 4, 3) := by decide +kernel
theorem dX8_isLater_25 : decode cX8_isLater 25 = .ok (.iconst 0, 1) := by decide +kernel
theorem dX8_isLater_26 : decode cX8_isLater 26 = .ok (.ireturn, 1) := by decide +kernel
set_option maxRecDepth 20000 in
theorem ggX8_free_X8_in : GoodIn wsX8_free wsX8_in := goodIn_r _ [6] (by decide +kernel) (by decide +kernel)
set_option maxRecDepth 20000 in
theorem gX8_free_X8_in : GoodIn wsX8_free (va_wsS RX8 58 yX8_in wsX8_in) := goodIn_app (goodIn_of _ (by decide +kernel)) ggX8_free_X8_in
set_option maxRecDepth 20000 in
theorem ggX8_free_X8_isLater : GoodIn wsX8_free wsX8_isLater := goodIn_r _ [10, 2, 11, 12, 5, 13, 14, 3, 4, 6, 26, 27, 28, 29, 30, 31, 32, 33, 34, 35, 36, 37, 38, 39, 40, 41, 42, 43, 44, 45, 46, 47, 48, 49, 50, 51, 52] (by decide +kernel) (by decide +kernel)
set_option maxRecDepth 20000 in
theorem gX8_free_X8_isLater : GoodIn wsX8_free (wsV RX8 190 RX8 yX8_isLater wsX8_isLater) := goodIn_app (goodIn_of _ (by decide +kernel)) ggX8_free_X8_isLater
set_option maxRecDepth 20000 in
theorem ggX8_free_X8_changedOf : GoodIn wsX8_free wsX8_changedOf := goodIn_r _ [18, 2, 19, 20, 21, 22, 5, 23, 24, 25, 26, 27, 28, 29, 30, 31, 32, 33, 34, 35, 36, 37, 38, 39, 40, 41, 42, 43, 44, 45, 46, 47, 48, 49, 50, 51, 52] (by decide +kernel) (by decide +kernel)
set_option maxRecDepth 20000 in
theorem gX8_free_X8_changedOf : GoodIn wsX8_free (wsV RX8 193 RX8 yX8_changedOf wsX8_changedOf) := goodIn_app (goodIn_of _ (by decide +kernel)) ggX8_free_X8_changedOf
theorem dX8_free_0 : decode cX8_free 0 = .ok (.iload_n 1, 1) := by decide +kernel
theorem dX8_free_1 : decode cX8_free 1 = .ok (.i2l, 1) := by decide +kernel
theorem dX8_free_2 : decode cX8_free 2 = .ok (.lconst 0, 1) := by decide +kernel
theorem dX8_free_3 : decode cX8_free 3 = .ok (.aload_n 0, 1) := by decide +kernel
theorem dX8_free_4 : decode cX8_free 4 = .ok (.getfield 187, 3) := by decide +kernel
theorem dX8_free_7 : decode cX8_free 7 = .ok (.iconst 1, 1) := by decide +kernel
theorem dX8_free_8 : decode cX8_free 8 = .ok (.isub, 1) := by decide +kernel
theorem dX8_free_9 : decode cX8_free 9 = .ok (.i2l, 1) := by decide +kernel
theorem dX8_free_10 : decode cX8_free 10 = .ok (.invokestatic 58, 3) := by decide +kernel
theorem dX8_free_13 : decode cX8_free 13 = .ok (.ifCond .ne 6, 3) := by decide +kernel
theorem dX8_free_16 : decode cX8_free 16 = .ok (.bipush (-101), 2) := by decide +kernel
theorem dX8_free_18 : decode cX8_free 18 = .ok (.ireturn, 1) := by decide +kernel
theorem dX8_free_19 : decode cX8_free 19 = .ok (.aload_n 0, 1) := by decide +kernel
theorem dX8_free_20 : decode cX8_free 20 = .ok (.iload_n 1, 1) := by decide +kernel
theorem dX8_free_21 : decode cX8_free 21 = .ok (.iload_n 2, 1) := by decide +kernel
theorem dX8_free_22 : decode cX8_free 22 = .ok (.invokevirtual 190, 3) := by decide +kernel
theorem dX8_free_25 : decode cX8_free 25 = .ok (.ifCond .ne 6, 3) := by decide +kernel
theorem dX8_free_28 : decode cX8_free 28 = .ok (.bipush (-102), 2) := by decide +kernel
theorem dX8_free_30 : decode cX8_free 30 = .ok (.ireturn, 1) := by decide +kernel
theorem dX8_free_31 : decode cX8_free 31 = .ok (.iload_n 2, 1) := by decide +kernel
theorem dX8_free_32 : decode cX8_free 32 = .ok (.aload_n 0, 1) := by decide +kernel
theorem dX8_free_33 : decode cX8_free 33 = .ok (.getfield 49, 3) := by decide +kernel
theorem dX8_free_36 : decode cX8_free 36 = .ok (.iconst 5, 1) := by decide +kernel
theorem dX8_free_37 : decode cX8_free 37 = .ok (.iload_n 1, 1) := by decide +kernel
theorem dX8_free_38 : decode cX8_free 38 = .ok (.imul, 1) := by decide +kernel
theorem dX8_free_39 : decode cX8_free 39 = .ok (.iconst 2, 1) := by decide +kernel
theorem dX8_free_40 : decode cX8_free 40 = .ok (.iadd, 1) := by decide +kernel
theorem dX8_free_41 : decode cX8_free 41 = .ok (.iaload, 1) := by decide +kernel
theorem dX8_free_42 : decode cX8_free 42 = .ok (.isub, 1) := by decide +kernel
theorem dX8_free_43 : decode cX8_free 43 = .ok (.aload_n 0, 1) := by decide +kernel
theorem dX8_free_44 : decode cX8_free 44 = .ok (.getfield 49, 3) := by decide +kernel
theorem dX8_free_47 : decode cX8_free 47 = .ok (.iconst 5, 1) := by decide +kernel
theorem dX8_free_48 : decode cX8_free 48 = .ok (.iload_n 1, 1) := by decide +kernel
theorem dX8_free_49 : decode cX8_free 49 = .ok (.imul, 1) := by decide +kernel
theorem dX8_free_50 : decode cX8_free 50 = .ok (.iconst 3, 1) := by decide +kernel
theorem dX8_free_51 : decode cX8_free 51 = .ok (.iadd, 1) := by decide +kernel
theorem dX8_free_52 : decode cX8_free 52 = .ok (.iaload, 1) := by decide +kernel
theorem dX8_free_53 : decode cX8_free 53 = .ok (.if_icmp .gt 26, 3) := by decide +kernel
theorem dX8_free_56 : decode cX8_free 56 = .ok (.aload_n 0, 1) := by decide +kernel
theorem dX8_free_57 : decode cX8_free 57 = .ok (.iload_n 1, 1) := by decide +kernel
theorem dX8_free_58 : decode cX8_free 58 = .ok (.iload_n 2, 1) := by decide +kernel
theorem dX8_free_59 : decode cX8_free 59 = .ok (.invokevirtual 193, 3) := by decide +kernel
theorem dX8_free_62 : decode cX8_free 62 = .ok (.aload_n 0, 1) := by decide +kernel
theorem dX8_free_63 : decode cX8_free 63 = .ok (.getfield 49, 3) := by decide +kernel
theorem dX8_free_66 : decode cX8_free 66 = .ok (.iconst 5, 1) := by decide +kernel
theorem dX8_free_67 : decode cX8_free 67 = .ok (.iload_n 1, 1) := by decide +kernel
theorem dX8_free_68 : decode cX8_free 68 = .ok (.imul, 1) := by decide +kernel
theorem dX8_free_69 : decode cX8_free 69 = .ok (.iconst 4, 1) := by decide +kernel
theorem dX8_free_70 : decode cX8_free 70 = .ok (.iadd, 1) := by decide +kernel
theorem dX8_free_71 : decode cX8_free 71 = .ok (.iaload, 1) := by decide +kernel
theorem dX8_free_72 : decode cX8_free 72 = .ok (.if_icmp .lt 7, 3) := by decide +kernel
theorem dX8_free_75 : decode cX8_free 75 = .ok (.iconst 1, 1) := by decide +kernel
theorem dX8_free_76 : decode cX8_free 76 = .ok (.goto 4, 3) := by decide +kernel
theorem dX8_free_79 : decode cX8_free 79 = .ok (.iconst 0, 1) := by decide +kernel
theorem dX8_free_80 : decode cX8_free 80 = .ok (.ireturn, 1) := by decide +kernel
set_option maxRecDepth 20000 in
theorem ggX8_changed_X8_in : GoodIn wsX8_changed wsX8_in := goodIn_r _ [5] (by decide +kernel) (by decide +kernel)
set_option maxRecDepth 20000 in
theorem gX8_changed_X8_in : GoodIn wsX8_changed (va_wsS RX8 58 yX8_in wsX8_in) := goodIn_app (goodIn_of _ (by decide +kernel)) ggX8_changed_X8_in
set_option maxRecDepth 20000 in
theorem ggX8_changed_X8_isLater : GoodIn wsX8_changed wsX8_isLater := goodIn_r _ [9, 10, 11, 12, 4, 13, 14, 2, 3, 5, 26, 27, 28, 29, 30, 31, 32, 33, 34, 35, 36, 37, 38, 39, 40, 41, 42, 43, 44, 45, 46, 47, 48, 49, 50, 51, 52] (by decide +kernel) (by decide +kernel)
set_option maxRecDepth 20000 in
theorem gX8_changed_X8_isLater : GoodIn wsX8_changed (wsV RX8 190 RX8 yX8_isLater wsX8_isLater) := goodIn_app (goodIn_of _ (by decide +kernel)) ggX8_changed_X8_isLater
set_option maxRecDepth 20000 in
theorem ggX8_changed_X8_changedOf : GoodIn wsX8_changed wsX8_changedOf := goodIn_r _ [18, 10, 19, 20, 21, 22, 4, 23, 24, 25, 26, 27, 28, 29, 30, 31, 32, 33, 34, 35, 36, 37, 38, 39, 40, 41, 42, 43, 44, 45, 46, 47, 48, 49, 50, 51, 52] (by decide +kernel) (by decide +kernel)
set_option maxRecDepth 20000 in
theorem gX8_changed_X8_changedOf : GoodIn wsX8_changed (wsV RX8 193 RX8 yX8_changedOf wsX8_changedOf) := goodIn_app (goodIn_of _ (by decide +kernel)) ggX8_changed_X8_changedOf
theorem dX8_changed_0 : decode cX8_changed 0 = .ok (.iload_n 1, 1) := by decide +kernel
theorem dX8_changed_1 : decode cX8_changed 1 = .ok (.i2l, 1) := by decide +kernel
theorem dX8_changed_2 : decode cX8_changed 2 = .ok (.lconst 0, 1) := by decide +kernel
theorem dX8_changed_3 : decode cX8_changed 3 = .ok (.aload_n 0, 1) := by decide +kernel
theorem dX8_changed_4 : decode cX8_changed 4 = .ok (.getfield 187, 3) := by decide +kernel
theorem dX8_changed_7 : decode cX8_changed 7 = .ok (.iconst 1, 1) := by decide +kernel
theorem dX8_changed_8 : decode cX8_changed 8 = .ok (.isub, 1) := by decide +kernel
theorem dX8_changed_9 : decode cX8_changed 9 = .ok (.i2l, 1) := by decide +kernel
theorem dX8_changed_10 : decode cX8_changed 10 = .ok (.invokestatic 58, 3) := by decide +kernel
theorem dX8_changed_13 : decode cX8_changed 13 = .ok (.ifCond .ne 6, 3) := by decide +kernel
theorem dX8_changed_16 : decode cX8_changed 16 = .ok (.bipush (-101), 2) := by decide +kernel
theorem dX8_changed_18 : decode cX8_changed 18 = .ok (.ireturn, 1) := by decide +kernel
theorem dX8_changed_19 : decode cX8_changed 19 = .ok (.aload_n 0, 1) := by decide +kernel
theorem dX8_changed_20 : decode cX8_changed 20 = .ok (.iload_n 1, 1) := by decide +kernel
theorem dX8_changed_21 : decode cX8_changed 21 = .ok (.iload_n 2, 1) := by decide +kernel
theorem dX8_changed_22 : decode cX8_changed 22 = .ok (.invokevirtual 190, 3) := by decide +kernel
theorem dX8_changed_25 : decode cX8_changed 25 = .ok (.ifCond .eq 12, 3) := by decide +kernel
theorem dX8_changed_28 : decode cX8_changed 28 = .ok (.aload_n 0, 1) := by decide +kernel
theorem dX8_changed_29 : decode cX8_changed 29 = .ok (.iload_n 1, 1) := by decide +kernel
theorem dX8_changed_30 : decode cX8_changed 30 = .ok (.iload_n 2, 1) := by decide +kernel
theorem dX8_changed_31 : decode cX8_changed 31 = .ok (.invokevirtual 193, 3) := by decide +kernel
theorem dX8_changed_34 : decode cX8_changed 34 = .ok (.goto 5, 3) := by decide +kernel
theorem dX8_changed_37 : decode cX8_changed 37 = .ok (.bipush (-102), 2) := by decide +kernel
theorem dX8_changed_39 : decode cX8_changed 39 = .ok (.ireturn, 1) := by decide +kernel
theorem dX8_count_0 : decode cX8_count 0 = .ok (.iload_n 1, 1) := by decide +kernel
theorem dX8_count_1 : decode cX8_count 1 = .ok (.tableswitch 119 0 7 #[47, 52, 57, 62, 67, 72, 77, 114], 47) := by decide +kernel
theorem dX8_count_48 : decode cX8_count 48 = .ok (.aload_n 0, 1) := by decide +kernel
theorem dX8_count_49 : decode cX8_count 49 = .ok (.getfield 64, 3) := by decide +kernel
theorem dX8_count_52 : decode cX8_count 52 = .ok (.ireturn, 1) := by decide +kernel
theorem dX8_count_53 : decode cX8_count 53 = .ok (.aload_n 0, 1) := by decide +kernel
theorem dX8_count_54 : decode cX8_count 54 = .ok (.getfield 88, 3) := by decide +kernel
theorem dX8_count_57 : decode cX8_count 57 = .ok (.ireturn, 1) := by decide +kernel
theorem dX8_count_58 : decode cX8_count 58 = .ok (.aload_n 0, 1) := by decide +kernel
theorem dX8_count_59 : decode cX8_count 59 = .ok (.getfield 151, 3) := by decide +kernel
theorem dX8_count_62 : decode cX8_count 62 = .ok (.ireturn, 1) := by decide +kernel
theorem dX8_count_63 : decode cX8_count 63 = .ok (.aload_n 0, 1) := by decide +kernel
theorem dX8_count_64 : decode cX8_count 64 = .ok (.getfield 178, 3) := by decide +kernel
theorem dX8_count_67 : decode cX8_count 67 = .ok (.ireturn, 1) := by decide +kernel
theorem dX8_count_68 : decode cX8_count 68 = .ok (.aload_n 0, 1) := by decide +kernel
theorem dX8_count_69 : decode cX8_count 69 = .ok (.getfield 187, 3) := by decide +kernel
theorem dX8_count_72 : decode cX8_count 72 = .ok (.ireturn, 1) := by decide +kernel
theorem dX8_count_73 : decode cX8_count 73 = .ok (.aload_n 0, 1) := by decide +kernel
