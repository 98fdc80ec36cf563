theorem dX7_bears_12 : decode cX7_bears 12 = .ok (.astore 7, 2) := by decide +kernel
theorem dX7_bears_14 : decode cX7_bears 14 = .ok (.aload 6, 2) := by decide +kernel
theorem dX7_bears_16 : decode cX7_bears 16 = .ok (.ifnull 16, 3) := by decide +kernel
theorem dX7_bears_19 : decode cX7_bears 19 = .ok (.aload 7, 2) := by decide +kernel
theorem dX7_bears_21 : decode cX7_bears 21 = .ok (.ifnull 11, 3) := by decide +kernel
theorem dX7_bears_24 : decode cX7_bears 24 = .ok (.iload 5, 2) := by decide +kernel
theorem dX7_bears_26 : decode cX7_bears 26 = .ok (.invokestatic 85, 3) := by decide +kernel
theorem dX7_bears_29 : decode cX7_bears 29 = .ok (.ifCond .ne 6, 3) := by decide +kernel
theorem dX7_bears_32 : decode cX7_bears 32 = .ok (.bipush (-101), 2) := by decide +kernel
theorem dX7_bears_34 : decode cX7_bears 34 = .ok (.ireturn, 1) := by decide +kernel
theorem dX7_bears_35 : decode cX7_bears 35 = .ok (.iload_n 3, 1) := by decide +kernel
theorem dX7_bears_36 : decode cX7_bears 36 = .ok (.invokestatic 97, 3) := by decide +kernel
theorem dX7_bears_39 : decode cX7_bears 39 = .ok (.ifCond .eq 11, 3) := by decide +kernel
theorem dX7_bears_42 : decode cX7_bears 42 = .ok (.iload 4, 2) := by decide +kernel
theorem dX7_bears_44 : decode cX7_bears 44 = .ok (.invokestatic 136, 3) := by decide +kernel
theorem dX7_bears_47 : decode cX7_bears 47 = .ok (.ifCond .ne 6, 3) := by decide +kernel
theorem dX7_bears_50 : decode cX7_bears 50 = .ok (.bipush (-102), 2) := by decide +kernel
theorem dX7_bears_52 : decode cX7_bears 52 = .ok (.ireturn, 1) := by decide +kernel
theorem dX7_bears_53 : decode cX7_bears 53 = .ok (.aload 7, 2) := by decide +kernel
theorem dX7_bears_55 : decode cX7_bears 55 = .ok (.iload_n 3, 1) := by decide +kernel
theorem dX7_bears_56 : decode cX7_bears 56 = .ok (.invokevirtual 115, 3) := by decide +kernel
theorem dX7_bears_59 : decode cX7_bears 59 = .ok (.astore 8, 2) := by decide +kernel
theorem dX7_bears_61 : decode cX7_bears 61 = .ok (.aload 8, 2) := by decide +kernel
theorem dX7_bears_63 : decode cX7_bears 63 = .ok (.ifnonnull 6, 3) := by decide +kernel
theorem dX7_bears_66 : decode cX7_bears 66 = .ok (.bipush (-103), 2) := by decide +kernel
theorem dX7_bears_68 : decode cX7_bears 68 = .ok (.ireturn, 1) := by decide +kernel
theorem dX7_bears_69 : decode cX7_bears 69 = .ok (.aload_n 0, 1) := by decide +kernel
theorem dX7_bears_70 : decode cX7_bears 70 = .ok (.getfield 77, 3) := by decide +kernel
theorem dX7_bears_73 : decode cX7_bears 73 = .ok (.aload 6, 2) := by decide +kernel
theorem dX7_bears_75 : decode cX7_bears 75 = .ok (.aload 8, 2) := by decide +kernel
theorem dX7_bears_77 : decode cX7_bears 77 = .ok (.iload 4, 2) := by decide +kernel
theorem dX7_bears_79 : decode cX7_bears 79 = .ok (.invokevirtual 139, 3) := by decide +kernel
theorem dX7_bears_82 : decode cX7_bears 82 = .ok (.aload_n 0, 1) := by decide +kernel
theorem dX7_bears_83 : decode cX7_bears 83 = .ok (.getfield 77, 3) := by decide +kernel
theorem dX7_bears_86 : decode cX7_bears 86 = .ok (.getfield 143, 3) := by decide +kernel
theorem dX7_bears_89 : decode cX7_bears 89 = .ok (.iload 5, 2) := by decide +kernel
theorem dX7_bears_91 : decode cX7_bears 91 = .ok (.iaload, 1) := by decide +kernel
theorem dX7_bears_92 : decode cX7_bears 92 = .ok (.ireturn, 1) := by decide +kernel
set_option maxRecDepth 20000 in
theorem ggX7_fault_X7_treeAt : GoodIn wsX7_fault wsX7_treeAt := goodIn_r _ [6, 7, 8, 94, 95, 96, 97, 98, 99, 100, 101, 102, 103, 104, 105, 106, 107, 108, 109, 110, 111] (by decide +kernel) (by decide +kernel)
set_option maxRecDepth 20000 in
theorem gX7_fault_X7_treeAt : GoodIn wsX7_fault (wsV RX7 125 RX7 yX7_treeAt wsX7_treeAt) := goodIn_app (goodIn_of _ (by decide +kernel)) ggX7_fault_X7_treeAt
set_option maxRecDepth 20000 in
theorem ggX7_fault_X7_horseAt : GoodIn wsX7_fault wsX7_horseAt := goodIn_r _ [12, 13, 14, 94, 95, 96, 97, 98, 99, 100, 101, 102, 103, 104, 105, 106, 107, 108, 109, 110, 111] (by decide +kernel) (by decide +kernel)
set_option maxRecDepth 20000 in
theorem gX7_fault_X7_horseAt : GoodIn wsX7_fault (wsV RX7 93 RX7 yX7_horseAt wsX7_horseAt) := goodIn_app (goodIn_of _ (by decide +kernel)) ggX7_fault_X7_horseAt
set_option maxRecDepth 20000 in
theorem ggX7_fault_X7_isDay : GoodIn wsX7_fault wsX7_isDay := goodIn_r _ [17, 18, 19, 5, 20] (by decide +kernel) (by decide +kernel)
set_option maxRecDepth 20000 in
theorem gX7_fault_X7_isDay : GoodIn wsX7_fault (va_wsS RX7 97 yX7_isDay wsX7_isDay) := goodIn_app (goodIn_of _ (by decide +kernel)) ggX7_fault_X7_isDay
set_option maxRecDepth 20000 in
theorem ggX7_fault_X7_isLoad : GoodIn wsX7_fault wsX7_isLoad := goodIn_r _ [23, 18, 19, 5, 20] (by decide +kernel) (by decide +kernel)
set_option maxRecDepth 20000 in
theorem gX7_fault_X7_isLoad : GoodIn wsX7_fault (va_wsS RX7 136 yX7_isLoad wsX7_isLoad) := goodIn_app (goodIn_of _ (by decide +kernel)) ggX7_fault_X7_isLoad
set_option maxRecDepth 20000 in
theorem ggX7_fault_X7_isWithin : GoodIn wsX7_fault wsX7_isWithin := goodIn_r _ [20] (by decide +kernel) (by decide +kernel)
set_option maxRecDepth 20000 in
theorem gX7_fault_X7_isWithin : GoodIn wsX7_fault (va_wsS RX7 89 yX7_isWithin wsX7_isWithin) := goodIn_app (goodIn_of _ (by decide +kernel)) ggX7_fault_X7_isWithin
set_option maxRecDepth 20000 in
theorem ggX7_fault_X2_backOn : GoodIn wsX7_fault wsX2_backOn := goodIn_r _ [27, 28, 29, 112, 113, 114, 115] (by decide +kernel) (by decide +kernel)
set_option maxRecDepth 20000 in
theorem gX7_fault_X2_backOn_n115 : GoodIn wsX7_fault (wsX2_backOn) := ggX7_fault_X2_backOn
set_option maxRecDepth 20000 in
theorem ggX7_fault_X5_settle : GoodIn wsX7_fault wsX5_settle := goodIn_r _ [33, 34, 35, 36, 37, 38, 39, 40, 41, 42, 31, 43, 44, 45, 46, 47, 48, 49, 50, 51, 52, 53, 54, 55, 56, 57, 58, 59, 60, 61, 62, 63, 64, 116, 117, 114, 115, 118, 119] (by decide +kernel) (by decide +kernel)
set_option maxRecDepth 20000 in
theorem gX7_fault_X5_settle_n139 : GoodIn wsX7_fault (wsX5_settle) := ggX7_fault_X5_settle
set_option maxRecDepth 20000 in
theorem ggX7_fault_X5_firstFault : GoodIn wsX7_fault wsX5_firstFault := goodIn_r _ [67, 68, 69, 70, 31, 71, 34, 72, 73, 74, 75, 76, 77, 78, 79, 80, 81, 82, 83, 116, 117] (by decide +kernel) (by decide +kernel)
set_option maxRecDepth 20000 in
theorem gX7_fault_X5_firstFault_n146 : GoodIn wsX7_fault (wsX5_firstFault) := ggX7_fault_X5_firstFault
set_option maxRecDepth 20000 in
theorem ggX7_fault_X5_faultPlace : GoodIn wsX7_fault wsX5_faultPlace := goodIn_r _ [86, 87, 65, 66, 31, 67, 68, 69, 70, 71, 34, 72, 73, 74, 75, 76, 77, 78, 79, 80, 81, 82, 83, 116, 117] (by decide +kernel) (by decide +kernel)
set_option maxRecDepth 20000 in
theorem gX7_fault_X5_faultPlace_n149 : GoodIn wsX7_fault (wsX5_faultPlace) := ggX7_fault_X5_faultPlace
set_option maxRecDepth 20000 in
theorem ggX7_fault_X5_most : GoodIn wsX7_fault wsX5_most := goodIn_r _ [90, 34, 61, 62, 63, 31, 64, 116, 117] (by decide +kernel) (by decide +kernel)
set_option maxRecDepth 20000 in
theorem gX7_fault_X5_most_n152 : GoodIn wsX7_fault (wsX5_most) := ggX7_fault_X5_most
set_option maxRecDepth 20000 in
theorem ggX7_fault_X5_pressedCount : GoodIn wsX7_fault wsX5_pressedCount := goodIn_r _ [93, 80, 81, 82, 31, 83, 34, 116, 117] (by decide +kernel) (by decide +kernel)
set_option maxRecDepth 20000 in
theorem gX7_fault_X5_pressedCount_n156 : GoodIn wsX7_fault (wsX5_pressedCount) := ggX7_fault_X5_pressedCount
theorem dX7_fault_0 : decode cX7_fault 0 = .ok (.aload_n 0, 1) := by decide +kernel
theorem dX7_fault_1 : decode cX7_fault 1 = .ok (.iload_n 1, 1) := by decide +kernel
theorem dX7_fault_2 : decode cX7_fault 2 = .ok (.invokevirtual 125, 3) := by decide +kernel
theorem dX7_fault_5 : decode cX7_fault 5 = .ok (.astore 7, 2) := by decide +kernel
theorem dX7_fault_7 : decode cX7_fault 7 = .ok (.aload_n 0, 1) := by decide +kernel
theorem dX7_fault_8 : decode cX7_fault 8 = .ok (.iload_n 2, 1) := by decide +kernel
theorem dX7_fault_9 : decode cX7_fault 9 = .ok (.invokevirtual 93, 3) := by decide +kernel
theorem dX7_fault_12 : decode cX7_fault 12 = .ok (.astore 8, 2) := by decide +kernel
theorem dX7_fault_14 : decode cX7_fault 14 = .ok (.aload 7, 2) := by decide +kernel
theorem dX7_fault_16 : decode cX7_fault 16 = .ok (.ifnull 8, 3) := by decide +kernel
theorem dX7_fault_19 : decode cX7_fault 19 = .ok (.aload 8, 2) := by decide +kernel
theorem dX7_fault_21 : decode cX7_fault 21 = .ok (.ifnonnull 6, 3) := by decide +kernel
theorem dX7_fault_24 : decode cX7_fault 24 = .ok (.bipush (-101), 2) := by decide +kernel
theorem dX7_fault_26 : decode cX7_fault 26 = .ok (.ireturn, 1) := by decide +kernel
theorem dX7_fault_27 : decode cX7_fault 27 = .ok (.iload_n 3, 1) := by decide +kernel
theorem dX7_fault_28 : decode cX7_fault 28 = .ok (.invokestatic 97, 3) := by decide +kernel
theorem dX7_fault_31 : decode cX7_fault 31 = .ok (.ifCond .eq 29, 3) := by decide +kernel
theorem dX7_fault_34 : decode cX7_fault 34 = .ok (.iload 4, 2) := by decide +kernel
theorem dX7_fault_36 : decode cX7_fault 36 = .ok (.invokestatic 136, 3) := by decide +kernel
theorem dX7_fault_39 : decode cX7_fault 39 = .ok (.ifCond .eq 21, 3) := by decide +kernel
theorem dX7_fault_42 : decode cX7_fault 42 = .ok (.iload 5, 2) := by decide +kernel
theorem dX7_fault_44 : decode cX7_fault 44 = .ok (.invokestatic 136, 3) := by decide +kernel
theorem dX7_fault_47 : decode cX7_fault 47 = .ok (.ifCond .eq 13, 3) := by decide +kernel
theorem dX7_fault_50 : decode cX7_fault 50 = .ok (.iload 6, 2) := by decide +kernel
theorem dX7_fault_52 : decode cX7_fault 52 = .ok (.iconst 0, 1) := by decide +kernel
theorem dX7_fault_53 : decode cX7_fault 53 = .ok (.iconst 3, 1) := by decide +kernel
theorem dX7_fault_54 : decode cX7_fault 54 = .ok (.invokestatic 89, 3) := by decide +kernel
theorem dX7_fault_57 : decode cX7_fault 57 = .ok (.ifCond .ne 6, 3) := by decide +kernel
theorem dX7_fault_60 : decode cX7_fault 60 = .ok (.bipush (-102), 2) := by decide +kernel
theorem dX7_fault_62 : decode cX7_fault 62 = .ok (.ireturn, 1) := by decide +kernel
theorem dX7_fault_63 : decode cX7_fault 63 = .ok (.aload 8, 2) := by decide +kernel
theorem dX7_fault_65 : decode cX7_fault 65 = .ok (.iload_n 3, 1) := by decide +kernel
theorem dX7_fault_66 : decode cX7_fault 66 = .ok (.invokevirtual 115, 3) := by decide +kernel
theorem dX7_fault_69 : decode cX7_fault 69 = .ok (.astore 9, 2) := by decide +kernel
theorem dX7_fault_71 : decode cX7_fault 71 = .ok (.aload 9, 2) := by decide +kernel
theorem dX7_fault_73 : decode cX7_fault 73 = .ok (.ifnonnull 6, 3) := by decide +kernel
theorem dX7_fault_76 : decode cX7_fault 76 = .ok (.bipush (-103), 2) := by decide +kernel
theorem dX7_fault_78 : decode cX7_fault 78 = .ok (.ireturn, 1) := by decide +kernel
theorem dX7_fault_79 : decode cX7_fault 79 = .ok (.aload_n 0, 1) := by decide +kernel
theorem dX7_fault_80 : decode cX7_fault 80 = .ok (.getfield 77, 3) := by decide +kernel
theorem dX7_fault_83 : decode cX7_fault 83 = .ok (.aload 7, 2) := by decide +kernel
theorem dX7_fault_85 : decode cX7_fault 85 = .ok (.aload 9, 2) := by decide +kernel
theorem dX7_fault_87 : decode cX7_fault 87 = .ok (.iload 4, 2) := by decide +kernel
theorem dX7_fault_89 : decode cX7_fault 89 = .ok (.invokevirtual 139, 3) := by decide +kernel
theorem dX7_fault_92 : decode cX7_fault 92 = .ok (.iload 6, 2) := by decide +kernel
theorem dX7_fault_94 : decode cX7_fault 94 = .ok (.tableswitch 54 0 2 #[26, 36, 46], 26) := by decide +kernel
theorem dX7_fault_120 : decode cX7_fault 120 = .ok (.aload_n 0, 1) := by decide +kernel
theorem dX7_fault_121 : decode cX7_fault 121 = .ok (.getfield 77, 3) := by decide +kernel
theorem dX7_fault_124 : decode cX7_fault 124 = .ok (.iload 5, 2) := by decide +kernel
theorem dX7_fault_126 : decode cX7_fault 126 = .ok (.invokevirtual 146, 3) := by decide +kernel
theorem dX7_fault_129 : decode cX7_fault 129 = .ok (.ireturn, 1) := by decide +kernel
theorem dX7_fault_130 : decode cX7_fault 130 = .ok (.aload_n 0, 1) := by decide +kernel
theorem dX7_fault_131 : decode cX7_fault 131 = .ok (.getfield 77, 3) := by decide +kernel
theorem dX7_fault_134 : decode cX7_fault 134 = .ok (.iload 5, 2) := by decide +kernel
theorem dX7_fault_136 : decode cX7_fault 136 = .ok (.invokevirtual 149, 3) := by decide +kernel
theorem dX7_fault_139 : decode cX7_fault 139 = .ok (.ireturn, 1) := by decide +kernel
theorem dX7_fault_140 : decode cX7_fault 140 = .ok (.aload_n 0, 1) := by decide +kernel
theorem dX7_fault_141 : decode cX7_fault 141 = .ok (.getfield 77, 3) := by decide +kernel
theorem dX7_fault_144 : decode cX7_fault 144 = .ok (.invokevirtual 152, 3) := by decide +kernel
theorem dX7_fault_147 : decode cX7_fault 147 = .ok (.ireturn, 1) := by decide +kernel
theorem dX7_fault_148 : decode cX7_fault 148 = .ok (.aload_n 0, 1) := by decide +kernel
theorem dX7_fault_149 : decode cX7_fault 149 = .ok (.getfield 77, 3) := by decide +kernel
theorem dX7_fault_152 : decode cX7_fault 152 = .ok (.invokevirtual 156, 3) := by decide +kernel
theorem dX7_fault_155 : decode cX7_fault 155 = .ok (.ireturn, 1) := by decide +kernel
set_option maxRecDepth 20000 in
theorem ggX7_best_X7_horseAt : GoodIn wsX7_best wsX7_horseAt := goodIn_r _ [7, 8, 9, 87, 88, 89, 90, 91, 92, 93, 94, 95, 96, 97, 98, 99, 100, 101, 102, 103, 104] (by decide +kernel) (by decide +kernel)
set_option maxRecDepth 20000 in
theorem gX7_best_X7_horseAt : GoodIn wsX7_best (wsV RX7 93 RX7 yX7_horseAt wsX7_horseAt) := goodIn_app (goodIn_of _ (by decide +kernel)) ggX7_best_X7_horseAt
set_option maxRecDepth 20000 in
theorem ggX7_best_X7_isDay : GoodIn wsX7_best wsX7_isDay := goodIn_r _ [12, 13, 14, 6, 15] (by decide +kernel) (by decide +kernel)
set_option maxRecDepth 20000 in
theorem gX7_best_X7_isDay : GoodIn wsX7_best (va_wsS RX7 97 yX7_isDay wsX7_isDay) := goodIn_app (goodIn_of _ (by decide +kernel)) ggX7_best_X7_isDay
set_option maxRecDepth 20000 in
theorem ggX7_best_X7_isLoad : GoodIn wsX7_best wsX7_isLoad := goodIn_r _ [18, 13, 14, 6, 15] (by decide +kernel) (by decide +kernel)
set_option maxRecDepth 20000 in
theorem gX7_best_X7_isLoad : GoodIn wsX7_best (va_wsS RX7 136 yX7_isLoad wsX7_isLoad) := goodIn_app (goodIn_of _ (by decide +kernel)) ggX7_best_X7_isLoad
set_option maxRecDepth 20000 in
theorem ggX7_best_X2_backOn : GoodIn wsX7_best wsX2_backOn := goodIn_r _ [22, 23, 24, 105, 106, 107, 108] (by decide +kernel) (by decide +kernel)
set_option maxRecDepth 20000 in
theorem gX7_best_X2_backOn_n115 : GoodIn wsX7_best (wsX2_backOn) := ggX7_best_X2_backOn
set_option maxRecDepth 20000 in
theorem ggX7_best_X7_fitsOn : GoodIn wsX7_best wsX7_fitsOn := goodIn_r _ [28, 2, 29, 30, 31, 32, 33, 34, 35, 36, 37, 38, 39, 40, 41, 42, 43, 44, 45, 46, 47, 48, 49, 50, 51, 52, 53, 54, 55, 56, 57, 58, 59, 60, 61, 62, 63, 64, 65, 66, 67, 68, 69, 70, 71, 72, 73, 74, 75, 76, 77, 78, 79, 80, 81, 82, 83, 87, 88, 89, 90, 91, 92, 93, 94, 95, 96, 97, 98, 99, 100, 101, 102, 103, 104, 109, 110, 107, 108, 111, 112] (by decide +kernel) (by decide +kernel)
set_option maxRecDepth 20000 in
theorem gX7_best_X7_fitsOn : GoodIn wsX7_best (wsV RX7 159 RX7 yX7_fitsOn wsX7_fitsOn) := goodIn_app (goodIn_of _ (by decide +kernel)) ggX7_best_X7_fitsOn
set_option maxRecDepth 20000 in
theorem ggX7_best_X5_most : GoodIn wsX7_best wsX5_most := goodIn_r _ [86, 34, 61, 62, 63, 31, 64, 109, 110] (by decide +kernel) (by decide +kernel)
set_option maxRecDepth 20000 in
theorem gX7_best_X5_most_n152 : GoodIn wsX7_best (wsX5_most) := ggX7_best_X5_most
theorem dX7_best_0 : decode cX7_best 0 = .ok (.aload_n 0, 1) := by decide +kernel
theorem dX7_best_1 : decode cX7_best 1 = .ok (.iload_n 1, 1) := by decide +kernel
theorem dX7_best_2 : decode cX7_best 2 = .ok (.invokevirtual 93, 3) := by decide +kernel
theorem dX7_best_5 : decode cX7_best 5 = .ok (.astore 5, 2) := by decide +kernel
theorem dX7_best_7 : decode cX7_best 7 = .ok (.aload 5, 2) := by decide +kernel
theorem dX7_best_9 : decode cX7_best 9 = .ok (.ifnonnull 6, 3) := by decide +kernel
theorem dX7_best_12 : decode cX7_best 12 = .ok (.bipush (-101), 2) := by decide +kernel
theorem dX7_best_14 : decode cX7_best 14 = .ok (.ireturn, 1) := by decide +kernel
theorem dX7_best_15 : decode cX7_best 15 = .ok (.iload_n 2, 1) := by decide +kernel
theorem dX7_best_16 : decode cX7_best 16 = .ok (.invokestatic 97, 3) := by decide +kernel
theorem dX7_best_19 : decode cX7_best 19 = .ok (.ifCond .eq 18, 3) := by decide +kernel
theorem dX7_best_22 : decode cX7_best 22 = .ok (.iload_n 3, 1) := by decide +kernel
theorem dX7_best_23 : decode cX7_best 23 = .ok (.invokestatic 136, 3) := by decide +kernel
theorem dX7_best_26 : decode cX7_best 26 = .ok (.ifCond .eq 11, 3) := by decide +kernel
theorem dX7_best_29 : decode cX7_best 29 = .ok (.iload 4, 2) := by decide +kernel
theorem dX7_best_31 : decode cX7_best 31 = .ok (.invokestatic 136, 3) := by decide +kernel
theorem dX7_best_34 : decode cX7_best 34 = .ok (.ifCond .ne 6, 3) := by decide +kernel
theorem dX7_best_37 : decode cX7_best 37 = .ok (.bipush (-102), 2) := by decide +kernel
theorem dX7_best_39 : decode cX7_best 39 = .ok (.ireturn, 1) := by decide +kernel
theorem dX7_best_40 : decode cX7_best 40 = .ok (.aload 5, 2) := by decide +kernel
theorem dX7_best_42 : decode cX7_best 42 = .ok (.iload_n 2, 1) := by decide +kernel
theorem dX7_best_43 : decode cX7_best 43 = .ok (.invokevirtual 115, 3) := by decide +kernel
theorem dX7_best_46 : decode cX7_best 46 = .ok (.astore 6, 2) := by decide +kernel
theorem dX7_best_48 : decode cX7_best 48 = .ok (.aload 6, 2) := by decide +kernel
theorem dX7_best_50 : decode cX7_best 50 = .ok (.ifnonnull 6, 3) := by decide +kernel
theorem dX7_best_53 : decode cX7_best 53 = .ok (.bipush (-103), 2) := by decide +kernel
theorem dX7_best_55 : decode cX7_best 55 = .ok (.ireturn, 1) := by decide +kernel
theorem dX7_best_56 : decode cX7_best 56 = .ok (.iconst (-1), 1) := by decide +kernel
theorem dX7_best_57 : decode cX7_best 57 = .ok (.istore 7, 2) := by decide +kernel
theorem dX7_best_59 : decode cX7_best 59 = .ok (.sipush 2001, 3) := by decide +kernel
theorem dX7_best_62 : decode cX7_best 62 = .ok (.istore 8, 2) := by decide +kernel
theorem dX7_best_64 : decode cX7_best 64 = .ok (.iconst 0, 1) := by decide +kernel
theorem dX7_best_65 : decode cX7_best 65 = .ok (.istore 9, 2) := by decide +kernel
theorem dX7_best_67 : decode cX7_best 67 = .ok (.iload 9, 2) := by decide +kernel
theorem dX7_best_69 : decode cX7_best 69 = .ok (.aload_n 0, 1) := by decide +kernel
theorem dX7_best_70 : decode cX7_best 70 = .ok (.getfield 50, 3) := by decide +kernel
theorem dX7_best_73 : decode cX7_best 73 = .ok (.if_icmp .ge 48, 3) := by decide +kernel
theorem dX7_best_76 : decode cX7_best 76 = .ok (.aload_n 0, 1) := by decide +kernel
theorem dX7_best_77 : decode cX7_best 77 = .ok (.iload 9, 2) := by decide +kernel
theorem dX7_best_79 : decode cX7_best 79 = .ok (.aload 6, 2) := by decide +kernel
theorem dX7_best_81 : decode cX7_best 81 = .ok (.iload_n 3, 1) := by decide +kernel
theorem dX7_best_82 : decode cX7_best 82 = .ok (.iload 4, 2) := by decide +kernel
theorem dX7_best_84 : decode cX7_best 84 = .ok (.invokevirtual 159, 3) := by decide +kernel
theorem dX7_best_87 : decode cX7_best 87 = .ok (.ifCond .eq 28, 3) := by decide +kernel
theorem dX7_best_90 : decode cX7_best 90 = .ok (.aload_n 0, 1) := by decide +kernel
theorem dX7_best_91 : decode cX7_best 91 = .ok (.getfield 77, 3) := by decide +kernel
theorem dX7_best_94 : decode cX7_best 94 = .ok (.invokevirtual 152, 3) := by decide +kernel
theorem dX7_best_97 : decode cX7_best 97 = .ok (.iload 8, 2) := by decide +kernel
theorem dX7_best_99 : decode cX7_best 99 = .ok (.if_icmp .ge 16, 3) := by decide +kernel
theorem dX7_best_102 : decode cX7_best 102 = .ok (.iload 9, 2) := by decide +kernel
theorem dX7_best_104 : decode cX7_best 104 = .ok (.istore 7, 2) := by decide +kernel
theorem dX7_best_106 : decode cX7_best 106 = .ok (.aload_n 0, 1) := by decide +kernel
theorem dX7_best_107 : decode cX7_best 107 = .ok (.getfield 77, 3) := by decide +kernel
theorem dX7_best_110 : decode cX7_best 110 = .ok (.invokevirtual 152, 3) := by decide +kernel
theorem dX7_best_113 : decode cX7_best 113 = .ok (.istore 8, 2) := by decide +kernel
theorem dX7_best_115 : decode cX7_best 115 = .ok (.iinc 9 1, 3) := by decide +kernel
theorem dX7_best_118 : decode cX7_best 118 = .ok (.goto (-51), 3) := by decide +kernel
theorem dX7_best_121 : decode cX7_best 121 = .ok (.iload 7, 2) := by decide +kernel
theorem dX7_best_123 : decode cX7_best 123 = .ok (.ireturn, 1) := by decide +kernel
set_option maxRecDepth 20000 in
theorem ggX7_day_X7_isDay : GoodIn wsX7_day wsX7_isDay := goodIn_r _ [6, 7, 8, 5, 9] (by decide +kernel) (by decide +kernel)
set_option maxRecDepth 20000 in
theorem gX7_day_X7_isDay : GoodIn wsX7_day (va_wsS RX7 97 yX7_isDay wsX7_isDay) := goodIn_app (goodIn_of _ (by decide +kernel)) ggX7_day_X7_isDay
theorem dX7_day_0 : decode cX7_day 0 = .ok (.iload_n 1, 1) := by decide +kernel
theorem dX7_day_1 : decode cX7_day 1 = .ok (.invokestatic 97, 3) := by decide +kernel
theorem dX7_day_4 : decode cX7_day 4 = .ok (.ifCond .ne 6, 3) := by decide +kernel
theorem dX7_day_7 : decode cX7_day 7 = .ok (.bipush (-102), 2) := by decide +kernel
theorem dX7_day_9 : decode cX7_day 9 = .ok (.ireturn, 1) := by decide +kernel
theorem dX7_day_10 : decode cX7_day 10 = .ok (.iconst 0, 1) := by decide +kernel
theorem dX7_day_11 : decode cX7_day 11 = .ok (.istore_n 2, 1) := by decide +kernel
theorem dX7_day_12 : decode cX7_day 12 = .ok (.iload_n 2, 1) := by decide +kernel
theorem dX7_day_13 : decode cX7_day 13 = .ok (.aload_n 0, 1) := by decide +kernel
theorem dX7_day_14 : decode cX7_day 14 = .ok (.getfield 62, 3) := by decide +kernel
theorem dX7_day_17 : decode cX7_day 17 = .ok (.if_icmp .ge 22, 3) := by decide +kernel
theorem dX7_day_20 : decode cX7_day 20 = .ok (.aload_n 0, 1) := by decide +kernel
theorem dX7_day_21 : decode cX7_day 21 = .ok (.getfield 43, 3) := by decide +kernel
theorem dX7_day_24 : decode cX7_day 24 = .ok (.iload_n 2, 1) := by decide +kernel
theorem dX7_day_25 : decode cX7_day 25 = .ok (.iaload, 1) := by decide +kernel
theorem dX7_day_26 : decode cX7_day 26 = .ok (.iload_n 1, 1) := by decide +kernel
theorem dX7_day_27 : decode cX7_day 27 = .ok (.if_icmp .ne 6, 3) := by decide +kernel
theorem dX7_day_30 : decode cX7_day 30 = .ok (.bipush (-103), 2) := by decide +kernel
theorem dX7_day_32 : decode cX7_day 32 = .ok (.ireturn, 1) := by decide +kernel
theorem dX7_day_33 : decode cX7_day 33 = .ok (.iinc 2 1, 3) := by decide +kernel
theorem dX7_day_36 : decode cX7_day 36 = .ok (.goto (-24), 3) := by decide +kernel
theorem dX7_day_39 : decode cX7_day 39 = .ok (.aload_n 0, 1) := by decide +kernel
theorem dX7_day_40 : decode cX7_day 40 = .ok (.getfield 62, 3) := by decide +kernel
theorem dX7_day_43 : decode cX7_day 43 = .ok (.bipush 6, 2) := by decide +kernel
theorem dX7_day_45 : decode cX7_day 45 = .ok (.if_icmp .lt 6, 3) := by decide +kernel
theorem dX7_day_48 : decode cX7_day 48 = .ok (.bipush (-104), 2) := by decide +kernel
theorem dX7_day_50 : decode cX7_day 50 = .ok (.ireturn, 1) := by decide +kernel
theorem dX7_day_51 : decode cX7_day 51 = .ok (.aload_n 0, 1) := by decide +kernel
theorem dX7_day_52 : decode cX7_day 52 = .ok (.getfield 43, 3) := by decide +kernel
theorem dX7_day_55 : decode cX7_day 55 = .ok (.aload_n 0, 1) := by decide +kernel
theorem dX7_day_56 : decode cX7_day 56 = .ok (.getfield 62, 3) := by decide +kernel
theorem dX7_day_59 : decode cX7_day 59 = .ok (.iload_n 1, 1) := by decide +kernel
theorem dX7_day_60 : decode cX7_day 60 = .ok (.iastore, 1) := by decide +kernel
theorem dX7_day_61 : decode cX7_day 61 = .ok (.aload_n 0, 1) := by decide +kernel
theorem dX7_day_62 : decode cX7_day 62 = .ok (.dup, 1) := by decide +kernel
theorem dX7_day_63 : decode cX7_day 63 = .ok (.getfield 62, 3) := by decide +kernel
theorem dX7_day_66 : decode cX7_day 66 = .ok (.iconst 1, 1) := by decide +kernel
theorem dX7_day_67 : decode cX7_day 67 = .ok (.iadd, 1) := by decide +kernel
theorem dX7_day_68 : decode cX7_day 68 = .ok (.putfield 62, 3) := by decide +kernel
theorem dX7_day_71 : decode cX7_day 71 = .ok (.aload_n 0, 1) := by decide +kernel
theorem dX7_day_72 : decode cX7_day 72 = .ok (.getfield 62, 3) := by decide +kernel
theorem dX7_day_75 : decode cX7_day 75 = .ok (.ireturn, 1) := by decide +kernel
theorem dX7_clear_0 : decode cX7_clear 0 = .ok (.aload_n 0, 1) := by decide +kernel
theorem dX7_clear_1 : decode cX7_clear 1 = .ok (.getfield 62, 3) := by decide +kernel
theorem dX7_clear_4 : decode cX7_clear 4 = .ok (.istore_n 1, 1) := by decide +kernel
theorem dX7_clear_5 : decode cX7_clear 5 = .ok (.aload_n 0, 1) := by decide +kernel
theorem dX7_clear_6 : decode cX7_clear 6 = .ok (.iconst 0, 1) := by decide +kernel
theorem dX7_clear_7 : decode cX7_clear 7 = .ok (.putfield 62, 3) := by decide +kernel
theorem dX7_clear_10 : decode cX7_clear 10 = .ok (.iload_n 1, 1) := by decide +kernel
theorem dX7_clear_11 : decode cX7_clear 11 = .ok (.ireturn, 1) := by decide +kernel
set_option maxRecDepth 20000 in
theorem ggX7_serves_X7_isLoad : GoodIn wsX7_serves wsX7_isLoad := goodIn_r _ [4, 5, 6, 3, 7] (by decide +kernel) (by decide +kernel)
set_option maxRecDepth 20000 in
theorem gX7_serves_X7_isLoad : GoodIn wsX7_serves (va_wsS RX7 136 yX7_isLoad wsX7_isLoad) := goodIn_app (goodIn_of _ (by decide +kernel)) ggX7_serves_X7_isLoad
set_option maxRecDepth 20000 in
theorem ggX7_serves_X7_listFitting : GoodIn wsX7_serves wsX7_listFitting := goodIn_r _ [11, 12, 13, 14, 15, 16, 17, 18, 19, 20, 21, 22, 23, 24, 25, 3, 26, 27, 28, 29, 30, 31, 32, 33, 34, 35, 36, 37, 38, 39, 40, 41, 42, 43, 44, 45, 46, 47, 48, 49, 50, 51, 52, 53, 54, 55, 56, 57, 58, 59, 60, 61, 62, 63, 64, 65, 66, 67, 68, 69, 70, 71, 72, 73, 74, 75, 76, 77, 78, 79, 80, 81, 82, 83, 84, 85, 86, 87, 92, 93, 94, 95, 96, 97, 98, 99, 100, 101, 102, 103, 104, 105, 106, 107, 108, 109, 110, 111, 112, 113, 114, 115, 116, 117] (by decide +kernel) (by decide +kernel)
set_option maxRecDepth 20000 in
theorem gX7_serves_X7_listFitting : GoodIn wsX7_serves (wsV RX7 163 RX7 yX7_listFitting wsX7_listFitting) := goodIn_app (goodIn_of _ (by decide +kernel)) ggX7_serves_X7_listFitting
set_option maxRecDepth 20000 in
theorem ggX7_serves_X7_servesEach : GoodIn wsX7_serves wsX7_servesEach := goodIn_r _ [91, 16, 92, 93, 94, 95, 96, 97, 98, 99, 100, 101, 102, 103, 104, 105, 106, 107, 108, 109] (by decide +kernel) (by decide +kernel)
set_option maxRecDepth 20000 in
theorem gX7_serves_X7_servesEach : GoodIn wsX7_serves (wsV RX7 167 RX7 yX7_servesEach wsX7_servesEach) := goodIn_app (goodIn_of _ (by decide +kernel)) ggX7_serves_X7_servesEach
theorem dX7_serves_0 : decode cX7_serves 0 = .ok (.iload_n 2, 1) := by decide +kernel
theorem dX7_serves_1 : decode cX7_serves 1 = .ok (.invokestatic 136, 3) := by decide +kernel
theorem dX7_serves_4 : decode cX7_serves 4 = .ok (.ifCond .eq 10, 3) := by decide +kernel
theorem dX7_serves_7 : decode cX7_serves 7 = .ok (.iload_n 3, 1) := by decide +kernel
theorem dX7_serves_8 : decode cX7_serves 8 = .ok (.invokestatic 136, 3) := by decide +kernel
theorem dX7_serves_11 : decode cX7_serves 11 = .ok (.ifCond .ne 6, 3) := by decide +kernel
theorem dX7_serves_14 : decode cX7_serves 14 = .ok (.bipush (-102), 2) := by decide +kernel
theorem dX7_serves_16 : decode cX7_serves 16 = .ok (.ireturn, 1) := by decide +kernel
theorem dX7_serves_17 : decode cX7_serves 17 = .ok (.aload_n 0, 1) := by decide +kernel
theorem dX7_serves_18 : decode cX7_serves 18 = .ok (.iload_n 1, 1) := by decide +kernel
theorem dX7_serves_19 : decode cX7_serves 19 = .ok (.aload_n 0, 1) := by decide +kernel
theorem dX7_serves_20 : decode cX7_serves 20 = .ok (.iload_n 2, 1) := by decide +kernel
theorem dX7_serves_21 : decode cX7_serves 21 = .ok (.iload_n 3, 1) := by decide +kernel
theorem dX7_serves_22 : decode cX7_serves 22 = .ok (.invokevirtual 163, 3) := by decide +kernel
theorem dX7_serves_25 : decode cX7_serves 25 = .ok (.invokevirtual 167, 3) := by decide +kernel
theorem dX7_serves_28 : decode cX7_serves 28 = .ok (.ifCond .eq 7, 3) := by decide +kernel
theorem dX7_serves_31 : decode cX7_serves 31 = .ok (.iconst 1, 1) := by decide +kernel
theorem dX7_serves_32 : decode cX7_serves 32 = .ok (.goto 4, 3) := by decide +kernel
theorem dX7_serves_35 : decode cX7_serves 35 = .ok (.iconst 0, 1) := by decide +kernel
theorem dX7_serves_36 : decode cX7_serves 36 = .ok (.ireturn, 1) := by decide +kernel
set_option maxRecDepth 20000 in
theorem ggX7_fewest_X7_isLoad : GoodIn wsX7_fewest wsX7_isLoad := goodIn_r _ [5, 6, 7, 4, 8] (by decide +kernel) (by decide +kernel)
set_option maxRecDepth 20000 in
theorem gX7_fewest_X7_isLoad : GoodIn wsX7_fewest (va_wsS RX7 136 yX7_isLoad wsX7_isLoad) := goodIn_app (goodIn_of _ (by decide +kernel)) ggX7_fewest_X7_isLoad
set_option maxRecDepth 20000 in
theorem ggX7_fewest_X7_listFitting : GoodIn wsX7_fewest wsX7_listFitting := goodIn_r _ [12, 13, 14, 15, 16, 17, 18, 19, 20, 21, 22, 23, 24, 25, 26, 4, 27, 1, 28, 29, 30, 31, 32, 33, 34, 35, 36, 37, 38, 39, 40, 41, 42, 43, 44, 45, 46, 47, 48, 49, 50, 51, 52, 53, 54, 55, 56, 57, 58, 59, 60, 61, 62, 63, 64, 65, 66, 67, 68, 69, 70, 71, 72, 73, 74, 75, 76, 77, 78, 79, 80, 81, 82, 83, 84, 85, 86, 87, 99, 100, 101, 102, 103, 104, 105, 106, 107, 108, 109, 110, 111, 112, 113, 114, 115, 116, 117, 118, 119, 120, 121, 122, 123, 124] (by decide +kernel) (by decide +kernel)
set_option maxRecDepth 20000 in
theorem gX7_fewest_X7_listFitting : GoodIn wsX7_fewest (wsV RX7 163 RX7 yX7_listFitting wsX7_listFitting) := goodIn_app (goodIn_of _ (by decide +kernel)) ggX7_fewest_X7_listFitting
set_option maxRecDepth 20000 in
theorem ggX7_fewest_J6_bitCount_0f7a4 : GoodIn wsX7_fewest wsJ6_bitCount_0f7a4 := goodIn_r _ [91, 92, 93, 94] (by decide +kernel) (by decide +kernel)
set_option maxRecDepth 20000 in
theorem gX7_fewest_J6_bitCount_0f7a4 : GoodIn wsX7_fewest (va_wsS RX7 171 yJ6_bitCount_0f7a4 wsJ6_bitCount_0f7a4) := goodIn_app (goodIn_of _ (by decide +kernel)) ggX7_fewest_J6_bitCount_0f7a4
set_option maxRecDepth 20000 in
theorem ggX7_fewest_X7_servesEach : GoodIn wsX7_fewest wsX7_servesEach := goodIn_r _ [98, 17, 99, 100, 101, 102, 103, 104, 105, 106, 107, 108, 109, 110, 111, 112, 113, 114, 115, 116] (by decide +kernel) (by decide +kernel)
set_option maxRecDepth 20000 in
theorem gX7_fewest_X7_servesEach : GoodIn wsX7_fewest (wsV RX7 167 RX7 yX7_servesEach wsX7_servesEach) := goodIn_app (goodIn_of _ (by decide +kernel)) ggX7_fewest_X7_servesEach
theorem dX7_fewest_0 : decode cX7_fewest 0 = .ok (.iload_n 1, 1) := by decide +kernel
theorem dX7_fewest_1 : decode cX7_fewest 1 = .ok (.invokestatic 136, 3) := by decide +kernel
theorem dX7_fewest_4 : decode cX7_fewest 4 = .ok (.ifCond .eq 10, 3) := by decide +kernel
theorem dX7_fewest_7 : decode cX7_fewest 7 = .ok (.iload_n 2, 1) := by decide +kernel
theorem dX7_fewest_8 : decode cX7_fewest 8 = .ok (.invokestatic 136, 3) := by decide +kernel
theorem dX7_fewest_11 : decode cX7_fewest 11 = .ok (.ifCond .ne 6, 3) := by decide +kernel
theorem dX7_fewest_14 : decode cX7_fewest 14 = .ok (.bipush (-102), 2) := by decide +kernel
theorem dX7_fewest_16 : decode cX7_fewest 16 = .ok (.ireturn, 1) := by decide +kernel
theorem dX7_fewest_17 : decode cX7_fewest 17 = .ok (.aload_n 0, 1) := by decide +kernel
theorem dX7_fewest_18 : decode cX7_fewest 18 = .ok (.iload_n 1, 1) := by decide +kernel
theorem dX7_fewest_19 : decode cX7_fewest 19 = .ok (.iload_n 2, 1) := by decide +kernel
theorem dX7_fewest_20 : decode cX7_fewest 20 = .ok (.invokevirtual 163, 3) := by decide +kernel
theorem dX7_fewest_23 : decode cX7_fewest 23 = .ok (.istore_n 3, 1) := by decide +kernel
theorem dX7_fewest_24 : decode cX7_fewest 24 = .ok (.iconst (-1), 1) := by decide +kernel
theorem dX7_fewest_25 : decode cX7_fewest 25 = .ok (.istore 4, 2) := by decide +kernel
theorem dX7_fewest_27 : decode cX7_fewest 27 = .ok (.bipush 9, 2) := by decide +kernel
theorem dX7_fewest_29 : decode cX7_fewest 29 = .ok (.istore 5, 2) := by decide +kernel
theorem dX7_fewest_31 : decode cX7_fewest 31 = .ok (.iconst 0, 1) := by decide +kernel
theorem dX7_fewest_32 : decode cX7_fewest 32 = .ok (.istore 6, 2) := by decide +kernel
theorem dX7_fewest_34 : decode cX7_fewest 34 = .ok (.iload 6, 2) := by decide +kernel
theorem dX7_fewest_36 : decode cX7_fewest 36 = .ok (.iconst 1, 1) := by decide +kernel
theorem dX7_fewest_37 : decode cX7_fewest 37 = .ok (.aload_n 0, 1) := by decide +kernel
theorem dX7_fewest_38 : decode cX7_fewest 38 = .ok (.getfield 50, 3) := by decide +kernel
theorem dX7_fewest_41 : decode cX7_fewest 41 = .ok (.ishl, 1) := by decide +kernel
theorem dX7_fewest_42 : decode cX7_fewest 42 = .ok (.if_icmp .ge 40, 3) := by decide +kernel
theorem dX7_fewest_45 : decode cX7_fewest 45 = .ok (.iload 6, 2) := by decide +kernel
theorem dX7_fewest_47 : decode cX7_fewest 47 = .ok (.invokestatic 171, 3) := by decide +kernel
theorem dX7_fewest_50 : decode cX7_fewest 50 = .ok (.iload 5, 2) := by decide +kernel
theorem dX7_fewest_52 : decode cX7_fewest 52 = .ok (.if_icmp .ge 24, 3) := by decide +kernel
theorem dX7_fewest_55 : decode cX7_fewest 55 = .ok (.aload_n 0, 1) := by decide +kernel
theorem dX7_fewest_56 : decode cX7_fewest 56 = .ok (.iload 6, 2) := by decide +kernel
theorem dX7_fewest_58 : decode cX7_fewest 58 = .ok (.iload_n 3, 1) := by decide +kernel
theorem dX7_fewest_59 : decode cX7_fewest 59 = .ok (.invokevirtual 167, 3) := by decide +kernel
theorem dX7_fewest_62 : decode cX7_fewest 62 = .ok (.ifCond .eq 14, 3) := by decide +kernel
theorem dX7_fewest_65 : decode cX7_fewest 65 = .ok (.iload 6, 2) := by decide +kernel
theorem dX7_fewest_67 : decode cX7_fewest 67 = .ok (.istore 4, 2) := by decide +kernel
theorem dX7_fewest_69 : decode cX7_fewest 69 = .ok (.iload 6, 2) := by decide +kernel
theorem dX7_fewest_71 : decode cX7_fewest 71 = .ok (.invokestatic 171, 3) := by decide +kernel
theorem dX7_fewest_74 : decode cX7_fewest 74 = .ok (.istore 5, 2) := by decide +kernel
theorem dX7_fewest_76 : decode cX7_fewest 76 = .ok (.iinc 6 1, 3) := by decide +kernel
theorem dX7_fewest_79 : decode cX7_fewest 79 = .ok (.goto (-45), 3) := by decide +kernel
theorem dX7_fewest_82 : decode cX7_fewest 82 = .ok (.iload 4, 2) := by decide +kernel
theorem dX7_fewest_84 : decode cX7_fewest 84 = .ok (.ireturn, 1) := by decide +kernel
set_option maxRecDepth 20000 in
theorem ggX7_hide_X1_init : GoodIn wsX7_hide wsX1_init := goodIn_r _ [7, 8, 9, 10, 11, 12, 31] (by decide +kernel) (by decide +kernel)
set_option maxRecDepth 20000 in
theorem gX7_hide_X1_init_n176 : GoodIn wsX7_hide (wsX1_init) := ggX7_hide_X1_init
theorem dX7_hide_0 : decode cX7_hide 0 = .ok (.aload_n 0, 1) := by decide +kernel
theorem dX7_hide_1 : decode cX7_hide 1 = .ok (.getfield 53, 3) := by decide +kernel
theorem dX7_hide_4 : decode cX7_hide 4 = .ok (.iconst 4, 1) := by decide +kernel
theorem dX7_hide_5 : decode cX7_hide 5 = .ok (.if_icmp .lt 6, 3) := by decide +kernel
theorem dX7_hide_8 : decode cX7_hide 8 = .ok (.bipush (-104), 2) := by decide +kernel
theorem dX7_hide_10 : decode cX7_hide 10 = .ok (.ireturn, 1) := by decide +kernel
theorem dX7_hide_11 : decode cX7_hide 11 = .ok (.aload_n 0, 1) := by decide +kernel
theorem dX7_hide_12 : decode cX7_hide 12 = .ok (.getfield 27, 3) := by decide +kernel
theorem dX7_hide_15 : decode cX7_hide 15 = .ok (.aload_n 0, 1) := by decide +kernel
theorem dX7_hide_16 : decode cX7_hide 16 = .ok (.getfield 53, 3) := by decide +kernel
theorem dX7_hide_19 : decode cX7_hide 19 = .ok (.new 25, 3) := by decide +kernel
theorem dX7_hide_22 : decode cX7_hide 22 = .ok (.dup, 1) := by decide +kernel
theorem dX7_hide_23 : decode cX7_hide 23 = .ok (.invokespecial 176, 3) := by decide +kernel
theorem dX7_hide_26 : decode cX7_hide 26 = .ok (.aastore, 1) := by decide +kernel
theorem dX7_hide_27 : decode cX7_hide 27 = .ok (.aload_n 0, 1) := by decide +kernel
theorem dX7_hide_28 : decode cX7_hide 28 = .ok (.dup, 1) := by decide +kernel
theorem dX7_hide_29 : decode cX7_hide 29 = .ok (.getfield 53, 3) := by decide +kernel
theorem dX7_hide_32 : decode cX7_hide 32 = .ok (.iconst 1, 1) := by decide +kernel
theorem dX7_hide_33 : decode cX7_hide 33 = .ok (.iadd, 1) := by decide +kernel
theorem dX7_hide_34 : decode cX7_hide 34 = .ok (.putfield 53, 3) := by decide +kernel
theorem dX7_hide_37 : decode cX7_hide 37 = .ok (.aload_n 0, 1) := by decide +kernel
theorem dX7_hide_38 : decode cX7_hide 38 = .ok (.getfield 53, 3) := by decide +kernel
theorem dX7_hide_41 : decode cX7_hide 41 = .ok (.iconst 1, 1) := by decide +kernel
theorem dX7_hide_42 : decode cX7_hide 42 = .ok (.isub, 1) := by decide +kernel
theorem dX7_hide_43 : decode cX7_hide 43 = .ok (.ireturn, 1) := by decide +kernel
set_option maxRecDepth 20000 in
theorem ggX7_flaw_X7_hideAt : GoodIn wsX7_flaw wsX7_hideAt := goodIn_r _ [5, 6, 7, 15, 16, 17, 18, 19, 20, 21, 22, 23, 24, 25, 26, 27, 28, 29, 30, 31, 32] (by decide +kernel) (by decide +kernel)
set_option maxRecDepth 20000 in
theorem gX7_flaw_X7_hideAt : GoodIn wsX7_flaw (wsV RX7 177 RX7 yX7_hideAt wsX7_hideAt) := goodIn_app (goodIn_of _ (by decide +kernel)) ggX7_flaw_X7_hideAt
set_option maxRecDepth 20000 in
theorem ggX7_flaw_X7_isPatch : GoodIn wsX7_flaw wsX7_isPatch := goodIn_r _ [10, 11, 12, 4, 13] (by decide +kernel) (by decide +kernel)
set_option maxRecDepth 20000 in
theorem gX7_flaw_X7_isPatch : GoodIn wsX7_flaw (va_wsS RX7 181 yX7_isPatch wsX7_isPatch) := goodIn_app (goodIn_of _ (by decide +kernel)) ggX7_flaw_X7_isPatch
theorem dX7_flaw_0 : decode cX7_flaw 0 = .ok (.aload_n 0, 1) := by decide +kernel
theorem dX7_flaw_1 : decode cX7_flaw 1 = .ok (.iload_n 1, 1) := by decide +kernel
theorem dX7_flaw_2 : decode cX7_flaw 2 = .ok (.invokevirtual 177, 3) := by decide +kernel
theorem dX7_flaw_5 : decode cX7_flaw 5 = .ok (.astore 4, 2) := by decide +kernel
theorem dX7_flaw_7 : decode cX7_flaw 7 = .ok (.aload 4, 2) := by decide +kernel
theorem dX7_flaw_9 : decode cX7_flaw 9 = .ok (.ifnull 11, 3) := by decide +kernel
theorem dX7_flaw_12 : decode cX7_flaw 12 = .ok (.iload_n 2, 1) := by decide +kernel
theorem dX7_flaw_13 : decode cX7_flaw 13 = .ok (.iload_n 3, 1) := by decide +kernel
theorem dX7_flaw_14 : decode cX7_flaw 14 = .ok (.invokestatic 181, 3) := by decide +kernel
theorem dX7_flaw_17 : decode cX7_flaw 17 = .ok (.ifCond .ne 6, 3) := by decide +kernel
theorem dX7_flaw_20 : decode cX7_flaw 20 = .ok (.bipush (-101), 2) := by decide +kernel
theorem dX7_flaw_22 : decode cX7_flaw 22 = .ok (.ireturn, 1) := by decide +kernel
theorem dX7_flaw_23 : decode cX7_flaw 23 = .ok (.bipush 16, 2) := by decide +kernel
theorem dX7_flaw_25 : decode cX7_flaw 25 = .ok (.iload_n 3, 1) := by decide +kernel
theorem dX7_flaw_26 : decode cX7_flaw 26 = .ok (.imul, 1) := by decide +kernel
theorem dX7_flaw_27 : decode cX7_flaw 27 = .ok (.iload_n 2, 1) := by decide +kernel
theorem dX7_flaw_28 : decode cX7_flaw 28 = .ok (.iadd, 1) := by decide +kernel
theorem dX7_flaw_29 : decode cX7_flaw 29 = .ok (.istore 5, 2) := by decide +kernel
theorem dX7_flaw_31 : decode cX7_flaw 31 = .ok (.aload 4, 2) := by decide +kernel
theorem dX7_flaw_33 : decode cX7_flaw 33 = .ok (.getfield 184, 3) := by decide +kernel
theorem dX7_flaw_36 : decode cX7_flaw 36 = .ok (.iload 5, 2) := by decide +kernel
theorem dX7_flaw_38 : decode cX7_flaw 38 = .ok (.iaload, 1) := by decide +kernel
theorem dX7_flaw_39 : decode cX7_flaw 39 = .ok (.istore 6, 2) := by decide +kernel
theorem dX7_flaw_41 : decode cX7_flaw 41 = .ok (.iload 6, 2) := by decide +kernel
theorem dX7_flaw_43 : decode cX7_flaw 43 = .ok (.iconst 2, 1) := by decide +kernel
theorem dX7_flaw_44 : decode cX7_flaw 44 = .ok (.if_icmp .ne 6, 3) := by decide +kernel
theorem dX7_flaw_47 : decode cX7_flaw 47 = .ok (.bipush (-103), 2) := by decide +kernel
theorem dX7_flaw_49 : decode cX7_flaw 49 = .ok (.ireturn, 1) := by decide +kernel
theorem dX7_flaw_50 : decode cX7_flaw 50 = .ok (.aload 4, 2) := by decide +kernel
theorem dX7_flaw_52 : decode cX7_flaw 52 = .ok (.getfield 184, 3) := by decide +kernel
theorem dX7_flaw_55 : decode cX7_flaw 55 = .ok (.iload 5, 2) := by decide +kernel
theorem dX7_flaw_57 : decode cX7_flaw 57 = .ok (.iconst 1, 1) := by decide +kernel
theorem dX7_flaw_58 : decode cX7_flaw 58 = .ok (.iastore, 1) := by decide +kernel
theorem dX7_flaw_59 : decode cX7_flaw 59 = .ok (.iload 6, 2) := by decide +kernel
theorem dX7_flaw_61 : decode cX7_flaw 61 = .ok (.iconst 1, 1) := by decide +kernel
theorem dX7_flaw_62 : decode cX7_flaw 62 = .ok (.if_icmp .ne 7, 3) := by decide +kernel
theorem dX7_flaw_65 : decode cX7_flaw 65 = .ok (.iconst 1, 1) := by decide +kernel
theorem dX7_flaw_66 : decode cX7_flaw 66 = .ok (.goto 4, 3) := by decide +kernel
theorem dX7_flaw_69 : decode cX7_flaw 69 = .ok (.iconst 0, 1) := by decide +kernel
theorem dX7_flaw_70 : decode cX7_flaw 70 = .ok (.ireturn, 1) := by decide +kernel
set_option maxRecDepth 20000 in
theorem ggX7_cut_X7_hideAt : GoodIn wsX7_cut wsX7_hideAt := goodIn_r _ [6, 7, 8, 24, 25, 26, 27, 28, 29, 30, 31, 32, 33, 34, 35, 36, 37, 38, 39, 40, 41] (by decide +kernel) (by decide +kernel)
set_option maxRecDepth 20000 in
theorem gX7_cut_X7_hideAt : GoodIn wsX7_cut (wsV RX7 177 RX7 yX7_hideAt wsX7_hideAt) := goodIn_app (goodIn_of _ (by decide +kernel)) ggX7_cut_X7_hideAt
set_option maxRecDepth 20000 in
theorem ggX7_cut_X7_isWithin : GoodIn wsX7_cut wsX7_isWithin := goodIn_r _ [11] (by decide +kernel) (by decide +kernel)
set_option maxRecDepth 20000 in
theorem gX7_cut_X7_isWithin : GoodIn wsX7_cut (va_wsS RX7 89 yX7_isWithin wsX7_isWithin) := goodIn_app (goodIn_of _ (by decide +kernel)) ggX7_cut_X7_isWithin
set_option maxRecDepth 20000 in
theorem ggX7_cut_X1_firstRoom : GoodIn wsX7_cut wsX1_firstRoom := goodIn_r _ [15, 16, 17, 18, 13, 19, 20, 42] (by decide +kernel) (by decide +kernel)
set_option maxRecDepth 20000 in
theorem gX7_cut_X1_firstRoom_n187 : GoodIn wsX7_cut (wsX1_firstRoom) := ggX7_cut_X1_firstRoom
set_option maxRecDepth 20000 in
theorem ggX7_cut_X1_mark : GoodIn wsX7_cut wsX1_mark := goodIn_r _ [23, 20, 42] (by decide +kernel) (by decide +kernel)
set_option maxRecDepth 20000 in
theorem gX7_cut_X1_mark_n190 : GoodIn wsX7_cut (wsX1_mark) := ggX7_cut_X1_mark
theorem dX7_cut_0 : decode cX7_cut 0 = .ok (.aload_n 0, 1) := by decide +kernel
theorem dX7_cut_1 : decode cX7_cut 1 = .ok (.iload_n 1, 1) := by decide +kernel
theorem dX7_cut_2 : decode cX7_cut 2 = .ok (.invokevirtual 177, 3) := by decide +kernel
theorem dX7_cut_5 : decode cX7_cut 5 = .ok (.astore 4, 2) := by decide +kernel
theorem dX7_cut_7 : decode cX7_cut 7 = .ok (.aload 4, 2) := by decide +kernel
theorem dX7_cut_9 : decode cX7_cut 9 = .ok (.ifnonnull 6, 3) := by decide +kernel
theorem dX7_cut_12 : decode cX7_cut 12 = .ok (.bipush (-101), 2) := by decide +kernel
theorem dX7_cut_14 : decode cX7_cut 14 = .ok (.ireturn, 1) := by decide +kernel
theorem dX7_cut_15 : decode cX7_cut 15 = .ok (.iload_n 2, 1) := by decide +kernel
theorem dX7_cut_16 : decode cX7_cut 16 = .ok (.iconst 1, 1) := by decide +kernel
theorem dX7_cut_17 : decode cX7_cut 17 = .ok (.bipush 16, 2) := by decide +kernel
theorem dX7_cut_19 : decode cX7_cut 19 = .ok (.invokestatic 89, 3) := by decide +kernel
theorem dX7_cut_22 : decode cX7_cut 22 = .ok (.ifCond .eq 13, 3) := by decide +kernel
theorem dX7_cut_25 : decode cX7_cut 25 = .ok (.iload_n 3, 1) := by decide +kernel
theorem dX7_cut_26 : decode cX7_cut 26 = .ok (.iconst 1, 1) := by decide +kernel
theorem dX7_cut_27 : decode cX7_cut 27 = .ok (.bipush 12, 2) := by decide +kernel
theorem dX7_cut_29 : decode cX7_cut 29 = .ok (.invokestatic 89, 3) := by decide +kernel
theorem dX7_cut_32 : decode cX7_cut 32 = .ok (.ifCond .ne 6, 3) := by decide +kernel
theorem dX7_cut_35 : decode cX7_cut 35 = .ok (.bipush (-102), 2) := by decide +kernel
theorem dX7_cut_37 : decode cX7_cut 37 = .ok (.ireturn, 1) := by decide +kernel
theorem dX7_cut_38 : decode cX7_cut 38 = .ok (.aload 4, 2) := by decide +kernel
theorem dX7_cut_40 : decode cX7_cut 40 = .ok (.iload_n 2, 1) := by decide +kernel
theorem dX7_cut_41 : decode cX7_cut 41 = .ok (.iload_n 3, 1) := by decide +kernel
theorem dX7_cut_42 : decode cX7_cut 42 = .ok (.invokevirtual 187, 3) := by decide +kernel
theorem dX7_cut_45 : decode cX7_cut 45 = .ok (.istore 5, 2) := by decide +kernel
theorem dX7_cut_47 : decode cX7_cut 47 = .ok (.iload 5, 2) := by decide +kernel
theorem dX7_cut_49 : decode cX7_cut 49 = .ok (.iconst (-1), 1) := by decide +kernel
theorem dX7_cut_50 : decode cX7_cut 50 = .ok (.if_icmp .eq 25, 3) := by decide +kernel
theorem dX7_cut_53 : decode cX7_cut 53 = .ok (.aload 4, 2) := by decide +kernel
theorem dX7_cut_55 : decode cX7_cut 55 = .ok (.iload 5, 2) := by decide +kernel
theorem dX7_cut_57 : decode cX7_cut 57 = .ok (.iload_n 2, 1) := by decide +kernel
theorem dX7_cut_58 : decode cX7_cut 58 = .ok (.iload_n 3, 1) := by decide +kernel
theorem dX7_cut_59 : decode cX7_cut 59 = .ok (.iconst 2, 1) := by decide +kernel
theorem dX7_cut_60 : decode cX7_cut 60 = .ok (.invokevirtual 190, 3) := by decide +kernel
theorem dX7_cut_63 : decode cX7_cut 63 = .ok (.aload_n 0, 1) := by decide +kernel
theorem dX7_cut_64 : decode cX7_cut 64 = .ok (.dup, 1) := by decide +kernel
theorem dX7_cut_65 : decode cX7_cut 65 = .ok (.getfield 65, 3) := by decide +kernel
theorem dX7_cut_68 : decode cX7_cut 68 = .ok (.iload_n 2, 1) := by decide +kernel
theorem dX7_cut_69 : decode cX7_cut 69 = .ok (.iload_n 3, 1) := by decide +kernel
theorem dX7_cut_70 : decode cX7_cut 70 = .ok (.imul, 1) := by decide +kernel
theorem dX7_cut_71 : decode cX7_cut 71 = .ok (.iadd, 1) := by decide +kernel
theorem dX7_cut_72 : decode cX7_cut 72 = .ok (.putfield 65, 3) := by decide +kernel
theorem dX7_cut_75 : decode cX7_cut 75 = .ok (.iload 5, 2) := by decide +kernel
theorem dX7_cut_77 : decode cX7_cut 77 = .ok (.ireturn, 1) := by decide +kernel
set_option maxRecDepth 20000 in
theorem ggX7_pair_X7_hideAt : GoodIn wsX7_pair wsX7_hideAt := goodIn_r _ [6, 7, 8, 24, 25, 26, 27, 28, 29, 30, 31, 32, 33, 34, 35, 36, 37, 38, 39, 40, 41] (by decide +kernel) (by decide +kernel)
set_option maxRecDepth 20000 in
theorem gX7_pair_X7_hideAt : GoodIn wsX7_pair (wsV RX7 177 RX7 yX7_hideAt wsX7_hideAt) := goodIn_app (goodIn_of _ (by decide +kernel)) ggX7_pair_X7_hideAt
set_option maxRecDepth 20000 in
theorem ggX7_pair_X7_isWithin : GoodIn wsX7_pair wsX7_isWithin := goodIn_r _ [11] (by decide +kernel) (by decide +kernel)
set_option maxRecDepth 20000 in
theorem gX7_pair_X7_isWithin : GoodIn wsX7_pair (va_wsS RX7 89 yX7_isWithin wsX7_isWithin) := goodIn_app (goodIn_of _ (by decide +kernel)) ggX7_pair_X7_isWithin
set_option maxRecDepth 20000 in
theorem ggX7_pair_X1_firstRoom : GoodIn wsX7_pair wsX1_firstRoom := goodIn_r _ [15, 16, 17, 18, 13, 19, 20, 42] (by decide +kernel) (by decide +kernel)
set_option maxRecDepth 20000 in
theorem gX7_pair_X1_firstRoom_n187 : GoodIn wsX7_pair (wsX1_firstRoom) := ggX7_pair_X1_firstRoom
set_option maxRecDepth 20000 in
theorem ggX7_pair_X1_mark : GoodIn wsX7_pair wsX1_mark := goodIn_r _ [23, 20, 42] (by decide +kernel) (by decide +kernel)
set_option maxRecDepth 20000 in
theorem gX7_pair_X1_mark_n190 : GoodIn wsX7_pair (wsX1_mark) := ggX7_pair_X1_mark
theorem dX7_pair_0 : decode cX7_pair 0 = .ok (.aload_n 0, 1) := by decide +kernel
theorem dX7_pair_1 : decode cX7_pair 1 = .ok (.iload_n 1, 1) := by decide +kernel
theorem dX7_pair_2 : decode cX7_pair 2 = .ok (.invokevirtual 177, 3) := by decide +kernel
theorem dX7_pair_5 : decode cX7_pair 5 = .ok (.astore 4, 2) := by decide +kernel
theorem dX7_pair_7 : decode cX7_pair 7 = .ok (.aload 4, 2) := by decide +kernel
theorem dX7_pair_9 : decode cX7_pair 9 = .ok (.ifnonnull 6, 3) := by decide +kernel
theorem dX7_pair_12 : decode cX7_pair 12 = .ok (.bipush (-101), 2) := by decide +kernel
theorem dX7_pair_14 : decode cX7_pair 14 = .ok (.ireturn, 1) := by decide +kernel
theorem dX7_pair_15 : decode cX7_pair 15 = .ok (.iload_n 2, 1) := by decide +kernel
theorem dX7_pair_16 : decode cX7_pair 16 = .ok (.iconst 1, 1) := by decide +kernel
theorem dX7_pair_17 : decode cX7_pair 17 = .ok (.bipush 16, 2) := by decide +kernel
theorem dX7_pair_19 : decode cX7_pair 19 = .ok (.invokestatic 89, 3) := by decide +kernel
theorem dX7_pair_22 : decode cX7_pair 22 = .ok (.ifCond .eq 13, 3) := by decide +kernel
theorem dX7_pair_25 : decode cX7_pair 25 = .ok (.iload_n 3, 1) := by decide +kernel
theorem dX7_pair_26 : decode cX7_pair 26 = .ok (.iconst 1, 1) := by decide +kernel
theorem dX7_pair_27 : decode cX7_pair 27 = .ok (.bipush 12, 2) := by decide +kernel
theorem dX7_pair_29 : decode cX7_pair 29 = .ok (.invokestatic 89, 3) := by decide +kernel
theorem dX7_pair_32 : decode cX7_pair 32 = .ok (.ifCond .ne 6, 3) := by decide +kernel
theorem dX7_pair_35 : decode cX7_pair 35 = .ok (.bipush (-102), 2) := by decide +kernel
theorem dX7_pair_37 : decode cX7_pair 37 = .ok (.ireturn, 1) := by decide +kernel
theorem dX7_pair_38 : decode cX7_pair 38 = .ok (.aload 4, 2) := by decide +kernel
theorem dX7_pair_40 : decode cX7_pair 40 = .ok (.iload_n 2, 1) := by decide +kernel
theorem dX7_pair_41 : decode cX7_pair 41 = .ok (.iload_n 3, 1) := by decide +kernel
theorem dX7_pair_42 : decode cX7_pair 42 = .ok (.invokevirtual 187, 3) := by decide +kernel
theorem dX7_pair_45 : decode cX7_pair 45 = .ok (.istore 5, 2) := by decide +kernel
theorem dX7_pair_47 : decode cX7_pair 47 = .ok (.iload 5, 2) := by decide +kernel
theorem dX7_pair_49 : decode cX7_pair 49 = .ok (.iconst (-1), 1) := by decide +kernel
theorem dX7_pair_50 : decode cX7_pair 50 = .ok (.if_icmp .ne 5, 3) := by decide +kernel
theorem dX7_pair_53 : decode cX7_pair 53 = .ok (.iconst (-1), 1) := by decide +kernel
theorem dX7_pair_54 : decode cX7_pair 54 = .ok (.ireturn, 1) := by decide +kernel
theorem dX7_pair_55 : decode cX7_pair 55 = .ok (.aload 4, 2) := by decide +kernel
theorem dX7_pair_57 : decode cX7_pair 57 = .ok (.iload 5, 2) := by decide +kernel
theorem dX7_pair_59 : decode cX7_pair 59 = .ok (.iload_n 2, 1) := by decide +kernel
theorem dX7_pair_60 : decode cX7_pair 60 = .ok (.iload_n 3, 1) := by decide +kernel
theorem dX7_pair_61 : decode cX7_pair 61 = .ok (.iconst 2, 1) := by decide +kernel
theorem dX7_pair_62 : decode cX7_pair 62 = .ok (.invokevirtual 190, 3) := by decide +kernel
theorem dX7_pair_65 : decode cX7_pair 65 = .ok (.aload 4, 2) := by decide +kernel
theorem dX7_pair_67 : decode cX7_pair 67 = .ok (.iload_n 2, 1) := by decide +kernel
theorem dX7_pair_68 : decode cX7_pair 68 = .ok (.iload_n 3, 1) := by decide +kernel
theorem dX7_pair_69 : decode cX7_pair 69 = .ok (.invokevirtual 187, 3) := by decide +kernel
theorem dX7_pair_72 : decode cX7_pair 72 = .ok (.istore 6, 2) := by decide +kernel
theorem dX7_pair_74 : decode cX7_pair 74 = .ok (.iload 6, 2) := by decide +kernel
theorem dX7_pair_76 : decode cX7_pair 76 = .ok (.iconst (-1), 1) := by decide +kernel
theorem dX7_pair_77 : decode cX7_pair 77 = .ok (.if_icmp .ne 15, 3) := by decide +kernel
theorem dX7_pair_80 : decode cX7_pair 80 = .ok (.aload 4, 2) := by decide +kernel
theorem dX7_pair_82 : decode cX7_pair 82 = .ok (.iload 5, 2) := by decide +kernel
theorem dX7_pair_84 : decode cX7_pair 84 = .ok (.iload_n 2, 1) := by decide +kernel
theorem dX7_pair_85 : decode cX7_pair 85 = .ok (.iload_n 3, 1) := by decide +kernel
theorem dX7_pair_86 : decode cX7_pair 86 = .ok (.iconst 0, 1) := by decide +kernel
theorem dX7_pair_87 : decode cX7_pair 87 = .ok (.invokevirtual 190, 3) := by decide +kernel
theorem dX7_pair_90 : decode cX7_pair 90 = .ok (.iconst (-1), 1) := by decide +kernel
theorem dX7_pair_91 : decode cX7_pair 91 = .ok (.ireturn, 1) := by decide +kernel
theorem dX7_pair_92 : decode cX7_pair 92 = .ok (.aload 4, 2) := by decide +kernel
theorem dX7_pair_94 : decode cX7_pair 94 = .ok (.iload 6, 2) := by decide +kernel
theorem dX7_pair_96 : decode cX7_pair 96 = .ok (.iload_n 2, 1) := by decide +kernel
theorem dX7_pair_97 : decode cX7_pair 97 = .ok (.iload_n 3, 1) := by decide +kernel
theorem dX7_pair_98 : decode cX7_pair 98 = .ok (.iconst 2, 1) := by decide +kernel
theorem dX7_pair_99 : decode cX7_pair 99 = .ok (.invokevirtual 190, 3) := by decide +kernel
theorem dX7_pair_102 : decode cX7_pair 102 = .ok (.aload_n 0, 1) := by decide +kernel
theorem dX7_pair_103 : decode cX7_pair 103 = .ok (.dup, 1) := by decide +kernel
theorem dX7_pair_104 : decode cX7_pair 104 = .ok (.getfield 65, 3) := by decide +kernel
theorem dX7_pair_107 : decode cX7_pair 107 = .ok (.iconst 2, 1) := by decide +kernel
theorem dX7_pair_108 : decode cX7_pair 108 = .ok (.iload_n 2, 1) := by decide +kernel
theorem dX7_pair_109 : decode cX7_pair 109 = .ok (.imul, 1) := by decide +kernel
theorem dX7_pair_110 : decode cX7_pair 110 = .ok (.iload_n 3, 1) := by decide +kernel
theorem dX7_pair_111 : decode cX7_pair 111 = .ok (.imul, 1) := by decide +kernel
theorem dX7_pair_112 : decode cX7_pair 112 = .ok (.iadd, 1) := by decide +kernel
theorem dX7_pair_113 : decode cX7_pair 113 = .ok (.putfield 65, 3) := by decide +kernel
theorem dX7_pair_116 : decode cX7_pair 116 = .ok (.iload 5, 2) := by decide +kernel
theorem dX7_pair_118 : decode cX7_pair 118 = .ok (.sipush 256, 3) := by decide +kernel
theorem dX7_pair_121 : decode cX7_pair 121 = .ok (.iload 6, 2) := by decide +kernel
theorem dX7_pair_123 : decode cX7_pair 123 = .ok (.imul, 1) := by decide +kernel
theorem dX7_pair_124 : decode cX7_pair 124 = .ok (.iadd, 1) := by decide +kernel
theorem dX7_pair_125 : decode cX7_pair 125 = .ok (.ireturn, 1) := by decide +kernel
set_option maxRecDepth 20000 in
theorem ggX7_patch_X7_hideAt : GoodIn wsX7_patch wsX7_hideAt := goodIn_r _ [5, 6, 7, 15, 16, 17, 18, 19, 20, 21, 22, 23, 24, 25, 26, 27, 28, 29, 30, 31, 32] (by decide +kernel) (by decide +kernel)
set_option maxRecDepth 20000 in
theorem gX7_patch_X7_hideAt : GoodIn wsX7_patch (wsV RX7 177 RX7 yX7_hideAt wsX7_hideAt) := goodIn_app (goodIn_of _ (by decide +kernel)) ggX7_patch_X7_hideAt
set_option maxRecDepth 20000 in
theorem ggX7_patch_X7_isPatch : GoodIn wsX7_patch wsX7_isPatch := goodIn_r _ [10, 11, 12, 4, 13] (by decide +kernel) (by decide +kernel)
set_option maxRecDepth 20000 in
theorem gX7_patch_X7_isPatch : GoodIn wsX7_patch (va_wsS RX7 181 yX7_isPatch wsX7_isPatch) := goodIn_app (goodIn_of _ (by decide +kernel)) ggX7_patch_X7_isPatch
theorem dX7_patch_0 : decode cX7_patch 0 = .ok (.aload_n 0, 1) := by decide +kernel
theorem dX7_patch_1 : decode cX7_patch 1 = .ok (.iload_n 1, 1) := by decide +kernel
theorem dX7_patch_2 : decode cX7_patch 2 = .ok (.invokevirtual 177, 3) := by decide +kernel
theorem dX7_patch_5 : decode cX7_patch 5 = .ok (.astore 4, 2) := by decide +kernel
theorem dX7_patch_7 : decode cX7_patch 7 = .ok (.aload 4, 2) := by decide +kernel
theorem dX7_patch_9 : decode cX7_patch 9 = .ok (.ifnull 11, 3) := by decide +kernel
theorem dX7_patch_12 : decode cX7_patch 12 = .ok (.iload_n 2, 1) := by decide +kernel
theorem dX7_patch_13 : decode cX7_patch 13 = .ok (.iload_n 3, 1) := by decide +kernel
theorem dX7_patch_14 : decode cX7_patch 14 = .ok (.invokestatic 181, 3) := by decide +kernel
theorem dX7_patch_17 : decode cX7_patch 17 = .ok (.ifCond .ne 6, 3) := by decide +kernel
theorem dX7_patch_20 : decode cX7_patch 20 = .ok (.bipush (-101), 2) := by decide +kernel
theorem dX7_patch_22 : decode cX7_patch 22 = .ok (.ireturn, 1) := by decide +kernel
theorem dX7_patch_23 : decode cX7_patch 23 = .ok (.aload 4, 2) := by decide +kernel
theorem dX7_patch_25 : decode cX7_patch 25 = .ok (.getfield 184, 3) := by decide +kernel
theorem dX7_patch_28 : decode cX7_patch 28 = .ok (.bipush 16, 2) := by decide +kernel
theorem dX7_patch_30 : decode cX7_patch 30 = .ok (.iload_n 3, 1) := by decide +kernel
theorem dX7_patch_31 : decode cX7_patch 31 = .ok (.imul, 1) := by decide +kernel
theorem dX7_patch_32 : decode cX7_patch 32 = .ok (.iload_n 2, 1) := by decide +kernel
theorem dX7_patch_33 : decode cX7_patch 33 = .ok (.iadd, 1) := by decide +kernel
theorem dX7_patch_34 : decode cX7_patch 34 = .ok (.iaload, 1) := by decide +kernel
theorem dX7_patch_35 : decode cX7_patch 35 = .ok (.ireturn, 1) := by decide +kernel
set_option maxRecDepth 20000 in
theorem ggX7_bench_X7_isWithin : GoodIn wsX7_bench wsX7_isWithin := goodIn_r _ [9] (by decide +kernel) (by decide +kernel)
set_option maxRecDepth 20000 in
theorem gX7_bench_X7_isWithin : GoodIn wsX7_bench (va_wsS RX7 89 yX7_isWithin wsX7_isWithin) := goodIn_app (goodIn_of _ (by decide +kernel)) ggX7_bench_X7_isWithin
set_option maxRecDepth 20000 in
theorem ggX7_bench_X0_init : GoodIn wsX7_bench wsX0_init := goodIn_r _ [11, 12, 13, 14, 15, 16, 35, 36] (by decide +kernel) (by decide +kernel)
set_option maxRecDepth 20000 in
theorem gX7_bench_X0_init_n194 : GoodIn wsX7_bench (wsX0_init) := ggX7_bench_X0_init
theorem dX7_bench_0 : decode cX7_bench 0 = .ok (.iload_n 1, 1) := by decide +kernel
theorem dX7_bench_1 : decode cX7_bench 1 = .ok (.iconst 1, 1) := by decide +kernel
theorem dX7_bench_2 : decode cX7_bench 2 = .ok (.bipush 24, 2) := by decide +kernel
theorem dX7_bench_4 : decode cX7_bench 4 = .ok (.invokestatic 89, 3) := by decide +kernel
theorem dX7_bench_7 : decode cX7_bench 7 = .ok (.ifCond .ne 6, 3) := by decide +kernel
theorem dX7_bench_10 : decode cX7_bench 10 = .ok (.bipush (-102), 2) := by decide +kernel
theorem dX7_bench_12 : decode cX7_bench 12 = .ok (.ireturn, 1) := by decide +kernel
theorem dX7_bench_13 : decode cX7_bench 13 = .ok (.aload_n 0, 1) := by decide +kernel
theorem dX7_bench_14 : decode cX7_bench 14 = .ok (.getfield 56, 3) := by decide +kernel
theorem dX7_bench_17 : decode cX7_bench 17 = .ok (.iconst 3, 1) := by decide +kernel
theorem dX7_bench_18 : decode cX7_bench 18 = .ok (.if_icmp .lt 6, 3) := by decide +kernel
theorem dX7_bench_21 : decode cX7_bench 21 = .ok (.bipush (-104), 2) := by decide +kernel
theorem dX7_bench_23 : decode cX7_bench 23 = .ok (.ireturn, 1) := by decide +kernel
theorem dX7_bench_24 : decode cX7_bench 24 = .ok (.aload_n 0, 1) := by decide +kernel
theorem dX7_bench_25 : decode cX7_bench 25 = .ok (.getfield 33, 3) := by decide +kernel
theorem dX7_bench_28 : decode cX7_bench 28 = .ok (.aload_n 0, 1) := by decide +kernel
theorem dX7_bench_29 : decode cX7_bench 29 = .ok (.getfield 56, 3) := by decide +kernel
theorem dX7_bench_32 : decode cX7_bench 32 = .ok (.new 31, 3) := by decide +kernel
theorem dX7_bench_35 : decode cX7_bench 35 = .ok (.dup, 1) := by decide +kernel
theorem dX7_bench_36 : decode cX7_bench 36 = .ok (.iload_n 1, 1) := by decide +kernel
theorem dX7_bench_37 : decode cX7_bench 37 = .ok (.invokespecial 194, 3) := by decide +kernel
theorem dX7_bench_40 : decode cX7_bench 40 = .ok (.aastore, 1) := by decide +kernel
theorem dX7_bench_41 : decode cX7_bench 41 = .ok (.aload_n 0, 1) := by decide +kernel
theorem dX7_bench_42 : decode cX7_bench 42 = .ok (.dup, 1) := by decide +kernel
theorem dX7_bench_43 : decode cX7_bench 43 = .ok (.getfield 56, 3) := by decide +kernel
theorem dX7_bench_46 : decode cX7_bench 46 = .ok (.iconst 1, 1) := by decide +kernel
theorem dX7_bench_47 : decode cX7_bench 47 = .ok (.iadd, 1) := by decide +kernel
theorem dX7_bench_48 : decode cX7_bench 48 = .ok (.putfield 56, 3) := by decide +kernel
theorem dX7_bench_51 : decode cX7_bench 51 = .ok (.aload_n 0, 1) := by decide +kernel
theorem dX7_bench_52 : decode cX7_bench 52 = .ok (.getfield 56, 3) := by decide +kernel
theorem dX7_bench_55 : decode cX7_bench 55 = .ok (.iconst 1, 1) := by decide +kernel
theorem dX7_bench_56 : decode cX7_bench 56 = .ok (.isub, 1) := by decide +kernel
theorem dX7_bench_57 : decode cX7_bench 57 = .ok (.ireturn, 1) := by decide +kernel
set_option maxRecDepth 20000 in
theorem ggX7_work_X7_isWithin : GoodIn wsX7_work wsX7_isWithin := goodIn_r _ [9] (by decide +kernel) (by decide +kernel)
set_option maxRecDepth 20000 in
theorem gX7_work_X7_isWithin : GoodIn wsX7_work (va_wsS RX7 89 yX7_isWithin wsX7_isWithin) := goodIn_app (goodIn_of _ (by decide +kernel)) ggX7_work_X7_isWithin
set_option maxRecDepth 20000 in
theorem ggX7_work_X7_isDay : GoodIn wsX7_work wsX7_isDay := goodIn_r _ [12, 6, 7, 8, 9] (by decide +kernel) (by decide +kernel)
set_option maxRecDepth 20000 in
theorem gX7_work_X7_isDay : GoodIn wsX7_work (va_wsS RX7 97 yX7_isDay wsX7_isDay) := goodIn_app (goodIn_of _ (by decide +kernel)) ggX7_work_X7_isDay
set_option maxRecDepth 20000 in
theorem ggX7_work_X0_promiseFor : GoodIn wsX7_work wsX0_promiseFor := goodIn_r _ [16, 17, 18, 19, 20, 21, 14, 22, 23, 24, 25, 26, 27, 46, 47] (by decide +kernel) (by decide +kernel)
set_option maxRecDepth 20000 in
theorem gX7_work_X0_promiseFor_n198 : GoodIn wsX7_work (wsX0_promiseFor) := ggX7_work_X0_promiseFor
set_option maxRecDepth 20000 in
theorem ggX7_work_X0_endFor : GoodIn wsX7_work wsX0_endFor := goodIn_r _ [22, 17, 23, 24, 25, 26, 27, 46, 47] (by decide +kernel) (by decide +kernel)
set_option maxRecDepth 20000 in
theorem gX7_work_X0_endFor_n201 : GoodIn wsX7_work (wsX0_endFor) := ggX7_work_X0_endFor
theorem dX7_work_0 : decode cX7_work 0 = .ok (.iload_n 1, 1) := by decide +kernel
theorem dX7_work_1 : decode cX7_work 1 = .ok (.iconst 1, 1) := by decide +kernel
theorem dX7_work_2 : decode cX7_work 2 = .ok (.sipush 1000, 3) := by decide +kernel
theorem dX7_work_5 : decode cX7_work 5 = .ok (.invokestatic 89, 3) := by decide +kernel
theorem dX7_work_8 : decode cX7_work 8 = .ok (.ifCond .eq 10, 3) := by decide +kernel
theorem dX7_work_11 : decode cX7_work 11 = .ok (.iload_n 2, 1) := by decide +kernel
theorem dX7_work_12 : decode cX7_work 12 = .ok (.invokestatic 97, 3) := by decide +kernel
theorem dX7_work_15 : decode cX7_work 15 = .ok (.ifCond .ne 6, 3) := by decide +kernel
theorem dX7_work_18 : decode cX7_work 18 = .ok (.bipush (-102), 2) := by decide +kernel
theorem dX7_work_20 : decode cX7_work 20 = .ok (.ireturn, 1) := by decide +kernel
theorem dX7_work_21 : decode cX7_work 21 = .ok (.iconst (-1), 1) := by decide +kernel
theorem dX7_work_22 : decode cX7_work 22 = .ok (.istore_n 3, 1) := by decide +kernel
theorem dX7_work_23 : decode cX7_work 23 = .ok (.ldc 197, 2) := by decide +kernel
theorem dX7_work_25 : decode cX7_work 25 = .ok (.istore 4, 2) := by decide +kernel
theorem dX7_work_27 : decode cX7_work 27 = .ok (.iconst 0, 1) := by decide +kernel
theorem dX7_work_28 : decode cX7_work 28 = .ok (.istore 5, 2) := by decide +kernel
theorem dX7_work_30 : decode cX7_work 30 = .ok (.iload 5, 2) := by decide +kernel
theorem dX7_work_32 : decode cX7_work 32 = .ok (.aload_n 0, 1) := by decide +kernel
theorem dX7_work_33 : decode cX7_work 33 = .ok (.getfield 56, 3) := by decide +kernel
theorem dX7_work_36 : decode cX7_work 36 = .ok (.if_icmp .ge 37, 3) := by decide +kernel
theorem dX7_work_39 : decode cX7_work 39 = .ok (.aload_n 0, 1) := by decide +kernel
theorem dX7_work_40 : decode cX7_work 40 = .ok (.getfield 33, 3) := by decide +kernel
theorem dX7_work_43 : decode cX7_work 43 = .ok (.iload 5, 2) := by decide +kernel
theorem dX7_work_45 : decode cX7_work 45 = .ok (.aaload, 1) := by decide +kernel
theorem dX7_work_46 : decode cX7_work 46 = .ok (.iload_n 1, 1) := by decide +kernel
theorem dX7_work_47 : decode cX7_work 47 = .ok (.iload_n 2, 1) := by decide +kernel
theorem dX7_work_48 : decode cX7_work 48 = .ok (.invokevirtual 198, 3) := by decide +kernel
theorem dX7_work_51 : decode cX7_work 51 = .ok (.istore 6, 2) := by decide +kernel
theorem dX7_work_53 : decode cX7_work 53 = .ok (.iload 6, 2) := by decide +kernel
theorem dX7_work_55 : decode cX7_work 55 = .ok (.iload 4, 2) := by decide +kernel
theorem dX7_work_57 : decode cX7_work 57 = .ok (.if_icmp .ge 10, 3) := by decide +kernel
theorem dX7_work_60 : decode cX7_work 60 = .ok (.iload 5, 2) := by decide +kernel
theorem dX7_work_62 : decode cX7_work 62 = .ok (.istore_n 3, 1) := by decide +kernel
theorem dX7_work_63 : decode cX7_work 63 = .ok (.iload 6, 2) := by decide +kernel
theorem dX7_work_65 : decode cX7_work 65 = .ok (.istore 4, 2) := by decide +kernel
theorem dX7_work_67 : decode cX7_work 67 = .ok (.iinc 5 1, 3) := by decide +kernel
theorem dX7_work_70 : decode cX7_work 70 = .ok (.goto (-40), 3) := by decide +kernel
theorem dX7_work_73 : decode cX7_work 73 = .ok (.iload_n 3, 1) := by decide +kernel
theorem dX7_work_74 : decode cX7_work 74 = .ok (.iconst (-1), 1) := by decide +kernel
theorem dX7_work_75 : decode cX7_work 75 = .ok (.if_icmp .ne 6, 3) := by decide +kernel
theorem dX7_work_78 : decode cX7_work 78 = .ok (.bipush (-103), 2) := by decide +kernel
theorem dX7_work_80 : decode cX7_work 80 = .ok (.ireturn, 1) := by decide +kernel
theorem dX7_work_81 : decode cX7_work 81 = .ok (.aload_n 0, 1) := by decide +kernel
theorem dX7_work_82 : decode cX7_work 82 = .ok (.getfield 33, 3) := by decide +kernel
theorem dX7_work_85 : decode cX7_work 85 = .ok (.iload_n 3, 1) := by decide +kernel
theorem dX7_work_86 : decode cX7_work 86 = .ok (.aaload, 1) := by decide +kernel
theorem dX7_work_87 : decode cX7_work 87 = .ok (.aload_n 0, 1) := by decide +kernel
theorem dX7_work_88 : decode cX7_work 88 = .ok (.getfield 33, 3) := by decide +kernel
theorem dX7_work_91 : decode cX7_work 91 = .ok (.iload_n 3, 1) := by decide +kernel
theorem dX7_work_92 : decode cX7_work 92 = .ok (.aaload, 1) := by decide +kernel
theorem dX7_work_93 : decode cX7_work 93 = .ok (.iload_n 1, 1) := by decide +kernel
theorem dX7_work_94 : decode cX7_work 94 = .ok (.iload_n 2, 1) := by decide +kernel
theorem dX7_work_95 : decode cX7_work 95 = .ok (.invokevirtual 201, 3) := by decide +kernel
theorem dX7_work_98 : decode cX7_work 98 = .ok (.putfield 204, 3) := by decide +kernel
theorem dX7_work_101 : decode cX7_work 101 = .ok (.aload_n 0, 1) := by decide +kernel
theorem dX7_work_102 : decode cX7_work 102 = .ok (.iload_n 3, 1) := by decide +kernel
theorem dX7_work_103 : decode cX7_work 103 = .ok (.putfield 71, 3) := by decide +kernel
theorem dX7_work_106 : decode cX7_work 106 = .ok (.aload_n 0, 1) := by decide +kernel
theorem dX7_work_107 : decode cX7_work 107 = .ok (.dup, 1) := by decide +kernel
theorem dX7_work_108 : decode cX7_work 108 = .ok (.getfield 68, 3) := by decide +kernel
theorem dX7_work_111 : decode cX7_work 111 = .ok (.iload_n 1, 1) := by decide +kernel
theorem dX7_work_112 : decode cX7_work 112 = .ok (.iadd, 1) := by decide +kernel
theorem dX7_work_113 : decode cX7_work 113 = .ok (.putfield 68, 3) := by decide +kernel
theorem dX7_work_116 : decode cX7_work 116 = .ok (.iload 4, 2) := by decide +kernel
theorem dX7_work_118 : decode cX7_work 118 = .ok (.ireturn, 1) := by decide +kernel
theorem dX7_where_0 : decode cX7_where 0 = .ok (.aload_n 0, 1) := by decide +kernel
theorem dX7_where_1 : decode cX7_where 1 = .ok (.getfield 71, 3) := by decide +kernel
theorem dX7_where_4 : decode cX7_where 4 = .ok (.ireturn, 1) := by decide +kernel
set_option maxRecDepth 20000 in
theorem ggX7_saddle_X7_horseAt : GoodIn wsX7_saddle wsX7_horseAt := goodIn_r _ [10, 11, 12, 41, 42, 43, 44, 45, 46, 47, 48, 49, 50, 51, 52, 53, 54, 55, 56, 57, 58] (by decide +kernel) (by decide +kernel)
set_option maxRecDepth 20000 in
theorem gX7_saddle_X7_horseAt : GoodIn wsX7_saddle (wsV RX7 93 RX7 yX7_horseAt wsX7_horseAt) := goodIn_app (goodIn_of _ (by decide +kernel)) ggX7_saddle_X7_horseAt
set_option maxRecDepth 20000 in
theorem ggX7_saddle_X7_treeAt : GoodIn wsX7_saddle wsX7_treeAt := goodIn_r _ [16, 17, 18, 41, 42, 43, 44, 45, 46, 47, 48, 49, 50, 51, 52, 53, 54, 55, 56, 57, 58] (by decide +kernel) (by decide +kernel)
set_option maxRecDepth 20000 in
theorem gX7_saddle_X7_treeAt : GoodIn wsX7_saddle (wsV RX7 125 RX7 yX7_treeAt wsX7_treeAt) := goodIn_app (goodIn_of _ (by decide +kernel)) ggX7_saddle_X7_treeAt
set_option maxRecDepth 20000 in
theorem ggX7_saddle_X7_isDay : GoodIn wsX7_saddle wsX7_isDay := goodIn_r _ [21, 22, 23, 9, 24] (by decide +kernel) (by decide +kernel)
set_option maxRecDepth 20000 in
theorem gX7_saddle_X7_isDay : GoodIn wsX7_saddle (va_wsS RX7 97 yX7_isDay wsX7_isDay) := goodIn_app (goodIn_of _ (by decide +kernel)) ggX7_saddle_X7_isDay
set_option maxRecDepth 20000 in
theorem ggX7_saddle_X7_isWithin : GoodIn wsX7_saddle wsX7_isWithin := goodIn_r _ [24] (by decide +kernel) (by decide +kernel)
set_option maxRecDepth 20000 in
theorem gX7_saddle_X7_isWithin : GoodIn wsX7_saddle (va_wsS RX7 89 yX7_isWithin wsX7_isWithin) := goodIn_app (goodIn_of _ (by decide +kernel)) ggX7_saddle_X7_isWithin
set_option maxRecDepth 20000 in
theorem ggX7_saddle_X2_backOn : GoodIn wsX7_saddle wsX2_backOn := goodIn_r _ [28, 29, 30, 64, 65, 66, 67] (by decide +kernel) (by decide +kernel)
set_option maxRecDepth 20000 in
theorem gX7_saddle_X2_backOn_n115 : GoodIn wsX7_saddle (wsX2_backOn) := ggX7_saddle_X2_backOn
set_option maxRecDepth 20000 in
theorem ggX7_saddle_X4_init : GoodIn wsX7_saddle wsX4_init := goodIn_r _ [32, 33, 34, 35, 36, 37, 38, 39, 40, 59, 60, 61, 62, 63] (by decide +kernel) (by decide +kernel)
set_option maxRecDepth 20000 in
theorem gX7_saddle_X4_init_n207 : GoodIn wsX7_saddle (wsX4_init) := ggX7_saddle_X4_init
theorem dX7_saddle_0 : decode cX7_saddle 0 = .ok (.aload_n 0, 1) := by decide +kernel
theorem dX7_saddle_1 : decode cX7_saddle 1 = .ok (.iload_n 2, 1) := by decide +kernel
theorem dX7_saddle_2 : decode cX7_saddle 2 = .ok (.invokevirtual 93, 3) := by decide +kernel
theorem dX7_saddle_5 : decode cX7_saddle 5 = .ok (.astore 6, 2) := by decide +kernel
theorem dX7_saddle_7 : decode cX7_saddle 7 = .ok (.aload_n 0, 1) := by decide +kernel
theorem dX7_saddle_8 : decode cX7_saddle 8 = .ok (.iload_n 1, 1) := by decide +kernel
theorem dX7_saddle_9 : decode cX7_saddle 9 = .ok (.invokevirtual 125, 3) := by decide +kernel
theorem dX7_saddle_12 : decode cX7_saddle 12 = .ok (.ifnull 8, 3) := by decide +kernel
theorem dX7_saddle_15 : decode cX7_saddle 15 = .ok (.aload 6, 2) := by decide +kernel
theorem dX7_saddle_17 : decode cX7_saddle 17 = .ok (.ifnonnull 6, 3) := by decide +kernel
theorem dX7_saddle_20 : decode cX7_saddle 20 = .ok (.bipush (-101), 2) := by decide +kernel
theorem dX7_saddle_22 : decode cX7_saddle 22 = .ok (.ireturn, 1) := by decide +kernel
theorem dX7_saddle_23 : decode cX7_saddle 23 = .ok (.iload_n 3, 1) := by decide +kernel
theorem dX7_saddle_24 : decode cX7_saddle 24 = .ok (.invokestatic 97, 3) := by decide +kernel
theorem dX7_saddle_27 : decode cX7_saddle 27 = .ok (.ifCond .eq 27, 3) := by decide +kernel
theorem dX7_saddle_30 : decode cX7_saddle 30 = .ok (.iload 4, 2) := by decide +kernel
theorem dX7_saddle_32 : decode cX7_saddle 32 = .ok (.iconst 0, 1) := by decide +kernel
theorem dX7_saddle_33 : decode cX7_saddle 33 = .ok (.sipush 2000, 3) := by decide +kernel
theorem dX7_saddle_36 : decode cX7_saddle 36 = .ok (.invokestatic 89, 3) := by decide +kernel
theorem dX7_saddle_39 : decode cX7_saddle 39 = .ok (.ifCond .eq 15, 3) := by decide +kernel
theorem dX7_saddle_42 : decode cX7_saddle 42 = .ok (.iload 5, 2) := by decide +kernel
theorem dX7_saddle_44 : decode cX7_saddle 44 = .ok (.iconst 0, 1) := by decide +kernel
theorem dX7_saddle_45 : decode cX7_saddle 45 = .ok (.sipush 400, 3) := by decide +kernel
theorem dX7_saddle_48 : decode cX7_saddle 48 = .ok (.invokestatic 89, 3) := by decide +kernel
theorem dX7_saddle_51 : decode cX7_saddle 51 = .ok (.ifCond .ne 6, 3) := by decide +kernel
theorem dX7_saddle_54 : decode cX7_saddle 54 = .ok (.bipush (-102), 2) := by decide +kernel
theorem dX7_saddle_56 : decode cX7_saddle 56 = .ok (.ireturn, 1) := by decide +kernel
theorem dX7_saddle_57 : decode cX7_saddle 57 = .ok (.aload 6, 2) := by decide +kernel
theorem dX7_saddle_59 : decode cX7_saddle 59 = .ok (.iload_n 3, 1) := by decide +kernel
theorem dX7_saddle_60 : decode cX7_saddle 60 = .ok (.invokevirtual 115, 3) := by decide +kernel
theorem dX7_saddle_63 : decode cX7_saddle 63 = .ok (.ifnonnull 6, 3) := by decide +kernel
theorem dX7_saddle_66 : decode cX7_saddle 66 = .ok (.bipush (-103), 2) := by decide +kernel
theorem dX7_saddle_68 : decode cX7_saddle 68 = .ok (.ireturn, 1) := by decide +kernel
theorem dX7_saddle_69 : decode cX7_saddle 69 = .ok (.aload_n 0, 1) := by decide +kernel
theorem dX7_saddle_70 : decode cX7_saddle 70 = .ok (.getfield 59, 3) := by decide +kernel
theorem dX7_saddle_73 : decode cX7_saddle 73 = .ok (.bipush 12, 2) := by decide +kernel
theorem dX7_saddle_75 : decode cX7_saddle 75 = .ok (.if_icmp .lt 6, 3) := by decide +kernel
theorem dX7_saddle_78 : decode cX7_saddle 78 = .ok (.bipush (-104), 2) := by decide +kernel
theorem dX7_saddle_80 : decode cX7_saddle 80 = .ok (.ireturn, 1) := by decide +kernel
theorem dX7_saddle_81 : decode cX7_saddle 81 = .ok (.aload_n 0, 1) := by decide +kernel
theorem dX7_saddle_82 : decode cX7_saddle 82 = .ok (.getfield 39, 3) := by decide +kernel
theorem dX7_saddle_85 : decode cX7_saddle 85 = .ok (.aload_n 0, 1) := by decide +kernel
theorem dX7_saddle_86 : decode cX7_saddle 86 = .ok (.getfield 59, 3) := by decide +kernel
theorem dX7_saddle_89 : decode cX7_saddle 89 = .ok (.new 37, 3) := by decide +kernel
theorem dX7_saddle_92 : decode cX7_saddle 92 = .ok (.dup, 1) := by decide +kernel
theorem dX7_saddle_93 : decode cX7_saddle 93 = .ok (.iload_n 1, 1) := by decide +kernel
theorem dX7_saddle_94 : decode cX7_saddle 94 = .ok (.iload_n 2, 1) := by decide +kernel
theorem dX7_saddle_95 : decode cX7_saddle 95 = .ok (.iload_n 3, 1) := by decide +kernel
theorem dX7_saddle_96 : decode cX7_saddle 96 = .ok (.iload 4, 2) := by decide +kernel
theorem dX7_saddle_98 : decode cX7_saddle 98 = .ok (.iload 5, 2) := by decide +kernel
theorem dX7_saddle_100 : decode cX7_saddle 100 = .ok (.invokespecial 207, 3) := by decide +kernel
theorem dX7_saddle_103 : decode cX7_saddle 103 = .ok (.aastore, 1) := by decide +kernel
theorem dX7_saddle_104 : decode cX7_saddle 104 = .ok (.aload_n 0, 1) := by decide +kernel
theorem dX7_saddle_105 : decode cX7_saddle 105 = .ok (.dup, 1) := by decide +kernel
theorem dX7_saddle_106 : decode cX7_saddle 106 = .ok (.getfield 59, 3) := by decide +kernel
theorem dX7_saddle_109 : decode cX7_saddle 109 = .ok (.iconst 1, 1) := by decide +kernel
theorem dX7_saddle_110 : decode cX7_saddle 110 = .ok (.iadd, 1) := by decide +kernel
theorem dX7_saddle_111 : decode cX7_saddle 111 = .ok (.putfield 59, 3) := by decide +kernel
theorem dX7_saddle_114 : decode cX7_saddle 114 = .ok (.aload_n 0, 1) := by decide +kernel
theorem dX7_saddle_115 : decode cX7_saddle 115 = .ok (.getfield 59, 3) := by decide +kernel
theorem dX7_saddle_118 : decode cX7_saddle 118 = .ok (.iconst 1, 1) := by decide +kernel
theorem dX7_saddle_119 : decode cX7_saddle 119 = .ok (.isub, 1) := by decide +kernel
theorem dX7_saddle_120 : decode cX7_saddle 120 = .ok (.ireturn, 1) := by decide +kernel
set_option maxRecDepth 20000 in
theorem ggX7_free_X7_saddleAt : GoodIn wsX7_free wsX7_saddleAt := goodIn_r _ [5, 6, 7, 37, 38, 39, 40, 41, 42, 43, 44, 45, 46, 47, 48, 49, 50, 51, 52, 53, 54] (by decide +kernel) (by decide +kernel)
set_option maxRecDepth 20000 in
theorem gX7_free_X7_saddleAt : GoodIn wsX7_free (wsV RX7 210 RX7 yX7_saddleAt wsX7_saddleAt) := goodIn_app (goodIn_of _ (by decide +kernel)) ggX7_free_X7_saddleAt
set_option maxRecDepth 20000 in
theorem ggX7_free_X7_isDay : GoodIn wsX7_free wsX7_isDay := goodIn_r _ [10, 11, 12, 4, 13] (by decide +kernel) (by decide +kernel)
set_option maxRecDepth 20000 in
theorem gX7_free_X7_isDay : GoodIn wsX7_free (va_wsS RX7 97 yX7_isDay wsX7_isDay) := goodIn_app (goodIn_of _ (by decide +kernel)) ggX7_free_X7_isDay
set_option maxRecDepth 20000 in
theorem ggX7_free_X7_changeSince : GoodIn wsX7_free wsX7_changeSince := goodIn_r _ [17, 18, 19, 20, 21, 22, 23, 24, 25, 26, 27, 28, 29, 30, 31, 37, 38, 39, 40, 41, 42, 43, 44, 45, 46, 47, 48, 49, 50, 51, 52, 53, 54, 32, 33, 34, 35, 36, 55, 56, 57, 58] (by decide +kernel) (by decide +kernel)
set_option maxRecDepth 20000 in
theorem gX7_free_X7_changeSince : GoodIn wsX7_free (wsV RX7 220 RX7 yX7_changeSince wsX7_changeSince) := goodIn_app (goodIn_of _ (by decide +kernel)) ggX7_free_X7_changeSince
theorem dX7_free_0 : decode cX7_free 0 = .ok (.aload_n 0, 1) := by decide +kernel
theorem dX7_free_1 : decode cX7_free 1 = .ok (.iload_n 1, 1) := by decide +kernel
theorem dX7_free_2 : decode cX7_free 2 = .ok (.invokevirtual 210, 3) := by decide +kernel
theorem dX7_free_5 : decode cX7_free 5 = .ok (.astore_n 3, 1) := by decide +kernel
theorem dX7_free_6 : decode cX7_free 6 = .ok (.aload_n 3, 1) := by decide +kernel
theorem dX7_free_7 : decode cX7_free 7 = .ok (.ifnonnull 6, 3) := by decide +kernel
theorem dX7_free_10 : decode cX7_free 10 = .ok (.bipush (-101), 2) := by decide +kernel
theorem dX7_free_12 : decode cX7_free 12 = .ok (.ireturn, 1) := by decide +kernel
theorem dX7_free_13 : decode cX7_free 13 = .ok (.iload_n 2, 1) := by decide +kernel
theorem dX7_free_14 : decode cX7_free 14 = .ok (.invokestatic 97, 3) := by decide +kernel
theorem dX7_free_17 : decode cX7_free 17 = .ok (.ifCond .eq 11, 3) := by decide +kernel
theorem dX7_free_20 : decode cX7_free 20 = .ok (.iload_n 2, 1) := by decide +kernel
theorem dX7_free_21 : decode cX7_free 21 = .ok (.aload_n 3, 1) := by decide +kernel
theorem dX7_free_22 : decode cX7_free 22 = .ok (.getfield 214, 3) := by decide +kernel
theorem dX7_free_25 : decode cX7_free 25 = .ok (.if_icmp .gt 6, 3) := by decide +kernel
theorem dX7_free_28 : decode cX7_free 28 = .ok (.bipush (-102), 2) := by decide +kernel
theorem dX7_free_30 : decode cX7_free 30 = .ok (.ireturn, 1) := by decide +kernel
theorem dX7_free_31 : decode cX7_free 31 = .ok (.iload_n 2, 1) := by decide +kernel
theorem dX7_free_32 : decode cX7_free 32 = .ok (.aload_n 3, 1) := by decide +kernel
theorem dX7_free_33 : decode cX7_free 33 = .ok (.getfield 214, 3) := by decide +kernel
theorem dX7_free_36 : decode cX7_free 36 = .ok (.isub, 1) := by decide +kernel
theorem dX7_free_37 : decode cX7_free 37 = .ok (.aload_n 3, 1) := by decide +kernel
theorem dX7_free_38 : decode cX7_free 38 = .ok (.getfield 217, 3) := by decide +kernel
theorem dX7_free_41 : decode cX7_free 41 = .ok (.if_icmp .gt 7, 3) := by decide +kernel
theorem dX7_free_44 : decode cX7_free 44 = .ok (.iconst 1, 1) := by decide +kernel
theorem dX7_free_45 : decode cX7_free 45 = .ok (.goto 4, 3) := by decide +kernel
theorem dX7_free_48 : decode cX7_free 48 = .ok (.iconst 0, 1) := by decide +kernel
theorem dX7_free_49 : decode cX7_free 49 = .ok (.istore 4, 2) := by decide +kernel
theorem dX7_free_51 : decode cX7_free 51 = .ok (.iload 4, 2) := by decide +kernel
theorem dX7_free_53 : decode cX7_free 53 = .ok (.ifCond .eq 20, 3) := by decide +kernel
theorem dX7_free_56 : decode cX7_free 56 = .ok (.aload_n 0, 1) := by decide +kernel
theorem dX7_free_57 : decode cX7_free 57 = .ok (.aload_n 3, 1) := by decide +kernel
theorem dX7_free_58 : decode cX7_free 58 = .ok (.iload_n 2, 1) := by decide +kernel
theorem dX7_free_59 : decode cX7_free 59 = .ok (.invokevirtual 220, 3) := by decide +kernel
theorem dX7_free_62 : decode cX7_free 62 = .ok (.aload_n 3, 1) := by decide +kernel
theorem dX7_free_63 : decode cX7_free 63 = .ok (.getfield 224, 3) := by decide +kernel
theorem dX7_free_66 : decode cX7_free 66 = .ok (.if_icmp .lt 7, 3) := by decide +kernel
theorem dX7_free_69 : decode cX7_free 69 = .ok (.iconst 1, 1) := by decide +kernel
theorem dX7_free_70 : decode cX7_free 70 = .ok (.goto 4, 3) := by decide +kernel
theorem dX7_free_73 : decode cX7_free 73 = .ok (.iconst 0, 1) := by decide +kernel
theorem dX7_free_74 : decode cX7_free 74 = .ok (.ireturn, 1) := by decide +kernel
set_option maxRecDepth 20000 in
theorem ggX7_changed_X7_saddleAt : GoodIn wsX7_changed wsX7_saddleAt := goodIn_r _ [5, 6, 7, 37, 38, 39, 40, 41, 42, 43, 44, 45, 46, 47, 48, 49, 50, 51, 52, 53, 54] (by decide +kernel) (by decide +kernel)
set_option maxRecDepth 20000 in
theorem gX7_changed_X7_saddleAt : GoodIn wsX7_changed (wsV RX7 210 RX7 yX7_saddleAt wsX7_saddleAt) := goodIn_app (goodIn_of _ (by decide +kernel)) ggX7_changed_X7_saddleAt
set_option maxRecDepth 20000 in
theorem ggX7_changed_X7_isDay : GoodIn wsX7_changed wsX7_isDay := goodIn_r _ [10, 11, 12, 4, 13] (by decide +kernel) (by decide +kernel)
set_option maxRecDepth 20000 in
theorem gX7_changed_X7_isDay : GoodIn wsX7_changed (va_wsS RX7 97 yX7_isDay wsX7_isDay) := goodIn_app (goodIn_of _ (by decide +kernel)) ggX7_changed_X7_isDay
set_option maxRecDepth 20000 in
theorem ggX7_changed_X7_changeSince : GoodIn wsX7_changed wsX7_changeSince := goodIn_r _ [17, 18, 19, 20, 21, 22, 23, 24, 25, 26, 27, 28, 29, 30, 31, 37, 38, 39, 40, 41, 42, 43, 44, 45, 46, 47, 48, 49, 50, 51, 52, 53, 54, 32, 33, 34, 35, 36, 55, 56, 57, 58] (by decide +kernel) (by decide +kernel)
set_option maxRecDepth 20000 in
theorem gX7_changed_X7_changeSince : GoodIn wsX7_changed (wsV RX7 220 RX7 yX7_changeSince wsX7_changeSince) := goodIn_app (goodIn_of _ (by decide +kernel)) ggX7_changed_X7_changeSince
theorem dX7_changed_0 : decode cX7_changed 0 = .ok (.aload_n 0, 1) := by decide +kernel
theorem dX7_changed_1 : decode cX7_changed 1 = .ok (.iload_n 1, 1) := by decide +kernel
theorem dX7_changed_2 : decode cX7_changed 2 = .ok (.invokevirtual 210, 3) := by decide +kernel
theorem dX7_changed_5 : decode cX7_changed 5 = .ok (.astore_n 3, 1) := by decide +kernel
theorem dX7_changed_6 : decode cX7_changed 6 = .ok (.aload_n 3, 1) := by decide +kernel
theorem dX7_changed_7 : decode cX7_changed 7 = .ok (.ifnonnull 6, 3) := by decide +kernel
theorem dX7_changed_10 : decode cX7_changed 10 = .ok (.bipush (-101), 2) := by decide +kernel
theorem dX7_changed_12 : decode cX7_changed 12 = .ok (.ireturn, 1) := by decide +kernel
theorem dX7_changed_13 : decode cX7_changed 13 = .ok (.iload_n 2, 1) := by decide +kernel
theorem dX7_changed_14 : decode cX7_changed 14 = .ok (.invokestatic 97, 3) := by decide +kernel
theorem dX7_changed_17 : decode cX7_changed 17 = .ok (.ifCond .eq 11, 3) := by decide +kernel
theorem dX7_changed_20 : decode cX7_changed 20 = .ok (.iload_n 2, 1) := by decide +kernel
theorem dX7_changed_21 : decode cX7_changed 21 = .ok (.aload_n 3, 1) := by decide +kernel
theorem dX7_changed_22 : decode cX7_changed 22 = .ok (.getfield 214, 3) := by decide +kernel
theorem dX7_changed_25 : decode cX7_changed 25 = .ok (.if_icmp .gt 6, 3) := by decide +kernel
theorem dX7_changed_28 : decode cX7_changed 28 = .ok (.bipush (-102), 2) := by decide +kernel
theorem dX7_changed_30 : decode cX7_changed 30 = .ok (.ireturn, 1) := by decide +kernel
theorem dX7_changed_31 : decode cX7_changed 31 = .ok (.aload_n 0, 1) := by decide +kernel
theorem dX7_changed_32 : decode cX7_changed 32 = .ok (.aload_n 3, 1) := by decide +kernel
theorem dX7_changed_33 : decode cX7_changed 33 = .ok (.iload_n 2, 1) := by decide +kernel
theorem dX7_changed_34 : decode cX7_changed 34 = .ok (.invokevirtual 220, 3) := by decide +kernel
theorem dX7_changed_37 : decode cX7_changed 37 = .ok (.ireturn, 1) := by decide +kernel
theorem dX7_count_0 : decode cX7_count 0 = .ok (.iload_n 1, 1) := by decide +kernel
theorem dX7_count_1 : decode cX7_count 1 = .ok (.tableswitch 87 0 7 #[47, 52, 57, 62, 67, 72, 77, 82], 47) := by decide +kernel
theorem dX7_count_48 : decode cX7_count 48 = .ok (.aload_n 0, 1) := by decide +kernel
theorem dX7_count_49 : decode cX7_count 49 = .ok (.getfield 46, 3) := by decide +kernel
theorem dX7_count_52 : decode cX7_count 52 = .ok (.ireturn, 1) := by decide +kernel
theorem dX7_count_53 : decode cX7_count 53 = .ok (.aload_n 0, 1) := by decide +kernel
theorem dX7_count_54 : decode cX7_count 54 = .ok (.getfield 50, 3) := by decide +kernel
theorem dX7_count_57 : decode cX7_count 57 = .ok (.ireturn, 1) := by decide +kernel
theorem dX7_count_58 : decode cX7_count 58 = .ok (.aload_n 0, 1) := by decide +kernel
theorem dX7_count_59 : decode cX7_count 59 = .ok (.getfield 53, 3) := by decide +kernel
theorem dX7_count_62 : decode cX7_count 62 = .ok (.ireturn, 1) := by decide +kernel
theorem dX7_count_63 : decode cX7_count 63 = .ok (.aload_n 0, 1) := by decide +kernel
theorem dX7_count_64 : decode cX7_count 64 = .ok (.getfield 56, 3) := by decide +kernel
theorem dX7_count_67 : decode cX7_count 67 = .ok (.ireturn, 1) := by decide +kernel
theorem dX7_count_68 : decode cX7_count 68 = .ok (.aload_n 0, 1) := by decide +kernel
theorem dX7_count_69 : decode cX7_count 69 = .ok (.getfield 59, 3) := by decide +kernel
theorem dX7_count_72 : decode cX7_count 72 = .ok (.ireturn, 1) := by decide +kernel
theorem dX7_count_73 : decode cX7_count 73 = .ok (.aload_n 0, 1) := by decide +kernel
theorem dX7_count_74 : decode cX7_count 74 = .ok (.getfield 62, 3) := by decide +kernel
theorem dX7_count_77 : decode cX7_count 77 = .ok (.ireturn, 1) := by decide +kernel
theorem dX7_count_78 : decode cX7_count 78 = .ok (.aload_n 0, 1) := by decide +kernel
theorem dX7_count_79 : decode cX7_count 79 = .ok (.getfield 65, 3) := by decide +kernel
theorem dX7_count_82 : decode cX7_count 82 = .ok (.ireturn, 1) := by decide +kernel
theorem dX7_count_83 : decode cX7_count 83 = .ok (.aload_n 0, 1) := by decide +kernel
theorem dX7_count_84 : decode cX7_count 84 = .ok (.getfield 68, 3) := by decide +kernel
theorem dX7_count_87 : decode cX7_count 87 = .ok (.ireturn, 1) := by decide +kernel
theorem dX7_count_88 : decode cX7_count 88 = .ok (.bipush (-102), 2) := by decide +kernel
theorem dX7_count_90 : decode cX7_count 90 = .ok (.ireturn, 1) := by decide +kernel
set_option maxRecDepth 20000 in
theorem ggX7_digest_X2_mixInto : GoodIn wsX7_digest wsX2_mixInto := goodIn_r _ [17, 18, 19, 20, 21, 22, 23, 24, 25, 26, 60, 61, 62, 63] (by decide +kernel) (by decide +kernel)
set_option maxRecDepth 20000 in
theorem gX7_digest_X2_mixInto_n229 : GoodIn wsX7_digest (wsX2_mixInto) := ggX7_digest_X2_mixInto
set_option maxRecDepth 20000 in
theorem ggX7_digest_X7_mixAll : GoodIn wsX7_digest wsX7_mixAll := goodIn_r _ [25, 26, 20, 21, 22, 23] (by decide +kernel) (by decide +kernel)
set_option maxRecDepth 20000 in
theorem gX7_digest_X7_mixAll : GoodIn wsX7_digest (va_wsS RX7 234 yX7_mixAll wsX7_mixAll) := goodIn_app (goodIn_of _ (by decide +kernel)) ggX7_digest_X7_mixAll
set_option maxRecDepth 20000 in
theorem ggX7_digest_X7_mix : GoodIn wsX7_digest wsX7_mix := goodIn_r _ [22, 23] (by decide +kernel) (by decide +kernel)
set_option maxRecDepth 20000 in
theorem gX7_digest_X7_mix : GoodIn wsX7_digest (va_wsS RX7 241 yX7_mix wsX7_mix) := goodIn_app (goodIn_of _ (by decide +kernel)) ggX7_digest_X7_mix
set_option maxRecDepth 20000 in
theorem ggX7_digest_X4_mixInto : GoodIn wsX7_digest wsX4_mixInto := goodIn_r _ [31, 32, 33, 34, 35, 36, 20, 21, 22, 23, 64, 65, 66, 67, 68] (by decide +kernel) (by decide +kernel)
set_option maxRecDepth 20000 in
theorem gX7_digest_X4_mixInto_n245 : GoodIn wsX7_digest (wsX4_mixInto) := ggX7_digest_X4_mixInto
theorem dX7_digest_0 : decode cX7_digest 0 = .ok (.ldc2_w 227, 3) := by decide +kernel
theorem dX7_digest_3 : decode cX7_digest 3 = .ok (.lstore_n 1, 1) := by decide +kernel
theorem dX7_digest_4 : decode cX7_digest 4 = .ok (.iconst 0, 1) := by decide +kernel
theorem dX7_digest_5 : decode cX7_digest 5 = .ok (.istore_n 3, 1) := by decide +kernel
theorem dX7_digest_6 : decode cX7_digest 6 = .ok (.iload_n 3, 1) := by decide +kernel
theorem dX7_digest_7 : decode cX7_digest 7 = .ok (.aload_n 0, 1) := by decide +kernel
theorem dX7_digest_8 : decode cX7_digest 8 = .ok (.getfield 46, 3) := by decide +kernel
theorem dX7_digest_11 : decode cX7_digest 11 = .ok (.if_icmp .ge 20, 3) := by decide +kernel
theorem dX7_digest_14 : decode cX7_digest 14 = .ok (.aload_n 0, 1) := by decide +kernel
theorem dX7_digest_15 : decode cX7_digest 15 = .ok (.getfield 15, 3) := by decide +kernel
theorem dX7_digest_18 : decode cX7_digest 18 = .ok (.iload_n 3, 1) := by decide +kernel
theorem dX7_digest_19 : decode cX7_digest 19 = .ok (.aaload, 1) := by decide +kernel
theorem dX7_digest_20 : decode cX7_digest 20 = .ok (.lload_n 1, 1) := by decide +kernel
theorem dX7_digest_21 : decode cX7_digest 21 = .ok (.invokevirtual 229, 3) := by decide +kernel
theorem dX7_digest_24 : decode cX7_digest 24 = .ok (.lstore_n 1, 1) := by decide +kernel
theorem dX7_digest_25 : decode cX7_digest 25 = .ok (.iinc 3 1, 3) := by decide +kernel
theorem dX7_digest_28 : decode cX7_digest 28 = .ok (.goto (-22), 3) := by decide +kernel
theorem dX7_digest_31 : decode cX7_digest 31 = .ok (.iconst 0, 1) := by decide +kernel
theorem dX7_digest_32 : decode cX7_digest 32 = .ok (.istore_n 3, 1) := by decide +kernel
theorem dX7_digest_33 : decode cX7_digest 33 = .ok (.iload_n 3, 1) := by decide +kernel
theorem dX7_digest_34 : decode cX7_digest 34 = .ok (.aload_n 0, 1) := by decide +kernel
theorem dX7_digest_35 : decode cX7_digest 35 = .ok (.getfield 50, 3) := by decide +kernel
theorem dX7_digest_38 : decode cX7_digest 38 = .ok (.if_icmp .ge 39, 3) := by decide +kernel
theorem dX7_digest_41 : decode cX7_digest 41 = .ok (.lload_n 1, 1) := by decide +kernel
theorem dX7_digest_42 : decode cX7_digest 42 = .ok (.aload_n 0, 1) := by decide +kernel
theorem dX7_digest_43 : decode cX7_digest 43 = .ok (.getfield 21, 3) := by decide +kernel
theorem dX7_digest_46 : decode cX7_digest 46 = .ok (.iload_n 3, 1) := by decide +kernel
theorem dX7_digest_47 : decode cX7_digest 47 = .ok (.aaload, 1) := by decide +kernel
theorem dX7_digest_48 : decode cX7_digest 48 = .ok (.getfield 233, 3) := by decide +kernel
theorem dX7_digest_51 : decode cX7_digest 51 = .ok (.bipush 9, 2) := by decide +kernel
theorem dX7_digest_53 : decode cX7_digest 53 = .ok (.invokestatic 234, 3) := by decide +kernel
theorem dX7_digest_56 : decode cX7_digest 56 = .ok (.aload_n 0, 1) := by decide +kernel
theorem dX7_digest_57 : decode cX7_digest 57 = .ok (.getfield 21, 3) := by decide +kernel
theorem dX7_digest_60 : decode cX7_digest 60 = .ok (.iload_n 3, 1) := by decide +kernel
theorem dX7_digest_61 : decode cX7_digest 61 = .ok (.aaload, 1) := by decide +kernel
theorem dX7_digest_62 : decode cX7_digest 62 = .ok (.getfield 129, 3) := by decide +kernel
theorem dX7_digest_65 : decode cX7_digest 65 = .ok (.bipush 9, 2) := by decide +kernel
theorem dX7_digest_67 : decode cX7_digest 67 = .ok (.invokestatic 234, 3) := by decide +kernel
theorem dX7_digest_70 : decode cX7_digest 70 = .ok (.lstore_n 1, 1) := by decide +kernel
theorem dX7_digest_71 : decode cX7_digest 71 = .ok (.iinc 3 1, 3) := by decide +kernel
theorem dX7_digest_74 : decode cX7_digest 74 = .ok (.goto (-41), 3) := by decide +kernel
theorem dX7_digest_77 : decode cX7_digest 77 = .ok (.iconst 0, 1) := by decide +kernel
theorem dX7_digest_78 : decode cX7_digest 78 = .ok (.istore_n 3, 1) := by decide +kernel
theorem dX7_digest_79 : decode cX7_digest 79 = .ok (.iload_n 3, 1) := by decide +kernel
theorem dX7_digest_80 : decode cX7_digest 80 = .ok (.aload_n 0, 1) := by decide +kernel
theorem dX7_digest_81 : decode cX7_digest 81 = .ok (.getfield 53, 3) := by decide +kernel
theorem dX7_digest_84 : decode cX7_digest 84 = .ok (.if_icmp .ge 26, 3) := by decide +kernel
theorem dX7_digest_87 : decode cX7_digest 87 = .ok (.lload_n 1, 1) := by decide +kernel
theorem dX7_digest_88 : decode cX7_digest 88 = .ok (.aload_n 0, 1) := by decide +kernel
theorem dX7_digest_89 : decode cX7_digest 89 = .ok (.getfield 27, 3) := by decide +kernel
theorem dX7_digest_92 : decode cX7_digest 92 = .ok (.iload_n 3, 1) := by decide +kernel
theorem dX7_digest_93 : decode cX7_digest 93 = .ok (.aaload, 1) := by decide +kernel
theorem dX7_digest_94 : decode cX7_digest 94 = .ok (.getfield 184, 3) := by decide +kernel
theorem dX7_digest_97 : decode cX7_digest 97 = .ok (.sipush 192, 3) := by decide +kernel
theorem dX7_digest_100 : decode cX7_digest 100 = .ok (.invokestatic 234, 3) := by decide +kernel
theorem dX7_digest_103 : decode cX7_digest 103 = .ok (.lstore_n 1, 1) := by decide +kernel
theorem dX7_digest_104 : decode cX7_digest 104 = .ok (.iinc 3 1, 3) := by decide +kernel
theorem dX7_digest_107 : decode cX7_digest 107 = .ok (.goto (-28), 3) := by decide +kernel
theorem dX7_digest_110 : decode cX7_digest 110 = .ok (.iconst 0, 1) := by decide +kernel
theorem dX7_digest_111 : decode cX7_digest 111 = .ok (.istore_n 3, 1) := by decide +kernel
theorem dX7_digest_112 : decode cX7_digest 112 = .ok (.iload_n 3, 1) := by decide +kernel
theorem dX7_digest_113 : decode cX7_digest 113 = .ok (.aload_n 0, 1) := by decide +kernel
theorem dX7_digest_114 : decode cX7_digest 114 = .ok (.getfield 56, 3) := by decide +kernel
theorem dX7_digest_117 : decode cX7_digest 117 = .ok (.if_icmp .ge 37, 3) := by decide +kernel
theorem dX7_digest_120 : decode cX7_digest 120 = .ok (.lload_n 1, 1) := by decide +kernel
theorem dX7_digest_121 : decode cX7_digest 121 = .ok (.aload_n 0, 1) := by decide +kernel
theorem dX7_digest_122 : decode cX7_digest 122 = .ok (.getfield 33, 3) := by decide +kernel
theorem dX7_digest_125 : decode cX7_digest 125 = .ok (.iload_n 3, 1) := by decide +kernel
theorem dX7_digest_126 : decode cX7_digest 126 = .ok (.aaload, 1) := by decide +kernel
theorem dX7_digest_127 : decode cX7_digest 127 = .ok (.getfield 238, 3) := by decide +kernel
theorem dX7_digest_130 : decode cX7_digest 130 = .ok (.i2l, 1) := by decide +kernel
theorem dX7_digest_131 : decode cX7_digest 131 = .ok (.invokestatic 241, 3) := by decide +kernel
theorem dX7_digest_134 : decode cX7_digest 134 = .ok (.aload_n 0, 1) := by decide +kernel
theorem dX7_digest_135 : decode cX7_digest 135 = .ok (.getfield 33, 3) := by decide +kernel
theorem dX7_digest_138 : decode cX7_digest 138 = .ok (.iload_n 3, 1) := by decide +kernel
theorem dX7_digest_139 : decode cX7_digest 139 = .ok (.aaload, 1) := by decide +kernel
theorem dX7_digest_140 : decode cX7_digest 140 = .ok (.getfield 204, 3) := by decide +kernel
theorem dX7_digest_143 : decode cX7_digest 143 = .ok (.i2l, 1) := by decide +kernel
theorem dX7_digest_144 : decode cX7_digest 144 = .ok (.invokestatic 241, 3) := by decide +kernel
theorem dX7_digest_147 : decode cX7_digest 147 = .ok (.lstore_n 1, 1) := by decide +kernel
theorem dX7_digest_148 : decode cX7_digest 148 = .ok (.iinc 3 1, 3) := by decide +kernel
theorem dX7_digest_151 : decode cX7_digest 151 = .ok (.goto (-39), 3) := by decide +kernel
theorem dX7_digest_154 : decode cX7_digest 154 = .ok (.iconst 0, 1) := by decide +kernel
theorem dX7_digest_155 : decode cX7_digest 155 = .ok (.istore_n 3, 1) := by decide +kernel
theorem dX7_digest_156 : decode cX7_digest 156 = .ok (.iload_n 3, 1) := by decide +kernel
theorem dX7_digest_157 : decode cX7_digest 157 = .ok (.aload_n 0, 1) := by decide +kernel
theorem dX7_digest_158 : decode cX7_digest 158 = .ok (.getfield 59, 3) := by decide +kernel
theorem dX7_digest_161 : decode cX7_digest 161 = .ok (.if_icmp .ge 20, 3) := by decide +kernel
theorem dX7_digest_164 : decode cX7_digest 164 = .ok (.aload_n 0, 1) := by decide +kernel
theorem dX7_digest_165 : decode cX7_digest 165 = .ok (.getfield 39, 3) := by decide +kernel
theorem dX7_digest_168 : decode cX7_digest 168 = .ok (.iload_n 3, 1) := by decide +kernel
theorem dX7_digest_169 : decode cX7_digest 169 = .ok (.aaload, 1) := by decide +kernel
theorem dX7_digest_170 : decode cX7_digest 170 = .ok (.lload_n 1, 1) := by decide +kernel
theorem dX7_digest_171 : decode cX7_digest 171 = .ok (.invokevirtual 245, 3) := by decide +kernel
theorem dX7_digest_174 : decode cX7_digest 174 = .ok (.lstore_n 1, 1) := by decide +kernel
theorem dX7_digest_175 : decode cX7_digest 175 = .ok (.iinc 3 1, 3) := by decide +kernel
theorem dX7_digest_178 : decode cX7_digest 178 = .ok (.goto (-22), 3) := by decide +kernel
theorem dX7_digest_181 : decode cX7_digest 181 = .ok (.lload_n 1, 1) := by decide +kernel
theorem dX7_digest_182 : decode cX7_digest 182 = .ok (.aload_n 0, 1) := by decide +kernel
theorem dX7_digest_183 : decode cX7_digest 183 = .ok (.getfield 43, 3) := by decide +kernel
theorem dX7_digest_186 : decode cX7_digest 186 = .ok (.aload_n 0, 1) := by decide +kernel
theorem dX7_digest_187 : decode cX7_digest 187 = .ok (.getfield 62, 3) := by decide +kernel
theorem dX7_digest_190 : decode cX7_digest 190 = .ok (.invokestatic 234, 3) := by decide +kernel
theorem dX7_digest_193 : decode cX7_digest 193 = .ok (.lreturn, 1) := by decide +kernel
theorem dX7_horseAt_0 : decode cX7_horseAt 0 = .ok (.iload_n 1, 1) := by decide +kernel
theorem dX7_horseAt_1 : decode cX7_horseAt 1 = .ok (.ifCond .lt 11, 3) := by decide +kernel
theorem dX7_horseAt_4 : decode cX7_horseAt 4 = .ok (.iload_n 1, 1) := by decide +kernel
theorem dX7_horseAt_5 : decode cX7_horseAt 5 = .ok (.aload_n 0, 1) := by decide +kernel
theorem dX7_horseAt_6 : decode cX7_horseAt 6 = .ok (.getfield 46, 3) := by decide +kernel
theorem dX7_horseAt_9 : decode cX7_horseAt 9 = .ok (.if_icmp .lt 7, 3) := by decide +kernel
theorem dX7_horseAt_12 : decode cX7_horseAt 12 = .ok (.aconst_null, 1) := by decide +kernel
theorem dX7_horseAt_13 : decode cX7_horseAt 13 = .ok (.goto 9, 3) := by decide +kernel
theorem dX7_horseAt_16 : decode cX7_horseAt 16 = .ok (.aload_n 0, 1) := by decide +kernel
theorem dX7_horseAt_17 : decode cX7_horseAt 17 = .ok (.getfield 15, 3) := by decide +kernel
theorem dX7_horseAt_20 : decode cX7_horseAt 20 = .ok (.iload_n 1, 1) := by decide +kernel
theorem dX7_horseAt_21 : decode cX7_horseAt 21 = .ok (.aaload, 1) := by decide +kernel
theorem dX7_horseAt_22 : decode cX7_horseAt 22 = .ok (.areturn, 1) := by decide +kernel
theorem dX7_treeAt_0 : decode cX7_treeAt 0 = .ok (.iload_n 1, 1) := by decide +kernel
theorem dX7_treeAt_1 : decode cX7_treeAt 1 = .ok (.ifCond .lt 11, 3) := by decide +kernel
theorem dX7_treeAt_4 : decode cX7_treeAt 4 = .ok (.iload_n 1, 1) := by decide +kernel
theorem dX7_treeAt_5 : decode cX7_treeAt 5 = .ok (.aload_n 0, 1) := by decide +kernel
theorem dX7_treeAt_6 : decode cX7_treeAt 6 = .ok (.getfield 50, 3) := by decide +kernel
theorem dX7_treeAt_9 : decode cX7_treeAt 9 = .ok (.if_icmp .lt 7, 3) := by decide +kernel
theorem dX7_treeAt_12 : decode cX7_treeAt 12 = .ok (.aconst_null, 1) := by decide +kernel
theorem dX7_treeAt_13 : decode cX7_treeAt 13 = .ok (.goto 9, 3) := by decide +kernel
theorem dX7_treeAt_16 : decode cX7_treeAt 16 = .ok (.aload_n 0, 1) := by decide +kernel
theorem dX7_treeAt_17 : decode cX7_treeAt 17 = .ok (.getfield 21, 3) := by decide +kernel
theorem dX7_treeAt_20 : decode cX7_treeAt 20 = .ok (.iload_n 1, 1) := by decide +kernel
theorem dX7_treeAt_21 : decode cX7_treeAt 21 = .ok (.aaload, 1) := by decide +kernel
theorem dX7_treeAt_22 : decode cX7_treeAt 22 = .ok (.areturn, 1) := by decide +kernel
theorem dX7_hideAt_0 : decode cX7_hideAt 0 = .ok (.iload_n 1, 1) := by decide +kernel
theorem dX7_hideAt_1 : decode cX7_hideAt 1 = .ok (.ifCond .lt 11, 3) := by decide +kernel
theorem dX7_hideAt_4 : decode cX7_hideAt 4 = .ok (.iload_n 1, 1) := by decide +kernel
theorem dX7_hideAt_5 : decode cX7_hideAt 5 = .ok (.aload_n 0, 1) := by decide +kernel
theorem dX7_hideAt_6 : decode cX7_hideAt 6 = .ok (.getfield 53, 3) := by decide +kernel
theorem dX7_hideAt_9 : decode cX7_hideAt 9 = .ok (.if_icmp .lt 7, 3) := by decide +kernel
theorem dX7_hideAt_12 : decode cX7_hideAt 12 = .ok (.aconst_null, 1) := by decide +kernel
theorem dX7_hideAt_13 : decode cX7_hideAt 13 = .ok (.goto 9, 3) := by decide +kernel
theorem dX7_hideAt_16 : decode cX7_hideAt 16 = .ok (.aload_n 0, 1) := by decide +kernel
theorem dX7_hideAt_17 : decode cX7_hideAt 17 = .ok (.getfield 27, 3) := by decide +kernel
theorem dX7_hideAt_20 : decode cX7_hideAt 20 = .ok (.iload_n 1, 1) := by decide +kernel
theorem dX7_hideAt_21 : decode cX7_hideAt 21 = .ok (.aaload, 1) := by decide +kernel
theorem dX7_hideAt_22 : decode cX7_hideAt 22 = .ok (.areturn, 1) := by decide +kernel
theorem dX7_saddleAt_0 : decode cX7_saddleAt 0 = .ok (.iload_n 1, 1) := by decide +kernel
theorem dX7_saddleAt_1 : decode cX7_saddleAt 1 = .ok (.ifCond .lt 11, 3) := by decide +kernel
theorem dX7_saddleAt_4 : decode cX7_saddleAt 4 = .ok (.iload_n 1, 1) := by decide +kernel
theorem dX7_saddleAt_5 : decode cX7_saddleAt 5 = .ok (.aload_n 0, 1) := by decide +kernel
theorem dX7_saddleAt_6 : decode cX7_saddleAt 6 = .ok (.getfield 59, 3) := by decide +kernel
theorem dX7_saddleAt_9 : decode cX7_saddleAt 9 = .ok (.if_icmp .lt 7, 3) := by decide +kernel
theorem dX7_saddleAt_12 : decode cX7_saddleAt 12 = .ok (.aconst_null, 1) := by decide +kernel
theorem dX7_saddleAt_13 : decode cX7_saddleAt 13 = .ok (.goto 9, 3) := by decide +kernel
theorem dX7_saddleAt_16 : decode cX7_saddleAt 16 = .ok (.aload_n 0, 1) := by decide +kernel
theorem dX7_saddleAt_17 : decode cX7_saddleAt 17 = .ok (.getfield 39, 3) := by decide +kernel
theorem dX7_saddleAt_20 : decode cX7_saddleAt 20 = .ok (.iload_n 1, 1) := by decide +kernel
theorem dX7_saddleAt_21 : decode cX7_saddleAt 21 = .ok (.aaload, 1) := by decide +kernel
theorem dX7_saddleAt_22 : decode cX7_saddleAt 22 = .ok (.areturn, 1) := by decide +kernel
theorem dX7_isWithin_0 : decode cX7_isWithin 0 = .ok (.iload_n 0, 1) := by decide +kernel
theorem dX7_isWithin_1 : decode cX7_isWithin 1 = .ok (.iload_n 1, 1) := by decide +kernel
theorem dX7_isWithin_2 : decode cX7_isWithin 2 = .ok (.if_icmp .lt 12, 3) := by decide +kernel
theorem dX7_isWithin_5 : decode cX7_isWithin 5 = .ok (.iload_n 0, 1) := by decide +kernel
theorem dX7_isWithin_6 : decode cX7_isWithin 6 = .ok (.iload_n 2, 1) := by decide +kernel
theorem dX7_isWithin_7 : decode cX7_isWithin 7 = .ok (.if_icmp .gt 7, 3) := by decide +kernel
theorem dX7_isWithin_10 : decode cX7_isWithin 10 = .ok (.iconst 1, 1) := by decide +kernel
theorem dX7_isWithin_11 : decode cX7_isWithin 11 = .ok (.goto 4, 3) := by decide +kernel
theorem dX7_isWithin_14 : decode cX7_isWithin 14 = .ok (.iconst 0, 1) := by decide +kernel
theorem dX7_isWithin_15 : decode cX7_isWithin 15 = .ok (.ireturn, 1) := by decide +kernel
set_option maxRecDepth 20000 in
theorem ggX7_isStation_X7_isWithin : GoodIn wsX7_isStation wsX7_isWithin := goodIn_r _ [4] (by decide +kernel) (by decide +kernel)
set_option maxRecDepth 20000 in
theorem gX7_isStation_X7_isWithin : GoodIn wsX7_isStation (va_wsS RX7 89 yX7_isWithin wsX7_isWithin) := goodIn_app (goodIn_of _ (by decide +kernel)) ggX7_isStation_X7_isWithin
theorem dX7_isStation_0 : decode cX7_isStation 0 = .ok (.iload_n 0, 1) := by decide +kernel
theorem dX7_isStation_1 : decode cX7_isStation 1 = .ok (.iconst 0, 1) := by decide +kernel
theorem dX7_isStation_2 : decode cX7_isStation 2 = .ok (.bipush 8, 2) := by decide +kernel
theorem dX7_isStation_4 : decode cX7_isStation 4 = .ok (.invokestatic 89, 3) := by decide +kernel
theorem dX7_isStation_7 : decode cX7_isStation 7 = .ok (.ireturn, 1) := by decide +kernel
set_option maxRecDepth 20000 in
theorem ggX7_isDay_X7_isWithin : GoodIn wsX7_isDay wsX7_isWithin := goodIn_r _ [4] (by decide +kernel) (by decide +kernel)
set_option maxRecDepth 20000 in
theorem gX7_isDay_X7_isWithin : GoodIn wsX7_isDay (va_wsS RX7 89 yX7_isWithin wsX7_isWithin) := goodIn_app (goodIn_of _ (by decide +kernel)) ggX7_isDay_X7_isWithin
theorem dX7_isDay_0 : decode cX7_isDay 0 = .ok (.iload_n 0, 1) := by decide +kernel
theorem dX7_isDay_1 : decode cX7_isDay 1 = .ok (.iconst 0, 1) := by decide +kernel
theorem dX7_isDay_2 : decode cX7_isDay 2 = .ok (.sipush 10000, 3) := by decide +kernel
theorem dX7_isDay_5 : decode cX7_isDay 5 = .ok (.invokestatic 89, 3) := by decide +kernel
theorem dX7_isDay_8 : decode cX7_isDay 8 = .ok (.ireturn, 1) := by decide +kernel
set_option maxRecDepth 20000 in
theorem ggX7_isLoad_X7_isWithin : GoodIn wsX7_isLoad wsX7_isWithin := goodIn_r _ [4] (by decide +kernel) (by decide +kernel)
set_option maxRecDepth 20000 in
theorem gX7_isLoad_X7_isWithin : GoodIn wsX7_isLoad (va_wsS RX7 89 yX7_isWithin wsX7_isWithin) := goodIn_app (goodIn_of _ (by decide +kernel)) ggX7_isLoad_X7_isWithin
theorem dX7_isLoad_0 : decode cX7_isLoad 0 = .ok (.iload_n 0, 1) := by decide +kernel
theorem dX7_isLoad_1 : decode cX7_isLoad 1 = .ok (.iconst 1, 1) := by decide +kernel
theorem dX7_isLoad_2 : decode cX7_isLoad 2 = .ok (.sipush 2000, 3) := by decide +kernel
theorem dX7_isLoad_5 : decode cX7_isLoad 5 = .ok (.invokestatic 89, 3) := by decide +kernel
theorem dX7_isLoad_8 : decode cX7_isLoad 8 = .ok (.ireturn, 1) := by decide +kernel
set_option maxRecDepth 20000 in
theorem ggX7_isPatch_X7_isWithin : GoodIn wsX7_isPatch wsX7_isWithin := goodIn_r _ [4] (by decide +kernel) (by decide +kernel)
set_option maxRecDepth 20000 in
theorem gX7_isPatch_X7_isWithin : GoodIn wsX7_isPatch (va_wsS RX7 89 yX7_isWithin wsX7_isWithin) := goodIn_app (goodIn_of _ (by decide +kernel)) ggX7_isPatch_X7_isWithin
theorem dX7_isPatch_0 : decode cX7_isPatch 0 = .ok (.iload_n 0, 1) := by decide +kernel
theorem dX7_isPatch_1 : decode cX7_isPatch 1 = .ok (.iconst 0, 1) := by decide +kernel
theorem dX7_isPatch_2 : decode cX7_isPatch 2 = .ok (.bipush 15, 2) := by decide +kernel
theorem dX7_isPatch_4 : decode cX7_isPatch 4 = .ok (.invokestatic 89, 3) := by decide +kernel
theorem dX7_isPatch_7 : decode cX7_isPatch 7 = .ok (.ifCond .eq 17, 3) := by decide +kernel
theorem dX7_isPatch_10 : decode cX7_isPatch 10 = .ok (.iload_n 1, 1) := by decide +kernel
theorem dX7_isPatch_11 : decode cX7_isPatch 11 = .ok (.iconst 0, 1) := by decide +kernel
theorem dX7_isPatch_12 : decode cX7_isPatch 12 = .ok (.bipush 11, 2) := by decide +kernel
theorem dX7_isPatch_14 : decode cX7_isPatch 14 = .ok (.invokestatic 89, 3) := by decide +kernel
theorem dX7_isPatch_17 : decode cX7_isPatch 17 = .ok (.ifCond .eq 7, 3) := by decide +kernel
theorem dX7_isPatch_20 : decode cX7_isPatch 20 = .ok (.iconst 1, 1) := by decide +kernel
theorem dX7_isPatch_21 : decode cX7_isPatch 21 = .ok (.goto 4, 3) := by decide +kernel
theorem dX7_isPatch_24 : decode cX7_isPatch 24 = .ok (.iconst 0, 1) := by decide +kernel
theorem dX7_isPatch_25 : decode cX7_isPatch 25 = .ok (.ireturn, 1) := by decide +kernel
set_option maxRecDepth 20000 in
theorem ggX7_fitsOn_X5_settle : GoodIn wsX7_fitsOn wsX5_settle := goodIn_r _ [6, 7, 8, 9, 10, 11, 12, 13, 14, 15, 4, 16, 17, 18, 19, 20, 21, 22, 23, 24, 25, 26, 27, 28, 29, 30, 31, 32, 33, 34, 35, 36, 37, 75, 76, 77, 78, 79, 80] (by decide +kernel) (by decide +kernel)
set_option maxRecDepth 20000 in
theorem gX7_fitsOn_X5_settle_n139 : GoodIn wsX7_fitsOn (wsX5_settle) := ggX7_fitsOn_X5_settle
set_option maxRecDepth 20000 in
theorem ggX7_fitsOn_X5_firstFault : GoodIn wsX7_fitsOn wsX5_firstFault := goodIn_r _ [40, 41, 42, 43, 4, 44, 7, 45, 46, 47, 48, 49, 50, 51, 52, 53, 54, 55, 56, 75, 76] (by decide +kernel) (by decide +kernel)
set_option maxRecDepth 20000 in
theorem gX7_fitsOn_X5_firstFault_n146 : GoodIn wsX7_fitsOn (wsX5_firstFault) := ggX7_fitsOn_X5_firstFault
theorem dX7_fitsOn_0 : decode cX7_fitsOn 0 = .ok (.aload_n 0, 1) := by decide +kernel
theorem dX7_fitsOn_1 : decode cX7_fitsOn 1 = .ok (.getfield 77, 3) := by decide +kernel
theorem dX7_fitsOn_4 : decode cX7_fitsOn 4 = .ok (.aload_n 0, 1) := by decide +kernel
theorem dX7_fitsOn_5 : decode cX7_fitsOn 5 = .ok (.getfield 21, 3) := by decide +kernel
theorem dX7_fitsOn_8 : decode cX7_fitsOn 8 = .ok (.iload_n 1, 1) := by decide +kernel
theorem dX7_fitsOn_9 : decode cX7_fitsOn 9 = .ok (.aaload, 1) := by decide +kernel
theorem dX7_fitsOn_10 : decode cX7_fitsOn 10 = .ok (.aload_n 2, 1) := by decide +kernel
theorem dX7_fitsOn_11 : decode cX7_fitsOn 11 = .ok (.iload_n 3, 1) := by decide +kernel
theorem dX7_fitsOn_12 : decode cX7_fitsOn 12 = .ok (.invokevirtual 139, 3) := by decide +kernel
theorem dX7_fitsOn_15 : decode cX7_fitsOn 15 = .ok (.aload_n 0, 1) := by decide +kernel
theorem dX7_fitsOn_16 : decode cX7_fitsOn 16 = .ok (.getfield 77, 3) := by decide +kernel
theorem dX7_fitsOn_19 : decode cX7_fitsOn 19 = .ok (.iload 4, 2) := by decide +kernel
theorem dX7_fitsOn_21 : decode cX7_fitsOn 21 = .ok (.invokevirtual 146, 3) := by decide +kernel
theorem dX7_fitsOn_24 : decode cX7_fitsOn 24 = .ok (.ifCond .ne 7, 3) := by decide +kernel
theorem dX7_fitsOn_27 : decode cX7_fitsOn 27 = .ok (.iconst 1, 1) := by decide +kernel
theorem dX7_fitsOn_28 : decode cX7_fitsOn 28 = .ok (.goto 4, 3) := by decide +kernel
theorem dX7_fitsOn_31 : decode cX7_fitsOn 31 = .ok (.iconst 0, 1) := by decide +kernel
theorem dX7_fitsOn_32 : decode cX7_fitsOn 32 = .ok (.ireturn, 1) := by decide +kernel
set_option maxRecDepth 20000 in
theorem ggX7_listFitting_X2_backOn : GoodIn wsX7_listFitting wsX2_backOn := goodIn_r _ [9, 10, 11, 96, 97, 98, 99] (by decide +kernel) (by decide +kernel)
set_option maxRecDepth 20000 in
theorem gX7_listFitting_X2_backOn_n115 : GoodIn wsX7_listFitting (wsX2_backOn) := ggX7_listFitting_X2_backOn
set_option maxRecDepth 20000 in
theorem ggX7_listFitting_X7_fittingBits : GoodIn wsX7_listFitting wsX7_fittingBits := goodIn_r _ [16, 17, 18, 19, 20, 15, 21, 22, 23, 24, 25, 26, 27, 28, 29, 30, 31, 32, 33, 34, 35, 36, 37, 38, 39, 40, 41, 42, 43, 44, 45, 46, 47, 48, 49, 50, 51, 52, 53, 54, 55, 56, 57, 58, 59, 60, 61, 62, 63, 64, 65, 66, 67, 68, 69, 70, 71, 72, 73, 74, 75, 76, 77, 78, 79, 80, 81, 82, 83, 84, 85, 86, 87, 88, 89, 90, 91, 92, 93, 94, 95, 100, 101, 98, 99, 102, 103] (by decide +kernel) (by decide +kernel)
set_option maxRecDepth 20000 in
theorem gX7_listFitting_X7_fittingBits : GoodIn wsX7_listFitting (wsV RX7 246 RX7 yX7_fittingBits wsX7_fittingBits) := goodIn_app (goodIn_of _ (by decide +kernel)) ggX7_listFitting_X7_fittingBits
theorem dX7_listFitting_0 : decode cX7_listFitting 0 = .ok (.iconst 0, 1) := by decide +kernel
theorem dX7_listFitting_1 : decode cX7_listFitting 1 = .ok (.istore_n 3, 1) := by decide +kernel
theorem dX7_listFitting_2 : decode cX7_listFitting 2 = .ok (.iconst 0, 1) := by decide +kernel
theorem dX7_listFitting_3 : decode cX7_listFitting 3 = .ok (.istore 4, 2) := by decide +kernel
theorem dX7_listFitting_5 : decode cX7_listFitting 5 = .ok (.iload 4, 2) := by decide +kernel
theorem dX7_listFitting_7 : decode cX7_listFitting 7 = .ok (.aload_n 0, 1) := by decide +kernel
theorem dX7_listFitting_8 : decode cX7_listFitting 8 = .ok (.getfield 46, 3) := by decide +kernel
theorem dX7_listFitting_11 : decode cX7_listFitting 11 = .ok (.if_icmp .ge 68, 3) := by decide +kernel
theorem dX7_listFitting_14 : decode cX7_listFitting 14 = .ok (.iconst 0, 1) := by decide +kernel
theorem dX7_listFitting_15 : decode cX7_listFitting 15 = .ok (.istore 5, 2) := by decide +kernel
theorem dX7_listFitting_17 : decode cX7_listFitting 17 = .ok (.iload 5, 2) := by decide +kernel
theorem dX7_listFitting_19 : decode cX7_listFitting 19 = .ok (.aload_n 0, 1) := by decide +kernel
theorem dX7_listFitting_20 : decode cX7_listFitting 20 = .ok (.getfield 62, 3) := by decide +kernel
theorem dX7_listFitting_23 : decode cX7_listFitting 23 = .ok (.if_icmp .ge 50, 3) := by decide +kernel
theorem dX7_listFitting_26 : decode cX7_listFitting 26 = .ok (.aload_n 0, 1) := by decide +kernel
theorem dX7_listFitting_27 : decode cX7_listFitting 27 = .ok (.getfield 15, 3) := by decide +kernel
theorem dX7_listFitting_30 : decode cX7_listFitting 30 = .ok (.iload 4, 2) := by decide +kernel
theorem dX7_listFitting_32 : decode cX7_listFitting 32 = .ok (.aaload, 1) := by decide +kernel
