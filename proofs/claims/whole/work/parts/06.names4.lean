theorem dX7_listFitting_33 : decode cX7_listFitting 33 = .ok (.aload_n 0, 1) := by decide +kernel
theorem dX7_listFitting_34 : decode cX7_listFitting 34 = .ok (.getfield 43, 3) := by decide +kernel
theorem dX7_listFitting_37 : decode cX7_listFitting 37 = .ok (.iload 5, 2) := by decide +kernel
theorem dX7_listFitting_39 : decode cX7_listFitting 39 = .ok (.iaload, 1) := by decide +kernel
theorem dX7_listFitting_40 : decode cX7_listFitting 40 = .ok (.invokevirtual 115, 3) := by decide +kernel
theorem dX7_listFitting_43 : decode cX7_listFitting 43 = .ok (.astore 6, 2) := by decide +kernel
theorem dX7_listFitting_45 : decode cX7_listFitting 45 = .ok (.aload 6, 2) := by decide +kernel
theorem dX7_listFitting_47 : decode cX7_listFitting 47 = .ok (.ifnull 20, 3) := by decide +kernel
theorem dX7_listFitting_50 : decode cX7_listFitting 50 = .ok (.aload_n 0, 1) := by decide +kernel
theorem dX7_listFitting_51 : decode cX7_listFitting 51 = .ok (.getfield 81, 3) := by decide +kernel
theorem dX7_listFitting_54 : decode cX7_listFitting 54 = .ok (.iload_n 3, 1) := by decide +kernel
theorem dX7_listFitting_55 : decode cX7_listFitting 55 = .ok (.aload_n 0, 1) := by decide +kernel
theorem dX7_listFitting_56 : decode cX7_listFitting 56 = .ok (.aload 6, 2) := by decide +kernel
theorem dX7_listFitting_58 : decode cX7_listFitting 58 = .ok (.iload_n 1, 1) := by decide +kernel
theorem dX7_listFitting_59 : decode cX7_listFitting 59 = .ok (.iload_n 2, 1) := by decide +kernel
theorem dX7_listFitting_60 : decode cX7_listFitting 60 = .ok (.invokevirtual 246, 3) := by decide +kernel
theorem dX7_listFitting_63 : decode cX7_listFitting 63 = .ok (.iastore, 1) := by decide +kernel
theorem dX7_listFitting_64 : decode cX7_listFitting 64 = .ok (.iinc 3 1, 3) := by decide +kernel
theorem dX7_listFitting_67 : decode cX7_listFitting 67 = .ok (.iinc 5 1, 3) := by decide +kernel
theorem dX7_listFitting_70 : decode cX7_listFitting 70 = .ok (.goto (-53), 3) := by decide +kernel
theorem dX7_listFitting_73 : decode cX7_listFitting 73 = .ok (.iinc 4 1, 3) := by decide +kernel
theorem dX7_listFitting_76 : decode cX7_listFitting 76 = .ok (.goto (-71), 3) := by decide +kernel
theorem dX7_listFitting_79 : decode cX7_listFitting 79 = .ok (.iload_n 3, 1) := by decide +kernel
theorem dX7_listFitting_80 : decode cX7_listFitting 80 = .ok (.ireturn, 1) := by decide +kernel
set_option maxRecDepth 20000 in
theorem ggX7_fittingBits_X7_fitsOn : GoodIn wsX7_fittingBits wsX7_fitsOn := goodIn_r _ [6, 7, 8, 9, 10, 11, 12, 13, 14, 15, 16, 17, 18, 19, 20, 21, 22, 23, 24, 25, 26, 27, 28, 29, 30, 31, 32, 33, 34, 35, 36, 37, 38, 39, 40, 41, 42, 43, 44, 45, 46, 47, 48, 49, 50, 51, 52, 53, 54, 55, 56, 57, 58, 59, 60, 61, 62, 63, 64, 65, 66, 67, 68, 69, 70, 71, 72, 73, 74, 75, 76, 77, 78, 79, 80, 81, 82, 83, 84, 85, 86] (by decide +kernel) (by decide +kernel)
set_option maxRecDepth 20000 in
theorem gX7_fittingBits_X7_fitsOn : GoodIn wsX7_fittingBits (wsV RX7 159 RX7 yX7_fitsOn wsX7_fitsOn) := goodIn_app (goodIn_of _ (by decide +kernel)) ggX7_fittingBits_X7_fitsOn
theorem dX7_fittingBits_0 : decode cX7_fittingBits 0 = .ok (.iconst 0, 1) := by decide +kernel
theorem dX7_fittingBits_1 : decode cX7_fittingBits 1 = .ok (.istore 4, 2) := by decide +kernel
theorem dX7_fittingBits_3 : decode cX7_fittingBits 3 = .ok (.iconst 0, 1) := by decide +kernel
theorem dX7_fittingBits_4 : decode cX7_fittingBits 4 = .ok (.istore 5, 2) := by decide +kernel
theorem dX7_fittingBits_6 : decode cX7_fittingBits 6 = .ok (.iload 5, 2) := by decide +kernel
theorem dX7_fittingBits_8 : decode cX7_fittingBits 8 = .ok (.aload_n 0, 1) := by decide +kernel
theorem dX7_fittingBits_9 : decode cX7_fittingBits 9 = .ok (.getfield 50, 3) := by decide +kernel
theorem dX7_fittingBits_12 : decode cX7_fittingBits 12 = .ok (.if_icmp .ge 30, 3) := by decide +kernel
theorem dX7_fittingBits_15 : decode cX7_fittingBits 15 = .ok (.aload_n 0, 1) := by decide +kernel
theorem dX7_fittingBits_16 : decode cX7_fittingBits 16 = .ok (.iload 5, 2) := by decide +kernel
theorem dX7_fittingBits_18 : decode cX7_fittingBits 18 = .ok (.aload_n 1, 1) := by decide +kernel
theorem dX7_fittingBits_19 : decode cX7_fittingBits 19 = .ok (.iload_n 2, 1) := by decide +kernel
theorem dX7_fittingBits_20 : decode cX7_fittingBits 20 = .ok (.iload_n 3, 1) := by decide +kernel
theorem dX7_fittingBits_21 : decode cX7_fittingBits 21 = .ok (.invokevirtual 159, 3) := by decide +kernel
theorem dX7_fittingBits_24 : decode cX7_fittingBits 24 = .ok (.ifCond .eq 12, 3) := by decide +kernel
theorem dX7_fittingBits_27 : decode cX7_fittingBits 27 = .ok (.iload 4, 2) := by decide +kernel
theorem dX7_fittingBits_29 : decode cX7_fittingBits 29 = .ok (.iconst 1, 1) := by decide +kernel
theorem dX7_fittingBits_30 : decode cX7_fittingBits 30 = .ok (.iload 5, 2) := by decide +kernel
theorem dX7_fittingBits_32 : decode cX7_fittingBits 32 = .ok (.ishl, 1) := by decide +kernel
theorem dX7_fittingBits_33 : decode cX7_fittingBits 33 = .ok (.ior, 1) := by decide +kernel
theorem dX7_fittingBits_34 : decode cX7_fittingBits 34 = .ok (.istore 4, 2) := by decide +kernel
theorem dX7_fittingBits_36 : decode cX7_fittingBits 36 = .ok (.iinc 5 1, 3) := by decide +kernel
theorem dX7_fittingBits_39 : decode cX7_fittingBits 39 = .ok (.goto (-33), 3) := by decide +kernel
theorem dX7_fittingBits_42 : decode cX7_fittingBits 42 = .ok (.iload 4, 2) := by decide +kernel
theorem dX7_fittingBits_44 : decode cX7_fittingBits 44 = .ok (.ireturn, 1) := by decide +kernel
theorem dX7_servesEach_0 : decode cX7_servesEach 0 = .ok (.iconst 0, 1) := by decide +kernel
theorem dX7_servesEach_1 : decode cX7_servesEach 1 = .ok (.istore_n 3, 1) := by decide +kernel
theorem dX7_servesEach_2 : decode cX7_servesEach 2 = .ok (.iload_n 3, 1) := by decide +kernel
theorem dX7_servesEach_3 : decode cX7_servesEach 3 = .ok (.iload_n 2, 1) := by decide +kernel
theorem dX7_servesEach_4 : decode cX7_servesEach 4 = .ok (.if_icmp .ge 22, 3) := by decide +kernel
theorem dX7_servesEach_7 : decode cX7_servesEach 7 = .ok (.aload_n 0, 1) := by decide +kernel
theorem dX7_servesEach_8 : decode cX7_servesEach 8 = .ok (.getfield 81, 3) := by decide +kernel
theorem dX7_servesEach_11 : decode cX7_servesEach 11 = .ok (.iload_n 3, 1) := by decide +kernel
theorem dX7_servesEach_12 : decode cX7_servesEach 12 = .ok (.iaload, 1) := by decide +kernel
theorem dX7_servesEach_13 : decode cX7_servesEach 13 = .ok (.iload_n 1, 1) := by decide +kernel
theorem dX7_servesEach_14 : decode cX7_servesEach 14 = .ok (.iand, 1) := by decide +kernel
theorem dX7_servesEach_15 : decode cX7_servesEach 15 = .ok (.ifCond .ne 5, 3) := by decide +kernel
theorem dX7_servesEach_18 : decode cX7_servesEach 18 = .ok (.iconst 0, 1) := by decide +kernel
theorem dX7_servesEach_19 : decode cX7_servesEach 19 = .ok (.ireturn, 1) := by decide +kernel
theorem dX7_servesEach_20 : decode cX7_servesEach 20 = .ok (.iinc 3 1, 3) := by decide +kernel
theorem dX7_servesEach_23 : decode cX7_servesEach 23 = .ok (.goto (-21), 3) := by decide +kernel
theorem dX7_servesEach_26 : decode cX7_servesEach 26 = .ok (.iconst 1, 1) := by decide +kernel
theorem dX7_servesEach_27 : decode cX7_servesEach 27 = .ok (.ireturn, 1) := by decide +kernel
set_option maxRecDepth 20000 in
theorem ggX7_changeSince_X2_backOn : GoodIn wsX7_changeSince wsX2_backOn := goodIn_r _ [12, 13, 14, 40, 41, 38, 39] (by decide +kernel) (by decide +kernel)
set_option maxRecDepth 20000 in
theorem gX7_changeSince_X2_backOn_n115 : GoodIn wsX7_changeSince (wsX2_backOn) := ggX7_changeSince_X2_backOn
theorem dX7_changeSince_0 : decode cX7_changeSince 0 = .ok (.aload_n 0, 1) := by decide +kernel
theorem dX7_changeSince_1 : decode cX7_changeSince 1 = .ok (.getfield 15, 3) := by decide +kernel
theorem dX7_changeSince_4 : decode cX7_changeSince 4 = .ok (.aload_n 1, 1) := by decide +kernel
theorem dX7_changeSince_5 : decode cX7_changeSince 5 = .ok (.getfield 250, 3) := by decide +kernel
theorem dX7_changeSince_8 : decode cX7_changeSince 8 = .ok (.aaload, 1) := by decide +kernel
theorem dX7_changeSince_9 : decode cX7_changeSince 9 = .ok (.aload_n 1, 1) := by decide +kernel
theorem dX7_changeSince_10 : decode cX7_changeSince 10 = .ok (.getfield 214, 3) := by decide +kernel
theorem dX7_changeSince_13 : decode cX7_changeSince 13 = .ok (.invokevirtual 115, 3) := by decide +kernel
theorem dX7_changeSince_16 : decode cX7_changeSince 16 = .ok (.astore_n 3, 1) := by decide +kernel
theorem dX7_changeSince_17 : decode cX7_changeSince 17 = .ok (.aload_n 0, 1) := by decide +kernel
theorem dX7_changeSince_18 : decode cX7_changeSince 18 = .ok (.getfield 15, 3) := by decide +kernel
theorem dX7_changeSince_21 : decode cX7_changeSince 21 = .ok (.aload_n 1, 1) := by decide +kernel
theorem dX7_changeSince_22 : decode cX7_changeSince 22 = .ok (.getfield 250, 3) := by decide +kernel
theorem dX7_changeSince_25 : decode cX7_changeSince 25 = .ok (.aaload, 1) := by decide +kernel
theorem dX7_changeSince_26 : decode cX7_changeSince 26 = .ok (.iload_n 2, 1) := by decide +kernel
theorem dX7_changeSince_27 : decode cX7_changeSince 27 = .ok (.invokevirtual 115, 3) := by decide +kernel
theorem dX7_changeSince_30 : decode cX7_changeSince 30 = .ok (.astore 4, 2) := by decide +kernel
theorem dX7_changeSince_32 : decode cX7_changeSince 32 = .ok (.aload_n 3, 1) := by decide +kernel
theorem dX7_changeSince_33 : decode cX7_changeSince 33 = .ok (.ifnull 8, 3) := by decide +kernel
theorem dX7_changeSince_36 : decode cX7_changeSince 36 = .ok (.aload 4, 2) := by decide +kernel
theorem dX7_changeSince_38 : decode cX7_changeSince 38 = .ok (.ifnonnull 5, 3) := by decide +kernel
theorem dX7_changeSince_41 : decode cX7_changeSince 41 = .ok (.iconst 0, 1) := by decide +kernel
theorem dX7_changeSince_42 : decode cX7_changeSince 42 = .ok (.ireturn, 1) := by decide +kernel
theorem dX7_changeSince_43 : decode cX7_changeSince 43 = .ok (.iconst 0, 1) := by decide +kernel
theorem dX7_changeSince_44 : decode cX7_changeSince 44 = .ok (.istore 5, 2) := by decide +kernel
theorem dX7_changeSince_46 : decode cX7_changeSince 46 = .ok (.iconst 0, 1) := by decide +kernel
theorem dX7_changeSince_47 : decode cX7_changeSince 47 = .ok (.istore 6, 2) := by decide +kernel
theorem dX7_changeSince_49 : decode cX7_changeSince 49 = .ok (.iload 6, 2) := by decide +kernel
theorem dX7_changeSince_51 : decode cX7_changeSince 51 = .ok (.bipush 9, 2) := by decide +kernel
theorem dX7_changeSince_53 : decode cX7_changeSince 53 = .ok (.if_icmp .ge 35, 3) := by decide +kernel
theorem dX7_changeSince_56 : decode cX7_changeSince 56 = .ok (.iload 5, 2) := by decide +kernel
theorem dX7_changeSince_58 : decode cX7_changeSince 58 = .ok (.aload 4, 2) := by decide +kernel
theorem dX7_changeSince_60 : decode cX7_changeSince 60 = .ok (.getfield 119, 3) := by decide +kernel
theorem dX7_changeSince_63 : decode cX7_changeSince 63 = .ok (.iload 6, 2) := by decide +kernel
theorem dX7_changeSince_65 : decode cX7_changeSince 65 = .ok (.iaload, 1) := by decide +kernel
theorem dX7_changeSince_66 : decode cX7_changeSince 66 = .ok (.aload_n 3, 1) := by decide +kernel
theorem dX7_changeSince_67 : decode cX7_changeSince 67 = .ok (.getfield 119, 3) := by decide +kernel
theorem dX7_changeSince_70 : decode cX7_changeSince 70 = .ok (.iload 6, 2) := by decide +kernel
theorem dX7_changeSince_72 : decode cX7_changeSince 72 = .ok (.iaload, 1) := by decide +kernel
theorem dX7_changeSince_73 : decode cX7_changeSince 73 = .ok (.isub, 1) := by decide +kernel
theorem dX7_changeSince_74 : decode cX7_changeSince 74 = .ok (.invokestatic 253, 3) := by decide +kernel
theorem dX7_changeSince_77 : decode cX7_changeSince 77 = .ok (.invokestatic 258, 3) := by decide +kernel
theorem dX7_changeSince_80 : decode cX7_changeSince 80 = .ok (.istore 5, 2) := by decide +kernel
theorem dX7_changeSince_82 : decode cX7_changeSince 82 = .ok (.iinc 6 1, 3) := by decide +kernel
theorem dX7_changeSince_85 : decode cX7_changeSince 85 = .ok (.goto (-36), 3) := by decide +kernel
theorem dX7_changeSince_88 : decode cX7_changeSince 88 = .ok (.iload 5, 2) := by decide +kernel
theorem dX7_changeSince_90 : decode cX7_changeSince 90 = .ok (.ireturn, 1) := by decide +kernel
theorem dX7_mix_0 : decode cX7_mix 0 = .ok (.ldc2_w 261, 3) := by decide +kernel
theorem dX7_mix_3 : decode cX7_mix 3 = .ok (.lload_n 0, 1) := by decide +kernel
theorem dX7_mix_4 : decode cX7_mix 4 = .ok (.lmul, 1) := by decide +kernel
theorem dX7_mix_5 : decode cX7_mix 5 = .ok (.lload_n 2, 1) := by decide +kernel
theorem dX7_mix_6 : decode cX7_mix 6 = .ok (.ladd, 1) := by decide +kernel
theorem dX7_mix_7 : decode cX7_mix 7 = .ok (.lreturn, 1) := by decide +kernel
set_option maxRecDepth 20000 in
theorem ggX7_mixAll_X7_mix : GoodIn wsX7_mixAll wsX7_mix := goodIn_r _ [4, 5] (by decide +kernel) (by decide +kernel)
set_option maxRecDepth 20000 in
theorem gX7_mixAll_X7_mix : GoodIn wsX7_mixAll (va_wsS RX7 241 yX7_mix wsX7_mix) := goodIn_app (goodIn_of _ (by decide +kernel)) ggX7_mixAll_X7_mix
theorem dX7_mixAll_0 : decode cX7_mixAll 0 = .ok (.lload_n 0, 1) := by decide +kernel
theorem dX7_mixAll_1 : decode cX7_mixAll 1 = .ok (.lstore 4, 2) := by decide +kernel
theorem dX7_mixAll_3 : decode cX7_mixAll 3 = .ok (.iconst 0, 1) := by decide +kernel
theorem dX7_mixAll_4 : decode cX7_mixAll 4 = .ok (.istore 6, 2) := by decide +kernel
theorem dX7_mixAll_6 : decode cX7_mixAll 6 = .ok (.iload 6, 2) := by decide +kernel
theorem dX7_mixAll_8 : decode cX7_mixAll 8 = .ok (.iload_n 3, 1) := by decide +kernel
theorem dX7_mixAll_9 : decode cX7_mixAll 9 = .ok (.if_icmp .ge 21, 3) := by decide +kernel
theorem dX7_mixAll_12 : decode cX7_mixAll 12 = .ok (.lload 4, 2) := by decide +kernel
theorem dX7_mixAll_14 : decode cX7_mixAll 14 = .ok (.aload_n 2, 1) := by decide +kernel
theorem dX7_mixAll_15 : decode cX7_mixAll 15 = .ok (.iload 6, 2) := by decide +kernel
theorem dX7_mixAll_17 : decode cX7_mixAll 17 = .ok (.iaload, 1) := by decide +kernel
theorem dX7_mixAll_18 : decode cX7_mixAll 18 = .ok (.i2l, 1) := by decide +kernel
theorem dX7_mixAll_19 : decode cX7_mixAll 19 = .ok (.invokestatic 241, 3) := by decide +kernel
theorem dX7_mixAll_22 : decode cX7_mixAll 22 = .ok (.lstore 4, 2) := by decide +kernel
theorem dX7_mixAll_24 : decode cX7_mixAll 24 = .ok (.iinc 6 1, 3) := by decide +kernel
theorem dX7_mixAll_27 : decode cX7_mixAll 27 = .ok (.goto (-21), 3) := by decide +kernel
theorem dX7_mixAll_30 : decode cX7_mixAll 30 = .ok (.lload 4, 2) := by decide +kernel
theorem dX7_mixAll_32 : decode cX7_mixAll 32 = .ok (.lreturn, 1) := by decide +kernel
theorem dX8_init_0 : decode cX8_init 0 = .ok (.aload_n 0, 1) := by decide +kernel
theorem dX8_init_1 : decode cX8_init 1 = .ok (.invokespecial 1, 3) := by decide +kernel
theorem dX8_init_4 : decode cX8_init 4 = .ok (.aload_n 0, 1) := by decide +kernel
theorem dX8_init_5 : decode cX8_init 5 = .ok (.bipush 9, 2) := by decide +kernel
theorem dX8_init_7 : decode cX8_init 7 = .ok (.newarray .int, 2) := by decide +kernel
theorem dX8_init_9 : decode cX8_init 9 = .ok (.putfield 7, 3) := by decide +kernel
theorem dX8_init_12 : decode cX8_init 12 = .ok (.aload_n 0, 1) := by decide +kernel
theorem dX8_init_13 : decode cX8_init 13 = .ok (.bipush 8, 2) := by decide +kernel
theorem dX8_init_15 : decode cX8_init 15 = .ok (.newarray .int, 2) := by decide +kernel
theorem dX8_init_17 : decode cX8_init 17 = .ok (.putfield 13, 3) := by decide +kernel
theorem dX8_init_20 : decode cX8_init 20 = .ok (.aload_n 0, 1) := by decide +kernel
theorem dX8_init_21 : decode cX8_init 21 = .ok (.bipush 48, 2) := by decide +kernel
theorem dX8_init_23 : decode cX8_init 23 = .ok (.newarray .int, 2) := by decide +kernel
theorem dX8_init_25 : decode cX8_init 25 = .ok (.putfield 16, 3) := by decide +kernel
theorem dX8_init_28 : decode cX8_init 28 = .ok (.aload_n 0, 1) := by decide +kernel
theorem dX8_init_29 : decode cX8_init 29 = .ok (.sipush 432, 3) := by decide +kernel
theorem dX8_init_32 : decode cX8_init 32 = .ok (.newarray .int, 2) := by decide +kernel
theorem dX8_init_34 : decode cX8_init 34 = .ok (.putfield 19, 3) := by decide +kernel
theorem dX8_init_37 : decode cX8_init 37 = .ok (.aload_n 0, 1) := by decide +kernel
theorem dX8_init_38 : decode cX8_init 38 = .ok (.bipush 72, 2) := by decide +kernel
theorem dX8_init_40 : decode cX8_init 40 = .ok (.newarray .int, 2) := by decide +kernel
theorem dX8_init_42 : decode cX8_init 42 = .ok (.putfield 22, 3) := by decide +kernel
theorem dX8_init_45 : decode cX8_init 45 = .ok (.aload_n 0, 1) := by decide +kernel
theorem dX8_init_46 : decode cX8_init 46 = .ok (.bipush 72, 2) := by decide +kernel
theorem dX8_init_48 : decode cX8_init 48 = .ok (.newarray .int, 2) := by decide +kernel
theorem dX8_init_50 : decode cX8_init 50 = .ok (.putfield 25, 3) := by decide +kernel
theorem dX8_init_53 : decode cX8_init 53 = .ok (.aload_n 0, 1) := by decide +kernel
theorem dX8_init_54 : decode cX8_init 54 = .ok (.bipush 9, 2) := by decide +kernel
theorem dX8_init_56 : decode cX8_init 56 = .ok (.newarray .int, 2) := by decide +kernel
theorem dX8_init_58 : decode cX8_init 58 = .ok (.putfield 28, 3) := by decide +kernel
theorem dX8_init_61 : decode cX8_init 61 = .ok (.aload_n 0, 1) := by decide +kernel
theorem dX8_init_62 : decode cX8_init 62 = .ok (.bipush 9, 2) := by decide +kernel
theorem dX8_init_64 : decode cX8_init 64 = .ok (.newarray .int, 2) := by decide +kernel
theorem dX8_init_66 : decode cX8_init 66 = .ok (.putfield 31, 3) := by decide +kernel
theorem dX8_init_69 : decode cX8_init 69 = .ok (.aload_n 0, 1) := by decide +kernel
theorem dX8_init_70 : decode cX8_init 70 = .ok (.bipush 6, 2) := by decide +kernel
theorem dX8_init_72 : decode cX8_init 72 = .ok (.newarray .int, 2) := by decide +kernel
theorem dX8_init_74 : decode cX8_init 74 = .ok (.putfield 34, 3) := by decide +kernel
theorem dX8_init_77 : decode cX8_init 77 = .ok (.aload_n 0, 1) := by decide +kernel
theorem dX8_init_78 : decode cX8_init 78 = .ok (.bipush 48, 2) := by decide +kernel
theorem dX8_init_80 : decode cX8_init 80 = .ok (.newarray .int, 2) := by decide +kernel
theorem dX8_init_82 : decode cX8_init 82 = .ok (.putfield 37, 3) := by decide +kernel
theorem dX8_init_85 : decode cX8_init 85 = .ok (.aload_n 0, 1) := by decide +kernel
theorem dX8_init_86 : decode cX8_init 86 = .ok (.sipush 768, 3) := by decide +kernel
theorem dX8_init_89 : decode cX8_init 89 = .ok (.newarray .int, 2) := by decide +kernel
theorem dX8_init_91 : decode cX8_init 91 = .ok (.putfield 40, 3) := by decide +kernel
theorem dX8_init_94 : decode cX8_init 94 = .ok (.aload_n 0, 1) := by decide +kernel
theorem dX8_init_95 : decode cX8_init 95 = .ok (.iconst 3, 1) := by decide +kernel
theorem dX8_init_96 : decode cX8_init 96 = .ok (.newarray .int, 2) := by decide +kernel
theorem dX8_init_98 : decode cX8_init 98 = .ok (.putfield 43, 3) := by decide +kernel
theorem dX8_init_101 : decode cX8_init 101 = .ok (.aload_n 0, 1) := by decide +kernel
theorem dX8_init_102 : decode cX8_init 102 = .ok (.iconst 3, 1) := by decide +kernel
theorem dX8_init_103 : decode cX8_init 103 = .ok (.newarray .int, 2) := by decide +kernel
theorem dX8_init_105 : decode cX8_init 105 = .ok (.putfield 46, 3) := by decide +kernel
theorem dX8_init_108 : decode cX8_init 108 = .ok (.aload_n 0, 1) := by decide +kernel
theorem dX8_init_109 : decode cX8_init 109 = .ok (.bipush 60, 2) := by decide +kernel
theorem dX8_init_111 : decode cX8_init 111 = .ok (.newarray .int, 2) := by decide +kernel
theorem dX8_init_113 : decode cX8_init 113 = .ok (.putfield 49, 3) := by decide +kernel
theorem dX8_init_116 : decode cX8_init 116 = .ok (.iconst 0, 1) := by decide +kernel
theorem dX8_init_117 : decode cX8_init 117 = .ok (.istore_n 1, 1) := by decide +kernel
theorem dX8_init_118 : decode cX8_init 118 = .ok (.iload_n 1, 1) := by decide +kernel
theorem dX8_init_119 : decode cX8_init 119 = .ok (.bipush 9, 2) := by decide +kernel
theorem dX8_init_121 : decode cX8_init 121 = .ok (.if_icmp .ge 17, 3) := by decide +kernel
theorem dX8_init_124 : decode cX8_init 124 = .ok (.aload_n 0, 1) := by decide +kernel
theorem dX8_init_125 : decode cX8_init 125 = .ok (.getfield 7, 3) := by decide +kernel
theorem dX8_init_128 : decode cX8_init 128 = .ok (.iload_n 1, 1) := by decide +kernel
theorem dX8_init_129 : decode cX8_init 129 = .ok (.bipush 100, 2) := by decide +kernel
theorem dX8_init_131 : decode cX8_init 131 = .ok (.iastore, 1) := by decide +kernel
theorem dX8_init_132 : decode cX8_init 132 = .ok (.iinc 1 1, 3) := by decide +kernel
theorem dX8_init_135 : decode cX8_init 135 = .ok (.goto (-17), 3) := by decide +kernel
theorem dX8_init_138 : decode cX8_init 138 = .ok (.aload_n 0, 1) := by decide +kernel
theorem dX8_init_139 : decode cX8_init 139 = .ok (.iconst (-1), 1) := by decide +kernel
theorem dX8_init_140 : decode cX8_init 140 = .ok (.putfield 52, 3) := by decide +kernel
theorem dX8_init_143 : decode cX8_init 143 = .ok (.return_, 1) := by decide +kernel
theorem dX8_in_0 : decode cX8_in 0 = .ok (.lload_n 0, 1) := by decide +kernel
theorem dX8_in_1 : decode cX8_in 1 = .ok (.lload_n 2, 1) := by decide +kernel
theorem dX8_in_2 : decode cX8_in 2 = .ok (.lcmp, 1) := by decide +kernel
theorem dX8_in_3 : decode cX8_in 3 = .ok (.ifCond .lt 14, 3) := by decide +kernel
theorem dX8_in_6 : decode cX8_in 6 = .ok (.lload_n 0, 1) := by decide +kernel
theorem dX8_in_7 : decode cX8_in 7 = .ok (.lload 4, 2) := by decide +kernel
theorem dX8_in_9 : decode cX8_in 9 = .ok (.lcmp, 1) := by decide +kernel
theorem dX8_in_10 : decode cX8_in 10 = .ok (.ifCond .gt 7, 3) := by decide +kernel
theorem dX8_in_13 : decode cX8_in 13 = .ok (.iconst 1, 1) := by decide +kernel
theorem dX8_in_14 : decode cX8_in 14 = .ok (.goto 4, 3) := by decide +kernel
theorem dX8_in_17 : decode cX8_in 17 = .ok (.iconst 0, 1) := by decide +kernel
theorem dX8_in_18 : decode cX8_in 18 = .ok (.ireturn, 1) := by decide +kernel
theorem dX8_floor_0 : decode cX8_floor 0 = .ok (.iload_n 0, 1) := by decide +kernel
theorem dX8_floor_1 : decode cX8_floor 1 = .ok (.iload_n 1, 1) := by decide +kernel
theorem dX8_floor_2 : decode cX8_floor 2 = .ok (.idiv, 1) := by decide +kernel
theorem dX8_floor_3 : decode cX8_floor 3 = .ok (.istore_n 2, 1) := by decide +kernel
theorem dX8_floor_4 : decode cX8_floor 4 = .ok (.iload_n 0, 1) := by decide +kernel
theorem dX8_floor_5 : decode cX8_floor 5 = .ok (.ifCond .ge 15, 3) := by decide +kernel
theorem dX8_floor_8 : decode cX8_floor 8 = .ok (.iload_n 0, 1) := by decide +kernel
theorem dX8_floor_9 : decode cX8_floor 9 = .ok (.iload_n 1, 1) := by decide +kernel
theorem dX8_floor_10 : decode cX8_floor 10 = .ok (.irem, 1) := by decide +kernel
theorem dX8_floor_11 : decode cX8_floor 11 = .ok (.ifCond .eq 9, 3) := by decide +kernel
theorem dX8_floor_14 : decode cX8_floor 14 = .ok (.iload_n 2, 1) := by decide +kernel
theorem dX8_floor_15 : decode cX8_floor 15 = .ok (.iconst 1, 1) := by decide +kernel
theorem dX8_floor_16 : decode cX8_floor 16 = .ok (.isub, 1) := by decide +kernel
theorem dX8_floor_17 : decode cX8_floor 17 = .ok (.goto 4, 3) := by decide +kernel
theorem dX8_floor_20 : decode cX8_floor 20 = .ok (.iload_n 2, 1) := by decide +kernel
theorem dX8_floor_21 : decode cX8_floor 21 = .ok (.ireturn, 1) := by decide +kernel
set_option maxRecDepth 20000 in
theorem ggX8_isStation_X8_in : GoodIn wsX8_isStation wsX8_in := goodIn_r _ [5] (by decide +kernel) (by decide +kernel)
set_option maxRecDepth 20000 in
theorem gX8_isStation_X8_in : GoodIn wsX8_isStation (va_wsS RX8 58 yX8_in wsX8_in) := goodIn_app (goodIn_of _ (by decide +kernel)) ggX8_isStation_X8_in
theorem dX8_isStation_0 : decode cX8_isStation 0 = .ok (.iload_n 0, 1) := by decide +kernel
theorem dX8_isStation_1 : decode cX8_isStation 1 = .ok (.i2l, 1) := by decide +kernel
theorem dX8_isStation_2 : decode cX8_isStation 2 = .ok (.lconst 0, 1) := by decide +kernel
theorem dX8_isStation_3 : decode cX8_isStation 3 = .ok (.ldc2_w 56, 3) := by decide +kernel
theorem dX8_isStation_6 : decode cX8_isStation 6 = .ok (.invokestatic 58, 3) := by decide +kernel
theorem dX8_isStation_9 : decode cX8_isStation 9 = .ok (.ireturn, 1) := by decide +kernel
set_option maxRecDepth 20000 in
theorem ggX8_isDay_X8_in : GoodIn wsX8_isDay wsX8_in := goodIn_r _ [5] (by decide +kernel) (by decide +kernel)
set_option maxRecDepth 20000 in
theorem gX8_isDay_X8_in : GoodIn wsX8_isDay (va_wsS RX8 58 yX8_in wsX8_in) := goodIn_app (goodIn_of _ (by decide +kernel)) ggX8_isDay_X8_in
theorem dX8_isDay_0 : decode cX8_isDay 0 = .ok (.iload_n 0, 1) := by decide +kernel
theorem dX8_isDay_1 : decode cX8_isDay 1 = .ok (.i2l, 1) := by decide +kernel
theorem dX8_isDay_2 : decode cX8_isDay 2 = .ok (.lconst 0, 1) := by decide +kernel
theorem dX8_isDay_3 : decode cX8_isDay 3 = .ok (.ldc2_w 62, 3) := by decide +kernel
theorem dX8_isDay_6 : decode cX8_isDay 6 = .ok (.invokestatic 58, 3) := by decide +kernel
theorem dX8_isDay_9 : decode cX8_isDay 9 = .ok (.ireturn, 1) := by decide +kernel
set_option maxRecDepth 20000 in
theorem ggX8_isHorse_X8_in : GoodIn wsX8_isHorse wsX8_in := goodIn_r _ [5] (by decide +kernel) (by decide +kernel)
set_option maxRecDepth 20000 in
theorem gX8_isHorse_X8_in : GoodIn wsX8_isHorse (va_wsS RX8 58 yX8_in wsX8_in) := goodIn_app (goodIn_of _ (by decide +kernel)) ggX8_isHorse_X8_in
theorem dX8_isHorse_0 : decode cX8_isHorse 0 = .ok (.iload_n 1, 1) := by decide +kernel
theorem dX8_isHorse_1 : decode cX8_isHorse 1 = .ok (.i2l, 1) := by decide +kernel
theorem dX8_isHorse_2 : decode cX8_isHorse 2 = .ok (.lconst 0, 1) := by decide +kernel
theorem dX8_isHorse_3 : decode cX8_isHorse 3 = .ok (.aload_n 0, 1) := by decide +kernel
theorem dX8_isHorse_4 : decode cX8_isHorse 4 = .ok (.getfield 64, 3) := by decide +kernel
theorem dX8_isHorse_7 : decode cX8_isHorse 7 = .ok (.iconst 1, 1) := by decide +kernel
theorem dX8_isHorse_8 : decode cX8_isHorse 8 = .ok (.isub, 1) := by decide +kernel
theorem dX8_isHorse_9 : decode cX8_isHorse 9 = .ok (.i2l, 1) := by decide +kernel
theorem dX8_isHorse_10 : decode cX8_isHorse 10 = .ok (.invokestatic 58, 3) := by decide +kernel
theorem dX8_isHorse_13 : decode cX8_isHorse 13 = .ok (.ireturn, 1) := by decide +kernel
theorem dX8_horse_0 : decode cX8_horse 0 = .ok (.aload_n 0, 1) := by decide +kernel
theorem dX8_horse_1 : decode cX8_horse 1 = .ok (.getfield 64, 3) := by decide +kernel
theorem dX8_horse_4 : decode cX8_horse 4 = .ok (.bipush 8, 2) := by decide +kernel
theorem dX8_horse_6 : decode cX8_horse 6 = .ok (.if_icmp .ne 6, 3) := by decide +kernel
theorem dX8_horse_9 : decode cX8_horse 9 = .ok (.bipush (-104), 2) := by decide +kernel
theorem dX8_horse_11 : decode cX8_horse 11 = .ok (.ireturn, 1) := by decide +kernel
theorem dX8_horse_12 : decode cX8_horse 12 = .ok (.aload_n 0, 1) := by decide +kernel
theorem dX8_horse_13 : decode cX8_horse 13 = .ok (.dup, 1) := by decide +kernel
theorem dX8_horse_14 : decode cX8_horse 14 = .ok (.getfield 64, 3) := by decide +kernel
theorem dX8_horse_17 : decode cX8_horse 17 = .ok (.iconst 1, 1) := by decide +kernel
theorem dX8_horse_18 : decode cX8_horse 18 = .ok (.iadd, 1) := by decide +kernel
theorem dX8_horse_19 : decode cX8_horse 19 = .ok (.putfield 64, 3) := by decide +kernel
theorem dX8_horse_22 : decode cX8_horse 22 = .ok (.aload_n 0, 1) := by decide +kernel
theorem dX8_horse_23 : decode cX8_horse 23 = .ok (.getfield 64, 3) := by decide +kernel
theorem dX8_horse_26 : decode cX8_horse 26 = .ok (.iconst 1, 1) := by decide +kernel
theorem dX8_horse_27 : decode cX8_horse 27 = .ok (.isub, 1) := by decide +kernel
theorem dX8_horse_28 : decode cX8_horse 28 = .ok (.ireturn, 1) := by decide +kernel
set_option maxRecDepth 20000 in
theorem ggX8_height_X8_isStation : GoodIn wsX8_height wsX8_isStation := goodIn_r _ [7, 8, 9, 10, 6, 11] (by decide +kernel) (by decide +kernel)
set_option maxRecDepth 20000 in
theorem gX8_height_X8_isStation : GoodIn wsX8_height (va_wsS RX8 67 yX8_isStation wsX8_isStation) := goodIn_app (goodIn_of _ (by decide +kernel)) ggX8_height_X8_isStation
set_option maxRecDepth 20000 in
theorem ggX8_height_X8_in : GoodIn wsX8_height wsX8_in := goodIn_r _ [11] (by decide +kernel) (by decide +kernel)
set_option maxRecDepth 20000 in
theorem gX8_height_X8_in : GoodIn wsX8_height (va_wsS RX8 58 yX8_in wsX8_in) := goodIn_app (goodIn_of _ (by decide +kernel)) ggX8_height_X8_in
theorem dX8_height_0 : decode cX8_height 0 = .ok (.iload_n 1, 1) := by decide +kernel
theorem dX8_height_1 : decode cX8_height 1 = .ok (.invokestatic 67, 3) := by decide +kernel
theorem dX8_height_4 : decode cX8_height 4 = .ok (.ifCond .ne 6, 3) := by decide +kernel
theorem dX8_height_7 : decode cX8_height 7 = .ok (.bipush (-101), 2) := by decide +kernel
theorem dX8_height_9 : decode cX8_height 9 = .ok (.ireturn, 1) := by decide +kernel
theorem dX8_height_10 : decode cX8_height 10 = .ok (.iload_n 2, 1) := by decide +kernel
theorem dX8_height_11 : decode cX8_height 11 = .ok (.i2l, 1) := by decide +kernel
theorem dX8_height_12 : decode cX8_height 12 = .ok (.ldc2_w 71, 3) := by decide +kernel
theorem dX8_height_15 : decode cX8_height 15 = .ok (.ldc2_w 73, 3) := by decide +kernel
theorem dX8_height_18 : decode cX8_height 18 = .ok (.invokestatic 58, 3) := by decide +kernel
theorem dX8_height_21 : decode cX8_height 21 = .ok (.ifCond .ne 6, 3) := by decide +kernel
theorem dX8_height_24 : decode cX8_height 24 = .ok (.bipush (-102), 2) := by decide +kernel
theorem dX8_height_26 : decode cX8_height 26 = .ok (.ireturn, 1) := by decide +kernel
theorem dX8_height_27 : decode cX8_height 27 = .ok (.aload_n 0, 1) := by decide +kernel
theorem dX8_height_28 : decode cX8_height 28 = .ok (.getfield 7, 3) := by decide +kernel
theorem dX8_height_31 : decode cX8_height 31 = .ok (.iload_n 1, 1) := by decide +kernel
theorem dX8_height_32 : decode cX8_height 32 = .ok (.iaload, 1) := by decide +kernel
theorem dX8_height_33 : decode cX8_height 33 = .ok (.istore_n 3, 1) := by decide +kernel
theorem dX8_height_34 : decode cX8_height 34 = .ok (.aload_n 0, 1) := by decide +kernel
theorem dX8_height_35 : decode cX8_height 35 = .ok (.getfield 7, 3) := by decide +kernel
theorem dX8_height_38 : decode cX8_height 38 = .ok (.iload_n 1, 1) := by decide +kernel
theorem dX8_height_39 : decode cX8_height 39 = .ok (.iload_n 2, 1) := by decide +kernel
theorem dX8_height_40 : decode cX8_height 40 = .ok (.iastore, 1) := by decide +kernel
theorem dX8_height_41 : decode cX8_height 41 = .ok (.iload_n 3, 1) := by decide +kernel
theorem dX8_height_42 : decode cX8_height 42 = .ok (.ireturn, 1) := by decide +kernel
set_option maxRecDepth 20000 in
theorem ggX8_measure_X8_isHorse : GoodIn wsX8_measure wsX8_isHorse := goodIn_r _ [9, 10, 11, 12, 8, 13, 21, 22, 23, 24, 25, 26, 27, 28, 29, 30, 31, 32, 33, 34, 35, 36, 37, 38, 39, 40, 41, 42, 43, 44, 45, 46, 47] (by decide +kernel) (by decide +kernel)
set_option maxRecDepth 20000 in
theorem gX8_measure_X8_isHorse : GoodIn wsX8_measure (wsV RX8 75 RX8 yX8_isHorse wsX8_isHorse) := goodIn_app (goodIn_of _ (by decide +kernel)) ggX8_measure_X8_isHorse
set_option maxRecDepth 20000 in
theorem ggX8_measure_X8_isDay : GoodIn wsX8_measure wsX8_isDay := goodIn_r _ [16, 17, 11, 12, 8, 13] (by decide +kernel) (by decide +kernel)
set_option maxRecDepth 20000 in
theorem gX8_measure_X8_isDay : GoodIn wsX8_measure (va_wsS RX8 78 yX8_isDay wsX8_isDay) := goodIn_app (goodIn_of _ (by decide +kernel)) ggX8_measure_X8_isDay
set_option maxRecDepth 20000 in
theorem ggX8_measure_X8_floor : GoodIn wsX8_measure wsX8_floor := goodIn_r _ [20] (by decide +kernel) (by decide +kernel)
set_option maxRecDepth 20000 in
theorem gX8_measure_X8_floor : GoodIn wsX8_measure (va_wsS RX8 81 yX8_floor wsX8_floor) := goodIn_app (goodIn_of _ (by decide +kernel)) ggX8_measure_X8_floor
theorem dX8_measure_0 : decode cX8_measure 0 = .ok (.aload_n 0, 1) := by decide +kernel
theorem dX8_measure_1 : decode cX8_measure 1 = .ok (.iload_n 1, 1) := by decide +kernel
theorem dX8_measure_2 : decode cX8_measure 2 = .ok (.invokevirtual 75, 3) := by decide +kernel
theorem dX8_measure_5 : decode cX8_measure 5 = .ok (.ifCond .ne 6, 3) := by decide +kernel
theorem dX8_measure_8 : decode cX8_measure 8 = .ok (.bipush (-101), 2) := by decide +kernel
theorem dX8_measure_10 : decode cX8_measure 10 = .ok (.ireturn, 1) := by decide +kernel
theorem dX8_measure_11 : decode cX8_measure 11 = .ok (.iload_n 2, 1) := by decide +kernel
theorem dX8_measure_12 : decode cX8_measure 12 = .ok (.invokestatic 78, 3) := by decide +kernel
theorem dX8_measure_15 : decode cX8_measure 15 = .ok (.ifCond .eq 24, 3) := by decide +kernel
theorem dX8_measure_18 : decode cX8_measure 18 = .ok (.aload_n 0, 1) := by decide +kernel
theorem dX8_measure_19 : decode cX8_measure 19 = .ok (.getfield 7, 3) := by decide +kernel
theorem dX8_measure_22 : decode cX8_measure 22 = .ok (.iconst 0, 1) := by decide +kernel
theorem dX8_measure_23 : decode cX8_measure 23 = .ok (.iaload, 1) := by decide +kernel
theorem dX8_measure_24 : decode cX8_measure 24 = .ok (.iconst (-1), 1) := by decide +kernel
theorem dX8_measure_25 : decode cX8_measure 25 = .ok (.if_icmp .eq 14, 3) := by decide +kernel
theorem dX8_measure_28 : decode cX8_measure 28 = .ok (.aload_n 0, 1) := by decide +kernel
theorem dX8_measure_29 : decode cX8_measure 29 = .ok (.getfield 7, 3) := by decide +kernel
theorem dX8_measure_32 : decode cX8_measure 32 = .ok (.bipush 8, 2) := by decide +kernel
theorem dX8_measure_34 : decode cX8_measure 34 = .ok (.iaload, 1) := by decide +kernel
theorem dX8_measure_35 : decode cX8_measure 35 = .ok (.iconst (-1), 1) := by decide +kernel
theorem dX8_measure_36 : decode cX8_measure 36 = .ok (.if_icmp .ne 6, 3) := by decide +kernel
theorem dX8_measure_39 : decode cX8_measure 39 = .ok (.bipush (-102), 2) := by decide +kernel
theorem dX8_measure_41 : decode cX8_measure 41 = .ok (.ireturn, 1) := by decide +kernel
theorem dX8_measure_42 : decode cX8_measure 42 = .ok (.aload_n 0, 1) := by decide +kernel
theorem dX8_measure_43 : decode cX8_measure 43 = .ok (.getfield 13, 3) := by decide +kernel
theorem dX8_measure_46 : decode cX8_measure 46 = .ok (.iload_n 1, 1) := by decide +kernel
theorem dX8_measure_47 : decode cX8_measure 47 = .ok (.iaload, 1) := by decide +kernel
theorem dX8_measure_48 : decode cX8_measure 48 = .ok (.istore_n 3, 1) := by decide +kernel
theorem dX8_measure_49 : decode cX8_measure 49 = .ok (.iload_n 3, 1) := by decide +kernel
theorem dX8_measure_50 : decode cX8_measure 50 = .ok (.ifCond .le 23, 3) := by decide +kernel
theorem dX8_measure_53 : decode cX8_measure 53 = .ok (.iload_n 2, 1) := by decide +kernel
theorem dX8_measure_54 : decode cX8_measure 54 = .ok (.aload_n 0, 1) := by decide +kernel
theorem dX8_measure_55 : decode cX8_measure 55 = .ok (.getfield 16, 3) := by decide +kernel
theorem dX8_measure_58 : decode cX8_measure 58 = .ok (.bipush 6, 2) := by decide +kernel
theorem dX8_measure_60 : decode cX8_measure 60 = .ok (.iload_n 1, 1) := by decide +kernel
theorem dX8_measure_61 : decode cX8_measure 61 = .ok (.imul, 1) := by decide +kernel
theorem dX8_measure_62 : decode cX8_measure 62 = .ok (.iload_n 3, 1) := by decide +kernel
theorem dX8_measure_63 : decode cX8_measure 63 = .ok (.iadd, 1) := by decide +kernel
theorem dX8_measure_64 : decode cX8_measure 64 = .ok (.iconst 1, 1) := by decide +kernel
theorem dX8_measure_65 : decode cX8_measure 65 = .ok (.isub, 1) := by decide +kernel
theorem dX8_measure_66 : decode cX8_measure 66 = .ok (.iaload, 1) := by decide +kernel
theorem dX8_measure_67 : decode cX8_measure 67 = .ok (.if_icmp .gt 6, 3) := by decide +kernel
theorem dX8_measure_70 : decode cX8_measure 70 = .ok (.bipush (-103), 2) := by decide +kernel
theorem dX8_measure_72 : decode cX8_measure 72 = .ok (.ireturn, 1) := by decide +kernel
theorem dX8_measure_73 : decode cX8_measure 73 = .ok (.iload_n 3, 1) := by decide +kernel
theorem dX8_measure_74 : decode cX8_measure 74 = .ok (.bipush 6, 2) := by decide +kernel
theorem dX8_measure_76 : decode cX8_measure 76 = .ok (.if_icmp .ne 6, 3) := by decide +kernel
theorem dX8_measure_79 : decode cX8_measure 79 = .ok (.bipush (-104), 2) := by decide +kernel
theorem dX8_measure_81 : decode cX8_measure 81 = .ok (.ireturn, 1) := by decide +kernel
theorem dX8_measure_82 : decode cX8_measure 82 = .ok (.bipush 9, 2) := by decide +kernel
theorem dX8_measure_84 : decode cX8_measure 84 = .ok (.bipush 6, 2) := by decide +kernel
theorem dX8_measure_86 : decode cX8_measure 86 = .ok (.iload_n 1, 1) := by decide +kernel
theorem dX8_measure_87 : decode cX8_measure 87 = .ok (.imul, 1) := by decide +kernel
theorem dX8_measure_88 : decode cX8_measure 88 = .ok (.iload_n 3, 1) := by decide +kernel
theorem dX8_measure_89 : decode cX8_measure 89 = .ok (.iadd, 1) := by decide +kernel
theorem dX8_measure_90 : decode cX8_measure 90 = .ok (.imul, 1) := by decide +kernel
theorem dX8_measure_91 : decode cX8_measure 91 = .ok (.istore 4, 2) := by decide +kernel
theorem dX8_measure_93 : decode cX8_measure 93 = .ok (.iconst 0, 1) := by decide +kernel
theorem dX8_measure_94 : decode cX8_measure 94 = .ok (.istore 5, 2) := by decide +kernel
theorem dX8_measure_96 : decode cX8_measure 96 = .ok (.iload 5, 2) := by decide +kernel
theorem dX8_measure_98 : decode cX8_measure 98 = .ok (.bipush 9, 2) := by decide +kernel
theorem dX8_measure_100 : decode cX8_measure 100 = .ok (.if_icmp .ge 115, 3) := by decide +kernel
theorem dX8_measure_103 : decode cX8_measure 103 = .ok (.iload 5, 2) := by decide +kernel
theorem dX8_measure_105 : decode cX8_measure 105 = .ok (.istore 6, 2) := by decide +kernel
theorem dX8_measure_107 : decode cX8_measure 107 = .ok (.aload_n 0, 1) := by decide +kernel
theorem dX8_measure_108 : decode cX8_measure 108 = .ok (.getfield 7, 3) := by decide +kernel
theorem dX8_measure_111 : decode cX8_measure 111 = .ok (.iload 6, 2) := by decide +kernel
theorem dX8_measure_113 : decode cX8_measure 113 = .ok (.iaload, 1) := by decide +kernel
theorem dX8_measure_114 : decode cX8_measure 114 = .ok (.iconst (-1), 1) := by decide +kernel
theorem dX8_measure_115 : decode cX8_measure 115 = .ok (.if_icmp .ne 9, 3) := by decide +kernel
theorem dX8_measure_118 : decode cX8_measure 118 = .ok (.iinc 6 (-1), 3) := by decide +kernel
theorem dX8_measure_121 : decode cX8_measure 121 = .ok (.goto (-14), 3) := by decide +kernel
theorem dX8_measure_124 : decode cX8_measure 124 = .ok (.iload 5, 2) := by decide +kernel
theorem dX8_measure_126 : decode cX8_measure 126 = .ok (.istore 7, 2) := by decide +kernel
theorem dX8_measure_128 : decode cX8_measure 128 = .ok (.aload_n 0, 1) := by decide +kernel
theorem dX8_measure_129 : decode cX8_measure 129 = .ok (.getfield 7, 3) := by decide +kernel
theorem dX8_measure_132 : decode cX8_measure 132 = .ok (.iload 7, 2) := by decide +kernel
theorem dX8_measure_134 : decode cX8_measure 134 = .ok (.iaload, 1) := by decide +kernel
theorem dX8_measure_135 : decode cX8_measure 135 = .ok (.iconst (-1), 1) := by decide +kernel
theorem dX8_measure_136 : decode cX8_measure 136 = .ok (.if_icmp .ne 9, 3) := by decide +kernel
theorem dX8_measure_139 : decode cX8_measure 139 = .ok (.iinc 7 1, 3) := by decide +kernel
theorem dX8_measure_142 : decode cX8_measure 142 = .ok (.goto (-14), 3) := by decide +kernel
theorem dX8_measure_145 : decode cX8_measure 145 = .ok (.aload_n 0, 1) := by decide +kernel
theorem dX8_measure_146 : decode cX8_measure 146 = .ok (.getfield 19, 3) := by decide +kernel
theorem dX8_measure_149 : decode cX8_measure 149 = .ok (.iload 4, 2) := by decide +kernel
theorem dX8_measure_151 : decode cX8_measure 151 = .ok (.iload 5, 2) := by decide +kernel
theorem dX8_measure_153 : decode cX8_measure 153 = .ok (.iadd, 1) := by decide +kernel
theorem dX8_measure_154 : decode cX8_measure 154 = .ok (.iload 6, 2) := by decide +kernel
theorem dX8_measure_156 : decode cX8_measure 156 = .ok (.iload 7, 2) := by decide +kernel
theorem dX8_measure_158 : decode cX8_measure 158 = .ok (.if_icmp .ne 13, 3) := by decide +kernel
theorem dX8_measure_161 : decode cX8_measure 161 = .ok (.aload_n 0, 1) := by decide +kernel
theorem dX8_measure_162 : decode cX8_measure 162 = .ok (.getfield 7, 3) := by decide +kernel
theorem dX8_measure_165 : decode cX8_measure 165 = .ok (.iload 5, 2) := by decide +kernel
theorem dX8_measure_167 : decode cX8_measure 167 = .ok (.iaload, 1) := by decide +kernel
theorem dX8_measure_168 : decode cX8_measure 168 = .ok (.goto 40, 3) := by decide +kernel
theorem dX8_measure_171 : decode cX8_measure 171 = .ok (.aload_n 0, 1) := by decide +kernel
theorem dX8_measure_172 : decode cX8_measure 172 = .ok (.getfield 7, 3) := by decide +kernel
theorem dX8_measure_175 : decode cX8_measure 175 = .ok (.iload 6, 2) := by decide +kernel
theorem dX8_measure_177 : decode cX8_measure 177 = .ok (.iaload, 1) := by decide +kernel
theorem dX8_measure_178 : decode cX8_measure 178 = .ok (.aload_n 0, 1) := by decide +kernel
theorem dX8_measure_179 : decode cX8_measure 179 = .ok (.getfield 7, 3) := by decide +kernel
theorem dX8_measure_182 : decode cX8_measure 182 = .ok (.iload 7, 2) := by decide +kernel
theorem dX8_measure_184 : decode cX8_measure 184 = .ok (.iaload, 1) := by decide +kernel
theorem dX8_measure_185 : decode cX8_measure 185 = .ok (.aload_n 0, 1) := by decide +kernel
theorem dX8_measure_186 : decode cX8_measure 186 = .ok (.getfield 7, 3) := by decide +kernel
theorem dX8_measure_189 : decode cX8_measure 189 = .ok (.iload 6, 2) := by decide +kernel
theorem dX8_measure_191 : decode cX8_measure 191 = .ok (.iaload, 1) := by decide +kernel
theorem dX8_measure_192 : decode cX8_measure 192 = .ok (.isub, 1) := by decide +kernel
theorem dX8_measure_193 : decode cX8_measure 193 = .ok (.iload 5, 2) := by decide +kernel
theorem dX8_measure_195 : decode cX8_measure 195 = .ok (.iload 6, 2) := by decide +kernel
theorem dX8_measure_197 : decode cX8_measure 197 = .ok (.isub, 1) := by decide +kernel
theorem dX8_measure_198 : decode cX8_measure 198 = .ok (.imul, 1) := by decide +kernel
theorem dX8_measure_199 : decode cX8_measure 199 = .ok (.iload 7, 2) := by decide +kernel
theorem dX8_measure_201 : decode cX8_measure 201 = .ok (.iload 6, 2) := by decide +kernel
theorem dX8_measure_203 : decode cX8_measure 203 = .ok (.isub, 1) := by decide +kernel
theorem dX8_measure_204 : decode cX8_measure 204 = .ok (.invokestatic 81, 3) := by decide +kernel
theorem dX8_measure_207 : decode cX8_measure 207 = .ok (.iadd, 1) := by decide +kernel
theorem dX8_measure_208 : decode cX8_measure 208 = .ok (.iastore, 1) := by decide +kernel
theorem dX8_measure_209 : decode cX8_measure 209 = .ok (.iinc 5 1, 3) := by decide +kernel
theorem dX8_measure_212 : decode cX8_measure 212 = .ok (.goto (-116), 3) := by decide +kernel
theorem dX8_measure_215 : decode cX8_measure 215 = .ok (.aload_n 0, 1) := by decide +kernel
theorem dX8_measure_216 : decode cX8_measure 216 = .ok (.getfield 16, 3) := by decide +kernel
theorem dX8_measure_219 : decode cX8_measure 219 = .ok (.bipush 6, 2) := by decide +kernel
theorem dX8_measure_221 : decode cX8_measure 221 = .ok (.iload_n 1, 1) := by decide +kernel
theorem dX8_measure_222 : decode cX8_measure 222 = .ok (.imul, 1) := by decide +kernel
theorem dX8_measure_223 : decode cX8_measure 223 = .ok (.iload_n 3, 1) := by decide +kernel
theorem dX8_measure_224 : decode cX8_measure 224 = .ok (.iadd, 1) := by decide +kernel
theorem dX8_measure_225 : decode cX8_measure 225 = .ok (.iload_n 2, 1) := by decide +kernel
theorem dX8_measure_226 : decode cX8_measure 226 = .ok (.iastore, 1) := by decide +kernel
theorem dX8_measure_227 : decode cX8_measure 227 = .ok (.aload_n 0, 1) := by decide +kernel
theorem dX8_measure_228 : decode cX8_measure 228 = .ok (.getfield 13, 3) := by decide +kernel
theorem dX8_measure_231 : decode cX8_measure 231 = .ok (.iload_n 1, 1) := by decide +kernel
theorem dX8_measure_232 : decode cX8_measure 232 = .ok (.dup2, 1) := by decide +kernel
theorem dX8_measure_233 : decode cX8_measure 233 = .ok (.iaload, 1) := by decide +kernel
theorem dX8_measure_234 : decode cX8_measure 234 = .ok (.iconst 1, 1) := by decide +kernel
theorem dX8_measure_235 : decode cX8_measure 235 = .ok (.iadd, 1) := by decide +kernel
theorem dX8_measure_236 : decode cX8_measure 236 = .ok (.iastore, 1) := by decide +kernel
theorem dX8_measure_237 : decode cX8_measure 237 = .ok (.iload_n 3, 1) := by decide +kernel
theorem dX8_measure_238 : decode cX8_measure 238 = .ok (.iconst 1, 1) := by decide +kernel
theorem dX8_measure_239 : decode cX8_measure 239 = .ok (.iadd, 1) := by decide +kernel
theorem dX8_measure_240 : decode cX8_measure 240 = .ok (.ireturn, 1) := by decide +kernel
theorem dX8_backAt_0 : decode cX8_backAt 0 = .ok (.iconst (-1), 1) := by decide +kernel
theorem dX8_backAt_1 : decode cX8_backAt 1 = .ok (.istore_n 3, 1) := by decide +kernel
theorem dX8_backAt_2 : decode cX8_backAt 2 = .ok (.iconst 0, 1) := by decide +kernel
theorem dX8_backAt_3 : decode cX8_backAt 3 = .ok (.istore 4, 2) := by decide +kernel
theorem dX8_backAt_5 : decode cX8_backAt 5 = .ok (.iload 4, 2) := by decide +kernel
theorem dX8_backAt_7 : decode cX8_backAt 7 = .ok (.aload_n 0, 1) := by decide +kernel
theorem dX8_backAt_8 : decode cX8_backAt 8 = .ok (.getfield 13, 3) := by decide +kernel
theorem dX8_backAt_11 : decode cX8_backAt 11 = .ok (.iload_n 1, 1) := by decide +kernel
theorem dX8_backAt_12 : decode cX8_backAt 12 = .ok (.iaload, 1) := by decide +kernel
theorem dX8_backAt_13 : decode cX8_backAt 13 = .ok (.if_icmp .ge 40, 3) := by decide +kernel
theorem dX8_backAt_16 : decode cX8_backAt 16 = .ok (.aload_n 0, 1) := by decide +kernel
theorem dX8_backAt_17 : decode cX8_backAt 17 = .ok (.getfield 16, 3) := by decide +kernel
theorem dX8_backAt_20 : decode cX8_backAt 20 = .ok (.bipush 6, 2) := by decide +kernel
theorem dX8_backAt_22 : decode cX8_backAt 22 = .ok (.iload_n 1, 1) := by decide +kernel
theorem dX8_backAt_23 : decode cX8_backAt 23 = .ok (.imul, 1) := by decide +kernel
theorem dX8_backAt_24 : decode cX8_backAt 24 = .ok (.iload 4, 2) := by decide +kernel
theorem dX8_backAt_26 : decode cX8_backAt 26 = .ok (.iadd, 1) := by decide +kernel
theorem dX8_backAt_27 : decode cX8_backAt 27 = .ok (.iaload, 1) := by decide +kernel
theorem dX8_backAt_28 : decode cX8_backAt 28 = .ok (.iload_n 2, 1) := by decide +kernel
theorem dX8_backAt_29 : decode cX8_backAt 29 = .ok (.if_icmp .gt 16, 3) := by decide +kernel
theorem dX8_backAt_32 : decode cX8_backAt 32 = .ok (.bipush 9, 2) := by decide +kernel
theorem dX8_backAt_34 : decode cX8_backAt 34 = .ok (.bipush 6, 2) := by decide +kernel
theorem dX8_backAt_36 : decode cX8_backAt 36 = .ok (.iload_n 1, 1) := by decide +kernel
theorem dX8_backAt_37 : decode cX8_backAt 37 = .ok (.imul, 1) := by decide +kernel
theorem dX8_backAt_38 : decode cX8_backAt 38 = .ok (.iload 4, 2) := by decide +kernel
theorem dX8_backAt_40 : decode cX8_backAt 40 = .ok (.iadd, 1) := by decide +kernel
theorem dX8_backAt_41 : decode cX8_backAt 41 = .ok (.imul, 1) := by decide +kernel
theorem dX8_backAt_42 : decode cX8_backAt 42 = .ok (.goto 4, 3) := by decide +kernel
theorem dX8_backAt_45 : decode cX8_backAt 45 = .ok (.iload_n 3, 1) := by decide +kernel
theorem dX8_backAt_46 : decode cX8_backAt 46 = .ok (.istore_n 3, 1) := by decide +kernel
theorem dX8_backAt_47 : decode cX8_backAt 47 = .ok (.iinc 4 1, 3) := by decide +kernel
theorem dX8_backAt_50 : decode cX8_backAt 50 = .ok (.goto (-45), 3) := by decide +kernel
theorem dX8_backAt_53 : decode cX8_backAt 53 = .ok (.iload_n 3, 1) := by decide +kernel
theorem dX8_backAt_54 : decode cX8_backAt 54 = .ok (.ireturn, 1) := by decide +kernel
set_option maxRecDepth 20000 in
theorem ggX8_back_X8_isHorse : GoodIn wsX8_back wsX8_isHorse := goodIn_r _ [6, 7, 8, 9, 5, 10, 25, 26, 27, 28, 29, 30, 31, 32, 33, 34, 35, 36, 37, 38, 39, 40, 41, 42, 43, 44, 45, 46, 47, 48, 49, 50, 51] (by decide +kernel) (by decide +kernel)
set_option maxRecDepth 20000 in
theorem gX8_back_X8_isHorse : GoodIn wsX8_back (wsV RX8 75 RX8 yX8_isHorse wsX8_isHorse) := goodIn_app (goodIn_of _ (by decide +kernel)) ggX8_back_X8_isHorse
set_option maxRecDepth 20000 in
theorem ggX8_back_X8_isStation : GoodIn wsX8_back wsX8_isStation := goodIn_r _ [13, 14, 8, 9, 5, 10] (by decide +kernel) (by decide +kernel)
set_option maxRecDepth 20000 in
theorem gX8_back_X8_isStation : GoodIn wsX8_back (va_wsS RX8 67 yX8_isStation wsX8_isStation) := goodIn_app (goodIn_of _ (by decide +kernel)) ggX8_back_X8_isStation
set_option maxRecDepth 20000 in
theorem ggX8_back_X8_isDay : GoodIn wsX8_back wsX8_isDay := goodIn_r _ [17, 18, 8, 9, 5, 10] (by decide +kernel) (by decide +kernel)
set_option maxRecDepth 20000 in
theorem gX8_back_X8_isDay : GoodIn wsX8_back (va_wsS RX8 78 yX8_isDay wsX8_isDay) := goodIn_app (goodIn_of _ (by decide +kernel)) ggX8_back_X8_isDay
set_option maxRecDepth 20000 in
theorem ggX8_back_X8_backAt : GoodIn wsX8_back wsX8_backAt := goodIn_r _ [22, 23, 24, 25, 26, 27, 28, 29, 30, 31, 32, 33, 34, 35, 36, 37, 38, 39, 40, 41, 42, 43, 44, 45, 46, 47, 48, 49, 50, 51] (by decide +kernel) (by decide +kernel)
set_option maxRecDepth 20000 in
theorem gX8_back_X8_backAt : GoodIn wsX8_back (wsV RX8 85 RX8 yX8_backAt wsX8_backAt) := goodIn_app (goodIn_of _ (by decide +kernel)) ggX8_back_X8_backAt
theorem dX8_back_0 : decode cX8_back 0 = .ok (.aload_n 0, 1) := by decide +kernel
theorem dX8_back_1 : decode cX8_back 1 = .ok (.iload_n 1, 1) := by decide +kernel
theorem dX8_back_2 : decode cX8_back 2 = .ok (.invokevirtual 75, 3) := by decide +kernel
theorem dX8_back_5 : decode cX8_back 5 = .ok (.ifCond .eq 10, 3) := by decide +kernel
theorem dX8_back_8 : decode cX8_back 8 = .ok (.iload_n 3, 1) := by decide +kernel
theorem dX8_back_9 : decode cX8_back 9 = .ok (.invokestatic 67, 3) := by decide +kernel
theorem dX8_back_12 : decode cX8_back 12 = .ok (.ifCond .ne 6, 3) := by decide +kernel
theorem dX8_back_15 : decode cX8_back 15 = .ok (.bipush (-101), 2) := by decide +kernel
theorem dX8_back_17 : decode cX8_back 17 = .ok (.ireturn, 1) := by decide +kernel
theorem dX8_back_18 : decode cX8_back 18 = .ok (.iload_n 2, 1) := by decide +kernel
theorem dX8_back_19 : decode cX8_back 19 = .ok (.invokestatic 78, 3) := by decide +kernel
theorem dX8_back_22 : decode cX8_back 22 = .ok (.ifCond .ne 6, 3) := by decide +kernel
theorem dX8_back_25 : decode cX8_back 25 = .ok (.bipush (-102), 2) := by decide +kernel
theorem dX8_back_27 : decode cX8_back 27 = .ok (.ireturn, 1) := by decide +kernel
theorem dX8_back_28 : decode cX8_back 28 = .ok (.aload_n 0, 1) := by decide +kernel
theorem dX8_back_29 : decode cX8_back 29 = .ok (.iload_n 1, 1) := by decide +kernel
theorem dX8_back_30 : decode cX8_back 30 = .ok (.iload_n 2, 1) := by decide +kernel
theorem dX8_back_31 : decode cX8_back 31 = .ok (.invokevirtual 85, 3) := by decide +kernel
theorem dX8_back_34 : decode cX8_back 34 = .ok (.istore 4, 2) := by decide +kernel
theorem dX8_back_36 : decode cX8_back 36 = .ok (.iload 4, 2) := by decide +kernel
theorem dX8_back_38 : decode cX8_back 38 = .ok (.iconst (-1), 1) := by decide +kernel
theorem dX8_back_39 : decode cX8_back 39 = .ok (.if_icmp .ne 8, 3) := by decide +kernel
theorem dX8_back_42 : decode cX8_back 42 = .ok (.bipush (-103), 2) := by decide +kernel
theorem dX8_back_44 : decode cX8_back 44 = .ok (.goto 12, 3) := by decide +kernel
theorem dX8_back_47 : decode cX8_back 47 = .ok (.aload_n 0, 1) := by decide +kernel
theorem dX8_back_48 : decode cX8_back 48 = .ok (.getfield 19, 3) := by decide +kernel
theorem dX8_back_51 : decode cX8_back 51 = .ok (.iload 4, 2) := by decide +kernel
theorem dX8_back_53 : decode cX8_back 53 = .ok (.iload_n 3, 1) := by decide +kernel
theorem dX8_back_54 : decode cX8_back 54 = .ok (.iadd, 1) := by decide +kernel
theorem dX8_back_55 : decode cX8_back 55 = .ok (.iaload, 1) := by decide +kernel
theorem dX8_back_56 : decode cX8_back 56 = .ok (.ireturn, 1) := by decide +kernel
set_option maxRecDepth 20000 in
theorem ggX8_isTree_X8_in : GoodIn wsX8_isTree wsX8_in := goodIn_r _ [5] (by decide +kernel) (by decide +kernel)
set_option maxRecDepth 20000 in
theorem gX8_isTree_X8_in : GoodIn wsX8_isTree (va_wsS RX8 58 yX8_in wsX8_in) := goodIn_app (goodIn_of _ (by decide +kernel)) ggX8_isTree_X8_in
theorem dX8_isTree_0 : decode cX8_isTree 0 = .ok (.iload_n 1, 1) := by decide +kernel
theorem dX8_isTree_1 : decode cX8_isTree 1 = .ok (.i2l, 1) := by decide +kernel
theorem dX8_isTree_2 : decode cX8_isTree 2 = .ok (.lconst 0, 1) := by decide +kernel
theorem dX8_isTree_3 : decode cX8_isTree 3 = .ok (.aload_n 0, 1) := by decide +kernel
theorem dX8_isTree_4 : decode cX8_isTree 4 = .ok (.getfield 88, 3) := by decide +kernel
theorem dX8_isTree_7 : decode cX8_isTree 7 = .ok (.iconst 1, 1) := by decide +kernel
theorem dX8_isTree_8 : decode cX8_isTree 8 = .ok (.isub, 1) := by decide +kernel
theorem dX8_isTree_9 : decode cX8_isTree 9 = .ok (.i2l, 1) := by decide +kernel
theorem dX8_isTree_10 : decode cX8_isTree 10 = .ok (.invokestatic 58, 3) := by decide +kernel
theorem dX8_isTree_13 : decode cX8_isTree 13 = .ok (.ireturn, 1) := by decide +kernel
theorem dX8_tree_0 : decode cX8_tree 0 = .ok (.iconst 0, 1) := by decide +kernel
theorem dX8_tree_1 : decode cX8_tree 1 = .ok (.istore_n 1, 1) := by decide +kernel
theorem dX8_tree_2 : decode cX8_tree 2 = .ok (.iload_n 1, 1) := by decide +kernel
theorem dX8_tree_3 : decode cX8_tree 3 = .ok (.bipush 9, 2) := by decide +kernel
theorem dX8_tree_5 : decode cX8_tree 5 = .ok (.if_icmp .ge 22, 3) := by decide +kernel
theorem dX8_tree_8 : decode cX8_tree 8 = .ok (.aload_n 0, 1) := by decide +kernel
theorem dX8_tree_9 : decode cX8_tree 9 = .ok (.getfield 7, 3) := by decide +kernel
theorem dX8_tree_12 : decode cX8_tree 12 = .ok (.iload_n 1, 1) := by decide +kernel
theorem dX8_tree_13 : decode cX8_tree 13 = .ok (.iaload, 1) := by decide +kernel
theorem dX8_tree_14 : decode cX8_tree 14 = .ok (.iconst (-1), 1) := by decide +kernel
theorem dX8_tree_15 : decode cX8_tree 15 = .ok (.if_icmp .ne 6, 3) := by decide +kernel
theorem dX8_tree_18 : decode cX8_tree 18 = .ok (.bipush (-102), 2) := by decide +kernel
theorem dX8_tree_20 : decode cX8_tree 20 = .ok (.ireturn, 1) := by decide +kernel
theorem dX8_tree_21 : decode cX8_tree 21 = .ok (.iinc 1 1, 3) := by decide +kernel
theorem dX8_tree_24 : decode cX8_tree 24 = .ok (.goto (-22), 3) := by decide +kernel
theorem dX8_tree_27 : decode cX8_tree 27 = .ok (.aload_n 0, 1) := by decide +kernel
theorem dX8_tree_28 : decode cX8_tree 28 = .ok (.getfield 88, 3) := by decide +kernel
theorem dX8_tree_31 : decode cX8_tree 31 = .ok (.bipush 8, 2) := by decide +kernel
theorem dX8_tree_33 : decode cX8_tree 33 = .ok (.if_icmp .ne 6, 3) := by decide +kernel
theorem dX8_tree_36 : decode cX8_tree 36 = .ok (.bipush (-104), 2) := by decide +kernel
theorem dX8_tree_38 : decode cX8_tree 38 = .ok (.ireturn, 1) := by decide +kernel
theorem dX8_tree_39 : decode cX8_tree 39 = .ok (.iconst 0, 1) := by decide +kernel
theorem dX8_tree_40 : decode cX8_tree 40 = .ok (.istore_n 1, 1) := by decide +kernel
theorem dX8_tree_41 : decode cX8_tree 41 = .ok (.iload_n 1, 1) := by decide +kernel
theorem dX8_tree_42 : decode cX8_tree 42 = .ok (.bipush 9, 2) := by decide +kernel
theorem dX8_tree_44 : decode cX8_tree 44 = .ok (.if_icmp .ge 29, 3) := by decide +kernel
theorem dX8_tree_47 : decode cX8_tree 47 = .ok (.aload_n 0, 1) := by decide +kernel
theorem dX8_tree_48 : decode cX8_tree 48 = .ok (.getfield 22, 3) := by decide +kernel
theorem dX8_tree_51 : decode cX8_tree 51 = .ok (.bipush 9, 2) := by decide +kernel
theorem dX8_tree_53 : decode cX8_tree 53 = .ok (.aload_n 0, 1) := by decide +kernel
theorem dX8_tree_54 : decode cX8_tree 54 = .ok (.getfield 88, 3) := by decide +kernel
theorem dX8_tree_57 : decode cX8_tree 57 = .ok (.imul, 1) := by decide +kernel
theorem dX8_tree_58 : decode cX8_tree 58 = .ok (.iload_n 1, 1) := by decide +kernel
theorem dX8_tree_59 : decode cX8_tree 59 = .ok (.iadd, 1) := by decide +kernel
theorem dX8_tree_60 : decode cX8_tree 60 = .ok (.aload_n 0, 1) := by decide +kernel
theorem dX8_tree_61 : decode cX8_tree 61 = .ok (.getfield 7, 3) := by decide +kernel
theorem dX8_tree_64 : decode cX8_tree 64 = .ok (.iload_n 1, 1) := by decide +kernel
theorem dX8_tree_65 : decode cX8_tree 65 = .ok (.iaload, 1) := by decide +kernel
theorem dX8_tree_66 : decode cX8_tree 66 = .ok (.iastore, 1) := by decide +kernel
theorem dX8_tree_67 : decode cX8_tree 67 = .ok (.iinc 1 1, 3) := by decide +kernel
theorem dX8_tree_70 : decode cX8_tree 70 = .ok (.goto (-29), 3) := by decide +kernel
theorem dX8_tree_73 : decode cX8_tree 73 = .ok (.aload_n 0, 1) := by decide +kernel
theorem dX8_tree_74 : decode cX8_tree 74 = .ok (.dup, 1) := by decide +kernel
theorem dX8_tree_75 : decode cX8_tree 75 = .ok (.getfield 88, 3) := by decide +kernel
theorem dX8_tree_78 : decode cX8_tree 78 = .ok (.iconst 1, 1) := by decide +kernel
theorem dX8_tree_79 : decode cX8_tree 79 = .ok (.iadd, 1) := by decide +kernel
theorem dX8_tree_80 : decode cX8_tree 80 = .ok (.putfield 88, 3) := by decide +kernel
theorem dX8_tree_83 : decode cX8_tree 83 = .ok (.aload_n 0, 1) := by decide +kernel
theorem dX8_tree_84 : decode cX8_tree 84 = .ok (.getfield 88, 3) := by decide +kernel
theorem dX8_tree_87 : decode cX8_tree 87 = .ok (.iconst 1, 1) := by decide +kernel
theorem dX8_tree_88 : decode cX8_tree 88 = .ok (.isub, 1) := by decide +kernel
theorem dX8_tree_89 : decode cX8_tree 89 = .ok (.ireturn, 1) := by decide +kernel
set_option maxRecDepth 20000 in
theorem ggX8_shim_X8_isTree : GoodIn wsX8_shim wsX8_isTree := goodIn_r _ [7, 8, 9, 10, 6, 11, 16, 17, 18, 19, 20, 21, 22, 23, 24, 25, 26, 27, 28, 29, 30, 31, 32, 33, 34, 35, 36, 37, 38, 39, 40, 41, 42] (by decide +kernel) (by decide +kernel)
set_option maxRecDepth 20000 in
theorem gX8_shim_X8_isTree : GoodIn wsX8_shim (wsV RX8 91 RX8 yX8_isTree wsX8_isTree) := goodIn_app (goodIn_of _ (by decide +kernel)) ggX8_shim_X8_isTree
set_option maxRecDepth 20000 in
theorem ggX8_shim_X8_isStation : GoodIn wsX8_shim wsX8_isStation := goodIn_r _ [14, 15, 9, 10, 6, 11] (by decide +kernel) (by decide +kernel)
set_option maxRecDepth 20000 in
theorem gX8_shim_X8_isStation : GoodIn wsX8_shim (va_wsS RX8 67 yX8_isStation wsX8_isStation) := goodIn_app (goodIn_of _ (by decide +kernel)) ggX8_shim_X8_isStation
set_option maxRecDepth 20000 in
theorem ggX8_shim_X8_in : GoodIn wsX8_shim wsX8_in := goodIn_r _ [11] (by decide +kernel) (by decide +kernel)
set_option maxRecDepth 20000 in
theorem gX8_shim_X8_in : GoodIn wsX8_shim (va_wsS RX8 58 yX8_in wsX8_in) := goodIn_app (goodIn_of _ (by decide +kernel)) ggX8_shim_X8_in
theorem dX8_shim_0 : decode cX8_shim 0 = .ok (.aload_n 0, 1) := by decide +kernel
theorem dX8_shim_1 : decode cX8_shim 1 = .ok (.iload_n 1, 1) := by decide +kernel
theorem dX8_shim_2 : decode cX8_shim 2 = .ok (.invokevirtual 91, 3) := by decide +kernel
theorem dX8_shim_5 : decode cX8_shim 5 = .ok (.ifCond .eq 10, 3) := by decide +kernel
theorem dX8_shim_8 : decode cX8_shim 8 = .ok (.iload_n 2, 1) := by decide +kernel
theorem dX8_shim_9 : decode cX8_shim 9 = .ok (.invokestatic 67, 3) := by decide +kernel
theorem dX8_shim_12 : decode cX8_shim 12 = .ok (.ifCond .ne 6, 3) := by decide +kernel
theorem dX8_shim_15 : decode cX8_shim 15 = .ok (.bipush (-101), 2) := by decide +kernel
theorem dX8_shim_17 : decode cX8_shim 17 = .ok (.ireturn, 1) := by decide +kernel
theorem dX8_shim_18 : decode cX8_shim 18 = .ok (.iload_n 3, 1) := by decide +kernel
theorem dX8_shim_19 : decode cX8_shim 19 = .ok (.i2l, 1) := by decide +kernel
theorem dX8_shim_20 : decode cX8_shim 20 = .ok (.lconst 0, 1) := by decide +kernel
theorem dX8_shim_21 : decode cX8_shim 21 = .ok (.ldc2_w 94, 3) := by decide +kernel
theorem dX8_shim_24 : decode cX8_shim 24 = .ok (.invokestatic 58, 3) := by decide +kernel
theorem dX8_shim_27 : decode cX8_shim 27 = .ok (.ifCond .ne 6, 3) := by decide +kernel
theorem dX8_shim_30 : decode cX8_shim 30 = .ok (.bipush (-102), 2) := by decide +kernel
theorem dX8_shim_32 : decode cX8_shim 32 = .ok (.ireturn, 1) := by decide +kernel
theorem dX8_shim_33 : decode cX8_shim 33 = .ok (.aload_n 0, 1) := by decide +kernel
theorem dX8_shim_34 : decode cX8_shim 34 = .ok (.getfield 25, 3) := by decide +kernel
theorem dX8_shim_37 : decode cX8_shim 37 = .ok (.bipush 9, 2) := by decide +kernel
theorem dX8_shim_39 : decode cX8_shim 39 = .ok (.iload_n 1, 1) := by decide +kernel
theorem dX8_shim_40 : decode cX8_shim 40 = .ok (.imul, 1) := by decide +kernel
theorem dX8_shim_41 : decode cX8_shim 41 = .ok (.iload_n 2, 1) := by decide +kernel
theorem dX8_shim_42 : decode cX8_shim 42 = .ok (.iadd, 1) := by decide +kernel
theorem dX8_shim_43 : decode cX8_shim 43 = .ok (.iaload, 1) := by decide +kernel
theorem dX8_shim_44 : decode cX8_shim 44 = .ok (.istore 4, 2) := by decide +kernel
theorem dX8_shim_46 : decode cX8_shim 46 = .ok (.aload_n 0, 1) := by decide +kernel
theorem dX8_shim_47 : decode cX8_shim 47 = .ok (.getfield 25, 3) := by decide +kernel
theorem dX8_shim_50 : decode cX8_shim 50 = .ok (.bipush 9, 2) := by decide +kernel
theorem dX8_shim_52 : decode cX8_shim 52 = .ok (.iload_n 1, 1) := by decide +kernel
theorem dX8_shim_53 : decode cX8_shim 53 = .ok (.imul, 1) := by decide +kernel
theorem dX8_shim_54 : decode cX8_shim 54 = .ok (.iload_n 2, 1) := by decide +kernel
theorem dX8_shim_55 : decode cX8_shim 55 = .ok (.iadd, 1) := by decide +kernel
theorem dX8_shim_56 : decode cX8_shim 56 = .ok (.iload_n 3, 1) := by decide +kernel
theorem dX8_shim_57 : decode cX8_shim 57 = .ok (.iastore, 1) := by decide +kernel
theorem dX8_shim_58 : decode cX8_shim 58 = .ok (.iload 4, 2) := by decide +kernel
theorem dX8_shim_60 : decode cX8_shim 60 = .ok (.ireturn, 1) := by decide +kernel
theorem dX8_underOf_0 : decode cX8_underOf 0 = .ok (.aload_n 0, 1) := by decide +kernel
theorem dX8_underOf_1 : decode cX8_underOf 1 = .ok (.getfield 22, 3) := by decide +kernel
theorem dX8_underOf_4 : decode cX8_underOf 4 = .ok (.bipush 9, 2) := by decide +kernel
theorem dX8_underOf_6 : decode cX8_underOf 6 = .ok (.iload_n 1, 1) := by decide +kernel
theorem dX8_underOf_7 : decode cX8_underOf 7 = .ok (.imul, 1) := by decide +kernel
theorem dX8_underOf_8 : decode cX8_underOf 8 = .ok (.iload_n 2, 1) := by decide +kernel
theorem dX8_underOf_9 : decode cX8_underOf 9 = .ok (.iadd, 1) := by decide +kernel
theorem dX8_underOf_10 : decode cX8_underOf 10 = .ok (.iaload, 1) := by decide +kernel
theorem dX8_underOf_11 : decode cX8_underOf 11 = .ok (.aload_n 0, 1) := by decide +kernel
theorem dX8_underOf_12 : decode cX8_underOf 12 = .ok (.getfield 25, 3) := by decide +kernel
theorem dX8_underOf_15 : decode cX8_underOf 15 = .ok (.bipush 9, 2) := by decide +kernel
theorem dX8_underOf_17 : decode cX8_underOf 17 = .ok (.iload_n 1, 1) := by decide +kernel
theorem dX8_underOf_18 : decode cX8_underOf 18 = .ok (.imul, 1) := by decide +kernel
theorem dX8_underOf_19 : decode cX8_underOf 19 = .ok (.iload_n 2, 1) := by decide +kernel
theorem dX8_underOf_20 : decode cX8_underOf 20 = .ok (.iadd, 1) := by decide +kernel
theorem dX8_underOf_21 : decode cX8_underOf 21 = .ok (.iaload, 1) := by decide +kernel
theorem dX8_underOf_22 : decode cX8_underOf 22 = .ok (.isub, 1) := by decide +kernel
theorem dX8_underOf_23 : decode cX8_underOf 23 = .ok (.ireturn, 1) := by decide +kernel
set_option maxRecDepth 20000 in
theorem ggX8_under_X8_isTree : GoodIn wsX8_under wsX8_isTree := goodIn_r _ [5, 6, 7, 8, 4, 9, 20, 21, 22, 23, 24, 25, 26, 27, 28, 29, 30, 31, 32, 33, 34, 35, 36, 37, 38, 39, 40, 41, 42, 43, 44, 45, 46] (by decide +kernel) (by decide +kernel)
set_option maxRecDepth 20000 in
theorem gX8_under_X8_isTree : GoodIn wsX8_under (wsV RX8 91 RX8 yX8_isTree wsX8_isTree) := goodIn_app (goodIn_of _ (by decide +kernel)) ggX8_under_X8_isTree
set_option maxRecDepth 20000 in
theorem ggX8_under_X8_isStation : GoodIn wsX8_under wsX8_isStation := goodIn_r _ [12, 13, 7, 8, 4, 9] (by decide +kernel) (by decide +kernel)
set_option maxRecDepth 20000 in
theorem gX8_under_X8_isStation : GoodIn wsX8_under (va_wsS RX8 67 yX8_isStation wsX8_isStation) := goodIn_app (goodIn_of _ (by decide +kernel)) ggX8_under_X8_isStation
set_option maxRecDepth 20000 in
theorem ggX8_under_X8_underOf : GoodIn wsX8_under wsX8_underOf := goodIn_r _ [17, 18, 19, 20, 21, 22, 23, 24, 25, 26, 27, 28, 29, 30, 31, 32, 33, 34, 35, 36, 37, 38, 39, 40, 41, 42, 43, 44, 45, 46] (by decide +kernel) (by decide +kernel)
set_option maxRecDepth 20000 in
theorem gX8_under_X8_underOf : GoodIn wsX8_under (wsV RX8 96 RX8 yX8_underOf wsX8_underOf) := goodIn_app (goodIn_of _ (by decide +kernel)) ggX8_under_X8_underOf
theorem dX8_under_0 : decode cX8_under 0 = .ok (.aload_n 0, 1) := by decide +kernel
theorem dX8_under_1 : decode cX8_under 1 = .ok (.iload_n 1, 1) := by decide +kernel
theorem dX8_under_2 : decode cX8_under 2 = .ok (.invokevirtual 91, 3) := by decide +kernel
theorem dX8_under_5 : decode cX8_under 5 = .ok (.ifCond .eq 19, 3) := by decide +kernel
theorem dX8_under_8 : decode cX8_under 8 = .ok (.iload_n 2, 1) := by decide +kernel
theorem dX8_under_9 : decode cX8_under 9 = .ok (.invokestatic 67, 3) := by decide +kernel
theorem dX8_under_12 : decode cX8_under 12 = .ok (.ifCond .eq 12, 3) := by decide +kernel
theorem dX8_under_15 : decode cX8_under 15 = .ok (.aload_n 0, 1) := by decide +kernel
theorem dX8_under_16 : decode cX8_under 16 = .ok (.iload_n 1, 1) := by decide +kernel
theorem dX8_under_17 : decode cX8_under 17 = .ok (.iload_n 2, 1) := by decide +kernel
theorem dX8_under_18 : decode cX8_under 18 = .ok (.invokevirtual 96, 3) := by decide +kernel
theorem dX8_under_21 : decode cX8_under 21 = .ok (.goto 5, 3) := by decide +kernel
theorem dX8_under_24 : decode cX8_under 24 = .ok (.bipush (-101), 2) := by decide +kernel
theorem dX8_under_26 : decode cX8_under 26 = .ok (.ireturn, 1) := by decide +kernel
set_option maxRecDepth 20000 in
theorem ggX8_settle_X8_underOf : GoodIn wsX8_settle wsX8_underOf := goodIn_r _ [8, 9, 10, 11, 12, 13, 14, 15, 16, 17, 18, 19, 20, 21, 22, 23, 24, 25, 26, 27, 28, 29, 30, 31, 32, 33, 34, 35, 36, 37] (by decide +kernel) (by decide +kernel)
set_option maxRecDepth 20000 in
theorem gX8_settle_X8_underOf : GoodIn wsX8_settle (wsV RX8 96 RX8 yX8_underOf wsX8_underOf) := goodIn_app (goodIn_of _ (by decide +kernel)) ggX8_settle_X8_underOf
theorem dX8_settle_0 : decode cX8_settle 0 = .ok (.sipush 9999, 3) := by decide +kernel
theorem dX8_settle_3 : decode cX8_settle 3 = .ok (.istore 4, 2) := by decide +kernel
theorem dX8_settle_5 : decode cX8_settle 5 = .ok (.iconst 0, 1) := by decide +kernel
theorem dX8_settle_6 : decode cX8_settle 6 = .ok (.istore 5, 2) := by decide +kernel
theorem dX8_settle_8 : decode cX8_settle 8 = .ok (.iload 5, 2) := by decide +kernel
theorem dX8_settle_10 : decode cX8_settle 10 = .ok (.bipush 9, 2) := by decide +kernel
theorem dX8_settle_12 : decode cX8_settle 12 = .ok (.if_icmp .ge 59, 3) := by decide +kernel
theorem dX8_settle_15 : decode cX8_settle 15 = .ok (.aload_n 0, 1) := by decide +kernel
theorem dX8_settle_16 : decode cX8_settle 16 = .ok (.getfield 28, 3) := by decide +kernel
theorem dX8_settle_19 : decode cX8_settle 19 = .ok (.iload 5, 2) := by decide +kernel
theorem dX8_settle_21 : decode cX8_settle 21 = .ok (.aload_n 0, 1) := by decide +kernel
theorem dX8_settle_22 : decode cX8_settle 22 = .ok (.iload_n 1, 1) := by decide +kernel
theorem dX8_settle_23 : decode cX8_settle 23 = .ok (.iload 5, 2) := by decide +kernel
theorem dX8_settle_25 : decode cX8_settle 25 = .ok (.invokevirtual 96, 3) := by decide +kernel
theorem dX8_settle_28 : decode cX8_settle 28 = .ok (.aload_n 0, 1) := by decide +kernel
theorem dX8_settle_29 : decode cX8_settle 29 = .ok (.getfield 19, 3) := by decide +kernel
theorem dX8_settle_32 : decode cX8_settle 32 = .ok (.iload_n 2, 1) := by decide +kernel
theorem dX8_settle_33 : decode cX8_settle 33 = .ok (.iload 5, 2) := by decide +kernel
theorem dX8_settle_35 : decode cX8_settle 35 = .ok (.iadd, 1) := by decide +kernel
theorem dX8_settle_36 : decode cX8_settle 36 = .ok (.iaload, 1) := by decide +kernel
theorem dX8_settle_37 : decode cX8_settle 37 = .ok (.isub, 1) := by decide +kernel
theorem dX8_settle_38 : decode cX8_settle 38 = .ok (.iastore, 1) := by decide +kernel
theorem dX8_settle_39 : decode cX8_settle 39 = .ok (.aload_n 0, 1) := by decide +kernel
theorem dX8_settle_40 : decode cX8_settle 40 = .ok (.getfield 28, 3) := by decide +kernel
theorem dX8_settle_43 : decode cX8_settle 43 = .ok (.iload 5, 2) := by decide +kernel
theorem dX8_settle_45 : decode cX8_settle 45 = .ok (.iaload, 1) := by decide +kernel
theorem dX8_settle_46 : decode cX8_settle 46 = .ok (.iload 4, 2) := by decide +kernel
theorem dX8_settle_48 : decode cX8_settle 48 = .ok (.if_icmp .ge 13, 3) := by decide +kernel
theorem dX8_settle_51 : decode cX8_settle 51 = .ok (.aload_n 0, 1) := by decide +kernel
theorem dX8_settle_52 : decode cX8_settle 52 = .ok (.getfield 28, 3) := by decide +kernel
theorem dX8_settle_55 : decode cX8_settle 55 = .ok (.iload 5, 2) := by decide +kernel
theorem dX8_settle_57 : decode cX8_settle 57 = .ok (.iaload, 1) := by decide +kernel
theorem dX8_settle_58 : decode cX8_settle 58 = .ok (.goto 5, 3) := by decide +kernel
theorem dX8_settle_61 : decode cX8_settle 61 = .ok (.iload 4, 2) := by decide +kernel
theorem dX8_settle_63 : decode cX8_settle 63 = .ok (.istore 4, 2) := by decide +kernel
theorem dX8_settle_65 : decode cX8_settle 65 = .ok (.iinc 5 1, 3) := by decide +kernel
theorem dX8_settle_68 : decode cX8_settle 68 = .ok (.goto (-60), 3) := by decide +kernel
theorem dX8_settle_71 : decode cX8_settle 71 = .ok (.iconst (-1), 1) := by decide +kernel
theorem dX8_settle_72 : decode cX8_settle 72 = .ok (.istore 5, 2) := by decide +kernel
theorem dX8_settle_74 : decode cX8_settle 74 = .ok (.iconst (-1), 1) := by decide +kernel
theorem dX8_settle_75 : decode cX8_settle 75 = .ok (.istore 6, 2) := by decide +kernel
theorem dX8_settle_77 : decode cX8_settle 77 = .ok (.iload 6, 2) := by decide +kernel
theorem dX8_settle_79 : decode cX8_settle 79 = .ok (.iload_n 3, 1) := by decide +kernel
theorem dX8_settle_80 : decode cX8_settle 80 = .ok (.if_icmp .ge 79, 3) := by decide +kernel
theorem dX8_settle_83 : decode cX8_settle 83 = .ok (.iinc 5 1, 3) := by decide +kernel
theorem dX8_settle_86 : decode cX8_settle 86 = .ok (.iconst 0, 1) := by decide +kernel
theorem dX8_settle_87 : decode cX8_settle 87 = .ok (.istore 6, 2) := by decide +kernel
theorem dX8_settle_89 : decode cX8_settle 89 = .ok (.iconst 0, 1) := by decide +kernel
theorem dX8_settle_90 : decode cX8_settle 90 = .ok (.istore 7, 2) := by decide +kernel
theorem dX8_settle_92 : decode cX8_settle 92 = .ok (.iload 7, 2) := by decide +kernel
theorem dX8_settle_94 : decode cX8_settle 94 = .ok (.bipush 9, 2) := by decide +kernel
theorem dX8_settle_96 : decode cX8_settle 96 = .ok (.if_icmp .ge 60, 3) := by decide +kernel
theorem dX8_settle_99 : decode cX8_settle 99 = .ok (.aload_n 0, 1) := by decide +kernel
theorem dX8_settle_100 : decode cX8_settle 100 = .ok (.getfield 31, 3) := by decide +kernel
theorem dX8_settle_103 : decode cX8_settle 103 = .ok (.iload 7, 2) := by decide +kernel
theorem dX8_settle_105 : decode cX8_settle 105 = .ok (.iload 5, 2) := by decide +kernel
theorem dX8_settle_107 : decode cX8_settle 107 = .ok (.aload_n 0, 1) := by decide +kernel
theorem dX8_settle_108 : decode cX8_settle 108 = .ok (.getfield 28, 3) := by decide +kernel
theorem dX8_settle_111 : decode cX8_settle 111 = .ok (.iload 7, 2) := by decide +kernel
theorem dX8_settle_113 : decode cX8_settle 113 = .ok (.iaload, 1) := by decide +kernel
theorem dX8_settle_114 : decode cX8_settle 114 = .ok (.iload 4, 2) := by decide +kernel
theorem dX8_settle_116 : decode cX8_settle 116 = .ok (.isub, 1) := by decide +kernel
theorem dX8_settle_117 : decode cX8_settle 117 = .ok (.if_icmp .le 19, 3) := by decide +kernel
theorem dX8_settle_120 : decode cX8_settle 120 = .ok (.iload 5, 2) := by decide +kernel
theorem dX8_settle_122 : decode cX8_settle 122 = .ok (.aload_n 0, 1) := by decide +kernel
theorem dX8_settle_123 : decode cX8_settle 123 = .ok (.getfield 28, 3) := by decide +kernel
theorem dX8_settle_126 : decode cX8_settle 126 = .ok (.iload 7, 2) := by decide +kernel
theorem dX8_settle_128 : decode cX8_settle 128 = .ok (.iaload, 1) := by decide +kernel
theorem dX8_settle_129 : decode cX8_settle 129 = .ok (.isub, 1) := by decide +kernel
theorem dX8_settle_130 : decode cX8_settle 130 = .ok (.iload 4, 2) := by decide +kernel
theorem dX8_settle_132 : decode cX8_settle 132 = .ok (.iadd, 1) := by decide +kernel
theorem dX8_settle_133 : decode cX8_settle 133 = .ok (.goto 4, 3) := by decide +kernel
theorem dX8_settle_136 : decode cX8_settle 136 = .ok (.iconst 0, 1) := by decide +kernel
theorem dX8_settle_137 : decode cX8_settle 137 = .ok (.iastore, 1) := by decide +kernel
theorem dX8_settle_138 : decode cX8_settle 138 = .ok (.iload 6, 2) := by decide +kernel
theorem dX8_settle_140 : decode cX8_settle 140 = .ok (.aload_n 0, 1) := by decide +kernel
theorem dX8_settle_141 : decode cX8_settle 141 = .ok (.getfield 31, 3) := by decide +kernel
theorem dX8_settle_144 : decode cX8_settle 144 = .ok (.iload 7, 2) := by decide +kernel
theorem dX8_settle_146 : decode cX8_settle 146 = .ok (.iaload, 1) := by decide +kernel
theorem dX8_settle_147 : decode cX8_settle 147 = .ok (.iadd, 1) := by decide +kernel
theorem dX8_settle_148 : decode cX8_settle 148 = .ok (.istore 6, 2) := by decide +kernel
theorem dX8_settle_150 : decode cX8_settle 150 = .ok (.iinc 7 1, 3) := by decide +kernel
theorem dX8_settle_153 : decode cX8_settle 153 = .ok (.goto (-61), 3) := by decide +kernel
theorem dX8_settle_156 : decode cX8_settle 156 = .ok (.goto (-79), 3) := by decide +kernel
theorem dX8_settle_159 : decode cX8_settle 159 = .ok (.iload 6, 2) := by decide +kernel
theorem dX8_settle_161 : decode cX8_settle 161 = .ok (.iload_n 3, 1) := by decide +kernel
theorem dX8_settle_162 : decode cX8_settle 162 = .ok (.if_icmp .le 65, 3) := by decide +kernel
theorem dX8_settle_165 : decode cX8_settle 165 = .ok (.iconst 0, 1) := by decide +kernel
theorem dX8_settle_166 : decode cX8_settle 166 = .ok (.istore 7, 2) := by decide +kernel
theorem dX8_settle_168 : decode cX8_settle 168 = .ok (.iconst 1, 1) := by decide +kernel
theorem dX8_settle_169 : decode cX8_settle 169 = .ok (.istore 8, 2) := by decide +kernel
theorem dX8_settle_171 : decode cX8_settle 171 = .ok (.iload 8, 2) := by decide +kernel
theorem dX8_settle_173 : decode cX8_settle 173 = .ok (.bipush 9, 2) := by decide +kernel
theorem dX8_settle_175 : decode cX8_settle 175 = .ok (.if_icmp .ge 35, 3) := by decide +kernel
theorem dX8_settle_178 : decode cX8_settle 178 = .ok (.aload_n 0, 1) := by decide +kernel
theorem dX8_settle_179 : decode cX8_settle 179 = .ok (.getfield 31, 3) := by decide +kernel
theorem dX8_settle_182 : decode cX8_settle 182 = .ok (.iload 8, 2) := by decide +kernel
theorem dX8_settle_184 : decode cX8_settle 184 = .ok (.iaload, 1) := by decide +kernel
theorem dX8_settle_185 : decode cX8_settle 185 = .ok (.aload_n 0, 1) := by decide +kernel
theorem dX8_settle_186 : decode cX8_settle 186 = .ok (.getfield 31, 3) := by decide +kernel
theorem dX8_settle_189 : decode cX8_settle 189 = .ok (.iload 7, 2) := by decide +kernel
theorem dX8_settle_191 : decode cX8_settle 191 = .ok (.iaload, 1) := by decide +kernel
theorem dX8_settle_192 : decode cX8_settle 192 = .ok (.if_icmp .le 8, 3) := by decide +kernel
theorem dX8_settle_195 : decode cX8_settle 195 = .ok (.iload 8, 2) := by decide +kernel
theorem dX8_settle_197 : decode cX8_settle 197 = .ok (.goto 5, 3) := by decide +kernel
theorem dX8_settle_200 : decode cX8_settle 200 = .ok (.iload 7, 2) := by decide +kernel
theorem dX8_settle_202 : decode cX8_settle 202 = .ok (.istore 7, 2) := by decide +kernel
theorem dX8_settle_204 : decode cX8_settle 204 = .ok (.iinc 8 1, 3) := by decide +kernel
theorem dX8_settle_207 : decode cX8_settle 207 = .ok (.goto (-36), 3) := by decide +kernel
theorem dX8_settle_210 : decode cX8_settle 210 = .ok (.aload_n 0, 1) := by decide +kernel
theorem dX8_settle_211 : decode cX8_settle 211 = .ok (.getfield 31, 3) := by decide +kernel
theorem dX8_settle_214 : decode cX8_settle 214 = .ok (.iload 7, 2) := by decide +kernel
theorem dX8_settle_216 : decode cX8_settle 216 = .ok (.dup2, 1) := by decide +kernel
theorem dX8_settle_217 : decode cX8_settle 217 = .ok (.iaload, 1) := by decide +kernel
theorem dX8_settle_218 : decode cX8_settle 218 = .ok (.iconst 1, 1) := by decide +kernel
theorem dX8_settle_219 : decode cX8_settle 219 = .ok (.isub, 1) := by decide +kernel
theorem dX8_settle_220 : decode cX8_settle 220 = .ok (.iastore, 1) := by decide +kernel
theorem dX8_settle_221 : decode cX8_settle 221 = .ok (.iinc 6 (-1), 3) := by decide +kernel
theorem dX8_settle_224 : decode cX8_settle 224 = .ok (.goto (-65), 3) := by decide +kernel
theorem dX8_settle_227 : decode cX8_settle 227 = .ok (.return_, 1) := by decide +kernel
theorem dX8_isPressed_0 : decode cX8_isPressed 0 = .ok (.iconst 0, 1) := by decide +kernel
theorem dX8_isPressed_1 : decode cX8_isPressed 1 = .ok (.istore_n 3, 1) := by decide +kernel
theorem dX8_isPressed_2 : decode cX8_isPressed 2 = .ok (.iload_n 1, 1) := by decide +kernel
theorem dX8_isPressed_3 : decode cX8_isPressed 3 = .ok (.istore 4, 2) := by decide +kernel
theorem dX8_isPressed_5 : decode cX8_isPressed 5 = .ok (.iload 4, 2) := by decide +kernel
theorem dX8_isPressed_7 : decode cX8_isPressed 7 = .ok (.iload_n 2, 1) := by decide +kernel
theorem dX8_isPressed_8 : decode cX8_isPressed 8 = .ok (.if_icmp .gt 29, 3) := by decide +kernel
theorem dX8_isPressed_11 : decode cX8_isPressed 11 = .ok (.iload_n 3, 1) := by decide +kernel
theorem dX8_isPressed_12 : decode cX8_isPressed 12 = .ok (.ifCond .ne 13, 3) := by decide +kernel
theorem dX8_isPressed_15 : decode cX8_isPressed 15 = .ok (.aload_n 0, 1) := by decide +kernel
theorem dX8_isPressed_16 : decode cX8_isPressed 16 = .ok (.getfield 31, 3) := by decide +kernel
theorem dX8_isPressed_19 : decode cX8_isPressed 19 = .ok (.iload 4, 2) := by decide +kernel
theorem dX8_isPressed_21 : decode cX8_isPressed 21 = .ok (.iaload, 1) := by decide +kernel
theorem dX8_isPressed_22 : decode cX8_isPressed 22 = .ok (.ifCond .le 7, 3) := by decide +kernel
theorem dX8_isPressed_25 : decode cX8_isPressed 25 = .ok (.iconst 1, 1) := by decide +kernel
theorem dX8_isPressed_26 : decode cX8_isPressed 26 = .ok (.goto 4, 3) := by decide +kernel
theorem dX8_isPressed_29 : decode cX8_isPressed 29 = .ok (.iconst 0, 1) := by decide +kernel
theorem dX8_isPressed_30 : decode cX8_isPressed 30 = .ok (.istore_n 3, 1) := by decide +kernel
theorem dX8_isPressed_31 : decode cX8_isPressed 31 = .ok (.iinc 4 1, 3) := by decide +kernel
theorem dX8_isPressed_34 : decode cX8_isPressed 34 = .ok (.goto (-29), 3) := by decide +kernel
theorem dX8_isPressed_37 : decode cX8_isPressed 37 = .ok (.iload_n 3, 1) := by decide +kernel
theorem dX8_isPressed_38 : decode cX8_isPressed 38 = .ok (.ireturn, 1) := by decide +kernel
set_option maxRecDepth 20000 in
theorem ggX8_bridge_X8_isPressed : GoodIn wsX8_bridge wsX8_isPressed := goodIn_r _ [5, 6, 7, 8, 9, 10, 11, 12, 13, 14, 15, 16, 17, 18, 19, 20, 21, 22, 23, 24, 25, 26, 27, 28, 29, 30, 31, 32, 33] (by decide +kernel) (by decide +kernel)
set_option maxRecDepth 20000 in
theorem gX8_bridge_X8_isPressed : GoodIn wsX8_bridge (wsV RX8 99 RX8 yX8_isPressed wsX8_isPressed) := goodIn_app (goodIn_of _ (by decide +kernel)) ggX8_bridge_X8_isPressed
theorem dX8_bridge_0 : decode cX8_bridge 0 = .ok (.iconst 1, 1) := by decide +kernel
theorem dX8_bridge_1 : decode cX8_bridge 1 = .ok (.istore_n 1, 1) := by decide +kernel
theorem dX8_bridge_2 : decode cX8_bridge 2 = .ok (.iload_n 1, 1) := by decide +kernel
theorem dX8_bridge_3 : decode cX8_bridge 3 = .ok (.bipush 6, 2) := by decide +kernel
theorem dX8_bridge_5 : decode cX8_bridge 5 = .ok (.if_icmp .ge 47, 3) := by decide +kernel
theorem dX8_bridge_8 : decode cX8_bridge 8 = .ok (.aload_n 0, 1) := by decide +kernel
theorem dX8_bridge_9 : decode cX8_bridge 9 = .ok (.iload_n 1, 1) := by decide +kernel
theorem dX8_bridge_10 : decode cX8_bridge 10 = .ok (.iconst 1, 1) := by decide +kernel
theorem dX8_bridge_11 : decode cX8_bridge 11 = .ok (.isub, 1) := by decide +kernel
theorem dX8_bridge_12 : decode cX8_bridge 12 = .ok (.iload_n 1, 1) := by decide +kernel
theorem dX8_bridge_13 : decode cX8_bridge 13 = .ok (.iconst 1, 1) := by decide +kernel
theorem dX8_bridge_14 : decode cX8_bridge 14 = .ok (.isub, 1) := by decide +kernel
theorem dX8_bridge_15 : decode cX8_bridge 15 = .ok (.invokevirtual 99, 3) := by decide +kernel
theorem dX8_bridge_18 : decode cX8_bridge 18 = .ok (.ifCond .eq 28, 3) := by decide +kernel
theorem dX8_bridge_21 : decode cX8_bridge 21 = .ok (.aload_n 0, 1) := by decide +kernel
theorem dX8_bridge_22 : decode cX8_bridge 22 = .ok (.iload_n 1, 1) := by decide +kernel
theorem dX8_bridge_23 : decode cX8_bridge 23 = .ok (.iload_n 1, 1) := by decide +kernel
theorem dX8_bridge_24 : decode cX8_bridge 24 = .ok (.iconst 2, 1) := by decide +kernel
theorem dX8_bridge_25 : decode cX8_bridge 25 = .ok (.iadd, 1) := by decide +kernel
theorem dX8_bridge_26 : decode cX8_bridge 26 = .ok (.invokevirtual 99, 3) := by decide +kernel
theorem dX8_bridge_29 : decode cX8_bridge 29 = .ok (.ifCond .ne 17, 3) := by decide +kernel
theorem dX8_bridge_32 : decode cX8_bridge 32 = .ok (.aload_n 0, 1) := by decide +kernel
theorem dX8_bridge_33 : decode cX8_bridge 33 = .ok (.iload_n 1, 1) := by decide +kernel
theorem dX8_bridge_34 : decode cX8_bridge 34 = .ok (.iconst 3, 1) := by decide +kernel
theorem dX8_bridge_35 : decode cX8_bridge 35 = .ok (.iadd, 1) := by decide +kernel
theorem dX8_bridge_36 : decode cX8_bridge 36 = .ok (.bipush 8, 2) := by decide +kernel
theorem dX8_bridge_38 : decode cX8_bridge 38 = .ok (.invokevirtual 99, 3) := by decide +kernel
theorem dX8_bridge_41 : decode cX8_bridge 41 = .ok (.ifCond .eq 5, 3) := by decide +kernel
theorem dX8_bridge_44 : decode cX8_bridge 44 = .ok (.iload_n 1, 1) := by decide +kernel
theorem dX8_bridge_45 : decode cX8_bridge 45 = .ok (.ireturn, 1) := by decide +kernel
theorem dX8_bridge_46 : decode cX8_bridge 46 = .ok (.iinc 1 1, 3) := by decide +kernel
theorem dX8_bridge_49 : decode cX8_bridge 49 = .ok (.goto (-47), 3) := by decide +kernel
theorem dX8_bridge_52 : decode cX8_bridge 52 = .ok (.iconst (-1), 1) := by decide +kernel
theorem dX8_bridge_53 : decode cX8_bridge 53 = .ok (.ireturn, 1) := by decide +kernel
set_option maxRecDepth 20000 in
theorem ggX8_judge_X8_settle : GoodIn wsX8_judge wsX8_settle := goodIn_r _ [10, 11, 12, 5, 13, 14, 15, 9, 16, 17, 18, 27, 28, 29, 30, 31, 32, 33, 34, 35, 36, 37, 38, 39, 40, 41, 42, 43, 44, 45, 46, 47, 48, 49, 50, 51, 52, 53] (by decide +kernel) (by decide +kernel)
set_option maxRecDepth 20000 in
theorem gX8_judge_X8_settle : GoodIn wsX8_judge (wsV RX8 103 RX8 yX8_settle wsX8_settle) := goodIn_app (goodIn_of _ (by decide +kernel)) ggX8_judge_X8_settle
set_option maxRecDepth 20000 in
theorem ggX8_judge_X8_bridge : GoodIn wsX8_judge wsX8_bridge := goodIn_r _ [22, 23, 24, 25, 9, 26, 5, 27, 28, 29, 30, 31, 32, 33, 34, 35, 36, 37, 38, 39, 40, 41, 42, 43, 44, 45, 46, 47, 48, 49, 50, 51, 52, 53] (by decide +kernel) (by decide +kernel)
set_option maxRecDepth 20000 in
theorem gX8_judge_X8_bridge : GoodIn wsX8_judge (wsV RX8 119 RX8 yX8_bridge wsX8_bridge) := goodIn_app (goodIn_of _ (by decide +kernel)) ggX8_judge_X8_bridge
set_option maxRecDepth 20000 in
theorem ggX8_judge_X8_isPressed : GoodIn wsX8_judge wsX8_isPressed := goodIn_r _ [26, 5, 27, 28, 29, 30, 31, 32, 33, 34, 35, 36, 37, 38, 39, 40, 41, 42, 43, 44, 45, 46, 47, 48, 49, 50, 51, 52, 53] (by decide +kernel) (by decide +kernel)
set_option maxRecDepth 20000 in
theorem gX8_judge_X8_isPressed : GoodIn wsX8_judge (wsV RX8 99 RX8 yX8_isPressed wsX8_isPressed) := goodIn_app (goodIn_of _ (by decide +kernel)) ggX8_judge_X8_isPressed
theorem dX8_judge_0 : decode cX8_judge 0 = .ok (.aload_n 0, 1) := by decide +kernel
theorem dX8_judge_1 : decode cX8_judge 1 = .ok (.iload_n 1, 1) := by decide +kernel
theorem dX8_judge_2 : decode cX8_judge 2 = .ok (.iload_n 2, 1) := by decide +kernel
theorem dX8_judge_3 : decode cX8_judge 3 = .ok (.iload_n 3, 1) := by decide +kernel
theorem dX8_judge_4 : decode cX8_judge 4 = .ok (.invokevirtual 103, 3) := by decide +kernel
theorem dX8_judge_7 : decode cX8_judge 7 = .ok (.aload_n 0, 1) := by decide +kernel
theorem dX8_judge_8 : decode cX8_judge 8 = .ok (.iconst 0, 1) := by decide +kernel
theorem dX8_judge_9 : decode cX8_judge 9 = .ok (.putfield 107, 3) := by decide +kernel
theorem dX8_judge_12 : decode cX8_judge 12 = .ok (.aload_n 0, 1) := by decide +kernel
theorem dX8_judge_13 : decode cX8_judge 13 = .ok (.iconst (-1), 1) := by decide +kernel
theorem dX8_judge_14 : decode cX8_judge 14 = .ok (.putfield 110, 3) := by decide +kernel
theorem dX8_judge_17 : decode cX8_judge 17 = .ok (.aload_n 0, 1) := by decide +kernel
theorem dX8_judge_18 : decode cX8_judge 18 = .ok (.iconst 0, 1) := by decide +kernel
theorem dX8_judge_19 : decode cX8_judge 19 = .ok (.putfield 113, 3) := by decide +kernel
theorem dX8_judge_22 : decode cX8_judge 22 = .ok (.aload_n 0, 1) := by decide +kernel
theorem dX8_judge_23 : decode cX8_judge 23 = .ok (.iconst 0, 1) := by decide +kernel
theorem dX8_judge_24 : decode cX8_judge 24 = .ok (.putfield 116, 3) := by decide +kernel
theorem dX8_judge_27 : decode cX8_judge 27 = .ok (.bipush 8, 2) := by decide +kernel
theorem dX8_judge_29 : decode cX8_judge 29 = .ok (.istore 5, 2) := by decide +kernel
theorem dX8_judge_31 : decode cX8_judge 31 = .ok (.iload 5, 2) := by decide +kernel
theorem dX8_judge_33 : decode cX8_judge 33 = .ok (.ifCond .lt 88, 3) := by decide +kernel
theorem dX8_judge_36 : decode cX8_judge 36 = .ok (.aload_n 0, 1) := by decide +kernel
theorem dX8_judge_37 : decode cX8_judge 37 = .ok (.aload_n 0, 1) := by decide +kernel
theorem dX8_judge_38 : decode cX8_judge 38 = .ok (.getfield 31, 3) := by decide +kernel
theorem dX8_judge_41 : decode cX8_judge 41 = .ok (.iload 5, 2) := by decide +kernel
theorem dX8_judge_43 : decode cX8_judge 43 = .ok (.iaload, 1) := by decide +kernel
theorem dX8_judge_44 : decode cX8_judge 44 = .ok (.aload_n 0, 1) := by decide +kernel
theorem dX8_judge_45 : decode cX8_judge 45 = .ok (.getfield 113, 3) := by decide +kernel
theorem dX8_judge_48 : decode cX8_judge 48 = .ok (.if_icmp .le 13, 3) := by decide +kernel
theorem dX8_judge_51 : decode cX8_judge 51 = .ok (.aload_n 0, 1) := by decide +kernel
theorem dX8_judge_52 : decode cX8_judge 52 = .ok (.getfield 31, 3) := by decide +kernel
theorem dX8_judge_55 : decode cX8_judge 55 = .ok (.iload 5, 2) := by decide +kernel
theorem dX8_judge_57 : decode cX8_judge 57 = .ok (.iaload, 1) := by decide +kernel
theorem dX8_judge_58 : decode cX8_judge 58 = .ok (.goto 7, 3) := by decide +kernel
theorem dX8_judge_61 : decode cX8_judge 61 = .ok (.aload_n 0, 1) := by decide +kernel
theorem dX8_judge_62 : decode cX8_judge 62 = .ok (.getfield 113, 3) := by decide +kernel
theorem dX8_judge_65 : decode cX8_judge 65 = .ok (.putfield 113, 3) := by decide +kernel
theorem dX8_judge_68 : decode cX8_judge 68 = .ok (.aload_n 0, 1) := by decide +kernel
theorem dX8_judge_69 : decode cX8_judge 69 = .ok (.dup, 1) := by decide +kernel
theorem dX8_judge_70 : decode cX8_judge 70 = .ok (.getfield 116, 3) := by decide +kernel
theorem dX8_judge_73 : decode cX8_judge 73 = .ok (.aload_n 0, 1) := by decide +kernel
theorem dX8_judge_74 : decode cX8_judge 74 = .ok (.getfield 31, 3) := by decide +kernel
theorem dX8_judge_77 : decode cX8_judge 77 = .ok (.iload 5, 2) := by decide +kernel
theorem dX8_judge_79 : decode cX8_judge 79 = .ok (.iaload, 1) := by decide +kernel
theorem dX8_judge_80 : decode cX8_judge 80 = .ok (.ifCond .le 7, 3) := by decide +kernel
theorem dX8_judge_83 : decode cX8_judge 83 = .ok (.iconst 1, 1) := by decide +kernel
theorem dX8_judge_84 : decode cX8_judge 84 = .ok (.goto 4, 3) := by decide +kernel
theorem dX8_judge_87 : decode cX8_judge 87 = .ok (.iconst 0, 1) := by decide +kernel
theorem dX8_judge_88 : decode cX8_judge 88 = .ok (.iadd, 1) := by decide +kernel
theorem dX8_judge_89 : decode cX8_judge 89 = .ok (.putfield 116, 3) := by decide +kernel
theorem dX8_judge_92 : decode cX8_judge 92 = .ok (.aload_n 0, 1) := by decide +kernel
theorem dX8_judge_93 : decode cX8_judge 93 = .ok (.getfield 31, 3) := by decide +kernel
theorem dX8_judge_96 : decode cX8_judge 96 = .ok (.iload 5, 2) := by decide +kernel
theorem dX8_judge_98 : decode cX8_judge 98 = .ok (.iaload, 1) := by decide +kernel
theorem dX8_judge_99 : decode cX8_judge 99 = .ok (.iload 4, 2) := by decide +kernel
theorem dX8_judge_101 : decode cX8_judge 101 = .ok (.if_icmp .le 14, 3) := by decide +kernel
theorem dX8_judge_104 : decode cX8_judge 104 = .ok (.aload_n 0, 1) := by decide +kernel
theorem dX8_judge_105 : decode cX8_judge 105 = .ok (.iconst 1, 1) := by decide +kernel
theorem dX8_judge_106 : decode cX8_judge 106 = .ok (.putfield 107, 3) := by decide +kernel
theorem dX8_judge_109 : decode cX8_judge 109 = .ok (.aload_n 0, 1) := by decide +kernel
theorem dX8_judge_110 : decode cX8_judge 110 = .ok (.iload 5, 2) := by decide +kernel
theorem dX8_judge_112 : decode cX8_judge 112 = .ok (.putfield 110, 3) := by decide +kernel
theorem dX8_judge_115 : decode cX8_judge 115 = .ok (.iinc 5 (-1), 3) := by decide +kernel
theorem dX8_judge_118 : decode cX8_judge 118 = .ok (.goto (-87), 3) := by decide +kernel
theorem dX8_judge_121 : decode cX8_judge 121 = .ok (.aload_n 0, 1) := by decide +kernel
theorem dX8_judge_122 : decode cX8_judge 122 = .ok (.getfield 107, 3) := by decide +kernel
theorem dX8_judge_125 : decode cX8_judge 125 = .ok (.ifCond .ne 24, 3) := by decide +kernel
theorem dX8_judge_128 : decode cX8_judge 128 = .ok (.aload_n 0, 1) := by decide +kernel
theorem dX8_judge_129 : decode cX8_judge 129 = .ok (.invokevirtual 119, 3) := by decide +kernel
theorem dX8_judge_132 : decode cX8_judge 132 = .ok (.iconst (-1), 1) := by decide +kernel
theorem dX8_judge_133 : decode cX8_judge 133 = .ok (.if_icmp .eq 16, 3) := by decide +kernel
theorem dX8_judge_136 : decode cX8_judge 136 = .ok (.aload_n 0, 1) := by decide +kernel
theorem dX8_judge_137 : decode cX8_judge 137 = .ok (.iconst 2, 1) := by decide +kernel
theorem dX8_judge_138 : decode cX8_judge 138 = .ok (.putfield 107, 3) := by decide +kernel
theorem dX8_judge_141 : decode cX8_judge 141 = .ok (.aload_n 0, 1) := by decide +kernel
theorem dX8_judge_142 : decode cX8_judge 142 = .ok (.aload_n 0, 1) := by decide +kernel
theorem dX8_judge_143 : decode cX8_judge 143 = .ok (.invokevirtual 119, 3) := by decide +kernel
theorem dX8_judge_146 : decode cX8_judge 146 = .ok (.putfield 110, 3) := by decide +kernel
theorem dX8_judge_149 : decode cX8_judge 149 = .ok (.aload_n 0, 1) := by decide +kernel
theorem dX8_judge_150 : decode cX8_judge 150 = .ok (.getfield 107, 3) := by decide +kernel
theorem dX8_judge_153 : decode cX8_judge 153 = .ok (.ifCond .ne 47, 3) := by decide +kernel
theorem dX8_judge_156 : decode cX8_judge 156 = .ok (.aload_n 0, 1) := by decide +kernel
theorem dX8_judge_157 : decode cX8_judge 157 = .ok (.iconst 0, 1) := by decide +kernel
theorem dX8_judge_158 : decode cX8_judge 158 = .ok (.iconst 2, 1) := by decide +kernel
theorem dX8_judge_159 : decode cX8_judge 159 = .ok (.invokevirtual 99, 3) := by decide +kernel
theorem dX8_judge_162 : decode cX8_judge 162 = .ok (.ifCond .eq 14, 3) := by decide +kernel
theorem dX8_judge_165 : decode cX8_judge 165 = .ok (.aload_n 0, 1) := by decide +kernel
theorem dX8_judge_166 : decode cX8_judge 166 = .ok (.bipush 6, 2) := by decide +kernel
theorem dX8_judge_168 : decode cX8_judge 168 = .ok (.bipush 8, 2) := by decide +kernel
theorem dX8_judge_170 : decode cX8_judge 170 = .ok (.invokevirtual 99, 3) := by decide +kernel
theorem dX8_judge_173 : decode cX8_judge 173 = .ok (.ifCond .ne 27, 3) := by decide +kernel
theorem dX8_judge_176 : decode cX8_judge 176 = .ok (.aload_n 0, 1) := by decide +kernel
theorem dX8_judge_177 : decode cX8_judge 177 = .ok (.iconst 3, 1) := by decide +kernel
theorem dX8_judge_178 : decode cX8_judge 178 = .ok (.putfield 107, 3) := by decide +kernel
theorem dX8_judge_181 : decode cX8_judge 181 = .ok (.aload_n 0, 1) := by decide +kernel
theorem dX8_judge_182 : decode cX8_judge 182 = .ok (.aload_n 0, 1) := by decide +kernel
theorem dX8_judge_183 : decode cX8_judge 183 = .ok (.iconst 0, 1) := by decide +kernel
theorem dX8_judge_184 : decode cX8_judge 184 = .ok (.iconst 2, 1) := by decide +kernel
theorem dX8_judge_185 : decode cX8_judge 185 = .ok (.invokevirtual 99, 3) := by decide +kernel
theorem dX8_judge_188 : decode cX8_judge 188 = .ok (.ifCond .eq 8, 3) := by decide +kernel
theorem dX8_judge_191 : decode cX8_judge 191 = .ok (.bipush 6, 2) := by decide +kernel
theorem dX8_judge_193 : decode cX8_judge 193 = .ok (.goto 4, 3) := by decide +kernel
theorem dX8_judge_196 : decode cX8_judge 196 = .ok (.iconst 0, 1) := by decide +kernel
theorem dX8_judge_197 : decode cX8_judge 197 = .ok (.putfield 110, 3) := by decide +kernel
theorem dX8_judge_200 : decode cX8_judge 200 = .ok (.return_, 1) := by decide +kernel
set_option maxRecDepth 20000 in
theorem ggX8_isLoad_X8_in : GoodIn wsX8_isLoad wsX8_in := goodIn_r _ [5] (by decide +kernel) (by decide +kernel)
set_option maxRecDepth 20000 in
theorem gX8_isLoad_X8_in : GoodIn wsX8_isLoad (va_wsS RX8 58 yX8_in wsX8_in) := goodIn_app (goodIn_of _ (by decide +kernel)) ggX8_isLoad_X8_in
theorem dX8_isLoad_0 : decode cX8_isLoad 0 = .ok (.iload_n 0, 1) := by decide +kernel
theorem dX8_isLoad_1 : decode cX8_isLoad 1 = .ok (.i2l, 1) := by decide +kernel
theorem dX8_isLoad_2 : decode cX8_isLoad 2 = .ok (.lconst 1, 1) := by decide +kernel
theorem dX8_isLoad_3 : decode cX8_isLoad 3 = .ok (.ldc2_w 123, 3) := by decide +kernel
theorem dX8_isLoad_6 : decode cX8_isLoad 6 = .ok (.invokestatic 58, 3) := by decide +kernel
theorem dX8_isLoad_9 : decode cX8_isLoad 9 = .ok (.ireturn, 1) := by decide +kernel
set_option maxRecDepth 20000 in
theorem ggX8_bears_X8_isTree : GoodIn wsX8_bears wsX8_isTree := goodIn_r _ [6, 7, 8, 9, 5, 10, 46, 47, 48, 49, 50, 51, 52, 53, 54, 55, 56, 57, 58, 59, 60, 61, 62, 63, 64, 65, 66, 67, 68, 69, 70, 71, 72] (by decide +kernel) (by decide +kernel)
set_option maxRecDepth 20000 in
theorem gX8_bears_X8_isTree : GoodIn wsX8_bears (wsV RX8 91 RX8 yX8_isTree wsX8_isTree) := goodIn_app (goodIn_of _ (by decide +kernel)) ggX8_bears_X8_isTree
set_option maxRecDepth 20000 in
theorem ggX8_bears_X8_isHorse : GoodIn wsX8_bears wsX8_isHorse := goodIn_r _ [14, 15, 8, 9, 5, 10, 46, 47, 48, 49, 50, 51, 52, 53, 54, 55, 56, 57, 58, 59, 60, 61, 62, 63, 64, 65, 66, 67, 68, 69, 70, 71, 72] (by decide +kernel) (by decide +kernel)
set_option maxRecDepth 20000 in
theorem gX8_bears_X8_isHorse : GoodIn wsX8_bears (wsV RX8 75 RX8 yX8_isHorse wsX8_isHorse) := goodIn_app (goodIn_of _ (by decide +kernel)) ggX8_bears_X8_isHorse
set_option maxRecDepth 20000 in
theorem ggX8_bears_X8_isStation : GoodIn wsX8_bears wsX8_isStation := goodIn_r _ [18, 19, 8, 9, 5, 10] (by decide +kernel) (by decide +kernel)
set_option maxRecDepth 20000 in
theorem gX8_bears_X8_isStation : GoodIn wsX8_bears (va_wsS RX8 67 yX8_isStation wsX8_isStation) := goodIn_app (goodIn_of _ (by decide +kernel)) ggX8_bears_X8_isStation
set_option maxRecDepth 20000 in
theorem ggX8_bears_X8_isDay : GoodIn wsX8_bears wsX8_isDay := goodIn_r _ [22, 23, 8, 9, 5, 10] (by decide +kernel) (by decide +kernel)
set_option maxRecDepth 20000 in
theorem gX8_bears_X8_isDay : GoodIn wsX8_bears (va_wsS RX8 78 yX8_isDay wsX8_isDay) := goodIn_app (goodIn_of _ (by decide +kernel)) ggX8_bears_X8_isDay
set_option maxRecDepth 20000 in
theorem ggX8_bears_X8_isLoad : GoodIn wsX8_bears wsX8_isLoad := goodIn_r _ [26, 27, 8, 9, 5, 10] (by decide +kernel) (by decide +kernel)
set_option maxRecDepth 20000 in
theorem gX8_bears_X8_isLoad : GoodIn wsX8_bears (va_wsS RX8 125 yX8_isLoad wsX8_isLoad) := goodIn_app (goodIn_of _ (by decide +kernel)) ggX8_bears_X8_isLoad
set_option maxRecDepth 20000 in
theorem ggX8_bears_X8_backAt : GoodIn wsX8_bears wsX8_backAt := goodIn_r _ [31, 32, 33, 46, 47, 48, 49, 50, 51, 52, 53, 54, 55, 56, 57, 58, 59, 60, 61, 62, 63, 64, 65, 66, 67, 68, 69, 70, 71, 72] (by decide +kernel) (by decide +kernel)
set_option maxRecDepth 20000 in
theorem gX8_bears_X8_backAt : GoodIn wsX8_bears (wsV RX8 85 RX8 yX8_backAt wsX8_backAt) := goodIn_app (goodIn_of _ (by decide +kernel)) ggX8_bears_X8_backAt
set_option maxRecDepth 20000 in
theorem ggX8_bears_X8_settle : GoodIn wsX8_bears wsX8_settle := goodIn_r _ [37, 38, 39, 1, 40, 41, 42, 5, 43, 44, 45, 46, 47, 48, 49, 50, 51, 52, 53, 54, 55, 56, 57, 58, 59, 60, 61, 62, 63, 64, 65, 66, 67, 68, 69, 70, 71, 72] (by decide +kernel) (by decide +kernel)
set_option maxRecDepth 20000 in
theorem gX8_bears_X8_settle : GoodIn wsX8_bears (wsV RX8 103 RX8 yX8_settle wsX8_settle) := goodIn_app (goodIn_of _ (by decide +kernel)) ggX8_bears_X8_settle
theorem dX8_bears_0 : decode cX8_bears 0 = .ok (.aload_n 0, 1) := by decide +kernel
theorem dX8_bears_1 : decode cX8_bears 1 = .ok (.iload_n 1, 1) := by decide +kernel
theorem dX8_bears_2 : decode cX8_bears 2 = .ok (.invokevirtual 91, 3) := by decide +kernel
theorem dX8_bears_5 : decode cX8_bears 5 = .ok (.ifCond .eq 19, 3) := by decide +kernel
theorem dX8_bears_8 : decode cX8_bears 8 = .ok (.aload_n 0, 1) := by decide +kernel
theorem dX8_bears_9 : decode cX8_bears 9 = .ok (.iload_n 2, 1) := by decide +kernel
theorem dX8_bears_10 : decode cX8_bears 10 = .ok (.invokevirtual 75, 3) := by decide +kernel
theorem dX8_bears_13 : decode cX8_bears 13 = .ok (.ifCond .eq 11, 3) := by decide +kernel
theorem dX8_bears_16 : decode cX8_bears 16 = .ok (.iload 5, 2) := by decide +kernel
theorem dX8_bears_18 : decode cX8_bears 18 = .ok (.invokestatic 67, 3) := by decide +kernel
theorem dX8_bears_21 : decode cX8_bears 21 = .ok (.ifCond .ne 6, 3) := by decide +kernel
theorem dX8_bears_24 : decode cX8_bears 24 = .ok (.bipush (-101), 2) := by decide +kernel
theorem dX8_bears_26 : decode cX8_bears 26 = .ok (.ireturn, 1) := by decide +kernel
theorem dX8_bears_27 : decode cX8_bears 27 = .ok (.iload_n 3, 1) := by decide +kernel
theorem dX8_bears_28 : decode cX8_bears 28 = .ok (.invokestatic 78, 3) := by decide +kernel
theorem dX8_bears_31 : decode cX8_bears 31 = .ok (.ifCond .eq 11, 3) := by decide +kernel
theorem dX8_bears_34 : decode cX8_bears 34 = .ok (.iload 4, 2) := by decide +kernel
theorem dX8_bears_36 : decode cX8_bears 36 = .ok (.invokestatic 125, 3) := by decide +kernel
theorem dX8_bears_39 : decode cX8_bears 39 = .ok (.ifCond .ne 6, 3) := by decide +kernel
theorem dX8_bears_42 : decode cX8_bears 42 = .ok (.bipush (-102), 2) := by decide +kernel
theorem dX8_bears_44 : decode cX8_bears 44 = .ok (.ireturn, 1) := by decide +kernel
theorem dX8_bears_45 : decode cX8_bears 45 = .ok (.aload_n 0, 1) := by decide +kernel
theorem dX8_bears_46 : decode cX8_bears 46 = .ok (.iload_n 2, 1) := by decide +kernel
theorem dX8_bears_47 : decode cX8_bears 47 = .ok (.iload_n 3, 1) := by decide +kernel
theorem dX8_bears_48 : decode cX8_bears 48 = .ok (.invokevirtual 85, 3) := by decide +kernel
theorem dX8_bears_51 : decode cX8_bears 51 = .ok (.istore 6, 2) := by decide +kernel
theorem dX8_bears_53 : decode cX8_bears 53 = .ok (.iload 6, 2) := by decide +kernel
theorem dX8_bears_55 : decode cX8_bears 55 = .ok (.iconst (-1), 1) := by decide +kernel
theorem dX8_bears_56 : decode cX8_bears 56 = .ok (.if_icmp .ne 6, 3) := by decide +kernel
theorem dX8_bears_59 : decode cX8_bears 59 = .ok (.bipush (-103), 2) := by decide +kernel
theorem dX8_bears_61 : decode cX8_bears 61 = .ok (.ireturn, 1) := by decide +kernel
theorem dX8_bears_62 : decode cX8_bears 62 = .ok (.aload_n 0, 1) := by decide +kernel
theorem dX8_bears_63 : decode cX8_bears 63 = .ok (.iload_n 1, 1) := by decide +kernel
theorem dX8_bears_64 : decode cX8_bears 64 = .ok (.iload 6, 2) := by decide +kernel
theorem dX8_bears_66 : decode cX8_bears 66 = .ok (.iload 4, 2) := by decide +kernel
theorem dX8_bears_68 : decode cX8_bears 68 = .ok (.invokevirtual 103, 3) := by decide +kernel
theorem dX8_bears_71 : decode cX8_bears 71 = .ok (.aload_n 0, 1) := by decide +kernel
theorem dX8_bears_72 : decode cX8_bears 72 = .ok (.getfield 31, 3) := by decide +kernel
theorem dX8_bears_75 : decode cX8_bears 75 = .ok (.iload 5, 2) := by decide +kernel
theorem dX8_bears_77 : decode cX8_bears 77 = .ok (.iaload, 1) := by decide +kernel
theorem dX8_bears_78 : decode cX8_bears 78 = .ok (.ireturn, 1) := by decide +kernel
set_option maxRecDepth 20000 in
theorem ggX8_fault_X8_isTree : GoodIn wsX8_fault wsX8_isTree := goodIn_r _ [10, 11, 12, 13, 9, 14, 59, 60, 61, 62, 63, 64, 65, 66, 67, 68, 69, 70, 71, 72, 73, 74, 75, 76, 77, 78, 79, 80, 81, 82, 83, 84, 85] (by decide +kernel) (by decide +kernel)
set_option maxRecDepth 20000 in
theorem gX8_fault_X8_isTree : GoodIn wsX8_fault (wsV RX8 91 RX8 yX8_isTree wsX8_isTree) := goodIn_app (goodIn_of _ (by decide +kernel)) ggX8_fault_X8_isTree
set_option maxRecDepth 20000 in
theorem ggX8_fault_X8_isHorse : GoodIn wsX8_fault wsX8_isHorse := goodIn_r _ [18, 19, 12, 13, 9, 14, 59, 60, 61, 62, 63, 64, 65, 66, 67, 68, 69, 70, 71, 72, 73, 74, 75, 76, 77, 78, 79, 80, 81, 82, 83, 84, 85] (by decide +kernel) (by decide +kernel)
set_option maxRecDepth 20000 in
theorem gX8_fault_X8_isHorse : GoodIn wsX8_fault (wsV RX8 75 RX8 yX8_isHorse wsX8_isHorse) := goodIn_app (goodIn_of _ (by decide +kernel)) ggX8_fault_X8_isHorse
set_option maxRecDepth 20000 in
theorem ggX8_fault_X8_isDay : GoodIn wsX8_fault wsX8_isDay := goodIn_r _ [22, 23, 12, 13, 9, 14] (by decide +kernel) (by decide +kernel)
set_option maxRecDepth 20000 in
theorem gX8_fault_X8_isDay : GoodIn wsX8_fault (va_wsS RX8 78 yX8_isDay wsX8_isDay) := goodIn_app (goodIn_of _ (by decide +kernel)) ggX8_fault_X8_isDay
set_option maxRecDepth 20000 in
theorem ggX8_fault_X8_isLoad : GoodIn wsX8_fault wsX8_isLoad := goodIn_r _ [26, 27, 12, 13, 9, 14] (by decide +kernel) (by decide +kernel)
set_option maxRecDepth 20000 in
theorem gX8_fault_X8_isLoad : GoodIn wsX8_fault (va_wsS RX8 125 yX8_isLoad wsX8_isLoad) := goodIn_app (goodIn_of _ (by decide +kernel)) ggX8_fault_X8_isLoad
set_option maxRecDepth 20000 in
theorem ggX8_fault_X8_in : GoodIn wsX8_fault wsX8_in := goodIn_r _ [14] (by decide +kernel) (by decide +kernel)
set_option maxRecDepth 20000 in
theorem gX8_fault_X8_in : GoodIn wsX8_fault (va_wsS RX8 58 yX8_in wsX8_in) := goodIn_app (goodIn_of _ (by decide +kernel)) ggX8_fault_X8_in
set_option maxRecDepth 20000 in
theorem ggX8_fault_X8_backAt : GoodIn wsX8_fault wsX8_backAt := goodIn_r _ [31, 32, 33, 59, 60, 61, 62, 63, 64, 65, 66, 67, 68, 69, 70, 71, 72, 73, 74, 75, 76, 77, 78, 79, 80, 81, 82, 83, 84, 85] (by decide +kernel) (by decide +kernel)
set_option maxRecDepth 20000 in
theorem gX8_fault_X8_backAt : GoodIn wsX8_fault (wsV RX8 85 RX8 yX8_backAt wsX8_backAt) := goodIn_app (goodIn_of _ (by decide +kernel)) ggX8_fault_X8_backAt
set_option maxRecDepth 20000 in
theorem ggX8_fault_X8_judge : GoodIn wsX8_fault wsX8_judge := goodIn_r _ [37, 2, 3, 4, 5, 38, 39, 40, 41, 9, 42, 43, 44, 45, 46, 47, 48, 49, 50, 51, 52, 53, 54, 55, 56, 57, 58, 59, 60, 61, 62, 63, 64, 65, 66, 67, 68, 69, 70, 71, 72, 73, 74, 75, 76, 77, 78, 79, 80, 81, 82, 83, 84, 85] (by decide +kernel) (by decide +kernel)
set_option maxRecDepth 20000 in
theorem gX8_fault_X8_judge : GoodIn wsX8_fault (wsV RX8 130 RX8 yX8_judge wsX8_judge) := goodIn_app (goodIn_of _ (by decide +kernel)) ggX8_fault_X8_judge
theorem dX8_fault_0 : decode cX8_fault 0 = .ok (.aload_n 0, 1) := by decide +kernel
theorem dX8_fault_1 : decode cX8_fault 1 = .ok (.iload_n 1, 1) := by decide +kernel
theorem dX8_fault_2 : decode cX8_fault 2 = .ok (.invokevirtual 91, 3) := by decide +kernel
theorem dX8_fault_5 : decode cX8_fault 5 = .ok (.ifCond .eq 11, 3) := by decide +kernel
theorem dX8_fault_8 : decode cX8_fault 8 = .ok (.aload_n 0, 1) := by decide +kernel
theorem dX8_fault_9 : decode cX8_fault 9 = .ok (.iload_n 2, 1) := by decide +kernel
theorem dX8_fault_10 : decode cX8_fault 10 = .ok (.invokevirtual 75, 3) := by decide +kernel
theorem dX8_fault_13 : decode cX8_fault 13 = .ok (.ifCond .ne 6, 3) := by decide +kernel
theorem dX8_fault_16 : decode cX8_fault 16 = .ok (.bipush (-101), 2) := by decide +kernel
theorem dX8_fault_18 : decode cX8_fault 18 = .ok (.ireturn, 1) := by decide +kernel
theorem dX8_fault_19 : decode cX8_fault 19 = .ok (.iload_n 3, 1) := by decide +kernel
theorem dX8_fault_20 : decode cX8_fault 20 = .ok (.invokestatic 78, 3) := by decide +kernel
theorem dX8_fault_23 : decode cX8_fault 23 = .ok (.ifCond .eq 32, 3) := by decide +kernel
theorem dX8_fault_26 : decode cX8_fault 26 = .ok (.iload 4, 2) := by decide +kernel
theorem dX8_fault_28 : decode cX8_fault 28 = .ok (.invokestatic 125, 3) := by decide +kernel
theorem dX8_fault_31 : decode cX8_fault 31 = .ok (.ifCond .eq 24, 3) := by decide +kernel
theorem dX8_fault_34 : decode cX8_fault 34 = .ok (.iload 5, 2) := by decide +kernel
theorem dX8_fault_36 : decode cX8_fault 36 = .ok (.invokestatic 125, 3) := by decide +kernel
theorem dX8_fault_39 : decode cX8_fault 39 = .ok (.ifCond .eq 16, 3) := by decide +kernel
theorem dX8_fault_42 : decode cX8_fault 42 = .ok (.iload 6, 2) := by decide +kernel
theorem dX8_fault_44 : decode cX8_fault 44 = .ok (.i2l, 1) := by decide +kernel
theorem dX8_fault_45 : decode cX8_fault 45 = .ok (.lconst 0, 1) := by decide +kernel
theorem dX8_fault_46 : decode cX8_fault 46 = .ok (.ldc2_w 128, 3) := by decide +kernel
theorem dX8_fault_49 : decode cX8_fault 49 = .ok (.invokestatic 58, 3) := by decide +kernel
theorem dX8_fault_52 : decode cX8_fault 52 = .ok (.ifCond .ne 6, 3) := by decide +kernel
theorem dX8_fault_55 : decode cX8_fault 55 = .ok (.bipush (-102), 2) := by decide +kernel
theorem dX8_fault_57 : decode cX8_fault 57 = .ok (.ireturn, 1) := by decide +kernel
theorem dX8_fault_58 : decode cX8_fault 58 = .ok (.aload_n 0, 1) := by decide +kernel
theorem dX8_fault_59 : decode cX8_fault 59 = .ok (.iload_n 2, 1) := by decide +kernel
theorem dX8_fault_60 : decode cX8_fault 60 = .ok (.iload_n 3, 1) := by decide +kernel
theorem dX8_fault_61 : decode cX8_fault 61 = .ok (.invokevirtual 85, 3) := by decide +kernel
theorem dX8_fault_64 : decode cX8_fault 64 = .ok (.istore 7, 2) := by decide +kernel
theorem dX8_fault_66 : decode cX8_fault 66 = .ok (.iload 7, 2) := by decide +kernel
theorem dX8_fault_68 : decode cX8_fault 68 = .ok (.iconst (-1), 1) := by decide +kernel
theorem dX8_fault_69 : decode cX8_fault 69 = .ok (.if_icmp .ne 6, 3) := by decide +kernel
theorem dX8_fault_72 : decode cX8_fault 72 = .ok (.bipush (-103), 2) := by decide +kernel
theorem dX8_fault_74 : decode cX8_fault 74 = .ok (.ireturn, 1) := by decide +kernel
theorem dX8_fault_75 : decode cX8_fault 75 = .ok (.aload_n 0, 1) := by decide +kernel
theorem dX8_fault_76 : decode cX8_fault 76 = .ok (.iload_n 1, 1) := by decide +kernel
theorem dX8_fault_77 : decode cX8_fault 77 = .ok (.iload 7, 2) := by decide +kernel
theorem dX8_fault_79 : decode cX8_fault 79 = .ok (.iload 4, 2) := by decide +kernel
theorem dX8_fault_81 : decode cX8_fault 81 = .ok (.iload 5, 2) := by decide +kernel
theorem dX8_fault_83 : decode cX8_fault 83 = .ok (.invokevirtual 130, 3) := by decide +kernel
theorem dX8_fault_86 : decode cX8_fault 86 = .ok (.iload 6, 2) := by decide +kernel
theorem dX8_fault_88 : decode cX8_fault 88 = .ok (.ifCond .ne 10, 3) := by decide +kernel
theorem dX8_fault_91 : decode cX8_fault 91 = .ok (.aload_n 0, 1) := by decide +kernel
theorem dX8_fault_92 : decode cX8_fault 92 = .ok (.getfield 107, 3) := by decide +kernel
