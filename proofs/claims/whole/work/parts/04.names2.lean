theorem dX0_init_0 : decode cX0_init 0 = .ok (.aload_n 0, 1) := by decide +kernel
theorem dX0_init_1 : decode cX0_init 1 = .ok (.invokespecial 3, 3) := by decide +kernel
theorem dX0_init_4 : decode cX0_init 4 = .ok (.aload_n 0, 1) := by decide +kernel
theorem dX0_init_5 : decode cX0_init 5 = .ok (.iconst 0, 1) := by decide +kernel
theorem dX0_init_6 : decode cX0_init 6 = .ok (.putfield 9, 3) := by decide +kernel
theorem dX0_init_9 : decode cX0_init 9 = .ok (.aload_n 0, 1) := by decide +kernel
theorem dX0_init_10 : decode cX0_init 10 = .ok (.iload_n 1, 1) := by decide +kernel
theorem dX0_init_11 : decode cX0_init 11 = .ok (.putfield 15, 3) := by decide +kernel
theorem dX0_init_14 : decode cX0_init 14 = .ok (.return_, 1) := by decide +kernel
theorem dX0_endFor_0 : decode cX0_endFor 0 = .ok (.iload_n 2, 1) := by decide +kernel
theorem dX0_endFor_1 : decode cX0_endFor 1 = .ok (.aload_n 0, 1) := by decide +kernel
theorem dX0_endFor_2 : decode cX0_endFor 2 = .ok (.getfield 15, 3) := by decide +kernel
theorem dX0_endFor_5 : decode cX0_endFor 5 = .ok (.imul, 1) := by decide +kernel
theorem dX0_endFor_6 : decode cX0_endFor 6 = .ok (.aload_n 0, 1) := by decide +kernel
theorem dX0_endFor_7 : decode cX0_endFor 7 = .ok (.getfield 9, 3) := by decide +kernel
theorem dX0_endFor_10 : decode cX0_endFor 10 = .ok (.invokestatic 18, 3) := by decide +kernel
theorem dX0_endFor_13 : decode cX0_endFor 13 = .ok (.iload_n 1, 1) := by decide +kernel
theorem dX0_endFor_14 : decode cX0_endFor 14 = .ok (.iadd, 1) := by decide +kernel
theorem dX0_endFor_15 : decode cX0_endFor 15 = .ok (.ireturn, 1) := by decide +kernel
set_option maxRecDepth 20000 in
theorem ggX0_promiseFor_X0_endFor : GoodIn wsX0_promiseFor wsX0_endFor := goodIn_r _ [7, 1, 8, 9, 10, 11, 12, 13, 14] (by decide +kernel) (by decide +kernel)
set_option maxRecDepth 20000 in
theorem gX0_promiseFor_X0_endFor : GoodIn wsX0_promiseFor (wsV RX0 25 RX0 yX0_endFor wsX0_endFor) := goodIn_app (goodIn_of _ (by decide +kernel)) ggX0_promiseFor_X0_endFor
theorem dX0_promiseFor_0 : decode cX0_promiseFor 0 = .ok (.aload_n 0, 1) := by decide +kernel
theorem dX0_promiseFor_1 : decode cX0_promiseFor 1 = .ok (.getfield 15, 3) := by decide +kernel
theorem dX0_promiseFor_4 : decode cX0_promiseFor 4 = .ok (.iconst 1, 1) := by decide +kernel
theorem dX0_promiseFor_5 : decode cX0_promiseFor 5 = .ok (.if_icmp .ge 8, 3) := by decide +kernel
theorem dX0_promiseFor_8 : decode cX0_promiseFor 8 = .ok (.ldc 24, 2) := by decide +kernel
theorem dX0_promiseFor_10 : decode cX0_promiseFor 10 = .ok (.goto 16, 3) := by decide +kernel
theorem dX0_promiseFor_13 : decode cX0_promiseFor 13 = .ok (.aload_n 0, 1) := by decide +kernel
theorem dX0_promiseFor_14 : decode cX0_promiseFor 14 = .ok (.iload_n 1, 1) := by decide +kernel
theorem dX0_promiseFor_15 : decode cX0_promiseFor 15 = .ok (.iload_n 2, 1) := by decide +kernel
theorem dX0_promiseFor_16 : decode cX0_promiseFor 16 = .ok (.invokevirtual 25, 3) := by decide +kernel
theorem dX0_promiseFor_19 : decode cX0_promiseFor 19 = .ok (.iconst 1, 1) := by decide +kernel
theorem dX0_promiseFor_20 : decode cX0_promiseFor 20 = .ok (.isub, 1) := by decide +kernel
theorem dX0_promiseFor_21 : decode cX0_promiseFor 21 = .ok (.aload_n 0, 1) := by decide +kernel
theorem dX0_promiseFor_22 : decode cX0_promiseFor 22 = .ok (.getfield 15, 3) := by decide +kernel
theorem dX0_promiseFor_25 : decode cX0_promiseFor 25 = .ok (.idiv, 1) := by decide +kernel
theorem dX0_promiseFor_26 : decode cX0_promiseFor 26 = .ok (.ireturn, 1) := by decide +kernel
theorem dX1_init_0 : decode cX1_init 0 = .ok (.aload_n 0, 1) := by decide +kernel
theorem dX1_init_1 : decode cX1_init 1 = .ok (.invokespecial 3, 3) := by decide +kernel
theorem dX1_init_4 : decode cX1_init 4 = .ok (.aload_n 0, 1) := by decide +kernel
theorem dX1_init_5 : decode cX1_init 5 = .ok (.sipush 192, 3) := by decide +kernel
theorem dX1_init_8 : decode cX1_init 8 = .ok (.newarray .int, 2) := by decide +kernel
theorem dX1_init_10 : decode cX1_init 10 = .ok (.putfield 9, 3) := by decide +kernel
theorem dX1_init_13 : decode cX1_init 13 = .ok (.return_, 1) := by decide +kernel
set_option maxRecDepth 20000 in
theorem ggX1_firstRoom_X1_isWholeAt : GoodIn wsX1_firstRoom wsX1_isWholeAt := goodIn_r _ [5, 6, 7] (by decide +kernel) (by decide +kernel)
set_option maxRecDepth 20000 in
theorem gX1_firstRoom_X1_isWholeAt : GoodIn wsX1_firstRoom (wsV RX1 15 RX1 yX1_isWholeAt wsX1_isWholeAt) := goodIn_app (goodIn_of _ (by decide +kernel)) ggX1_firstRoom_X1_isWholeAt
theorem dX1_firstRoom_0 : decode cX1_firstRoom 0 = .ok (.iconst 0, 1) := by decide +kernel
theorem dX1_firstRoom_1 : decode cX1_firstRoom 1 = .ok (.istore_n 3, 1) := by decide +kernel
theorem dX1_firstRoom_2 : decode cX1_firstRoom 2 = .ok (.iload_n 3, 1) := by decide +kernel
theorem dX1_firstRoom_3 : decode cX1_firstRoom 3 = .ok (.iload_n 2, 1) := by decide +kernel
theorem dX1_firstRoom_4 : decode cX1_firstRoom 4 = .ok (.iadd, 1) := by decide +kernel
theorem dX1_firstRoom_5 : decode cX1_firstRoom 5 = .ok (.bipush 12, 2) := by decide +kernel
theorem dX1_firstRoom_7 : decode cX1_firstRoom 7 = .ok (.if_icmp .gt 51, 3) := by decide +kernel
theorem dX1_firstRoom_10 : decode cX1_firstRoom 10 = .ok (.iconst 0, 1) := by decide +kernel
theorem dX1_firstRoom_11 : decode cX1_firstRoom 11 = .ok (.istore 4, 2) := by decide +kernel
theorem dX1_firstRoom_13 : decode cX1_firstRoom 13 = .ok (.iload 4, 2) := by decide +kernel
theorem dX1_firstRoom_15 : decode cX1_firstRoom 15 = .ok (.iload_n 1, 1) := by decide +kernel
theorem dX1_firstRoom_16 : decode cX1_firstRoom 16 = .ok (.iadd, 1) := by decide +kernel
theorem dX1_firstRoom_17 : decode cX1_firstRoom 17 = .ok (.bipush 16, 2) := by decide +kernel
theorem dX1_firstRoom_19 : decode cX1_firstRoom 19 = .ok (.if_icmp .gt 33, 3) := by decide +kernel
theorem dX1_firstRoom_22 : decode cX1_firstRoom 22 = .ok (.aload_n 0, 1) := by decide +kernel
theorem dX1_firstRoom_23 : decode cX1_firstRoom 23 = .ok (.bipush 16, 2) := by decide +kernel
theorem dX1_firstRoom_25 : decode cX1_firstRoom 25 = .ok (.iload_n 3, 1) := by decide +kernel
theorem dX1_firstRoom_26 : decode cX1_firstRoom 26 = .ok (.imul, 1) := by decide +kernel
theorem dX1_firstRoom_27 : decode cX1_firstRoom 27 = .ok (.iload 4, 2) := by decide +kernel
theorem dX1_firstRoom_29 : decode cX1_firstRoom 29 = .ok (.iadd, 1) := by decide +kernel
theorem dX1_firstRoom_30 : decode cX1_firstRoom 30 = .ok (.iload_n 1, 1) := by decide +kernel
theorem dX1_firstRoom_31 : decode cX1_firstRoom 31 = .ok (.iload_n 2, 1) := by decide +kernel
theorem dX1_firstRoom_32 : decode cX1_firstRoom 32 = .ok (.invokevirtual 15, 3) := by decide +kernel
theorem dX1_firstRoom_35 : decode cX1_firstRoom 35 = .ok (.ifCond .eq 11, 3) := by decide +kernel
theorem dX1_firstRoom_38 : decode cX1_firstRoom 38 = .ok (.bipush 16, 2) := by decide +kernel
theorem dX1_firstRoom_40 : decode cX1_firstRoom 40 = .ok (.iload_n 3, 1) := by decide +kernel
theorem dX1_firstRoom_41 : decode cX1_firstRoom 41 = .ok (.imul, 1) := by decide +kernel
theorem dX1_firstRoom_42 : decode cX1_firstRoom 42 = .ok (.iload 4, 2) := by decide +kernel
theorem dX1_firstRoom_44 : decode cX1_firstRoom 44 = .ok (.iadd, 1) := by decide +kernel
theorem dX1_firstRoom_45 : decode cX1_firstRoom 45 = .ok (.ireturn, 1) := by decide +kernel
theorem dX1_firstRoom_46 : decode cX1_firstRoom 46 = .ok (.iinc 4 1, 3) := by decide +kernel
theorem dX1_firstRoom_49 : decode cX1_firstRoom 49 = .ok (.goto (-36), 3) := by decide +kernel
theorem dX1_firstRoom_52 : decode cX1_firstRoom 52 = .ok (.iinc 3 1, 3) := by decide +kernel
theorem dX1_firstRoom_55 : decode cX1_firstRoom 55 = .ok (.goto (-53), 3) := by decide +kernel
theorem dX1_firstRoom_58 : decode cX1_firstRoom 58 = .ok (.iconst (-1), 1) := by decide +kernel
theorem dX1_firstRoom_59 : decode cX1_firstRoom 59 = .ok (.ireturn, 1) := by decide +kernel
theorem dX1_isWholeAt_0 : decode cX1_isWholeAt 0 = .ok (.iconst 0, 1) := by decide +kernel
theorem dX1_isWholeAt_1 : decode cX1_isWholeAt 1 = .ok (.istore 4, 2) := by decide +kernel
theorem dX1_isWholeAt_3 : decode cX1_isWholeAt 3 = .ok (.iload 4, 2) := by decide +kernel
theorem dX1_isWholeAt_5 : decode cX1_isWholeAt 5 = .ok (.iload_n 3, 1) := by decide +kernel
theorem dX1_isWholeAt_6 : decode cX1_isWholeAt 6 = .ok (.if_icmp .ge 44, 3) := by decide +kernel
theorem dX1_isWholeAt_9 : decode cX1_isWholeAt 9 = .ok (.iconst 0, 1) := by decide +kernel
theorem dX1_isWholeAt_10 : decode cX1_isWholeAt 10 = .ok (.istore 5, 2) := by decide +kernel
theorem dX1_isWholeAt_12 : decode cX1_isWholeAt 12 = .ok (.iload 5, 2) := by decide +kernel
theorem dX1_isWholeAt_14 : decode cX1_isWholeAt 14 = .ok (.iload_n 2, 1) := by decide +kernel
theorem dX1_isWholeAt_15 : decode cX1_isWholeAt 15 = .ok (.if_icmp .ge 29, 3) := by decide +kernel
theorem dX1_isWholeAt_18 : decode cX1_isWholeAt 18 = .ok (.aload_n 0, 1) := by decide +kernel
theorem dX1_isWholeAt_19 : decode cX1_isWholeAt 19 = .ok (.getfield 9, 3) := by decide +kernel
theorem dX1_isWholeAt_22 : decode cX1_isWholeAt 22 = .ok (.iload_n 1, 1) := by decide +kernel
theorem dX1_isWholeAt_23 : decode cX1_isWholeAt 23 = .ok (.bipush 16, 2) := by decide +kernel
theorem dX1_isWholeAt_25 : decode cX1_isWholeAt 25 = .ok (.iload 4, 2) := by decide +kernel
theorem dX1_isWholeAt_27 : decode cX1_isWholeAt 27 = .ok (.imul, 1) := by decide +kernel
theorem dX1_isWholeAt_28 : decode cX1_isWholeAt 28 = .ok (.iadd, 1) := by decide +kernel
theorem dX1_isWholeAt_29 : decode cX1_isWholeAt 29 = .ok (.iload 5, 2) := by decide +kernel
theorem dX1_isWholeAt_31 : decode cX1_isWholeAt 31 = .ok (.iadd, 1) := by decide +kernel
theorem dX1_isWholeAt_32 : decode cX1_isWholeAt 32 = .ok (.iaload, 1) := by decide +kernel
theorem dX1_isWholeAt_33 : decode cX1_isWholeAt 33 = .ok (.ifCond .eq 5, 3) := by decide +kernel
theorem dX1_isWholeAt_36 : decode cX1_isWholeAt 36 = .ok (.iconst 0, 1) := by decide +kernel
theorem dX1_isWholeAt_37 : decode cX1_isWholeAt 37 = .ok (.ireturn, 1) := by decide +kernel
theorem dX1_isWholeAt_38 : decode cX1_isWholeAt 38 = .ok (.iinc 5 1, 3) := by decide +kernel
theorem dX1_isWholeAt_41 : decode cX1_isWholeAt 41 = .ok (.goto (-29), 3) := by decide +kernel
theorem dX1_isWholeAt_44 : decode cX1_isWholeAt 44 = .ok (.iinc 4 1, 3) := by decide +kernel
theorem dX1_isWholeAt_47 : decode cX1_isWholeAt 47 = .ok (.goto (-44), 3) := by decide +kernel
theorem dX1_isWholeAt_50 : decode cX1_isWholeAt 50 = .ok (.iconst 1, 1) := by decide +kernel
theorem dX1_isWholeAt_51 : decode cX1_isWholeAt 51 = .ok (.ireturn, 1) := by decide +kernel
theorem dX1_mark_0 : decode cX1_mark 0 = .ok (.iconst 0, 1) := by decide +kernel
theorem dX1_mark_1 : decode cX1_mark 1 = .ok (.istore 5, 2) := by decide +kernel
theorem dX1_mark_3 : decode cX1_mark 3 = .ok (.iload 5, 2) := by decide +kernel
theorem dX1_mark_5 : decode cX1_mark 5 = .ok (.iload_n 3, 1) := by decide +kernel
theorem dX1_mark_6 : decode cX1_mark 6 = .ok (.if_icmp .ge 41, 3) := by decide +kernel
theorem dX1_mark_9 : decode cX1_mark 9 = .ok (.iconst 0, 1) := by decide +kernel
theorem dX1_mark_10 : decode cX1_mark 10 = .ok (.istore 6, 2) := by decide +kernel
theorem dX1_mark_12 : decode cX1_mark 12 = .ok (.iload 6, 2) := by decide +kernel
theorem dX1_mark_14 : decode cX1_mark 14 = .ok (.iload_n 2, 1) := by decide +kernel
theorem dX1_mark_15 : decode cX1_mark 15 = .ok (.if_icmp .ge 26, 3) := by decide +kernel
theorem dX1_mark_18 : decode cX1_mark 18 = .ok (.aload_n 0, 1) := by decide +kernel
theorem dX1_mark_19 : decode cX1_mark 19 = .ok (.getfield 9, 3) := by decide +kernel
theorem dX1_mark_22 : decode cX1_mark 22 = .ok (.iload_n 1, 1) := by decide +kernel
theorem dX1_mark_23 : decode cX1_mark 23 = .ok (.bipush 16, 2) := by decide +kernel
theorem dX1_mark_25 : decode cX1_mark 25 = .ok (.iload 5, 2) := by decide +kernel
theorem dX1_mark_27 : decode cX1_mark 27 = .ok (.imul, 1) := by decide +kernel
theorem dX1_mark_28 : decode cX1_mark 28 = .ok (.iadd, 1) := by decide +kernel
theorem dX1_mark_29 : decode cX1_mark 29 = .ok (.iload 6, 2) := by decide +kernel
theorem dX1_mark_31 : decode cX1_mark 31 = .ok (.iadd, 1) := by decide +kernel
theorem dX1_mark_32 : decode cX1_mark 32 = .ok (.iload 4, 2) := by decide +kernel
theorem dX1_mark_34 : decode cX1_mark 34 = .ok (.iastore, 1) := by decide +kernel
theorem dX1_mark_35 : decode cX1_mark 35 = .ok (.iinc 6 1, 3) := by decide +kernel
theorem dX1_mark_38 : decode cX1_mark 38 = .ok (.goto (-26), 3) := by decide +kernel
theorem dX1_mark_41 : decode cX1_mark 41 = .ok (.iinc 5 1, 3) := by decide +kernel
theorem dX1_mark_44 : decode cX1_mark 44 = .ok (.goto (-41), 3) := by decide +kernel
theorem dX1_mark_47 : decode cX1_mark 47 = .ok (.return_, 1) := by decide +kernel
theorem dX2_init_0 : decode cX2_init 0 = .ok (.aload_n 0, 1) := by decide +kernel
theorem dX2_init_1 : decode cX2_init 1 = .ok (.invokespecial 3, 3) := by decide +kernel
theorem dX2_init_4 : decode cX2_init 4 = .ok (.aload_n 0, 1) := by decide +kernel
theorem dX2_init_5 : decode cX2_init 5 = .ok (.bipush 6, 2) := by decide +kernel
theorem dX2_init_7 : decode cX2_init 7 = .ok (.anewarray 9, 3) := by decide +kernel
theorem dX2_init_10 : decode cX2_init 10 = .ok (.putfield 11, 3) := by decide +kernel
theorem dX2_init_13 : decode cX2_init 13 = .ok (.aload_n 0, 1) := by decide +kernel
theorem dX2_init_14 : decode cX2_init 14 = .ok (.iconst 0, 1) := by decide +kernel
theorem dX2_init_15 : decode cX2_init 15 = .ok (.putfield 17, 3) := by decide +kernel
theorem dX2_init_18 : decode cX2_init 18 = .ok (.return_, 1) := by decide +kernel
theorem dX2_isAboveLatest_0 : decode cX2_isAboveLatest 0 = .ok (.aload_n 0, 1) := by decide +kernel
theorem dX2_isAboveLatest_1 : decode cX2_isAboveLatest 1 = .ok (.getfield 17, 3) := by decide +kernel
theorem dX2_isAboveLatest_4 : decode cX2_isAboveLatest 4 = .ok (.ifCond .eq 21, 3) := by decide +kernel
theorem dX2_isAboveLatest_7 : decode cX2_isAboveLatest 7 = .ok (.iload_n 1, 1) := by decide +kernel
theorem dX2_isAboveLatest_8 : decode cX2_isAboveLatest 8 = .ok (.aload_n 0, 1) := by decide +kernel
theorem dX2_isAboveLatest_9 : decode cX2_isAboveLatest 9 = .ok (.getfield 11, 3) := by decide +kernel
theorem dX2_isAboveLatest_12 : decode cX2_isAboveLatest 12 = .ok (.aload_n 0, 1) := by decide +kernel
theorem dX2_isAboveLatest_13 : decode cX2_isAboveLatest 13 = .ok (.getfield 17, 3) := by decide +kernel
theorem dX2_isAboveLatest_16 : decode cX2_isAboveLatest 16 = .ok (.iconst 1, 1) := by decide +kernel
theorem dX2_isAboveLatest_17 : decode cX2_isAboveLatest 17 = .ok (.isub, 1) := by decide +kernel
theorem dX2_isAboveLatest_18 : decode cX2_isAboveLatest 18 = .ok (.aaload, 1) := by decide +kernel
theorem dX2_isAboveLatest_19 : decode cX2_isAboveLatest 19 = .ok (.getfield 21, 3) := by decide +kernel
theorem dX2_isAboveLatest_22 : decode cX2_isAboveLatest 22 = .ok (.if_icmp .le 7, 3) := by decide +kernel
theorem dX2_isAboveLatest_25 : decode cX2_isAboveLatest 25 = .ok (.iconst 1, 1) := by decide +kernel
theorem dX2_isAboveLatest_26 : decode cX2_isAboveLatest 26 = .ok (.goto 4, 3) := by decide +kernel
theorem dX2_isAboveLatest_29 : decode cX2_isAboveLatest 29 = .ok (.iconst 0, 1) := by decide +kernel
theorem dX2_isAboveLatest_30 : decode cX2_isAboveLatest 30 = .ok (.ireturn, 1) := by decide +kernel
theorem dX2_add_0 : decode cX2_add 0 = .ok (.aload_n 0, 1) := by decide +kernel
theorem dX2_add_1 : decode cX2_add 1 = .ok (.getfield 11, 3) := by decide +kernel
theorem dX2_add_4 : decode cX2_add 4 = .ok (.aload_n 0, 1) := by decide +kernel
theorem dX2_add_5 : decode cX2_add 5 = .ok (.getfield 17, 3) := by decide +kernel
theorem dX2_add_8 : decode cX2_add 8 = .ok (.aload_n 1, 1) := by decide +kernel
theorem dX2_add_9 : decode cX2_add 9 = .ok (.aastore, 1) := by decide +kernel
theorem dX2_add_10 : decode cX2_add 10 = .ok (.aload_n 0, 1) := by decide +kernel
theorem dX2_add_11 : decode cX2_add 11 = .ok (.dup, 1) := by decide +kernel
theorem dX2_add_12 : decode cX2_add 12 = .ok (.getfield 17, 3) := by decide +kernel
theorem dX2_add_15 : decode cX2_add 15 = .ok (.iconst 1, 1) := by decide +kernel
theorem dX2_add_16 : decode cX2_add 16 = .ok (.iadd, 1) := by decide +kernel
theorem dX2_add_17 : decode cX2_add 17 = .ok (.putfield 17, 3) := by decide +kernel
theorem dX2_add_20 : decode cX2_add 20 = .ok (.return_, 1) := by decide +kernel
theorem dX2_backOn_0 : decode cX2_backOn 0 = .ok (.aconst_null, 1) := by decide +kernel
theorem dX2_backOn_1 : decode cX2_backOn 1 = .ok (.astore_n 2, 1) := by decide +kernel
theorem dX2_backOn_2 : decode cX2_backOn 2 = .ok (.iconst 0, 1) := by decide +kernel
theorem dX2_backOn_3 : decode cX2_backOn 3 = .ok (.istore_n 3, 1) := by decide +kernel
theorem dX2_backOn_4 : decode cX2_backOn 4 = .ok (.iload_n 3, 1) := by decide +kernel
theorem dX2_backOn_5 : decode cX2_backOn 5 = .ok (.aload_n 0, 1) := by decide +kernel
theorem dX2_backOn_6 : decode cX2_backOn 6 = .ok (.getfield 17, 3) := by decide +kernel
theorem dX2_backOn_9 : decode cX2_backOn 9 = .ok (.if_icmp .ge 29, 3) := by decide +kernel
theorem dX2_backOn_12 : decode cX2_backOn 12 = .ok (.aload_n 0, 1) := by decide +kernel
theorem dX2_backOn_13 : decode cX2_backOn 13 = .ok (.getfield 11, 3) := by decide +kernel
theorem dX2_backOn_16 : decode cX2_backOn 16 = .ok (.iload_n 3, 1) := by decide +kernel
theorem dX2_backOn_17 : decode cX2_backOn 17 = .ok (.aaload, 1) := by decide +kernel
theorem dX2_backOn_18 : decode cX2_backOn 18 = .ok (.getfield 21, 3) := by decide +kernel
theorem dX2_backOn_21 : decode cX2_backOn 21 = .ok (.iload_n 1, 1) := by decide +kernel
theorem dX2_backOn_22 : decode cX2_backOn 22 = .ok (.if_icmp .gt 10, 3) := by decide +kernel
theorem dX2_backOn_25 : decode cX2_backOn 25 = .ok (.aload_n 0, 1) := by decide +kernel
theorem dX2_backOn_26 : decode cX2_backOn 26 = .ok (.getfield 11, 3) := by decide +kernel
theorem dX2_backOn_29 : decode cX2_backOn 29 = .ok (.iload_n 3, 1) := by decide +kernel
theorem dX2_backOn_30 : decode cX2_backOn 30 = .ok (.aaload, 1) := by decide +kernel
theorem dX2_backOn_31 : decode cX2_backOn 31 = .ok (.astore_n 2, 1) := by decide +kernel
theorem dX2_backOn_32 : decode cX2_backOn 32 = .ok (.iinc 3 1, 3) := by decide +kernel
theorem dX2_backOn_35 : decode cX2_backOn 35 = .ok (.goto (-31), 3) := by decide +kernel
theorem dX2_backOn_38 : decode cX2_backOn 38 = .ok (.aload_n 2, 1) := by decide +kernel
theorem dX2_backOn_39 : decode cX2_backOn 39 = .ok (.areturn, 1) := by decide +kernel
set_option maxRecDepth 20000 in
theorem ggX2_mixInto_X7_mix : GoodIn wsX2_mixInto wsX7_mix := goodIn_r _ [5, 6] (by decide +kernel) (by decide +kernel)
set_option maxRecDepth 20000 in
theorem gX2_mixInto_X7_mix_n24 : GoodIn wsX2_mixInto (wsX7_mix) := ggX2_mixInto_X7_mix
set_option maxRecDepth 20000 in
theorem ggX2_mixInto_X7_mixAll : GoodIn wsX2_mixInto wsX7_mixAll := goodIn_r _ [8, 9, 3, 4, 5, 6] (by decide +kernel) (by decide +kernel)
set_option maxRecDepth 20000 in
theorem gX2_mixInto_X7_mixAll_n32 : GoodIn wsX2_mixInto (wsX7_mixAll) := ggX2_mixInto_X7_mixAll
theorem dX2_mixInto_0 : decode cX2_mixInto 0 = .ok (.lload_n 1, 1) := by decide +kernel
theorem dX2_mixInto_1 : decode cX2_mixInto 1 = .ok (.aload_n 0, 1) := by decide +kernel
theorem dX2_mixInto_2 : decode cX2_mixInto 2 = .ok (.getfield 17, 3) := by decide +kernel
theorem dX2_mixInto_5 : decode cX2_mixInto 5 = .ok (.i2l, 1) := by decide +kernel
theorem dX2_mixInto_6 : decode cX2_mixInto 6 = .ok (.invokestatic 24, 3) := by decide +kernel
theorem dX2_mixInto_9 : decode cX2_mixInto 9 = .ok (.lstore_n 3, 1) := by decide +kernel
theorem dX2_mixInto_10 : decode cX2_mixInto 10 = .ok (.iconst 0, 1) := by decide +kernel
theorem dX2_mixInto_11 : decode cX2_mixInto 11 = .ok (.istore 5, 2) := by decide +kernel
theorem dX2_mixInto_13 : decode cX2_mixInto 13 = .ok (.iload 5, 2) := by decide +kernel
theorem dX2_mixInto_15 : decode cX2_mixInto 15 = .ok (.aload_n 0, 1) := by decide +kernel
theorem dX2_mixInto_16 : decode cX2_mixInto 16 = .ok (.getfield 17, 3) := by decide +kernel
theorem dX2_mixInto_19 : decode cX2_mixInto 19 = .ok (.if_icmp .ge 40, 3) := by decide +kernel
theorem dX2_mixInto_22 : decode cX2_mixInto 22 = .ok (.lload_n 3, 1) := by decide +kernel
theorem dX2_mixInto_23 : decode cX2_mixInto 23 = .ok (.aload_n 0, 1) := by decide +kernel
theorem dX2_mixInto_24 : decode cX2_mixInto 24 = .ok (.getfield 11, 3) := by decide +kernel
theorem dX2_mixInto_27 : decode cX2_mixInto 27 = .ok (.iload 5, 2) := by decide +kernel
theorem dX2_mixInto_29 : decode cX2_mixInto 29 = .ok (.aaload, 1) := by decide +kernel
theorem dX2_mixInto_30 : decode cX2_mixInto 30 = .ok (.getfield 21, 3) := by decide +kernel
theorem dX2_mixInto_33 : decode cX2_mixInto 33 = .ok (.i2l, 1) := by decide +kernel
theorem dX2_mixInto_34 : decode cX2_mixInto 34 = .ok (.invokestatic 24, 3) := by decide +kernel
theorem dX2_mixInto_37 : decode cX2_mixInto 37 = .ok (.aload_n 0, 1) := by decide +kernel
theorem dX2_mixInto_38 : decode cX2_mixInto 38 = .ok (.getfield 11, 3) := by decide +kernel
theorem dX2_mixInto_41 : decode cX2_mixInto 41 = .ok (.iload 5, 2) := by decide +kernel
theorem dX2_mixInto_43 : decode cX2_mixInto 43 = .ok (.aaload, 1) := by decide +kernel
theorem dX2_mixInto_44 : decode cX2_mixInto 44 = .ok (.getfield 28, 3) := by decide +kernel
theorem dX2_mixInto_47 : decode cX2_mixInto 47 = .ok (.bipush 9, 2) := by decide +kernel
theorem dX2_mixInto_49 : decode cX2_mixInto 49 = .ok (.invokestatic 32, 3) := by decide +kernel
theorem dX2_mixInto_52 : decode cX2_mixInto 52 = .ok (.lstore_n 3, 1) := by decide +kernel
theorem dX2_mixInto_53 : decode cX2_mixInto 53 = .ok (.iinc 5 1, 3) := by decide +kernel
theorem dX2_mixInto_56 : decode cX2_mixInto 56 = .ok (.goto (-43), 3) := by decide +kernel
theorem dX2_mixInto_59 : decode cX2_mixInto 59 = .ok (.lload_n 3, 1) := by decide +kernel
theorem dX2_mixInto_60 : decode cX2_mixInto 60 = .ok (.lreturn, 1) := by decide +kernel
set_option maxRecDepth 20000 in
theorem ggX3_init_X3_nextMeasured : GoodIn wsX3_init wsX3_nextMeasured := goodIn_r _ [10] (by decide +kernel) (by decide +kernel)
set_option maxRecDepth 20000 in
theorem gX3_init_X3_nextMeasured : GoodIn wsX3_init (va_wsS RX3 19 yX3_nextMeasured wsX3_nextMeasured) := goodIn_app (goodIn_of _ (by decide +kernel)) ggX3_init_X3_nextMeasured
set_option maxRecDepth 20000 in
theorem ggX3_init_X3_heightBetween : GoodIn wsX3_init wsX3_heightBetween := goodIn_r _ [13, 14, 15, 16, 17] (by decide +kernel) (by decide +kernel)
set_option maxRecDepth 20000 in
theorem gX3_init_X3_heightBetween : GoodIn wsX3_init (va_wsS RX3 23 yX3_heightBetween wsX3_heightBetween) := goodIn_app (goodIn_of _ (by decide +kernel)) ggX3_init_X3_heightBetween
theorem dX3_init_0 : decode cX3_init 0 = .ok (.aload_n 0, 1) := by decide +kernel
theorem dX3_init_1 : decode cX3_init 1 = .ok (.invokespecial 3, 3) := by decide +kernel
theorem dX3_init_4 : decode cX3_init 4 = .ok (.aload_n 0, 1) := by decide +kernel
theorem dX3_init_5 : decode cX3_init 5 = .ok (.bipush 9, 2) := by decide +kernel
theorem dX3_init_7 : decode cX3_init 7 = .ok (.newarray .int, 2) := by decide +kernel
theorem dX3_init_9 : decode cX3_init 9 = .ok (.putfield 9, 3) := by decide +kernel
theorem dX3_init_12 : decode cX3_init 12 = .ok (.aload_n 0, 1) := by decide +kernel
theorem dX3_init_13 : decode cX3_init 13 = .ok (.iload_n 1, 1) := by decide +kernel
theorem dX3_init_14 : decode cX3_init 14 = .ok (.putfield 15, 3) := by decide +kernel
theorem dX3_init_17 : decode cX3_init 17 = .ok (.iconst 0, 1) := by decide +kernel
theorem dX3_init_18 : decode cX3_init 18 = .ok (.istore_n 3, 1) := by decide +kernel
theorem dX3_init_19 : decode cX3_init 19 = .ok (.iconst 0, 1) := by decide +kernel
theorem dX3_init_20 : decode cX3_init 20 = .ok (.istore 4, 2) := by decide +kernel
theorem dX3_init_22 : decode cX3_init 22 = .ok (.iload 4, 2) := by decide +kernel
theorem dX3_init_24 : decode cX3_init 24 = .ok (.bipush 9, 2) := by decide +kernel
theorem dX3_init_26 : decode cX3_init 26 = .ok (.if_icmp .ge 40, 3) := by decide +kernel
theorem dX3_init_29 : decode cX3_init 29 = .ok (.aload_n 2, 1) := by decide +kernel
theorem dX3_init_30 : decode cX3_init 30 = .ok (.iload 4, 2) := by decide +kernel
theorem dX3_init_32 : decode cX3_init 32 = .ok (.iaload, 1) := by decide +kernel
theorem dX3_init_33 : decode cX3_init 33 = .ok (.iconst (-1), 1) := by decide +kernel
theorem dX3_init_34 : decode cX3_init 34 = .ok (.if_icmp .eq 6, 3) := by decide +kernel
theorem dX3_init_37 : decode cX3_init 37 = .ok (.iload 4, 2) := by decide +kernel
theorem dX3_init_39 : decode cX3_init 39 = .ok (.istore_n 3, 1) := by decide +kernel
theorem dX3_init_40 : decode cX3_init 40 = .ok (.aload_n 0, 1) := by decide +kernel
theorem dX3_init_41 : decode cX3_init 41 = .ok (.getfield 9, 3) := by decide +kernel
theorem dX3_init_44 : decode cX3_init 44 = .ok (.iload 4, 2) := by decide +kernel
theorem dX3_init_46 : decode cX3_init 46 = .ok (.aload_n 2, 1) := by decide +kernel
theorem dX3_init_47 : decode cX3_init 47 = .ok (.iload_n 3, 1) := by decide +kernel
theorem dX3_init_48 : decode cX3_init 48 = .ok (.iload 4, 2) := by decide +kernel
theorem dX3_init_50 : decode cX3_init 50 = .ok (.aload_n 2, 1) := by decide +kernel
theorem dX3_init_51 : decode cX3_init 51 = .ok (.iload 4, 2) := by decide +kernel
theorem dX3_init_53 : decode cX3_init 53 = .ok (.invokestatic 19, 3) := by decide +kernel
theorem dX3_init_56 : decode cX3_init 56 = .ok (.invokestatic 23, 3) := by decide +kernel
theorem dX3_init_59 : decode cX3_init 59 = .ok (.iastore, 1) := by decide +kernel
theorem dX3_init_60 : decode cX3_init 60 = .ok (.iinc 4 1, 3) := by decide +kernel
theorem dX3_init_63 : decode cX3_init 63 = .ok (.goto (-41), 3) := by decide +kernel
theorem dX3_init_66 : decode cX3_init 66 = .ok (.return_, 1) := by decide +kernel
theorem dX3_nextMeasured_0 : decode cX3_nextMeasured 0 = .ok (.iload_n 1, 1) := by decide +kernel
theorem dX3_nextMeasured_1 : decode cX3_nextMeasured 1 = .ok (.istore_n 2, 1) := by decide +kernel
theorem dX3_nextMeasured_2 : decode cX3_nextMeasured 2 = .ok (.iload_n 2, 1) := by decide +kernel
theorem dX3_nextMeasured_3 : decode cX3_nextMeasured 3 = .ok (.bipush 9, 2) := by decide +kernel
theorem dX3_nextMeasured_5 : decode cX3_nextMeasured 5 = .ok (.if_icmp .ge 18, 3) := by decide +kernel
theorem dX3_nextMeasured_8 : decode cX3_nextMeasured 8 = .ok (.aload_n 0, 1) := by decide +kernel
theorem dX3_nextMeasured_9 : decode cX3_nextMeasured 9 = .ok (.iload_n 2, 1) := by decide +kernel
theorem dX3_nextMeasured_10 : decode cX3_nextMeasured 10 = .ok (.iaload, 1) := by decide +kernel
theorem dX3_nextMeasured_11 : decode cX3_nextMeasured 11 = .ok (.iconst (-1), 1) := by decide +kernel
theorem dX3_nextMeasured_12 : decode cX3_nextMeasured 12 = .ok (.if_icmp .eq 5, 3) := by decide +kernel
theorem dX3_nextMeasured_15 : decode cX3_nextMeasured 15 = .ok (.iload_n 2, 1) := by decide +kernel
theorem dX3_nextMeasured_16 : decode cX3_nextMeasured 16 = .ok (.ireturn, 1) := by decide +kernel
theorem dX3_nextMeasured_17 : decode cX3_nextMeasured 17 = .ok (.iinc 2 1, 3) := by decide +kernel
theorem dX3_nextMeasured_20 : decode cX3_nextMeasured 20 = .ok (.goto (-18), 3) := by decide +kernel
theorem dX3_nextMeasured_23 : decode cX3_nextMeasured 23 = .ok (.bipush 8, 2) := by decide +kernel
theorem dX3_nextMeasured_25 : decode cX3_nextMeasured 25 = .ok (.ireturn, 1) := by decide +kernel
set_option maxRecDepth 20000 in
theorem ggX3_heightBetween_J9_floorDiv_7cf53 : GoodIn wsX3_heightBetween wsJ9_floorDiv_7cf53 := goodIn_r _ [4] (by decide +kernel) (by decide +kernel)
set_option maxRecDepth 20000 in
theorem gX3_heightBetween_J9_floorDiv_7cf53 : GoodIn wsX3_heightBetween (va_wsS RX3 27 yJ9_floorDiv_7cf53 wsJ9_floorDiv_7cf53) := goodIn_app (goodIn_of _ (by decide +kernel)) ggX3_heightBetween_J9_floorDiv_7cf53
theorem dX3_heightBetween_0 : decode cX3_heightBetween 0 = .ok (.iload_n 3, 1) := by decide +kernel
theorem dX3_heightBetween_1 : decode cX3_heightBetween 1 = .ok (.iload_n 1, 1) := by decide +kernel
theorem dX3_heightBetween_2 : decode cX3_heightBetween 2 = .ok (.if_icmp .gt 7, 3) := by decide +kernel
theorem dX3_heightBetween_5 : decode cX3_heightBetween 5 = .ok (.aload_n 0, 1) := by decide +kernel
theorem dX3_heightBetween_6 : decode cX3_heightBetween 6 = .ok (.iload_n 1, 1) := by decide +kernel
theorem dX3_heightBetween_7 : decode cX3_heightBetween 7 = .ok (.iaload, 1) := by decide +kernel
theorem dX3_heightBetween_8 : decode cX3_heightBetween 8 = .ok (.ireturn, 1) := by decide +kernel
theorem dX3_heightBetween_9 : decode cX3_heightBetween 9 = .ok (.aload_n 0, 1) := by decide +kernel
theorem dX3_heightBetween_10 : decode cX3_heightBetween 10 = .ok (.iload_n 3, 1) := by decide +kernel
theorem dX3_heightBetween_11 : decode cX3_heightBetween 11 = .ok (.iaload, 1) := by decide +kernel
theorem dX3_heightBetween_12 : decode cX3_heightBetween 12 = .ok (.aload_n 0, 1) := by decide +kernel
theorem dX3_heightBetween_13 : decode cX3_heightBetween 13 = .ok (.iload_n 1, 1) := by decide +kernel
theorem dX3_heightBetween_14 : decode cX3_heightBetween 14 = .ok (.iaload, 1) := by decide +kernel
theorem dX3_heightBetween_15 : decode cX3_heightBetween 15 = .ok (.isub, 1) := by decide +kernel
theorem dX3_heightBetween_16 : decode cX3_heightBetween 16 = .ok (.istore 4, 2) := by decide +kernel
theorem dX3_heightBetween_18 : decode cX3_heightBetween 18 = .ok (.aload_n 0, 1) := by decide +kernel
theorem dX3_heightBetween_19 : decode cX3_heightBetween 19 = .ok (.iload_n 1, 1) := by decide +kernel
theorem dX3_heightBetween_20 : decode cX3_heightBetween 20 = .ok (.iaload, 1) := by decide +kernel
theorem dX3_heightBetween_21 : decode cX3_heightBetween 21 = .ok (.iload 4, 2) := by decide +kernel
theorem dX3_heightBetween_23 : decode cX3_heightBetween 23 = .ok (.iload_n 2, 1) := by decide +kernel
theorem dX3_heightBetween_24 : decode cX3_heightBetween 24 = .ok (.iload_n 1, 1) := by decide +kernel
theorem dX3_heightBetween_25 : decode cX3_heightBetween 25 = .ok (.isub, 1) := by decide +kernel
theorem dX3_heightBetween_26 : decode cX3_heightBetween 26 = .ok (.imul, 1) := by decide +kernel
theorem dX3_heightBetween_27 : decode cX3_heightBetween 27 = .ok (.iload_n 3, 1) := by decide +kernel
theorem dX3_heightBetween_28 : decode cX3_heightBetween 28 = .ok (.iload_n 1, 1) := by decide +kernel
theorem dX3_heightBetween_29 : decode cX3_heightBetween 29 = .ok (.isub, 1) := by decide +kernel
theorem dX3_heightBetween_30 : decode cX3_heightBetween 30 = .ok (.invokestatic 27, 3) := by decide +kernel
theorem dX3_heightBetween_33 : decode cX3_heightBetween 33 = .ok (.iadd, 1) := by decide +kernel
theorem dX3_heightBetween_34 : decode cX3_heightBetween 34 = .ok (.ireturn, 1) := by decide +kernel
theorem dX4_init_0 : decode cX4_init 0 = .ok (.aload_n 0, 1) := by decide +kernel
theorem dX4_init_1 : decode cX4_init 1 = .ok (.invokespecial 1, 3) := by decide +kernel
theorem dX4_init_4 : decode cX4_init 4 = .ok (.aload_n 0, 1) := by decide +kernel
theorem dX4_init_5 : decode cX4_init 5 = .ok (.iload_n 1, 1) := by decide +kernel
theorem dX4_init_6 : decode cX4_init 6 = .ok (.putfield 7, 3) := by decide +kernel
theorem dX4_init_9 : decode cX4_init 9 = .ok (.aload_n 0, 1) := by decide +kernel
theorem dX4_init_10 : decode cX4_init 10 = .ok (.iload_n 2, 1) := by decide +kernel
theorem dX4_init_11 : decode cX4_init 11 = .ok (.putfield 13, 3) := by decide +kernel
theorem dX4_init_14 : decode cX4_init 14 = .ok (.aload_n 0, 1) := by decide +kernel
theorem dX4_init_15 : decode cX4_init 15 = .ok (.iload_n 3, 1) := by decide +kernel
theorem dX4_init_16 : decode cX4_init 16 = .ok (.putfield 16, 3) := by decide +kernel
theorem dX4_init_19 : decode cX4_init 19 = .ok (.aload_n 0, 1) := by decide +kernel
theorem dX4_init_20 : decode cX4_init 20 = .ok (.iload 4, 2) := by decide +kernel
theorem dX4_init_22 : decode cX4_init 22 = .ok (.putfield 19, 3) := by decide +kernel
theorem dX4_init_25 : decode cX4_init 25 = .ok (.aload_n 0, 1) := by decide +kernel
theorem dX4_init_26 : decode cX4_init 26 = .ok (.iload 5, 2) := by decide +kernel
theorem dX4_init_28 : decode cX4_init 28 = .ok (.putfield 22, 3) := by decide +kernel
theorem dX4_init_31 : decode cX4_init 31 = .ok (.return_, 1) := by decide +kernel
set_option maxRecDepth 20000 in
theorem ggX4_mixInto_X7_mix : GoodIn wsX4_mixInto wsX7_mix := goodIn_r _ [8, 9] (by decide +kernel) (by decide +kernel)
set_option maxRecDepth 20000 in
theorem gX4_mixInto_X7_mix_n25 : GoodIn wsX4_mixInto (wsX7_mix) := ggX4_mixInto_X7_mix
theorem dX4_mixInto_0 : decode cX4_mixInto 0 = .ok (.lload_n 1, 1) := by decide +kernel
theorem dX4_mixInto_1 : decode cX4_mixInto 1 = .ok (.aload_n 0, 1) := by decide +kernel
theorem dX4_mixInto_2 : decode cX4_mixInto 2 = .ok (.getfield 7, 3) := by decide +kernel
theorem dX4_mixInto_5 : decode cX4_mixInto 5 = .ok (.i2l, 1) := by decide +kernel
theorem dX4_mixInto_6 : decode cX4_mixInto 6 = .ok (.invokestatic 25, 3) := by decide +kernel
theorem dX4_mixInto_9 : decode cX4_mixInto 9 = .ok (.aload_n 0, 1) := by decide +kernel
theorem dX4_mixInto_10 : decode cX4_mixInto 10 = .ok (.getfield 13, 3) := by decide +kernel
theorem dX4_mixInto_13 : decode cX4_mixInto 13 = .ok (.i2l, 1) := by decide +kernel
theorem dX4_mixInto_14 : decode cX4_mixInto 14 = .ok (.invokestatic 25, 3) := by decide +kernel
theorem dX4_mixInto_17 : decode cX4_mixInto 17 = .ok (.aload_n 0, 1) := by decide +kernel
theorem dX4_mixInto_18 : decode cX4_mixInto 18 = .ok (.getfield 16, 3) := by decide +kernel
theorem dX4_mixInto_21 : decode cX4_mixInto 21 = .ok (.i2l, 1) := by decide +kernel
theorem dX4_mixInto_22 : decode cX4_mixInto 22 = .ok (.invokestatic 25, 3) := by decide +kernel
theorem dX4_mixInto_25 : decode cX4_mixInto 25 = .ok (.aload_n 0, 1) := by decide +kernel
theorem dX4_mixInto_26 : decode cX4_mixInto 26 = .ok (.getfield 19, 3) := by decide +kernel
theorem dX4_mixInto_29 : decode cX4_mixInto 29 = .ok (.i2l, 1) := by decide +kernel
theorem dX4_mixInto_30 : decode cX4_mixInto 30 = .ok (.invokestatic 25, 3) := by decide +kernel
theorem dX4_mixInto_33 : decode cX4_mixInto 33 = .ok (.aload_n 0, 1) := by decide +kernel
theorem dX4_mixInto_34 : decode cX4_mixInto 34 = .ok (.getfield 22, 3) := by decide +kernel
theorem dX4_mixInto_37 : decode cX4_mixInto 37 = .ok (.i2l, 1) := by decide +kernel
theorem dX4_mixInto_38 : decode cX4_mixInto 38 = .ok (.invokestatic 25, 3) := by decide +kernel
theorem dX4_mixInto_41 : decode cX4_mixInto 41 = .ok (.lreturn, 1) := by decide +kernel
theorem dX5_init_0 : decode cX5_init 0 = .ok (.aload_n 0, 1) := by decide +kernel
theorem dX5_init_1 : decode cX5_init 1 = .ok (.invokespecial 3, 3) := by decide +kernel
theorem dX5_init_4 : decode cX5_init 4 = .ok (.aload_n 0, 1) := by decide +kernel
theorem dX5_init_5 : decode cX5_init 5 = .ok (.bipush 9, 2) := by decide +kernel
theorem dX5_init_7 : decode cX5_init 7 = .ok (.newarray .int, 2) := by decide +kernel
theorem dX5_init_9 : decode cX5_init 9 = .ok (.putfield 9, 3) := by decide +kernel
theorem dX5_init_12 : decode cX5_init 12 = .ok (.aload_n 0, 1) := by decide +kernel
theorem dX5_init_13 : decode cX5_init 13 = .ok (.bipush 9, 2) := by decide +kernel
theorem dX5_init_15 : decode cX5_init 15 = .ok (.newarray .int, 2) := by decide +kernel
theorem dX5_init_17 : decode cX5_init 17 = .ok (.putfield 15, 3) := by decide +kernel
theorem dX5_init_20 : decode cX5_init 20 = .ok (.return_, 1) := by decide +kernel
set_option maxRecDepth 20000 in
theorem ggX5_settle_X5_takeGaps : GoodIn wsX5_settle wsX5_takeGaps := goodIn_r _ [11, 2, 12, 13, 5, 14, 15, 16, 17, 18, 19, 20, 33, 34, 35, 36, 37, 38] (by decide +kernel) (by decide +kernel)
set_option maxRecDepth 20000 in
theorem gX5_settle_X5_takeGaps : GoodIn wsX5_settle (wsV RX5 18 RX5 yX5_takeGaps wsX5_takeGaps) := goodIn_app (goodIn_of _ (by decide +kernel)) ggX5_settle_X5_takeGaps
set_option maxRecDepth 20000 in
theorem ggX5_settle_X5_depthFor : GoodIn wsX5_settle wsX5_depthFor := goodIn_r _ [24, 25, 26, 27, 10, 28, 2, 3, 4, 5, 6, 33, 34] (by decide +kernel) (by decide +kernel)
set_option maxRecDepth 20000 in
theorem gX5_settle_X5_depthFor : GoodIn wsX5_settle (wsV RX5 22 RX5 yX5_depthFor wsX5_depthFor) := goodIn_app (goodIn_of _ (by decide +kernel)) ggX5_settle_X5_depthFor
set_option maxRecDepth 20000 in
theorem ggX5_settle_X5_borneAt : GoodIn wsX5_settle wsX5_borneAt := goodIn_r _ [28, 2, 3, 4, 5, 6, 33, 34] (by decide +kernel) (by decide +kernel)
set_option maxRecDepth 20000 in
theorem gX5_settle_X5_borneAt : GoodIn wsX5_settle (wsV RX5 32 RX5 yX5_borneAt wsX5_borneAt) := goodIn_app (goodIn_of _ (by decide +kernel)) ggX5_settle_X5_borneAt
set_option maxRecDepth 20000 in
theorem ggX5_settle_X5_firstOfMost : GoodIn wsX5_settle wsX5_firstOfMost := goodIn_r _ [32, 1, 33, 34] (by decide +kernel) (by decide +kernel)
set_option maxRecDepth 20000 in
theorem gX5_settle_X5_firstOfMost : GoodIn wsX5_settle (wsV RX5 35 RX5 yX5_firstOfMost wsX5_firstOfMost) := goodIn_app (goodIn_of _ (by decide +kernel)) ggX5_settle_X5_firstOfMost
theorem dX5_settle_0 : decode cX5_settle 0 = .ok (.aload_n 0, 1) := by decide +kernel
theorem dX5_settle_1 : decode cX5_settle 1 = .ok (.aload_n 1, 1) := by decide +kernel
theorem dX5_settle_2 : decode cX5_settle 2 = .ok (.aload_n 2, 1) := by decide +kernel
theorem dX5_settle_3 : decode cX5_settle 3 = .ok (.invokevirtual 18, 3) := by decide +kernel
theorem dX5_settle_6 : decode cX5_settle 6 = .ok (.aload_n 0, 1) := by decide +kernel
theorem dX5_settle_7 : decode cX5_settle 7 = .ok (.iload_n 3, 1) := by decide +kernel
theorem dX5_settle_8 : decode cX5_settle 8 = .ok (.invokevirtual 22, 3) := by decide +kernel
theorem dX5_settle_11 : decode cX5_settle 11 = .ok (.istore 4, 2) := by decide +kernel
theorem dX5_settle_13 : decode cX5_settle 13 = .ok (.iconst 0, 1) := by decide +kernel
theorem dX5_settle_14 : decode cX5_settle 14 = .ok (.istore 5, 2) := by decide +kernel
theorem dX5_settle_16 : decode cX5_settle 16 = .ok (.iload 5, 2) := by decide +kernel
theorem dX5_settle_18 : decode cX5_settle 18 = .ok (.bipush 9, 2) := by decide +kernel
theorem dX5_settle_20 : decode cX5_settle 20 = .ok (.if_icmp .ge 30, 3) := by decide +kernel
theorem dX5_settle_23 : decode cX5_settle 23 = .ok (.aload_n 0, 1) := by decide +kernel
theorem dX5_settle_24 : decode cX5_settle 24 = .ok (.getfield 15, 3) := by decide +kernel
theorem dX5_settle_27 : decode cX5_settle 27 = .ok (.iload 5, 2) := by decide +kernel
theorem dX5_settle_29 : decode cX5_settle 29 = .ok (.iconst 0, 1) := by decide +kernel
theorem dX5_settle_30 : decode cX5_settle 30 = .ok (.iload 4, 2) := by decide +kernel
theorem dX5_settle_32 : decode cX5_settle 32 = .ok (.aload_n 0, 1) := by decide +kernel
theorem dX5_settle_33 : decode cX5_settle 33 = .ok (.getfield 9, 3) := by decide +kernel
theorem dX5_settle_36 : decode cX5_settle 36 = .ok (.iload 5, 2) := by decide +kernel
theorem dX5_settle_38 : decode cX5_settle 38 = .ok (.iaload, 1) := by decide +kernel
theorem dX5_settle_39 : decode cX5_settle 39 = .ok (.isub, 1) := by decide +kernel
theorem dX5_settle_40 : decode cX5_settle 40 = .ok (.invokestatic 26, 3) := by decide +kernel
theorem dX5_settle_43 : decode cX5_settle 43 = .ok (.iastore, 1) := by decide +kernel
theorem dX5_settle_44 : decode cX5_settle 44 = .ok (.iinc 5 1, 3) := by decide +kernel
theorem dX5_settle_47 : decode cX5_settle 47 = .ok (.goto (-31), 3) := by decide +kernel
theorem dX5_settle_50 : decode cX5_settle 50 = .ok (.aload_n 0, 1) := by decide +kernel
theorem dX5_settle_51 : decode cX5_settle 51 = .ok (.iload 4, 2) := by decide +kernel
theorem dX5_settle_53 : decode cX5_settle 53 = .ok (.invokevirtual 32, 3) := by decide +kernel
theorem dX5_settle_56 : decode cX5_settle 56 = .ok (.iload_n 3, 1) := by decide +kernel
theorem dX5_settle_57 : decode cX5_settle 57 = .ok (.isub, 1) := by decide +kernel
theorem dX5_settle_58 : decode cX5_settle 58 = .ok (.istore 5, 2) := by decide +kernel
theorem dX5_settle_60 : decode cX5_settle 60 = .ok (.iload 5, 2) := by decide +kernel
theorem dX5_settle_62 : decode cX5_settle 62 = .ok (.ifCond .le 22, 3) := by decide +kernel
theorem dX5_settle_65 : decode cX5_settle 65 = .ok (.aload_n 0, 1) := by decide +kernel
theorem dX5_settle_66 : decode cX5_settle 66 = .ok (.getfield 15, 3) := by decide +kernel
theorem dX5_settle_69 : decode cX5_settle 69 = .ok (.aload_n 0, 1) := by decide +kernel
theorem dX5_settle_70 : decode cX5_settle 70 = .ok (.invokevirtual 35, 3) := by decide +kernel
theorem dX5_settle_73 : decode cX5_settle 73 = .ok (.dup2, 1) := by decide +kernel
theorem dX5_settle_74 : decode cX5_settle 74 = .ok (.iaload, 1) := by decide +kernel
theorem dX5_settle_75 : decode cX5_settle 75 = .ok (.iconst 1, 1) := by decide +kernel
theorem dX5_settle_76 : decode cX5_settle 76 = .ok (.isub, 1) := by decide +kernel
theorem dX5_settle_77 : decode cX5_settle 77 = .ok (.iastore, 1) := by decide +kernel
theorem dX5_settle_78 : decode cX5_settle 78 = .ok (.iinc 5 (-1), 3) := by decide +kernel
theorem dX5_settle_81 : decode cX5_settle 81 = .ok (.goto (-21), 3) := by decide +kernel
theorem dX5_settle_84 : decode cX5_settle 84 = .ok (.return_, 1) := by decide +kernel
set_option maxRecDepth 20000 in
theorem ggX5_takeGaps_X6_undersideAt : GoodIn wsX5_takeGaps wsX6_undersideAt := goodIn_r _ [9, 10, 11, 16, 17] (by decide +kernel) (by decide +kernel)
set_option maxRecDepth 20000 in
theorem gX5_takeGaps_X6_undersideAt_n39 : GoodIn wsX5_takeGaps (wsX6_undersideAt) := ggX5_takeGaps_X6_undersideAt
theorem dX5_takeGaps_0 : decode cX5_takeGaps 0 = .ok (.iconst 0, 1) := by decide +kernel
theorem dX5_takeGaps_1 : decode cX5_takeGaps 1 = .ok (.istore_n 3, 1) := by decide +kernel
theorem dX5_takeGaps_2 : decode cX5_takeGaps 2 = .ok (.iload_n 3, 1) := by decide +kernel
theorem dX5_takeGaps_3 : decode cX5_takeGaps 3 = .ok (.bipush 9, 2) := by decide +kernel
theorem dX5_takeGaps_5 : decode cX5_takeGaps 5 = .ok (.if_icmp .ge 27, 3) := by decide +kernel
theorem dX5_takeGaps_8 : decode cX5_takeGaps 8 = .ok (.aload_n 0, 1) := by decide +kernel
theorem dX5_takeGaps_9 : decode cX5_takeGaps 9 = .ok (.getfield 9, 3) := by decide +kernel
theorem dX5_takeGaps_12 : decode cX5_takeGaps 12 = .ok (.iload_n 3, 1) := by decide +kernel
theorem dX5_takeGaps_13 : decode cX5_takeGaps 13 = .ok (.aload_n 1, 1) := by decide +kernel
theorem dX5_takeGaps_14 : decode cX5_takeGaps 14 = .ok (.iload_n 3, 1) := by decide +kernel
theorem dX5_takeGaps_15 : decode cX5_takeGaps 15 = .ok (.invokevirtual 39, 3) := by decide +kernel
theorem dX5_takeGaps_18 : decode cX5_takeGaps 18 = .ok (.aload_n 2, 1) := by decide +kernel
theorem dX5_takeGaps_19 : decode cX5_takeGaps 19 = .ok (.getfield 44, 3) := by decide +kernel
theorem dX5_takeGaps_22 : decode cX5_takeGaps 22 = .ok (.iload_n 3, 1) := by decide +kernel
theorem dX5_takeGaps_23 : decode cX5_takeGaps 23 = .ok (.iaload, 1) := by decide +kernel
theorem dX5_takeGaps_24 : decode cX5_takeGaps 24 = .ok (.isub, 1) := by decide +kernel
theorem dX5_takeGaps_25 : decode cX5_takeGaps 25 = .ok (.iastore, 1) := by decide +kernel
theorem dX5_takeGaps_26 : decode cX5_takeGaps 26 = .ok (.iinc 3 1, 3) := by decide +kernel
theorem dX5_takeGaps_29 : decode cX5_takeGaps 29 = .ok (.goto (-27), 3) := by decide +kernel
theorem dX5_takeGaps_32 : decode cX5_takeGaps 32 = .ok (.aload_n 0, 1) := by decide +kernel
theorem dX5_takeGaps_33 : decode cX5_takeGaps 33 = .ok (.getfield 9, 3) := by decide +kernel
theorem dX5_takeGaps_36 : decode cX5_takeGaps 36 = .ok (.iconst 0, 1) := by decide +kernel
theorem dX5_takeGaps_37 : decode cX5_takeGaps 37 = .ok (.iaload, 1) := by decide +kernel
theorem dX5_takeGaps_38 : decode cX5_takeGaps 38 = .ok (.istore_n 3, 1) := by decide +kernel
theorem dX5_takeGaps_39 : decode cX5_takeGaps 39 = .ok (.iconst 1, 1) := by decide +kernel
theorem dX5_takeGaps_40 : decode cX5_takeGaps 40 = .ok (.istore 4, 2) := by decide +kernel
theorem dX5_takeGaps_42 : decode cX5_takeGaps 42 = .ok (.iload 4, 2) := by decide +kernel
theorem dX5_takeGaps_44 : decode cX5_takeGaps 44 = .ok (.bipush 9, 2) := by decide +kernel
theorem dX5_takeGaps_46 : decode cX5_takeGaps 46 = .ok (.if_icmp .ge 21, 3) := by decide +kernel
theorem dX5_takeGaps_49 : decode cX5_takeGaps 49 = .ok (.iload_n 3, 1) := by decide +kernel
theorem dX5_takeGaps_50 : decode cX5_takeGaps 50 = .ok (.aload_n 0, 1) := by decide +kernel
theorem dX5_takeGaps_51 : decode cX5_takeGaps 51 = .ok (.getfield 9, 3) := by decide +kernel
theorem dX5_takeGaps_54 : decode cX5_takeGaps 54 = .ok (.iload 4, 2) := by decide +kernel
theorem dX5_takeGaps_56 : decode cX5_takeGaps 56 = .ok (.iaload, 1) := by decide +kernel
theorem dX5_takeGaps_57 : decode cX5_takeGaps 57 = .ok (.invokestatic 49, 3) := by decide +kernel
theorem dX5_takeGaps_60 : decode cX5_takeGaps 60 = .ok (.istore_n 3, 1) := by decide +kernel
theorem dX5_takeGaps_61 : decode cX5_takeGaps 61 = .ok (.iinc 4 1, 3) := by decide +kernel
theorem dX5_takeGaps_64 : decode cX5_takeGaps 64 = .ok (.goto (-22), 3) := by decide +kernel
theorem dX5_takeGaps_67 : decode cX5_takeGaps 67 = .ok (.iconst 0, 1) := by decide +kernel
theorem dX5_takeGaps_68 : decode cX5_takeGaps 68 = .ok (.istore 4, 2) := by decide +kernel
theorem dX5_takeGaps_70 : decode cX5_takeGaps 70 = .ok (.iload 4, 2) := by decide +kernel
theorem dX5_takeGaps_72 : decode cX5_takeGaps 72 = .ok (.bipush 9, 2) := by decide +kernel
theorem dX5_takeGaps_74 : decode cX5_takeGaps 74 = .ok (.if_icmp .ge 20, 3) := by decide +kernel
theorem dX5_takeGaps_77 : decode cX5_takeGaps 77 = .ok (.aload_n 0, 1) := by decide +kernel
theorem dX5_takeGaps_78 : decode cX5_takeGaps 78 = .ok (.getfield 9, 3) := by decide +kernel
theorem dX5_takeGaps_81 : decode cX5_takeGaps 81 = .ok (.iload 4, 2) := by decide +kernel
theorem dX5_takeGaps_83 : decode cX5_takeGaps 83 = .ok (.dup2, 1) := by decide +kernel
theorem dX5_takeGaps_84 : decode cX5_takeGaps 84 = .ok (.iaload, 1) := by decide +kernel
theorem dX5_takeGaps_85 : decode cX5_takeGaps 85 = .ok (.iload_n 3, 1) := by decide +kernel
theorem dX5_takeGaps_86 : decode cX5_takeGaps 86 = .ok (.isub, 1) := by decide +kernel
theorem dX5_takeGaps_87 : decode cX5_takeGaps 87 = .ok (.iastore, 1) := by decide +kernel
theorem dX5_takeGaps_88 : decode cX5_takeGaps 88 = .ok (.iinc 4 1, 3) := by decide +kernel
theorem dX5_takeGaps_91 : decode cX5_takeGaps 91 = .ok (.goto (-21), 3) := by decide +kernel
theorem dX5_takeGaps_94 : decode cX5_takeGaps 94 = .ok (.return_, 1) := by decide +kernel
theorem dX5_borneAt_0 : decode cX5_borneAt 0 = .ok (.iconst 0, 1) := by decide +kernel
theorem dX5_borneAt_1 : decode cX5_borneAt 1 = .ok (.istore_n 2, 1) := by decide +kernel
theorem dX5_borneAt_2 : decode cX5_borneAt 2 = .ok (.iconst 0, 1) := by decide +kernel
theorem dX5_borneAt_3 : decode cX5_borneAt 3 = .ok (.istore_n 3, 1) := by decide +kernel
theorem dX5_borneAt_4 : decode cX5_borneAt 4 = .ok (.iload_n 3, 1) := by decide +kernel
theorem dX5_borneAt_5 : decode cX5_borneAt 5 = .ok (.bipush 9, 2) := by decide +kernel
theorem dX5_borneAt_7 : decode cX5_borneAt 7 = .ok (.if_icmp .ge 24, 3) := by decide +kernel
theorem dX5_borneAt_10 : decode cX5_borneAt 10 = .ok (.iload_n 2, 1) := by decide +kernel
theorem dX5_borneAt_11 : decode cX5_borneAt 11 = .ok (.iconst 0, 1) := by decide +kernel
theorem dX5_borneAt_12 : decode cX5_borneAt 12 = .ok (.iload_n 1, 1) := by decide +kernel
theorem dX5_borneAt_13 : decode cX5_borneAt 13 = .ok (.aload_n 0, 1) := by decide +kernel
theorem dX5_borneAt_14 : decode cX5_borneAt 14 = .ok (.getfield 9, 3) := by decide +kernel
theorem dX5_borneAt_17 : decode cX5_borneAt 17 = .ok (.iload_n 3, 1) := by decide +kernel
theorem dX5_borneAt_18 : decode cX5_borneAt 18 = .ok (.iaload, 1) := by decide +kernel
theorem dX5_borneAt_19 : decode cX5_borneAt 19 = .ok (.isub, 1) := by decide +kernel
theorem dX5_borneAt_20 : decode cX5_borneAt 20 = .ok (.invokestatic 26, 3) := by decide +kernel
theorem dX5_borneAt_23 : decode cX5_borneAt 23 = .ok (.iadd, 1) := by decide +kernel
theorem dX5_borneAt_24 : decode cX5_borneAt 24 = .ok (.istore_n 2, 1) := by decide +kernel
theorem dX5_borneAt_25 : decode cX5_borneAt 25 = .ok (.iinc 3 1, 3) := by decide +kernel
theorem dX5_borneAt_28 : decode cX5_borneAt 28 = .ok (.goto (-24), 3) := by decide +kernel
theorem dX5_borneAt_31 : decode cX5_borneAt 31 = .ok (.iload_n 2, 1) := by decide +kernel
theorem dX5_borneAt_32 : decode cX5_borneAt 32 = .ok (.ireturn, 1) := by decide +kernel
set_option maxRecDepth 20000 in
theorem ggX5_depthFor_X5_borneAt : GoodIn wsX5_depthFor wsX5_borneAt := goodIn_r _ [5, 6, 7, 8, 9, 10, 11, 12] (by decide +kernel) (by decide +kernel)
set_option maxRecDepth 20000 in
theorem gX5_depthFor_X5_borneAt : GoodIn wsX5_depthFor (wsV RX5 32 RX5 yX5_borneAt wsX5_borneAt) := goodIn_app (goodIn_of _ (by decide +kernel)) ggX5_depthFor_X5_borneAt
theorem dX5_depthFor_0 : decode cX5_depthFor 0 = .ok (.iconst 0, 1) := by decide +kernel
theorem dX5_depthFor_1 : decode cX5_depthFor 1 = .ok (.istore_n 2, 1) := by decide +kernel
theorem dX5_depthFor_2 : decode cX5_depthFor 2 = .ok (.sipush 1024, 3) := by decide +kernel
theorem dX5_depthFor_5 : decode cX5_depthFor 5 = .ok (.istore_n 3, 1) := by decide +kernel
theorem dX5_depthFor_6 : decode cX5_depthFor 6 = .ok (.iload_n 3, 1) := by decide +kernel
theorem dX5_depthFor_7 : decode cX5_depthFor 7 = .ok (.ifCond .le 25, 3) := by decide +kernel
theorem dX5_depthFor_10 : decode cX5_depthFor 10 = .ok (.aload_n 0, 1) := by decide +kernel
theorem dX5_depthFor_11 : decode cX5_depthFor 11 = .ok (.iload_n 2, 1) := by decide +kernel
theorem dX5_depthFor_12 : decode cX5_depthFor 12 = .ok (.iload_n 3, 1) := by decide +kernel
theorem dX5_depthFor_13 : decode cX5_depthFor 13 = .ok (.iadd, 1) := by decide +kernel
theorem dX5_depthFor_14 : decode cX5_depthFor 14 = .ok (.invokevirtual 32, 3) := by decide +kernel
theorem dX5_depthFor_17 : decode cX5_depthFor 17 = .ok (.iload_n 1, 1) := by decide +kernel
theorem dX5_depthFor_18 : decode cX5_depthFor 18 = .ok (.if_icmp .ge 7, 3) := by decide +kernel
theorem dX5_depthFor_21 : decode cX5_depthFor 21 = .ok (.iload_n 2, 1) := by decide +kernel
theorem dX5_depthFor_22 : decode cX5_depthFor 22 = .ok (.iload_n 3, 1) := by decide +kernel
theorem dX5_depthFor_23 : decode cX5_depthFor 23 = .ok (.iadd, 1) := by decide +kernel
theorem dX5_depthFor_24 : decode cX5_depthFor 24 = .ok (.istore_n 2, 1) := by decide +kernel
theorem dX5_depthFor_25 : decode cX5_depthFor 25 = .ok (.iload_n 3, 1) := by decide +kernel
theorem dX5_depthFor_26 : decode cX5_depthFor 26 = .ok (.iconst 2, 1) := by decide +kernel
theorem dX5_depthFor_27 : decode cX5_depthFor 27 = .ok (.idiv, 1) := by decide +kernel
theorem dX5_depthFor_28 : decode cX5_depthFor 28 = .ok (.istore_n 3, 1) := by decide +kernel
theorem dX5_depthFor_29 : decode cX5_depthFor 29 = .ok (.goto (-23), 3) := by decide +kernel
theorem dX5_depthFor_32 : decode cX5_depthFor 32 = .ok (.iload_n 2, 1) := by decide +kernel
theorem dX5_depthFor_33 : decode cX5_depthFor 33 = .ok (.iconst 1, 1) := by decide +kernel
theorem dX5_depthFor_34 : decode cX5_depthFor 34 = .ok (.iadd, 1) := by decide +kernel
theorem dX5_depthFor_35 : decode cX5_depthFor 35 = .ok (.ireturn, 1) := by decide +kernel
theorem dX5_firstOfMost_0 : decode cX5_firstOfMost 0 = .ok (.iconst 0, 1) := by decide +kernel
theorem dX5_firstOfMost_1 : decode cX5_firstOfMost 1 = .ok (.istore_n 1, 1) := by decide +kernel
theorem dX5_firstOfMost_2 : decode cX5_firstOfMost 2 = .ok (.iconst 1, 1) := by decide +kernel
theorem dX5_firstOfMost_3 : decode cX5_firstOfMost 3 = .ok (.istore_n 2, 1) := by decide +kernel
theorem dX5_firstOfMost_4 : decode cX5_firstOfMost 4 = .ok (.iload_n 2, 1) := by decide +kernel
theorem dX5_firstOfMost_5 : decode cX5_firstOfMost 5 = .ok (.bipush 9, 2) := by decide +kernel
theorem dX5_firstOfMost_7 : decode cX5_firstOfMost 7 = .ok (.if_icmp .ge 26, 3) := by decide +kernel
theorem dX5_firstOfMost_10 : decode cX5_firstOfMost 10 = .ok (.aload_n 0, 1) := by decide +kernel
theorem dX5_firstOfMost_11 : decode cX5_firstOfMost 11 = .ok (.getfield 15, 3) := by decide +kernel
theorem dX5_firstOfMost_14 : decode cX5_firstOfMost 14 = .ok (.iload_n 2, 1) := by decide +kernel
theorem dX5_firstOfMost_15 : decode cX5_firstOfMost 15 = .ok (.iaload, 1) := by decide +kernel
theorem dX5_firstOfMost_16 : decode cX5_firstOfMost 16 = .ok (.aload_n 0, 1) := by decide +kernel
theorem dX5_firstOfMost_17 : decode cX5_firstOfMost 17 = .ok (.getfield 15, 3) := by decide +kernel
theorem dX5_firstOfMost_20 : decode cX5_firstOfMost 20 = .ok (.iload_n 1, 1) := by decide +kernel
theorem dX5_firstOfMost_21 : decode cX5_firstOfMost 21 = .ok (.iaload, 1) := by decide +kernel
theorem dX5_firstOfMost_22 : decode cX5_firstOfMost 22 = .ok (.if_icmp .le 5, 3) := by decide +kernel
theorem dX5_firstOfMost_25 : decode cX5_firstOfMost 25 = .ok (.iload_n 2, 1) := by decide +kernel
theorem dX5_firstOfMost_26 : decode cX5_firstOfMost 26 = .ok (.istore_n 1, 1) := by decide +kernel
theorem dX5_firstOfMost_27 : decode cX5_firstOfMost 27 = .ok (.iinc 2 1, 3) := by decide +kernel
theorem dX5_firstOfMost_30 : decode cX5_firstOfMost 30 = .ok (.goto (-26), 3) := by decide +kernel
theorem dX5_firstOfMost_33 : decode cX5_firstOfMost 33 = .ok (.iload_n 1, 1) := by decide +kernel
theorem dX5_firstOfMost_34 : decode cX5_firstOfMost 34 = .ok (.ireturn, 1) := by decide +kernel
set_option maxRecDepth 20000 in
theorem ggX5_most_X5_firstOfMost : GoodIn wsX5_most wsX5_firstOfMost := goodIn_r _ [6, 1, 7, 8] (by decide +kernel) (by decide +kernel)
set_option maxRecDepth 20000 in
theorem gX5_most_X5_firstOfMost : GoodIn wsX5_most (wsV RX5 35 RX5 yX5_firstOfMost wsX5_firstOfMost) := goodIn_app (goodIn_of _ (by decide +kernel)) ggX5_most_X5_firstOfMost
theorem dX5_most_0 : decode cX5_most 0 = .ok (.aload_n 0, 1) := by decide +kernel
theorem dX5_most_1 : decode cX5_most 1 = .ok (.getfield 15, 3) := by decide +kernel
theorem dX5_most_4 : decode cX5_most 4 = .ok (.aload_n 0, 1) := by decide +kernel
theorem dX5_most_5 : decode cX5_most 5 = .ok (.invokevirtual 35, 3) := by decide +kernel
theorem dX5_most_8 : decode cX5_most 8 = .ok (.iaload, 1) := by decide +kernel
theorem dX5_most_9 : decode cX5_most 9 = .ok (.ireturn, 1) := by decide +kernel
set_option maxRecDepth 20000 in
theorem ggX5_pressedCount_X5_pressedFrom : GoodIn wsX5_pressedCount wsX5_pressedFrom := goodIn_r _ [5, 6, 7, 8] (by decide +kernel) (by decide +kernel)
set_option maxRecDepth 20000 in
theorem gX5_pressedCount_X5_pressedFrom : GoodIn wsX5_pressedCount (wsV RX5 52 RX5 yX5_pressedFrom wsX5_pressedFrom) := goodIn_app (goodIn_of _ (by decide +kernel)) ggX5_pressedCount_X5_pressedFrom
theorem dX5_pressedCount_0 : decode cX5_pressedCount 0 = .ok (.aload_n 0, 1) := by decide +kernel
theorem dX5_pressedCount_1 : decode cX5_pressedCount 1 = .ok (.iconst 0, 1) := by decide +kernel
theorem dX5_pressedCount_2 : decode cX5_pressedCount 2 = .ok (.bipush 8, 2) := by decide +kernel
theorem dX5_pressedCount_4 : decode cX5_pressedCount 4 = .ok (.invokevirtual 52, 3) := by decide +kernel
theorem dX5_pressedCount_7 : decode cX5_pressedCount 7 = .ok (.ireturn, 1) := by decide +kernel
theorem dX5_pressedFrom_0 : decode cX5_pressedFrom 0 = .ok (.iconst 0, 1) := by decide +kernel
theorem dX5_pressedFrom_1 : decode cX5_pressedFrom 1 = .ok (.istore_n 3, 1) := by decide +kernel
theorem dX5_pressedFrom_2 : decode cX5_pressedFrom 2 = .ok (.iload_n 1, 1) := by decide +kernel
theorem dX5_pressedFrom_3 : decode cX5_pressedFrom 3 = .ok (.istore 4, 2) := by decide +kernel
theorem dX5_pressedFrom_5 : decode cX5_pressedFrom 5 = .ok (.iload 4, 2) := by decide +kernel
theorem dX5_pressedFrom_7 : decode cX5_pressedFrom 7 = .ok (.iload_n 2, 1) := by decide +kernel
theorem dX5_pressedFrom_8 : decode cX5_pressedFrom 8 = .ok (.if_icmp .gt 22, 3) := by decide +kernel
theorem dX5_pressedFrom_11 : decode cX5_pressedFrom 11 = .ok (.aload_n 0, 1) := by decide +kernel
theorem dX5_pressedFrom_12 : decode cX5_pressedFrom 12 = .ok (.getfield 15, 3) := by decide +kernel
theorem dX5_pressedFrom_15 : decode cX5_pressedFrom 15 = .ok (.iload 4, 2) := by decide +kernel
theorem dX5_pressedFrom_17 : decode cX5_pressedFrom 17 = .ok (.iaload, 1) := by decide +kernel
theorem dX5_pressedFrom_18 : decode cX5_pressedFrom 18 = .ok (.ifCond .le 6, 3) := by decide +kernel
theorem dX5_pressedFrom_21 : decode cX5_pressedFrom 21 = .ok (.iinc 3 1, 3) := by decide +kernel
theorem dX5_pressedFrom_24 : decode cX5_pressedFrom 24 = .ok (.iinc 4 1, 3) := by decide +kernel
theorem dX5_pressedFrom_27 : decode cX5_pressedFrom 27 = .ok (.goto (-22), 3) := by decide +kernel
theorem dX5_pressedFrom_30 : decode cX5_pressedFrom 30 = .ok (.iload_n 3, 1) := by decide +kernel
theorem dX5_pressedFrom_31 : decode cX5_pressedFrom 31 = .ok (.ireturn, 1) := by decide +kernel
set_option maxRecDepth 20000 in
theorem ggX5_firstFault_X5_pressPlace : GoodIn wsX5_firstFault wsX5_pressPlace := goodIn_r _ [5, 6, 19, 20] (by decide +kernel) (by decide +kernel)
set_option maxRecDepth 20000 in
theorem gX5_firstFault_X5_pressPlace : GoodIn wsX5_firstFault (wsV RX5 55 RX5 yX5_pressPlace wsX5_pressPlace) := goodIn_app (goodIn_of _ (by decide +kernel)) ggX5_firstFault_X5_pressPlace
set_option maxRecDepth 20000 in
theorem ggX5_firstFault_X5_bridgePlace : GoodIn wsX5_firstFault wsX5_bridgePlace := goodIn_r _ [10, 6, 19, 20] (by decide +kernel) (by decide +kernel)
set_option maxRecDepth 20000 in
theorem gX5_firstFault_X5_bridgePlace : GoodIn wsX5_firstFault (wsV RX5 58 RX5 yX5_bridgePlace wsX5_bridgePlace) := goodIn_app (goodIn_of _ (by decide +kernel)) ggX5_firstFault_X5_bridgePlace
set_option maxRecDepth 20000 in
theorem ggX5_firstFault_X5_rockPlace : GoodIn wsX5_firstFault wsX5_rockPlace := goodIn_r _ [14, 15, 16, 17, 4, 18, 6, 19, 20] (by decide +kernel) (by decide +kernel)
set_option maxRecDepth 20000 in
theorem gX5_firstFault_X5_rockPlace : GoodIn wsX5_firstFault (wsV RX5 61 RX5 yX5_rockPlace wsX5_rockPlace) := goodIn_app (goodIn_of _ (by decide +kernel)) ggX5_firstFault_X5_rockPlace
theorem dX5_firstFault_0 : decode cX5_firstFault 0 = .ok (.aload_n 0, 1) := by decide +kernel
theorem dX5_firstFault_1 : decode cX5_firstFault 1 = .ok (.iload_n 1, 1) := by decide +kernel
theorem dX5_firstFault_2 : decode cX5_firstFault 2 = .ok (.invokevirtual 55, 3) := by decide +kernel
theorem dX5_firstFault_5 : decode cX5_firstFault 5 = .ok (.iconst (-1), 1) := by decide +kernel
theorem dX5_firstFault_6 : decode cX5_firstFault 6 = .ok (.if_icmp .eq 5, 3) := by decide +kernel
theorem dX5_firstFault_9 : decode cX5_firstFault 9 = .ok (.iconst 1, 1) := by decide +kernel
theorem dX5_firstFault_10 : decode cX5_firstFault 10 = .ok (.ireturn, 1) := by decide +kernel
theorem dX5_firstFault_11 : decode cX5_firstFault 11 = .ok (.aload_n 0, 1) := by decide +kernel
theorem dX5_firstFault_12 : decode cX5_firstFault 12 = .ok (.invokevirtual 58, 3) := by decide +kernel
theorem dX5_firstFault_15 : decode cX5_firstFault 15 = .ok (.iconst (-1), 1) := by decide +kernel
theorem dX5_firstFault_16 : decode cX5_firstFault 16 = .ok (.if_icmp .eq 5, 3) := by decide +kernel
theorem dX5_firstFault_19 : decode cX5_firstFault 19 = .ok (.iconst 2, 1) := by decide +kernel
theorem dX5_firstFault_20 : decode cX5_firstFault 20 = .ok (.ireturn, 1) := by decide +kernel
theorem dX5_firstFault_21 : decode cX5_firstFault 21 = .ok (.aload_n 0, 1) := by decide +kernel
theorem dX5_firstFault_22 : decode cX5_firstFault 22 = .ok (.invokevirtual 61, 3) := by decide +kernel
theorem dX5_firstFault_25 : decode cX5_firstFault 25 = .ok (.iconst (-1), 1) := by decide +kernel
theorem dX5_firstFault_26 : decode cX5_firstFault 26 = .ok (.if_icmp .eq 7, 3) := by decide +kernel
theorem dX5_firstFault_29 : decode cX5_firstFault 29 = .ok (.iconst 3, 1) := by decide +kernel
theorem dX5_firstFault_30 : decode cX5_firstFault 30 = .ok (.goto 4, 3) := by decide +kernel
theorem dX5_firstFault_33 : decode cX5_firstFault 33 = .ok (.iconst 0, 1) := by decide +kernel
theorem dX5_firstFault_34 : decode cX5_firstFault 34 = .ok (.ireturn, 1) := by decide +kernel
set_option maxRecDepth 20000 in
theorem ggX5_faultPlace_X5_firstFault : GoodIn wsX5_faultPlace wsX5_firstFault := goodIn_r _ [5, 6, 7, 8, 4, 9, 10, 11, 12, 13, 14, 15, 16, 17, 18, 19, 20, 21, 22, 23, 24] (by decide +kernel) (by decide +kernel)
set_option maxRecDepth 20000 in
theorem gX5_faultPlace_X5_firstFault : GoodIn wsX5_faultPlace (wsV RX5 64 RX5 yX5_firstFault wsX5_firstFault) := goodIn_app (goodIn_of _ (by decide +kernel)) ggX5_faultPlace_X5_firstFault
set_option maxRecDepth 20000 in
theorem ggX5_faultPlace_X5_pressPlace : GoodIn wsX5_faultPlace wsX5_pressPlace := goodIn_r _ [9, 10, 23, 24] (by decide +kernel) (by decide +kernel)
set_option maxRecDepth 20000 in
theorem gX5_faultPlace_X5_pressPlace : GoodIn wsX5_faultPlace (wsV RX5 55 RX5 yX5_pressPlace wsX5_pressPlace) := goodIn_app (goodIn_of _ (by decide +kernel)) ggX5_faultPlace_X5_pressPlace
set_option maxRecDepth 20000 in
theorem ggX5_faultPlace_X5_bridgePlace : GoodIn wsX5_faultPlace wsX5_bridgePlace := goodIn_r _ [14, 10, 23, 24] (by decide +kernel) (by decide +kernel)
set_option maxRecDepth 20000 in
theorem gX5_faultPlace_X5_bridgePlace : GoodIn wsX5_faultPlace (wsV RX5 58 RX5 yX5_bridgePlace wsX5_bridgePlace) := goodIn_app (goodIn_of _ (by decide +kernel)) ggX5_faultPlace_X5_bridgePlace
set_option maxRecDepth 20000 in
theorem ggX5_faultPlace_X5_rockPlace : GoodIn wsX5_faultPlace wsX5_rockPlace := goodIn_r _ [18, 19, 20, 21, 4, 22, 10, 23, 24] (by decide +kernel) (by decide +kernel)
set_option maxRecDepth 20000 in
theorem gX5_faultPlace_X5_rockPlace : GoodIn wsX5_faultPlace (wsV RX5 61 RX5 yX5_rockPlace wsX5_rockPlace) := goodIn_app (goodIn_of _ (by decide +kernel)) ggX5_faultPlace_X5_rockPlace
theorem dX5_faultPlace_0 : decode cX5_faultPlace 0 = .ok (.aload_n 0, 1) := by decide +kernel
theorem dX5_faultPlace_1 : decode cX5_faultPlace 1 = .ok (.iload_n 1, 1) := by decide +kernel
theorem dX5_faultPlace_2 : decode cX5_faultPlace 2 = .ok (.invokevirtual 64, 3) := by decide +kernel
theorem dX5_faultPlace_5 : decode cX5_faultPlace 5 = .ok (.tableswitch 43 1 3 #[27, 33, 38], 27) := by decide +kernel
theorem dX5_faultPlace_32 : decode cX5_faultPlace 32 = .ok (.aload_n 0, 1) := by decide +kernel
theorem dX5_faultPlace_33 : decode cX5_faultPlace 33 = .ok (.iload_n 1, 1) := by decide +kernel
theorem dX5_faultPlace_34 : decode cX5_faultPlace 34 = .ok (.invokevirtual 55, 3) := by decide +kernel
theorem dX5_faultPlace_37 : decode cX5_faultPlace 37 = .ok (.ireturn, 1) := by decide +kernel
theorem dX5_faultPlace_38 : decode cX5_faultPlace 38 = .ok (.aload_n 0, 1) := by decide +kernel
theorem dX5_faultPlace_39 : decode cX5_faultPlace 39 = .ok (.invokevirtual 58, 3) := by decide +kernel
theorem dX5_faultPlace_42 : decode cX5_faultPlace 42 = .ok (.ireturn, 1) := by decide +kernel
theorem dX5_faultPlace_43 : decode cX5_faultPlace 43 = .ok (.aload_n 0, 1) := by decide +kernel
theorem dX5_faultPlace_44 : decode cX5_faultPlace 44 = .ok (.invokevirtual 61, 3) := by decide +kernel
theorem dX5_faultPlace_47 : decode cX5_faultPlace 47 = .ok (.ireturn, 1) := by decide +kernel
theorem dX5_faultPlace_48 : decode cX5_faultPlace 48 = .ok (.iconst (-1), 1) := by decide +kernel
theorem dX5_faultPlace_49 : decode cX5_faultPlace 49 = .ok (.ireturn, 1) := by decide +kernel
theorem dX5_pressPlace_0 : decode cX5_pressPlace 0 = .ok (.iconst 0, 1) := by decide +kernel
theorem dX5_pressPlace_1 : decode cX5_pressPlace 1 = .ok (.istore_n 2, 1) := by decide +kernel
theorem dX5_pressPlace_2 : decode cX5_pressPlace 2 = .ok (.iload_n 2, 1) := by decide +kernel
theorem dX5_pressPlace_3 : decode cX5_pressPlace 3 = .ok (.bipush 9, 2) := by decide +kernel
theorem dX5_pressPlace_5 : decode cX5_pressPlace 5 = .ok (.if_icmp .ge 21, 3) := by decide +kernel
theorem dX5_pressPlace_8 : decode cX5_pressPlace 8 = .ok (.aload_n 0, 1) := by decide +kernel
theorem dX5_pressPlace_9 : decode cX5_pressPlace 9 = .ok (.getfield 15, 3) := by decide +kernel
theorem dX5_pressPlace_12 : decode cX5_pressPlace 12 = .ok (.iload_n 2, 1) := by decide +kernel
theorem dX5_pressPlace_13 : decode cX5_pressPlace 13 = .ok (.iaload, 1) := by decide +kernel
theorem dX5_pressPlace_14 : decode cX5_pressPlace 14 = .ok (.iload_n 1, 1) := by decide +kernel
theorem dX5_pressPlace_15 : decode cX5_pressPlace 15 = .ok (.if_icmp .le 5, 3) := by decide +kernel
theorem dX5_pressPlace_18 : decode cX5_pressPlace 18 = .ok (.iload_n 2, 1) := by decide +kernel
theorem dX5_pressPlace_19 : decode cX5_pressPlace 19 = .ok (.ireturn, 1) := by decide +kernel
theorem dX5_pressPlace_20 : decode cX5_pressPlace 20 = .ok (.iinc 2 1, 3) := by decide +kernel
theorem dX5_pressPlace_23 : decode cX5_pressPlace 23 = .ok (.goto (-21), 3) := by decide +kernel
theorem dX5_pressPlace_26 : decode cX5_pressPlace 26 = .ok (.iconst (-1), 1) := by decide +kernel
theorem dX5_pressPlace_27 : decode cX5_pressPlace 27 = .ok (.ireturn, 1) := by decide +kernel
theorem dX5_bridgePlace_0 : decode cX5_bridgePlace 0 = .ok (.iconst (-1), 1) := by decide +kernel
theorem dX5_bridgePlace_1 : decode cX5_bridgePlace 1 = .ok (.istore_n 1, 1) := by decide +kernel
theorem dX5_bridgePlace_2 : decode cX5_bridgePlace 2 = .ok (.iconst 0, 1) := by decide +kernel
theorem dX5_bridgePlace_3 : decode cX5_bridgePlace 3 = .ok (.istore_n 2, 1) := by decide +kernel
theorem dX5_bridgePlace_4 : decode cX5_bridgePlace 4 = .ok (.iload_n 2, 1) := by decide +kernel
theorem dX5_bridgePlace_5 : decode cX5_bridgePlace 5 = .ok (.bipush 9, 2) := by decide +kernel
theorem dX5_bridgePlace_7 : decode cX5_bridgePlace 7 = .ok (.if_icmp .ge 36, 3) := by decide +kernel
theorem dX5_bridgePlace_10 : decode cX5_bridgePlace 10 = .ok (.aload_n 0, 1) := by decide +kernel
theorem dX5_bridgePlace_11 : decode cX5_bridgePlace 11 = .ok (.getfield 15, 3) := by decide +kernel
theorem dX5_bridgePlace_14 : decode cX5_bridgePlace 14 = .ok (.iload_n 2, 1) := by decide +kernel
theorem dX5_bridgePlace_15 : decode cX5_bridgePlace 15 = .ok (.iaload, 1) := by decide +kernel
theorem dX5_bridgePlace_16 : decode cX5_bridgePlace 16 = .ok (.ifCond .le 21, 3) := by decide +kernel
theorem dX5_bridgePlace_19 : decode cX5_bridgePlace 19 = .ok (.iload_n 1, 1) := by decide +kernel
theorem dX5_bridgePlace_20 : decode cX5_bridgePlace 20 = .ok (.iconst (-1), 1) := by decide +kernel
theorem dX5_bridgePlace_21 : decode cX5_bridgePlace 21 = .ok (.if_icmp .eq 14, 3) := by decide +kernel
theorem dX5_bridgePlace_24 : decode cX5_bridgePlace 24 = .ok (.iload_n 2, 1) := by decide +kernel
theorem dX5_bridgePlace_25 : decode cX5_bridgePlace 25 = .ok (.iload_n 1, 1) := by decide +kernel
theorem dX5_bridgePlace_26 : decode cX5_bridgePlace 26 = .ok (.isub, 1) := by decide +kernel
theorem dX5_bridgePlace_27 : decode cX5_bridgePlace 27 = .ok (.iconst 3, 1) := by decide +kernel
theorem dX5_bridgePlace_28 : decode cX5_bridgePlace 28 = .ok (.if_icmp .le 7, 3) := by decide +kernel
theorem dX5_bridgePlace_31 : decode cX5_bridgePlace 31 = .ok (.iload_n 1, 1) := by decide +kernel
theorem dX5_bridgePlace_32 : decode cX5_bridgePlace 32 = .ok (.iconst 1, 1) := by decide +kernel
theorem dX5_bridgePlace_33 : decode cX5_bridgePlace 33 = .ok (.iadd, 1) := by decide +kernel
theorem dX5_bridgePlace_34 : decode cX5_bridgePlace 34 = .ok (.ireturn, 1) := by decide +kernel
theorem dX5_bridgePlace_35 : decode cX5_bridgePlace 35 = .ok (.iload_n 2, 1) := by decide +kernel
theorem dX5_bridgePlace_36 : decode cX5_bridgePlace 36 = .ok (.istore_n 1, 1) := by decide +kernel
theorem dX5_bridgePlace_37 : decode cX5_bridgePlace 37 = .ok (.iinc 2 1, 3) := by decide +kernel
theorem dX5_bridgePlace_40 : decode cX5_bridgePlace 40 = .ok (.goto (-36), 3) := by decide +kernel
theorem dX5_bridgePlace_43 : decode cX5_bridgePlace 43 = .ok (.iconst (-1), 1) := by decide +kernel
theorem dX5_bridgePlace_44 : decode cX5_bridgePlace 44 = .ok (.ireturn, 1) := by decide +kernel
set_option maxRecDepth 20000 in
theorem ggX5_rockPlace_X5_pressedFrom : GoodIn wsX5_rockPlace wsX5_pressedFrom := goodIn_r _ [5, 6, 7, 8] (by decide +kernel) (by decide +kernel)
set_option maxRecDepth 20000 in
theorem gX5_rockPlace_X5_pressedFrom : GoodIn wsX5_rockPlace (wsV RX5 52 RX5 yX5_pressedFrom wsX5_pressedFrom) := goodIn_app (goodIn_of _ (by decide +kernel)) ggX5_rockPlace_X5_pressedFrom
theorem dX5_rockPlace_0 : decode cX5_rockPlace 0 = .ok (.aload_n 0, 1) := by decide +kernel
theorem dX5_rockPlace_1 : decode cX5_rockPlace 1 = .ok (.iconst 0, 1) := by decide +kernel
theorem dX5_rockPlace_2 : decode cX5_rockPlace 2 = .ok (.iconst 2, 1) := by decide +kernel
theorem dX5_rockPlace_3 : decode cX5_rockPlace 3 = .ok (.invokevirtual 52, 3) := by decide +kernel
theorem dX5_rockPlace_6 : decode cX5_rockPlace 6 = .ok (.ifCond .ne 5, 3) := by decide +kernel
theorem dX5_rockPlace_9 : decode cX5_rockPlace 9 = .ok (.iconst 0, 1) := by decide +kernel
theorem dX5_rockPlace_10 : decode cX5_rockPlace 10 = .ok (.ireturn, 1) := by decide +kernel
theorem dX5_rockPlace_11 : decode cX5_rockPlace 11 = .ok (.aload_n 0, 1) := by decide +kernel
theorem dX5_rockPlace_12 : decode cX5_rockPlace 12 = .ok (.bipush 6, 2) := by decide +kernel
theorem dX5_rockPlace_14 : decode cX5_rockPlace 14 = .ok (.bipush 8, 2) := by decide +kernel
theorem dX5_rockPlace_16 : decode cX5_rockPlace 16 = .ok (.invokevirtual 52, 3) := by decide +kernel
theorem dX5_rockPlace_19 : decode cX5_rockPlace 19 = .ok (.ifCond .ne 8, 3) := by decide +kernel
theorem dX5_rockPlace_22 : decode cX5_rockPlace 22 = .ok (.bipush 6, 2) := by decide +kernel
theorem dX5_rockPlace_24 : decode cX5_rockPlace 24 = .ok (.goto 4, 3) := by decide +kernel
theorem dX5_rockPlace_27 : decode cX5_rockPlace 27 = .ok (.iconst (-1), 1) := by decide +kernel
theorem dX5_rockPlace_28 : decode cX5_rockPlace 28 = .ok (.ireturn, 1) := by decide +kernel
theorem dX6_init_0 : decode cX6_init 0 = .ok (.aload_n 0, 1) := by decide +kernel
theorem dX6_init_1 : decode cX6_init 1 = .ok (.invokespecial 3, 3) := by decide +kernel
theorem dX6_init_4 : decode cX6_init 4 = .ok (.aload_n 0, 1) := by decide +kernel
theorem dX6_init_5 : decode cX6_init 5 = .ok (.bipush 9, 2) := by decide +kernel
theorem dX6_init_7 : decode cX6_init 7 = .ok (.newarray .int, 2) := by decide +kernel
theorem dX6_init_9 : decode cX6_init 9 = .ok (.putfield 9, 3) := by decide +kernel
theorem dX6_init_12 : decode cX6_init 12 = .ok (.aload_n 0, 1) := by decide +kernel
theorem dX6_init_13 : decode cX6_init 13 = .ok (.bipush 9, 2) := by decide +kernel
theorem dX6_init_15 : decode cX6_init 15 = .ok (.newarray .int, 2) := by decide +kernel
theorem dX6_init_17 : decode cX6_init 17 = .ok (.putfield 15, 3) := by decide +kernel
theorem dX6_init_20 : decode cX6_init 20 = .ok (.iconst 0, 1) := by decide +kernel
theorem dX6_init_21 : decode cX6_init 21 = .ok (.istore_n 2, 1) := by decide +kernel
theorem dX6_init_22 : decode cX6_init 22 = .ok (.iload_n 2, 1) := by decide +kernel
theorem dX6_init_23 : decode cX6_init 23 = .ok (.bipush 9, 2) := by decide +kernel
theorem dX6_init_25 : decode cX6_init 25 = .ok (.if_icmp .ge 18, 3) := by decide +kernel
theorem dX6_init_28 : decode cX6_init 28 = .ok (.aload_n 0, 1) := by decide +kernel
theorem dX6_init_29 : decode cX6_init 29 = .ok (.getfield 9, 3) := by decide +kernel
theorem dX6_init_32 : decode cX6_init 32 = .ok (.iload_n 2, 1) := by decide +kernel
theorem dX6_init_33 : decode cX6_init 33 = .ok (.aload_n 1, 1) := by decide +kernel
theorem dX6_init_34 : decode cX6_init 34 = .ok (.iload_n 2, 1) := by decide +kernel
theorem dX6_init_35 : decode cX6_init 35 = .ok (.iaload, 1) := by decide +kernel
theorem dX6_init_36 : decode cX6_init 36 = .ok (.iastore, 1) := by decide +kernel
theorem dX6_init_37 : decode cX6_init 37 = .ok (.iinc 2 1, 3) := by decide +kernel
theorem dX6_init_40 : decode cX6_init 40 = .ok (.goto (-18), 3) := by decide +kernel
theorem dX6_init_43 : decode cX6_init 43 = .ok (.return_, 1) := by decide +kernel
theorem dX6_undersideAt_0 : decode cX6_undersideAt 0 = .ok (.aload_n 0, 1) := by decide +kernel
theorem dX6_undersideAt_1 : decode cX6_undersideAt 1 = .ok (.getfield 9, 3) := by decide +kernel
theorem dX6_undersideAt_4 : decode cX6_undersideAt 4 = .ok (.iload_n 1, 1) := by decide +kernel
theorem dX6_undersideAt_5 : decode cX6_undersideAt 5 = .ok (.iaload, 1) := by decide +kernel
theorem dX6_undersideAt_6 : decode cX6_undersideAt 6 = .ok (.aload_n 0, 1) := by decide +kernel
theorem dX6_undersideAt_7 : decode cX6_undersideAt 7 = .ok (.getfield 15, 3) := by decide +kernel
theorem dX6_undersideAt_10 : decode cX6_undersideAt 10 = .ok (.iload_n 1, 1) := by decide +kernel
theorem dX6_undersideAt_11 : decode cX6_undersideAt 11 = .ok (.iaload, 1) := by decide +kernel
theorem dX6_undersideAt_12 : decode cX6_undersideAt 12 = .ok (.isub, 1) := by decide +kernel
theorem dX6_undersideAt_13 : decode cX6_undersideAt 13 = .ok (.ireturn, 1) := by decide +kernel
set_option maxRecDepth 20000 in
theorem ggX7_init_X5_init : GoodIn wsX7_init wsX5_init := goodIn_r _ [32, 33, 2, 3, 4, 34, 35, 54, 55] (by decide +kernel) (by decide +kernel)
set_option maxRecDepth 20000 in
theorem gX7_init_X5_init_n76 : GoodIn wsX7_init (wsX5_init) := ggX7_init_X5_init
theorem dX7_init_0 : decode cX7_init 0 = .ok (.aload_n 0, 1) := by decide +kernel
theorem dX7_init_1 : decode cX7_init 1 = .ok (.invokespecial 1, 3) := by decide +kernel
theorem dX7_init_4 : decode cX7_init 4 = .ok (.aload_n 0, 1) := by decide +kernel
theorem dX7_init_5 : decode cX7_init 5 = .ok (.bipush 9, 2) := by decide +kernel
theorem dX7_init_7 : decode cX7_init 7 = .ok (.newarray .int, 2) := by decide +kernel
theorem dX7_init_9 : decode cX7_init 9 = .ok (.putfield 9, 3) := by decide +kernel
theorem dX7_init_12 : decode cX7_init 12 = .ok (.aload_n 0, 1) := by decide +kernel
theorem dX7_init_13 : decode cX7_init 13 = .ok (.bipush 8, 2) := by decide +kernel
theorem dX7_init_15 : decode cX7_init 15 = .ok (.anewarray 13, 3) := by decide +kernel
theorem dX7_init_18 : decode cX7_init 18 = .ok (.putfield 15, 3) := by decide +kernel
theorem dX7_init_21 : decode cX7_init 21 = .ok (.aload_n 0, 1) := by decide +kernel
theorem dX7_init_22 : decode cX7_init 22 = .ok (.bipush 8, 2) := by decide +kernel
theorem dX7_init_24 : decode cX7_init 24 = .ok (.anewarray 19, 3) := by decide +kernel
theorem dX7_init_27 : decode cX7_init 27 = .ok (.putfield 21, 3) := by decide +kernel
theorem dX7_init_30 : decode cX7_init 30 = .ok (.aload_n 0, 1) := by decide +kernel
theorem dX7_init_31 : decode cX7_init 31 = .ok (.iconst 4, 1) := by decide +kernel
theorem dX7_init_32 : decode cX7_init 32 = .ok (.anewarray 25, 3) := by decide +kernel
theorem dX7_init_35 : decode cX7_init 35 = .ok (.putfield 27, 3) := by decide +kernel
theorem dX7_init_38 : decode cX7_init 38 = .ok (.aload_n 0, 1) := by decide +kernel
theorem dX7_init_39 : decode cX7_init 39 = .ok (.iconst 3, 1) := by decide +kernel
theorem dX7_init_40 : decode cX7_init 40 = .ok (.anewarray 31, 3) := by decide +kernel
theorem dX7_init_43 : decode cX7_init 43 = .ok (.putfield 33, 3) := by decide +kernel
theorem dX7_init_46 : decode cX7_init 46 = .ok (.aload_n 0, 1) := by decide +kernel
theorem dX7_init_47 : decode cX7_init 47 = .ok (.bipush 12, 2) := by decide +kernel
theorem dX7_init_49 : decode cX7_init 49 = .ok (.anewarray 37, 3) := by decide +kernel
theorem dX7_init_52 : decode cX7_init 52 = .ok (.putfield 39, 3) := by decide +kernel
theorem dX7_init_55 : decode cX7_init 55 = .ok (.aload_n 0, 1) := by decide +kernel
theorem dX7_init_56 : decode cX7_init 56 = .ok (.bipush 6, 2) := by decide +kernel
theorem dX7_init_58 : decode cX7_init 58 = .ok (.newarray .int, 2) := by decide +kernel
theorem dX7_init_60 : decode cX7_init 60 = .ok (.putfield 43, 3) := by decide +kernel
theorem dX7_init_63 : decode cX7_init 63 = .ok (.aload_n 0, 1) := by decide +kernel
theorem dX7_init_64 : decode cX7_init 64 = .ok (.iconst 0, 1) := by decide +kernel
theorem dX7_init_65 : decode cX7_init 65 = .ok (.putfield 46, 3) := by decide +kernel
theorem dX7_init_68 : decode cX7_init 68 = .ok (.aload_n 0, 1) := by decide +kernel
theorem dX7_init_69 : decode cX7_init 69 = .ok (.iconst 0, 1) := by decide +kernel
theorem dX7_init_70 : decode cX7_init 70 = .ok (.putfield 50, 3) := by decide +kernel
theorem dX7_init_73 : decode cX7_init 73 = .ok (.aload_n 0, 1) := by decide +kernel
theorem dX7_init_74 : decode cX7_init 74 = .ok (.iconst 0, 1) := by decide +kernel
theorem dX7_init_75 : decode cX7_init 75 = .ok (.putfield 53, 3) := by decide +kernel
theorem dX7_init_78 : decode cX7_init 78 = .ok (.aload_n 0, 1) := by decide +kernel
theorem dX7_init_79 : decode cX7_init 79 = .ok (.iconst 0, 1) := by decide +kernel
theorem dX7_init_80 : decode cX7_init 80 = .ok (.putfield 56, 3) := by decide +kernel
theorem dX7_init_83 : decode cX7_init 83 = .ok (.aload_n 0, 1) := by decide +kernel
theorem dX7_init_84 : decode cX7_init 84 = .ok (.iconst 0, 1) := by decide +kernel
theorem dX7_init_85 : decode cX7_init 85 = .ok (.putfield 59, 3) := by decide +kernel
theorem dX7_init_88 : decode cX7_init 88 = .ok (.aload_n 0, 1) := by decide +kernel
theorem dX7_init_89 : decode cX7_init 89 = .ok (.iconst 0, 1) := by decide +kernel
theorem dX7_init_90 : decode cX7_init 90 = .ok (.putfield 62, 3) := by decide +kernel
theorem dX7_init_93 : decode cX7_init 93 = .ok (.aload_n 0, 1) := by decide +kernel
theorem dX7_init_94 : decode cX7_init 94 = .ok (.iconst 0, 1) := by decide +kernel
theorem dX7_init_95 : decode cX7_init 95 = .ok (.putfield 65, 3) := by decide +kernel
theorem dX7_init_98 : decode cX7_init 98 = .ok (.aload_n 0, 1) := by decide +kernel
theorem dX7_init_99 : decode cX7_init 99 = .ok (.iconst 0, 1) := by decide +kernel
theorem dX7_init_100 : decode cX7_init 100 = .ok (.putfield 68, 3) := by decide +kernel
theorem dX7_init_103 : decode cX7_init 103 = .ok (.aload_n 0, 1) := by decide +kernel
theorem dX7_init_104 : decode cX7_init 104 = .ok (.iconst (-1), 1) := by decide +kernel
theorem dX7_init_105 : decode cX7_init 105 = .ok (.putfield 71, 3) := by decide +kernel
theorem dX7_init_108 : decode cX7_init 108 = .ok (.aload_n 0, 1) := by decide +kernel
theorem dX7_init_109 : decode cX7_init 109 = .ok (.new 74, 3) := by decide +kernel
theorem dX7_init_112 : decode cX7_init 112 = .ok (.dup, 1) := by decide +kernel
theorem dX7_init_113 : decode cX7_init 113 = .ok (.invokespecial 76, 3) := by decide +kernel
theorem dX7_init_116 : decode cX7_init 116 = .ok (.putfield 77, 3) := by decide +kernel
theorem dX7_init_119 : decode cX7_init 119 = .ok (.aload_n 0, 1) := by decide +kernel
theorem dX7_init_120 : decode cX7_init 120 = .ok (.bipush 48, 2) := by decide +kernel
theorem dX7_init_122 : decode cX7_init 122 = .ok (.newarray .int, 2) := by decide +kernel
theorem dX7_init_124 : decode cX7_init 124 = .ok (.putfield 81, 3) := by decide +kernel
theorem dX7_init_127 : decode cX7_init 127 = .ok (.iconst 0, 1) := by decide +kernel
theorem dX7_init_128 : decode cX7_init 128 = .ok (.istore_n 1, 1) := by decide +kernel
theorem dX7_init_129 : decode cX7_init 129 = .ok (.iload_n 1, 1) := by decide +kernel
theorem dX7_init_130 : decode cX7_init 130 = .ok (.bipush 9, 2) := by decide +kernel
theorem dX7_init_132 : decode cX7_init 132 = .ok (.if_icmp .ge 17, 3) := by decide +kernel
theorem dX7_init_135 : decode cX7_init 135 = .ok (.aload_n 0, 1) := by decide +kernel
theorem dX7_init_136 : decode cX7_init 136 = .ok (.getfield 9, 3) := by decide +kernel
theorem dX7_init_139 : decode cX7_init 139 = .ok (.iload_n 1, 1) := by decide +kernel
theorem dX7_init_140 : decode cX7_init 140 = .ok (.bipush 100, 2) := by decide +kernel
theorem dX7_init_142 : decode cX7_init 142 = .ok (.iastore, 1) := by decide +kernel
theorem dX7_init_143 : decode cX7_init 143 = .ok (.iinc 1 1, 3) := by decide +kernel
theorem dX7_init_146 : decode cX7_init 146 = .ok (.goto (-17), 3) := by decide +kernel
theorem dX7_init_149 : decode cX7_init 149 = .ok (.return_, 1) := by decide +kernel
set_option maxRecDepth 20000 in
theorem ggX7_horse_X2_init : GoodIn wsX7_horse wsX2_init := goodIn_r _ [7, 8, 9, 10, 11, 12, 13, 32, 33] (by decide +kernel) (by decide +kernel)
set_option maxRecDepth 20000 in
theorem gX7_horse_X2_init_n84 : GoodIn wsX7_horse (wsX2_init) := ggX7_horse_X2_init
theorem dX7_horse_0 : decode cX7_horse 0 = .ok (.aload_n 0, 1) := by decide +kernel
theorem dX7_horse_1 : decode cX7_horse 1 = .ok (.getfield 46, 3) := by decide +kernel
theorem dX7_horse_4 : decode cX7_horse 4 = .ok (.bipush 8, 2) := by decide +kernel
theorem dX7_horse_6 : decode cX7_horse 6 = .ok (.if_icmp .lt 6, 3) := by decide +kernel
theorem dX7_horse_9 : decode cX7_horse 9 = .ok (.bipush (-104), 2) := by decide +kernel
theorem dX7_horse_11 : decode cX7_horse 11 = .ok (.ireturn, 1) := by decide +kernel
theorem dX7_horse_12 : decode cX7_horse 12 = .ok (.aload_n 0, 1) := by decide +kernel
theorem dX7_horse_13 : decode cX7_horse 13 = .ok (.getfield 15, 3) := by decide +kernel
theorem dX7_horse_16 : decode cX7_horse 16 = .ok (.aload_n 0, 1) := by decide +kernel
theorem dX7_horse_17 : decode cX7_horse 17 = .ok (.getfield 46, 3) := by decide +kernel
theorem dX7_horse_20 : decode cX7_horse 20 = .ok (.new 13, 3) := by decide +kernel
theorem dX7_horse_23 : decode cX7_horse 23 = .ok (.dup, 1) := by decide +kernel
theorem dX7_horse_24 : decode cX7_horse 24 = .ok (.invokespecial 84, 3) := by decide +kernel
theorem dX7_horse_27 : decode cX7_horse 27 = .ok (.aastore, 1) := by decide +kernel
theorem dX7_horse_28 : decode cX7_horse 28 = .ok (.aload_n 0, 1) := by decide +kernel
theorem dX7_horse_29 : decode cX7_horse 29 = .ok (.dup, 1) := by decide +kernel
theorem dX7_horse_30 : decode cX7_horse 30 = .ok (.getfield 46, 3) := by decide +kernel
theorem dX7_horse_33 : decode cX7_horse 33 = .ok (.iconst 1, 1) := by decide +kernel
theorem dX7_horse_34 : decode cX7_horse 34 = .ok (.iadd, 1) := by decide +kernel
theorem dX7_horse_35 : decode cX7_horse 35 = .ok (.putfield 46, 3) := by decide +kernel
theorem dX7_horse_38 : decode cX7_horse 38 = .ok (.aload_n 0, 1) := by decide +kernel
theorem dX7_horse_39 : decode cX7_horse 39 = .ok (.getfield 46, 3) := by decide +kernel
theorem dX7_horse_42 : decode cX7_horse 42 = .ok (.iconst 1, 1) := by decide +kernel
theorem dX7_horse_43 : decode cX7_horse 43 = .ok (.isub, 1) := by decide +kernel
theorem dX7_horse_44 : decode cX7_horse 44 = .ok (.ireturn, 1) := by decide +kernel
set_option maxRecDepth 20000 in
theorem ggX7_height_X7_isStation : GoodIn wsX7_height wsX7_isStation := goodIn_r _ [5, 6, 7, 4, 8] (by decide +kernel) (by decide +kernel)
set_option maxRecDepth 20000 in
theorem gX7_height_X7_isStation : GoodIn wsX7_height (va_wsS RX7 85 yX7_isStation wsX7_isStation) := goodIn_app (goodIn_of _ (by decide +kernel)) ggX7_height_X7_isStation
set_option maxRecDepth 20000 in
theorem ggX7_height_X7_isWithin : GoodIn wsX7_height wsX7_isWithin := goodIn_r _ [8] (by decide +kernel) (by decide +kernel)
set_option maxRecDepth 20000 in
theorem gX7_height_X7_isWithin : GoodIn wsX7_height (va_wsS RX7 89 yX7_isWithin wsX7_isWithin) := goodIn_app (goodIn_of _ (by decide +kernel)) ggX7_height_X7_isWithin
theorem dX7_height_0 : decode cX7_height 0 = .ok (.iload_n 1, 1) := by decide +kernel
theorem dX7_height_1 : decode cX7_height 1 = .ok (.invokestatic 85, 3) := by decide +kernel
theorem dX7_height_4 : decode cX7_height 4 = .ok (.ifCond .ne 6, 3) := by decide +kernel
theorem dX7_height_7 : decode cX7_height 7 = .ok (.bipush (-101), 2) := by decide +kernel
theorem dX7_height_9 : decode cX7_height 9 = .ok (.ireturn, 1) := by decide +kernel
theorem dX7_height_10 : decode cX7_height 10 = .ok (.iload_n 2, 1) := by decide +kernel
theorem dX7_height_11 : decode cX7_height 11 = .ok (.iconst (-1), 1) := by decide +kernel
theorem dX7_height_12 : decode cX7_height 12 = .ok (.if_icmp .eq 17, 3) := by decide +kernel
theorem dX7_height_15 : decode cX7_height 15 = .ok (.iload_n 2, 1) := by decide +kernel
theorem dX7_height_16 : decode cX7_height 16 = .ok (.iconst 0, 1) := by decide +kernel
theorem dX7_height_17 : decode cX7_height 17 = .ok (.sipush 400, 3) := by decide +kernel
theorem dX7_height_20 : decode cX7_height 20 = .ok (.invokestatic 89, 3) := by decide +kernel
theorem dX7_height_23 : decode cX7_height 23 = .ok (.ifCond .ne 6, 3) := by decide +kernel
theorem dX7_height_26 : decode cX7_height 26 = .ok (.bipush (-102), 2) := by decide +kernel
theorem dX7_height_28 : decode cX7_height 28 = .ok (.ireturn, 1) := by decide +kernel
theorem dX7_height_29 : decode cX7_height 29 = .ok (.aload_n 0, 1) := by decide +kernel
theorem dX7_height_30 : decode cX7_height 30 = .ok (.getfield 9, 3) := by decide +kernel
theorem dX7_height_33 : decode cX7_height 33 = .ok (.iload_n 1, 1) := by decide +kernel
theorem dX7_height_34 : decode cX7_height 34 = .ok (.iaload, 1) := by decide +kernel
theorem dX7_height_35 : decode cX7_height 35 = .ok (.istore_n 3, 1) := by decide +kernel
theorem dX7_height_36 : decode cX7_height 36 = .ok (.aload_n 0, 1) := by decide +kernel
theorem dX7_height_37 : decode cX7_height 37 = .ok (.getfield 9, 3) := by decide +kernel
theorem dX7_height_40 : decode cX7_height 40 = .ok (.iload_n 1, 1) := by decide +kernel
theorem dX7_height_41 : decode cX7_height 41 = .ok (.iload_n 2, 1) := by decide +kernel
theorem dX7_height_42 : decode cX7_height 42 = .ok (.iastore, 1) := by decide +kernel
theorem dX7_height_43 : decode cX7_height 43 = .ok (.iload_n 3, 1) := by decide +kernel
theorem dX7_height_44 : decode cX7_height 44 = .ok (.ireturn, 1) := by decide +kernel
set_option maxRecDepth 20000 in
theorem ggX7_measure_X7_horseAt : GoodIn wsX7_measure wsX7_horseAt := goodIn_r _ [9, 10, 11, 45, 46, 47, 48, 49, 50, 51, 52, 53, 54, 55, 56, 57, 58, 59, 60, 61, 62] (by decide +kernel) (by decide +kernel)
set_option maxRecDepth 20000 in
theorem gX7_measure_X7_horseAt : GoodIn wsX7_measure (wsV RX7 93 RX7 yX7_horseAt wsX7_horseAt) := goodIn_app (goodIn_of _ (by decide +kernel)) ggX7_measure_X7_horseAt
set_option maxRecDepth 20000 in
theorem ggX7_measure_X7_isDay : GoodIn wsX7_measure wsX7_isDay := goodIn_r _ [14, 15, 16, 8, 17] (by decide +kernel) (by decide +kernel)
set_option maxRecDepth 20000 in
theorem gX7_measure_X7_isDay : GoodIn wsX7_measure (va_wsS RX7 97 yX7_isDay wsX7_isDay) := goodIn_app (goodIn_of _ (by decide +kernel)) ggX7_measure_X7_isDay
set_option maxRecDepth 20000 in
theorem ggX7_measure_X2_isAboveLatest : GoodIn wsX7_measure wsX2_isAboveLatest := goodIn_r _ [21, 22, 23, 63, 64, 65, 66] (by decide +kernel) (by decide +kernel)
set_option maxRecDepth 20000 in
theorem gX7_measure_X2_isAboveLatest_n100 : GoodIn wsX7_measure (wsX2_isAboveLatest) := ggX7_measure_X2_isAboveLatest
set_option maxRecDepth 20000 in
theorem ggX7_measure_X3_init : GoodIn wsX7_measure wsX3_init := goodIn_r _ [25, 26, 27, 28, 29, 30, 31, 32, 33, 4, 34, 35, 36, 37, 38, 39, 40, 41, 65, 66] (by decide +kernel) (by decide +kernel)
set_option maxRecDepth 20000 in
theorem gX7_measure_X3_init_n108 : GoodIn wsX7_measure (wsX3_init) := ggX7_measure_X3_init
set_option maxRecDepth 20000 in
theorem ggX7_measure_X2_add : GoodIn wsX7_measure wsX2_add := goodIn_r _ [44, 23, 22, 63, 64] (by decide +kernel) (by decide +kernel)
set_option maxRecDepth 20000 in
theorem gX7_measure_X2_add_n111 : GoodIn wsX7_measure (wsX2_add) := ggX7_measure_X2_add
theorem dX7_measure_0 : decode cX7_measure 0 = .ok (.aload_n 0, 1) := by decide +kernel
theorem dX7_measure_1 : decode cX7_measure 1 = .ok (.iload_n 1, 1) := by decide +kernel
theorem dX7_measure_2 : decode cX7_measure 2 = .ok (.invokevirtual 93, 3) := by decide +kernel
theorem dX7_measure_5 : decode cX7_measure 5 = .ok (.astore_n 3, 1) := by decide +kernel
theorem dX7_measure_6 : decode cX7_measure 6 = .ok (.aload_n 3, 1) := by decide +kernel
theorem dX7_measure_7 : decode cX7_measure 7 = .ok (.ifnonnull 6, 3) := by decide +kernel
theorem dX7_measure_10 : decode cX7_measure 10 = .ok (.bipush (-101), 2) := by decide +kernel
theorem dX7_measure_12 : decode cX7_measure 12 = .ok (.ireturn, 1) := by decide +kernel
theorem dX7_measure_13 : decode cX7_measure 13 = .ok (.iload_n 2, 1) := by decide +kernel
theorem dX7_measure_14 : decode cX7_measure 14 = .ok (.invokestatic 97, 3) := by decide +kernel
theorem dX7_measure_17 : decode cX7_measure 17 = .ok (.ifCond .eq 24, 3) := by decide +kernel
theorem dX7_measure_20 : decode cX7_measure 20 = .ok (.aload_n 0, 1) := by decide +kernel
theorem dX7_measure_21 : decode cX7_measure 21 = .ok (.getfield 9, 3) := by decide +kernel
theorem dX7_measure_24 : decode cX7_measure 24 = .ok (.iconst 0, 1) := by decide +kernel
theorem dX7_measure_25 : decode cX7_measure 25 = .ok (.iaload, 1) := by decide +kernel
theorem dX7_measure_26 : decode cX7_measure 26 = .ok (.iconst (-1), 1) := by decide +kernel
theorem dX7_measure_27 : decode cX7_measure 27 = .ok (.if_icmp .eq 14, 3) := by decide +kernel
theorem dX7_measure_30 : decode cX7_measure 30 = .ok (.aload_n 0, 1) := by decide +kernel
theorem dX7_measure_31 : decode cX7_measure 31 = .ok (.getfield 9, 3) := by decide +kernel
theorem dX7_measure_34 : decode cX7_measure 34 = .ok (.bipush 8, 2) := by decide +kernel
theorem dX7_measure_36 : decode cX7_measure 36 = .ok (.iaload, 1) := by decide +kernel
theorem dX7_measure_37 : decode cX7_measure 37 = .ok (.iconst (-1), 1) := by decide +kernel
theorem dX7_measure_38 : decode cX7_measure 38 = .ok (.if_icmp .ne 6, 3) := by decide +kernel
theorem dX7_measure_41 : decode cX7_measure 41 = .ok (.bipush (-102), 2) := by decide +kernel
theorem dX7_measure_43 : decode cX7_measure 43 = .ok (.ireturn, 1) := by decide +kernel
theorem dX7_measure_44 : decode cX7_measure 44 = .ok (.aload_n 3, 1) := by decide +kernel
theorem dX7_measure_45 : decode cX7_measure 45 = .ok (.iload_n 2, 1) := by decide +kernel
theorem dX7_measure_46 : decode cX7_measure 46 = .ok (.invokevirtual 100, 3) := by decide +kernel
theorem dX7_measure_49 : decode cX7_measure 49 = .ok (.ifCond .ne 6, 3) := by decide +kernel
theorem dX7_measure_52 : decode cX7_measure 52 = .ok (.bipush (-103), 2) := by decide +kernel
theorem dX7_measure_54 : decode cX7_measure 54 = .ok (.ireturn, 1) := by decide +kernel
theorem dX7_measure_55 : decode cX7_measure 55 = .ok (.aload_n 3, 1) := by decide +kernel
theorem dX7_measure_56 : decode cX7_measure 56 = .ok (.getfield 103, 3) := by decide +kernel
theorem dX7_measure_59 : decode cX7_measure 59 = .ok (.bipush 6, 2) := by decide +kernel
theorem dX7_measure_61 : decode cX7_measure 61 = .ok (.if_icmp .lt 6, 3) := by decide +kernel
theorem dX7_measure_64 : decode cX7_measure 64 = .ok (.bipush (-104), 2) := by decide +kernel
theorem dX7_measure_66 : decode cX7_measure 66 = .ok (.ireturn, 1) := by decide +kernel
theorem dX7_measure_67 : decode cX7_measure 67 = .ok (.aload_n 3, 1) := by decide +kernel
theorem dX7_measure_68 : decode cX7_measure 68 = .ok (.new 106, 3) := by decide +kernel
theorem dX7_measure_71 : decode cX7_measure 71 = .ok (.dup, 1) := by decide +kernel
theorem dX7_measure_72 : decode cX7_measure 72 = .ok (.iload_n 2, 1) := by decide +kernel
theorem dX7_measure_73 : decode cX7_measure 73 = .ok (.aload_n 0, 1) := by decide +kernel
theorem dX7_measure_74 : decode cX7_measure 74 = .ok (.getfield 9, 3) := by decide +kernel
theorem dX7_measure_77 : decode cX7_measure 77 = .ok (.invokespecial 108, 3) := by decide +kernel
theorem dX7_measure_80 : decode cX7_measure 80 = .ok (.invokevirtual 111, 3) := by decide +kernel
theorem dX7_measure_83 : decode cX7_measure 83 = .ok (.aload_n 3, 1) := by decide +kernel
theorem dX7_measure_84 : decode cX7_measure 84 = .ok (.getfield 103, 3) := by decide +kernel
theorem dX7_measure_87 : decode cX7_measure 87 = .ok (.ireturn, 1) := by decide +kernel
set_option maxRecDepth 20000 in
theorem ggX7_back_X7_horseAt : GoodIn wsX7_back wsX7_horseAt := goodIn_r _ [5, 6, 7, 25, 26, 27, 28, 29, 30, 31, 32, 33, 34, 35, 36, 37, 38, 39, 40, 41, 42] (by decide +kernel) (by decide +kernel)
set_option maxRecDepth 20000 in
theorem gX7_back_X7_horseAt : GoodIn wsX7_back (wsV RX7 93 RX7 yX7_horseAt wsX7_horseAt) := goodIn_app (goodIn_of _ (by decide +kernel)) ggX7_back_X7_horseAt
set_option maxRecDepth 20000 in
theorem ggX7_back_X7_isStation : GoodIn wsX7_back wsX7_isStation := goodIn_r _ [10, 11, 12, 4, 13] (by decide +kernel) (by decide +kernel)
set_option maxRecDepth 20000 in
theorem gX7_back_X7_isStation : GoodIn wsX7_back (va_wsS RX7 85 yX7_isStation wsX7_isStation) := goodIn_app (goodIn_of _ (by decide +kernel)) ggX7_back_X7_isStation
set_option maxRecDepth 20000 in
theorem ggX7_back_X7_isDay : GoodIn wsX7_back wsX7_isDay := goodIn_r _ [16, 11, 12, 4, 13] (by decide +kernel) (by decide +kernel)
set_option maxRecDepth 20000 in
theorem gX7_back_X7_isDay : GoodIn wsX7_back (va_wsS RX7 97 yX7_isDay wsX7_isDay) := goodIn_app (goodIn_of _ (by decide +kernel)) ggX7_back_X7_isDay
set_option maxRecDepth 20000 in
theorem ggX7_back_X2_backOn : GoodIn wsX7_back wsX2_backOn := goodIn_r _ [20, 21, 22, 43, 44, 23, 24] (by decide +kernel) (by decide +kernel)
set_option maxRecDepth 20000 in
theorem gX7_back_X2_backOn_n115 : GoodIn wsX7_back (wsX2_backOn) := ggX7_back_X2_backOn
theorem dX7_back_0 : decode cX7_back 0 = .ok (.aload_n 0, 1) := by decide +kernel
theorem dX7_back_1 : decode cX7_back 1 = .ok (.iload_n 1, 1) := by decide +kernel
theorem dX7_back_2 : decode cX7_back 2 = .ok (.invokevirtual 93, 3) := by decide +kernel
theorem dX7_back_5 : decode cX7_back 5 = .ok (.astore 4, 2) := by decide +kernel
theorem dX7_back_7 : decode cX7_back 7 = .ok (.aload 4, 2) := by decide +kernel
theorem dX7_back_9 : decode cX7_back 9 = .ok (.ifnull 10, 3) := by decide +kernel
theorem dX7_back_12 : decode cX7_back 12 = .ok (.iload_n 3, 1) := by decide +kernel
theorem dX7_back_13 : decode cX7_back 13 = .ok (.invokestatic 85, 3) := by decide +kernel
theorem dX7_back_16 : decode cX7_back 16 = .ok (.ifCond .ne 6, 3) := by decide +kernel
theorem dX7_back_19 : decode cX7_back 19 = .ok (.bipush (-101), 2) := by decide +kernel
theorem dX7_back_21 : decode cX7_back 21 = .ok (.ireturn, 1) := by decide +kernel
theorem dX7_back_22 : decode cX7_back 22 = .ok (.iload_n 2, 1) := by decide +kernel
theorem dX7_back_23 : decode cX7_back 23 = .ok (.invokestatic 97, 3) := by decide +kernel
theorem dX7_back_26 : decode cX7_back 26 = .ok (.ifCond .ne 6, 3) := by decide +kernel
theorem dX7_back_29 : decode cX7_back 29 = .ok (.bipush (-102), 2) := by decide +kernel
theorem dX7_back_31 : decode cX7_back 31 = .ok (.ireturn, 1) := by decide +kernel
theorem dX7_back_32 : decode cX7_back 32 = .ok (.aload 4, 2) := by decide +kernel
theorem dX7_back_34 : decode cX7_back 34 = .ok (.iload_n 2, 1) := by decide +kernel
theorem dX7_back_35 : decode cX7_back 35 = .ok (.invokevirtual 115, 3) := by decide +kernel
theorem dX7_back_38 : decode cX7_back 38 = .ok (.astore 5, 2) := by decide +kernel
theorem dX7_back_40 : decode cX7_back 40 = .ok (.aload 5, 2) := by decide +kernel
theorem dX7_back_42 : decode cX7_back 42 = .ok (.ifnonnull 8, 3) := by decide +kernel
theorem dX7_back_45 : decode cX7_back 45 = .ok (.bipush (-103), 2) := by decide +kernel
theorem dX7_back_47 : decode cX7_back 47 = .ok (.goto 10, 3) := by decide +kernel
theorem dX7_back_50 : decode cX7_back 50 = .ok (.aload 5, 2) := by decide +kernel
theorem dX7_back_52 : decode cX7_back 52 = .ok (.getfield 119, 3) := by decide +kernel
theorem dX7_back_55 : decode cX7_back 55 = .ok (.iload_n 3, 1) := by decide +kernel
theorem dX7_back_56 : decode cX7_back 56 = .ok (.iaload, 1) := by decide +kernel
theorem dX7_back_57 : decode cX7_back 57 = .ok (.ireturn, 1) := by decide +kernel
set_option maxRecDepth 20000 in
theorem ggX7_tree_X6_init : GoodIn wsX7_tree wsX6_init := goodIn_r _ [8, 9, 10, 11, 12, 13, 14, 33, 34] (by decide +kernel) (by decide +kernel)
set_option maxRecDepth 20000 in
theorem gX7_tree_X6_init_n122 : GoodIn wsX7_tree (wsX6_init) := ggX7_tree_X6_init
theorem dX7_tree_0 : decode cX7_tree 0 = .ok (.iconst 0, 1) := by decide +kernel
theorem dX7_tree_1 : decode cX7_tree 1 = .ok (.istore_n 1, 1) := by decide +kernel
theorem dX7_tree_2 : decode cX7_tree 2 = .ok (.iload_n 1, 1) := by decide +kernel
theorem dX7_tree_3 : decode cX7_tree 3 = .ok (.bipush 9, 2) := by decide +kernel
theorem dX7_tree_5 : decode cX7_tree 5 = .ok (.if_icmp .ge 22, 3) := by decide +kernel
theorem dX7_tree_8 : decode cX7_tree 8 = .ok (.aload_n 0, 1) := by decide +kernel
theorem dX7_tree_9 : decode cX7_tree 9 = .ok (.getfield 9, 3) := by decide +kernel
theorem dX7_tree_12 : decode cX7_tree 12 = .ok (.iload_n 1, 1) := by decide +kernel
theorem dX7_tree_13 : decode cX7_tree 13 = .ok (.iaload, 1) := by decide +kernel
theorem dX7_tree_14 : decode cX7_tree 14 = .ok (.iconst (-1), 1) := by decide +kernel
theorem dX7_tree_15 : decode cX7_tree 15 = .ok (.if_icmp .ne 6, 3) := by decide +kernel
theorem dX7_tree_18 : decode cX7_tree 18 = .ok (.bipush (-102), 2) := by decide +kernel
theorem dX7_tree_20 : decode cX7_tree 20 = .ok (.ireturn, 1) := by decide +kernel
theorem dX7_tree_21 : decode cX7_tree 21 = .ok (.iinc 1 1, 3) := by decide +kernel
theorem dX7_tree_24 : decode cX7_tree 24 = .ok (.goto (-22), 3) := by decide +kernel
theorem dX7_tree_27 : decode cX7_tree 27 = .ok (.aload_n 0, 1) := by decide +kernel
theorem dX7_tree_28 : decode cX7_tree 28 = .ok (.getfield 50, 3) := by decide +kernel
theorem dX7_tree_31 : decode cX7_tree 31 = .ok (.bipush 8, 2) := by decide +kernel
theorem dX7_tree_33 : decode cX7_tree 33 = .ok (.if_icmp .lt 6, 3) := by decide +kernel
theorem dX7_tree_36 : decode cX7_tree 36 = .ok (.bipush (-104), 2) := by decide +kernel
theorem dX7_tree_38 : decode cX7_tree 38 = .ok (.ireturn, 1) := by decide +kernel
theorem dX7_tree_39 : decode cX7_tree 39 = .ok (.aload_n 0, 1) := by decide +kernel
theorem dX7_tree_40 : decode cX7_tree 40 = .ok (.getfield 21, 3) := by decide +kernel
theorem dX7_tree_43 : decode cX7_tree 43 = .ok (.aload_n 0, 1) := by decide +kernel
theorem dX7_tree_44 : decode cX7_tree 44 = .ok (.getfield 50, 3) := by decide +kernel
theorem dX7_tree_47 : decode cX7_tree 47 = .ok (.new 19, 3) := by decide +kernel
theorem dX7_tree_50 : decode cX7_tree 50 = .ok (.dup, 1) := by decide +kernel
theorem dX7_tree_51 : decode cX7_tree 51 = .ok (.aload_n 0, 1) := by decide +kernel
theorem dX7_tree_52 : decode cX7_tree 52 = .ok (.getfield 9, 3) := by decide +kernel
theorem dX7_tree_55 : decode cX7_tree 55 = .ok (.invokespecial 122, 3) := by decide +kernel
theorem dX7_tree_58 : decode cX7_tree 58 = .ok (.aastore, 1) := by decide +kernel
theorem dX7_tree_59 : decode cX7_tree 59 = .ok (.aload_n 0, 1) := by decide +kernel
theorem dX7_tree_60 : decode cX7_tree 60 = .ok (.dup, 1) := by decide +kernel
theorem dX7_tree_61 : decode cX7_tree 61 = .ok (.getfield 50, 3) := by decide +kernel
theorem dX7_tree_64 : decode cX7_tree 64 = .ok (.iconst 1, 1) := by decide +kernel
theorem dX7_tree_65 : decode cX7_tree 65 = .ok (.iadd, 1) := by decide +kernel
theorem dX7_tree_66 : decode cX7_tree 66 = .ok (.putfield 50, 3) := by decide +kernel
theorem dX7_tree_69 : decode cX7_tree 69 = .ok (.aload_n 0, 1) := by decide +kernel
theorem dX7_tree_70 : decode cX7_tree 70 = .ok (.getfield 50, 3) := by decide +kernel
theorem dX7_tree_73 : decode cX7_tree 73 = .ok (.iconst 1, 1) := by decide +kernel
theorem dX7_tree_74 : decode cX7_tree 74 = .ok (.isub, 1) := by decide +kernel
theorem dX7_tree_75 : decode cX7_tree 75 = .ok (.ireturn, 1) := by decide +kernel
set_option maxRecDepth 20000 in
theorem ggX7_shim_X7_treeAt : GoodIn wsX7_shim wsX7_treeAt := goodIn_r _ [5, 6, 7, 16, 17, 18, 19, 20, 21, 22, 23, 24, 25, 26, 27, 28, 29, 30, 31, 32, 33] (by decide +kernel) (by decide +kernel)
set_option maxRecDepth 20000 in
theorem gX7_shim_X7_treeAt : GoodIn wsX7_shim (wsV RX7 125 RX7 yX7_treeAt wsX7_treeAt) := goodIn_app (goodIn_of _ (by decide +kernel)) ggX7_shim_X7_treeAt
set_option maxRecDepth 20000 in
theorem ggX7_shim_X7_isStation : GoodIn wsX7_shim wsX7_isStation := goodIn_r _ [10, 11, 12, 4, 13] (by decide +kernel) (by decide +kernel)
set_option maxRecDepth 20000 in
theorem gX7_shim_X7_isStation : GoodIn wsX7_shim (va_wsS RX7 85 yX7_isStation wsX7_isStation) := goodIn_app (goodIn_of _ (by decide +kernel)) ggX7_shim_X7_isStation
set_option maxRecDepth 20000 in
theorem ggX7_shim_X7_isWithin : GoodIn wsX7_shim wsX7_isWithin := goodIn_r _ [13] (by decide +kernel) (by decide +kernel)
set_option maxRecDepth 20000 in
theorem gX7_shim_X7_isWithin : GoodIn wsX7_shim (va_wsS RX7 89 yX7_isWithin wsX7_isWithin) := goodIn_app (goodIn_of _ (by decide +kernel)) ggX7_shim_X7_isWithin
theorem dX7_shim_0 : decode cX7_shim 0 = .ok (.aload_n 0, 1) := by decide +kernel
theorem dX7_shim_1 : decode cX7_shim 1 = .ok (.iload_n 1, 1) := by decide +kernel
theorem dX7_shim_2 : decode cX7_shim 2 = .ok (.invokevirtual 125, 3) := by decide +kernel
theorem dX7_shim_5 : decode cX7_shim 5 = .ok (.astore 4, 2) := by decide +kernel
theorem dX7_shim_7 : decode cX7_shim 7 = .ok (.aload 4, 2) := by decide +kernel
theorem dX7_shim_9 : decode cX7_shim 9 = .ok (.ifnull 10, 3) := by decide +kernel
theorem dX7_shim_12 : decode cX7_shim 12 = .ok (.iload_n 2, 1) := by decide +kernel
theorem dX7_shim_13 : decode cX7_shim 13 = .ok (.invokestatic 85, 3) := by decide +kernel
theorem dX7_shim_16 : decode cX7_shim 16 = .ok (.ifCond .ne 6, 3) := by decide +kernel
theorem dX7_shim_19 : decode cX7_shim 19 = .ok (.bipush (-101), 2) := by decide +kernel
theorem dX7_shim_21 : decode cX7_shim 21 = .ok (.ireturn, 1) := by decide +kernel
theorem dX7_shim_22 : decode cX7_shim 22 = .ok (.iload_n 3, 1) := by decide +kernel
theorem dX7_shim_23 : decode cX7_shim 23 = .ok (.iconst 0, 1) := by decide +kernel
theorem dX7_shim_24 : decode cX7_shim 24 = .ok (.bipush 20, 2) := by decide +kernel
theorem dX7_shim_26 : decode cX7_shim 26 = .ok (.invokestatic 89, 3) := by decide +kernel
theorem dX7_shim_29 : decode cX7_shim 29 = .ok (.ifCond .ne 6, 3) := by decide +kernel
theorem dX7_shim_32 : decode cX7_shim 32 = .ok (.bipush (-102), 2) := by decide +kernel
theorem dX7_shim_34 : decode cX7_shim 34 = .ok (.ireturn, 1) := by decide +kernel
theorem dX7_shim_35 : decode cX7_shim 35 = .ok (.aload 4, 2) := by decide +kernel
theorem dX7_shim_37 : decode cX7_shim 37 = .ok (.getfield 129, 3) := by decide +kernel
theorem dX7_shim_40 : decode cX7_shim 40 = .ok (.iload_n 2, 1) := by decide +kernel
theorem dX7_shim_41 : decode cX7_shim 41 = .ok (.iaload, 1) := by decide +kernel
theorem dX7_shim_42 : decode cX7_shim 42 = .ok (.istore 5, 2) := by decide +kernel
theorem dX7_shim_44 : decode cX7_shim 44 = .ok (.aload 4, 2) := by decide +kernel
theorem dX7_shim_46 : decode cX7_shim 46 = .ok (.getfield 129, 3) := by decide +kernel
theorem dX7_shim_49 : decode cX7_shim 49 = .ok (.iload_n 2, 1) := by decide +kernel
theorem dX7_shim_50 : decode cX7_shim 50 = .ok (.iload_n 3, 1) := by decide +kernel
theorem dX7_shim_51 : decode cX7_shim 51 = .ok (.iastore, 1) := by decide +kernel
theorem dX7_shim_52 : decode cX7_shim 52 = .ok (.iload 5, 2) := by decide +kernel
theorem dX7_shim_54 : decode cX7_shim 54 = .ok (.ireturn, 1) := by decide +kernel
set_option maxRecDepth 20000 in
theorem ggX7_under_X7_treeAt : GoodIn wsX7_under wsX7_treeAt := goodIn_r _ [5, 6, 7, 20, 21, 22, 23, 24, 25, 26, 27, 28, 29, 30, 31, 32, 33, 34, 35, 36, 37] (by decide +kernel) (by decide +kernel)
set_option maxRecDepth 20000 in
theorem gX7_under_X7_treeAt : GoodIn wsX7_under (wsV RX7 125 RX7 yX7_treeAt wsX7_treeAt) := goodIn_app (goodIn_of _ (by decide +kernel)) ggX7_under_X7_treeAt
set_option maxRecDepth 20000 in
theorem ggX7_under_X7_isStation : GoodIn wsX7_under wsX7_isStation := goodIn_r _ [10, 11, 12, 4, 13] (by decide +kernel) (by decide +kernel)
set_option maxRecDepth 20000 in
theorem gX7_under_X7_isStation : GoodIn wsX7_under (va_wsS RX7 85 yX7_isStation wsX7_isStation) := goodIn_app (goodIn_of _ (by decide +kernel)) ggX7_under_X7_isStation
set_option maxRecDepth 20000 in
theorem ggX7_under_X6_undersideAt : GoodIn wsX7_under wsX6_undersideAt := goodIn_r _ [17, 18, 19, 38, 39] (by decide +kernel) (by decide +kernel)
set_option maxRecDepth 20000 in
theorem gX7_under_X6_undersideAt_n132 : GoodIn wsX7_under (wsX6_undersideAt) := ggX7_under_X6_undersideAt
theorem dX7_under_0 : decode cX7_under 0 = .ok (.aload_n 0, 1) := by decide +kernel
theorem dX7_under_1 : decode cX7_under 1 = .ok (.iload_n 1, 1) := by decide +kernel
theorem dX7_under_2 : decode cX7_under 2 = .ok (.invokevirtual 125, 3) := by decide +kernel
theorem dX7_under_5 : decode cX7_under 5 = .ok (.astore_n 3, 1) := by decide +kernel
theorem dX7_under_6 : decode cX7_under 6 = .ok (.aload_n 3, 1) := by decide +kernel
theorem dX7_under_7 : decode cX7_under 7 = .ok (.ifnull 10, 3) := by decide +kernel
theorem dX7_under_10 : decode cX7_under 10 = .ok (.iload_n 2, 1) := by decide +kernel
theorem dX7_under_11 : decode cX7_under 11 = .ok (.invokestatic 85, 3) := by decide +kernel
theorem dX7_under_14 : decode cX7_under 14 = .ok (.ifCond .ne 6, 3) := by decide +kernel
theorem dX7_under_17 : decode cX7_under 17 = .ok (.bipush (-101), 2) := by decide +kernel
theorem dX7_under_19 : decode cX7_under 19 = .ok (.ireturn, 1) := by decide +kernel
theorem dX7_under_20 : decode cX7_under 20 = .ok (.aload_n 3, 1) := by decide +kernel
theorem dX7_under_21 : decode cX7_under 21 = .ok (.iload_n 2, 1) := by decide +kernel
theorem dX7_under_22 : decode cX7_under 22 = .ok (.invokevirtual 132, 3) := by decide +kernel
theorem dX7_under_25 : decode cX7_under 25 = .ok (.ireturn, 1) := by decide +kernel
set_option maxRecDepth 20000 in
theorem ggX7_bears_X7_treeAt : GoodIn wsX7_bears wsX7_treeAt := goodIn_r _ [6, 7, 8, 68, 69, 70, 71, 72, 73, 74, 75, 76, 77, 78, 79, 80, 81, 82, 83, 84, 85] (by decide +kernel) (by decide +kernel)
set_option maxRecDepth 20000 in
theorem gX7_bears_X7_treeAt : GoodIn wsX7_bears (wsV RX7 125 RX7 yX7_treeAt wsX7_treeAt) := goodIn_app (goodIn_of _ (by decide +kernel)) ggX7_bears_X7_treeAt
set_option maxRecDepth 20000 in
theorem ggX7_bears_X7_horseAt : GoodIn wsX7_bears wsX7_horseAt := goodIn_r _ [12, 13, 14, 68, 69, 70, 71, 72, 73, 74, 75, 76, 77, 78, 79, 80, 81, 82, 83, 84, 85] (by decide +kernel) (by decide +kernel)
set_option maxRecDepth 20000 in
theorem gX7_bears_X7_horseAt : GoodIn wsX7_bears (wsV RX7 93 RX7 yX7_horseAt wsX7_horseAt) := goodIn_app (goodIn_of _ (by decide +kernel)) ggX7_bears_X7_horseAt
set_option maxRecDepth 20000 in
theorem ggX7_bears_X7_isStation : GoodIn wsX7_bears wsX7_isStation := goodIn_r _ [17, 18, 19, 5, 20] (by decide +kernel) (by decide +kernel)
set_option maxRecDepth 20000 in
theorem gX7_bears_X7_isStation : GoodIn wsX7_bears (va_wsS RX7 85 yX7_isStation wsX7_isStation) := goodIn_app (goodIn_of _ (by decide +kernel)) ggX7_bears_X7_isStation
set_option maxRecDepth 20000 in
theorem ggX7_bears_X7_isDay : GoodIn wsX7_bears wsX7_isDay := goodIn_r _ [23, 18, 19, 5, 20] (by decide +kernel) (by decide +kernel)
set_option maxRecDepth 20000 in
theorem gX7_bears_X7_isDay : GoodIn wsX7_bears (va_wsS RX7 97 yX7_isDay wsX7_isDay) := goodIn_app (goodIn_of _ (by decide +kernel)) ggX7_bears_X7_isDay
set_option maxRecDepth 20000 in
theorem ggX7_bears_X7_isLoad : GoodIn wsX7_bears wsX7_isLoad := goodIn_r _ [26, 18, 19, 5, 20] (by decide +kernel) (by decide +kernel)
set_option maxRecDepth 20000 in
theorem gX7_bears_X7_isLoad : GoodIn wsX7_bears (va_wsS RX7 136 yX7_isLoad wsX7_isLoad) := goodIn_app (goodIn_of _ (by decide +kernel)) ggX7_bears_X7_isLoad
set_option maxRecDepth 20000 in
theorem ggX7_bears_X2_backOn : GoodIn wsX7_bears wsX2_backOn := goodIn_r _ [30, 31, 32, 88, 89, 90, 91] (by decide +kernel) (by decide +kernel)
set_option maxRecDepth 20000 in
theorem gX7_bears_X2_backOn_n115 : GoodIn wsX7_bears (wsX2_backOn) := ggX7_bears_X2_backOn
set_option maxRecDepth 20000 in
theorem ggX7_bears_X5_settle : GoodIn wsX7_bears wsX5_settle := goodIn_r _ [36, 37, 38, 39, 40, 41, 42, 43, 44, 45, 34, 46, 47, 48, 49, 50, 51, 52, 53, 54, 55, 56, 57, 58, 59, 60, 61, 62, 63, 64, 65, 66, 67, 86, 87, 90, 91, 92, 93] (by decide +kernel) (by decide +kernel)
set_option maxRecDepth 20000 in
theorem gX7_bears_X5_settle_n139 : GoodIn wsX7_bears (wsX5_settle) := ggX7_bears_X5_settle
theorem dX7_bears_0 : decode cX7_bears 0 = .ok (.aload_n 0, 1) := by decide +kernel
theorem dX7_bears_1 : decode cX7_bears 1 = .ok (.iload_n 1, 1) := by decide +kernel
theorem dX7_bears_2 : decode cX7_bears 2 = .ok (.invokevirtual 125, 3) := by decide +kernel
theorem dX7_bears_5 : decode cX7_bears 5 = .ok (.astore 6, 2) := by decide +kernel
theorem dX7_bears_7 : decode cX7_bears 7 = .ok (.aload_n 0, 1) := by decide +kernel
theorem dX7_bears_8 : decode cX7_bears 8 = .ok (.iload_n 2, 1) := by decide +kernel
theorem dX7_bears_9 : decode cX7_bears 9 = .ok (.invokevirtual 93, 3) := by decide +kernel
