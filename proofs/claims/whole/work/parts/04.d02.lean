set_option maxRecDepth 20000 in
theorem gX3_tells_X0_takeRefill_n118 : GoodIn wsX3_tells (wsX0_takeRefill) := ggX3_tells_X0_takeRefill
set_option maxRecDepth 20000 in
theorem ggX3_tells_X0_takeLoss : GoodIn wsX3_tells wsX0_takeLoss := goodIn_r _ [53, 54, 24, 41, 42, 43, 16, 44, 23, 21, 45, 46, 47, 48, 49, 50, 90, 91, 92, 93, 94, 95, 96, 97, 98, 99, 100, 101, 102, 103, 104] (by decide +kernel) (by decide +kernel)
set_option maxRecDepth 20000 in
theorem gX3_tells_X0_takeLoss_n125 : GoodIn wsX3_tells (wsX0_takeLoss) := ggX3_tells_X0_takeLoss
set_option maxRecDepth 20000 in
theorem ggX3_tells_X0_narrow : GoodIn wsX3_tells wsX0_narrow := goodIn_r _ [57, 23, 58, 4, 5, 6, 21, 59, 8, 9, 60, 61, 62, 16, 63, 24, 19, 27, 26, 28, 25, 20, 64, 65, 66, 22, 67, 68, 69, 29, 30, 31, 32, 33, 34, 35, 70, 71, 72, 73, 45, 47, 48, 49, 50, 74, 75, 76, 77, 90, 91, 92, 93, 94, 95, 96, 97, 98, 99, 100, 101, 102, 103, 104] (by decide +kernel) (by decide +kernel)
set_option maxRecDepth 20000 in
theorem gX3_tells_X0_narrow_n128 : GoodIn wsX3_tells (wsX0_narrow) := ggX3_tells_X0_narrow
theorem dX3_tells_0 : decode cX3_tells 0 = .ok (.iload_n 1, 1) := by decide +kernel
theorem dX3_tells_1 : decode cX3_tells 1 = .ok (.iconst 0, 1) := by decide +kernel
theorem dX3_tells_2 : decode cX3_tells 2 = .ok (.sipush 255, 3) := by decide +kernel
theorem dX3_tells_5 : decode cX3_tells 5 = .ok (.invokestatic 79, 3) := by decide +kernel
theorem dX3_tells_8 : decode cX3_tells 8 = .ok (.ifCond .ne 5, 3) := by decide +kernel
theorem dX3_tells_11 : decode cX3_tells 11 = .ok (.iconst (-1), 1) := by decide +kernel
theorem dX3_tells_12 : decode cX3_tells 12 = .ok (.ireturn, 1) := by decide +kernel
theorem dX3_tells_13 : decode cX3_tells 13 = .ok (.iconst 0, 1) := by decide +kernel
theorem dX3_tells_14 : decode cX3_tells 14 = .ok (.aload_n 0, 1) := by decide +kernel
theorem dX3_tells_15 : decode cX3_tells 15 = .ok (.getfield 34, 3) := by decide +kernel
theorem dX3_tells_18 : decode cX3_tells 18 = .ok (.iload_n 1, 1) := by decide +kernel
theorem dX3_tells_19 : decode cX3_tells 19 = .ok (.aload_n 0, 1) := by decide +kernel
theorem dX3_tells_20 : decode cX3_tells 20 = .ok (.getfield 41, 3) := by decide +kernel
theorem dX3_tells_23 : decode cX3_tells 23 = .ok (.isub, 1) := by decide +kernel
theorem dX3_tells_24 : decode cX3_tells 24 = .ok (.imul, 1) := by decide +kernel
theorem dX3_tells_25 : decode cX3_tells 25 = .ok (.sipush 255, 3) := by decide +kernel
theorem dX3_tells_28 : decode cX3_tells 28 = .ok (.idiv, 1) := by decide +kernel
theorem dX3_tells_29 : decode cX3_tells 29 = .ok (.invokestatic 106, 3) := by decide +kernel
theorem dX3_tells_32 : decode cX3_tells 32 = .ok (.istore_n 2, 1) := by decide +kernel
theorem dX3_tells_33 : decode cX3_tells 33 = .ok (.aload_n 0, 1) := by decide +kernel
theorem dX3_tells_34 : decode cX3_tells 34 = .ok (.getfield 34, 3) := by decide +kernel
theorem dX3_tells_37 : decode cX3_tells 37 = .ok (.aload_n 0, 1) := by decide +kernel
theorem dX3_tells_38 : decode cX3_tells 38 = .ok (.getfield 34, 3) := by decide +kernel
theorem dX3_tells_41 : decode cX3_tells 41 = .ok (.iload_n 1, 1) := by decide +kernel
theorem dX3_tells_42 : decode cX3_tells 42 = .ok (.iconst 1, 1) := by decide +kernel
theorem dX3_tells_43 : decode cX3_tells 43 = .ok (.iadd, 1) := by decide +kernel
theorem dX3_tells_44 : decode cX3_tells 44 = .ok (.aload_n 0, 1) := by decide +kernel
theorem dX3_tells_45 : decode cX3_tells 45 = .ok (.getfield 41, 3) := by decide +kernel
theorem dX3_tells_48 : decode cX3_tells 48 = .ok (.iadd, 1) := by decide +kernel
theorem dX3_tells_49 : decode cX3_tells 49 = .ok (.imul, 1) := by decide +kernel
theorem dX3_tells_50 : decode cX3_tells 50 = .ok (.sipush 255, 3) := by decide +kernel
theorem dX3_tells_53 : decode cX3_tells 53 = .ok (.idiv, 1) := by decide +kernel
theorem dX3_tells_54 : decode cX3_tells 54 = .ok (.invokestatic 112, 3) := by decide +kernel
theorem dX3_tells_57 : decode cX3_tells 57 = .ok (.istore_n 3, 1) := by decide +kernel
theorem dX3_tells_58 : decode cX3_tells 58 = .ok (.iload_n 2, 1) := by decide +kernel
theorem dX3_tells_59 : decode cX3_tells 59 = .ok (.aload_n 0, 1) := by decide +kernel
theorem dX3_tells_60 : decode cX3_tells 60 = .ok (.getfield 10, 3) := by decide +kernel
theorem dX3_tells_63 : decode cX3_tells 63 = .ok (.getfield 115, 3) := by decide +kernel
theorem dX3_tells_66 : decode cX3_tells 66 = .ok (.if_icmp .le 14, 3) := by decide +kernel
theorem dX3_tells_69 : decode cX3_tells 69 = .ok (.aload_n 0, 1) := by decide +kernel
theorem dX3_tells_70 : decode cX3_tells 70 = .ok (.getfield 10, 3) := by decide +kernel
theorem dX3_tells_73 : decode cX3_tells 73 = .ok (.iload_n 2, 1) := by decide +kernel
theorem dX3_tells_74 : decode cX3_tells 74 = .ok (.iload_n 3, 1) := by decide +kernel
theorem dX3_tells_75 : decode cX3_tells 75 = .ok (.invokevirtual 118, 3) := by decide +kernel
theorem dX3_tells_78 : decode cX3_tells 78 = .ok (.iconst 1, 1) := by decide +kernel
theorem dX3_tells_79 : decode cX3_tells 79 = .ok (.ireturn, 1) := by decide +kernel
theorem dX3_tells_80 : decode cX3_tells 80 = .ok (.iload_n 3, 1) := by decide +kernel
theorem dX3_tells_81 : decode cX3_tells 81 = .ok (.aload_n 0, 1) := by decide +kernel
theorem dX3_tells_82 : decode cX3_tells 82 = .ok (.getfield 10, 3) := by decide +kernel
theorem dX3_tells_85 : decode cX3_tells 85 = .ok (.getfield 122, 3) := by decide +kernel
theorem dX3_tells_88 : decode cX3_tells 88 = .ok (.if_icmp .ge 14, 3) := by decide +kernel
theorem dX3_tells_91 : decode cX3_tells 91 = .ok (.aload_n 0, 1) := by decide +kernel
theorem dX3_tells_92 : decode cX3_tells 92 = .ok (.getfield 10, 3) := by decide +kernel
theorem dX3_tells_95 : decode cX3_tells 95 = .ok (.iload_n 2, 1) := by decide +kernel
theorem dX3_tells_96 : decode cX3_tells 96 = .ok (.iload_n 3, 1) := by decide +kernel
theorem dX3_tells_97 : decode cX3_tells 97 = .ok (.invokevirtual 125, 3) := by decide +kernel
theorem dX3_tells_100 : decode cX3_tells 100 = .ok (.iconst 2, 1) := by decide +kernel
theorem dX3_tells_101 : decode cX3_tells 101 = .ok (.ireturn, 1) := by decide +kernel
theorem dX3_tells_102 : decode cX3_tells 102 = .ok (.aload_n 0, 1) := by decide +kernel
theorem dX3_tells_103 : decode cX3_tells 103 = .ok (.getfield 10, 3) := by decide +kernel
theorem dX3_tells_106 : decode cX3_tells 106 = .ok (.iload_n 2, 1) := by decide +kernel
theorem dX3_tells_107 : decode cX3_tells 107 = .ok (.iload_n 3, 1) := by decide +kernel
theorem dX3_tells_108 : decode cX3_tells 108 = .ok (.invokevirtual 128, 3) := by decide +kernel
theorem dX3_tells_111 : decode cX3_tells 111 = .ok (.iconst 0, 1) := by decide +kernel
theorem dX3_tells_112 : decode cX3_tells 112 = .ok (.ireturn, 1) := by decide +kernel
set_option maxRecDepth 20000 in
theorem ggX3_set_X3_isMark : GoodIn wsX3_set wsX3_isMark := goodIn_r _ [5, 6, 7, 4, 8] (by decide +kernel) (by decide +kernel)
set_option maxRecDepth 20000 in
theorem gX3_set_X3_isMark : GoodIn wsX3_set (va_wsS RX3 131 yX3_isMark wsX3_isMark) := goodIn_app (goodIn_of _ (by decide +kernel)) ggX3_set_X3_isMark
set_option maxRecDepth 20000 in
theorem ggX3_set_X0_clearMark : GoodIn wsX3_set wsX0_clearMark := goodIn_r _ [12, 13, 26, 27, 28, 29, 30, 31, 32, 33, 34, 35, 36, 37, 38, 39, 40] (by decide +kernel) (by decide +kernel)
set_option maxRecDepth 20000 in
theorem gX3_set_X0_clearMark_n134 : GoodIn wsX3_set (wsX0_clearMark) := ggX3_set_X0_clearMark
theorem dX3_set_0 : decode cX3_set 0 = .ok (.iload_n 1, 1) := by decide +kernel
theorem dX3_set_1 : decode cX3_set 1 = .ok (.invokestatic 131, 3) := by decide +kernel
theorem dX3_set_4 : decode cX3_set 4 = .ok (.ifCond .ne 5, 3) := by decide +kernel
theorem dX3_set_7 : decode cX3_set 7 = .ok (.iconst 0, 1) := by decide +kernel
theorem dX3_set_8 : decode cX3_set 8 = .ok (.ireturn, 1) := by decide +kernel
theorem dX3_set_9 : decode cX3_set 9 = .ok (.aload_n 0, 1) := by decide +kernel
theorem dX3_set_10 : decode cX3_set 10 = .ok (.getfield 10, 3) := by decide +kernel
theorem dX3_set_13 : decode cX3_set 13 = .ok (.iload_n 1, 1) := by decide +kernel
theorem dX3_set_14 : decode cX3_set 14 = .ok (.invokevirtual 134, 3) := by decide +kernel
theorem dX3_set_17 : decode cX3_set 17 = .ok (.iconst 1, 1) := by decide +kernel
theorem dX3_set_18 : decode cX3_set 18 = .ok (.ireturn, 1) := by decide +kernel
set_option maxRecDepth 20000 in
theorem ggX3_keep_X0_copyFrom : GoodIn wsX3_keep wsX0_copyFrom := goodIn_r _ [6, 7, 8, 9, 10, 11, 12, 13, 14, 15, 16, 17, 18, 19, 20, 21, 22, 23, 24, 25, 38, 39, 40, 41, 42, 43, 44, 45, 46, 47, 48, 49, 50, 51, 52] (by decide +kernel) (by decide +kernel)
set_option maxRecDepth 20000 in
theorem gX3_keep_X0_copyFrom_n137 : GoodIn wsX3_keep (wsX0_copyFrom) := ggX3_keep_X0_copyFrom
theorem dX3_keep_0 : decode cX3_keep 0 = .ok (.aload_n 0, 1) := by decide +kernel
theorem dX3_keep_1 : decode cX3_keep 1 = .ok (.getfield 16, 3) := by decide +kernel
theorem dX3_keep_4 : decode cX3_keep 4 = .ok (.aload_n 0, 1) := by decide +kernel
theorem dX3_keep_5 : decode cX3_keep 5 = .ok (.getfield 10, 3) := by decide +kernel
theorem dX3_keep_8 : decode cX3_keep 8 = .ok (.invokevirtual 137, 3) := by decide +kernel
theorem dX3_keep_11 : decode cX3_keep 11 = .ok (.return_, 1) := by decide +kernel
set_option maxRecDepth 20000 in
theorem ggX3_dead_X3_gapFits : GoodIn wsX3_dead wsX3_gapFits := goodIn_r _ [7, 8, 9, 10, 11, 12, 13, 6, 14, 64, 65, 66, 67, 68, 69, 70, 71, 72, 73, 74, 75] (by decide +kernel) (by decide +kernel)
set_option maxRecDepth 20000 in
theorem gX3_dead_X3_gapFits : GoodIn wsX3_dead (wsV RX3 100 RX3 yX3_gapFits wsX3_gapFits) := goodIn_app (goodIn_of _ (by decide +kernel)) ggX3_dead_X3_gapFits
set_option maxRecDepth 20000 in
theorem ggX3_dead_X0_copyFrom : GoodIn wsX3_dead wsX0_copyFrom := goodIn_r _ [18, 19, 20, 21, 22, 23, 24, 25, 26, 27, 28, 29, 30, 31, 32, 33, 34, 35, 36, 37, 76, 77, 78, 79, 80, 81, 82, 83, 84, 85, 86, 87, 88, 89, 90] (by decide +kernel) (by decide +kernel)
set_option maxRecDepth 20000 in
theorem gX3_dead_X0_copyFrom_n137 : GoodIn wsX3_dead (wsX0_copyFrom) := ggX3_dead_X0_copyFrom
set_option maxRecDepth 20000 in
theorem ggX3_dead_X3_passGap : GoodIn wsX3_dead wsX3_passGap := goodIn_r _ [41, 10, 42, 9, 1, 43, 16, 44, 45, 31, 29, 30, 46, 47, 48, 19, 49, 50, 51, 52, 53, 54, 55, 25, 56, 57, 58, 59, 20, 60, 61, 62, 63, 64, 65, 66, 67, 68, 69, 70, 71, 72, 73, 74, 75, 76, 77, 78, 79, 80, 81, 82, 83, 84, 85, 86, 87, 88, 89, 90] (by decide +kernel) (by decide +kernel)
set_option maxRecDepth 20000 in
theorem gX3_dead_X3_passGap : GoodIn wsX3_dead (wsV RX3 103 RX3 yX3_passGap wsX3_passGap) := goodIn_app (goodIn_of _ (by decide +kernel)) ggX3_dead_X3_passGap
theorem dX3_dead_0 : decode cX3_dead 0 = .ok (.aload_n 0, 1) := by decide +kernel
theorem dX3_dead_1 : decode cX3_dead 1 = .ok (.iload_n 1, 1) := by decide +kernel
theorem dX3_dead_2 : decode cX3_dead 2 = .ok (.invokevirtual 100, 3) := by decide +kernel
theorem dX3_dead_5 : decode cX3_dead 5 = .ok (.ifCond .ne 5, 3) := by decide +kernel
theorem dX3_dead_8 : decode cX3_dead 8 = .ok (.iconst 0, 1) := by decide +kernel
theorem dX3_dead_9 : decode cX3_dead 9 = .ok (.ireturn, 1) := by decide +kernel
theorem dX3_dead_10 : decode cX3_dead 10 = .ok (.aload_n 0, 1) := by decide +kernel
theorem dX3_dead_11 : decode cX3_dead 11 = .ok (.getfield 10, 3) := by decide +kernel
theorem dX3_dead_14 : decode cX3_dead 14 = .ok (.aload_n 0, 1) := by decide +kernel
theorem dX3_dead_15 : decode cX3_dead 15 = .ok (.getfield 16, 3) := by decide +kernel
theorem dX3_dead_18 : decode cX3_dead 18 = .ok (.invokevirtual 137, 3) := by decide +kernel
theorem dX3_dead_21 : decode cX3_dead 21 = .ok (.aload_n 0, 1) := by decide +kernel
theorem dX3_dead_22 : decode cX3_dead 22 = .ok (.iload_n 1, 1) := by decide +kernel
theorem dX3_dead_23 : decode cX3_dead 23 = .ok (.invokevirtual 103, 3) := by decide +kernel
theorem dX3_dead_26 : decode cX3_dead 26 = .ok (.iconst 1, 1) := by decide +kernel
theorem dX3_dead_27 : decode cX3_dead 27 = .ok (.ireturn, 1) := by decide +kernel
theorem dX3_span_0 : decode cX3_span 0 = .ok (.iload_n 1, 1) := by decide +kernel
theorem dX3_span_1 : decode cX3_span 1 = .ok (.ifCond .eq 13, 3) := by decide +kernel
theorem dX3_span_4 : decode cX3_span 4 = .ok (.aload_n 0, 1) := by decide +kernel
theorem dX3_span_5 : decode cX3_span 5 = .ok (.getfield 10, 3) := by decide +kernel
theorem dX3_span_8 : decode cX3_span 8 = .ok (.getfield 115, 3) := by decide +kernel
theorem dX3_span_11 : decode cX3_span 11 = .ok (.goto 10, 3) := by decide +kernel
theorem dX3_span_14 : decode cX3_span 14 = .ok (.aload_n 0, 1) := by decide +kernel
theorem dX3_span_15 : decode cX3_span 15 = .ok (.getfield 10, 3) := by decide +kernel
theorem dX3_span_18 : decode cX3_span 18 = .ok (.getfield 122, 3) := by decide +kernel
theorem dX3_span_21 : decode cX3_span 21 = .ok (.ireturn, 1) := by decide +kernel
set_option maxRecDepth 20000 in
theorem ggX3_mark_X3_isMark : GoodIn wsX3_mark wsX3_isMark := goodIn_r _ [7, 8, 9, 6, 10] (by decide +kernel) (by decide +kernel)
set_option maxRecDepth 20000 in
theorem gX3_mark_X3_isMark : GoodIn wsX3_mark (va_wsS RX3 131 yX3_isMark wsX3_isMark) := goodIn_app (goodIn_of _ (by decide +kernel)) ggX3_mark_X3_isMark
set_option maxRecDepth 20000 in
theorem ggX3_mark_X3_within : GoodIn wsX3_mark wsX3_within := goodIn_r _ [10] (by decide +kernel) (by decide +kernel)
set_option maxRecDepth 20000 in
theorem gX3_mark_X3_within : GoodIn wsX3_mark (va_wsS RX3 79 yX3_within wsX3_within) := goodIn_app (goodIn_of _ (by decide +kernel)) ggX3_mark_X3_within
set_option maxRecDepth 20000 in
theorem ggX3_mark_X0_marked : GoodIn wsX3_mark wsX0_marked := goodIn_r _ [14, 15, 28, 29, 30, 31, 32, 33, 34, 35, 36, 37, 38, 39, 40, 41, 42] (by decide +kernel) (by decide +kernel)
set_option maxRecDepth 20000 in
theorem gX3_mark_X0_marked_n148 : GoodIn wsX3_mark (wsX0_marked) := ggX3_mark_X0_marked
theorem dX3_mark_0 : decode cX3_mark 0 = .ok (.iload_n 1, 1) := by decide +kernel
theorem dX3_mark_1 : decode cX3_mark 1 = .ok (.invokestatic 131, 3) := by decide +kernel
theorem dX3_mark_4 : decode cX3_mark 4 = .ok (.ifCond .eq 12, 3) := by decide +kernel
theorem dX3_mark_7 : decode cX3_mark 7 = .ok (.iload_n 2, 1) := by decide +kernel
theorem dX3_mark_8 : decode cX3_mark 8 = .ok (.iconst 0, 1) := by decide +kernel
theorem dX3_mark_9 : decode cX3_mark 9 = .ok (.iconst 4, 1) := by decide +kernel
theorem dX3_mark_10 : decode cX3_mark 10 = .ok (.invokestatic 79, 3) := by decide +kernel
theorem dX3_mark_13 : decode cX3_mark 13 = .ok (.ifCond .ne 13, 3) := by decide +kernel
theorem dX3_mark_16 : decode cX3_mark 16 = .ok (.new 141, 3) := by decide +kernel
theorem dX3_mark_19 : decode cX3_mark 19 = .ok (.dup, 1) := by decide +kernel
theorem dX3_mark_20 : decode cX3_mark 20 = .ok (.ldc 143, 2) := by decide +kernel
theorem dX3_mark_22 : decode cX3_mark 22 = .ok (.invokespecial 145, 3) := by decide +kernel
theorem dX3_mark_25 : decode cX3_mark 25 = .ok (.athrow, 1) := by decide +kernel
theorem dX3_mark_26 : decode cX3_mark 26 = .ok (.aload_n 0, 1) := by decide +kernel
theorem dX3_mark_27 : decode cX3_mark 27 = .ok (.getfield 10, 3) := by decide +kernel
theorem dX3_mark_30 : decode cX3_mark 30 = .ok (.iload_n 1, 1) := by decide +kernel
theorem dX3_mark_31 : decode cX3_mark 31 = .ok (.iload_n 2, 1) := by decide +kernel
theorem dX3_mark_32 : decode cX3_mark 32 = .ok (.invokevirtual 148, 3) := by decide +kernel
theorem dX3_mark_35 : decode cX3_mark 35 = .ok (.lreturn, 1) := by decide +kernel
set_option maxRecDepth 20000 in
theorem ggX3_metres_X3_isMark : GoodIn wsX3_metres wsX3_isMark := goodIn_r _ [7, 8, 9, 6, 10] (by decide +kernel) (by decide +kernel)
set_option maxRecDepth 20000 in
theorem gX3_metres_X3_isMark : GoodIn wsX3_metres (va_wsS RX3 131 yX3_isMark wsX3_isMark) := goodIn_app (goodIn_of _ (by decide +kernel)) ggX3_metres_X3_isMark
set_option maxRecDepth 20000 in
theorem ggX3_metres_X3_wayInHundredths : GoodIn wsX3_metres wsX3_wayInHundredths := goodIn_r _ [14, 15, 16, 17, 18, 19, 20, 21, 22, 23, 24, 25, 26, 27, 28, 29, 30, 31, 32, 33, 34, 35, 36, 37, 38, 39, 40, 41, 42, 43, 44, 45, 46, 47, 48] (by decide +kernel) (by decide +kernel)
set_option maxRecDepth 20000 in
theorem gX3_metres_X3_wayInHundredths : GoodIn wsX3_metres (wsV RX3 154 RX3 yX3_wayInHundredths wsX3_wayInHundredths) := goodIn_app (goodIn_of _ (by decide +kernel)) ggX3_metres_X3_wayInHundredths
theorem dX3_metres_0 : decode cX3_metres 0 = .ok (.iload_n 1, 1) := by decide +kernel
theorem dX3_metres_1 : decode cX3_metres 1 = .ok (.invokestatic 131, 3) := by decide +kernel
theorem dX3_metres_4 : decode cX3_metres 4 = .ok (.ifCond .ne 13, 3) := by decide +kernel
theorem dX3_metres_7 : decode cX3_metres 7 = .ok (.new 141, 3) := by decide +kernel
theorem dX3_metres_10 : decode cX3_metres 10 = .ok (.dup, 1) := by decide +kernel
theorem dX3_metres_11 : decode cX3_metres 11 = .ok (.ldc 152, 2) := by decide +kernel
theorem dX3_metres_13 : decode cX3_metres 13 = .ok (.invokespecial 145, 3) := by decide +kernel
theorem dX3_metres_16 : decode cX3_metres 16 = .ok (.athrow, 1) := by decide +kernel
theorem dX3_metres_17 : decode cX3_metres 17 = .ok (.aload_n 0, 1) := by decide +kernel
theorem dX3_metres_18 : decode cX3_metres 18 = .ok (.iload_n 1, 1) := by decide +kernel
theorem dX3_metres_19 : decode cX3_metres 19 = .ok (.iload_n 2, 1) := by decide +kernel
theorem dX3_metres_20 : decode cX3_metres 20 = .ok (.invokevirtual 154, 3) := by decide +kernel
theorem dX3_metres_23 : decode cX3_metres 23 = .ok (.ldc2_w 158, 3) := by decide +kernel
theorem dX3_metres_26 : decode cX3_metres 26 = .ok (.ldiv, 1) := by decide +kernel
theorem dX3_metres_27 : decode cX3_metres 27 = .ok (.lreturn, 1) := by decide +kernel
set_option maxRecDepth 20000 in
theorem ggX3_average_X3_isMark : GoodIn wsX3_average wsX3_isMark := goodIn_r _ [8, 9, 10, 7, 11] (by decide +kernel) (by decide +kernel)
set_option maxRecDepth 20000 in
theorem gX3_average_X3_isMark : GoodIn wsX3_average (va_wsS RX3 131 yX3_isMark wsX3_isMark) := goodIn_app (goodIn_of _ (by decide +kernel)) ggX3_average_X3_isMark
set_option maxRecDepth 20000 in
theorem ggX3_average_X3_within : GoodIn wsX3_average wsX3_within := goodIn_r _ [11] (by decide +kernel) (by decide +kernel)
set_option maxRecDepth 20000 in
theorem gX3_average_X3_within : GoodIn wsX3_average (va_wsS RX3 79 yX3_within wsX3_within) := goodIn_app (goodIn_of _ (by decide +kernel)) ggX3_average_X3_within
set_option maxRecDepth 20000 in
theorem ggX3_average_X3_wayInHundredths : GoodIn wsX3_average wsX3_wayInHundredths := goodIn_r _ [15, 3, 16, 17, 18, 19, 20, 21, 29, 30, 31, 32, 33, 34, 35, 36, 37, 38, 39, 40, 41, 42, 43, 44, 45, 46, 47, 48, 49, 50, 51, 52, 53, 54, 55] (by decide +kernel) (by decide +kernel)
set_option maxRecDepth 20000 in
theorem gX3_average_X3_wayInHundredths : GoodIn wsX3_average (wsV RX3 154 RX3 yX3_wayInHundredths wsX3_wayInHundredths) := goodIn_app (goodIn_of _ (by decide +kernel)) ggX3_average_X3_wayInHundredths
set_option maxRecDepth 20000 in
theorem ggX3_average_X0_marked : GoodIn wsX3_average wsX0_marked := goodIn_r _ [20, 21, 41, 42, 43, 44, 45, 46, 47, 48, 49, 50, 51, 52, 53, 54, 55] (by decide +kernel) (by decide +kernel)
set_option maxRecDepth 20000 in
theorem gX3_average_X0_marked_n148 : GoodIn wsX3_average (wsX0_marked) := ggX3_average_X0_marked
set_option maxRecDepth 20000 in
theorem ggX3_average_X3_commonDivisor : GoodIn wsX3_average wsX3_commonDivisor := goodIn_r _ [24, 25, 26, 27, 28] (by decide +kernel) (by decide +kernel)
set_option maxRecDepth 20000 in
theorem gX3_average_X3_commonDivisor : GoodIn wsX3_average (va_wsS RX3 164 yX3_commonDivisor wsX3_commonDivisor) := goodIn_app (goodIn_of _ (by decide +kernel)) ggX3_average_X3_commonDivisor
theorem dX3_average_0 : decode cX3_average 0 = .ok (.iload_n 1, 1) := by decide +kernel
theorem dX3_average_1 : decode cX3_average 1 = .ok (.invokestatic 131, 3) := by decide +kernel
theorem dX3_average_4 : decode cX3_average 4 = .ok (.ifCond .eq 12, 3) := by decide +kernel
theorem dX3_average_7 : decode cX3_average 7 = .ok (.iload_n 3, 1) := by decide +kernel
theorem dX3_average_8 : decode cX3_average 8 = .ok (.iconst 0, 1) := by decide +kernel
theorem dX3_average_9 : decode cX3_average 9 = .ok (.iconst 1, 1) := by decide +kernel
theorem dX3_average_10 : decode cX3_average 10 = .ok (.invokestatic 79, 3) := by decide +kernel
theorem dX3_average_13 : decode cX3_average 13 = .ok (.ifCond .ne 13, 3) := by decide +kernel
theorem dX3_average_16 : decode cX3_average 16 = .ok (.new 141, 3) := by decide +kernel
theorem dX3_average_19 : decode cX3_average 19 = .ok (.dup, 1) := by decide +kernel
theorem dX3_average_20 : decode cX3_average 20 = .ok (.ldc 143, 2) := by decide +kernel
theorem dX3_average_22 : decode cX3_average 22 = .ok (.invokespecial 145, 3) := by decide +kernel
theorem dX3_average_25 : decode cX3_average 25 = .ok (.athrow, 1) := by decide +kernel
theorem dX3_average_26 : decode cX3_average 26 = .ok (.aload_n 0, 1) := by decide +kernel
theorem dX3_average_27 : decode cX3_average 27 = .ok (.iload_n 1, 1) := by decide +kernel
theorem dX3_average_28 : decode cX3_average 28 = .ok (.iload_n 2, 1) := by decide +kernel
theorem dX3_average_29 : decode cX3_average 29 = .ok (.ifCond .ne 7, 3) := by decide +kernel
theorem dX3_average_32 : decode cX3_average 32 = .ok (.iconst 1, 1) := by decide +kernel
theorem dX3_average_33 : decode cX3_average 33 = .ok (.goto 4, 3) := by decide +kernel
theorem dX3_average_36 : decode cX3_average 36 = .ok (.iconst 0, 1) := by decide +kernel
theorem dX3_average_37 : decode cX3_average 37 = .ok (.invokevirtual 154, 3) := by decide +kernel
theorem dX3_average_40 : decode cX3_average 40 = .ok (.lstore 4, 2) := by decide +kernel
theorem dX3_average_42 : decode cX3_average 42 = .ok (.lload 4, 2) := by decide +kernel
theorem dX3_average_44 : decode cX3_average 44 = .ok (.lconst 1, 1) := by decide +kernel
theorem dX3_average_45 : decode cX3_average 45 = .ok (.lcmp, 1) := by decide +kernel
theorem dX3_average_46 : decode cX3_average 46 = .ok (.ifCond .ge 13, 3) := by decide +kernel
theorem dX3_average_49 : decode cX3_average 49 = .ok (.new 141, 3) := by decide +kernel
theorem dX3_average_52 : decode cX3_average 52 = .ok (.dup, 1) := by decide +kernel
theorem dX3_average_53 : decode cX3_average 53 = .ok (.ldc 160, 2) := by decide +kernel
theorem dX3_average_55 : decode cX3_average 55 = .ok (.invokespecial 145, 3) := by decide +kernel
theorem dX3_average_58 : decode cX3_average 58 = .ok (.athrow, 1) := by decide +kernel
theorem dX3_average_59 : decode cX3_average 59 = .ok (.aload_n 0, 1) := by decide +kernel
theorem dX3_average_60 : decode cX3_average 60 = .ok (.getfield 10, 3) := by decide +kernel
theorem dX3_average_63 : decode cX3_average 63 = .ok (.iload_n 1, 1) := by decide +kernel
theorem dX3_average_64 : decode cX3_average 64 = .ok (.iload_n 2, 1) := by decide +kernel
theorem dX3_average_65 : decode cX3_average 65 = .ok (.ifCond .eq 7, 3) := by decide +kernel
theorem dX3_average_68 : decode cX3_average 68 = .ok (.iconst 3, 1) := by decide +kernel
theorem dX3_average_69 : decode cX3_average 69 = .ok (.goto 4, 3) := by decide +kernel
theorem dX3_average_72 : decode cX3_average 72 = .ok (.iconst 2, 1) := by decide +kernel
theorem dX3_average_73 : decode cX3_average 73 = .ok (.invokevirtual 148, 3) := by decide +kernel
theorem dX3_average_76 : decode cX3_average 76 = .ok (.ldc2_w 162, 3) := by decide +kernel
theorem dX3_average_79 : decode cX3_average 79 = .ok (.lmul, 1) := by decide +kernel
theorem dX3_average_80 : decode cX3_average 80 = .ok (.lstore 6, 2) := by decide +kernel
theorem dX3_average_82 : decode cX3_average 82 = .ok (.lload 4, 2) := by decide +kernel
theorem dX3_average_84 : decode cX3_average 84 = .ok (.lload 6, 2) := by decide +kernel
theorem dX3_average_86 : decode cX3_average 86 = .ok (.invokestatic 164, 3) := by decide +kernel
theorem dX3_average_89 : decode cX3_average 89 = .ok (.lstore 8, 2) := by decide +kernel
theorem dX3_average_91 : decode cX3_average 91 = .ok (.iload_n 3, 1) := by decide +kernel
theorem dX3_average_92 : decode cX3_average 92 = .ok (.ifCond .ne 11, 3) := by decide +kernel
theorem dX3_average_95 : decode cX3_average 95 = .ok (.lload 6, 2) := by decide +kernel
theorem dX3_average_97 : decode cX3_average 97 = .ok (.lload 8, 2) := by decide +kernel
theorem dX3_average_99 : decode cX3_average 99 = .ok (.ldiv, 1) := by decide +kernel
theorem dX3_average_100 : decode cX3_average 100 = .ok (.goto 8, 3) := by decide +kernel
theorem dX3_average_103 : decode cX3_average 103 = .ok (.lload 4, 2) := by decide +kernel
theorem dX3_average_105 : decode cX3_average 105 = .ok (.lload 8, 2) := by decide +kernel
theorem dX3_average_107 : decode cX3_average 107 = .ok (.ldiv, 1) := by decide +kernel
theorem dX3_average_108 : decode cX3_average 108 = .ok (.lreturn, 1) := by decide +kernel
set_option maxRecDepth 20000 in
theorem ggX3_range_X3_kilometresOn : GoodIn wsX3_range wsX3_kilometresOn := goodIn_r _ [7] (by decide +kernel) (by decide +kernel)
set_option maxRecDepth 20000 in
theorem gX3_range_X3_kilometresOn : GoodIn wsX3_range (va_wsS RX3 168 yX3_kilometresOn wsX3_kilometresOn) := goodIn_app (goodIn_of _ (by decide +kernel)) ggX3_range_X3_kilometresOn
theorem dX3_range_0 : decode cX3_range 0 = .ok (.iload_n 1, 1) := by decide +kernel
theorem dX3_range_1 : decode cX3_range 1 = .ok (.ifCond .eq 20, 3) := by decide +kernel
theorem dX3_range_4 : decode cX3_range 4 = .ok (.aload_n 0, 1) := by decide +kernel
theorem dX3_range_5 : decode cX3_range 5 = .ok (.getfield 10, 3) := by decide +kernel
theorem dX3_range_8 : decode cX3_range 8 = .ok (.getfield 115, 3) := by decide +kernel
theorem dX3_range_11 : decode cX3_range 11 = .ok (.aload_n 0, 1) := by decide +kernel
theorem dX3_range_12 : decode cX3_range 12 = .ok (.getfield 50, 3) := by decide +kernel
theorem dX3_range_15 : decode cX3_range 15 = .ok (.invokestatic 168, 3) := by decide +kernel
theorem dX3_range_18 : decode cX3_range 18 = .ok (.goto 17, 3) := by decide +kernel
theorem dX3_range_21 : decode cX3_range 21 = .ok (.aload_n 0, 1) := by decide +kernel
theorem dX3_range_22 : decode cX3_range 22 = .ok (.getfield 10, 3) := by decide +kernel
theorem dX3_range_25 : decode cX3_range 25 = .ok (.getfield 122, 3) := by decide +kernel
theorem dX3_range_28 : decode cX3_range 28 = .ok (.aload_n 0, 1) := by decide +kernel
theorem dX3_range_29 : decode cX3_range 29 = .ok (.getfield 53, 3) := by decide +kernel
theorem dX3_range_32 : decode cX3_range 32 = .ok (.invokestatic 168, 3) := by decide +kernel
theorem dX3_range_35 : decode cX3_range 35 = .ok (.ireturn, 1) := by decide +kernel
theorem dX3_shown_0 : decode cX3_shown 0 = .ok (.aload_n 0, 1) := by decide +kernel
theorem dX3_shown_1 : decode cX3_shown 1 = .ok (.getfield 10, 3) := by decide +kernel
theorem dX3_shown_4 : decode cX3_shown 4 = .ok (.getfield 171, 3) := by decide +kernel
theorem dX3_shown_7 : decode cX3_shown 7 = .ok (.ireturn, 1) := by decide +kernel
set_option maxRecDepth 20000 in
theorem ggX3_refill_X0_tellsRefill : GoodIn wsX3_refill wsX0_tellsRefill := goodIn_r _ [7, 8, 33, 34, 35, 36, 37, 38, 39, 40, 41, 42, 43, 44, 45, 46, 47] (by decide +kernel) (by decide +kernel)
set_option maxRecDepth 20000 in
theorem gX3_refill_X0_tellsRefill_n174 : GoodIn wsX3_refill (wsX0_tellsRefill) := ggX3_refill_X0_tellsRefill
set_option maxRecDepth 20000 in
theorem ggX3_refill_X0_amount : GoodIn wsX3_refill wsX0_amount := goodIn_r _ [11, 12, 13, 14, 15, 5, 16, 17, 18, 19, 20, 33, 34, 35, 36, 37, 38, 39, 40, 41, 42, 43, 44, 45, 46, 47] (by decide +kernel) (by decide +kernel)
set_option maxRecDepth 20000 in
theorem gX3_refill_X0_amount_n179 : GoodIn wsX3_refill (wsX0_amount) := ggX3_refill_X0_amount
theorem dX3_refill_0 : decode cX3_refill 0 = .ok (.aload_n 0, 1) := by decide +kernel
theorem dX3_refill_1 : decode cX3_refill 1 = .ok (.getfield 10, 3) := by decide +kernel
theorem dX3_refill_4 : decode cX3_refill 4 = .ok (.iload_n 1, 1) := by decide +kernel
theorem dX3_refill_5 : decode cX3_refill 5 = .ok (.invokevirtual 174, 3) := by decide +kernel
theorem dX3_refill_8 : decode cX3_refill 8 = .ok (.ifCond .ne 13, 3) := by decide +kernel
theorem dX3_refill_11 : decode cX3_refill 11 = .ok (.new 141, 3) := by decide +kernel
theorem dX3_refill_14 : decode cX3_refill 14 = .ok (.dup, 1) := by decide +kernel
theorem dX3_refill_15 : decode cX3_refill 15 = .ok (.ldc 177, 2) := by decide +kernel
theorem dX3_refill_17 : decode cX3_refill 17 = .ok (.invokespecial 145, 3) := by decide +kernel
theorem dX3_refill_20 : decode cX3_refill 20 = .ok (.athrow, 1) := by decide +kernel
theorem dX3_refill_21 : decode cX3_refill 21 = .ok (.aload_n 0, 1) := by decide +kernel
theorem dX3_refill_22 : decode cX3_refill 22 = .ok (.getfield 10, 3) := by decide +kernel
theorem dX3_refill_25 : decode cX3_refill 25 = .ok (.iload_n 1, 1) := by decide +kernel
theorem dX3_refill_26 : decode cX3_refill 26 = .ok (.iload_n 2, 1) := by decide +kernel
theorem dX3_refill_27 : decode cX3_refill 27 = .ok (.invokevirtual 179, 3) := by decide +kernel
theorem dX3_refill_30 : decode cX3_refill 30 = .ok (.ireturn, 1) := by decide +kernel
set_option maxRecDepth 20000 in
theorem ggX3_plan_X1_read : GoodIn wsX3_plan wsX1_read := goodIn_r _ [9, 10, 11, 12, 72, 73, 74, 75, 76, 77, 78, 79, 80] (by decide +kernel) (by decide +kernel)
set_option maxRecDepth 20000 in
theorem gX3_plan_X1_read_n183 : GoodIn wsX3_plan (wsX1_read) := ggX3_plan_X1_read
set_option maxRecDepth 20000 in
theorem ggX3_plan_X2_shorten : GoodIn wsX3_plan wsX2_shorten := goodIn_r _ [16, 17, 72, 73] (by decide +kernel) (by decide +kernel)
set_option maxRecDepth 20000 in
theorem gX3_plan_X2_shorten_n74 : GoodIn wsX3_plan (wsX2_shorten) := ggX3_plan_X2_shorten
set_option maxRecDepth 20000 in
theorem ggX3_plan_X1_reckon : GoodIn wsX3_plan wsX1_reckon := goodIn_r _ [20, 21, 22, 23, 24, 11, 25, 26, 27, 28, 29, 7, 30, 10, 31, 32, 33, 34, 12, 35, 36, 37, 38, 39, 40, 41, 42, 43, 44, 74, 75, 76, 77, 78, 79, 80] (by decide +kernel) (by decide +kernel)
set_option maxRecDepth 20000 in
theorem gX3_plan_X1_reckon_n187 : GoodIn wsX3_plan (wsX1_reckon) := ggX3_plan_X1_reckon
theorem dX3_plan_0 : decode cX3_plan 0 = .ok (.aload_n 0, 1) := by decide +kernel
theorem dX3_plan_1 : decode cX3_plan 1 = .ok (.getfield 29, 3) := by decide +kernel
theorem dX3_plan_4 : decode cX3_plan 4 = .ok (.aload_n 0, 1) := by decide +kernel
theorem dX3_plan_5 : decode cX3_plan 5 = .ok (.getfield 22, 3) := by decide +kernel
theorem dX3_plan_8 : decode cX3_plan 8 = .ok (.aload_n 0, 1) := by decide +kernel
theorem dX3_plan_9 : decode cX3_plan 9 = .ok (.getfield 53, 3) := by decide +kernel
theorem dX3_plan_12 : decode cX3_plan 12 = .ok (.invokevirtual 183, 3) := by decide +kernel
theorem dX3_plan_15 : decode cX3_plan 15 = .ok (.istore_n 1, 1) := by decide +kernel
theorem dX3_plan_16 : decode cX3_plan 16 = .ok (.aload_n 0, 1) := by decide +kernel
theorem dX3_plan_17 : decode cX3_plan 17 = .ok (.getfield 22, 3) := by decide +kernel
theorem dX3_plan_20 : decode cX3_plan 20 = .ok (.iconst 0, 1) := by decide +kernel
theorem dX3_plan_21 : decode cX3_plan 21 = .ok (.invokevirtual 74, 3) := by decide +kernel
theorem dX3_plan_24 : decode cX3_plan 24 = .ok (.pop, 1) := by decide +kernel
theorem dX3_plan_25 : decode cX3_plan 25 = .ok (.iload_n 1, 1) := by decide +kernel
theorem dX3_plan_26 : decode cX3_plan 26 = .ok (.ifCond .ne 6, 3) := by decide +kernel
theorem dX3_plan_29 : decode cX3_plan 29 = .ok (.bipush (-2), 2) := by decide +kernel
theorem dX3_plan_31 : decode cX3_plan 31 = .ok (.ireturn, 1) := by decide +kernel
theorem dX3_plan_32 : decode cX3_plan 32 = .ok (.aload_n 0, 1) := by decide +kernel
theorem dX3_plan_33 : decode cX3_plan 33 = .ok (.getfield 29, 3) := by decide +kernel
theorem dX3_plan_36 : decode cX3_plan 36 = .ok (.aload_n 0, 1) := by decide +kernel
theorem dX3_plan_37 : decode cX3_plan 37 = .ok (.getfield 10, 3) := by decide +kernel
theorem dX3_plan_40 : decode cX3_plan 40 = .ok (.getfield 122, 3) := by decide +kernel
theorem dX3_plan_43 : decode cX3_plan 43 = .ok (.sipush 1000, 3) := by decide +kernel
theorem dX3_plan_46 : decode cX3_plan 46 = .ok (.idiv, 1) := by decide +kernel
theorem dX3_plan_47 : decode cX3_plan 47 = .ok (.aload_n 0, 1) := by decide +kernel
theorem dX3_plan_48 : decode cX3_plan 48 = .ok (.getfield 34, 3) := by decide +kernel
theorem dX3_plan_51 : decode cX3_plan 51 = .ok (.sipush 1000, 3) := by decide +kernel
theorem dX3_plan_54 : decode cX3_plan 54 = .ok (.idiv, 1) := by decide +kernel
theorem dX3_plan_55 : decode cX3_plan 55 = .ok (.invokevirtual 187, 3) := by decide +kernel
theorem dX3_plan_58 : decode cX3_plan 58 = .ok (.ireturn, 1) := by decide +kernel
set_option maxRecDepth 20000 in
theorem ggX3_buys_X1_boughtAt : GoodIn wsX3_buys wsX1_boughtAt := goodIn_r _ [5, 6, 7, 20, 21, 22, 23, 24, 25, 26] (by decide +kernel) (by decide +kernel)
set_option maxRecDepth 20000 in
theorem gX3_buys_X1_boughtAt_n190 : GoodIn wsX3_buys (wsX1_boughtAt) := ggX3_buys_X1_boughtAt
theorem dX3_buys_0 : decode cX3_buys 0 = .ok (.aload_n 0, 1) := by decide +kernel
theorem dX3_buys_1 : decode cX3_buys 1 = .ok (.getfield 29, 3) := by decide +kernel
theorem dX3_buys_4 : decode cX3_buys 4 = .ok (.iload_n 1, 1) := by decide +kernel
theorem dX3_buys_5 : decode cX3_buys 5 = .ok (.invokevirtual 190, 3) := by decide +kernel
theorem dX3_buys_8 : decode cX3_buys 8 = .ok (.ireturn, 1) := by decide +kernel
theorem dX3_count_0 : decode cX3_count 0 = .ok (.iload_n 1, 1) := by decide +kernel
theorem dX3_count_1 : decode cX3_count 1 = .ok (.tableswitch 75 0 4 #[35, 43, 51, 59, 67], 35) := by decide +kernel
theorem dX3_count_36 : decode cX3_count 36 = .ok (.aload_n 0, 1) := by decide +kernel
theorem dX3_count_37 : decode cX3_count 37 = .ok (.getfield 10, 3) := by decide +kernel
theorem dX3_count_40 : decode cX3_count 40 = .ok (.getfield 194, 3) := by decide +kernel
theorem dX3_count_43 : decode cX3_count 43 = .ok (.ireturn, 1) := by decide +kernel
theorem dX3_count_44 : decode cX3_count 44 = .ok (.aload_n 0, 1) := by decide +kernel
theorem dX3_count_45 : decode cX3_count 45 = .ok (.getfield 10, 3) := by decide +kernel
theorem dX3_count_48 : decode cX3_count 48 = .ok (.getfield 197, 3) := by decide +kernel
theorem dX3_count_51 : decode cX3_count 51 = .ok (.ireturn, 1) := by decide +kernel
theorem dX3_count_52 : decode cX3_count 52 = .ok (.aload_n 0, 1) := by decide +kernel
theorem dX3_count_53 : decode cX3_count 53 = .ok (.getfield 10, 3) := by decide +kernel
theorem dX3_count_56 : decode cX3_count 56 = .ok (.getfield 200, 3) := by decide +kernel
theorem dX3_count_59 : decode cX3_count 59 = .ok (.ireturn, 1) := by decide +kernel
theorem dX3_count_60 : decode cX3_count 60 = .ok (.aload_n 0, 1) := by decide +kernel
theorem dX3_count_61 : decode cX3_count 61 = .ok (.getfield 10, 3) := by decide +kernel
theorem dX3_count_64 : decode cX3_count 64 = .ok (.getfield 203, 3) := by decide +kernel
theorem dX3_count_67 : decode cX3_count 67 = .ok (.ireturn, 1) := by decide +kernel
theorem dX3_count_68 : decode cX3_count 68 = .ok (.aload_n 0, 1) := by decide +kernel
theorem dX3_count_69 : decode cX3_count 69 = .ok (.getfield 22, 3) := by decide +kernel
theorem dX3_count_72 : decode cX3_count 72 = .ok (.getfield 71, 3) := by decide +kernel
theorem dX3_count_75 : decode cX3_count 75 = .ok (.ireturn, 1) := by decide +kernel
theorem dX3_count_76 : decode cX3_count 76 = .ok (.iconst (-1), 1) := by decide +kernel
theorem dX3_count_77 : decode cX3_count 77 = .ok (.ireturn, 1) := by decide +kernel
theorem dX3_within_0 : decode cX3_within 0 = .ok (.iload_n 0, 1) := by decide +kernel
theorem dX3_within_1 : decode cX3_within 1 = .ok (.iload_n 1, 1) := by decide +kernel
theorem dX3_within_2 : decode cX3_within 2 = .ok (.if_icmp .lt 12, 3) := by decide +kernel
theorem dX3_within_5 : decode cX3_within 5 = .ok (.iload_n 0, 1) := by decide +kernel
theorem dX3_within_6 : decode cX3_within 6 = .ok (.iload_n 2, 1) := by decide +kernel
theorem dX3_within_7 : decode cX3_within 7 = .ok (.if_icmp .gt 7, 3) := by decide +kernel
theorem dX3_within_10 : decode cX3_within 10 = .ok (.iconst 1, 1) := by decide +kernel
theorem dX3_within_11 : decode cX3_within 11 = .ok (.goto 4, 3) := by decide +kernel
theorem dX3_within_14 : decode cX3_within 14 = .ok (.iconst 0, 1) := by decide +kernel
theorem dX3_within_15 : decode cX3_within 15 = .ok (.ireturn, 1) := by decide +kernel
set_option maxRecDepth 20000 in
theorem ggX3_isMark_X3_within : GoodIn wsX3_isMark wsX3_within := goodIn_r _ [4] (by decide +kernel) (by decide +kernel)
set_option maxRecDepth 20000 in
theorem gX3_isMark_X3_within : GoodIn wsX3_isMark (va_wsS RX3 79 yX3_within wsX3_within) := goodIn_app (goodIn_of _ (by decide +kernel)) ggX3_isMark_X3_within
theorem dX3_isMark_0 : decode cX3_isMark 0 = .ok (.iload_n 0, 1) := by decide +kernel
theorem dX3_isMark_1 : decode cX3_isMark 1 = .ok (.iconst 0, 1) := by decide +kernel
theorem dX3_isMark_2 : decode cX3_isMark 2 = .ok (.iconst 3, 1) := by decide +kernel
theorem dX3_isMark_3 : decode cX3_isMark 3 = .ok (.invokestatic 79, 3) := by decide +kernel
theorem dX3_isMark_6 : decode cX3_isMark 6 = .ok (.ireturn, 1) := by decide +kernel
set_option maxRecDepth 20000 in
theorem ggX3_checkedBounds_X3_within : GoodIn wsX3_checkedBounds wsX3_within := goodIn_r _ [4] (by decide +kernel) (by decide +kernel)
set_option maxRecDepth 20000 in
theorem gX3_checkedBounds_X3_within : GoodIn wsX3_checkedBounds (va_wsS RX3 79 yX3_within wsX3_within) := goodIn_app (goodIn_of _ (by decide +kernel)) ggX3_checkedBounds_X3_within
theorem dX3_checkedBounds_0 : decode cX3_checkedBounds 0 = .ok (.iload_n 0, 1) := by decide +kernel
theorem dX3_checkedBounds_1 : decode cX3_checkedBounds 1 = .ok (.iconst 1, 1) := by decide +kernel
theorem dX3_checkedBounds_2 : decode cX3_checkedBounds 2 = .ok (.sipush 200, 3) := by decide +kernel
theorem dX3_checkedBounds_5 : decode cX3_checkedBounds 5 = .ok (.invokestatic 79, 3) := by decide +kernel
theorem dX3_checkedBounds_8 : decode cX3_checkedBounds 8 = .ok (.ifCond .eq 37, 3) := by decide +kernel
theorem dX3_checkedBounds_11 : decode cX3_checkedBounds 11 = .ok (.iload_n 1, 1) := by decide +kernel
theorem dX3_checkedBounds_12 : decode cX3_checkedBounds 12 = .ok (.iconst 1, 1) := by decide +kernel
theorem dX3_checkedBounds_13 : decode cX3_checkedBounds 13 = .ok (.bipush 100, 2) := by decide +kernel
theorem dX3_checkedBounds_15 : decode cX3_checkedBounds 15 = .ok (.invokestatic 79, 3) := by decide +kernel
theorem dX3_checkedBounds_18 : decode cX3_checkedBounds 18 = .ok (.ifCond .eq 27, 3) := by decide +kernel
theorem dX3_checkedBounds_21 : decode cX3_checkedBounds 21 = .ok (.iload_n 3, 1) := by decide +kernel
theorem dX3_checkedBounds_22 : decode cX3_checkedBounds 22 = .ok (.iconst 1, 1) := by decide +kernel
theorem dX3_checkedBounds_23 : decode cX3_checkedBounds 23 = .ok (.sipush 1000, 3) := by decide +kernel
theorem dX3_checkedBounds_26 : decode cX3_checkedBounds 26 = .ok (.invokestatic 79, 3) := by decide +kernel
theorem dX3_checkedBounds_29 : decode cX3_checkedBounds 29 = .ok (.ifCond .eq 16, 3) := by decide +kernel
theorem dX3_checkedBounds_32 : decode cX3_checkedBounds 32 = .ok (.iload_n 2, 1) := by decide +kernel
theorem dX3_checkedBounds_33 : decode cX3_checkedBounds 33 = .ok (.iconst 1, 1) := by decide +kernel
theorem dX3_checkedBounds_34 : decode cX3_checkedBounds 34 = .ok (.iload_n 3, 1) := by decide +kernel
theorem dX3_checkedBounds_35 : decode cX3_checkedBounds 35 = .ok (.invokestatic 79, 3) := by decide +kernel
theorem dX3_checkedBounds_38 : decode cX3_checkedBounds 38 = .ok (.ifCond .eq 7, 3) := by decide +kernel
theorem dX3_checkedBounds_41 : decode cX3_checkedBounds 41 = .ok (.iconst 1, 1) := by decide +kernel
theorem dX3_checkedBounds_42 : decode cX3_checkedBounds 42 = .ok (.goto 4, 3) := by decide +kernel
theorem dX3_checkedBounds_45 : decode cX3_checkedBounds 45 = .ok (.iconst 0, 1) := by decide +kernel
theorem dX3_checkedBounds_46 : decode cX3_checkedBounds 46 = .ok (.ireturn, 1) := by decide +kernel
set_option maxRecDepth 20000 in
theorem ggX3_gapFits_X3_within : GoodIn wsX3_gapFits wsX3_within := goodIn_r _ [8] (by decide +kernel) (by decide +kernel)
set_option maxRecDepth 20000 in
theorem gX3_gapFits_X3_within : GoodIn wsX3_gapFits (va_wsS RX3 79 yX3_within wsX3_within) := goodIn_app (goodIn_of _ (by decide +kernel)) ggX3_gapFits_X3_within
theorem dX3_gapFits_0 : decode cX3_gapFits 0 = .ok (.iload_n 1, 1) := by decide +kernel
theorem dX3_gapFits_1 : decode cX3_gapFits 1 = .ok (.iconst 1, 1) := by decide +kernel
theorem dX3_gapFits_2 : decode cX3_gapFits 2 = .ok (.ldc 206, 2) := by decide +kernel
theorem dX3_gapFits_4 : decode cX3_gapFits 4 = .ok (.invokestatic 79, 3) := by decide +kernel
theorem dX3_gapFits_7 : decode cX3_gapFits 7 = .ok (.ifCond .eq 27, 3) := by decide +kernel
theorem dX3_gapFits_10 : decode cX3_gapFits 10 = .ok (.aload_n 0, 1) := by decide +kernel
theorem dX3_gapFits_11 : decode cX3_gapFits 11 = .ok (.getfield 56, 3) := by decide +kernel
theorem dX3_gapFits_14 : decode cX3_gapFits 14 = .ok (.aload_n 0, 1) := by decide +kernel
theorem dX3_gapFits_15 : decode cX3_gapFits 15 = .ok (.getfield 44, 3) := by decide +kernel
theorem dX3_gapFits_18 : decode cX3_gapFits 18 = .ok (.i2l, 1) := by decide +kernel
theorem dX3_gapFits_19 : decode cX3_gapFits 19 = .ok (.iload_n 1, 1) := by decide +kernel
theorem dX3_gapFits_20 : decode cX3_gapFits 20 = .ok (.i2l, 1) := by decide +kernel
theorem dX3_gapFits_21 : decode cX3_gapFits 21 = .ok (.lmul, 1) := by decide +kernel
theorem dX3_gapFits_22 : decode cX3_gapFits 22 = .ok (.ladd, 1) := by decide +kernel
theorem dX3_gapFits_23 : decode cX3_gapFits 23 = .ok (.ldc2_w 88, 3) := by decide +kernel
theorem dX3_gapFits_26 : decode cX3_gapFits 26 = .ok (.lcmp, 1) := by decide +kernel
theorem dX3_gapFits_27 : decode cX3_gapFits 27 = .ok (.ifCond .gt 7, 3) := by decide +kernel
theorem dX3_gapFits_30 : decode cX3_gapFits 30 = .ok (.iconst 1, 1) := by decide +kernel
theorem dX3_gapFits_31 : decode cX3_gapFits 31 = .ok (.goto 4, 3) := by decide +kernel
theorem dX3_gapFits_34 : decode cX3_gapFits 34 = .ok (.iconst 0, 1) := by decide +kernel
theorem dX3_gapFits_35 : decode cX3_gapFits 35 = .ok (.ireturn, 1) := by decide +kernel
set_option maxRecDepth 20000 in
theorem ggX3_passGap_X0_pass : GoodIn wsX3_passGap wsX0_pass := goodIn_r _ [8, 9, 10, 11, 45, 46, 47, 48, 49, 50, 51, 52, 53, 54, 55, 56, 57, 58, 59] (by decide +kernel) (by decide +kernel)
set_option maxRecDepth 20000 in
theorem gX3_passGap_X0_pass_n90 : GoodIn wsX3_passGap (wsX0_pass) := ggX3_passGap_X0_pass
set_option maxRecDepth 20000 in
theorem ggX3_passGap_X0_doubt : GoodIn wsX3_passGap wsX0_doubt := goodIn_r _ [14, 15, 16, 17, 18, 19, 45, 46, 47, 48, 49, 50, 51, 52, 53, 54, 55, 56, 57, 58, 59] (by decide +kernel) (by decide +kernel)
set_option maxRecDepth 20000 in
theorem gX3_passGap_X0_doubt_n207 : GoodIn wsX3_passGap (wsX0_doubt) := ggX3_passGap_X0_doubt
set_option maxRecDepth 20000 in
theorem ggX3_passGap_X0_showStep : GoodIn wsX3_passGap wsX0_showStep := goodIn_r _ [22, 23, 24, 25, 26, 6, 27, 15, 28, 29, 30, 31, 32, 45, 46, 47, 48, 49, 50, 51, 52, 53, 54, 55, 56, 57, 58, 59] (by decide +kernel) (by decide +kernel)
set_option maxRecDepth 20000 in
theorem gX3_passGap_X0_showStep_n97 : GoodIn wsX3_passGap (wsX0_showStep) := ggX3_passGap_X0_showStep
theorem dX3_passGap_0 : decode cX3_passGap 0 = .ok (.aload_n 0, 1) := by decide +kernel
theorem dX3_passGap_1 : decode cX3_passGap 1 = .ok (.getfield 44, 3) := by decide +kernel
theorem dX3_passGap_4 : decode cX3_passGap 4 = .ok (.iload_n 1, 1) := by decide +kernel
theorem dX3_passGap_5 : decode cX3_passGap 5 = .ok (.imul, 1) := by decide +kernel
theorem dX3_passGap_6 : decode cX3_passGap 6 = .ok (.istore_n 2, 1) := by decide +kernel
theorem dX3_passGap_7 : decode cX3_passGap 7 = .ok (.aload_n 0, 1) := by decide +kernel
theorem dX3_passGap_8 : decode cX3_passGap 8 = .ok (.getfield 47, 3) := by decide +kernel
theorem dX3_passGap_11 : decode cX3_passGap 11 = .ok (.iload_n 1, 1) := by decide +kernel
theorem dX3_passGap_12 : decode cX3_passGap 12 = .ok (.imul, 1) := by decide +kernel
theorem dX3_passGap_13 : decode cX3_passGap 13 = .ok (.istore_n 3, 1) := by decide +kernel
theorem dX3_passGap_14 : decode cX3_passGap 14 = .ok (.aload_n 0, 1) := by decide +kernel
theorem dX3_passGap_15 : decode cX3_passGap 15 = .ok (.dup, 1) := by decide +kernel
theorem dX3_passGap_16 : decode cX3_passGap 16 = .ok (.getfield 56, 3) := by decide +kernel
theorem dX3_passGap_19 : decode cX3_passGap 19 = .ok (.iload_n 2, 1) := by decide +kernel
theorem dX3_passGap_20 : decode cX3_passGap 20 = .ok (.i2l, 1) := by decide +kernel
theorem dX3_passGap_21 : decode cX3_passGap 21 = .ok (.ladd, 1) := by decide +kernel
theorem dX3_passGap_22 : decode cX3_passGap 22 = .ok (.putfield 56, 3) := by decide +kernel
theorem dX3_passGap_25 : decode cX3_passGap 25 = .ok (.aload_n 0, 1) := by decide +kernel
theorem dX3_passGap_26 : decode cX3_passGap 26 = .ok (.getfield 10, 3) := by decide +kernel
theorem dX3_passGap_29 : decode cX3_passGap 29 = .ok (.iconst 0, 1) := by decide +kernel
theorem dX3_passGap_30 : decode cX3_passGap 30 = .ok (.iload_n 2, 1) := by decide +kernel
theorem dX3_passGap_31 : decode cX3_passGap 31 = .ok (.iconst 0, 1) := by decide +kernel
theorem dX3_passGap_32 : decode cX3_passGap 32 = .ok (.iload_n 3, 1) := by decide +kernel
theorem dX3_passGap_33 : decode cX3_passGap 33 = .ok (.iload_n 1, 1) := by decide +kernel
theorem dX3_passGap_34 : decode cX3_passGap 34 = .ok (.invokevirtual 90, 3) := by decide +kernel
theorem dX3_passGap_37 : decode cX3_passGap 37 = .ok (.aload_n 0, 1) := by decide +kernel
theorem dX3_passGap_38 : decode cX3_passGap 38 = .ok (.getfield 10, 3) := by decide +kernel
theorem dX3_passGap_41 : decode cX3_passGap 41 = .ok (.iload_n 3, 1) := by decide +kernel
theorem dX3_passGap_42 : decode cX3_passGap 42 = .ok (.invokevirtual 207, 3) := by decide +kernel
theorem dX3_passGap_45 : decode cX3_passGap 45 = .ok (.aload_n 0, 1) := by decide +kernel
theorem dX3_passGap_46 : decode cX3_passGap 46 = .ok (.getfield 10, 3) := by decide +kernel
theorem dX3_passGap_49 : decode cX3_passGap 49 = .ok (.invokevirtual 97, 3) := by decide +kernel
theorem dX3_passGap_52 : decode cX3_passGap 52 = .ok (.return_, 1) := by decide +kernel
set_option maxRecDepth 20000 in
theorem ggX3_wayInHundredths_X0_marked : GoodIn wsX3_wayInHundredths wsX0_marked := goodIn_r _ [6, 7, 20, 21, 22, 23, 24, 25, 26, 27, 28, 29, 30, 31, 32, 33, 34] (by decide +kernel) (by decide +kernel)
set_option maxRecDepth 20000 in
theorem gX3_wayInHundredths_X0_marked_n148 : GoodIn wsX3_wayInHundredths (wsX0_marked) := ggX3_wayInHundredths_X0_marked
theorem dX3_wayInHundredths_0 : decode cX3_wayInHundredths 0 = .ok (.aload_n 0, 1) := by decide +kernel
theorem dX3_wayInHundredths_1 : decode cX3_wayInHundredths 1 = .ok (.getfield 10, 3) := by decide +kernel
theorem dX3_wayInHundredths_4 : decode cX3_wayInHundredths 4 = .ok (.iload_n 1, 1) := by decide +kernel
theorem dX3_wayInHundredths_5 : decode cX3_wayInHundredths 5 = .ok (.iload_n 2, 1) := by decide +kernel
theorem dX3_wayInHundredths_6 : decode cX3_wayInHundredths 6 = .ok (.ifCond .eq 7, 3) := by decide +kernel
theorem dX3_wayInHundredths_9 : decode cX3_wayInHundredths 9 = .ok (.iconst 1, 1) := by decide +kernel
theorem dX3_wayInHundredths_10 : decode cX3_wayInHundredths 10 = .ok (.goto 4, 3) := by decide +kernel
theorem dX3_wayInHundredths_13 : decode cX3_wayInHundredths 13 = .ok (.iconst 0, 1) := by decide +kernel
theorem dX3_wayInHundredths_14 : decode cX3_wayInHundredths 14 = .ok (.invokevirtual 148, 3) := by decide +kernel
theorem dX3_wayInHundredths_17 : decode cX3_wayInHundredths 17 = .ok (.aload_n 0, 1) := by decide +kernel
theorem dX3_wayInHundredths_18 : decode cX3_wayInHundredths 18 = .ok (.getfield 38, 3) := by decide +kernel
theorem dX3_wayInHundredths_21 : decode cX3_wayInHundredths 21 = .ok (.i2l, 1) := by decide +kernel
theorem dX3_wayInHundredths_22 : decode cX3_wayInHundredths 22 = .ok (.lmul, 1) := by decide +kernel
theorem dX3_wayInHundredths_23 : decode cX3_wayInHundredths 23 = .ok (.lreturn, 1) := by decide +kernel
theorem dX3_kilometresOn_0 : decode cX3_kilometresOn 0 = .ok (.iload_n 1, 1) := by decide +kernel
theorem dX3_kilometresOn_1 : decode cX3_kilometresOn 1 = .ok (.iconst 1, 1) := by decide +kernel
theorem dX3_kilometresOn_2 : decode cX3_kilometresOn 2 = .ok (.if_icmp .ge 7, 3) := by decide +kernel
theorem dX3_kilometresOn_5 : decode cX3_kilometresOn 5 = .ok (.iconst 0, 1) := by decide +kernel
theorem dX3_kilometresOn_6 : decode cX3_kilometresOn 6 = .ok (.goto 6, 3) := by decide +kernel
theorem dX3_kilometresOn_9 : decode cX3_kilometresOn 9 = .ok (.iload_n 0, 1) := by decide +kernel
theorem dX3_kilometresOn_10 : decode cX3_kilometresOn 10 = .ok (.iload_n 1, 1) := by decide +kernel
theorem dX3_kilometresOn_11 : decode cX3_kilometresOn 11 = .ok (.idiv, 1) := by decide +kernel
theorem dX3_kilometresOn_12 : decode cX3_kilometresOn 12 = .ok (.ireturn, 1) := by decide +kernel
theorem dX3_commonDivisor_0 : decode cX3_commonDivisor 0 = .ok (.lload_n 0, 1) := by decide +kernel
theorem dX3_commonDivisor_1 : decode cX3_commonDivisor 1 = .ok (.lstore 4, 2) := by decide +kernel
theorem dX3_commonDivisor_3 : decode cX3_commonDivisor 3 = .ok (.lload_n 2, 1) := by decide +kernel
theorem dX3_commonDivisor_4 : decode cX3_commonDivisor 4 = .ok (.lstore 6, 2) := by decide +kernel
theorem dX3_commonDivisor_6 : decode cX3_commonDivisor 6 = .ok (.iconst 0, 1) := by decide +kernel
theorem dX3_commonDivisor_7 : decode cX3_commonDivisor 7 = .ok (.istore 8, 2) := by decide +kernel
theorem dX3_commonDivisor_9 : decode cX3_commonDivisor 9 = .ok (.iload 8, 2) := by decide +kernel
theorem dX3_commonDivisor_11 : decode cX3_commonDivisor 11 = .ok (.bipush 100, 2) := by decide +kernel
theorem dX3_commonDivisor_13 : decode cX3_commonDivisor 13 = .ok (.if_icmp .ge 31, 3) := by decide +kernel
theorem dX3_commonDivisor_16 : decode cX3_commonDivisor 16 = .ok (.lload 6, 2) := by decide +kernel
theorem dX3_commonDivisor_18 : decode cX3_commonDivisor 18 = .ok (.lconst 0, 1) := by decide +kernel
theorem dX3_commonDivisor_19 : decode cX3_commonDivisor 19 = .ok (.lcmp, 1) := by decide +kernel
theorem dX3_commonDivisor_20 : decode cX3_commonDivisor 20 = .ok (.ifCond .le 24, 3) := by decide +kernel
theorem dX3_commonDivisor_23 : decode cX3_commonDivisor 23 = .ok (.lload 4, 2) := by decide +kernel
theorem dX3_commonDivisor_25 : decode cX3_commonDivisor 25 = .ok (.lload 6, 2) := by decide +kernel
theorem dX3_commonDivisor_27 : decode cX3_commonDivisor 27 = .ok (.lrem, 1) := by decide +kernel
theorem dX3_commonDivisor_28 : decode cX3_commonDivisor 28 = .ok (.lstore 9, 2) := by decide +kernel
theorem dX3_commonDivisor_30 : decode cX3_commonDivisor 30 = .ok (.lload 6, 2) := by decide +kernel
theorem dX3_commonDivisor_32 : decode cX3_commonDivisor 32 = .ok (.lstore 4, 2) := by decide +kernel
theorem dX3_commonDivisor_34 : decode cX3_commonDivisor 34 = .ok (.lload 9, 2) := by decide +kernel
theorem dX3_commonDivisor_36 : decode cX3_commonDivisor 36 = .ok (.lstore 6, 2) := by decide +kernel
theorem dX3_commonDivisor_38 : decode cX3_commonDivisor 38 = .ok (.iinc 8 1, 3) := by decide +kernel
theorem dX3_commonDivisor_41 : decode cX3_commonDivisor 41 = .ok (.goto (-32), 3) := by decide +kernel
theorem dX3_commonDivisor_44 : decode cX3_commonDivisor 44 = .ok (.lconst 1, 1) := by decide +kernel
theorem dX3_commonDivisor_45 : decode cX3_commonDivisor 45 = .ok (.lload 4, 2) := by decide +kernel
theorem dX3_commonDivisor_47 : decode cX3_commonDivisor 47 = .ok (.invokestatic 210, 3) := by decide +kernel
theorem dX3_commonDivisor_50 : decode cX3_commonDivisor 50 = .ok (.lreturn, 1) := by decide +kernel
theorem dX4_init_0 : decode cX4_init 0 = .ok (.aload_n 0, 1) := by decide +kernel
theorem dX4_init_1 : decode cX4_init 1 = .ok (.invokespecial 1, 3) := by decide +kernel
theorem dX4_init_4 : decode cX4_init 4 = .ok (.aload_n 0, 1) := by decide +kernel
theorem dX4_init_5 : decode cX4_init 5 = .ok (.bipush 60, 2) := by decide +kernel
theorem dX4_init_7 : decode cX4_init 7 = .ok (.newarray .int, 2) := by decide +kernel
theorem dX4_init_9 : decode cX4_init 9 = .ok (.putfield 7, 3) := by decide +kernel
theorem dX4_init_12 : decode cX4_init 12 = .ok (.aload_n 0, 1) := by decide +kernel
theorem dX4_init_13 : decode cX4_init 13 = .ok (.bipush 92, 2) := by decide +kernel
theorem dX4_init_15 : decode cX4_init 15 = .ok (.newarray .long, 2) := by decide +kernel
theorem dX4_init_17 : decode cX4_init 17 = .ok (.putfield 13, 3) := by decide +kernel
theorem dX4_init_20 : decode cX4_init 20 = .ok (.aload_n 0, 1) := by decide +kernel
theorem dX4_init_21 : decode cX4_init 21 = .ok (.bipush 92, 2) := by decide +kernel
theorem dX4_init_23 : decode cX4_init 23 = .ok (.newarray .long, 2) := by decide +kernel
theorem dX4_init_25 : decode cX4_init 25 = .ok (.putfield 17, 3) := by decide +kernel
theorem dX4_init_28 : decode cX4_init 28 = .ok (.aload_n 0, 1) := by decide +kernel
theorem dX4_init_29 : decode cX4_init 29 = .ok (.ldc 20, 2) := by decide +kernel
theorem dX4_init_31 : decode cX4_init 31 = .ok (.putfield 21, 3) := by decide +kernel
theorem dX4_init_34 : decode cX4_init 34 = .ok (.aload_n 0, 1) := by decide +kernel
theorem dX4_init_35 : decode cX4_init 35 = .ok (.bipush 20, 2) := by decide +kernel
theorem dX4_init_37 : decode cX4_init 37 = .ok (.putfield 25, 3) := by decide +kernel
theorem dX4_init_40 : decode cX4_init 40 = .ok (.aload_n 0, 1) := by decide +kernel
theorem dX4_init_41 : decode cX4_init 41 = .ok (.bipush 10, 2) := by decide +kernel
theorem dX4_init_43 : decode cX4_init 43 = .ok (.putfield 28, 3) := by decide +kernel
theorem dX4_init_46 : decode cX4_init 46 = .ok (.aload_n 0, 1) := by decide +kernel
theorem dX4_init_47 : decode cX4_init 47 = .ok (.bipush 60, 2) := by decide +kernel
theorem dX4_init_49 : decode cX4_init 49 = .ok (.putfield 31, 3) := by decide +kernel
theorem dX4_init_52 : decode cX4_init 52 = .ok (.aload_n 0, 1) := by decide +kernel
theorem dX4_init_53 : decode cX4_init 53 = .ok (.bipush 10, 2) := by decide +kernel
theorem dX4_init_55 : decode cX4_init 55 = .ok (.putfield 34, 3) := by decide +kernel
theorem dX4_init_58 : decode cX4_init 58 = .ok (.aload_n 0, 1) := by decide +kernel
theorem dX4_init_59 : decode cX4_init 59 = .ok (.bipush 40, 2) := by decide +kernel
theorem dX4_init_61 : decode cX4_init 61 = .ok (.putfield 37, 3) := by decide +kernel
theorem dX4_init_64 : decode cX4_init 64 = .ok (.aload_n 0, 1) := by decide +kernel
