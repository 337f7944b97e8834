theorem dX4_gaps_41 : decode cX4_gaps 41 = .ok (.lmul, 1) := by decide +kernel
theorem dX4_gaps_42 : decode cX4_gaps 42 = .ok (.iload_n 1, 1) := by decide +kernel
theorem dX4_gaps_43 : decode cX4_gaps 43 = .ok (.i2l, 1) := by decide +kernel
theorem dX4_gaps_44 : decode cX4_gaps 44 = .ok (.invokevirtual 91, 3) := by decide +kernel
theorem dX4_gaps_47 : decode cX4_gaps 47 = .ok (.aload_n 0, 1) := by decide +kernel
theorem dX4_gaps_48 : decode cX4_gaps 48 = .ok (.invokevirtual 95, 3) := by decide +kernel
theorem dX4_gaps_51 : decode cX4_gaps 51 = .ok (.return_, 1) := by decide +kernel
set_option maxRecDepth 20000 in
theorem ggX4_gap_X4_begin : GoodIn wsX4_gap wsX4_begin := goodIn_r _ [6, 7, 8, 9, 10, 11, 12, 13, 5, 14, 15, 47, 48, 49, 50, 51, 52, 53, 54, 55, 56, 57, 58, 59, 60, 61, 62, 63] (by decide +kernel) (by decide +kernel)
set_option maxRecDepth 20000 in
theorem gX4_gap_X4_begin : GoodIn wsX4_gap (wsV RX4 75 RX4 yX4_begin wsX4_begin) := goodIn_app (goodIn_of _ (by decide +kernel)) ggX4_gap_X4_begin
set_option maxRecDepth 20000 in
theorem ggX4_gap_X4_mayGap : GoodIn wsX4_gap wsX4_mayGap := goodIn_r _ [19, 20, 10, 21, 22, 23, 24, 5, 25, 47, 48, 49, 50, 51, 52, 53, 54, 55, 56, 57, 58, 59, 60, 61, 62, 63] (by decide +kernel) (by decide +kernel)
set_option maxRecDepth 20000 in
theorem gX4_gap_X4_mayGap : GoodIn wsX4_gap (wsV RX4 99 RX4 yX4_mayGap wsX4_mayGap) := goodIn_app (goodIn_of _ (by decide +kernel)) ggX4_gap_X4_mayGap
set_option maxRecDepth 20000 in
theorem ggX4_gap_X4_gaps : GoodIn wsX4_gap wsX4_gaps := goodIn_r _ [29, 8, 30, 21, 31, 32, 5, 33, 34, 35, 36, 37, 10, 38, 39, 40, 41, 42, 43, 44, 45, 46, 47, 48, 49, 50, 51, 52, 53, 54, 55, 56, 57, 58, 59, 60, 61, 62, 63] (by decide +kernel) (by decide +kernel)
set_option maxRecDepth 20000 in
theorem gX4_gap_X4_gaps : GoodIn wsX4_gap (wsV RX4 103 RX4 yX4_gaps wsX4_gaps) := goodIn_app (goodIn_of _ (by decide +kernel)) ggX4_gap_X4_gaps
theorem dX4_gap_0 : decode cX4_gap 0 = .ok (.aload_n 0, 1) := by decide +kernel
theorem dX4_gap_1 : decode cX4_gap 1 = .ok (.iconst 0, 1) := by decide +kernel
theorem dX4_gap_2 : decode cX4_gap 2 = .ok (.putfield 49, 3) := by decide +kernel
theorem dX4_gap_5 : decode cX4_gap 5 = .ok (.aload_n 0, 1) := by decide +kernel
theorem dX4_gap_6 : decode cX4_gap 6 = .ok (.invokevirtual 75, 3) := by decide +kernel
theorem dX4_gap_9 : decode cX4_gap 9 = .ok (.aload_n 0, 1) := by decide +kernel
theorem dX4_gap_10 : decode cX4_gap 10 = .ok (.iload_n 1, 1) := by decide +kernel
theorem dX4_gap_11 : decode cX4_gap 11 = .ok (.invokevirtual 99, 3) := by decide +kernel
theorem dX4_gap_14 : decode cX4_gap 14 = .ok (.ifCond .ne 5, 3) := by decide +kernel
theorem dX4_gap_17 : decode cX4_gap 17 = .ok (.iconst 0, 1) := by decide +kernel
theorem dX4_gap_18 : decode cX4_gap 18 = .ok (.ireturn, 1) := by decide +kernel
theorem dX4_gap_19 : decode cX4_gap 19 = .ok (.aload_n 0, 1) := by decide +kernel
theorem dX4_gap_20 : decode cX4_gap 20 = .ok (.iload_n 1, 1) := by decide +kernel
theorem dX4_gap_21 : decode cX4_gap 21 = .ok (.invokevirtual 103, 3) := by decide +kernel
theorem dX4_gap_24 : decode cX4_gap 24 = .ok (.iconst 1, 1) := by decide +kernel
theorem dX4_gap_25 : decode cX4_gap 25 = .ok (.ireturn, 1) := by decide +kernel
set_option maxRecDepth 20000 in
theorem ggX4_dead_X4_begin : GoodIn wsX4_dead wsX4_begin := goodIn_r _ [8, 9, 2, 10, 11, 12, 13, 14, 7, 15, 3, 47, 48, 49, 50, 51, 52, 53, 54, 55, 56, 57, 58, 59, 60, 61, 62, 63] (by decide +kernel) (by decide +kernel)
set_option maxRecDepth 20000 in
theorem gX4_dead_X4_begin : GoodIn wsX4_dead (wsV RX4 75 RX4 yX4_begin wsX4_begin) := goodIn_app (goodIn_of _ (by decide +kernel)) ggX4_dead_X4_begin
set_option maxRecDepth 20000 in
theorem ggX4_dead_X4_mayGap : GoodIn wsX4_dead wsX4_mayGap := goodIn_r _ [19, 20, 11, 21, 22, 23, 24, 7, 25, 47, 48, 49, 50, 51, 52, 53, 54, 55, 56, 57, 58, 59, 60, 61, 62, 63] (by decide +kernel) (by decide +kernel)
set_option maxRecDepth 20000 in
theorem gX4_dead_X4_mayGap : GoodIn wsX4_dead (wsV RX4 99 RX4 yX4_mayGap wsX4_mayGap) := goodIn_app (goodIn_of _ (by decide +kernel)) ggX4_dead_X4_mayGap
set_option maxRecDepth 20000 in
theorem ggX4_dead_X4_gaps : GoodIn wsX4_dead wsX4_gaps := goodIn_r _ [29, 2, 30, 21, 31, 32, 7, 33, 34, 35, 36, 37, 11, 38, 39, 40, 41, 42, 43, 44, 45, 46, 47, 48, 49, 50, 51, 52, 53, 54, 55, 56, 57, 58, 59, 60, 61, 62, 63] (by decide +kernel) (by decide +kernel)
set_option maxRecDepth 20000 in
theorem gX4_dead_X4_gaps : GoodIn wsX4_dead (wsV RX4 103 RX4 yX4_gaps wsX4_gaps) := goodIn_app (goodIn_of _ (by decide +kernel)) ggX4_dead_X4_gaps
theorem dX4_dead_0 : decode cX4_dead 0 = .ok (.aload_n 0, 1) := by decide +kernel
theorem dX4_dead_1 : decode cX4_dead 1 = .ok (.iconst 0, 1) := by decide +kernel
theorem dX4_dead_2 : decode cX4_dead 2 = .ok (.putfield 49, 3) := by decide +kernel
theorem dX4_dead_5 : decode cX4_dead 5 = .ok (.aload_n 0, 1) := by decide +kernel
theorem dX4_dead_6 : decode cX4_dead 6 = .ok (.invokevirtual 75, 3) := by decide +kernel
theorem dX4_dead_9 : decode cX4_dead 9 = .ok (.aload_n 0, 1) := by decide +kernel
theorem dX4_dead_10 : decode cX4_dead 10 = .ok (.iload_n 1, 1) := by decide +kernel
theorem dX4_dead_11 : decode cX4_dead 11 = .ok (.invokevirtual 99, 3) := by decide +kernel
theorem dX4_dead_14 : decode cX4_dead 14 = .ok (.ifCond .ne 5, 3) := by decide +kernel
theorem dX4_dead_17 : decode cX4_dead 17 = .ok (.iconst 0, 1) := by decide +kernel
theorem dX4_dead_18 : decode cX4_dead 18 = .ok (.ireturn, 1) := by decide +kernel
theorem dX4_dead_19 : decode cX4_dead 19 = .ok (.iconst 0, 1) := by decide +kernel
theorem dX4_dead_20 : decode cX4_dead 20 = .ok (.istore_n 2, 1) := by decide +kernel
theorem dX4_dead_21 : decode cX4_dead 21 = .ok (.iload_n 2, 1) := by decide +kernel
theorem dX4_dead_22 : decode cX4_dead 22 = .ok (.bipush 92, 2) := by decide +kernel
theorem dX4_dead_24 : decode cX4_dead 24 = .ok (.if_icmp .ge 21, 3) := by decide +kernel
theorem dX4_dead_27 : decode cX4_dead 27 = .ok (.aload_n 0, 1) := by decide +kernel
theorem dX4_dead_28 : decode cX4_dead 28 = .ok (.getfield 13, 3) := by decide +kernel
theorem dX4_dead_31 : decode cX4_dead 31 = .ok (.iload_n 2, 1) := by decide +kernel
theorem dX4_dead_32 : decode cX4_dead 32 = .ok (.aload_n 0, 1) := by decide +kernel
theorem dX4_dead_33 : decode cX4_dead 33 = .ok (.getfield 17, 3) := by decide +kernel
theorem dX4_dead_36 : decode cX4_dead 36 = .ok (.iload_n 2, 1) := by decide +kernel
theorem dX4_dead_37 : decode cX4_dead 37 = .ok (.laload, 1) := by decide +kernel
theorem dX4_dead_38 : decode cX4_dead 38 = .ok (.lastore, 1) := by decide +kernel
theorem dX4_dead_39 : decode cX4_dead 39 = .ok (.iinc 2 1, 3) := by decide +kernel
theorem dX4_dead_42 : decode cX4_dead 42 = .ok (.goto (-21), 3) := by decide +kernel
theorem dX4_dead_45 : decode cX4_dead 45 = .ok (.aload_n 0, 1) := by decide +kernel
theorem dX4_dead_46 : decode cX4_dead 46 = .ok (.iload_n 1, 1) := by decide +kernel
theorem dX4_dead_47 : decode cX4_dead 47 = .ok (.invokevirtual 103, 3) := by decide +kernel
theorem dX4_dead_50 : decode cX4_dead 50 = .ok (.iconst 1, 1) := by decide +kernel
theorem dX4_dead_51 : decode cX4_dead 51 = .ok (.ireturn, 1) := by decide +kernel
set_option maxRecDepth 20000 in
theorem ggX4_keep_X4_begin : GoodIn wsX4_keep wsX4_begin := goodIn_r _ [6, 7, 8, 9, 10, 11, 12, 13, 5, 14, 15, 16, 17, 18, 19, 20, 21, 22, 23, 24, 25, 26, 27, 28, 29, 30, 31, 32] (by decide +kernel) (by decide +kernel)
set_option maxRecDepth 20000 in
theorem gX4_keep_X4_begin : GoodIn wsX4_keep (wsV RX4 75 RX4 yX4_begin wsX4_begin) := goodIn_app (goodIn_of _ (by decide +kernel)) ggX4_keep_X4_begin
set_option maxRecDepth 20000 in
theorem ggX4_keep_X4_copy : GoodIn wsX4_keep wsX4_copy := goodIn_r _ [14, 15, 8, 16, 17, 18, 19, 20, 21, 22, 23, 24, 25, 26, 27, 28, 29, 30, 31, 32] (by decide +kernel) (by decide +kernel)
set_option maxRecDepth 20000 in
theorem gX4_keep_X4_copy : GoodIn wsX4_keep (wsV RX4 63 RX4 yX4_copy wsX4_copy) := goodIn_app (goodIn_of _ (by decide +kernel)) ggX4_keep_X4_copy
theorem dX4_keep_0 : decode cX4_keep 0 = .ok (.aload_n 0, 1) := by decide +kernel
theorem dX4_keep_1 : decode cX4_keep 1 = .ok (.iconst 0, 1) := by decide +kernel
theorem dX4_keep_2 : decode cX4_keep 2 = .ok (.putfield 49, 3) := by decide +kernel
theorem dX4_keep_5 : decode cX4_keep 5 = .ok (.aload_n 0, 1) := by decide +kernel
theorem dX4_keep_6 : decode cX4_keep 6 = .ok (.invokevirtual 75, 3) := by decide +kernel
theorem dX4_keep_9 : decode cX4_keep 9 = .ok (.aload_n 0, 1) := by decide +kernel
theorem dX4_keep_10 : decode cX4_keep 10 = .ok (.invokevirtual 63, 3) := by decide +kernel
theorem dX4_keep_13 : decode cX4_keep 13 = .ok (.return_, 1) := by decide +kernel
theorem dX4_clear_0 : decode cX4_clear 0 = .ok (.iconst 0, 1) := by decide +kernel
theorem dX4_clear_1 : decode cX4_clear 1 = .ok (.istore_n 2, 1) := by decide +kernel
theorem dX4_clear_2 : decode cX4_clear 2 = .ok (.iload_n 2, 1) := by decide +kernel
theorem dX4_clear_3 : decode cX4_clear 3 = .ok (.iconst 5, 1) := by decide +kernel
theorem dX4_clear_4 : decode cX4_clear 4 = .ok (.if_icmp .ge 22, 3) := by decide +kernel
theorem dX4_clear_7 : decode cX4_clear 7 = .ok (.aload_n 0, 1) := by decide +kernel
theorem dX4_clear_8 : decode cX4_clear 8 = .ok (.getfield 13, 3) := by decide +kernel
theorem dX4_clear_11 : decode cX4_clear 11 = .ok (.iconst 2, 1) := by decide +kernel
theorem dX4_clear_12 : decode cX4_clear 12 = .ok (.iconst 5, 1) := by decide +kernel
theorem dX4_clear_13 : decode cX4_clear 13 = .ok (.iload_n 1, 1) := by decide +kernel
theorem dX4_clear_14 : decode cX4_clear 14 = .ok (.imul, 1) := by decide +kernel
theorem dX4_clear_15 : decode cX4_clear 15 = .ok (.iadd, 1) := by decide +kernel
theorem dX4_clear_16 : decode cX4_clear 16 = .ok (.iload_n 2, 1) := by decide +kernel
theorem dX4_clear_17 : decode cX4_clear 17 = .ok (.iadd, 1) := by decide +kernel
theorem dX4_clear_18 : decode cX4_clear 18 = .ok (.lconst 0, 1) := by decide +kernel
theorem dX4_clear_19 : decode cX4_clear 19 = .ok (.lastore, 1) := by decide +kernel
theorem dX4_clear_20 : decode cX4_clear 20 = .ok (.iinc 2 1, 3) := by decide +kernel
theorem dX4_clear_23 : decode cX4_clear 23 = .ok (.goto (-21), 3) := by decide +kernel
theorem dX4_clear_26 : decode cX4_clear 26 = .ok (.return_, 1) := by decide +kernel
set_option maxRecDepth 20000 in
theorem ggX4_set_X4_begin : GoodIn wsX4_set wsX4_begin := goodIn_r _ [6, 7, 8, 9, 10, 11, 12, 13, 5, 14, 15, 20, 21, 22, 23, 24, 25, 26, 27, 28, 29, 30, 31, 32, 33, 34, 35, 36] (by decide +kernel) (by decide +kernel)
set_option maxRecDepth 20000 in
theorem gX4_set_X4_begin : GoodIn wsX4_set (wsV RX4 75 RX4 yX4_begin wsX4_begin) := goodIn_app (goodIn_of _ (by decide +kernel)) ggX4_set_X4_begin
set_option maxRecDepth 20000 in
theorem ggX4_set_X4_clear : GoodIn wsX4_set wsX4_clear := goodIn_r _ [19, 8, 20, 21, 22, 23, 24, 25, 26, 27, 28, 29, 30, 31, 32, 33, 34, 35, 36] (by decide +kernel) (by decide +kernel)
set_option maxRecDepth 20000 in
theorem gX4_set_X4_clear : GoodIn wsX4_set (wsV RX4 106 RX4 yX4_clear wsX4_clear) := goodIn_app (goodIn_of _ (by decide +kernel)) ggX4_set_X4_clear
theorem dX4_set_0 : decode cX4_set 0 = .ok (.aload_n 0, 1) := by decide +kernel
theorem dX4_set_1 : decode cX4_set 1 = .ok (.iconst 0, 1) := by decide +kernel
theorem dX4_set_2 : decode cX4_set 2 = .ok (.putfield 49, 3) := by decide +kernel
theorem dX4_set_5 : decode cX4_set 5 = .ok (.aload_n 0, 1) := by decide +kernel
theorem dX4_set_6 : decode cX4_set 6 = .ok (.invokevirtual 75, 3) := by decide +kernel
theorem dX4_set_9 : decode cX4_set 9 = .ok (.iload_n 1, 1) := by decide +kernel
theorem dX4_set_10 : decode cX4_set 10 = .ok (.ifCond .lt 8, 3) := by decide +kernel
theorem dX4_set_13 : decode cX4_set 13 = .ok (.iload_n 1, 1) := by decide +kernel
theorem dX4_set_14 : decode cX4_set 14 = .ok (.iconst 3, 1) := by decide +kernel
theorem dX4_set_15 : decode cX4_set 15 = .ok (.if_icmp .le 5, 3) := by decide +kernel
theorem dX4_set_18 : decode cX4_set 18 = .ok (.iconst 0, 1) := by decide +kernel
theorem dX4_set_19 : decode cX4_set 19 = .ok (.ireturn, 1) := by decide +kernel
theorem dX4_set_20 : decode cX4_set 20 = .ok (.aload_n 0, 1) := by decide +kernel
theorem dX4_set_21 : decode cX4_set 21 = .ok (.iload_n 1, 1) := by decide +kernel
theorem dX4_set_22 : decode cX4_set 22 = .ok (.invokevirtual 106, 3) := by decide +kernel
theorem dX4_set_25 : decode cX4_set 25 = .ok (.iconst 1, 1) := by decide +kernel
theorem dX4_set_26 : decode cX4_set 26 = .ok (.ireturn, 1) := by decide +kernel
theorem dX4_place_0 : decode cX4_place 0 = .ok (.bipush 32, 2) := by decide +kernel
theorem dX4_place_2 : decode cX4_place 2 = .ok (.iconst 2, 1) := by decide +kernel
theorem dX4_place_3 : decode cX4_place 3 = .ok (.lload_n 0, 1) := by decide +kernel
theorem dX4_place_4 : decode cX4_place 4 = .ok (.ldc2_w 109, 3) := by decide +kernel
theorem dX4_place_7 : decode cX4_place 7 = .ok (.lrem, 1) := by decide +kernel
theorem dX4_place_8 : decode cX4_place 8 = .ok (.l2i, 1) := by decide +kernel
theorem dX4_place_9 : decode cX4_place 9 = .ok (.imul, 1) := by decide +kernel
theorem dX4_place_10 : decode cX4_place 10 = .ok (.iadd, 1) := by decide +kernel
theorem dX4_place_11 : decode cX4_place 11 = .ok (.ireturn, 1) := by decide +kernel
set_option maxRecDepth 20000 in
theorem ggX4_tells_X4_begin : GoodIn wsX4_tells wsX4_begin := goodIn_r _ [10, 11, 5, 3, 12, 13, 14, 15, 9, 16, 17, 46, 47, 48, 49, 50, 51, 52, 53, 54, 55, 56, 57, 58, 59, 60, 61, 62] (by decide +kernel) (by decide +kernel)
set_option maxRecDepth 20000 in
theorem gX4_tells_X4_begin : GoodIn wsX4_tells (wsV RX4 75 RX4 yX4_begin wsX4_begin) := goodIn_app (goodIn_of _ (by decide +kernel)) ggX4_tells_X4_begin
set_option maxRecDepth 20000 in
theorem ggX4_tells_X4_isIn : GoodIn wsX4_tells wsX4_isIn := goodIn_r _ [20] (by decide +kernel) (by decide +kernel)
set_option maxRecDepth 20000 in
theorem gX4_tells_X4_isIn : GoodIn wsX4_tells (va_wsS RX4 71 yX4_isIn wsX4_isIn) := goodIn_app (goodIn_of _ (by decide +kernel)) ggX4_tells_X4_isIn
set_option maxRecDepth 20000 in
theorem ggX4_tells_X4_settle : GoodIn wsX4_tells wsX4_settle := goodIn_r _ [24, 5, 25, 26, 9, 27, 28, 46, 47, 48, 49, 50, 51, 52, 53, 54, 55, 56, 57, 58, 59, 60, 61, 62] (by decide +kernel) (by decide +kernel)
set_option maxRecDepth 20000 in
theorem gX4_tells_X4_settle : GoodIn wsX4_tells (wsV RX4 113 RX4 yX4_settle wsX4_settle) := goodIn_app (goodIn_of _ (by decide +kernel)) ggX4_tells_X4_settle
set_option maxRecDepth 20000 in
theorem ggX4_tells_X4_step : GoodIn wsX4_tells wsX4_step := goodIn_r _ [32, 5, 33, 34, 35, 9, 36, 37, 46, 47, 48, 49, 50, 51, 52, 53, 54, 55, 56, 57, 58, 59, 60, 61, 62] (by decide +kernel) (by decide +kernel)
set_option maxRecDepth 20000 in
theorem gX4_tells_X4_step : GoodIn wsX4_tells (wsV RX4 95 RX4 yX4_step wsX4_step) := goodIn_app (goodIn_of _ (by decide +kernel)) ggX4_tells_X4_step
set_option maxRecDepth 20000 in
theorem ggX4_tells_X4_place : GoodIn wsX4_tells wsX4_place := goodIn_r _ [27, 28] (by decide +kernel) (by decide +kernel)
set_option maxRecDepth 20000 in
theorem gX4_tells_X4_place : GoodIn wsX4_tells (va_wsS RX4 116 yX4_place wsX4_place) := goodIn_app (goodIn_of _ (by decide +kernel)) ggX4_tells_X4_place
set_option maxRecDepth 20000 in
theorem ggX4_tells_X4_clear : GoodIn wsX4_tells wsX4_clear := goodIn_r _ [41, 5, 46, 47, 48, 49, 50, 51, 52, 53, 54, 55, 56, 57, 58, 59, 60, 61, 62] (by decide +kernel) (by decide +kernel)
set_option maxRecDepth 20000 in
theorem gX4_tells_X4_clear : GoodIn wsX4_tells (wsV RX4 106 RX4 yX4_clear wsX4_clear) := goodIn_app (goodIn_of _ (by decide +kernel)) ggX4_tells_X4_clear
set_option maxRecDepth 20000 in
theorem ggX4_tells_X4_jump : GoodIn wsX4_tells wsX4_jump := goodIn_r _ [45, 5, 33, 34, 35, 9, 36, 37, 46, 47, 48, 49, 50, 51, 52, 53, 54, 55, 56, 57, 58, 59, 60, 61, 62] (by decide +kernel) (by decide +kernel)
set_option maxRecDepth 20000 in
theorem gX4_tells_X4_jump : GoodIn wsX4_tells (wsV RX4 120 RX4 yX4_jump wsX4_jump) := goodIn_app (goodIn_of _ (by decide +kernel)) ggX4_tells_X4_jump
theorem dX4_tells_0 : decode cX4_tells 0 = .ok (.aload_n 0, 1) := by decide +kernel
theorem dX4_tells_1 : decode cX4_tells 1 = .ok (.iconst 0, 1) := by decide +kernel
theorem dX4_tells_2 : decode cX4_tells 2 = .ok (.putfield 49, 3) := by decide +kernel
theorem dX4_tells_5 : decode cX4_tells 5 = .ok (.aload_n 0, 1) := by decide +kernel
theorem dX4_tells_6 : decode cX4_tells 6 = .ok (.invokevirtual 75, 3) := by decide +kernel
theorem dX4_tells_9 : decode cX4_tells 9 = .ok (.iload_n 1, 1) := by decide +kernel
theorem dX4_tells_10 : decode cX4_tells 10 = .ok (.iconst 0, 1) := by decide +kernel
theorem dX4_tells_11 : decode cX4_tells 11 = .ok (.sipush 255, 3) := by decide +kernel
theorem dX4_tells_14 : decode cX4_tells 14 = .ok (.invokestatic 71, 3) := by decide +kernel
theorem dX4_tells_17 : decode cX4_tells 17 = .ok (.ifCond .ne 5, 3) := by decide +kernel
theorem dX4_tells_20 : decode cX4_tells 20 = .ok (.iconst (-1), 1) := by decide +kernel
theorem dX4_tells_21 : decode cX4_tells 21 = .ok (.ireturn, 1) := by decide +kernel
theorem dX4_tells_22 : decode cX4_tells 22 = .ok (.iload_n 1, 1) := by decide +kernel
theorem dX4_tells_23 : decode cX4_tells 23 = .ok (.aload_n 0, 1) := by decide +kernel
theorem dX4_tells_24 : decode cX4_tells 24 = .ok (.getfield 28, 3) := by decide +kernel
theorem dX4_tells_27 : decode cX4_tells 27 = .ok (.if_icmp .le 23, 3) := by decide +kernel
theorem dX4_tells_30 : decode cX4_tells 30 = .ok (.aload_n 0, 1) := by decide +kernel
theorem dX4_tells_31 : decode cX4_tells 31 = .ok (.getfield 21, 3) := by decide +kernel
theorem dX4_tells_34 : decode cX4_tells 34 = .ok (.i2l, 1) := by decide +kernel
theorem dX4_tells_35 : decode cX4_tells 35 = .ok (.iload_n 1, 1) := by decide +kernel
theorem dX4_tells_36 : decode cX4_tells 36 = .ok (.aload_n 0, 1) := by decide +kernel
theorem dX4_tells_37 : decode cX4_tells 37 = .ok (.getfield 28, 3) := by decide +kernel
theorem dX4_tells_40 : decode cX4_tells 40 = .ok (.isub, 1) := by decide +kernel
theorem dX4_tells_41 : decode cX4_tells 41 = .ok (.i2l, 1) := by decide +kernel
theorem dX4_tells_42 : decode cX4_tells 42 = .ok (.lmul, 1) := by decide +kernel
theorem dX4_tells_43 : decode cX4_tells 43 = .ok (.ldc2_w 111, 3) := by decide +kernel
theorem dX4_tells_46 : decode cX4_tells 46 = .ok (.ldiv, 1) := by decide +kernel
theorem dX4_tells_47 : decode cX4_tells 47 = .ok (.goto 4, 3) := by decide +kernel
theorem dX4_tells_50 : decode cX4_tells 50 = .ok (.lconst 0, 1) := by decide +kernel
theorem dX4_tells_51 : decode cX4_tells 51 = .ok (.lstore_n 2, 1) := by decide +kernel
theorem dX4_tells_52 : decode cX4_tells 52 = .ok (.aload_n 0, 1) := by decide +kernel
theorem dX4_tells_53 : decode cX4_tells 53 = .ok (.getfield 21, 3) := by decide +kernel
theorem dX4_tells_56 : decode cX4_tells 56 = .ok (.i2l, 1) := by decide +kernel
theorem dX4_tells_57 : decode cX4_tells 57 = .ok (.iload_n 1, 1) := by decide +kernel
theorem dX4_tells_58 : decode cX4_tells 58 = .ok (.iconst 1, 1) := by decide +kernel
theorem dX4_tells_59 : decode cX4_tells 59 = .ok (.iadd, 1) := by decide +kernel
theorem dX4_tells_60 : decode cX4_tells 60 = .ok (.aload_n 0, 1) := by decide +kernel
theorem dX4_tells_61 : decode cX4_tells 61 = .ok (.getfield 28, 3) := by decide +kernel
theorem dX4_tells_64 : decode cX4_tells 64 = .ok (.iadd, 1) := by decide +kernel
theorem dX4_tells_65 : decode cX4_tells 65 = .ok (.i2l, 1) := by decide +kernel
theorem dX4_tells_66 : decode cX4_tells 66 = .ok (.lmul, 1) := by decide +kernel
theorem dX4_tells_67 : decode cX4_tells 67 = .ok (.ldc2_w 111, 3) := by decide +kernel
theorem dX4_tells_70 : decode cX4_tells 70 = .ok (.ldiv, 1) := by decide +kernel
theorem dX4_tells_71 : decode cX4_tells 71 = .ok (.lstore 4, 2) := by decide +kernel
theorem dX4_tells_73 : decode cX4_tells 73 = .ok (.lload 4, 2) := by decide +kernel
theorem dX4_tells_75 : decode cX4_tells 75 = .ok (.aload_n 0, 1) := by decide +kernel
theorem dX4_tells_76 : decode cX4_tells 76 = .ok (.getfield 21, 3) := by decide +kernel
theorem dX4_tells_79 : decode cX4_tells 79 = .ok (.i2l, 1) := by decide +kernel
theorem dX4_tells_80 : decode cX4_tells 80 = .ok (.lcmp, 1) := by decide +kernel
theorem dX4_tells_81 : decode cX4_tells 81 = .ok (.ifCond .le 10, 3) := by decide +kernel
theorem dX4_tells_84 : decode cX4_tells 84 = .ok (.aload_n 0, 1) := by decide +kernel
theorem dX4_tells_85 : decode cX4_tells 85 = .ok (.getfield 21, 3) := by decide +kernel
theorem dX4_tells_88 : decode cX4_tells 88 = .ok (.i2l, 1) := by decide +kernel
theorem dX4_tells_89 : decode cX4_tells 89 = .ok (.lstore 4, 2) := by decide +kernel
theorem dX4_tells_91 : decode cX4_tells 91 = .ok (.lload_n 2, 1) := by decide +kernel
theorem dX4_tells_92 : decode cX4_tells 92 = .ok (.aload_n 0, 1) := by decide +kernel
theorem dX4_tells_93 : decode cX4_tells 93 = .ok (.getfield 13, 3) := by decide +kernel
theorem dX4_tells_96 : decode cX4_tells 96 = .ok (.iconst 1, 1) := by decide +kernel
theorem dX4_tells_97 : decode cX4_tells 97 = .ok (.laload, 1) := by decide +kernel
theorem dX4_tells_98 : decode cX4_tells 98 = .ok (.lcmp, 1) := by decide +kernel
theorem dX4_tells_99 : decode cX4_tells 99 = .ok (.ifCond .gt 75, 3) := by decide +kernel
theorem dX4_tells_102 : decode cX4_tells 102 = .ok (.lload 4, 2) := by decide +kernel
theorem dX4_tells_104 : decode cX4_tells 104 = .ok (.aload_n 0, 1) := by decide +kernel
theorem dX4_tells_105 : decode cX4_tells 105 = .ok (.getfield 13, 3) := by decide +kernel
theorem dX4_tells_108 : decode cX4_tells 108 = .ok (.iconst 0, 1) := by decide +kernel
theorem dX4_tells_109 : decode cX4_tells 109 = .ok (.laload, 1) := by decide +kernel
theorem dX4_tells_110 : decode cX4_tells 110 = .ok (.lcmp, 1) := by decide +kernel
theorem dX4_tells_111 : decode cX4_tells 111 = .ok (.ifCond .lt 63, 3) := by decide +kernel
theorem dX4_tells_114 : decode cX4_tells 114 = .ok (.lload_n 2, 1) := by decide +kernel
theorem dX4_tells_115 : decode cX4_tells 115 = .ok (.aload_n 0, 1) := by decide +kernel
theorem dX4_tells_116 : decode cX4_tells 116 = .ok (.getfield 13, 3) := by decide +kernel
theorem dX4_tells_119 : decode cX4_tells 119 = .ok (.iconst 0, 1) := by decide +kernel
theorem dX4_tells_120 : decode cX4_tells 120 = .ok (.laload, 1) := by decide +kernel
theorem dX4_tells_121 : decode cX4_tells 121 = .ok (.lcmp, 1) := by decide +kernel
theorem dX4_tells_122 : decode cX4_tells 122 = .ok (.ifCond .le 10, 3) := by decide +kernel
theorem dX4_tells_125 : decode cX4_tells 125 = .ok (.aload_n 0, 1) := by decide +kernel
theorem dX4_tells_126 : decode cX4_tells 126 = .ok (.getfield 13, 3) := by decide +kernel
theorem dX4_tells_129 : decode cX4_tells 129 = .ok (.iconst 0, 1) := by decide +kernel
theorem dX4_tells_130 : decode cX4_tells 130 = .ok (.lload_n 2, 1) := by decide +kernel
theorem dX4_tells_131 : decode cX4_tells 131 = .ok (.lastore, 1) := by decide +kernel
theorem dX4_tells_132 : decode cX4_tells 132 = .ok (.lload 4, 2) := by decide +kernel
theorem dX4_tells_134 : decode cX4_tells 134 = .ok (.aload_n 0, 1) := by decide +kernel
theorem dX4_tells_135 : decode cX4_tells 135 = .ok (.getfield 13, 3) := by decide +kernel
theorem dX4_tells_138 : decode cX4_tells 138 = .ok (.iconst 1, 1) := by decide +kernel
theorem dX4_tells_139 : decode cX4_tells 139 = .ok (.laload, 1) := by decide +kernel
theorem dX4_tells_140 : decode cX4_tells 140 = .ok (.lcmp, 1) := by decide +kernel
theorem dX4_tells_141 : decode cX4_tells 141 = .ok (.ifCond .ge 11, 3) := by decide +kernel
theorem dX4_tells_144 : decode cX4_tells 144 = .ok (.aload_n 0, 1) := by decide +kernel
theorem dX4_tells_145 : decode cX4_tells 145 = .ok (.getfield 13, 3) := by decide +kernel
theorem dX4_tells_148 : decode cX4_tells 148 = .ok (.iconst 1, 1) := by decide +kernel
theorem dX4_tells_149 : decode cX4_tells 149 = .ok (.lload 4, 2) := by decide +kernel
theorem dX4_tells_151 : decode cX4_tells 151 = .ok (.lastore, 1) := by decide +kernel
theorem dX4_tells_152 : decode cX4_tells 152 = .ok (.aload_n 0, 1) := by decide +kernel
theorem dX4_tells_153 : decode cX4_tells 153 = .ok (.getfield 13, 3) := by decide +kernel
theorem dX4_tells_156 : decode cX4_tells 156 = .ok (.bipush 27, 2) := by decide +kernel
theorem dX4_tells_158 : decode cX4_tells 158 = .ok (.laload, 1) := by decide +kernel
theorem dX4_tells_159 : decode cX4_tells 159 = .ok (.lconst 1, 1) := by decide +kernel
theorem dX4_tells_160 : decode cX4_tells 160 = .ok (.lcmp, 1) := by decide +kernel
theorem dX4_tells_161 : decode cX4_tells 161 = .ok (.ifCond .ne 7, 3) := by decide +kernel
theorem dX4_tells_164 : decode cX4_tells 164 = .ok (.aload_n 0, 1) := by decide +kernel
theorem dX4_tells_165 : decode cX4_tells 165 = .ok (.invokevirtual 113, 3) := by decide +kernel
theorem dX4_tells_168 : decode cX4_tells 168 = .ok (.aload_n 0, 1) := by decide +kernel
theorem dX4_tells_169 : decode cX4_tells 169 = .ok (.invokevirtual 95, 3) := by decide +kernel
theorem dX4_tells_172 : decode cX4_tells 172 = .ok (.iconst 0, 1) := by decide +kernel
theorem dX4_tells_173 : decode cX4_tells 173 = .ok (.ireturn, 1) := by decide +kernel
theorem dX4_tells_174 : decode cX4_tells 174 = .ok (.lload_n 2, 1) := by decide +kernel
theorem dX4_tells_175 : decode cX4_tells 175 = .ok (.aload_n 0, 1) := by decide +kernel
theorem dX4_tells_176 : decode cX4_tells 176 = .ok (.getfield 13, 3) := by decide +kernel
theorem dX4_tells_179 : decode cX4_tells 179 = .ok (.iconst 1, 1) := by decide +kernel
theorem dX4_tells_180 : decode cX4_tells 180 = .ok (.laload, 1) := by decide +kernel
theorem dX4_tells_181 : decode cX4_tells 181 = .ok (.lcmp, 1) := by decide +kernel
theorem dX4_tells_182 : decode cX4_tells 182 = .ok (.ifCond .le 7, 3) := by decide +kernel
theorem dX4_tells_185 : decode cX4_tells 185 = .ok (.iconst 1, 1) := by decide +kernel
theorem dX4_tells_186 : decode cX4_tells 186 = .ok (.goto 4, 3) := by decide +kernel
theorem dX4_tells_189 : decode cX4_tells 189 = .ok (.iconst 0, 1) := by decide +kernel
theorem dX4_tells_190 : decode cX4_tells 190 = .ok (.istore 6, 2) := by decide +kernel
theorem dX4_tells_192 : decode cX4_tells 192 = .ok (.iload 6, 2) := by decide +kernel
theorem dX4_tells_194 : decode cX4_tells 194 = .ok (.ifCond .eq 109, 3) := by decide +kernel
theorem dX4_tells_197 : decode cX4_tells 197 = .ok (.aload_n 0, 1) := by decide +kernel
theorem dX4_tells_198 : decode cX4_tells 198 = .ok (.getfield 13, 3) := by decide +kernel
theorem dX4_tells_201 : decode cX4_tells 201 = .ok (.bipush 22, 2) := by decide +kernel
theorem dX4_tells_203 : decode cX4_tells 203 = .ok (.laload, 1) := by decide +kernel
theorem dX4_tells_204 : decode cX4_tells 204 = .ok (.invokestatic 116, 3) := by decide +kernel
theorem dX4_tells_207 : decode cX4_tells 207 = .ok (.istore 7, 2) := by decide +kernel
theorem dX4_tells_209 : decode cX4_tells 209 = .ok (.aload_n 0, 1) := by decide +kernel
theorem dX4_tells_210 : decode cX4_tells 210 = .ok (.getfield 13, 3) := by decide +kernel
theorem dX4_tells_213 : decode cX4_tells 213 = .ok (.iload 7, 2) := by decide +kernel
theorem dX4_tells_215 : decode cX4_tells 215 = .ok (.lload_n 2, 1) := by decide +kernel
theorem dX4_tells_216 : decode cX4_tells 216 = .ok (.aload_n 0, 1) := by decide +kernel
theorem dX4_tells_217 : decode cX4_tells 217 = .ok (.getfield 13, 3) := by decide +kernel
theorem dX4_tells_220 : decode cX4_tells 220 = .ok (.iconst 1, 1) := by decide +kernel
theorem dX4_tells_221 : decode cX4_tells 221 = .ok (.laload, 1) := by decide +kernel
theorem dX4_tells_222 : decode cX4_tells 222 = .ok (.lsub, 1) := by decide +kernel
theorem dX4_tells_223 : decode cX4_tells 223 = .ok (.lastore, 1) := by decide +kernel
theorem dX4_tells_224 : decode cX4_tells 224 = .ok (.aload_n 0, 1) := by decide +kernel
theorem dX4_tells_225 : decode cX4_tells 225 = .ok (.getfield 13, 3) := by decide +kernel
theorem dX4_tells_228 : decode cX4_tells 228 = .ok (.iload 7, 2) := by decide +kernel
theorem dX4_tells_230 : decode cX4_tells 230 = .ok (.iconst 1, 1) := by decide +kernel
theorem dX4_tells_231 : decode cX4_tells 231 = .ok (.iadd, 1) := by decide +kernel
theorem dX4_tells_232 : decode cX4_tells 232 = .ok (.lload 4, 2) := by decide +kernel
theorem dX4_tells_234 : decode cX4_tells 234 = .ok (.aload_n 0, 1) := by decide +kernel
theorem dX4_tells_235 : decode cX4_tells 235 = .ok (.getfield 13, 3) := by decide +kernel
theorem dX4_tells_238 : decode cX4_tells 238 = .ok (.iconst 0, 1) := by decide +kernel
theorem dX4_tells_239 : decode cX4_tells 239 = .ok (.laload, 1) := by decide +kernel
theorem dX4_tells_240 : decode cX4_tells 240 = .ok (.lsub, 1) := by decide +kernel
theorem dX4_tells_241 : decode cX4_tells 241 = .ok (.lastore, 1) := by decide +kernel
theorem dX4_tells_242 : decode cX4_tells 242 = .ok (.aload_n 0, 1) := by decide +kernel
theorem dX4_tells_243 : decode cX4_tells 243 = .ok (.getfield 13, 3) := by decide +kernel
theorem dX4_tells_246 : decode cX4_tells 246 = .ok (.bipush 22, 2) := by decide +kernel
theorem dX4_tells_248 : decode cX4_tells 248 = .ok (.dup2, 1) := by decide +kernel
theorem dX4_tells_249 : decode cX4_tells 249 = .ok (.laload, 1) := by decide +kernel
theorem dX4_tells_250 : decode cX4_tells 250 = .ok (.lconst 1, 1) := by decide +kernel
theorem dX4_tells_251 : decode cX4_tells 251 = .ok (.ladd, 1) := by decide +kernel
theorem dX4_tells_252 : decode cX4_tells 252 = .ok (.lastore, 1) := by decide +kernel
theorem dX4_tells_253 : decode cX4_tells 253 = .ok (.aload_n 0, 1) := by decide +kernel
theorem dX4_tells_254 : decode cX4_tells 254 = .ok (.getfield 13, 3) := by decide +kernel
theorem dX4_tells_257 : decode cX4_tells 257 = .ok (.bipush 30, 2) := by decide +kernel
theorem dX4_tells_259 : decode cX4_tells 259 = .ok (.aload_n 0, 1) := by decide +kernel
theorem dX4_tells_260 : decode cX4_tells 260 = .ok (.getfield 13, 3) := by decide +kernel
theorem dX4_tells_263 : decode cX4_tells 263 = .ok (.iconst 0, 1) := by decide +kernel
theorem dX4_tells_264 : decode cX4_tells 264 = .ok (.laload, 1) := by decide +kernel
theorem dX4_tells_265 : decode cX4_tells 265 = .ok (.lastore, 1) := by decide +kernel
theorem dX4_tells_266 : decode cX4_tells 266 = .ok (.aload_n 0, 1) := by decide +kernel
theorem dX4_tells_267 : decode cX4_tells 267 = .ok (.getfield 13, 3) := by decide +kernel
theorem dX4_tells_270 : decode cX4_tells 270 = .ok (.bipush 31, 2) := by decide +kernel
theorem dX4_tells_272 : decode cX4_tells 272 = .ok (.aload_n 0, 1) := by decide +kernel
theorem dX4_tells_273 : decode cX4_tells 273 = .ok (.getfield 13, 3) := by decide +kernel
theorem dX4_tells_276 : decode cX4_tells 276 = .ok (.iconst 1, 1) := by decide +kernel
theorem dX4_tells_277 : decode cX4_tells 277 = .ok (.laload, 1) := by decide +kernel
theorem dX4_tells_278 : decode cX4_tells 278 = .ok (.lastore, 1) := by decide +kernel
theorem dX4_tells_279 : decode cX4_tells 279 = .ok (.aload_n 0, 1) := by decide +kernel
theorem dX4_tells_280 : decode cX4_tells 280 = .ok (.getfield 13, 3) := by decide +kernel
theorem dX4_tells_283 : decode cX4_tells 283 = .ok (.bipush 28, 2) := by decide +kernel
theorem dX4_tells_285 : decode cX4_tells 285 = .ok (.lconst 0, 1) := by decide +kernel
theorem dX4_tells_286 : decode cX4_tells 286 = .ok (.lastore, 1) := by decide +kernel
theorem dX4_tells_287 : decode cX4_tells 287 = .ok (.aload_n 0, 1) := by decide +kernel
theorem dX4_tells_288 : decode cX4_tells 288 = .ok (.getfield 13, 3) := by decide +kernel
theorem dX4_tells_291 : decode cX4_tells 291 = .ok (.bipush 29, 2) := by decide +kernel
theorem dX4_tells_293 : decode cX4_tells 293 = .ok (.lconst 0, 1) := by decide +kernel
theorem dX4_tells_294 : decode cX4_tells 294 = .ok (.lastore, 1) := by decide +kernel
theorem dX4_tells_295 : decode cX4_tells 295 = .ok (.aload_n 0, 1) := by decide +kernel
theorem dX4_tells_296 : decode cX4_tells 296 = .ok (.iconst 3, 1) := by decide +kernel
theorem dX4_tells_297 : decode cX4_tells 297 = .ok (.invokevirtual 106, 3) := by decide +kernel
theorem dX4_tells_300 : decode cX4_tells 300 = .ok (.goto 14, 3) := by decide +kernel
theorem dX4_tells_303 : decode cX4_tells 303 = .ok (.aload_n 0, 1) := by decide +kernel
theorem dX4_tells_304 : decode cX4_tells 304 = .ok (.getfield 13, 3) := by decide +kernel
theorem dX4_tells_307 : decode cX4_tells 307 = .ok (.bipush 23, 2) := by decide +kernel
theorem dX4_tells_309 : decode cX4_tells 309 = .ok (.dup2, 1) := by decide +kernel
theorem dX4_tells_310 : decode cX4_tells 310 = .ok (.laload, 1) := by decide +kernel
theorem dX4_tells_311 : decode cX4_tells 311 = .ok (.lconst 1, 1) := by decide +kernel
theorem dX4_tells_312 : decode cX4_tells 312 = .ok (.ladd, 1) := by decide +kernel
theorem dX4_tells_313 : decode cX4_tells 313 = .ok (.lastore, 1) := by decide +kernel
theorem dX4_tells_314 : decode cX4_tells 314 = .ok (.aload_n 0, 1) := by decide +kernel
theorem dX4_tells_315 : decode cX4_tells 315 = .ok (.getfield 13, 3) := by decide +kernel
theorem dX4_tells_318 : decode cX4_tells 318 = .ok (.bipush 27, 2) := by decide +kernel
theorem dX4_tells_320 : decode cX4_tells 320 = .ok (.iload 6, 2) := by decide +kernel
theorem dX4_tells_322 : decode cX4_tells 322 = .ok (.ifCond .eq 7, 3) := by decide +kernel
theorem dX4_tells_325 : decode cX4_tells 325 = .ok (.lconst 1, 1) := by decide +kernel
theorem dX4_tells_326 : decode cX4_tells 326 = .ok (.goto 4, 3) := by decide +kernel
theorem dX4_tells_329 : decode cX4_tells 329 = .ok (.lconst 0, 1) := by decide +kernel
theorem dX4_tells_330 : decode cX4_tells 330 = .ok (.lastore, 1) := by decide +kernel
theorem dX4_tells_331 : decode cX4_tells 331 = .ok (.aload_n 0, 1) := by decide +kernel
theorem dX4_tells_332 : decode cX4_tells 332 = .ok (.getfield 13, 3) := by decide +kernel
theorem dX4_tells_335 : decode cX4_tells 335 = .ok (.iconst 0, 1) := by decide +kernel
theorem dX4_tells_336 : decode cX4_tells 336 = .ok (.lload_n 2, 1) := by decide +kernel
theorem dX4_tells_337 : decode cX4_tells 337 = .ok (.lastore, 1) := by decide +kernel
theorem dX4_tells_338 : decode cX4_tells 338 = .ok (.aload_n 0, 1) := by decide +kernel
theorem dX4_tells_339 : decode cX4_tells 339 = .ok (.getfield 13, 3) := by decide +kernel
theorem dX4_tells_342 : decode cX4_tells 342 = .ok (.iconst 1, 1) := by decide +kernel
theorem dX4_tells_343 : decode cX4_tells 343 = .ok (.lload 4, 2) := by decide +kernel
theorem dX4_tells_345 : decode cX4_tells 345 = .ok (.lastore, 1) := by decide +kernel
theorem dX4_tells_346 : decode cX4_tells 346 = .ok (.aload_n 0, 1) := by decide +kernel
theorem dX4_tells_347 : decode cX4_tells 347 = .ok (.invokevirtual 120, 3) := by decide +kernel
theorem dX4_tells_350 : decode cX4_tells 350 = .ok (.iload 6, 2) := by decide +kernel
theorem dX4_tells_352 : decode cX4_tells 352 = .ok (.ifCond .eq 7, 3) := by decide +kernel
theorem dX4_tells_355 : decode cX4_tells 355 = .ok (.iconst 1, 1) := by decide +kernel
theorem dX4_tells_356 : decode cX4_tells 356 = .ok (.goto 4, 3) := by decide +kernel
theorem dX4_tells_359 : decode cX4_tells 359 = .ok (.iconst 2, 1) := by decide +kernel
theorem dX4_tells_360 : decode cX4_tells 360 = .ok (.ireturn, 1) := by decide +kernel
set_option maxRecDepth 20000 in
theorem ggX4_settle_X4_place : GoodIn wsX4_settle wsX4_place := goodIn_r _ [5, 6] (by decide +kernel) (by decide +kernel)
set_option maxRecDepth 20000 in
theorem gX4_settle_X4_place : GoodIn wsX4_settle (va_wsS RX4 116 yX4_place wsX4_place) := goodIn_app (goodIn_of _ (by decide +kernel)) ggX4_settle_X4_place
theorem dX4_settle_0 : decode cX4_settle 0 = .ok (.aload_n 0, 1) := by decide +kernel
theorem dX4_settle_1 : decode cX4_settle 1 = .ok (.getfield 13, 3) := by decide +kernel
theorem dX4_settle_4 : decode cX4_settle 4 = .ok (.bipush 22, 2) := by decide +kernel
theorem dX4_settle_6 : decode cX4_settle 6 = .ok (.laload, 1) := by decide +kernel
theorem dX4_settle_7 : decode cX4_settle 7 = .ok (.lconst 1, 1) := by decide +kernel
theorem dX4_settle_8 : decode cX4_settle 8 = .ok (.lsub, 1) := by decide +kernel
theorem dX4_settle_9 : decode cX4_settle 9 = .ok (.invokestatic 116, 3) := by decide +kernel
theorem dX4_settle_12 : decode cX4_settle 12 = .ok (.istore_n 1, 1) := by decide +kernel
theorem dX4_settle_13 : decode cX4_settle 13 = .ok (.aload_n 0, 1) := by decide +kernel
theorem dX4_settle_14 : decode cX4_settle 14 = .ok (.getfield 13, 3) := by decide +kernel
theorem dX4_settle_17 : decode cX4_settle 17 = .ok (.iconst 0, 1) := by decide +kernel
theorem dX4_settle_18 : decode cX4_settle 18 = .ok (.laload, 1) := by decide +kernel
theorem dX4_settle_19 : decode cX4_settle 19 = .ok (.aload_n 0, 1) := by decide +kernel
theorem dX4_settle_20 : decode cX4_settle 20 = .ok (.getfield 13, 3) := by decide +kernel
theorem dX4_settle_23 : decode cX4_settle 23 = .ok (.bipush 28, 2) := by decide +kernel
theorem dX4_settle_25 : decode cX4_settle 25 = .ok (.laload, 1) := by decide +kernel
theorem dX4_settle_26 : decode cX4_settle 26 = .ok (.ladd, 1) := by decide +kernel
theorem dX4_settle_27 : decode cX4_settle 27 = .ok (.aload_n 0, 1) := by decide +kernel
theorem dX4_settle_28 : decode cX4_settle 28 = .ok (.getfield 13, 3) := by decide +kernel
theorem dX4_settle_31 : decode cX4_settle 31 = .ok (.bipush 31, 2) := by decide +kernel
theorem dX4_settle_33 : decode cX4_settle 33 = .ok (.laload, 1) := by decide +kernel
theorem dX4_settle_34 : decode cX4_settle 34 = .ok (.lsub, 1) := by decide +kernel
theorem dX4_settle_35 : decode cX4_settle 35 = .ok (.lstore_n 2, 1) := by decide +kernel
theorem dX4_settle_36 : decode cX4_settle 36 = .ok (.aload_n 0, 1) := by decide +kernel
theorem dX4_settle_37 : decode cX4_settle 37 = .ok (.getfield 13, 3) := by decide +kernel
theorem dX4_settle_40 : decode cX4_settle 40 = .ok (.iconst 1, 1) := by decide +kernel
theorem dX4_settle_41 : decode cX4_settle 41 = .ok (.laload, 1) := by decide +kernel
theorem dX4_settle_42 : decode cX4_settle 42 = .ok (.aload_n 0, 1) := by decide +kernel
theorem dX4_settle_43 : decode cX4_settle 43 = .ok (.getfield 13, 3) := by decide +kernel
theorem dX4_settle_46 : decode cX4_settle 46 = .ok (.bipush 29, 2) := by decide +kernel
theorem dX4_settle_48 : decode cX4_settle 48 = .ok (.laload, 1) := by decide +kernel
theorem dX4_settle_49 : decode cX4_settle 49 = .ok (.ladd, 1) := by decide +kernel
theorem dX4_settle_50 : decode cX4_settle 50 = .ok (.aload_n 0, 1) := by decide +kernel
theorem dX4_settle_51 : decode cX4_settle 51 = .ok (.getfield 13, 3) := by decide +kernel
theorem dX4_settle_54 : decode cX4_settle 54 = .ok (.bipush 30, 2) := by decide +kernel
theorem dX4_settle_56 : decode cX4_settle 56 = .ok (.laload, 1) := by decide +kernel
theorem dX4_settle_57 : decode cX4_settle 57 = .ok (.lsub, 1) := by decide +kernel
theorem dX4_settle_58 : decode cX4_settle 58 = .ok (.lstore 4, 2) := by decide +kernel
theorem dX4_settle_60 : decode cX4_settle 60 = .ok (.lload_n 2, 1) := by decide +kernel
theorem dX4_settle_61 : decode cX4_settle 61 = .ok (.aload_n 0, 1) := by decide +kernel
theorem dX4_settle_62 : decode cX4_settle 62 = .ok (.getfield 13, 3) := by decide +kernel
theorem dX4_settle_65 : decode cX4_settle 65 = .ok (.iload_n 1, 1) := by decide +kernel
theorem dX4_settle_66 : decode cX4_settle 66 = .ok (.laload, 1) := by decide +kernel
theorem dX4_settle_67 : decode cX4_settle 67 = .ok (.lcmp, 1) := by decide +kernel
theorem dX4_settle_68 : decode cX4_settle 68 = .ok (.ifCond .le 10, 3) := by decide +kernel
theorem dX4_settle_71 : decode cX4_settle 71 = .ok (.aload_n 0, 1) := by decide +kernel
theorem dX4_settle_72 : decode cX4_settle 72 = .ok (.getfield 13, 3) := by decide +kernel
theorem dX4_settle_75 : decode cX4_settle 75 = .ok (.iload_n 1, 1) := by decide +kernel
theorem dX4_settle_76 : decode cX4_settle 76 = .ok (.lload_n 2, 1) := by decide +kernel
theorem dX4_settle_77 : decode cX4_settle 77 = .ok (.lastore, 1) := by decide +kernel
theorem dX4_settle_78 : decode cX4_settle 78 = .ok (.lload 4, 2) := by decide +kernel
theorem dX4_settle_80 : decode cX4_settle 80 = .ok (.aload_n 0, 1) := by decide +kernel
theorem dX4_settle_81 : decode cX4_settle 81 = .ok (.getfield 13, 3) := by decide +kernel
theorem dX4_settle_84 : decode cX4_settle 84 = .ok (.iload_n 1, 1) := by decide +kernel
theorem dX4_settle_85 : decode cX4_settle 85 = .ok (.iconst 1, 1) := by decide +kernel
theorem dX4_settle_86 : decode cX4_settle 86 = .ok (.iadd, 1) := by decide +kernel
theorem dX4_settle_87 : decode cX4_settle 87 = .ok (.laload, 1) := by decide +kernel
theorem dX4_settle_88 : decode cX4_settle 88 = .ok (.lcmp, 1) := by decide +kernel
theorem dX4_settle_89 : decode cX4_settle 89 = .ok (.ifCond .ge 13, 3) := by decide +kernel
theorem dX4_settle_92 : decode cX4_settle 92 = .ok (.aload_n 0, 1) := by decide +kernel
theorem dX4_settle_93 : decode cX4_settle 93 = .ok (.getfield 13, 3) := by decide +kernel
theorem dX4_settle_96 : decode cX4_settle 96 = .ok (.iload_n 1, 1) := by decide +kernel
theorem dX4_settle_97 : decode cX4_settle 97 = .ok (.iconst 1, 1) := by decide +kernel
theorem dX4_settle_98 : decode cX4_settle 98 = .ok (.iadd, 1) := by decide +kernel
theorem dX4_settle_99 : decode cX4_settle 99 = .ok (.lload 4, 2) := by decide +kernel
theorem dX4_settle_101 : decode cX4_settle 101 = .ok (.lastore, 1) := by decide +kernel
theorem dX4_settle_102 : decode cX4_settle 102 = .ok (.return_, 1) := by decide +kernel
set_option maxRecDepth 20000 in
theorem ggX4_span_X4_begin : GoodIn wsX4_span wsX4_begin := goodIn_r _ [7, 8, 2, 9, 10, 11, 12, 13, 6, 14, 15, 16, 17, 18, 19, 20, 21, 22, 23, 24, 25, 26, 27, 28, 29, 30, 31, 32] (by decide +kernel) (by decide +kernel)
set_option maxRecDepth 20000 in
theorem gX4_span_X4_begin : GoodIn wsX4_span (wsV RX4 75 RX4 yX4_begin wsX4_begin) := goodIn_app (goodIn_of _ (by decide +kernel)) ggX4_span_X4_begin
theorem dX4_span_0 : decode cX4_span 0 = .ok (.aload_n 0, 1) := by decide +kernel
theorem dX4_span_1 : decode cX4_span 1 = .ok (.iconst 0, 1) := by decide +kernel
theorem dX4_span_2 : decode cX4_span 2 = .ok (.putfield 49, 3) := by decide +kernel
theorem dX4_span_5 : decode cX4_span 5 = .ok (.aload_n 0, 1) := by decide +kernel
theorem dX4_span_6 : decode cX4_span 6 = .ok (.invokevirtual 75, 3) := by decide +kernel
theorem dX4_span_9 : decode cX4_span 9 = .ok (.aload_n 0, 1) := by decide +kernel
theorem dX4_span_10 : decode cX4_span 10 = .ok (.getfield 13, 3) := by decide +kernel
theorem dX4_span_13 : decode cX4_span 13 = .ok (.iload_n 1, 1) := by decide +kernel
theorem dX4_span_14 : decode cX4_span 14 = .ok (.ifCond .eq 7, 3) := by decide +kernel
theorem dX4_span_17 : decode cX4_span 17 = .ok (.iconst 1, 1) := by decide +kernel
theorem dX4_span_18 : decode cX4_span 18 = .ok (.goto 4, 3) := by decide +kernel
theorem dX4_span_21 : decode cX4_span 21 = .ok (.iconst 0, 1) := by decide +kernel
theorem dX4_span_22 : decode cX4_span 22 = .ok (.laload, 1) := by decide +kernel
theorem dX4_span_23 : decode cX4_span 23 = .ok (.l2i, 1) := by decide +kernel
theorem dX4_span_24 : decode cX4_span 24 = .ok (.ireturn, 1) := by decide +kernel
theorem dX4_isMark_0 : decode cX4_isMark 0 = .ok (.iload_n 0, 1) := by decide +kernel
theorem dX4_isMark_1 : decode cX4_isMark 1 = .ok (.ifCond .lt 12, 3) := by decide +kernel
theorem dX4_isMark_4 : decode cX4_isMark 4 = .ok (.iload_n 0, 1) := by decide +kernel
theorem dX4_isMark_5 : decode cX4_isMark 5 = .ok (.iconst 4, 1) := by decide +kernel
theorem dX4_isMark_6 : decode cX4_isMark 6 = .ok (.if_icmp .ge 7, 3) := by decide +kernel
theorem dX4_isMark_9 : decode cX4_isMark 9 = .ok (.iconst 1, 1) := by decide +kernel
theorem dX4_isMark_10 : decode cX4_isMark 10 = .ok (.goto 4, 3) := by decide +kernel
theorem dX4_isMark_13 : decode cX4_isMark 13 = .ok (.iconst 0, 1) := by decide +kernel
theorem dX4_isMark_14 : decode cX4_isMark 14 = .ok (.ireturn, 1) := by decide +kernel
set_option maxRecDepth 20000 in
theorem ggX4_mark_X4_begin : GoodIn wsX4_mark wsX4_begin := goodIn_r _ [7, 8, 2, 9, 10, 11, 12, 13, 6, 14, 15, 23, 24, 25, 26, 27, 28, 29, 30, 31, 32, 33, 34, 35, 36, 37, 38, 39] (by decide +kernel) (by decide +kernel)
set_option maxRecDepth 20000 in
theorem gX4_mark_X4_begin : GoodIn wsX4_mark (wsV RX4 75 RX4 yX4_begin wsX4_begin) := goodIn_app (goodIn_of _ (by decide +kernel)) ggX4_mark_X4_begin
set_option maxRecDepth 20000 in
theorem ggX4_mark_X4_isMark : GoodIn wsX4_mark wsX4_isMark := goodIn_r _ [18] (by decide +kernel) (by decide +kernel)
set_option maxRecDepth 20000 in
theorem gX4_mark_X4_isMark : GoodIn wsX4_mark (va_wsS RX4 123 yX4_isMark wsX4_isMark) := goodIn_app (goodIn_of _ (by decide +kernel)) ggX4_mark_X4_isMark
set_option maxRecDepth 20000 in
theorem ggX4_mark_X4_refuse : GoodIn wsX4_mark wsX4_refuse := goodIn_r _ [22, 1, 23, 24, 25, 26, 27, 28, 29, 30, 31, 32, 33, 34, 35, 36, 37, 38, 39] (by decide +kernel) (by decide +kernel)
set_option maxRecDepth 20000 in
theorem gX4_mark_X4_refuse : GoodIn wsX4_mark (wsV RX4 126 RX4 yX4_refuse wsX4_refuse) := goodIn_app (goodIn_of _ (by decide +kernel)) ggX4_mark_X4_refuse
theorem dX4_mark_0 : decode cX4_mark 0 = .ok (.aload_n 0, 1) := by decide +kernel
theorem dX4_mark_1 : decode cX4_mark 1 = .ok (.invokevirtual 75, 3) := by decide +kernel
theorem dX4_mark_4 : decode cX4_mark 4 = .ok (.iload_n 1, 1) := by decide +kernel
theorem dX4_mark_5 : decode cX4_mark 5 = .ok (.invokestatic 123, 3) := by decide +kernel
theorem dX4_mark_8 : decode cX4_mark 8 = .ok (.ifCond .eq 12, 3) := by decide +kernel
theorem dX4_mark_11 : decode cX4_mark 11 = .ok (.iload_n 2, 1) := by decide +kernel
theorem dX4_mark_12 : decode cX4_mark 12 = .ok (.ifCond .lt 8, 3) := by decide +kernel
theorem dX4_mark_15 : decode cX4_mark 15 = .ok (.iload_n 2, 1) := by decide +kernel
theorem dX4_mark_16 : decode cX4_mark 16 = .ok (.iconst 4, 1) := by decide +kernel
theorem dX4_mark_17 : decode cX4_mark 17 = .ok (.if_icmp .le 9, 3) := by decide +kernel
theorem dX4_mark_20 : decode cX4_mark 20 = .ok (.aload_n 0, 1) := by decide +kernel
theorem dX4_mark_21 : decode cX4_mark 21 = .ok (.invokevirtual 126, 3) := by decide +kernel
theorem dX4_mark_24 : decode cX4_mark 24 = .ok (.i2l, 1) := by decide +kernel
theorem dX4_mark_25 : decode cX4_mark 25 = .ok (.lreturn, 1) := by decide +kernel
theorem dX4_mark_26 : decode cX4_mark 26 = .ok (.aload_n 0, 1) := by decide +kernel
theorem dX4_mark_27 : decode cX4_mark 27 = .ok (.iconst 0, 1) := by decide +kernel
theorem dX4_mark_28 : decode cX4_mark 28 = .ok (.putfield 49, 3) := by decide +kernel
theorem dX4_mark_31 : decode cX4_mark 31 = .ok (.aload_n 0, 1) := by decide +kernel
theorem dX4_mark_32 : decode cX4_mark 32 = .ok (.getfield 13, 3) := by decide +kernel
theorem dX4_mark_35 : decode cX4_mark 35 = .ok (.iconst 2, 1) := by decide +kernel
theorem dX4_mark_36 : decode cX4_mark 36 = .ok (.iconst 5, 1) := by decide +kernel
theorem dX4_mark_37 : decode cX4_mark 37 = .ok (.iload_n 1, 1) := by decide +kernel
theorem dX4_mark_38 : decode cX4_mark 38 = .ok (.imul, 1) := by decide +kernel
theorem dX4_mark_39 : decode cX4_mark 39 = .ok (.iadd, 1) := by decide +kernel
theorem dX4_mark_40 : decode cX4_mark 40 = .ok (.iload_n 2, 1) := by decide +kernel
theorem dX4_mark_41 : decode cX4_mark 41 = .ok (.iadd, 1) := by decide +kernel
theorem dX4_mark_42 : decode cX4_mark 42 = .ok (.laload, 1) := by decide +kernel
theorem dX4_mark_43 : decode cX4_mark 43 = .ok (.lreturn, 1) := by decide +kernel
set_option maxRecDepth 20000 in
theorem ggX4_metres_X4_begin : GoodIn wsX4_metres wsX4_begin := goodIn_r _ [9, 10, 2, 11, 12, 13, 14, 15, 8, 16, 17, 25, 26, 27, 28, 29, 30, 31, 32, 33, 34, 35, 36, 37, 38, 39, 40, 41] (by decide +kernel) (by decide +kernel)
set_option maxRecDepth 20000 in
theorem gX4_metres_X4_begin : GoodIn wsX4_metres (wsV RX4 75 RX4 yX4_begin wsX4_begin) := goodIn_app (goodIn_of _ (by decide +kernel)) ggX4_metres_X4_begin
set_option maxRecDepth 20000 in
theorem ggX4_metres_X4_isMark : GoodIn wsX4_metres wsX4_isMark := goodIn_r _ [20] (by decide +kernel) (by decide +kernel)
set_option maxRecDepth 20000 in
theorem gX4_metres_X4_isMark : GoodIn wsX4_metres (va_wsS RX4 123 yX4_isMark wsX4_isMark) := goodIn_app (goodIn_of _ (by decide +kernel)) ggX4_metres_X4_isMark
set_option maxRecDepth 20000 in
theorem ggX4_metres_X4_refuse : GoodIn wsX4_metres wsX4_refuse := goodIn_r _ [24, 1, 25, 26, 27, 28, 29, 30, 31, 32, 33, 34, 35, 36, 37, 38, 39, 40, 41] (by decide +kernel) (by decide +kernel)
set_option maxRecDepth 20000 in
theorem gX4_metres_X4_refuse : GoodIn wsX4_metres (wsV RX4 126 RX4 yX4_refuse wsX4_refuse) := goodIn_app (goodIn_of _ (by decide +kernel)) ggX4_metres_X4_refuse
theorem dX4_metres_0 : decode cX4_metres 0 = .ok (.aload_n 0, 1) := by decide +kernel
theorem dX4_metres_1 : decode cX4_metres 1 = .ok (.invokevirtual 75, 3) := by decide +kernel
theorem dX4_metres_4 : decode cX4_metres 4 = .ok (.iload_n 1, 1) := by decide +kernel
theorem dX4_metres_5 : decode cX4_metres 5 = .ok (.invokestatic 123, 3) := by decide +kernel
theorem dX4_metres_8 : decode cX4_metres 8 = .ok (.ifCond .ne 9, 3) := by decide +kernel
theorem dX4_metres_11 : decode cX4_metres 11 = .ok (.aload_n 0, 1) := by decide +kernel
theorem dX4_metres_12 : decode cX4_metres 12 = .ok (.invokevirtual 126, 3) := by decide +kernel
theorem dX4_metres_15 : decode cX4_metres 15 = .ok (.i2l, 1) := by decide +kernel
theorem dX4_metres_16 : decode cX4_metres 16 = .ok (.lreturn, 1) := by decide +kernel
theorem dX4_metres_17 : decode cX4_metres 17 = .ok (.aload_n 0, 1) := by decide +kernel
theorem dX4_metres_18 : decode cX4_metres 18 = .ok (.iconst 0, 1) := by decide +kernel
theorem dX4_metres_19 : decode cX4_metres 19 = .ok (.putfield 49, 3) := by decide +kernel
theorem dX4_metres_22 : decode cX4_metres 22 = .ok (.aload_n 0, 1) := by decide +kernel
theorem dX4_metres_23 : decode cX4_metres 23 = .ok (.getfield 13, 3) := by decide +kernel
theorem dX4_metres_26 : decode cX4_metres 26 = .ok (.iconst 2, 1) := by decide +kernel
theorem dX4_metres_27 : decode cX4_metres 27 = .ok (.iconst 5, 1) := by decide +kernel
theorem dX4_metres_28 : decode cX4_metres 28 = .ok (.iload_n 1, 1) := by decide +kernel
theorem dX4_metres_29 : decode cX4_metres 29 = .ok (.imul, 1) := by decide +kernel
theorem dX4_metres_30 : decode cX4_metres 30 = .ok (.iadd, 1) := by decide +kernel
theorem dX4_metres_31 : decode cX4_metres 31 = .ok (.iload_n 2, 1) := by decide +kernel
theorem dX4_metres_32 : decode cX4_metres 32 = .ok (.ifCond .eq 7, 3) := by decide +kernel
theorem dX4_metres_35 : decode cX4_metres 35 = .ok (.iconst 1, 1) := by decide +kernel
theorem dX4_metres_36 : decode cX4_metres 36 = .ok (.goto 4, 3) := by decide +kernel
theorem dX4_metres_39 : decode cX4_metres 39 = .ok (.iconst 0, 1) := by decide +kernel
theorem dX4_metres_40 : decode cX4_metres 40 = .ok (.iadd, 1) := by decide +kernel
theorem dX4_metres_41 : decode cX4_metres 41 = .ok (.laload, 1) := by decide +kernel
theorem dX4_metres_42 : decode cX4_metres 42 = .ok (.aload_n 0, 1) := by decide +kernel
theorem dX4_metres_43 : decode cX4_metres 43 = .ok (.getfield 25, 3) := by decide +kernel
theorem dX4_metres_46 : decode cX4_metres 46 = .ok (.i2l, 1) := by decide +kernel
theorem dX4_metres_47 : decode cX4_metres 47 = .ok (.lmul, 1) := by decide +kernel
theorem dX4_metres_48 : decode cX4_metres 48 = .ok (.ldc2_w 130, 3) := by decide +kernel
theorem dX4_metres_51 : decode cX4_metres 51 = .ok (.ldiv, 1) := by decide +kernel
theorem dX4_metres_52 : decode cX4_metres 52 = .ok (.lreturn, 1) := by decide +kernel
theorem dX4_common_0 : decode cX4_common 0 = .ok (.lload_n 0, 1) := by decide +kernel
theorem dX4_common_1 : decode cX4_common 1 = .ok (.lstore 4, 2) := by decide +kernel
theorem dX4_common_3 : decode cX4_common 3 = .ok (.lload_n 2, 1) := by decide +kernel
theorem dX4_common_4 : decode cX4_common 4 = .ok (.lstore 6, 2) := by decide +kernel
theorem dX4_common_6 : decode cX4_common 6 = .ok (.lload 6, 2) := by decide +kernel
theorem dX4_common_8 : decode cX4_common 8 = .ok (.lconst 0, 1) := by decide +kernel
theorem dX4_common_9 : decode cX4_common 9 = .ok (.lcmp, 1) := by decide +kernel
theorem dX4_common_10 : decode cX4_common 10 = .ok (.ifCond .eq 21, 3) := by decide +kernel
theorem dX4_common_13 : decode cX4_common 13 = .ok (.lload 4, 2) := by decide +kernel
theorem dX4_common_15 : decode cX4_common 15 = .ok (.lload 6, 2) := by decide +kernel
theorem dX4_common_17 : decode cX4_common 17 = .ok (.lrem, 1) := by decide +kernel
theorem dX4_common_18 : decode cX4_common 18 = .ok (.lstore 8, 2) := by decide +kernel
theorem dX4_common_20 : decode cX4_common 20 = .ok (.lload 6, 2) := by decide +kernel
theorem dX4_common_22 : decode cX4_common 22 = .ok (.lstore 4, 2) := by decide +kernel
theorem dX4_common_24 : decode cX4_common 24 = .ok (.lload 8, 2) := by decide +kernel
theorem dX4_common_26 : decode cX4_common 26 = .ok (.lstore 6, 2) := by decide +kernel
theorem dX4_common_28 : decode cX4_common 28 = .ok (.goto (-22), 3) := by decide +kernel
theorem dX4_common_31 : decode cX4_common 31 = .ok (.lload 4, 2) := by decide +kernel
theorem dX4_common_33 : decode cX4_common 33 = .ok (.lreturn, 1) := by decide +kernel
set_option maxRecDepth 20000 in
theorem ggX4_average_X4_begin : GoodIn wsX4_average wsX4_begin := goodIn_r _ [9, 10, 1, 11, 12, 13, 14, 15, 8, 16, 17, 28, 29, 30, 31, 32, 33, 34, 35, 36, 37, 38, 39, 40, 41, 42, 43, 44] (by decide +kernel) (by decide +kernel)
set_option maxRecDepth 20000 in
theorem gX4_average_X4_begin : GoodIn wsX4_average (wsV RX4 75 RX4 yX4_begin wsX4_begin) := goodIn_app (goodIn_of _ (by decide +kernel)) ggX4_average_X4_begin
