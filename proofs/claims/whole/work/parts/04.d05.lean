set_option maxRecDepth 20000 in
theorem ggX4_average_X4_isMark : GoodIn wsX4_average wsX4_isMark := goodIn_r _ [20] (by decide +kernel) (by decide +kernel)
set_option maxRecDepth 20000 in
theorem gX4_average_X4_isMark : GoodIn wsX4_average (va_wsS RX4 123 yX4_isMark wsX4_isMark) := goodIn_app (goodIn_of _ (by decide +kernel)) ggX4_average_X4_isMark
set_option maxRecDepth 20000 in
theorem ggX4_average_X4_refuse : GoodIn wsX4_average wsX4_refuse := goodIn_r _ [24, 3, 28, 29, 30, 31, 32, 33, 34, 35, 36, 37, 38, 39, 40, 41, 42, 43, 44] (by decide +kernel) (by decide +kernel)
set_option maxRecDepth 20000 in
theorem gX4_average_X4_refuse : GoodIn wsX4_average (wsV RX4 126 RX4 yX4_refuse wsX4_refuse) := goodIn_app (goodIn_of _ (by decide +kernel)) ggX4_average_X4_refuse
set_option maxRecDepth 20000 in
theorem ggX4_average_X4_common : GoodIn wsX4_average wsX4_common := goodIn_r _ [27] (by decide +kernel) (by decide +kernel)
set_option maxRecDepth 20000 in
theorem gX4_average_X4_common : GoodIn wsX4_average (va_wsS RX4 134 yX4_common wsX4_common) := goodIn_app (goodIn_of _ (by decide +kernel)) ggX4_average_X4_common
theorem dX4_average_0 : decode cX4_average 0 = .ok (.aload_n 0, 1) := by decide +kernel
theorem dX4_average_1 : decode cX4_average 1 = .ok (.invokevirtual 75, 3) := by decide +kernel
theorem dX4_average_4 : decode cX4_average 4 = .ok (.iload_n 1, 1) := by decide +kernel
theorem dX4_average_5 : decode cX4_average 5 = .ok (.invokestatic 123, 3) := by decide +kernel
theorem dX4_average_8 : decode cX4_average 8 = .ok (.ifCond .eq 12, 3) := by decide +kernel
theorem dX4_average_11 : decode cX4_average 11 = .ok (.iload_n 3, 1) := by decide +kernel
theorem dX4_average_12 : decode cX4_average 12 = .ok (.ifCond .lt 8, 3) := by decide +kernel
theorem dX4_average_15 : decode cX4_average 15 = .ok (.iload_n 3, 1) := by decide +kernel
theorem dX4_average_16 : decode cX4_average 16 = .ok (.iconst 1, 1) := by decide +kernel
theorem dX4_average_17 : decode cX4_average 17 = .ok (.if_icmp .le 9, 3) := by decide +kernel
theorem dX4_average_20 : decode cX4_average 20 = .ok (.aload_n 0, 1) := by decide +kernel
theorem dX4_average_21 : decode cX4_average 21 = .ok (.invokevirtual 126, 3) := by decide +kernel
theorem dX4_average_24 : decode cX4_average 24 = .ok (.i2l, 1) := by decide +kernel
theorem dX4_average_25 : decode cX4_average 25 = .ok (.lreturn, 1) := by decide +kernel
theorem dX4_average_26 : decode cX4_average 26 = .ok (.aload_n 0, 1) := by decide +kernel
theorem dX4_average_27 : decode cX4_average 27 = .ok (.getfield 13, 3) := by decide +kernel
theorem dX4_average_30 : decode cX4_average 30 = .ok (.iconst 2, 1) := by decide +kernel
theorem dX4_average_31 : decode cX4_average 31 = .ok (.iconst 5, 1) := by decide +kernel
theorem dX4_average_32 : decode cX4_average 32 = .ok (.iload_n 1, 1) := by decide +kernel
theorem dX4_average_33 : decode cX4_average 33 = .ok (.imul, 1) := by decide +kernel
theorem dX4_average_34 : decode cX4_average 34 = .ok (.iadd, 1) := by decide +kernel
theorem dX4_average_35 : decode cX4_average 35 = .ok (.iload_n 2, 1) := by decide +kernel
theorem dX4_average_36 : decode cX4_average 36 = .ok (.ifCond .eq 7, 3) := by decide +kernel
theorem dX4_average_39 : decode cX4_average 39 = .ok (.iconst 0, 1) := by decide +kernel
theorem dX4_average_40 : decode cX4_average 40 = .ok (.goto 4, 3) := by decide +kernel
theorem dX4_average_43 : decode cX4_average 43 = .ok (.iconst 1, 1) := by decide +kernel
theorem dX4_average_44 : decode cX4_average 44 = .ok (.iadd, 1) := by decide +kernel
theorem dX4_average_45 : decode cX4_average 45 = .ok (.laload, 1) := by decide +kernel
theorem dX4_average_46 : decode cX4_average 46 = .ok (.aload_n 0, 1) := by decide +kernel
theorem dX4_average_47 : decode cX4_average 47 = .ok (.getfield 25, 3) := by decide +kernel
theorem dX4_average_50 : decode cX4_average 50 = .ok (.i2l, 1) := by decide +kernel
theorem dX4_average_51 : decode cX4_average 51 = .ok (.lmul, 1) := by decide +kernel
theorem dX4_average_52 : decode cX4_average 52 = .ok (.lstore 4, 2) := by decide +kernel
theorem dX4_average_54 : decode cX4_average 54 = .ok (.lload 4, 2) := by decide +kernel
theorem dX4_average_56 : decode cX4_average 56 = .ok (.lconst 0, 1) := by decide +kernel
theorem dX4_average_57 : decode cX4_average 57 = .ok (.lcmp, 1) := by decide +kernel
theorem dX4_average_58 : decode cX4_average 58 = .ok (.ifCond .ne 9, 3) := by decide +kernel
theorem dX4_average_61 : decode cX4_average 61 = .ok (.aload_n 0, 1) := by decide +kernel
theorem dX4_average_62 : decode cX4_average 62 = .ok (.invokevirtual 126, 3) := by decide +kernel
theorem dX4_average_65 : decode cX4_average 65 = .ok (.i2l, 1) := by decide +kernel
theorem dX4_average_66 : decode cX4_average 66 = .ok (.lreturn, 1) := by decide +kernel
theorem dX4_average_67 : decode cX4_average 67 = .ok (.aload_n 0, 1) := by decide +kernel
theorem dX4_average_68 : decode cX4_average 68 = .ok (.iconst 0, 1) := by decide +kernel
theorem dX4_average_69 : decode cX4_average 69 = .ok (.putfield 49, 3) := by decide +kernel
theorem dX4_average_72 : decode cX4_average 72 = .ok (.aload_n 0, 1) := by decide +kernel
theorem dX4_average_73 : decode cX4_average 73 = .ok (.getfield 13, 3) := by decide +kernel
theorem dX4_average_76 : decode cX4_average 76 = .ok (.iconst 2, 1) := by decide +kernel
theorem dX4_average_77 : decode cX4_average 77 = .ok (.iconst 5, 1) := by decide +kernel
theorem dX4_average_78 : decode cX4_average 78 = .ok (.iload_n 1, 1) := by decide +kernel
theorem dX4_average_79 : decode cX4_average 79 = .ok (.imul, 1) := by decide +kernel
theorem dX4_average_80 : decode cX4_average 80 = .ok (.iadd, 1) := by decide +kernel
theorem dX4_average_81 : decode cX4_average 81 = .ok (.iload_n 2, 1) := by decide +kernel
theorem dX4_average_82 : decode cX4_average 82 = .ok (.ifCond .eq 7, 3) := by decide +kernel
theorem dX4_average_85 : decode cX4_average 85 = .ok (.iconst 3, 1) := by decide +kernel
theorem dX4_average_86 : decode cX4_average 86 = .ok (.goto 4, 3) := by decide +kernel
theorem dX4_average_89 : decode cX4_average 89 = .ok (.iconst 2, 1) := by decide +kernel
theorem dX4_average_90 : decode cX4_average 90 = .ok (.iadd, 1) := by decide +kernel
theorem dX4_average_91 : decode cX4_average 91 = .ok (.laload, 1) := by decide +kernel
theorem dX4_average_92 : decode cX4_average 92 = .ok (.ldc2_w 132, 3) := by decide +kernel
theorem dX4_average_95 : decode cX4_average 95 = .ok (.lmul, 1) := by decide +kernel
theorem dX4_average_96 : decode cX4_average 96 = .ok (.lstore 6, 2) := by decide +kernel
theorem dX4_average_98 : decode cX4_average 98 = .ok (.iload_n 3, 1) := by decide +kernel
theorem dX4_average_99 : decode cX4_average 99 = .ok (.ifCond .ne 8, 3) := by decide +kernel
theorem dX4_average_102 : decode cX4_average 102 = .ok (.lload 6, 2) := by decide +kernel
theorem dX4_average_104 : decode cX4_average 104 = .ok (.goto 5, 3) := by decide +kernel
theorem dX4_average_107 : decode cX4_average 107 = .ok (.lload 4, 2) := by decide +kernel
theorem dX4_average_109 : decode cX4_average 109 = .ok (.lload 6, 2) := by decide +kernel
theorem dX4_average_111 : decode cX4_average 111 = .ok (.lload 4, 2) := by decide +kernel
theorem dX4_average_113 : decode cX4_average 113 = .ok (.invokestatic 134, 3) := by decide +kernel
theorem dX4_average_116 : decode cX4_average 116 = .ok (.ldiv, 1) := by decide +kernel
theorem dX4_average_117 : decode cX4_average 117 = .ok (.lreturn, 1) := by decide +kernel
set_option maxRecDepth 20000 in
theorem ggX4_range_X4_begin : GoodIn wsX4_range wsX4_begin := goodIn_r _ [9, 10, 2, 11, 12, 13, 14, 15, 8, 16, 17, 18, 19, 20, 21, 22, 23, 24, 25, 26, 27, 28, 29, 30, 31, 32, 33, 34] (by decide +kernel) (by decide +kernel)
set_option maxRecDepth 20000 in
theorem gX4_range_X4_begin : GoodIn wsX4_range (wsV RX4 75 RX4 yX4_begin wsX4_begin) := goodIn_app (goodIn_of _ (by decide +kernel)) ggX4_range_X4_begin
theorem dX4_range_0 : decode cX4_range 0 = .ok (.aload_n 0, 1) := by decide +kernel
theorem dX4_range_1 : decode cX4_range 1 = .ok (.iconst 0, 1) := by decide +kernel
theorem dX4_range_2 : decode cX4_range 2 = .ok (.putfield 49, 3) := by decide +kernel
theorem dX4_range_5 : decode cX4_range 5 = .ok (.aload_n 0, 1) := by decide +kernel
theorem dX4_range_6 : decode cX4_range 6 = .ok (.invokevirtual 75, 3) := by decide +kernel
theorem dX4_range_9 : decode cX4_range 9 = .ok (.iload_n 1, 1) := by decide +kernel
theorem dX4_range_10 : decode cX4_range 10 = .ok (.ifCond .eq 18, 3) := by decide +kernel
theorem dX4_range_13 : decode cX4_range 13 = .ok (.aload_n 0, 1) := by decide +kernel
theorem dX4_range_14 : decode cX4_range 14 = .ok (.getfield 13, 3) := by decide +kernel
theorem dX4_range_17 : decode cX4_range 17 = .ok (.iconst 1, 1) := by decide +kernel
theorem dX4_range_18 : decode cX4_range 18 = .ok (.laload, 1) := by decide +kernel
theorem dX4_range_19 : decode cX4_range 19 = .ok (.aload_n 0, 1) := by decide +kernel
theorem dX4_range_20 : decode cX4_range 20 = .ok (.getfield 37, 3) := by decide +kernel
theorem dX4_range_23 : decode cX4_range 23 = .ok (.i2l, 1) := by decide +kernel
theorem dX4_range_24 : decode cX4_range 24 = .ok (.ldiv, 1) := by decide +kernel
theorem dX4_range_25 : decode cX4_range 25 = .ok (.goto 15, 3) := by decide +kernel
theorem dX4_range_28 : decode cX4_range 28 = .ok (.aload_n 0, 1) := by decide +kernel
theorem dX4_range_29 : decode cX4_range 29 = .ok (.getfield 13, 3) := by decide +kernel
theorem dX4_range_32 : decode cX4_range 32 = .ok (.iconst 0, 1) := by decide +kernel
theorem dX4_range_33 : decode cX4_range 33 = .ok (.laload, 1) := by decide +kernel
theorem dX4_range_34 : decode cX4_range 34 = .ok (.aload_n 0, 1) := by decide +kernel
theorem dX4_range_35 : decode cX4_range 35 = .ok (.getfield 40, 3) := by decide +kernel
theorem dX4_range_38 : decode cX4_range 38 = .ok (.i2l, 1) := by decide +kernel
theorem dX4_range_39 : decode cX4_range 39 = .ok (.ldiv, 1) := by decide +kernel
theorem dX4_range_40 : decode cX4_range 40 = .ok (.l2i, 1) := by decide +kernel
theorem dX4_range_41 : decode cX4_range 41 = .ok (.ireturn, 1) := by decide +kernel
set_option maxRecDepth 20000 in
theorem ggX4_shown_X4_begin : GoodIn wsX4_shown wsX4_begin := goodIn_r _ [7, 8, 2, 9, 10, 11, 12, 13, 6, 14, 15, 16, 17, 18, 19, 20, 21, 22, 23, 24, 25, 26, 27, 28, 29, 30, 31, 32] (by decide +kernel) (by decide +kernel)
set_option maxRecDepth 20000 in
theorem gX4_shown_X4_begin : GoodIn wsX4_shown (wsV RX4 75 RX4 yX4_begin wsX4_begin) := goodIn_app (goodIn_of _ (by decide +kernel)) ggX4_shown_X4_begin
theorem dX4_shown_0 : decode cX4_shown 0 = .ok (.aload_n 0, 1) := by decide +kernel
theorem dX4_shown_1 : decode cX4_shown 1 = .ok (.iconst 0, 1) := by decide +kernel
theorem dX4_shown_2 : decode cX4_shown 2 = .ok (.putfield 49, 3) := by decide +kernel
theorem dX4_shown_5 : decode cX4_shown 5 = .ok (.aload_n 0, 1) := by decide +kernel
theorem dX4_shown_6 : decode cX4_shown 6 = .ok (.invokevirtual 75, 3) := by decide +kernel
theorem dX4_shown_9 : decode cX4_shown 9 = .ok (.aload_n 0, 1) := by decide +kernel
theorem dX4_shown_10 : decode cX4_shown 10 = .ok (.getfield 13, 3) := by decide +kernel
theorem dX4_shown_13 : decode cX4_shown 13 = .ok (.bipush 25, 2) := by decide +kernel
theorem dX4_shown_15 : decode cX4_shown 15 = .ok (.laload, 1) := by decide +kernel
theorem dX4_shown_16 : decode cX4_shown 16 = .ok (.l2i, 1) := by decide +kernel
theorem dX4_shown_17 : decode cX4_shown 17 = .ok (.ireturn, 1) := by decide +kernel
set_option maxRecDepth 20000 in
theorem ggX4_refill_X4_begin : GoodIn wsX4_refill wsX4_begin := goodIn_r _ [8, 9, 1, 10, 11, 12, 13, 14, 7, 15, 16, 24, 25, 26, 27, 28, 29, 30, 31, 32, 33, 34, 35, 36, 37, 38, 39, 40] (by decide +kernel) (by decide +kernel)
set_option maxRecDepth 20000 in
theorem gX4_refill_X4_begin : GoodIn wsX4_refill (wsV RX4 75 RX4 yX4_begin wsX4_begin) := goodIn_app (goodIn_of _ (by decide +kernel)) ggX4_refill_X4_begin
set_option maxRecDepth 20000 in
theorem ggX4_refill_X4_refuse : GoodIn wsX4_refill wsX4_refuse := goodIn_r _ [20, 3, 24, 25, 26, 27, 28, 29, 30, 31, 32, 33, 34, 35, 36, 37, 38, 39, 40] (by decide +kernel) (by decide +kernel)
set_option maxRecDepth 20000 in
theorem gX4_refill_X4_refuse : GoodIn wsX4_refill (wsV RX4 126 RX4 yX4_refuse wsX4_refuse) := goodIn_app (goodIn_of _ (by decide +kernel)) ggX4_refill_X4_refuse
set_option maxRecDepth 20000 in
theorem ggX4_refill_X4_place : GoodIn wsX4_refill wsX4_place := goodIn_r _ [23, 2] (by decide +kernel) (by decide +kernel)
set_option maxRecDepth 20000 in
theorem gX4_refill_X4_place : GoodIn wsX4_refill (va_wsS RX4 116 yX4_place wsX4_place) := goodIn_app (goodIn_of _ (by decide +kernel)) ggX4_refill_X4_place
theorem dX4_refill_0 : decode cX4_refill 0 = .ok (.aload_n 0, 1) := by decide +kernel
theorem dX4_refill_1 : decode cX4_refill 1 = .ok (.invokevirtual 75, 3) := by decide +kernel
theorem dX4_refill_4 : decode cX4_refill 4 = .ok (.iload_n 1, 1) := by decide +kernel
theorem dX4_refill_5 : decode cX4_refill 5 = .ok (.ifCond .lt 33, 3) := by decide +kernel
theorem dX4_refill_8 : decode cX4_refill 8 = .ok (.iload_n 1, 1) := by decide +kernel
theorem dX4_refill_9 : decode cX4_refill 9 = .ok (.i2l, 1) := by decide +kernel
theorem dX4_refill_10 : decode cX4_refill 10 = .ok (.aload_n 0, 1) := by decide +kernel
theorem dX4_refill_11 : decode cX4_refill 11 = .ok (.getfield 13, 3) := by decide +kernel
theorem dX4_refill_14 : decode cX4_refill 14 = .ok (.bipush 22, 2) := by decide +kernel
theorem dX4_refill_16 : decode cX4_refill 16 = .ok (.laload, 1) := by decide +kernel
theorem dX4_refill_17 : decode cX4_refill 17 = .ok (.lcmp, 1) := by decide +kernel
theorem dX4_refill_18 : decode cX4_refill 18 = .ok (.ifCond .ge 20, 3) := by decide +kernel
theorem dX4_refill_21 : decode cX4_refill 21 = .ok (.iload_n 1, 1) := by decide +kernel
theorem dX4_refill_22 : decode cX4_refill 22 = .ok (.i2l, 1) := by decide +kernel
theorem dX4_refill_23 : decode cX4_refill 23 = .ok (.aload_n 0, 1) := by decide +kernel
theorem dX4_refill_24 : decode cX4_refill 24 = .ok (.getfield 13, 3) := by decide +kernel
theorem dX4_refill_27 : decode cX4_refill 27 = .ok (.bipush 22, 2) := by decide +kernel
theorem dX4_refill_29 : decode cX4_refill 29 = .ok (.laload, 1) := by decide +kernel
theorem dX4_refill_30 : decode cX4_refill 30 = .ok (.ldc2_w 109, 3) := by decide +kernel
theorem dX4_refill_33 : decode cX4_refill 33 = .ok (.lsub, 1) := by decide +kernel
theorem dX4_refill_34 : decode cX4_refill 34 = .ok (.lcmp, 1) := by decide +kernel
theorem dX4_refill_35 : decode cX4_refill 35 = .ok (.ifCond .ge 8, 3) := by decide +kernel
theorem dX4_refill_38 : decode cX4_refill 38 = .ok (.aload_n 0, 1) := by decide +kernel
theorem dX4_refill_39 : decode cX4_refill 39 = .ok (.invokevirtual 126, 3) := by decide +kernel
theorem dX4_refill_42 : decode cX4_refill 42 = .ok (.ireturn, 1) := by decide +kernel
theorem dX4_refill_43 : decode cX4_refill 43 = .ok (.aload_n 0, 1) := by decide +kernel
theorem dX4_refill_44 : decode cX4_refill 44 = .ok (.iconst 0, 1) := by decide +kernel
theorem dX4_refill_45 : decode cX4_refill 45 = .ok (.putfield 49, 3) := by decide +kernel
theorem dX4_refill_48 : decode cX4_refill 48 = .ok (.aload_n 0, 1) := by decide +kernel
theorem dX4_refill_49 : decode cX4_refill 49 = .ok (.getfield 13, 3) := by decide +kernel
theorem dX4_refill_52 : decode cX4_refill 52 = .ok (.iload_n 1, 1) := by decide +kernel
theorem dX4_refill_53 : decode cX4_refill 53 = .ok (.i2l, 1) := by decide +kernel
theorem dX4_refill_54 : decode cX4_refill 54 = .ok (.invokestatic 116, 3) := by decide +kernel
theorem dX4_refill_57 : decode cX4_refill 57 = .ok (.iload_n 2, 1) := by decide +kernel
theorem dX4_refill_58 : decode cX4_refill 58 = .ok (.ifCond .eq 7, 3) := by decide +kernel
theorem dX4_refill_61 : decode cX4_refill 61 = .ok (.iconst 1, 1) := by decide +kernel
theorem dX4_refill_62 : decode cX4_refill 62 = .ok (.goto 4, 3) := by decide +kernel
theorem dX4_refill_65 : decode cX4_refill 65 = .ok (.iconst 0, 1) := by decide +kernel
theorem dX4_refill_66 : decode cX4_refill 66 = .ok (.iadd, 1) := by decide +kernel
theorem dX4_refill_67 : decode cX4_refill 67 = .ok (.laload, 1) := by decide +kernel
theorem dX4_refill_68 : decode cX4_refill 68 = .ok (.l2i, 1) := by decide +kernel
theorem dX4_refill_69 : decode cX4_refill 69 = .ok (.ireturn, 1) := by decide +kernel
theorem dX4_need_0 : decode cX4_need 0 = .ok (.aload_n 0, 1) := by decide +kernel
theorem dX4_need_1 : decode cX4_need 1 = .ok (.getfield 7, 3) := by decide +kernel
theorem dX4_need_4 : decode cX4_need 4 = .ok (.iconst 2, 1) := by decide +kernel
theorem dX4_need_5 : decode cX4_need 5 = .ok (.iload_n 1, 1) := by decide +kernel
theorem dX4_need_6 : decode cX4_need 6 = .ok (.imul, 1) := by decide +kernel
theorem dX4_need_7 : decode cX4_need 7 = .ok (.iaload, 1) := by decide +kernel
theorem dX4_need_8 : decode cX4_need 8 = .ok (.aload_n 0, 1) := by decide +kernel
theorem dX4_need_9 : decode cX4_need 9 = .ok (.getfield 40, 3) := by decide +kernel
theorem dX4_need_12 : decode cX4_need 12 = .ok (.imul, 1) := by decide +kernel
theorem dX4_need_13 : decode cX4_need 13 = .ok (.sipush 999, 3) := by decide +kernel
theorem dX4_need_16 : decode cX4_need 16 = .ok (.iadd, 1) := by decide +kernel
theorem dX4_need_17 : decode cX4_need 17 = .ok (.sipush 1000, 3) := by decide +kernel
theorem dX4_need_20 : decode cX4_need 20 = .ok (.idiv, 1) := by decide +kernel
theorem dX4_need_21 : decode cX4_need 21 = .ok (.ireturn, 1) := by decide +kernel
set_option maxRecDepth 20000 in
theorem ggX4_behind_X4_need : GoodIn wsX4_behind wsX4_need := goodIn_r _ [7, 8, 9, 10, 11, 12, 13, 14, 15, 16, 17, 18, 19, 20, 21, 22, 23, 24, 25, 26] (by decide +kernel) (by decide +kernel)
set_option maxRecDepth 20000 in
theorem gX4_behind_X4_need : GoodIn wsX4_behind (wsV RX4 137 RX4 yX4_need wsX4_need) := goodIn_app (goodIn_of _ (by decide +kernel)) ggX4_behind_X4_need
theorem dX4_behind_0 : decode cX4_behind 0 = .ok (.iload_n 2, 1) := by decide +kernel
theorem dX4_behind_1 : decode cX4_behind 1 = .ok (.aload_n 0, 1) := by decide +kernel
theorem dX4_behind_2 : decode cX4_behind 2 = .ok (.iload_n 1, 1) := by decide +kernel
theorem dX4_behind_3 : decode cX4_behind 3 = .ok (.invokevirtual 137, 3) := by decide +kernel
theorem dX4_behind_6 : decode cX4_behind 6 = .ok (.isub, 1) := by decide +kernel
theorem dX4_behind_7 : decode cX4_behind 7 = .ok (.istore 4, 2) := by decide +kernel
theorem dX4_behind_9 : decode cX4_behind 9 = .ok (.iload 4, 2) := by decide +kernel
theorem dX4_behind_11 : decode cX4_behind 11 = .ok (.ifCond .ge 6, 3) := by decide +kernel
theorem dX4_behind_14 : decode cX4_behind 14 = .ok (.ldc 141, 2) := by decide +kernel
theorem dX4_behind_16 : decode cX4_behind 16 = .ok (.ireturn, 1) := by decide +kernel
theorem dX4_behind_17 : decode cX4_behind 17 = .ok (.iload_n 1, 1) := by decide +kernel
theorem dX4_behind_18 : decode cX4_behind 18 = .ok (.iload_n 3, 1) := by decide +kernel
theorem dX4_behind_19 : decode cX4_behind 19 = .ok (.iconst 1, 1) := by decide +kernel
theorem dX4_behind_20 : decode cX4_behind 20 = .ok (.isub, 1) := by decide +kernel
theorem dX4_behind_21 : decode cX4_behind 21 = .ok (.if_icmp .ne 7, 3) := by decide +kernel
theorem dX4_behind_24 : decode cX4_behind 24 = .ok (.iconst 0, 1) := by decide +kernel
theorem dX4_behind_25 : decode cX4_behind 25 = .ok (.goto 15, 3) := by decide +kernel
theorem dX4_behind_28 : decode cX4_behind 28 = .ok (.aload_n 0, 1) := by decide +kernel
theorem dX4_behind_29 : decode cX4_behind 29 = .ok (.getfield 43, 3) := by decide +kernel
theorem dX4_behind_32 : decode cX4_behind 32 = .ok (.bipush 121, 2) := by decide +kernel
theorem dX4_behind_34 : decode cX4_behind 34 = .ok (.iload_n 1, 1) := by decide +kernel
theorem dX4_behind_35 : decode cX4_behind 35 = .ok (.imul, 1) := by decide +kernel
theorem dX4_behind_36 : decode cX4_behind 36 = .ok (.iload 4, 2) := by decide +kernel
theorem dX4_behind_38 : decode cX4_behind 38 = .ok (.iadd, 1) := by decide +kernel
theorem dX4_behind_39 : decode cX4_behind 39 = .ok (.iaload, 1) := by decide +kernel
theorem dX4_behind_40 : decode cX4_behind 40 = .ok (.ireturn, 1) := by decide +kernel
set_option maxRecDepth 20000 in
theorem ggX4_plan_X4_begin : GoodIn wsX4_plan wsX4_begin := goodIn_r _ [14, 15, 5, 4, 16, 17, 18, 19, 13, 20, 21, 35, 36, 37, 38, 39, 40, 41, 42, 43, 44, 45, 46, 47, 48, 49, 50, 51] (by decide +kernel) (by decide +kernel)
set_option maxRecDepth 20000 in
theorem gX4_plan_X4_begin : GoodIn wsX4_plan (wsV RX4 75 RX4 yX4_begin wsX4_begin) := goodIn_app (goodIn_of _ (by decide +kernel)) ggX4_plan_X4_begin
set_option maxRecDepth 20000 in
theorem ggX4_plan_X4_behind : GoodIn wsX4_plan wsX4_behind := goodIn_r _ [25, 6, 7, 26, 27, 28, 13, 29, 3, 30, 35, 36, 37, 38, 39, 40, 41, 42, 43, 44, 45, 46, 47, 48, 49, 50, 51] (by decide +kernel) (by decide +kernel)
set_option maxRecDepth 20000 in
theorem gX4_plan_X4_behind : GoodIn wsX4_plan (wsV RX4 142 RX4 yX4_behind wsX4_behind) := goodIn_app (goodIn_of _ (by decide +kernel)) ggX4_plan_X4_behind
set_option maxRecDepth 20000 in
theorem ggX4_plan_X4_need : GoodIn wsX4_plan wsX4_need := goodIn_r _ [29, 3, 30, 35, 36, 37, 38, 39, 40, 41, 42, 43, 44, 45, 46, 47, 48, 49, 50, 51] (by decide +kernel) (by decide +kernel)
set_option maxRecDepth 20000 in
theorem gX4_plan_X4_need : GoodIn wsX4_plan (wsV RX4 137 RX4 yX4_need wsX4_need) := goodIn_app (goodIn_of _ (by decide +kernel)) ggX4_plan_X4_need
set_option maxRecDepth 20000 in
theorem ggX4_plan_X4_isBest : GoodIn wsX4_plan wsX4_isBest := goodIn_r _ [34, 6, 3, 7, 22, 23, 24, 13, 25, 26, 27, 28, 29, 30, 35, 36, 37, 38, 39, 40, 41, 42, 43, 44, 45, 46, 47, 48, 49, 50, 51] (by decide +kernel) (by decide +kernel)
set_option maxRecDepth 20000 in
theorem gX4_plan_X4_isBest : GoodIn wsX4_plan (wsV RX4 149 RX4 yX4_isBest wsX4_isBest) := goodIn_app (goodIn_of _ (by decide +kernel)) ggX4_plan_X4_isBest
theorem dX4_plan_0 : decode cX4_plan 0 = .ok (.aload_n 0, 1) := by decide +kernel
theorem dX4_plan_1 : decode cX4_plan 1 = .ok (.iconst 0, 1) := by decide +kernel
theorem dX4_plan_2 : decode cX4_plan 2 = .ok (.putfield 49, 3) := by decide +kernel
theorem dX4_plan_5 : decode cX4_plan 5 = .ok (.aload_n 0, 1) := by decide +kernel
theorem dX4_plan_6 : decode cX4_plan 6 = .ok (.invokevirtual 75, 3) := by decide +kernel
theorem dX4_plan_9 : decode cX4_plan 9 = .ok (.aload_n 0, 1) := by decide +kernel
theorem dX4_plan_10 : decode cX4_plan 10 = .ok (.getfield 52, 3) := by decide +kernel
theorem dX4_plan_13 : decode cX4_plan 13 = .ok (.istore_n 1, 1) := by decide +kernel
theorem dX4_plan_14 : decode cX4_plan 14 = .ok (.aload_n 0, 1) := by decide +kernel
theorem dX4_plan_15 : decode cX4_plan 15 = .ok (.iconst 0, 1) := by decide +kernel
theorem dX4_plan_16 : decode cX4_plan 16 = .ok (.putfield 52, 3) := by decide +kernel
theorem dX4_plan_19 : decode cX4_plan 19 = .ok (.iload_n 1, 1) := by decide +kernel
theorem dX4_plan_20 : decode cX4_plan 20 = .ok (.iconst 2, 1) := by decide +kernel
theorem dX4_plan_21 : decode cX4_plan 21 = .ok (.irem, 1) := by decide +kernel
theorem dX4_plan_22 : decode cX4_plan 22 = .ok (.ifCond .eq 9, 3) := by decide +kernel
theorem dX4_plan_25 : decode cX4_plan 25 = .ok (.iload_n 1, 1) := by decide +kernel
theorem dX4_plan_26 : decode cX4_plan 26 = .ok (.bipush 25, 2) := by decide +kernel
theorem dX4_plan_28 : decode cX4_plan 28 = .ok (.if_icmp .le 6, 3) := by decide +kernel
theorem dX4_plan_31 : decode cX4_plan 31 = .ok (.bipush (-2), 2) := by decide +kernel
theorem dX4_plan_33 : decode cX4_plan 33 = .ok (.ireturn, 1) := by decide +kernel
theorem dX4_plan_34 : decode cX4_plan 34 = .ok (.iconst 0, 1) := by decide +kernel
theorem dX4_plan_35 : decode cX4_plan 35 = .ok (.istore_n 2, 1) := by decide +kernel
theorem dX4_plan_36 : decode cX4_plan 36 = .ok (.iload_n 2, 1) := by decide +kernel
theorem dX4_plan_37 : decode cX4_plan 37 = .ok (.iload_n 1, 1) := by decide +kernel
theorem dX4_plan_38 : decode cX4_plan 38 = .ok (.if_icmp .ge 21, 3) := by decide +kernel
theorem dX4_plan_41 : decode cX4_plan 41 = .ok (.aload_n 0, 1) := by decide +kernel
theorem dX4_plan_42 : decode cX4_plan 42 = .ok (.getfield 7, 3) := by decide +kernel
theorem dX4_plan_45 : decode cX4_plan 45 = .ok (.iload_n 2, 1) := by decide +kernel
theorem dX4_plan_46 : decode cX4_plan 46 = .ok (.iaload, 1) := by decide +kernel
theorem dX4_plan_47 : decode cX4_plan 47 = .ok (.ifCond .ne 6, 3) := by decide +kernel
theorem dX4_plan_50 : decode cX4_plan 50 = .ok (.bipush (-2), 2) := by decide +kernel
theorem dX4_plan_52 : decode cX4_plan 52 = .ok (.ireturn, 1) := by decide +kernel
theorem dX4_plan_53 : decode cX4_plan 53 = .ok (.iinc 2 1, 3) := by decide +kernel
theorem dX4_plan_56 : decode cX4_plan 56 = .ok (.goto (-20), 3) := by decide +kernel
theorem dX4_plan_59 : decode cX4_plan 59 = .ok (.iload_n 1, 1) := by decide +kernel
theorem dX4_plan_60 : decode cX4_plan 60 = .ok (.iconst 1, 1) := by decide +kernel
theorem dX4_plan_61 : decode cX4_plan 61 = .ok (.iadd, 1) := by decide +kernel
theorem dX4_plan_62 : decode cX4_plan 62 = .ok (.iconst 2, 1) := by decide +kernel
theorem dX4_plan_63 : decode cX4_plan 63 = .ok (.idiv, 1) := by decide +kernel
theorem dX4_plan_64 : decode cX4_plan 64 = .ok (.istore_n 2, 1) := by decide +kernel
theorem dX4_plan_65 : decode cX4_plan 65 = .ok (.aload_n 0, 1) := by decide +kernel
theorem dX4_plan_66 : decode cX4_plan 66 = .ok (.getfield 21, 3) := by decide +kernel
theorem dX4_plan_69 : decode cX4_plan 69 = .ok (.sipush 1000, 3) := by decide +kernel
theorem dX4_plan_72 : decode cX4_plan 72 = .ok (.idiv, 1) := by decide +kernel
theorem dX4_plan_73 : decode cX4_plan 73 = .ok (.istore_n 3, 1) := by decide +kernel
theorem dX4_plan_74 : decode cX4_plan 74 = .ok (.aload_n 0, 1) := by decide +kernel
theorem dX4_plan_75 : decode cX4_plan 75 = .ok (.getfield 13, 3) := by decide +kernel
theorem dX4_plan_78 : decode cX4_plan 78 = .ok (.iconst 0, 1) := by decide +kernel
theorem dX4_plan_79 : decode cX4_plan 79 = .ok (.laload, 1) := by decide +kernel
theorem dX4_plan_80 : decode cX4_plan 80 = .ok (.l2i, 1) := by decide +kernel
theorem dX4_plan_81 : decode cX4_plan 81 = .ok (.sipush 1000, 3) := by decide +kernel
theorem dX4_plan_84 : decode cX4_plan 84 = .ok (.idiv, 1) := by decide +kernel
theorem dX4_plan_85 : decode cX4_plan 85 = .ok (.istore 4, 2) := by decide +kernel
theorem dX4_plan_87 : decode cX4_plan 87 = .ok (.iload_n 2, 1) := by decide +kernel
theorem dX4_plan_88 : decode cX4_plan 88 = .ok (.iconst 2, 1) := by decide +kernel
theorem dX4_plan_89 : decode cX4_plan 89 = .ok (.isub, 1) := by decide +kernel
theorem dX4_plan_90 : decode cX4_plan 90 = .ok (.istore 5, 2) := by decide +kernel
theorem dX4_plan_92 : decode cX4_plan 92 = .ok (.iload 5, 2) := by decide +kernel
theorem dX4_plan_94 : decode cX4_plan 94 = .ok (.ifCond .lt 125, 3) := by decide +kernel
theorem dX4_plan_97 : decode cX4_plan 97 = .ok (.iconst 0, 1) := by decide +kernel
theorem dX4_plan_98 : decode cX4_plan 98 = .ok (.istore 6, 2) := by decide +kernel
theorem dX4_plan_100 : decode cX4_plan 100 = .ok (.iload 6, 2) := by decide +kernel
theorem dX4_plan_102 : decode cX4_plan 102 = .ok (.iload_n 3, 1) := by decide +kernel
theorem dX4_plan_103 : decode cX4_plan 103 = .ok (.if_icmp .gt 110, 3) := by decide +kernel
theorem dX4_plan_106 : decode cX4_plan 106 = .ok (.ldc 141, 2) := by decide +kernel
theorem dX4_plan_108 : decode cX4_plan 108 = .ok (.istore 7, 2) := by decide +kernel
theorem dX4_plan_110 : decode cX4_plan 110 = .ok (.iconst 0, 1) := by decide +kernel
theorem dX4_plan_111 : decode cX4_plan 111 = .ok (.istore 8, 2) := by decide +kernel
theorem dX4_plan_113 : decode cX4_plan 113 = .ok (.iload 6, 2) := by decide +kernel
theorem dX4_plan_115 : decode cX4_plan 115 = .ok (.iload 8, 2) := by decide +kernel
theorem dX4_plan_117 : decode cX4_plan 117 = .ok (.iadd, 1) := by decide +kernel
theorem dX4_plan_118 : decode cX4_plan 118 = .ok (.iload_n 3, 1) := by decide +kernel
theorem dX4_plan_119 : decode cX4_plan 119 = .ok (.if_icmp .gt 73, 3) := by decide +kernel
theorem dX4_plan_122 : decode cX4_plan 122 = .ok (.aload_n 0, 1) := by decide +kernel
theorem dX4_plan_123 : decode cX4_plan 123 = .ok (.iload 5, 2) := by decide +kernel
theorem dX4_plan_125 : decode cX4_plan 125 = .ok (.iconst 1, 1) := by decide +kernel
theorem dX4_plan_126 : decode cX4_plan 126 = .ok (.iadd, 1) := by decide +kernel
theorem dX4_plan_127 : decode cX4_plan 127 = .ok (.iload 6, 2) := by decide +kernel
theorem dX4_plan_129 : decode cX4_plan 129 = .ok (.iload 8, 2) := by decide +kernel
theorem dX4_plan_131 : decode cX4_plan 131 = .ok (.iadd, 1) := by decide +kernel
theorem dX4_plan_132 : decode cX4_plan 132 = .ok (.iload_n 2, 1) := by decide +kernel
theorem dX4_plan_133 : decode cX4_plan 133 = .ok (.invokevirtual 142, 3) := by decide +kernel
theorem dX4_plan_136 : decode cX4_plan 136 = .ok (.istore 9, 2) := by decide +kernel
theorem dX4_plan_138 : decode cX4_plan 138 = .ok (.iload 9, 2) := by decide +kernel
theorem dX4_plan_140 : decode cX4_plan 140 = .ok (.ldc 141, 2) := by decide +kernel
theorem dX4_plan_142 : decode cX4_plan 142 = .ok (.if_icmp .ge 44, 3) := by decide +kernel
theorem dX4_plan_145 : decode cX4_plan 145 = .ok (.iload 9, 2) := by decide +kernel
theorem dX4_plan_147 : decode cX4_plan 147 = .ok (.iload 8, 2) := by decide +kernel
theorem dX4_plan_149 : decode cX4_plan 149 = .ok (.aload_n 0, 1) := by decide +kernel
theorem dX4_plan_150 : decode cX4_plan 150 = .ok (.getfield 7, 3) := by decide +kernel
theorem dX4_plan_153 : decode cX4_plan 153 = .ok (.iconst 2, 1) := by decide +kernel
theorem dX4_plan_154 : decode cX4_plan 154 = .ok (.iload 5, 2) := by decide +kernel
theorem dX4_plan_156 : decode cX4_plan 156 = .ok (.imul, 1) := by decide +kernel
theorem dX4_plan_157 : decode cX4_plan 157 = .ok (.iconst 1, 1) := by decide +kernel
theorem dX4_plan_158 : decode cX4_plan 158 = .ok (.iadd, 1) := by decide +kernel
theorem dX4_plan_159 : decode cX4_plan 159 = .ok (.iaload, 1) := by decide +kernel
theorem dX4_plan_160 : decode cX4_plan 160 = .ok (.imul, 1) := by decide +kernel
theorem dX4_plan_161 : decode cX4_plan 161 = .ok (.iadd, 1) := by decide +kernel
theorem dX4_plan_162 : decode cX4_plan 162 = .ok (.iload 7, 2) := by decide +kernel
theorem dX4_plan_164 : decode cX4_plan 164 = .ok (.if_icmp .ge 22, 3) := by decide +kernel
theorem dX4_plan_167 : decode cX4_plan 167 = .ok (.iload 9, 2) := by decide +kernel
theorem dX4_plan_169 : decode cX4_plan 169 = .ok (.iload 8, 2) := by decide +kernel
theorem dX4_plan_171 : decode cX4_plan 171 = .ok (.aload_n 0, 1) := by decide +kernel
theorem dX4_plan_172 : decode cX4_plan 172 = .ok (.getfield 7, 3) := by decide +kernel
theorem dX4_plan_175 : decode cX4_plan 175 = .ok (.iconst 2, 1) := by decide +kernel
theorem dX4_plan_176 : decode cX4_plan 176 = .ok (.iload 5, 2) := by decide +kernel
theorem dX4_plan_178 : decode cX4_plan 178 = .ok (.imul, 1) := by decide +kernel
theorem dX4_plan_179 : decode cX4_plan 179 = .ok (.iconst 1, 1) := by decide +kernel
theorem dX4_plan_180 : decode cX4_plan 180 = .ok (.iadd, 1) := by decide +kernel
theorem dX4_plan_181 : decode cX4_plan 181 = .ok (.iaload, 1) := by decide +kernel
theorem dX4_plan_182 : decode cX4_plan 182 = .ok (.imul, 1) := by decide +kernel
theorem dX4_plan_183 : decode cX4_plan 183 = .ok (.iadd, 1) := by decide +kernel
theorem dX4_plan_184 : decode cX4_plan 184 = .ok (.istore 7, 2) := by decide +kernel
theorem dX4_plan_186 : decode cX4_plan 186 = .ok (.iinc 8 1, 3) := by decide +kernel
theorem dX4_plan_189 : decode cX4_plan 189 = .ok (.goto (-76), 3) := by decide +kernel
theorem dX4_plan_192 : decode cX4_plan 192 = .ok (.aload_n 0, 1) := by decide +kernel
theorem dX4_plan_193 : decode cX4_plan 193 = .ok (.getfield 43, 3) := by decide +kernel
theorem dX4_plan_196 : decode cX4_plan 196 = .ok (.bipush 121, 2) := by decide +kernel
theorem dX4_plan_198 : decode cX4_plan 198 = .ok (.iload 5, 2) := by decide +kernel
theorem dX4_plan_200 : decode cX4_plan 200 = .ok (.imul, 1) := by decide +kernel
theorem dX4_plan_201 : decode cX4_plan 201 = .ok (.iload 6, 2) := by decide +kernel
theorem dX4_plan_203 : decode cX4_plan 203 = .ok (.iadd, 1) := by decide +kernel
theorem dX4_plan_204 : decode cX4_plan 204 = .ok (.iload 7, 2) := by decide +kernel
theorem dX4_plan_206 : decode cX4_plan 206 = .ok (.iastore, 1) := by decide +kernel
theorem dX4_plan_207 : decode cX4_plan 207 = .ok (.iinc 6 1, 3) := by decide +kernel
theorem dX4_plan_210 : decode cX4_plan 210 = .ok (.goto (-110), 3) := by decide +kernel
theorem dX4_plan_213 : decode cX4_plan 213 = .ok (.iinc 5 (-1), 3) := by decide +kernel
theorem dX4_plan_216 : decode cX4_plan 216 = .ok (.goto (-124), 3) := by decide +kernel
theorem dX4_plan_219 : decode cX4_plan 219 = .ok (.aload_n 0, 1) := by decide +kernel
theorem dX4_plan_220 : decode cX4_plan 220 = .ok (.iconst 0, 1) := by decide +kernel
theorem dX4_plan_221 : decode cX4_plan 221 = .ok (.iload 4, 2) := by decide +kernel
theorem dX4_plan_223 : decode cX4_plan 223 = .ok (.iload_n 2, 1) := by decide +kernel
theorem dX4_plan_224 : decode cX4_plan 224 = .ok (.invokevirtual 142, 3) := by decide +kernel
theorem dX4_plan_227 : decode cX4_plan 227 = .ok (.istore 5, 2) := by decide +kernel
theorem dX4_plan_229 : decode cX4_plan 229 = .ok (.iload 5, 2) := by decide +kernel
theorem dX4_plan_231 : decode cX4_plan 231 = .ok (.ldc 141, 2) := by decide +kernel
theorem dX4_plan_233 : decode cX4_plan 233 = .ok (.if_icmp .ne 5, 3) := by decide +kernel
theorem dX4_plan_236 : decode cX4_plan 236 = .ok (.iconst (-1), 1) := by decide +kernel
theorem dX4_plan_237 : decode cX4_plan 237 = .ok (.ireturn, 1) := by decide +kernel
theorem dX4_plan_238 : decode cX4_plan 238 = .ok (.aload_n 0, 1) := by decide +kernel
theorem dX4_plan_239 : decode cX4_plan 239 = .ok (.iload_n 2, 1) := by decide +kernel
theorem dX4_plan_240 : decode cX4_plan 240 = .ok (.iconst 1, 1) := by decide +kernel
theorem dX4_plan_241 : decode cX4_plan 241 = .ok (.isub, 1) := by decide +kernel
theorem dX4_plan_242 : decode cX4_plan 242 = .ok (.putfield 146, 3) := by decide +kernel
theorem dX4_plan_245 : decode cX4_plan 245 = .ok (.iload 4, 2) := by decide +kernel
theorem dX4_plan_247 : decode cX4_plan 247 = .ok (.aload_n 0, 1) := by decide +kernel
theorem dX4_plan_248 : decode cX4_plan 248 = .ok (.iconst 0, 1) := by decide +kernel
theorem dX4_plan_249 : decode cX4_plan 249 = .ok (.invokevirtual 137, 3) := by decide +kernel
theorem dX4_plan_252 : decode cX4_plan 252 = .ok (.isub, 1) := by decide +kernel
theorem dX4_plan_253 : decode cX4_plan 253 = .ok (.istore 6, 2) := by decide +kernel
theorem dX4_plan_255 : decode cX4_plan 255 = .ok (.iconst 0, 1) := by decide +kernel
theorem dX4_plan_256 : decode cX4_plan 256 = .ok (.istore 7, 2) := by decide +kernel
theorem dX4_plan_258 : decode cX4_plan 258 = .ok (.iload 7, 2) := by decide +kernel
theorem dX4_plan_260 : decode cX4_plan 260 = .ok (.aload_n 0, 1) := by decide +kernel
theorem dX4_plan_261 : decode cX4_plan 261 = .ok (.getfield 146, 3) := by decide +kernel
theorem dX4_plan_264 : decode cX4_plan 264 = .ok (.if_icmp .ge 57, 3) := by decide +kernel
theorem dX4_plan_267 : decode cX4_plan 267 = .ok (.iconst 0, 1) := by decide +kernel
theorem dX4_plan_268 : decode cX4_plan 268 = .ok (.istore 8, 2) := by decide +kernel
theorem dX4_plan_270 : decode cX4_plan 270 = .ok (.aload_n 0, 1) := by decide +kernel
theorem dX4_plan_271 : decode cX4_plan 271 = .ok (.iload 7, 2) := by decide +kernel
theorem dX4_plan_273 : decode cX4_plan 273 = .ok (.iload 6, 2) := by decide +kernel
theorem dX4_plan_275 : decode cX4_plan 275 = .ok (.iload 8, 2) := by decide +kernel
theorem dX4_plan_277 : decode cX4_plan 277 = .ok (.iload_n 2, 1) := by decide +kernel
theorem dX4_plan_278 : decode cX4_plan 278 = .ok (.invokevirtual 149, 3) := by decide +kernel
theorem dX4_plan_281 : decode cX4_plan 281 = .ok (.ifCond .ne 9, 3) := by decide +kernel
theorem dX4_plan_284 : decode cX4_plan 284 = .ok (.iinc 8 1, 3) := by decide +kernel
theorem dX4_plan_287 : decode cX4_plan 287 = .ok (.goto (-17), 3) := by decide +kernel
theorem dX4_plan_290 : decode cX4_plan 290 = .ok (.aload_n 0, 1) := by decide +kernel
theorem dX4_plan_291 : decode cX4_plan 291 = .ok (.getfield 46, 3) := by decide +kernel
theorem dX4_plan_294 : decode cX4_plan 294 = .ok (.iload 7, 2) := by decide +kernel
theorem dX4_plan_296 : decode cX4_plan 296 = .ok (.iload 8, 2) := by decide +kernel
theorem dX4_plan_298 : decode cX4_plan 298 = .ok (.iastore, 1) := by decide +kernel
theorem dX4_plan_299 : decode cX4_plan 299 = .ok (.iload 6, 2) := by decide +kernel
theorem dX4_plan_301 : decode cX4_plan 301 = .ok (.iload 8, 2) := by decide +kernel
theorem dX4_plan_303 : decode cX4_plan 303 = .ok (.aload_n 0, 1) := by decide +kernel
theorem dX4_plan_304 : decode cX4_plan 304 = .ok (.iload 7, 2) := by decide +kernel
theorem dX4_plan_306 : decode cX4_plan 306 = .ok (.iconst 1, 1) := by decide +kernel
theorem dX4_plan_307 : decode cX4_plan 307 = .ok (.iadd, 1) := by decide +kernel
theorem dX4_plan_308 : decode cX4_plan 308 = .ok (.invokevirtual 137, 3) := by decide +kernel
theorem dX4_plan_311 : decode cX4_plan 311 = .ok (.isub, 1) := by decide +kernel
theorem dX4_plan_312 : decode cX4_plan 312 = .ok (.iadd, 1) := by decide +kernel
theorem dX4_plan_313 : decode cX4_plan 313 = .ok (.istore 6, 2) := by decide +kernel
theorem dX4_plan_315 : decode cX4_plan 315 = .ok (.iinc 7 1, 3) := by decide +kernel
theorem dX4_plan_318 : decode cX4_plan 318 = .ok (.goto (-60), 3) := by decide +kernel
theorem dX4_plan_321 : decode cX4_plan 321 = .ok (.iload 5, 2) := by decide +kernel
theorem dX4_plan_323 : decode cX4_plan 323 = .ok (.ireturn, 1) := by decide +kernel
set_option maxRecDepth 20000 in
theorem ggX4_isBest_X4_behind : GoodIn wsX4_isBest wsX4_behind := goodIn_r _ [8, 1, 3, 9, 10, 11, 7, 12, 2, 13, 14, 15, 16, 17, 18, 19, 20, 21, 22, 23, 24, 25, 26, 27, 28, 29, 30] (by decide +kernel) (by decide +kernel)
set_option maxRecDepth 20000 in
theorem gX4_isBest_X4_behind : GoodIn wsX4_isBest (wsV RX4 142 RX4 yX4_behind wsX4_behind) := goodIn_app (goodIn_of _ (by decide +kernel)) ggX4_isBest_X4_behind
theorem dX4_isBest_0 : decode cX4_isBest 0 = .ok (.aload_n 0, 1) := by decide +kernel
theorem dX4_isBest_1 : decode cX4_isBest 1 = .ok (.iload_n 1, 1) := by decide +kernel
theorem dX4_isBest_2 : decode cX4_isBest 2 = .ok (.iconst 1, 1) := by decide +kernel
theorem dX4_isBest_3 : decode cX4_isBest 3 = .ok (.iadd, 1) := by decide +kernel
theorem dX4_isBest_4 : decode cX4_isBest 4 = .ok (.iload_n 2, 1) := by decide +kernel
theorem dX4_isBest_5 : decode cX4_isBest 5 = .ok (.iload_n 3, 1) := by decide +kernel
theorem dX4_isBest_6 : decode cX4_isBest 6 = .ok (.iadd, 1) := by decide +kernel
theorem dX4_isBest_7 : decode cX4_isBest 7 = .ok (.iload 4, 2) := by decide +kernel
theorem dX4_isBest_9 : decode cX4_isBest 9 = .ok (.invokevirtual 142, 3) := by decide +kernel
theorem dX4_isBest_12 : decode cX4_isBest 12 = .ok (.istore 5, 2) := by decide +kernel
theorem dX4_isBest_14 : decode cX4_isBest 14 = .ok (.iload 5, 2) := by decide +kernel
theorem dX4_isBest_16 : decode cX4_isBest 16 = .ok (.ldc 141, 2) := by decide +kernel
theorem dX4_isBest_18 : decode cX4_isBest 18 = .ok (.if_icmp .ge 36, 3) := by decide +kernel
theorem dX4_isBest_21 : decode cX4_isBest 21 = .ok (.iload 5, 2) := by decide +kernel
theorem dX4_isBest_23 : decode cX4_isBest 23 = .ok (.iload_n 3, 1) := by decide +kernel
theorem dX4_isBest_24 : decode cX4_isBest 24 = .ok (.aload_n 0, 1) := by decide +kernel
theorem dX4_isBest_25 : decode cX4_isBest 25 = .ok (.getfield 7, 3) := by decide +kernel
theorem dX4_isBest_28 : decode cX4_isBest 28 = .ok (.iconst 2, 1) := by decide +kernel
theorem dX4_isBest_29 : decode cX4_isBest 29 = .ok (.iload_n 1, 1) := by decide +kernel
theorem dX4_isBest_30 : decode cX4_isBest 30 = .ok (.imul, 1) := by decide +kernel
theorem dX4_isBest_31 : decode cX4_isBest 31 = .ok (.iconst 1, 1) := by decide +kernel
theorem dX4_isBest_32 : decode cX4_isBest 32 = .ok (.iadd, 1) := by decide +kernel
theorem dX4_isBest_33 : decode cX4_isBest 33 = .ok (.iaload, 1) := by decide +kernel
theorem dX4_isBest_34 : decode cX4_isBest 34 = .ok (.imul, 1) := by decide +kernel
theorem dX4_isBest_35 : decode cX4_isBest 35 = .ok (.iadd, 1) := by decide +kernel
theorem dX4_isBest_36 : decode cX4_isBest 36 = .ok (.aload_n 0, 1) := by decide +kernel
theorem dX4_isBest_37 : decode cX4_isBest 37 = .ok (.getfield 43, 3) := by decide +kernel
theorem dX4_isBest_40 : decode cX4_isBest 40 = .ok (.bipush 121, 2) := by decide +kernel
theorem dX4_isBest_42 : decode cX4_isBest 42 = .ok (.iload_n 1, 1) := by decide +kernel
theorem dX4_isBest_43 : decode cX4_isBest 43 = .ok (.imul, 1) := by decide +kernel
theorem dX4_isBest_44 : decode cX4_isBest 44 = .ok (.iload_n 2, 1) := by decide +kernel
theorem dX4_isBest_45 : decode cX4_isBest 45 = .ok (.iadd, 1) := by decide +kernel
theorem dX4_isBest_46 : decode cX4_isBest 46 = .ok (.iaload, 1) := by decide +kernel
theorem dX4_isBest_47 : decode cX4_isBest 47 = .ok (.if_icmp .ne 7, 3) := by decide +kernel
theorem dX4_isBest_50 : decode cX4_isBest 50 = .ok (.iconst 1, 1) := by decide +kernel
theorem dX4_isBest_51 : decode cX4_isBest 51 = .ok (.goto 4, 3) := by decide +kernel
theorem dX4_isBest_54 : decode cX4_isBest 54 = .ok (.iconst 0, 1) := by decide +kernel
theorem dX4_isBest_55 : decode cX4_isBest 55 = .ok (.ireturn, 1) := by decide +kernel
theorem dX4_buys_0 : decode cX4_buys 0 = .ok (.aload_n 0, 1) := by decide +kernel
theorem dX4_buys_1 : decode cX4_buys 1 = .ok (.iconst 0, 1) := by decide +kernel
theorem dX4_buys_2 : decode cX4_buys 2 = .ok (.putfield 49, 3) := by decide +kernel
theorem dX4_buys_5 : decode cX4_buys 5 = .ok (.iload_n 1, 1) := by decide +kernel
theorem dX4_buys_6 : decode cX4_buys 6 = .ok (.ifCond .lt 11, 3) := by decide +kernel
theorem dX4_buys_9 : decode cX4_buys 9 = .ok (.iload_n 1, 1) := by decide +kernel
theorem dX4_buys_10 : decode cX4_buys 10 = .ok (.aload_n 0, 1) := by decide +kernel
theorem dX4_buys_11 : decode cX4_buys 11 = .ok (.getfield 146, 3) := by decide +kernel
theorem dX4_buys_14 : decode cX4_buys 14 = .ok (.if_icmp .lt 7, 3) := by decide +kernel
theorem dX4_buys_17 : decode cX4_buys 17 = .ok (.iconst (-1), 1) := by decide +kernel
theorem dX4_buys_18 : decode cX4_buys 18 = .ok (.goto 9, 3) := by decide +kernel
theorem dX4_buys_21 : decode cX4_buys 21 = .ok (.aload_n 0, 1) := by decide +kernel
theorem dX4_buys_22 : decode cX4_buys 22 = .ok (.getfield 46, 3) := by decide +kernel
theorem dX4_buys_25 : decode cX4_buys 25 = .ok (.iload_n 1, 1) := by decide +kernel
theorem dX4_buys_26 : decode cX4_buys 26 = .ok (.iaload, 1) := by decide +kernel
theorem dX4_buys_27 : decode cX4_buys 27 = .ok (.ireturn, 1) := by decide +kernel
set_option maxRecDepth 20000 in
theorem ggX4_count_X4_begin : GoodIn wsX4_count wsX4_begin := goodIn_r _ [8, 9, 2, 10, 11, 12, 13, 14, 7, 15, 16, 17, 18, 19, 20, 21, 22, 23, 24, 25, 26, 27, 28, 29, 30, 31, 32, 33] (by decide +kernel) (by decide +kernel)
set_option maxRecDepth 20000 in
theorem gX4_count_X4_begin : GoodIn wsX4_count (wsV RX4 75 RX4 yX4_begin wsX4_begin) := goodIn_app (goodIn_of _ (by decide +kernel)) ggX4_count_X4_begin
theorem dX4_count_0 : decode cX4_count 0 = .ok (.aload_n 0, 1) := by decide +kernel
theorem dX4_count_1 : decode cX4_count 1 = .ok (.iconst 0, 1) := by decide +kernel
theorem dX4_count_2 : decode cX4_count 2 = .ok (.putfield 49, 3) := by decide +kernel
theorem dX4_count_5 : decode cX4_count 5 = .ok (.aload_n 0, 1) := by decide +kernel
theorem dX4_count_6 : decode cX4_count 6 = .ok (.invokevirtual 75, 3) := by decide +kernel
theorem dX4_count_9 : decode cX4_count 9 = .ok (.iload_n 1, 1) := by decide +kernel
theorem dX4_count_10 : decode cX4_count 10 = .ok (.tableswitch 75 0 4 #[34, 43, 52, 61, 70], 34) := by decide +kernel
theorem dX4_count_44 : decode cX4_count 44 = .ok (.aload_n 0, 1) := by decide +kernel
theorem dX4_count_45 : decode cX4_count 45 = .ok (.getfield 13, 3) := by decide +kernel
theorem dX4_count_48 : decode cX4_count 48 = .ok (.bipush 22, 2) := by decide +kernel
theorem dX4_count_50 : decode cX4_count 50 = .ok (.laload, 1) := by decide +kernel
theorem dX4_count_51 : decode cX4_count 51 = .ok (.l2i, 1) := by decide +kernel
theorem dX4_count_52 : decode cX4_count 52 = .ok (.ireturn, 1) := by decide +kernel
theorem dX4_count_53 : decode cX4_count 53 = .ok (.aload_n 0, 1) := by decide +kernel
theorem dX4_count_54 : decode cX4_count 54 = .ok (.getfield 13, 3) := by decide +kernel
theorem dX4_count_57 : decode cX4_count 57 = .ok (.bipush 23, 2) := by decide +kernel
theorem dX4_count_59 : decode cX4_count 59 = .ok (.laload, 1) := by decide +kernel
theorem dX4_count_60 : decode cX4_count 60 = .ok (.l2i, 1) := by decide +kernel
theorem dX4_count_61 : decode cX4_count 61 = .ok (.ireturn, 1) := by decide +kernel
theorem dX4_count_62 : decode cX4_count 62 = .ok (.aload_n 0, 1) := by decide +kernel
theorem dX4_count_63 : decode cX4_count 63 = .ok (.getfield 13, 3) := by decide +kernel
theorem dX4_count_66 : decode cX4_count 66 = .ok (.bipush 24, 2) := by decide +kernel
theorem dX4_count_68 : decode cX4_count 68 = .ok (.laload, 1) := by decide +kernel
theorem dX4_count_69 : decode cX4_count 69 = .ok (.l2i, 1) := by decide +kernel
theorem dX4_count_70 : decode cX4_count 70 = .ok (.ireturn, 1) := by decide +kernel
theorem dX4_count_71 : decode cX4_count 71 = .ok (.aload_n 0, 1) := by decide +kernel
theorem dX4_count_72 : decode cX4_count 72 = .ok (.getfield 13, 3) := by decide +kernel
theorem dX4_count_75 : decode cX4_count 75 = .ok (.bipush 26, 2) := by decide +kernel
theorem dX4_count_77 : decode cX4_count 77 = .ok (.laload, 1) := by decide +kernel
theorem dX4_count_78 : decode cX4_count 78 = .ok (.l2i, 1) := by decide +kernel
theorem dX4_count_79 : decode cX4_count 79 = .ok (.ireturn, 1) := by decide +kernel
theorem dX4_count_80 : decode cX4_count 80 = .ok (.aload_n 0, 1) := by decide +kernel
theorem dX4_count_81 : decode cX4_count 81 = .ok (.getfield 52, 3) := by decide +kernel
theorem dX4_count_84 : decode cX4_count 84 = .ok (.ireturn, 1) := by decide +kernel
theorem dX4_count_85 : decode cX4_count 85 = .ok (.iconst (-1), 1) := by decide +kernel
theorem dX4_count_86 : decode cX4_count 86 = .ok (.ireturn, 1) := by decide +kernel
theorem dJ6_compare_7cf53_0 : decode cJ6_compare_7cf53 0 = .ok (.iload_n 0, 1) := by decide +kernel
theorem dJ6_compare_7cf53_1 : decode cJ6_compare_7cf53 1 = .ok (.iload_n 1, 1) := by decide +kernel
theorem dJ6_compare_7cf53_2 : decode cJ6_compare_7cf53 2 = .ok (.if_icmp .ge 7, 3) := by decide +kernel
theorem dJ6_compare_7cf53_5 : decode cJ6_compare_7cf53 5 = .ok (.iconst (-1), 1) := by decide +kernel
theorem dJ6_compare_7cf53_6 : decode cJ6_compare_7cf53 6 = .ok (.goto 13, 3) := by decide +kernel
theorem dJ6_compare_7cf53_9 : decode cJ6_compare_7cf53 9 = .ok (.iload_n 0, 1) := by decide +kernel
theorem dJ6_compare_7cf53_10 : decode cJ6_compare_7cf53 10 = .ok (.iload_n 1, 1) := by decide +kernel
theorem dJ6_compare_7cf53_11 : decode cJ6_compare_7cf53 11 = .ok (.if_icmp .ne 7, 3) := by decide +kernel
theorem dJ6_compare_7cf53_14 : decode cJ6_compare_7cf53 14 = .ok (.iconst 0, 1) := by decide +kernel
theorem dJ6_compare_7cf53_15 : decode cJ6_compare_7cf53 15 = .ok (.goto 4, 3) := by decide +kernel
theorem dJ6_compare_7cf53_18 : decode cJ6_compare_7cf53 18 = .ok (.iconst 1, 1) := by decide +kernel
theorem dJ6_compare_7cf53_19 : decode cJ6_compare_7cf53 19 = .ok (.ireturn, 1) := by decide +kernel
theorem dJ9_floorMod_7cf53_0 : decode cJ9_floorMod_7cf53 0 = .ok (.iload_n 0, 1) := by decide +kernel
theorem dJ9_floorMod_7cf53_1 : decode cJ9_floorMod_7cf53 1 = .ok (.iload_n 1, 1) := by decide +kernel
theorem dJ9_floorMod_7cf53_2 : decode cJ9_floorMod_7cf53 2 = .ok (.irem, 1) := by decide +kernel
theorem dJ9_floorMod_7cf53_3 : decode cJ9_floorMod_7cf53 3 = .ok (.istore_n 2, 1) := by decide +kernel
theorem dJ9_floorMod_7cf53_4 : decode cJ9_floorMod_7cf53 4 = .ok (.iload_n 0, 1) := by decide +kernel
theorem dJ9_floorMod_7cf53_5 : decode cJ9_floorMod_7cf53 5 = .ok (.iload_n 1, 1) := by decide +kernel
theorem dJ9_floorMod_7cf53_6 : decode cJ9_floorMod_7cf53 6 = .ok (.ixor, 1) := by decide +kernel
theorem dJ9_floorMod_7cf53_7 : decode cJ9_floorMod_7cf53 7 = .ok (.ifCond .ge 11, 3) := by decide +kernel
theorem dJ9_floorMod_7cf53_10 : decode cJ9_floorMod_7cf53 10 = .ok (.iload_n 2, 1) := by decide +kernel
theorem dJ9_floorMod_7cf53_11 : decode cJ9_floorMod_7cf53 11 = .ok (.ifCond .eq 7, 3) := by decide +kernel
theorem dJ9_floorMod_7cf53_14 : decode cJ9_floorMod_7cf53 14 = .ok (.iload_n 2, 1) := by decide +kernel
theorem dJ9_floorMod_7cf53_15 : decode cJ9_floorMod_7cf53 15 = .ok (.iload_n 1, 1) := by decide +kernel
theorem dJ9_floorMod_7cf53_16 : decode cJ9_floorMod_7cf53 16 = .ok (.iadd, 1) := by decide +kernel
theorem dJ9_floorMod_7cf53_17 : decode cJ9_floorMod_7cf53 17 = .ok (.ireturn, 1) := by decide +kernel
theorem dJ9_floorMod_7cf53_18 : decode cJ9_floorMod_7cf53 18 = .ok (.iload_n 2, 1) := by decide +kernel
theorem dJ9_floorMod_7cf53_19 : decode cJ9_floorMod_7cf53 19 = .ok (.ireturn, 1) := by decide +kernel
theorem dJ9_max_7cf53_0 : decode cJ9_max_7cf53 0 = .ok (.iload_n 0, 1) := by decide +kernel
theorem dJ9_max_7cf53_1 : decode cJ9_max_7cf53 1 = .ok (.iload_n 1, 1) := by decide +kernel
theorem dJ9_max_7cf53_2 : decode cJ9_max_7cf53 2 = .ok (.if_icmp .lt 7, 3) := by decide +kernel
theorem dJ9_max_7cf53_5 : decode cJ9_max_7cf53 5 = .ok (.iload_n 0, 1) := by decide +kernel
theorem dJ9_max_7cf53_6 : decode cJ9_max_7cf53 6 = .ok (.goto 4, 3) := by decide +kernel
theorem dJ9_max_7cf53_9 : decode cJ9_max_7cf53 9 = .ok (.iload_n 1, 1) := by decide +kernel
theorem dJ9_max_7cf53_10 : decode cJ9_max_7cf53 10 = .ok (.ireturn, 1) := by decide +kernel
theorem dJ9_max_f86c9_0 : decode cJ9_max_f86c9 0 = .ok (.lload_n 0, 1) := by decide +kernel
theorem dJ9_max_f86c9_1 : decode cJ9_max_f86c9 1 = .ok (.lload_n 2, 1) := by decide +kernel
theorem dJ9_max_f86c9_2 : decode cJ9_max_f86c9 2 = .ok (.lcmp, 1) := by decide +kernel
theorem dJ9_max_f86c9_3 : decode cJ9_max_f86c9 3 = .ok (.ifCond .lt 7, 3) := by decide +kernel
theorem dJ9_max_f86c9_6 : decode cJ9_max_f86c9 6 = .ok (.lload_n 0, 1) := by decide +kernel
theorem dJ9_max_f86c9_7 : decode cJ9_max_f86c9 7 = .ok (.goto 4, 3) := by decide +kernel
theorem dJ9_max_f86c9_10 : decode cJ9_max_f86c9 10 = .ok (.lload_n 2, 1) := by decide +kernel
theorem dJ9_max_f86c9_11 : decode cJ9_max_f86c9 11 = .ok (.lreturn, 1) := by decide +kernel
theorem dJ9_min_7cf53_0 : decode cJ9_min_7cf53 0 = .ok (.iload_n 0, 1) := by decide +kernel
theorem dJ9_min_7cf53_1 : decode cJ9_min_7cf53 1 = .ok (.iload_n 1, 1) := by decide +kernel
theorem dJ9_min_7cf53_2 : decode cJ9_min_7cf53 2 = .ok (.if_icmp .gt 7, 3) := by decide +kernel
theorem dJ9_min_7cf53_5 : decode cJ9_min_7cf53 5 = .ok (.iload_n 0, 1) := by decide +kernel
theorem dJ9_min_7cf53_6 : decode cJ9_min_7cf53 6 = .ok (.goto 4, 3) := by decide +kernel
theorem dJ9_min_7cf53_9 : decode cJ9_min_7cf53 9 = .ok (.iload_n 1, 1) := by decide +kernel
theorem dJ9_min_7cf53_10 : decode cJ9_min_7cf53 10 = .ok (.ireturn, 1) := by decide +kernel
theorem dJ9_min_f86c9_0 : decode cJ9_min_f86c9 0 = .ok (.lload_n 0, 1) := by decide +kernel
theorem dJ9_min_f86c9_1 : decode cJ9_min_f86c9 1 = .ok (.lload_n 2, 1) := by decide +kernel
theorem dJ9_min_f86c9_2 : decode cJ9_min_f86c9 2 = .ok (.lcmp, 1) := by decide +kernel
theorem dJ9_min_f86c9_3 : decode cJ9_min_f86c9 3 = .ok (.ifCond .gt 7, 3) := by decide +kernel
theorem dJ9_min_f86c9_6 : decode cJ9_min_f86c9 6 = .ok (.lload_n 0, 1) := by decide +kernel
theorem dJ9_min_f86c9_7 : decode cJ9_min_f86c9 7 = .ok (.goto 4, 3) := by decide +kernel
theorem dJ9_min_f86c9_10 : decode cJ9_min_f86c9 10 = .ok (.lload_n 2, 1) := by decide +kernel
theorem dJ9_min_f86c9_11 : decode cJ9_min_f86c9 11 = .ok (.lreturn, 1) := by decide +kernel
set_option maxRecDepth 20000 in
theorem ggL_mark_X3_mark : GoodIn wsL_mark wsX3_mark := goodIn_ca (goodIn_r _ [6, 7, 8, 9, 10, 11, 5, 12, 13, 14, 15, 16, 17, 18, 19, 20, 21, 22, 23, 24, 25, 26, 27, 28, 29, 30, 31, 32, 33, 34, 35, 36, 37, 38, 39, 40, 41, 42, 43, 44, 45, 46, 47] (by decide +kernel) (by decide +kernel)) (goodIn_sub (fun _ h => List.mem_cons_of_mem _ (List.mem_append_right _ h)) (by decide +kernel))
set_option maxRecDepth 20000 in
theorem gL_mark_X3_mark : GoodIn wsL_mark (wsV RL 7 RX3 yX3_mark wsX3_mark) := goodIn_app (goodIn_of _ (by decide +kernel)) ggL_mark_X3_mark
theorem dL_mark_0 : decode cL_mark 0 = .ok (.aload_n 3, 1) := by decide +kernel
theorem dL_mark_1 : decode cL_mark 1 = .ok (.iconst 0, 1) := by decide +kernel
theorem dL_mark_2 : decode cL_mark 2 = .ok (.aload_n 0, 1) := by decide +kernel
theorem dL_mark_3 : decode cL_mark 3 = .ok (.iload_n 1, 1) := by decide +kernel
theorem dL_mark_4 : decode cL_mark 4 = .ok (.iload_n 2, 1) := by decide +kernel
theorem dL_mark_5 : decode cL_mark 5 = .ok (.invokevirtual 7, 3) := by decide +kernel
theorem dL_mark_8 : decode cL_mark 8 = .ok (.lastore, 1) := by decide +kernel
theorem dL_mark_9 : decode cL_mark 9 = .ok (.goto 7, 3) := by decide +kernel
theorem dL_mark_12 : decode cL_mark 12 = .ok (.astore 4, 2) := by decide +kernel
theorem dL_mark_14 : decode cL_mark 14 = .ok (.iconst 1, 1) := by decide +kernel
theorem dL_mark_15 : decode cL_mark 15 = .ok (.ireturn, 1) := by decide +kernel
theorem dL_mark_16 : decode cL_mark 16 = .ok (.iconst 0, 1) := by decide +kernel
