theorem dX4_init_65 : decode cX4_init 65 = .ok (.bipush 120, 2) := by decide +kernel
theorem dX4_init_67 : decode cX4_init 67 = .ok (.putfield 40, 3) := by decide +kernel
theorem dX4_init_70 : decode cX4_init 70 = .ok (.aload_n 0, 1) := by decide +kernel
theorem dX4_init_71 : decode cX4_init 71 = .ok (.sipush 1573, 3) := by decide +kernel
theorem dX4_init_74 : decode cX4_init 74 = .ok (.newarray .int, 2) := by decide +kernel
theorem dX4_init_76 : decode cX4_init 76 = .ok (.putfield 43, 3) := by decide +kernel
theorem dX4_init_79 : decode cX4_init 79 = .ok (.aload_n 0, 1) := by decide +kernel
theorem dX4_init_80 : decode cX4_init 80 = .ok (.bipush 12, 2) := by decide +kernel
theorem dX4_init_82 : decode cX4_init 82 = .ok (.newarray .int, 2) := by decide +kernel
theorem dX4_init_84 : decode cX4_init 84 = .ok (.putfield 46, 3) := by decide +kernel
theorem dX4_init_87 : decode cX4_init 87 = .ok (.return_, 1) := by decide +kernel
theorem dX4_thrown_0 : decode cX4_thrown 0 = .ok (.aload_n 0, 1) := by decide +kernel
theorem dX4_thrown_1 : decode cX4_thrown 1 = .ok (.getfield 49, 3) := by decide +kernel
theorem dX4_thrown_4 : decode cX4_thrown 4 = .ok (.ireturn, 1) := by decide +kernel
theorem dX4_refuse_0 : decode cX4_refuse 0 = .ok (.aload_n 0, 1) := by decide +kernel
theorem dX4_refuse_1 : decode cX4_refuse 1 = .ok (.iconst 1, 1) := by decide +kernel
theorem dX4_refuse_2 : decode cX4_refuse 2 = .ok (.putfield 49, 3) := by decide +kernel
theorem dX4_refuse_5 : decode cX4_refuse 5 = .ok (.iconst 0, 1) := by decide +kernel
theorem dX4_refuse_6 : decode cX4_refuse 6 = .ok (.ireturn, 1) := by decide +kernel
theorem dX4_come_0 : decode cX4_come 0 = .ok (.bipush 24, 2) := by decide +kernel
theorem dX4_come_2 : decode cX4_come 2 = .ok (.istore_n 2, 1) := by decide +kernel
theorem dX4_come_3 : decode cX4_come 3 = .ok (.iload_n 2, 1) := by decide +kernel
theorem dX4_come_4 : decode cX4_come 4 = .ok (.ifCond .lt 35, 3) := by decide +kernel
theorem dX4_come_7 : decode cX4_come 7 = .ok (.aload_n 0, 1) := by decide +kernel
theorem dX4_come_8 : decode cX4_come 8 = .ok (.getfield 7, 3) := by decide +kernel
theorem dX4_come_11 : decode cX4_come 11 = .ok (.aload_n 0, 1) := by decide +kernel
theorem dX4_come_12 : decode cX4_come 12 = .ok (.getfield 52, 3) := by decide +kernel
theorem dX4_come_15 : decode cX4_come 15 = .ok (.iload_n 1, 1) := by decide +kernel
theorem dX4_come_16 : decode cX4_come 16 = .ok (.iload_n 2, 1) := by decide +kernel
theorem dX4_come_17 : decode cX4_come 17 = .ok (.iushr, 1) := by decide +kernel
theorem dX4_come_18 : decode cX4_come 18 = .ok (.sipush 255, 3) := by decide +kernel
theorem dX4_come_21 : decode cX4_come 21 = .ok (.iand, 1) := by decide +kernel
theorem dX4_come_22 : decode cX4_come 22 = .ok (.iastore, 1) := by decide +kernel
theorem dX4_come_23 : decode cX4_come 23 = .ok (.aload_n 0, 1) := by decide +kernel
theorem dX4_come_24 : decode cX4_come 24 = .ok (.dup, 1) := by decide +kernel
theorem dX4_come_25 : decode cX4_come 25 = .ok (.getfield 52, 3) := by decide +kernel
theorem dX4_come_28 : decode cX4_come 28 = .ok (.iconst 1, 1) := by decide +kernel
theorem dX4_come_29 : decode cX4_come 29 = .ok (.iadd, 1) := by decide +kernel
theorem dX4_come_30 : decode cX4_come 30 = .ok (.putfield 52, 3) := by decide +kernel
theorem dX4_come_33 : decode cX4_come 33 = .ok (.iinc 2 (-8), 3) := by decide +kernel
theorem dX4_come_36 : decode cX4_come 36 = .ok (.goto (-33), 3) := by decide +kernel
theorem dX4_come_39 : decode cX4_come 39 = .ok (.return_, 1) := by decide +kernel
set_option maxRecDepth 20000 in
theorem ggX4_feed_X4_come : GoodIn wsX4_feed wsX4_come := goodIn_r _ [7, 8, 2, 9, 10, 11, 12, 13, 14, 15, 16, 17, 18, 19, 20, 21, 22, 23, 24, 25] (by decide +kernel) (by decide +kernel)
set_option maxRecDepth 20000 in
theorem gX4_feed_X4_come : GoodIn wsX4_feed (wsV RX4 55 RX4 yX4_come wsX4_come) := goodIn_app (goodIn_of _ (by decide +kernel)) ggX4_feed_X4_come
theorem dX4_feed_0 : decode cX4_feed 0 = .ok (.aload_n 0, 1) := by decide +kernel
theorem dX4_feed_1 : decode cX4_feed 1 = .ok (.iconst 0, 1) := by decide +kernel
theorem dX4_feed_2 : decode cX4_feed 2 = .ok (.putfield 49, 3) := by decide +kernel
theorem dX4_feed_5 : decode cX4_feed 5 = .ok (.aload_n 0, 1) := by decide +kernel
theorem dX4_feed_6 : decode cX4_feed 6 = .ok (.getfield 52, 3) := by decide +kernel
theorem dX4_feed_9 : decode cX4_feed 9 = .ok (.bipush 20, 2) := by decide +kernel
theorem dX4_feed_11 : decode cX4_feed 11 = .ok (.iadd, 1) := by decide +kernel
theorem dX4_feed_12 : decode cX4_feed 12 = .ok (.bipush 60, 2) := by decide +kernel
theorem dX4_feed_14 : decode cX4_feed 14 = .ok (.if_icmp .le 5, 3) := by decide +kernel
theorem dX4_feed_17 : decode cX4_feed 17 = .ok (.iconst (-1), 1) := by decide +kernel
theorem dX4_feed_18 : decode cX4_feed 18 = .ok (.ireturn, 1) := by decide +kernel
theorem dX4_feed_19 : decode cX4_feed 19 = .ok (.aload_n 0, 1) := by decide +kernel
theorem dX4_feed_20 : decode cX4_feed 20 = .ok (.iload_n 1, 1) := by decide +kernel
theorem dX4_feed_21 : decode cX4_feed 21 = .ok (.invokevirtual 55, 3) := by decide +kernel
theorem dX4_feed_24 : decode cX4_feed 24 = .ok (.aload_n 0, 1) := by decide +kernel
theorem dX4_feed_25 : decode cX4_feed 25 = .ok (.iload_n 2, 1) := by decide +kernel
theorem dX4_feed_26 : decode cX4_feed 26 = .ok (.invokevirtual 55, 3) := by decide +kernel
theorem dX4_feed_29 : decode cX4_feed 29 = .ok (.aload_n 0, 1) := by decide +kernel
theorem dX4_feed_30 : decode cX4_feed 30 = .ok (.iload_n 3, 1) := by decide +kernel
theorem dX4_feed_31 : decode cX4_feed 31 = .ok (.invokevirtual 55, 3) := by decide +kernel
theorem dX4_feed_34 : decode cX4_feed 34 = .ok (.aload_n 0, 1) := by decide +kernel
theorem dX4_feed_35 : decode cX4_feed 35 = .ok (.iload 4, 2) := by decide +kernel
theorem dX4_feed_37 : decode cX4_feed 37 = .ok (.invokevirtual 55, 3) := by decide +kernel
theorem dX4_feed_40 : decode cX4_feed 40 = .ok (.aload_n 0, 1) := by decide +kernel
theorem dX4_feed_41 : decode cX4_feed 41 = .ok (.iload 5, 2) := by decide +kernel
theorem dX4_feed_43 : decode cX4_feed 43 = .ok (.invokevirtual 55, 3) := by decide +kernel
theorem dX4_feed_46 : decode cX4_feed 46 = .ok (.aload_n 0, 1) := by decide +kernel
theorem dX4_feed_47 : decode cX4_feed 47 = .ok (.getfield 52, 3) := by decide +kernel
theorem dX4_feed_50 : decode cX4_feed 50 = .ok (.ireturn, 1) := by decide +kernel
theorem dX4_end_0 : decode cX4_end 0 = .ok (.aload_n 0, 1) := by decide +kernel
theorem dX4_end_1 : decode cX4_end 1 = .ok (.iconst 0, 1) := by decide +kernel
theorem dX4_end_2 : decode cX4_end 2 = .ok (.putfield 49, 3) := by decide +kernel
theorem dX4_end_5 : decode cX4_end 5 = .ok (.iload_n 1, 1) := by decide +kernel
theorem dX4_end_6 : decode cX4_end 6 = .ok (.ifCond .lt 11, 3) := by decide +kernel
theorem dX4_end_9 : decode cX4_end 9 = .ok (.iload_n 1, 1) := by decide +kernel
theorem dX4_end_10 : decode cX4_end 10 = .ok (.aload_n 0, 1) := by decide +kernel
theorem dX4_end_11 : decode cX4_end 11 = .ok (.getfield 52, 3) := by decide +kernel
theorem dX4_end_14 : decode cX4_end 14 = .ok (.if_icmp .le 5, 3) := by decide +kernel
theorem dX4_end_17 : decode cX4_end 17 = .ok (.iconst 0, 1) := by decide +kernel
theorem dX4_end_18 : decode cX4_end 18 = .ok (.ireturn, 1) := by decide +kernel
theorem dX4_end_19 : decode cX4_end 19 = .ok (.aload_n 0, 1) := by decide +kernel
theorem dX4_end_20 : decode cX4_end 20 = .ok (.iload_n 1, 1) := by decide +kernel
theorem dX4_end_21 : decode cX4_end 21 = .ok (.putfield 52, 3) := by decide +kernel
theorem dX4_end_24 : decode cX4_end 24 = .ok (.iconst 1, 1) := by decide +kernel
theorem dX4_end_25 : decode cX4_end 25 = .ok (.ireturn, 1) := by decide +kernel
set_option maxRecDepth 20000 in
theorem ggX4_begin_X4_copy : GoodIn wsX4_begin wsX4_copy := goodIn_r _ [9, 10, 2, 11, 12, 13, 14, 15, 16, 17, 18, 19, 20, 21, 22, 23, 24, 25, 26, 27] (by decide +kernel) (by decide +kernel)
set_option maxRecDepth 20000 in
theorem gX4_begin_X4_copy : GoodIn wsX4_begin (wsV RX4 63 RX4 yX4_copy wsX4_copy) := goodIn_app (goodIn_of _ (by decide +kernel)) ggX4_begin_X4_copy
theorem dX4_begin_0 : decode cX4_begin 0 = .ok (.aload_n 0, 1) := by decide +kernel
theorem dX4_begin_1 : decode cX4_begin 1 = .ok (.getfield 59, 3) := by decide +kernel
theorem dX4_begin_4 : decode cX4_begin 4 = .ok (.ifCond .eq 4, 3) := by decide +kernel
theorem dX4_begin_7 : decode cX4_begin 7 = .ok (.return_, 1) := by decide +kernel
theorem dX4_begin_8 : decode cX4_begin 8 = .ok (.aload_n 0, 1) := by decide +kernel
theorem dX4_begin_9 : decode cX4_begin 9 = .ok (.iconst 1, 1) := by decide +kernel
theorem dX4_begin_10 : decode cX4_begin 10 = .ok (.putfield 59, 3) := by decide +kernel
theorem dX4_begin_13 : decode cX4_begin 13 = .ok (.iconst 0, 1) := by decide +kernel
theorem dX4_begin_14 : decode cX4_begin 14 = .ok (.istore_n 1, 1) := by decide +kernel
theorem dX4_begin_15 : decode cX4_begin 15 = .ok (.iload_n 1, 1) := by decide +kernel
theorem dX4_begin_16 : decode cX4_begin 16 = .ok (.bipush 92, 2) := by decide +kernel
theorem dX4_begin_18 : decode cX4_begin 18 = .ok (.if_icmp .ge 16, 3) := by decide +kernel
theorem dX4_begin_21 : decode cX4_begin 21 = .ok (.aload_n 0, 1) := by decide +kernel
theorem dX4_begin_22 : decode cX4_begin 22 = .ok (.getfield 13, 3) := by decide +kernel
theorem dX4_begin_25 : decode cX4_begin 25 = .ok (.iload_n 1, 1) := by decide +kernel
theorem dX4_begin_26 : decode cX4_begin 26 = .ok (.lconst 0, 1) := by decide +kernel
theorem dX4_begin_27 : decode cX4_begin 27 = .ok (.lastore, 1) := by decide +kernel
theorem dX4_begin_28 : decode cX4_begin 28 = .ok (.iinc 1 1, 3) := by decide +kernel
theorem dX4_begin_31 : decode cX4_begin 31 = .ok (.goto (-16), 3) := by decide +kernel
theorem dX4_begin_34 : decode cX4_begin 34 = .ok (.aload_n 0, 1) := by decide +kernel
theorem dX4_begin_35 : decode cX4_begin 35 = .ok (.getfield 13, 3) := by decide +kernel
theorem dX4_begin_38 : decode cX4_begin 38 = .ok (.iconst 1, 1) := by decide +kernel
theorem dX4_begin_39 : decode cX4_begin 39 = .ok (.aload_n 0, 1) := by decide +kernel
theorem dX4_begin_40 : decode cX4_begin 40 = .ok (.getfield 21, 3) := by decide +kernel
theorem dX4_begin_43 : decode cX4_begin 43 = .ok (.i2l, 1) := by decide +kernel
theorem dX4_begin_44 : decode cX4_begin 44 = .ok (.lastore, 1) := by decide +kernel
theorem dX4_begin_45 : decode cX4_begin 45 = .ok (.aload_n 0, 1) := by decide +kernel
theorem dX4_begin_46 : decode cX4_begin 46 = .ok (.invokevirtual 63, 3) := by decide +kernel
theorem dX4_begin_49 : decode cX4_begin 49 = .ok (.aload_n 0, 1) := by decide +kernel
theorem dX4_begin_50 : decode cX4_begin 50 = .ok (.lconst 0, 1) := by decide +kernel
theorem dX4_begin_51 : decode cX4_begin 51 = .ok (.putfield 66, 3) := by decide +kernel
theorem dX4_begin_54 : decode cX4_begin 54 = .ok (.return_, 1) := by decide +kernel
theorem dX4_copy_0 : decode cX4_copy 0 = .ok (.iconst 0, 1) := by decide +kernel
theorem dX4_copy_1 : decode cX4_copy 1 = .ok (.istore_n 1, 1) := by decide +kernel
theorem dX4_copy_2 : decode cX4_copy 2 = .ok (.iload_n 1, 1) := by decide +kernel
theorem dX4_copy_3 : decode cX4_copy 3 = .ok (.bipush 92, 2) := by decide +kernel
theorem dX4_copy_5 : decode cX4_copy 5 = .ok (.if_icmp .ge 21, 3) := by decide +kernel
theorem dX4_copy_8 : decode cX4_copy 8 = .ok (.aload_n 0, 1) := by decide +kernel
theorem dX4_copy_9 : decode cX4_copy 9 = .ok (.getfield 17, 3) := by decide +kernel
theorem dX4_copy_12 : decode cX4_copy 12 = .ok (.iload_n 1, 1) := by decide +kernel
theorem dX4_copy_13 : decode cX4_copy 13 = .ok (.aload_n 0, 1) := by decide +kernel
theorem dX4_copy_14 : decode cX4_copy 14 = .ok (.getfield 13, 3) := by decide +kernel
theorem dX4_copy_17 : decode cX4_copy 17 = .ok (.iload_n 1, 1) := by decide +kernel
theorem dX4_copy_18 : decode cX4_copy 18 = .ok (.laload, 1) := by decide +kernel
theorem dX4_copy_19 : decode cX4_copy 19 = .ok (.lastore, 1) := by decide +kernel
theorem dX4_copy_20 : decode cX4_copy 20 = .ok (.iinc 1 1, 3) := by decide +kernel
theorem dX4_copy_23 : decode cX4_copy 23 = .ok (.goto (-21), 3) := by decide +kernel
theorem dX4_copy_26 : decode cX4_copy 26 = .ok (.return_, 1) := by decide +kernel
theorem dX4_isIn_0 : decode cX4_isIn 0 = .ok (.iload_n 0, 1) := by decide +kernel
theorem dX4_isIn_1 : decode cX4_isIn 1 = .ok (.iload_n 1, 1) := by decide +kernel
theorem dX4_isIn_2 : decode cX4_isIn 2 = .ok (.if_icmp .lt 12, 3) := by decide +kernel
theorem dX4_isIn_5 : decode cX4_isIn 5 = .ok (.iload_n 0, 1) := by decide +kernel
theorem dX4_isIn_6 : decode cX4_isIn 6 = .ok (.iload_n 2, 1) := by decide +kernel
theorem dX4_isIn_7 : decode cX4_isIn 7 = .ok (.if_icmp .gt 7, 3) := by decide +kernel
theorem dX4_isIn_10 : decode cX4_isIn 10 = .ok (.iconst 1, 1) := by decide +kernel
theorem dX4_isIn_11 : decode cX4_isIn 11 = .ok (.goto 4, 3) := by decide +kernel
theorem dX4_isIn_14 : decode cX4_isIn 14 = .ok (.iconst 0, 1) := by decide +kernel
theorem dX4_isIn_15 : decode cX4_isIn 15 = .ok (.ireturn, 1) := by decide +kernel
set_option maxRecDepth 20000 in
theorem ggX4_car_X4_isIn : GoodIn wsX4_car wsX4_isIn := goodIn_r _ [10] (by decide +kernel) (by decide +kernel)
set_option maxRecDepth 20000 in
theorem gX4_car_X4_isIn : GoodIn wsX4_car (va_wsS RX4 71 yX4_isIn wsX4_isIn) := goodIn_app (goodIn_of _ (by decide +kernel)) ggX4_car_X4_isIn
set_option maxRecDepth 20000 in
theorem ggX4_car_X4_begin : GoodIn wsX4_car wsX4_begin := goodIn_r _ [14, 6, 15, 3, 16, 17, 18, 19, 9, 20, 21, 22, 23, 24, 25, 26, 27, 28, 29, 30, 31, 32, 33, 34, 35, 36, 37, 38] (by decide +kernel) (by decide +kernel)
set_option maxRecDepth 20000 in
theorem gX4_car_X4_begin : GoodIn wsX4_car (wsV RX4 75 RX4 yX4_begin wsX4_begin) := goodIn_app (goodIn_of _ (by decide +kernel)) ggX4_car_X4_begin
theorem dX4_car_0 : decode cX4_car 0 = .ok (.aload_n 0, 1) := by decide +kernel
theorem dX4_car_1 : decode cX4_car 1 = .ok (.iconst 0, 1) := by decide +kernel
theorem dX4_car_2 : decode cX4_car 2 = .ok (.putfield 49, 3) := by decide +kernel
theorem dX4_car_5 : decode cX4_car 5 = .ok (.iload_n 1, 1) := by decide +kernel
theorem dX4_car_6 : decode cX4_car 6 = .ok (.sipush 1000, 3) := by decide +kernel
theorem dX4_car_9 : decode cX4_car 9 = .ok (.ldc 70, 2) := by decide +kernel
theorem dX4_car_11 : decode cX4_car 11 = .ok (.invokestatic 71, 3) := by decide +kernel
theorem dX4_car_14 : decode cX4_car 14 = .ok (.ifCond .eq 24, 3) := by decide +kernel
theorem dX4_car_17 : decode cX4_car 17 = .ok (.iload_n 2, 1) := by decide +kernel
theorem dX4_car_18 : decode cX4_car 18 = .ok (.iconst 1, 1) := by decide +kernel
theorem dX4_car_19 : decode cX4_car 19 = .ok (.sipush 1000, 3) := by decide +kernel
theorem dX4_car_22 : decode cX4_car 22 = .ok (.invokestatic 71, 3) := by decide +kernel
theorem dX4_car_25 : decode cX4_car 25 = .ok (.ifCond .eq 13, 3) := by decide +kernel
theorem dX4_car_28 : decode cX4_car 28 = .ok (.iload_n 3, 1) := by decide +kernel
theorem dX4_car_29 : decode cX4_car 29 = .ok (.iconst 0, 1) := by decide +kernel
theorem dX4_car_30 : decode cX4_car 30 = .ok (.bipush 60, 2) := by decide +kernel
theorem dX4_car_32 : decode cX4_car 32 = .ok (.invokestatic 71, 3) := by decide +kernel
theorem dX4_car_35 : decode cX4_car 35 = .ok (.ifCond .ne 5, 3) := by decide +kernel
theorem dX4_car_38 : decode cX4_car 38 = .ok (.iconst 0, 1) := by decide +kernel
theorem dX4_car_39 : decode cX4_car 39 = .ok (.ireturn, 1) := by decide +kernel
theorem dX4_car_40 : decode cX4_car 40 = .ok (.aload_n 0, 1) := by decide +kernel
theorem dX4_car_41 : decode cX4_car 41 = .ok (.iload_n 1, 1) := by decide +kernel
theorem dX4_car_42 : decode cX4_car 42 = .ok (.putfield 21, 3) := by decide +kernel
theorem dX4_car_45 : decode cX4_car 45 = .ok (.aload_n 0, 1) := by decide +kernel
theorem dX4_car_46 : decode cX4_car 46 = .ok (.iload_n 2, 1) := by decide +kernel
theorem dX4_car_47 : decode cX4_car 47 = .ok (.putfield 25, 3) := by decide +kernel
theorem dX4_car_50 : decode cX4_car 50 = .ok (.aload_n 0, 1) := by decide +kernel
theorem dX4_car_51 : decode cX4_car 51 = .ok (.iload_n 3, 1) := by decide +kernel
theorem dX4_car_52 : decode cX4_car 52 = .ok (.putfield 28, 3) := by decide +kernel
theorem dX4_car_55 : decode cX4_car 55 = .ok (.aload_n 0, 1) := by decide +kernel
theorem dX4_car_56 : decode cX4_car 56 = .ok (.iconst 0, 1) := by decide +kernel
theorem dX4_car_57 : decode cX4_car 57 = .ok (.putfield 59, 3) := by decide +kernel
theorem dX4_car_60 : decode cX4_car 60 = .ok (.aload_n 0, 1) := by decide +kernel
theorem dX4_car_61 : decode cX4_car 61 = .ok (.invokevirtual 75, 3) := by decide +kernel
theorem dX4_car_64 : decode cX4_car 64 = .ok (.iconst 1, 1) := by decide +kernel
theorem dX4_car_65 : decode cX4_car 65 = .ok (.ireturn, 1) := by decide +kernel
set_option maxRecDepth 20000 in
theorem ggX4_bounds_X4_isIn : GoodIn wsX4_bounds wsX4_isIn := goodIn_r _ [9] (by decide +kernel) (by decide +kernel)
set_option maxRecDepth 20000 in
theorem gX4_bounds_X4_isIn : GoodIn wsX4_bounds (va_wsS RX4 71 yX4_isIn wsX4_isIn) := goodIn_app (goodIn_of _ (by decide +kernel)) ggX4_bounds_X4_isIn
theorem dX4_bounds_0 : decode cX4_bounds 0 = .ok (.aload_n 0, 1) := by decide +kernel
theorem dX4_bounds_1 : decode cX4_bounds 1 = .ok (.iconst 0, 1) := by decide +kernel
theorem dX4_bounds_2 : decode cX4_bounds 2 = .ok (.putfield 49, 3) := by decide +kernel
theorem dX4_bounds_5 : decode cX4_bounds 5 = .ok (.iload_n 1, 1) := by decide +kernel
theorem dX4_bounds_6 : decode cX4_bounds 6 = .ok (.iconst 1, 1) := by decide +kernel
theorem dX4_bounds_7 : decode cX4_bounds 7 = .ok (.sipush 200, 3) := by decide +kernel
theorem dX4_bounds_10 : decode cX4_bounds 10 = .ok (.invokestatic 71, 3) := by decide +kernel
theorem dX4_bounds_13 : decode cX4_bounds 13 = .ok (.ifCond .eq 32, 3) := by decide +kernel
theorem dX4_bounds_16 : decode cX4_bounds 16 = .ok (.iload_n 2, 1) := by decide +kernel
theorem dX4_bounds_17 : decode cX4_bounds 17 = .ok (.iconst 1, 1) := by decide +kernel
theorem dX4_bounds_18 : decode cX4_bounds 18 = .ok (.bipush 100, 2) := by decide +kernel
theorem dX4_bounds_20 : decode cX4_bounds 20 = .ok (.invokestatic 71, 3) := by decide +kernel
theorem dX4_bounds_23 : decode cX4_bounds 23 = .ok (.ifCond .eq 22, 3) := by decide +kernel
theorem dX4_bounds_26 : decode cX4_bounds 26 = .ok (.iload_n 3, 1) := by decide +kernel
theorem dX4_bounds_27 : decode cX4_bounds 27 = .ok (.iconst 1, 1) := by decide +kernel
theorem dX4_bounds_28 : decode cX4_bounds 28 = .ok (.if_icmp .lt 17, 3) := by decide +kernel
theorem dX4_bounds_31 : decode cX4_bounds 31 = .ok (.iload_n 3, 1) := by decide +kernel
theorem dX4_bounds_32 : decode cX4_bounds 32 = .ok (.iload 4, 2) := by decide +kernel
theorem dX4_bounds_34 : decode cX4_bounds 34 = .ok (.if_icmp .gt 11, 3) := by decide +kernel
theorem dX4_bounds_37 : decode cX4_bounds 37 = .ok (.iload 4, 2) := by decide +kernel
theorem dX4_bounds_39 : decode cX4_bounds 39 = .ok (.sipush 1000, 3) := by decide +kernel
theorem dX4_bounds_42 : decode cX4_bounds 42 = .ok (.if_icmp .le 5, 3) := by decide +kernel
theorem dX4_bounds_45 : decode cX4_bounds 45 = .ok (.iconst 0, 1) := by decide +kernel
theorem dX4_bounds_46 : decode cX4_bounds 46 = .ok (.ireturn, 1) := by decide +kernel
theorem dX4_bounds_47 : decode cX4_bounds 47 = .ok (.aload_n 0, 1) := by decide +kernel
theorem dX4_bounds_48 : decode cX4_bounds 48 = .ok (.iload_n 1, 1) := by decide +kernel
theorem dX4_bounds_49 : decode cX4_bounds 49 = .ok (.putfield 31, 3) := by decide +kernel
theorem dX4_bounds_52 : decode cX4_bounds 52 = .ok (.aload_n 0, 1) := by decide +kernel
theorem dX4_bounds_53 : decode cX4_bounds 53 = .ok (.iload_n 2, 1) := by decide +kernel
theorem dX4_bounds_54 : decode cX4_bounds 54 = .ok (.putfield 34, 3) := by decide +kernel
theorem dX4_bounds_57 : decode cX4_bounds 57 = .ok (.aload_n 0, 1) := by decide +kernel
theorem dX4_bounds_58 : decode cX4_bounds 58 = .ok (.iload_n 3, 1) := by decide +kernel
theorem dX4_bounds_59 : decode cX4_bounds 59 = .ok (.putfield 37, 3) := by decide +kernel
theorem dX4_bounds_62 : decode cX4_bounds 62 = .ok (.aload_n 0, 1) := by decide +kernel
theorem dX4_bounds_63 : decode cX4_bounds 63 = .ok (.iload 4, 2) := by decide +kernel
theorem dX4_bounds_65 : decode cX4_bounds 65 = .ok (.putfield 40, 3) := by decide +kernel
theorem dX4_bounds_68 : decode cX4_bounds 68 = .ok (.iconst 1, 1) := by decide +kernel
theorem dX4_bounds_69 : decode cX4_bounds 69 = .ok (.ireturn, 1) := by decide +kernel
theorem dX4_truth_0 : decode cX4_truth 0 = .ok (.aload_n 0, 1) := by decide +kernel
theorem dX4_truth_1 : decode cX4_truth 1 = .ok (.getfield 13, 3) := by decide +kernel
theorem dX4_truth_4 : decode cX4_truth 4 = .ok (.iconst 0, 1) := by decide +kernel
theorem dX4_truth_5 : decode cX4_truth 5 = .ok (.laload, 1) := by decide +kernel
theorem dX4_truth_6 : decode cX4_truth 6 = .ok (.aload_n 0, 1) := by decide +kernel
theorem dX4_truth_7 : decode cX4_truth 7 = .ok (.getfield 13, 3) := by decide +kernel
theorem dX4_truth_10 : decode cX4_truth 10 = .ok (.iconst 1, 1) := by decide +kernel
theorem dX4_truth_11 : decode cX4_truth 11 = .ok (.laload, 1) := by decide +kernel
theorem dX4_truth_12 : decode cX4_truth 12 = .ok (.ladd, 1) := by decide +kernel
theorem dX4_truth_13 : decode cX4_truth 13 = .ok (.ldc2_w 78, 3) := by decide +kernel
theorem dX4_truth_16 : decode cX4_truth 16 = .ok (.ldiv, 1) := by decide +kernel
theorem dX4_truth_17 : decode cX4_truth 17 = .ok (.lreturn, 1) := by decide +kernel
set_option maxRecDepth 20000 in
theorem ggX4_step_X4_truth : GoodIn wsX4_step wsX4_truth := goodIn_r _ [6, 1, 7, 8, 9, 10, 11, 12, 13, 14, 15, 16, 17, 18, 19, 20, 21, 22, 23, 24] (by decide +kernel) (by decide +kernel)
set_option maxRecDepth 20000 in
theorem gX4_step_X4_truth : GoodIn wsX4_step (wsV RX4 80 RX4 yX4_truth wsX4_truth) := goodIn_app (goodIn_of _ (by decide +kernel)) ggX4_step_X4_truth
theorem dX4_step_0 : decode cX4_step 0 = .ok (.aload_n 0, 1) := by decide +kernel
theorem dX4_step_1 : decode cX4_step 1 = .ok (.invokevirtual 80, 3) := by decide +kernel
theorem dX4_step_4 : decode cX4_step 4 = .ok (.lstore_n 1, 1) := by decide +kernel
theorem dX4_step_5 : decode cX4_step 5 = .ok (.aload_n 0, 1) := by decide +kernel
theorem dX4_step_6 : decode cX4_step 6 = .ok (.getfield 13, 3) := by decide +kernel
theorem dX4_step_9 : decode cX4_step 9 = .ok (.bipush 25, 2) := by decide +kernel
theorem dX4_step_11 : decode cX4_step 11 = .ok (.laload, 1) := by decide +kernel
theorem dX4_step_12 : decode cX4_step 12 = .ok (.lload_n 1, 1) := by decide +kernel
theorem dX4_step_13 : decode cX4_step 13 = .ok (.lcmp, 1) := by decide +kernel
theorem dX4_step_14 : decode cX4_step 14 = .ok (.ifCond .ge 17, 3) := by decide +kernel
theorem dX4_step_17 : decode cX4_step 17 = .ok (.aload_n 0, 1) := by decide +kernel
theorem dX4_step_18 : decode cX4_step 18 = .ok (.getfield 13, 3) := by decide +kernel
theorem dX4_step_21 : decode cX4_step 21 = .ok (.bipush 25, 2) := by decide +kernel
theorem dX4_step_23 : decode cX4_step 23 = .ok (.dup2, 1) := by decide +kernel
theorem dX4_step_24 : decode cX4_step 24 = .ok (.laload, 1) := by decide +kernel
theorem dX4_step_25 : decode cX4_step 25 = .ok (.lconst 1, 1) := by decide +kernel
theorem dX4_step_26 : decode cX4_step 26 = .ok (.ladd, 1) := by decide +kernel
theorem dX4_step_27 : decode cX4_step 27 = .ok (.lastore, 1) := by decide +kernel
theorem dX4_step_28 : decode cX4_step 28 = .ok (.goto 26, 3) := by decide +kernel
theorem dX4_step_31 : decode cX4_step 31 = .ok (.aload_n 0, 1) := by decide +kernel
theorem dX4_step_32 : decode cX4_step 32 = .ok (.getfield 13, 3) := by decide +kernel
theorem dX4_step_35 : decode cX4_step 35 = .ok (.bipush 25, 2) := by decide +kernel
theorem dX4_step_37 : decode cX4_step 37 = .ok (.laload, 1) := by decide +kernel
theorem dX4_step_38 : decode cX4_step 38 = .ok (.lload_n 1, 1) := by decide +kernel
theorem dX4_step_39 : decode cX4_step 39 = .ok (.lcmp, 1) := by decide +kernel
theorem dX4_step_40 : decode cX4_step 40 = .ok (.ifCond .le 14, 3) := by decide +kernel
theorem dX4_step_43 : decode cX4_step 43 = .ok (.aload_n 0, 1) := by decide +kernel
theorem dX4_step_44 : decode cX4_step 44 = .ok (.getfield 13, 3) := by decide +kernel
theorem dX4_step_47 : decode cX4_step 47 = .ok (.bipush 25, 2) := by decide +kernel
theorem dX4_step_49 : decode cX4_step 49 = .ok (.dup2, 1) := by decide +kernel
theorem dX4_step_50 : decode cX4_step 50 = .ok (.laload, 1) := by decide +kernel
theorem dX4_step_51 : decode cX4_step 51 = .ok (.lconst 1, 1) := by decide +kernel
theorem dX4_step_52 : decode cX4_step 52 = .ok (.lsub, 1) := by decide +kernel
theorem dX4_step_53 : decode cX4_step 53 = .ok (.lastore, 1) := by decide +kernel
theorem dX4_step_54 : decode cX4_step 54 = .ok (.return_, 1) := by decide +kernel
set_option maxRecDepth 20000 in
theorem ggX4_jump_X4_truth : GoodIn wsX4_jump wsX4_truth := goodIn_r _ [6, 1, 7, 8, 9, 10, 11, 12, 13, 14, 15, 16, 17, 18, 19, 20, 21, 22, 23, 24] (by decide +kernel) (by decide +kernel)
set_option maxRecDepth 20000 in
theorem gX4_jump_X4_truth : GoodIn wsX4_jump (wsV RX4 80 RX4 yX4_truth wsX4_truth) := goodIn_app (goodIn_of _ (by decide +kernel)) ggX4_jump_X4_truth
theorem dX4_jump_0 : decode cX4_jump 0 = .ok (.aload_n 0, 1) := by decide +kernel
theorem dX4_jump_1 : decode cX4_jump 1 = .ok (.getfield 13, 3) := by decide +kernel
theorem dX4_jump_4 : decode cX4_jump 4 = .ok (.bipush 25, 2) := by decide +kernel
theorem dX4_jump_6 : decode cX4_jump 6 = .ok (.laload, 1) := by decide +kernel
theorem dX4_jump_7 : decode cX4_jump 7 = .ok (.aload_n 0, 1) := by decide +kernel
theorem dX4_jump_8 : decode cX4_jump 8 = .ok (.invokevirtual 80, 3) := by decide +kernel
theorem dX4_jump_11 : decode cX4_jump 11 = .ok (.lcmp, 1) := by decide +kernel
theorem dX4_jump_12 : decode cX4_jump 12 = .ok (.ifCond .eq 14, 3) := by decide +kernel
theorem dX4_jump_15 : decode cX4_jump 15 = .ok (.aload_n 0, 1) := by decide +kernel
theorem dX4_jump_16 : decode cX4_jump 16 = .ok (.getfield 13, 3) := by decide +kernel
theorem dX4_jump_19 : decode cX4_jump 19 = .ok (.bipush 26, 2) := by decide +kernel
theorem dX4_jump_21 : decode cX4_jump 21 = .ok (.dup2, 1) := by decide +kernel
theorem dX4_jump_22 : decode cX4_jump 22 = .ok (.laload, 1) := by decide +kernel
theorem dX4_jump_23 : decode cX4_jump 23 = .ok (.lconst 1, 1) := by decide +kernel
theorem dX4_jump_24 : decode cX4_jump 24 = .ok (.ladd, 1) := by decide +kernel
theorem dX4_jump_25 : decode cX4_jump 25 = .ok (.lastore, 1) := by decide +kernel
theorem dX4_jump_26 : decode cX4_jump 26 = .ok (.aload_n 0, 1) := by decide +kernel
theorem dX4_jump_27 : decode cX4_jump 27 = .ok (.getfield 13, 3) := by decide +kernel
theorem dX4_jump_30 : decode cX4_jump 30 = .ok (.bipush 25, 2) := by decide +kernel
theorem dX4_jump_32 : decode cX4_jump 32 = .ok (.aload_n 0, 1) := by decide +kernel
theorem dX4_jump_33 : decode cX4_jump 33 = .ok (.invokevirtual 80, 3) := by decide +kernel
theorem dX4_jump_36 : decode cX4_jump 36 = .ok (.lastore, 1) := by decide +kernel
theorem dX4_jump_37 : decode cX4_jump 37 = .ok (.return_, 1) := by decide +kernel
theorem dX4_less_0 : decode cX4_less 0 = .ok (.lload_n 0, 1) := by decide +kernel
theorem dX4_less_1 : decode cX4_less 1 = .ok (.lload_n 2, 1) := by decide +kernel
theorem dX4_less_2 : decode cX4_less 2 = .ok (.lcmp, 1) := by decide +kernel
theorem dX4_less_3 : decode cX4_less 3 = .ok (.ifCond .le 9, 3) := by decide +kernel
theorem dX4_less_6 : decode cX4_less 6 = .ok (.lload_n 0, 1) := by decide +kernel
theorem dX4_less_7 : decode cX4_less 7 = .ok (.lload_n 2, 1) := by decide +kernel
theorem dX4_less_8 : decode cX4_less 8 = .ok (.lsub, 1) := by decide +kernel
theorem dX4_less_9 : decode cX4_less 9 = .ok (.goto 4, 3) := by decide +kernel
theorem dX4_less_12 : decode cX4_less 12 = .ok (.lconst 0, 1) := by decide +kernel
theorem dX4_less_13 : decode cX4_less 13 = .ok (.lreturn, 1) := by decide +kernel
theorem dX4_runs_0 : decode cX4_runs 0 = .ok (.iconst 0, 1) := by decide +kernel
theorem dX4_runs_1 : decode cX4_runs 1 = .ok (.istore 11, 2) := by decide +kernel
theorem dX4_runs_3 : decode cX4_runs 3 = .ok (.iload 11, 2) := by decide +kernel
theorem dX4_runs_5 : decode cX4_runs 5 = .ok (.iconst 4, 1) := by decide +kernel
theorem dX4_runs_6 : decode cX4_runs 6 = .ok (.if_icmp .ge 95, 3) := by decide +kernel
theorem dX4_runs_9 : decode cX4_runs 9 = .ok (.aload_n 0, 1) := by decide +kernel
theorem dX4_runs_10 : decode cX4_runs 10 = .ok (.getfield 13, 3) := by decide +kernel
theorem dX4_runs_13 : decode cX4_runs 13 = .ok (.iconst 2, 1) := by decide +kernel
theorem dX4_runs_14 : decode cX4_runs 14 = .ok (.iconst 5, 1) := by decide +kernel
theorem dX4_runs_15 : decode cX4_runs 15 = .ok (.iload 11, 2) := by decide +kernel
theorem dX4_runs_17 : decode cX4_runs 17 = .ok (.imul, 1) := by decide +kernel
theorem dX4_runs_18 : decode cX4_runs 18 = .ok (.iadd, 1) := by decide +kernel
theorem dX4_runs_19 : decode cX4_runs 19 = .ok (.dup2, 1) := by decide +kernel
theorem dX4_runs_20 : decode cX4_runs 20 = .ok (.laload, 1) := by decide +kernel
theorem dX4_runs_21 : decode cX4_runs 21 = .ok (.lload_n 1, 1) := by decide +kernel
theorem dX4_runs_22 : decode cX4_runs 22 = .ok (.ladd, 1) := by decide +kernel
theorem dX4_runs_23 : decode cX4_runs 23 = .ok (.lastore, 1) := by decide +kernel
theorem dX4_runs_24 : decode cX4_runs 24 = .ok (.aload_n 0, 1) := by decide +kernel
theorem dX4_runs_25 : decode cX4_runs 25 = .ok (.getfield 13, 3) := by decide +kernel
theorem dX4_runs_28 : decode cX4_runs 28 = .ok (.iconst 2, 1) := by decide +kernel
theorem dX4_runs_29 : decode cX4_runs 29 = .ok (.iconst 5, 1) := by decide +kernel
theorem dX4_runs_30 : decode cX4_runs 30 = .ok (.iload 11, 2) := by decide +kernel
theorem dX4_runs_32 : decode cX4_runs 32 = .ok (.imul, 1) := by decide +kernel
theorem dX4_runs_33 : decode cX4_runs 33 = .ok (.iadd, 1) := by decide +kernel
theorem dX4_runs_34 : decode cX4_runs 34 = .ok (.iconst 1, 1) := by decide +kernel
theorem dX4_runs_35 : decode cX4_runs 35 = .ok (.iadd, 1) := by decide +kernel
theorem dX4_runs_36 : decode cX4_runs 36 = .ok (.dup2, 1) := by decide +kernel
theorem dX4_runs_37 : decode cX4_runs 37 = .ok (.laload, 1) := by decide +kernel
theorem dX4_runs_38 : decode cX4_runs 38 = .ok (.lload_n 3, 1) := by decide +kernel
theorem dX4_runs_39 : decode cX4_runs 39 = .ok (.ladd, 1) := by decide +kernel
theorem dX4_runs_40 : decode cX4_runs 40 = .ok (.lastore, 1) := by decide +kernel
theorem dX4_runs_41 : decode cX4_runs 41 = .ok (.aload_n 0, 1) := by decide +kernel
theorem dX4_runs_42 : decode cX4_runs 42 = .ok (.getfield 13, 3) := by decide +kernel
theorem dX4_runs_45 : decode cX4_runs 45 = .ok (.iconst 2, 1) := by decide +kernel
theorem dX4_runs_46 : decode cX4_runs 46 = .ok (.iconst 5, 1) := by decide +kernel
theorem dX4_runs_47 : decode cX4_runs 47 = .ok (.iload 11, 2) := by decide +kernel
theorem dX4_runs_49 : decode cX4_runs 49 = .ok (.imul, 1) := by decide +kernel
theorem dX4_runs_50 : decode cX4_runs 50 = .ok (.iadd, 1) := by decide +kernel
theorem dX4_runs_51 : decode cX4_runs 51 = .ok (.iconst 2, 1) := by decide +kernel
theorem dX4_runs_52 : decode cX4_runs 52 = .ok (.iadd, 1) := by decide +kernel
theorem dX4_runs_53 : decode cX4_runs 53 = .ok (.dup2, 1) := by decide +kernel
theorem dX4_runs_54 : decode cX4_runs 54 = .ok (.laload, 1) := by decide +kernel
theorem dX4_runs_55 : decode cX4_runs 55 = .ok (.lload 5, 2) := by decide +kernel
theorem dX4_runs_57 : decode cX4_runs 57 = .ok (.ladd, 1) := by decide +kernel
theorem dX4_runs_58 : decode cX4_runs 58 = .ok (.lastore, 1) := by decide +kernel
theorem dX4_runs_59 : decode cX4_runs 59 = .ok (.aload_n 0, 1) := by decide +kernel
theorem dX4_runs_60 : decode cX4_runs 60 = .ok (.getfield 13, 3) := by decide +kernel
theorem dX4_runs_63 : decode cX4_runs 63 = .ok (.iconst 2, 1) := by decide +kernel
theorem dX4_runs_64 : decode cX4_runs 64 = .ok (.iconst 5, 1) := by decide +kernel
theorem dX4_runs_65 : decode cX4_runs 65 = .ok (.iload 11, 2) := by decide +kernel
theorem dX4_runs_67 : decode cX4_runs 67 = .ok (.imul, 1) := by decide +kernel
theorem dX4_runs_68 : decode cX4_runs 68 = .ok (.iadd, 1) := by decide +kernel
theorem dX4_runs_69 : decode cX4_runs 69 = .ok (.iconst 3, 1) := by decide +kernel
theorem dX4_runs_70 : decode cX4_runs 70 = .ok (.iadd, 1) := by decide +kernel
theorem dX4_runs_71 : decode cX4_runs 71 = .ok (.dup2, 1) := by decide +kernel
theorem dX4_runs_72 : decode cX4_runs 72 = .ok (.laload, 1) := by decide +kernel
theorem dX4_runs_73 : decode cX4_runs 73 = .ok (.lload 7, 2) := by decide +kernel
theorem dX4_runs_75 : decode cX4_runs 75 = .ok (.ladd, 1) := by decide +kernel
theorem dX4_runs_76 : decode cX4_runs 76 = .ok (.lastore, 1) := by decide +kernel
theorem dX4_runs_77 : decode cX4_runs 77 = .ok (.aload_n 0, 1) := by decide +kernel
theorem dX4_runs_78 : decode cX4_runs 78 = .ok (.getfield 13, 3) := by decide +kernel
theorem dX4_runs_81 : decode cX4_runs 81 = .ok (.iconst 2, 1) := by decide +kernel
theorem dX4_runs_82 : decode cX4_runs 82 = .ok (.iconst 5, 1) := by decide +kernel
theorem dX4_runs_83 : decode cX4_runs 83 = .ok (.iload 11, 2) := by decide +kernel
theorem dX4_runs_85 : decode cX4_runs 85 = .ok (.imul, 1) := by decide +kernel
theorem dX4_runs_86 : decode cX4_runs 86 = .ok (.iadd, 1) := by decide +kernel
theorem dX4_runs_87 : decode cX4_runs 87 = .ok (.iconst 4, 1) := by decide +kernel
theorem dX4_runs_88 : decode cX4_runs 88 = .ok (.iadd, 1) := by decide +kernel
theorem dX4_runs_89 : decode cX4_runs 89 = .ok (.dup2, 1) := by decide +kernel
theorem dX4_runs_90 : decode cX4_runs 90 = .ok (.laload, 1) := by decide +kernel
theorem dX4_runs_91 : decode cX4_runs 91 = .ok (.lload 9, 2) := by decide +kernel
theorem dX4_runs_93 : decode cX4_runs 93 = .ok (.ladd, 1) := by decide +kernel
theorem dX4_runs_94 : decode cX4_runs 94 = .ok (.lastore, 1) := by decide +kernel
theorem dX4_runs_95 : decode cX4_runs 95 = .ok (.iinc 11 1, 3) := by decide +kernel
theorem dX4_runs_98 : decode cX4_runs 98 = .ok (.goto (-95), 3) := by decide +kernel
theorem dX4_runs_101 : decode cX4_runs 101 = .ok (.aload_n 0, 1) := by decide +kernel
theorem dX4_runs_102 : decode cX4_runs 102 = .ok (.getfield 13, 3) := by decide +kernel
theorem dX4_runs_105 : decode cX4_runs 105 = .ok (.bipush 28, 2) := by decide +kernel
theorem dX4_runs_107 : decode cX4_runs 107 = .ok (.dup2, 1) := by decide +kernel
theorem dX4_runs_108 : decode cX4_runs 108 = .ok (.laload, 1) := by decide +kernel
theorem dX4_runs_109 : decode cX4_runs 109 = .ok (.lload 5, 2) := by decide +kernel
theorem dX4_runs_111 : decode cX4_runs 111 = .ok (.ladd, 1) := by decide +kernel
theorem dX4_runs_112 : decode cX4_runs 112 = .ok (.lastore, 1) := by decide +kernel
theorem dX4_runs_113 : decode cX4_runs 113 = .ok (.aload_n 0, 1) := by decide +kernel
theorem dX4_runs_114 : decode cX4_runs 114 = .ok (.getfield 13, 3) := by decide +kernel
theorem dX4_runs_117 : decode cX4_runs 117 = .ok (.bipush 29, 2) := by decide +kernel
theorem dX4_runs_119 : decode cX4_runs 119 = .ok (.dup2, 1) := by decide +kernel
theorem dX4_runs_120 : decode cX4_runs 120 = .ok (.laload, 1) := by decide +kernel
theorem dX4_runs_121 : decode cX4_runs 121 = .ok (.lload 7, 2) := by decide +kernel
theorem dX4_runs_123 : decode cX4_runs 123 = .ok (.ladd, 1) := by decide +kernel
theorem dX4_runs_124 : decode cX4_runs 124 = .ok (.lastore, 1) := by decide +kernel
theorem dX4_runs_125 : decode cX4_runs 125 = .ok (.aload_n 0, 1) := by decide +kernel
theorem dX4_runs_126 : decode cX4_runs 126 = .ok (.dup, 1) := by decide +kernel
theorem dX4_runs_127 : decode cX4_runs 127 = .ok (.getfield 66, 3) := by decide +kernel
theorem dX4_runs_130 : decode cX4_runs 130 = .ok (.lload_n 3, 1) := by decide +kernel
theorem dX4_runs_131 : decode cX4_runs 131 = .ok (.ladd, 1) := by decide +kernel
theorem dX4_runs_132 : decode cX4_runs 132 = .ok (.putfield 66, 3) := by decide +kernel
theorem dX4_runs_135 : decode cX4_runs 135 = .ok (.return_, 1) := by decide +kernel
set_option maxRecDepth 20000 in
theorem ggX4_drive_X4_begin : GoodIn wsX4_drive wsX4_begin := goodIn_r _ [10, 11, 5, 12, 3, 13, 14, 15, 9, 16, 17, 37, 38, 39, 40, 41, 42, 43, 44, 45, 46, 47, 48, 49, 50, 51, 52, 53] (by decide +kernel) (by decide +kernel)
set_option maxRecDepth 20000 in
theorem gX4_drive_X4_begin : GoodIn wsX4_drive (wsV RX4 75 RX4 yX4_begin wsX4_begin) := goodIn_app (goodIn_of _ (by decide +kernel)) ggX4_drive_X4_begin
set_option maxRecDepth 20000 in
theorem ggX4_drive_X4_isIn : GoodIn wsX4_drive wsX4_isIn := goodIn_r _ [20] (by decide +kernel) (by decide +kernel)
set_option maxRecDepth 20000 in
theorem gX4_drive_X4_isIn : GoodIn wsX4_drive (va_wsS RX4 71 yX4_isIn wsX4_isIn) := goodIn_app (goodIn_of _ (by decide +kernel)) ggX4_drive_X4_isIn
set_option maxRecDepth 20000 in
theorem ggX4_drive_X4_less : GoodIn wsX4_drive wsX4_less := goodIn_r _ [23] (by decide +kernel) (by decide +kernel)
set_option maxRecDepth 20000 in
theorem gX4_drive_X4_less : GoodIn wsX4_drive (va_wsS RX4 87 yX4_less wsX4_less) := goodIn_app (goodIn_of _ (by decide +kernel)) ggX4_drive_X4_less
set_option maxRecDepth 20000 in
theorem ggX4_drive_X4_runs : GoodIn wsX4_drive wsX4_runs := goodIn_r _ [27, 5, 3, 37, 38, 39, 40, 41, 42, 43, 44, 45, 46, 47, 48, 49, 50, 51, 52, 53] (by decide +kernel) (by decide +kernel)
set_option maxRecDepth 20000 in
theorem gX4_drive_X4_runs : GoodIn wsX4_drive (wsV RX4 91 RX4 yX4_runs wsX4_runs) := goodIn_app (goodIn_of _ (by decide +kernel)) ggX4_drive_X4_runs
set_option maxRecDepth 20000 in
theorem ggX4_drive_X4_step : GoodIn wsX4_drive wsX4_step := goodIn_r _ [31, 5, 32, 33, 34, 9, 35, 36, 37, 38, 39, 40, 41, 42, 43, 44, 45, 46, 47, 48, 49, 50, 51, 52, 53] (by decide +kernel) (by decide +kernel)
set_option maxRecDepth 20000 in
theorem gX4_drive_X4_step : GoodIn wsX4_drive (wsV RX4 95 RX4 yX4_step wsX4_step) := goodIn_app (goodIn_of _ (by decide +kernel)) ggX4_drive_X4_step
theorem dX4_drive_0 : decode cX4_drive 0 = .ok (.aload_n 0, 1) := by decide +kernel
theorem dX4_drive_1 : decode cX4_drive 1 = .ok (.iconst 0, 1) := by decide +kernel
theorem dX4_drive_2 : decode cX4_drive 2 = .ok (.putfield 49, 3) := by decide +kernel
theorem dX4_drive_5 : decode cX4_drive 5 = .ok (.aload_n 0, 1) := by decide +kernel
theorem dX4_drive_6 : decode cX4_drive 6 = .ok (.invokevirtual 75, 3) := by decide +kernel
theorem dX4_drive_9 : decode cX4_drive 9 = .ok (.iload_n 1, 1) := by decide +kernel
theorem dX4_drive_10 : decode cX4_drive 10 = .ok (.iconst 0, 1) := by decide +kernel
theorem dX4_drive_11 : decode cX4_drive 11 = .ok (.ldc 84, 2) := by decide +kernel
theorem dX4_drive_13 : decode cX4_drive 13 = .ok (.invokestatic 71, 3) := by decide +kernel
theorem dX4_drive_16 : decode cX4_drive 16 = .ok (.ifCond .eq 39, 3) := by decide +kernel
theorem dX4_drive_19 : decode cX4_drive 19 = .ok (.iload_n 2, 1) := by decide +kernel
theorem dX4_drive_20 : decode cX4_drive 20 = .ok (.iconst 0, 1) := by decide +kernel
theorem dX4_drive_21 : decode cX4_drive 21 = .ok (.sipush 10000, 3) := by decide +kernel
theorem dX4_drive_24 : decode cX4_drive 24 = .ok (.invokestatic 71, 3) := by decide +kernel
theorem dX4_drive_27 : decode cX4_drive 27 = .ok (.ifCond .eq 28, 3) := by decide +kernel
theorem dX4_drive_30 : decode cX4_drive 30 = .ok (.iload_n 3, 1) := by decide +kernel
theorem dX4_drive_31 : decode cX4_drive 31 = .ok (.iconst 1, 1) := by decide +kernel
theorem dX4_drive_32 : decode cX4_drive 32 = .ok (.sipush 3600, 3) := by decide +kernel
theorem dX4_drive_35 : decode cX4_drive 35 = .ok (.invokestatic 71, 3) := by decide +kernel
theorem dX4_drive_38 : decode cX4_drive 38 = .ok (.ifCond .eq 17, 3) := by decide +kernel
theorem dX4_drive_41 : decode cX4_drive 41 = .ok (.aload_n 0, 1) := by decide +kernel
theorem dX4_drive_42 : decode cX4_drive 42 = .ok (.getfield 66, 3) := by decide +kernel
theorem dX4_drive_45 : decode cX4_drive 45 = .ok (.iload_n 1, 1) := by decide +kernel
theorem dX4_drive_46 : decode cX4_drive 46 = .ok (.i2l, 1) := by decide +kernel
theorem dX4_drive_47 : decode cX4_drive 47 = .ok (.ladd, 1) := by decide +kernel
theorem dX4_drive_48 : decode cX4_drive 48 = .ok (.ldc2_w 85, 3) := by decide +kernel
theorem dX4_drive_51 : decode cX4_drive 51 = .ok (.lcmp, 1) := by decide +kernel
theorem dX4_drive_52 : decode cX4_drive 52 = .ok (.ifCond .le 5, 3) := by decide +kernel
theorem dX4_drive_55 : decode cX4_drive 55 = .ok (.iconst 0, 1) := by decide +kernel
theorem dX4_drive_56 : decode cX4_drive 56 = .ok (.ireturn, 1) := by decide +kernel
theorem dX4_drive_57 : decode cX4_drive 57 = .ok (.iload_n 2, 1) := by decide +kernel
theorem dX4_drive_58 : decode cX4_drive 58 = .ok (.i2l, 1) := by decide +kernel
theorem dX4_drive_59 : decode cX4_drive 59 = .ok (.aload_n 0, 1) := by decide +kernel
theorem dX4_drive_60 : decode cX4_drive 60 = .ok (.getfield 13, 3) := by decide +kernel
theorem dX4_drive_63 : decode cX4_drive 63 = .ok (.iconst 1, 1) := by decide +kernel
theorem dX4_drive_64 : decode cX4_drive 64 = .ok (.laload, 1) := by decide +kernel
theorem dX4_drive_65 : decode cX4_drive 65 = .ok (.lcmp, 1) := by decide +kernel
theorem dX4_drive_66 : decode cX4_drive 66 = .ok (.ifCond .le 22, 3) := by decide +kernel
theorem dX4_drive_69 : decode cX4_drive 69 = .ok (.aload_n 0, 1) := by decide +kernel
theorem dX4_drive_70 : decode cX4_drive 70 = .ok (.getfield 13, 3) := by decide +kernel
theorem dX4_drive_73 : decode cX4_drive 73 = .ok (.bipush 24, 2) := by decide +kernel
theorem dX4_drive_75 : decode cX4_drive 75 = .ok (.dup2, 1) := by decide +kernel
theorem dX4_drive_76 : decode cX4_drive 76 = .ok (.laload, 1) := by decide +kernel
theorem dX4_drive_77 : decode cX4_drive 77 = .ok (.lconst 1, 1) := by decide +kernel
theorem dX4_drive_78 : decode cX4_drive 78 = .ok (.ladd, 1) := by decide +kernel
theorem dX4_drive_79 : decode cX4_drive 79 = .ok (.lastore, 1) := by decide +kernel
theorem dX4_drive_80 : decode cX4_drive 80 = .ok (.aload_n 0, 1) := by decide +kernel
theorem dX4_drive_81 : decode cX4_drive 81 = .ok (.getfield 13, 3) := by decide +kernel
theorem dX4_drive_84 : decode cX4_drive 84 = .ok (.bipush 27, 2) := by decide +kernel
theorem dX4_drive_86 : decode cX4_drive 86 = .ok (.lconst 0, 1) := by decide +kernel
theorem dX4_drive_87 : decode cX4_drive 87 = .ok (.lastore, 1) := by decide +kernel
theorem dX4_drive_88 : decode cX4_drive 88 = .ok (.aload_n 0, 1) := by decide +kernel
theorem dX4_drive_89 : decode cX4_drive 89 = .ok (.getfield 13, 3) := by decide +kernel
theorem dX4_drive_92 : decode cX4_drive 92 = .ok (.iconst 0, 1) := by decide +kernel
theorem dX4_drive_93 : decode cX4_drive 93 = .ok (.aload_n 0, 1) := by decide +kernel
theorem dX4_drive_94 : decode cX4_drive 94 = .ok (.getfield 13, 3) := by decide +kernel
theorem dX4_drive_97 : decode cX4_drive 97 = .ok (.iconst 0, 1) := by decide +kernel
theorem dX4_drive_98 : decode cX4_drive 98 = .ok (.laload, 1) := by decide +kernel
theorem dX4_drive_99 : decode cX4_drive 99 = .ok (.iload_n 2, 1) := by decide +kernel
theorem dX4_drive_100 : decode cX4_drive 100 = .ok (.i2l, 1) := by decide +kernel
theorem dX4_drive_101 : decode cX4_drive 101 = .ok (.invokestatic 87, 3) := by decide +kernel
theorem dX4_drive_104 : decode cX4_drive 104 = .ok (.lastore, 1) := by decide +kernel
theorem dX4_drive_105 : decode cX4_drive 105 = .ok (.aload_n 0, 1) := by decide +kernel
theorem dX4_drive_106 : decode cX4_drive 106 = .ok (.getfield 13, 3) := by decide +kernel
theorem dX4_drive_109 : decode cX4_drive 109 = .ok (.iconst 1, 1) := by decide +kernel
theorem dX4_drive_110 : decode cX4_drive 110 = .ok (.aload_n 0, 1) := by decide +kernel
theorem dX4_drive_111 : decode cX4_drive 111 = .ok (.getfield 13, 3) := by decide +kernel
theorem dX4_drive_114 : decode cX4_drive 114 = .ok (.iconst 1, 1) := by decide +kernel
theorem dX4_drive_115 : decode cX4_drive 115 = .ok (.laload, 1) := by decide +kernel
theorem dX4_drive_116 : decode cX4_drive 116 = .ok (.iload_n 2, 1) := by decide +kernel
theorem dX4_drive_117 : decode cX4_drive 117 = .ok (.i2l, 1) := by decide +kernel
theorem dX4_drive_118 : decode cX4_drive 118 = .ok (.invokestatic 87, 3) := by decide +kernel
theorem dX4_drive_121 : decode cX4_drive 121 = .ok (.lastore, 1) := by decide +kernel
theorem dX4_drive_122 : decode cX4_drive 122 = .ok (.aload_n 0, 1) := by decide +kernel
theorem dX4_drive_123 : decode cX4_drive 123 = .ok (.iload_n 1, 1) := by decide +kernel
theorem dX4_drive_124 : decode cX4_drive 124 = .ok (.i2l, 1) := by decide +kernel
theorem dX4_drive_125 : decode cX4_drive 125 = .ok (.iload_n 1, 1) := by decide +kernel
theorem dX4_drive_126 : decode cX4_drive 126 = .ok (.i2l, 1) := by decide +kernel
theorem dX4_drive_127 : decode cX4_drive 127 = .ok (.iload_n 2, 1) := by decide +kernel
theorem dX4_drive_128 : decode cX4_drive 128 = .ok (.i2l, 1) := by decide +kernel
theorem dX4_drive_129 : decode cX4_drive 129 = .ok (.iload_n 2, 1) := by decide +kernel
theorem dX4_drive_130 : decode cX4_drive 130 = .ok (.i2l, 1) := by decide +kernel
theorem dX4_drive_131 : decode cX4_drive 131 = .ok (.iload_n 3, 1) := by decide +kernel
theorem dX4_drive_132 : decode cX4_drive 132 = .ok (.i2l, 1) := by decide +kernel
theorem dX4_drive_133 : decode cX4_drive 133 = .ok (.invokevirtual 91, 3) := by decide +kernel
theorem dX4_drive_136 : decode cX4_drive 136 = .ok (.aload_n 0, 1) := by decide +kernel
theorem dX4_drive_137 : decode cX4_drive 137 = .ok (.invokevirtual 95, 3) := by decide +kernel
theorem dX4_drive_140 : decode cX4_drive 140 = .ok (.iconst 1, 1) := by decide +kernel
theorem dX4_drive_141 : decode cX4_drive 141 = .ok (.ireturn, 1) := by decide +kernel
set_option maxRecDepth 20000 in
theorem ggX4_mayGap_X4_isIn : GoodIn wsX4_mayGap wsX4_isIn := goodIn_r _ [8] (by decide +kernel) (by decide +kernel)
set_option maxRecDepth 20000 in
theorem gX4_mayGap_X4_isIn : GoodIn wsX4_mayGap (va_wsS RX4 71 yX4_isIn wsX4_isIn) := goodIn_app (goodIn_of _ (by decide +kernel)) ggX4_mayGap_X4_isIn
theorem dX4_mayGap_0 : decode cX4_mayGap 0 = .ok (.iload_n 1, 1) := by decide +kernel
theorem dX4_mayGap_1 : decode cX4_mayGap 1 = .ok (.iconst 1, 1) := by decide +kernel
theorem dX4_mayGap_2 : decode cX4_mayGap 2 = .ok (.ldc 98, 2) := by decide +kernel
theorem dX4_mayGap_4 : decode cX4_mayGap 4 = .ok (.invokestatic 71, 3) := by decide +kernel
theorem dX4_mayGap_7 : decode cX4_mayGap 7 = .ok (.ifCond .eq 27, 3) := by decide +kernel
theorem dX4_mayGap_10 : decode cX4_mayGap 10 = .ok (.aload_n 0, 1) := by decide +kernel
theorem dX4_mayGap_11 : decode cX4_mayGap 11 = .ok (.getfield 66, 3) := by decide +kernel
theorem dX4_mayGap_14 : decode cX4_mayGap 14 = .ok (.aload_n 0, 1) := by decide +kernel
theorem dX4_mayGap_15 : decode cX4_mayGap 15 = .ok (.getfield 31, 3) := by decide +kernel
theorem dX4_mayGap_18 : decode cX4_mayGap 18 = .ok (.i2l, 1) := by decide +kernel
theorem dX4_mayGap_19 : decode cX4_mayGap 19 = .ok (.iload_n 1, 1) := by decide +kernel
theorem dX4_mayGap_20 : decode cX4_mayGap 20 = .ok (.i2l, 1) := by decide +kernel
theorem dX4_mayGap_21 : decode cX4_mayGap 21 = .ok (.lmul, 1) := by decide +kernel
theorem dX4_mayGap_22 : decode cX4_mayGap 22 = .ok (.ladd, 1) := by decide +kernel
theorem dX4_mayGap_23 : decode cX4_mayGap 23 = .ok (.ldc2_w 85, 3) := by decide +kernel
theorem dX4_mayGap_26 : decode cX4_mayGap 26 = .ok (.lcmp, 1) := by decide +kernel
theorem dX4_mayGap_27 : decode cX4_mayGap 27 = .ok (.ifCond .gt 7, 3) := by decide +kernel
theorem dX4_mayGap_30 : decode cX4_mayGap 30 = .ok (.iconst 1, 1) := by decide +kernel
theorem dX4_mayGap_31 : decode cX4_mayGap 31 = .ok (.goto 4, 3) := by decide +kernel
theorem dX4_mayGap_34 : decode cX4_mayGap 34 = .ok (.iconst 0, 1) := by decide +kernel
theorem dX4_mayGap_35 : decode cX4_mayGap 35 = .ok (.ireturn, 1) := by decide +kernel
set_option maxRecDepth 20000 in
theorem ggX4_gaps_X4_less : GoodIn wsX4_gaps wsX4_less := goodIn_r _ [7] (by decide +kernel) (by decide +kernel)
set_option maxRecDepth 20000 in
theorem gX4_gaps_X4_less : GoodIn wsX4_gaps (va_wsS RX4 87 yX4_less wsX4_less) := goodIn_app (goodIn_of _ (by decide +kernel)) ggX4_gaps_X4_less
set_option maxRecDepth 20000 in
theorem ggX4_gaps_X4_runs : GoodIn wsX4_gaps wsX4_runs := goodIn_r _ [11, 1, 12, 22, 23, 24, 25, 26, 27, 28, 29, 30, 31, 32, 33, 34, 35, 36, 37, 38] (by decide +kernel) (by decide +kernel)
set_option maxRecDepth 20000 in
theorem gX4_gaps_X4_runs : GoodIn wsX4_gaps (wsV RX4 91 RX4 yX4_runs wsX4_runs) := goodIn_app (goodIn_of _ (by decide +kernel)) ggX4_gaps_X4_runs
set_option maxRecDepth 20000 in
theorem ggX4_gaps_X4_step : GoodIn wsX4_gaps wsX4_step := goodIn_r _ [16, 1, 17, 18, 19, 6, 20, 21, 22, 23, 24, 25, 26, 27, 28, 29, 30, 31, 32, 33, 34, 35, 36, 37, 38] (by decide +kernel) (by decide +kernel)
set_option maxRecDepth 20000 in
theorem gX4_gaps_X4_step : GoodIn wsX4_gaps (wsV RX4 95 RX4 yX4_step wsX4_step) := goodIn_app (goodIn_of _ (by decide +kernel)) ggX4_gaps_X4_step
theorem dX4_gaps_0 : decode cX4_gaps 0 = .ok (.aload_n 0, 1) := by decide +kernel
theorem dX4_gaps_1 : decode cX4_gaps 1 = .ok (.getfield 13, 3) := by decide +kernel
theorem dX4_gaps_4 : decode cX4_gaps 4 = .ok (.iconst 0, 1) := by decide +kernel
theorem dX4_gaps_5 : decode cX4_gaps 5 = .ok (.aload_n 0, 1) := by decide +kernel
theorem dX4_gaps_6 : decode cX4_gaps 6 = .ok (.getfield 13, 3) := by decide +kernel
theorem dX4_gaps_9 : decode cX4_gaps 9 = .ok (.iconst 0, 1) := by decide +kernel
theorem dX4_gaps_10 : decode cX4_gaps 10 = .ok (.laload, 1) := by decide +kernel
theorem dX4_gaps_11 : decode cX4_gaps 11 = .ok (.aload_n 0, 1) := by decide +kernel
theorem dX4_gaps_12 : decode cX4_gaps 12 = .ok (.getfield 34, 3) := by decide +kernel
theorem dX4_gaps_15 : decode cX4_gaps 15 = .ok (.i2l, 1) := by decide +kernel
theorem dX4_gaps_16 : decode cX4_gaps 16 = .ok (.iload_n 1, 1) := by decide +kernel
theorem dX4_gaps_17 : decode cX4_gaps 17 = .ok (.i2l, 1) := by decide +kernel
theorem dX4_gaps_18 : decode cX4_gaps 18 = .ok (.lmul, 1) := by decide +kernel
theorem dX4_gaps_19 : decode cX4_gaps 19 = .ok (.invokestatic 87, 3) := by decide +kernel
theorem dX4_gaps_22 : decode cX4_gaps 22 = .ok (.lastore, 1) := by decide +kernel
theorem dX4_gaps_23 : decode cX4_gaps 23 = .ok (.aload_n 0, 1) := by decide +kernel
theorem dX4_gaps_24 : decode cX4_gaps 24 = .ok (.lconst 0, 1) := by decide +kernel
theorem dX4_gaps_25 : decode cX4_gaps 25 = .ok (.aload_n 0, 1) := by decide +kernel
theorem dX4_gaps_26 : decode cX4_gaps 26 = .ok (.getfield 31, 3) := by decide +kernel
theorem dX4_gaps_29 : decode cX4_gaps 29 = .ok (.i2l, 1) := by decide +kernel
theorem dX4_gaps_30 : decode cX4_gaps 30 = .ok (.iload_n 1, 1) := by decide +kernel
theorem dX4_gaps_31 : decode cX4_gaps 31 = .ok (.i2l, 1) := by decide +kernel
theorem dX4_gaps_32 : decode cX4_gaps 32 = .ok (.lmul, 1) := by decide +kernel
theorem dX4_gaps_33 : decode cX4_gaps 33 = .ok (.lconst 0, 1) := by decide +kernel
theorem dX4_gaps_34 : decode cX4_gaps 34 = .ok (.aload_n 0, 1) := by decide +kernel
theorem dX4_gaps_35 : decode cX4_gaps 35 = .ok (.getfield 34, 3) := by decide +kernel
theorem dX4_gaps_38 : decode cX4_gaps 38 = .ok (.i2l, 1) := by decide +kernel
theorem dX4_gaps_39 : decode cX4_gaps 39 = .ok (.iload_n 1, 1) := by decide +kernel
theorem dX4_gaps_40 : decode cX4_gaps 40 = .ok (.i2l, 1) := by decide +kernel
