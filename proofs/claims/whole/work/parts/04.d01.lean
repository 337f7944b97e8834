theorem dX1_read_60 : decode cX1_read 60 = .ok (.aload_n 0, 1) := by decide +kernel
theorem dX1_read_61 : decode cX1_read 61 = .ok (.getfield 27, 3) := by decide +kernel
theorem dX1_read_64 : decode cX1_read 64 = .ok (.if_icmp .gt 33, 3) := by decide +kernel
theorem dX1_read_67 : decode cX1_read 67 = .ok (.aload_n 0, 1) := by decide +kernel
theorem dX1_read_68 : decode cX1_read 68 = .ok (.getfield 11, 3) := by decide +kernel
theorem dX1_read_71 : decode cX1_read 71 = .ok (.iload_n 3, 1) := by decide +kernel
theorem dX1_read_72 : decode cX1_read 72 = .ok (.aload_n 1, 1) := by decide +kernel
theorem dX1_read_73 : decode cX1_read 73 = .ok (.getfield 39, 3) := by decide +kernel
theorem dX1_read_76 : decode cX1_read 76 = .ok (.iconst 2, 1) := by decide +kernel
theorem dX1_read_77 : decode cX1_read 77 = .ok (.iload_n 3, 1) := by decide +kernel
theorem dX1_read_78 : decode cX1_read 78 = .ok (.imul, 1) := by decide +kernel
theorem dX1_read_79 : decode cX1_read 79 = .ok (.iaload, 1) := by decide +kernel
theorem dX1_read_80 : decode cX1_read 80 = .ok (.iload_n 2, 1) := by decide +kernel
theorem dX1_read_81 : decode cX1_read 81 = .ok (.imul, 1) := by decide +kernel
theorem dX1_read_82 : decode cX1_read 82 = .ok (.sipush 999, 3) := by decide +kernel
theorem dX1_read_85 : decode cX1_read 85 = .ok (.iadd, 1) := by decide +kernel
theorem dX1_read_86 : decode cX1_read 86 = .ok (.sipush 1000, 3) := by decide +kernel
theorem dX1_read_89 : decode cX1_read 89 = .ok (.idiv, 1) := by decide +kernel
theorem dX1_read_90 : decode cX1_read 90 = .ok (.iastore, 1) := by decide +kernel
theorem dX1_read_91 : decode cX1_read 91 = .ok (.iinc 3 1, 3) := by decide +kernel
theorem dX1_read_94 : decode cX1_read 94 = .ok (.goto (-35), 3) := by decide +kernel
theorem dX1_read_97 : decode cX1_read 97 = .ok (.iconst 0, 1) := by decide +kernel
theorem dX1_read_98 : decode cX1_read 98 = .ok (.istore_n 3, 1) := by decide +kernel
theorem dX1_read_99 : decode cX1_read 99 = .ok (.iload_n 3, 1) := by decide +kernel
theorem dX1_read_100 : decode cX1_read 100 = .ok (.aload_n 0, 1) := by decide +kernel
theorem dX1_read_101 : decode cX1_read 101 = .ok (.getfield 27, 3) := by decide +kernel
theorem dX1_read_104 : decode cX1_read 104 = .ok (.if_icmp .ge 25, 3) := by decide +kernel
theorem dX1_read_107 : decode cX1_read 107 = .ok (.aload_n 0, 1) := by decide +kernel
theorem dX1_read_108 : decode cX1_read 108 = .ok (.getfield 15, 3) := by decide +kernel
theorem dX1_read_111 : decode cX1_read 111 = .ok (.iload_n 3, 1) := by decide +kernel
theorem dX1_read_112 : decode cX1_read 112 = .ok (.aload_n 1, 1) := by decide +kernel
theorem dX1_read_113 : decode cX1_read 113 = .ok (.getfield 39, 3) := by decide +kernel
theorem dX1_read_116 : decode cX1_read 116 = .ok (.iconst 2, 1) := by decide +kernel
theorem dX1_read_117 : decode cX1_read 117 = .ok (.iload_n 3, 1) := by decide +kernel
theorem dX1_read_118 : decode cX1_read 118 = .ok (.imul, 1) := by decide +kernel
theorem dX1_read_119 : decode cX1_read 119 = .ok (.iconst 1, 1) := by decide +kernel
theorem dX1_read_120 : decode cX1_read 120 = .ok (.iadd, 1) := by decide +kernel
theorem dX1_read_121 : decode cX1_read 121 = .ok (.iaload, 1) := by decide +kernel
theorem dX1_read_122 : decode cX1_read 122 = .ok (.iastore, 1) := by decide +kernel
theorem dX1_read_123 : decode cX1_read 123 = .ok (.iinc 3 1, 3) := by decide +kernel
theorem dX1_read_126 : decode cX1_read 126 = .ok (.goto (-27), 3) := by decide +kernel
theorem dX1_read_129 : decode cX1_read 129 = .ok (.iconst 1, 1) := by decide +kernel
theorem dX1_read_130 : decode cX1_read 130 = .ok (.ireturn, 1) := by decide +kernel
set_option maxRecDepth 20000 in
theorem ggX1_reckon_X1_reckonBackwards : GoodIn wsX1_reckon wsX1_reckonBackwards := goodIn_r _ [12, 6, 13, 14, 15, 16, 11, 17, 5, 18, 7, 19, 29, 30, 31, 32, 33, 34, 35] (by decide +kernel) (by decide +kernel)
set_option maxRecDepth 20000 in
theorem gX1_reckon_X1_reckonBackwards : GoodIn wsX1_reckon (wsV RX1 48 RX1 yX1_reckonBackwards wsX1_reckonBackwards) := goodIn_app (goodIn_of _ (by decide +kernel)) ggX1_reckon_X1_reckonBackwards
set_option maxRecDepth 20000 in
theorem ggX1_reckon_X1_buyForwards : GoodIn wsX1_reckon wsX1_buyForwards := goodIn_r _ [23, 13, 19, 24, 5, 25, 26, 27, 28, 29, 30, 31, 32, 33, 34, 35] (by decide +kernel) (by decide +kernel)
set_option maxRecDepth 20000 in
theorem gX1_reckon_X1_buyForwards : GoodIn wsX1_reckon (wsV RX1 53 RX1 yX1_buyForwards wsX1_buyForwards) := goodIn_app (goodIn_of _ (by decide +kernel)) ggX1_reckon_X1_buyForwards
theorem dX1_reckon_0 : decode cX1_reckon 0 = .ok (.iload_n 2, 1) := by decide +kernel
theorem dX1_reckon_1 : decode cX1_reckon 1 = .ok (.bipush 120, 2) := by decide +kernel
theorem dX1_reckon_3 : decode cX1_reckon 3 = .ok (.invokestatic 42, 3) := by decide +kernel
theorem dX1_reckon_6 : decode cX1_reckon 6 = .ok (.istore_n 3, 1) := by decide +kernel
theorem dX1_reckon_7 : decode cX1_reckon 7 = .ok (.iload_n 1, 1) := by decide +kernel
theorem dX1_reckon_8 : decode cX1_reckon 8 = .ok (.iload_n 3, 1) := by decide +kernel
theorem dX1_reckon_9 : decode cX1_reckon 9 = .ok (.invokestatic 42, 3) := by decide +kernel
theorem dX1_reckon_12 : decode cX1_reckon 12 = .ok (.aload_n 0, 1) := by decide +kernel
theorem dX1_reckon_13 : decode cX1_reckon 13 = .ok (.getfield 11, 3) := by decide +kernel
theorem dX1_reckon_16 : decode cX1_reckon 16 = .ok (.iconst 0, 1) := by decide +kernel
theorem dX1_reckon_17 : decode cX1_reckon 17 = .ok (.iaload, 1) := by decide +kernel
theorem dX1_reckon_18 : decode cX1_reckon 18 = .ok (.isub, 1) := by decide +kernel
theorem dX1_reckon_19 : decode cX1_reckon 19 = .ok (.istore 4, 2) := by decide +kernel
theorem dX1_reckon_21 : decode cX1_reckon 21 = .ok (.iload 4, 2) := by decide +kernel
theorem dX1_reckon_23 : decode cX1_reckon 23 = .ok (.ifCond .ge 5, 3) := by decide +kernel
theorem dX1_reckon_26 : decode cX1_reckon 26 = .ok (.iconst (-1), 1) := by decide +kernel
theorem dX1_reckon_27 : decode cX1_reckon 27 = .ok (.ireturn, 1) := by decide +kernel
theorem dX1_reckon_28 : decode cX1_reckon 28 = .ok (.aload_n 0, 1) := by decide +kernel
theorem dX1_reckon_29 : decode cX1_reckon 29 = .ok (.iload_n 3, 1) := by decide +kernel
theorem dX1_reckon_30 : decode cX1_reckon 30 = .ok (.invokevirtual 48, 3) := by decide +kernel
theorem dX1_reckon_33 : decode cX1_reckon 33 = .ok (.aload_n 0, 1) := by decide +kernel
theorem dX1_reckon_34 : decode cX1_reckon 34 = .ok (.getfield 18, 3) := by decide +kernel
theorem dX1_reckon_37 : decode cX1_reckon 37 = .ok (.iload 4, 2) := by decide +kernel
theorem dX1_reckon_39 : decode cX1_reckon 39 = .ok (.iaload, 1) := by decide +kernel
theorem dX1_reckon_40 : decode cX1_reckon 40 = .ok (.istore 5, 2) := by decide +kernel
theorem dX1_reckon_42 : decode cX1_reckon 42 = .ok (.iload 5, 2) := by decide +kernel
theorem dX1_reckon_44 : decode cX1_reckon 44 = .ok (.ldc 52, 2) := by decide +kernel
theorem dX1_reckon_46 : decode cX1_reckon 46 = .ok (.if_icmp .lt 5, 3) := by decide +kernel
theorem dX1_reckon_49 : decode cX1_reckon 49 = .ok (.iconst (-1), 1) := by decide +kernel
theorem dX1_reckon_50 : decode cX1_reckon 50 = .ok (.ireturn, 1) := by decide +kernel
theorem dX1_reckon_51 : decode cX1_reckon 51 = .ok (.aload_n 0, 1) := by decide +kernel
theorem dX1_reckon_52 : decode cX1_reckon 52 = .ok (.iload 4, 2) := by decide +kernel
theorem dX1_reckon_54 : decode cX1_reckon 54 = .ok (.invokevirtual 53, 3) := by decide +kernel
theorem dX1_reckon_57 : decode cX1_reckon 57 = .ok (.iload 5, 2) := by decide +kernel
theorem dX1_reckon_59 : decode cX1_reckon 59 = .ok (.ireturn, 1) := by decide +kernel
set_option maxRecDepth 20000 in
theorem ggX1_reckonBackwards_X1_reckonStation : GoodIn wsX1_reckonBackwards wsX1_reckonStation := goodIn_r _ [7, 8, 9, 10, 1, 11, 12, 13, 14, 15, 16, 17, 18] (by decide +kernel) (by decide +kernel)
set_option maxRecDepth 20000 in
theorem gX1_reckonBackwards_X1_reckonStation : GoodIn wsX1_reckonBackwards (wsV RX1 56 RX1 yX1_reckonStation wsX1_reckonStation) := goodIn_app (goodIn_of _ (by decide +kernel)) ggX1_reckonBackwards_X1_reckonStation
theorem dX1_reckonBackwards_0 : decode cX1_reckonBackwards 0 = .ok (.iconst 0, 1) := by decide +kernel
theorem dX1_reckonBackwards_1 : decode cX1_reckonBackwards 1 = .ok (.istore_n 2, 1) := by decide +kernel
theorem dX1_reckonBackwards_2 : decode cX1_reckonBackwards 2 = .ok (.iload_n 2, 1) := by decide +kernel
theorem dX1_reckonBackwards_3 : decode cX1_reckonBackwards 3 = .ok (.iload_n 1, 1) := by decide +kernel
theorem dX1_reckonBackwards_4 : decode cX1_reckonBackwards 4 = .ok (.if_icmp .gt 16, 3) := by decide +kernel
theorem dX1_reckonBackwards_7 : decode cX1_reckonBackwards 7 = .ok (.aload_n 0, 1) := by decide +kernel
theorem dX1_reckonBackwards_8 : decode cX1_reckonBackwards 8 = .ok (.getfield 18, 3) := by decide +kernel
theorem dX1_reckonBackwards_11 : decode cX1_reckonBackwards 11 = .ok (.iload_n 2, 1) := by decide +kernel
theorem dX1_reckonBackwards_12 : decode cX1_reckonBackwards 12 = .ok (.iconst 0, 1) := by decide +kernel
theorem dX1_reckonBackwards_13 : decode cX1_reckonBackwards 13 = .ok (.iastore, 1) := by decide +kernel
theorem dX1_reckonBackwards_14 : decode cX1_reckonBackwards 14 = .ok (.iinc 2 1, 3) := by decide +kernel
theorem dX1_reckonBackwards_17 : decode cX1_reckonBackwards 17 = .ok (.goto (-15), 3) := by decide +kernel
theorem dX1_reckonBackwards_20 : decode cX1_reckonBackwards 20 = .ok (.aload_n 0, 1) := by decide +kernel
theorem dX1_reckonBackwards_21 : decode cX1_reckonBackwards 21 = .ok (.getfield 27, 3) := by decide +kernel
theorem dX1_reckonBackwards_24 : decode cX1_reckonBackwards 24 = .ok (.iconst 1, 1) := by decide +kernel
theorem dX1_reckonBackwards_25 : decode cX1_reckonBackwards 25 = .ok (.isub, 1) := by decide +kernel
theorem dX1_reckonBackwards_26 : decode cX1_reckonBackwards 26 = .ok (.istore_n 2, 1) := by decide +kernel
theorem dX1_reckonBackwards_27 : decode cX1_reckonBackwards 27 = .ok (.iload_n 2, 1) := by decide +kernel
theorem dX1_reckonBackwards_28 : decode cX1_reckonBackwards 28 = .ok (.ifCond .lt 15, 3) := by decide +kernel
theorem dX1_reckonBackwards_31 : decode cX1_reckonBackwards 31 = .ok (.aload_n 0, 1) := by decide +kernel
theorem dX1_reckonBackwards_32 : decode cX1_reckonBackwards 32 = .ok (.iload_n 2, 1) := by decide +kernel
theorem dX1_reckonBackwards_33 : decode cX1_reckonBackwards 33 = .ok (.iload_n 1, 1) := by decide +kernel
theorem dX1_reckonBackwards_34 : decode cX1_reckonBackwards 34 = .ok (.invokevirtual 56, 3) := by decide +kernel
theorem dX1_reckonBackwards_37 : decode cX1_reckonBackwards 37 = .ok (.iinc 2 (-1), 3) := by decide +kernel
theorem dX1_reckonBackwards_40 : decode cX1_reckonBackwards 40 = .ok (.goto (-13), 3) := by decide +kernel
theorem dX1_reckonBackwards_43 : decode cX1_reckonBackwards 43 = .ok (.return_, 1) := by decide +kernel
theorem dX1_reckonStation_0 : decode cX1_reckonStation 0 = .ok (.aload_n 0, 1) := by decide +kernel
theorem dX1_reckonStation_1 : decode cX1_reckonStation 1 = .ok (.getfield 11, 3) := by decide +kernel
theorem dX1_reckonStation_4 : decode cX1_reckonStation 4 = .ok (.iload_n 1, 1) := by decide +kernel
theorem dX1_reckonStation_5 : decode cX1_reckonStation 5 = .ok (.iconst 1, 1) := by decide +kernel
theorem dX1_reckonStation_6 : decode cX1_reckonStation 6 = .ok (.iadd, 1) := by decide +kernel
theorem dX1_reckonStation_7 : decode cX1_reckonStation 7 = .ok (.iaload, 1) := by decide +kernel
theorem dX1_reckonStation_8 : decode cX1_reckonStation 8 = .ok (.istore_n 3, 1) := by decide +kernel
theorem dX1_reckonStation_9 : decode cX1_reckonStation 9 = .ok (.aload_n 0, 1) := by decide +kernel
theorem dX1_reckonStation_10 : decode cX1_reckonStation 10 = .ok (.getfield 15, 3) := by decide +kernel
theorem dX1_reckonStation_13 : decode cX1_reckonStation 13 = .ok (.iload_n 1, 1) := by decide +kernel
theorem dX1_reckonStation_14 : decode cX1_reckonStation 14 = .ok (.iaload, 1) := by decide +kernel
theorem dX1_reckonStation_15 : decode cX1_reckonStation 15 = .ok (.istore 4, 2) := by decide +kernel
theorem dX1_reckonStation_17 : decode cX1_reckonStation 17 = .ok (.iload_n 1, 1) := by decide +kernel
theorem dX1_reckonStation_18 : decode cX1_reckonStation 18 = .ok (.bipush 121, 2) := by decide +kernel
theorem dX1_reckonStation_20 : decode cX1_reckonStation 20 = .ok (.imul, 1) := by decide +kernel
theorem dX1_reckonStation_21 : decode cX1_reckonStation 21 = .ok (.istore 5, 2) := by decide +kernel
theorem dX1_reckonStation_23 : decode cX1_reckonStation 23 = .ok (.ldc 52, 2) := by decide +kernel
theorem dX1_reckonStation_25 : decode cX1_reckonStation 25 = .ok (.istore 6, 2) := by decide +kernel
theorem dX1_reckonStation_27 : decode cX1_reckonStation 27 = .ok (.iload_n 2, 1) := by decide +kernel
theorem dX1_reckonStation_28 : decode cX1_reckonStation 28 = .ok (.istore 7, 2) := by decide +kernel
theorem dX1_reckonStation_30 : decode cX1_reckonStation 30 = .ok (.iload_n 2, 1) := by decide +kernel
theorem dX1_reckonStation_31 : decode cX1_reckonStation 31 = .ok (.istore 8, 2) := by decide +kernel
theorem dX1_reckonStation_33 : decode cX1_reckonStation 33 = .ok (.iload 8, 2) := by decide +kernel
theorem dX1_reckonStation_35 : decode cX1_reckonStation 35 = .ok (.ifCond .lt 104, 3) := by decide +kernel
theorem dX1_reckonStation_38 : decode cX1_reckonStation 38 = .ok (.iload 8, 2) := by decide +kernel
theorem dX1_reckonStation_40 : decode cX1_reckonStation 40 = .ok (.iload_n 3, 1) := by decide +kernel
theorem dX1_reckonStation_41 : decode cX1_reckonStation 41 = .ok (.if_icmp .lt 15, 3) := by decide +kernel
theorem dX1_reckonStation_44 : decode cX1_reckonStation 44 = .ok (.aload_n 0, 1) := by decide +kernel
theorem dX1_reckonStation_45 : decode cX1_reckonStation 45 = .ok (.getfield 18, 3) := by decide +kernel
theorem dX1_reckonStation_48 : decode cX1_reckonStation 48 = .ok (.iload 8, 2) := by decide +kernel
theorem dX1_reckonStation_50 : decode cX1_reckonStation 50 = .ok (.iload_n 3, 1) := by decide +kernel
theorem dX1_reckonStation_51 : decode cX1_reckonStation 51 = .ok (.isub, 1) := by decide +kernel
theorem dX1_reckonStation_52 : decode cX1_reckonStation 52 = .ok (.iaload, 1) := by decide +kernel
theorem dX1_reckonStation_53 : decode cX1_reckonStation 53 = .ok (.goto 5, 3) := by decide +kernel
theorem dX1_reckonStation_56 : decode cX1_reckonStation 56 = .ok (.ldc 52, 2) := by decide +kernel
theorem dX1_reckonStation_58 : decode cX1_reckonStation 58 = .ok (.istore 9, 2) := by decide +kernel
theorem dX1_reckonStation_60 : decode cX1_reckonStation 60 = .ok (.iload 9, 2) := by decide +kernel
theorem dX1_reckonStation_62 : decode cX1_reckonStation 62 = .ok (.ldc 52, 2) := by decide +kernel
theorem dX1_reckonStation_64 : decode cX1_reckonStation 64 = .ok (.if_icmp .ge 30, 3) := by decide +kernel
theorem dX1_reckonStation_67 : decode cX1_reckonStation 67 = .ok (.iload 9, 2) := by decide +kernel
theorem dX1_reckonStation_69 : decode cX1_reckonStation 69 = .ok (.iload 8, 2) := by decide +kernel
theorem dX1_reckonStation_71 : decode cX1_reckonStation 71 = .ok (.iload 4, 2) := by decide +kernel
theorem dX1_reckonStation_73 : decode cX1_reckonStation 73 = .ok (.imul, 1) := by decide +kernel
theorem dX1_reckonStation_74 : decode cX1_reckonStation 74 = .ok (.iadd, 1) := by decide +kernel
theorem dX1_reckonStation_75 : decode cX1_reckonStation 75 = .ok (.iload 6, 2) := by decide +kernel
theorem dX1_reckonStation_77 : decode cX1_reckonStation 77 = .ok (.if_icmp .gt 17, 3) := by decide +kernel
theorem dX1_reckonStation_80 : decode cX1_reckonStation 80 = .ok (.iload 9, 2) := by decide +kernel
theorem dX1_reckonStation_82 : decode cX1_reckonStation 82 = .ok (.iload 8, 2) := by decide +kernel
theorem dX1_reckonStation_84 : decode cX1_reckonStation 84 = .ok (.iload 4, 2) := by decide +kernel
theorem dX1_reckonStation_86 : decode cX1_reckonStation 86 = .ok (.imul, 1) := by decide +kernel
theorem dX1_reckonStation_87 : decode cX1_reckonStation 87 = .ok (.iadd, 1) := by decide +kernel
theorem dX1_reckonStation_88 : decode cX1_reckonStation 88 = .ok (.istore 6, 2) := by decide +kernel
theorem dX1_reckonStation_90 : decode cX1_reckonStation 90 = .ok (.iload 8, 2) := by decide +kernel
theorem dX1_reckonStation_92 : decode cX1_reckonStation 92 = .ok (.istore 7, 2) := by decide +kernel
theorem dX1_reckonStation_94 : decode cX1_reckonStation 94 = .ok (.aload_n 0, 1) := by decide +kernel
theorem dX1_reckonStation_95 : decode cX1_reckonStation 95 = .ok (.getfield 18, 3) := by decide +kernel
theorem dX1_reckonStation_98 : decode cX1_reckonStation 98 = .ok (.iload 8, 2) := by decide +kernel
theorem dX1_reckonStation_100 : decode cX1_reckonStation 100 = .ok (.iload 6, 2) := by decide +kernel
theorem dX1_reckonStation_102 : decode cX1_reckonStation 102 = .ok (.ldc 52, 2) := by decide +kernel
theorem dX1_reckonStation_104 : decode cX1_reckonStation 104 = .ok (.if_icmp .ge 14, 3) := by decide +kernel
theorem dX1_reckonStation_107 : decode cX1_reckonStation 107 = .ok (.iload 6, 2) := by decide +kernel
theorem dX1_reckonStation_109 : decode cX1_reckonStation 109 = .ok (.iload 8, 2) := by decide +kernel
theorem dX1_reckonStation_111 : decode cX1_reckonStation 111 = .ok (.iload 4, 2) := by decide +kernel
theorem dX1_reckonStation_113 : decode cX1_reckonStation 113 = .ok (.imul, 1) := by decide +kernel
theorem dX1_reckonStation_114 : decode cX1_reckonStation 114 = .ok (.isub, 1) := by decide +kernel
theorem dX1_reckonStation_115 : decode cX1_reckonStation 115 = .ok (.goto 5, 3) := by decide +kernel
theorem dX1_reckonStation_118 : decode cX1_reckonStation 118 = .ok (.ldc 52, 2) := by decide +kernel
theorem dX1_reckonStation_120 : decode cX1_reckonStation 120 = .ok (.iastore, 1) := by decide +kernel
theorem dX1_reckonStation_121 : decode cX1_reckonStation 121 = .ok (.aload_n 0, 1) := by decide +kernel
theorem dX1_reckonStation_122 : decode cX1_reckonStation 122 = .ok (.getfield 21, 3) := by decide +kernel
theorem dX1_reckonStation_125 : decode cX1_reckonStation 125 = .ok (.iload 5, 2) := by decide +kernel
theorem dX1_reckonStation_127 : decode cX1_reckonStation 127 = .ok (.iload 8, 2) := by decide +kernel
theorem dX1_reckonStation_129 : decode cX1_reckonStation 129 = .ok (.iadd, 1) := by decide +kernel
theorem dX1_reckonStation_130 : decode cX1_reckonStation 130 = .ok (.iload 7, 2) := by decide +kernel
theorem dX1_reckonStation_132 : decode cX1_reckonStation 132 = .ok (.iastore, 1) := by decide +kernel
theorem dX1_reckonStation_133 : decode cX1_reckonStation 133 = .ok (.iinc 8 (-1), 3) := by decide +kernel
theorem dX1_reckonStation_136 : decode cX1_reckonStation 136 = .ok (.goto (-103), 3) := by decide +kernel
theorem dX1_reckonStation_139 : decode cX1_reckonStation 139 = .ok (.return_, 1) := by decide +kernel
set_option maxRecDepth 20000 in
theorem ggX1_buyForwards_X3_within : GoodIn wsX1_buyForwards wsX3_within := goodIn_r _ [8] (by decide +kernel) (by decide +kernel)
set_option maxRecDepth 20000 in
theorem gX1_buyForwards_X3_within_n60 : GoodIn wsX1_buyForwards (wsX3_within) := ggX1_buyForwards_X3_within
theorem dX1_buyForwards_0 : decode cX1_buyForwards 0 = .ok (.iload_n 1, 1) := by decide +kernel
theorem dX1_buyForwards_1 : decode cX1_buyForwards 1 = .ok (.istore_n 2, 1) := by decide +kernel
theorem dX1_buyForwards_2 : decode cX1_buyForwards 2 = .ok (.iconst 0, 1) := by decide +kernel
theorem dX1_buyForwards_3 : decode cX1_buyForwards 3 = .ok (.istore_n 3, 1) := by decide +kernel
theorem dX1_buyForwards_4 : decode cX1_buyForwards 4 = .ok (.iload_n 3, 1) := by decide +kernel
theorem dX1_buyForwards_5 : decode cX1_buyForwards 5 = .ok (.aload_n 0, 1) := by decide +kernel
theorem dX1_buyForwards_6 : decode cX1_buyForwards 6 = .ok (.getfield 27, 3) := by decide +kernel
theorem dX1_buyForwards_9 : decode cX1_buyForwards 9 = .ok (.if_icmp .ge 54, 3) := by decide +kernel
theorem dX1_buyForwards_12 : decode cX1_buyForwards 12 = .ok (.iload_n 2, 1) := by decide +kernel
theorem dX1_buyForwards_13 : decode cX1_buyForwards 13 = .ok (.iconst 0, 1) := by decide +kernel
theorem dX1_buyForwards_14 : decode cX1_buyForwards 14 = .ok (.bipush 120, 2) := by decide +kernel
theorem dX1_buyForwards_16 : decode cX1_buyForwards 16 = .ok (.invokestatic 60, 3) := by decide +kernel
theorem dX1_buyForwards_19 : decode cX1_buyForwards 19 = .ok (.ifCond .eq 44, 3) := by decide +kernel
theorem dX1_buyForwards_22 : decode cX1_buyForwards 22 = .ok (.aload_n 0, 1) := by decide +kernel
theorem dX1_buyForwards_23 : decode cX1_buyForwards 23 = .ok (.getfield 21, 3) := by decide +kernel
theorem dX1_buyForwards_26 : decode cX1_buyForwards 26 = .ok (.iload_n 3, 1) := by decide +kernel
theorem dX1_buyForwards_27 : decode cX1_buyForwards 27 = .ok (.bipush 121, 2) := by decide +kernel
theorem dX1_buyForwards_29 : decode cX1_buyForwards 29 = .ok (.imul, 1) := by decide +kernel
theorem dX1_buyForwards_30 : decode cX1_buyForwards 30 = .ok (.iload_n 2, 1) := by decide +kernel
theorem dX1_buyForwards_31 : decode cX1_buyForwards 31 = .ok (.iadd, 1) := by decide +kernel
theorem dX1_buyForwards_32 : decode cX1_buyForwards 32 = .ok (.iaload, 1) := by decide +kernel
theorem dX1_buyForwards_33 : decode cX1_buyForwards 33 = .ok (.istore 4, 2) := by decide +kernel
theorem dX1_buyForwards_35 : decode cX1_buyForwards 35 = .ok (.aload_n 0, 1) := by decide +kernel
theorem dX1_buyForwards_36 : decode cX1_buyForwards 36 = .ok (.getfield 24, 3) := by decide +kernel
theorem dX1_buyForwards_39 : decode cX1_buyForwards 39 = .ok (.iload_n 3, 1) := by decide +kernel
theorem dX1_buyForwards_40 : decode cX1_buyForwards 40 = .ok (.iload 4, 2) := by decide +kernel
theorem dX1_buyForwards_42 : decode cX1_buyForwards 42 = .ok (.iload_n 2, 1) := by decide +kernel
theorem dX1_buyForwards_43 : decode cX1_buyForwards 43 = .ok (.isub, 1) := by decide +kernel
theorem dX1_buyForwards_44 : decode cX1_buyForwards 44 = .ok (.iastore, 1) := by decide +kernel
theorem dX1_buyForwards_45 : decode cX1_buyForwards 45 = .ok (.iload 4, 2) := by decide +kernel
theorem dX1_buyForwards_47 : decode cX1_buyForwards 47 = .ok (.aload_n 0, 1) := by decide +kernel
theorem dX1_buyForwards_48 : decode cX1_buyForwards 48 = .ok (.getfield 11, 3) := by decide +kernel
theorem dX1_buyForwards_51 : decode cX1_buyForwards 51 = .ok (.iload_n 3, 1) := by decide +kernel
theorem dX1_buyForwards_52 : decode cX1_buyForwards 52 = .ok (.iconst 1, 1) := by decide +kernel
theorem dX1_buyForwards_53 : decode cX1_buyForwards 53 = .ok (.iadd, 1) := by decide +kernel
theorem dX1_buyForwards_54 : decode cX1_buyForwards 54 = .ok (.iaload, 1) := by decide +kernel
theorem dX1_buyForwards_55 : decode cX1_buyForwards 55 = .ok (.isub, 1) := by decide +kernel
theorem dX1_buyForwards_56 : decode cX1_buyForwards 56 = .ok (.istore_n 2, 1) := by decide +kernel
theorem dX1_buyForwards_57 : decode cX1_buyForwards 57 = .ok (.iinc 3 1, 3) := by decide +kernel
theorem dX1_buyForwards_60 : decode cX1_buyForwards 60 = .ok (.goto (-56), 3) := by decide +kernel
theorem dX1_buyForwards_63 : decode cX1_buyForwards 63 = .ok (.aload_n 0, 1) := by decide +kernel
theorem dX1_buyForwards_64 : decode cX1_buyForwards 64 = .ok (.aload_n 0, 1) := by decide +kernel
theorem dX1_buyForwards_65 : decode cX1_buyForwards 65 = .ok (.getfield 27, 3) := by decide +kernel
theorem dX1_buyForwards_68 : decode cX1_buyForwards 68 = .ok (.putfield 31, 3) := by decide +kernel
theorem dX1_buyForwards_71 : decode cX1_buyForwards 71 = .ok (.return_, 1) := by decide +kernel
theorem dX1_boughtAt_0 : decode cX1_boughtAt 0 = .ok (.iload_n 1, 1) := by decide +kernel
theorem dX1_boughtAt_1 : decode cX1_boughtAt 1 = .ok (.ifCond .lt 20, 3) := by decide +kernel
theorem dX1_boughtAt_4 : decode cX1_boughtAt 4 = .ok (.iload_n 1, 1) := by decide +kernel
theorem dX1_boughtAt_5 : decode cX1_boughtAt 5 = .ok (.aload_n 0, 1) := by decide +kernel
theorem dX1_boughtAt_6 : decode cX1_boughtAt 6 = .ok (.getfield 31, 3) := by decide +kernel
theorem dX1_boughtAt_9 : decode cX1_boughtAt 9 = .ok (.if_icmp .ge 12, 3) := by decide +kernel
theorem dX1_boughtAt_12 : decode cX1_boughtAt 12 = .ok (.aload_n 0, 1) := by decide +kernel
theorem dX1_boughtAt_13 : decode cX1_boughtAt 13 = .ok (.getfield 24, 3) := by decide +kernel
theorem dX1_boughtAt_16 : decode cX1_boughtAt 16 = .ok (.iload_n 1, 1) := by decide +kernel
theorem dX1_boughtAt_17 : decode cX1_boughtAt 17 = .ok (.iaload, 1) := by decide +kernel
theorem dX1_boughtAt_18 : decode cX1_boughtAt 18 = .ok (.goto 4, 3) := by decide +kernel
theorem dX1_boughtAt_21 : decode cX1_boughtAt 21 = .ok (.iconst (-1), 1) := by decide +kernel
theorem dX1_boughtAt_22 : decode cX1_boughtAt 22 = .ok (.ireturn, 1) := by decide +kernel
theorem dX2_init_0 : decode cX2_init 0 = .ok (.aload_n 0, 1) := by decide +kernel
theorem dX2_init_1 : decode cX2_init 1 = .ok (.invokespecial 1, 3) := by decide +kernel
theorem dX2_init_4 : decode cX2_init 4 = .ok (.aload_n 0, 1) := by decide +kernel
theorem dX2_init_5 : decode cX2_init 5 = .ok (.bipush 60, 2) := by decide +kernel
theorem dX2_init_7 : decode cX2_init 7 = .ok (.newarray .int, 2) := by decide +kernel
theorem dX2_init_9 : decode cX2_init 9 = .ok (.putfield 9, 3) := by decide +kernel
theorem dX2_init_12 : decode cX2_init 12 = .ok (.aload_n 0, 1) := by decide +kernel
theorem dX2_init_13 : decode cX2_init 13 = .ok (.iconst 0, 1) := by decide +kernel
theorem dX2_init_14 : decode cX2_init 14 = .ok (.putfield 13, 3) := by decide +kernel
theorem dX2_init_17 : decode cX2_init 17 = .ok (.return_, 1) := by decide +kernel
theorem dX2_hasRoom_0 : decode cX2_hasRoom 0 = .ok (.aload_n 0, 1) := by decide +kernel
theorem dX2_hasRoom_1 : decode cX2_hasRoom 1 = .ok (.getfield 13, 3) := by decide +kernel
theorem dX2_hasRoom_4 : decode cX2_hasRoom 4 = .ok (.bipush 20, 2) := by decide +kernel
theorem dX2_hasRoom_6 : decode cX2_hasRoom 6 = .ok (.iadd, 1) := by decide +kernel
theorem dX2_hasRoom_7 : decode cX2_hasRoom 7 = .ok (.bipush 60, 2) := by decide +kernel
theorem dX2_hasRoom_9 : decode cX2_hasRoom 9 = .ok (.if_icmp .gt 7, 3) := by decide +kernel
theorem dX2_hasRoom_12 : decode cX2_hasRoom 12 = .ok (.iconst 1, 1) := by decide +kernel
theorem dX2_hasRoom_13 : decode cX2_hasRoom 13 = .ok (.goto 4, 3) := by decide +kernel
theorem dX2_hasRoom_16 : decode cX2_hasRoom 16 = .ok (.iconst 0, 1) := by decide +kernel
theorem dX2_hasRoom_17 : decode cX2_hasRoom 17 = .ok (.ireturn, 1) := by decide +kernel
theorem dX2_push_0 : decode cX2_push 0 = .ok (.bipush 24, 2) := by decide +kernel
theorem dX2_push_2 : decode cX2_push 2 = .ok (.istore_n 2, 1) := by decide +kernel
theorem dX2_push_3 : decode cX2_push 3 = .ok (.iload_n 2, 1) := by decide +kernel
theorem dX2_push_4 : decode cX2_push 4 = .ok (.ifCond .lt 44, 3) := by decide +kernel
theorem dX2_push_7 : decode cX2_push 7 = .ok (.aload_n 0, 1) := by decide +kernel
theorem dX2_push_8 : decode cX2_push 8 = .ok (.getfield 13, 3) := by decide +kernel
theorem dX2_push_11 : decode cX2_push 11 = .ok (.bipush 60, 2) := by decide +kernel
theorem dX2_push_13 : decode cX2_push 13 = .ok (.if_icmp .ge 35, 3) := by decide +kernel
theorem dX2_push_16 : decode cX2_push 16 = .ok (.aload_n 0, 1) := by decide +kernel
theorem dX2_push_17 : decode cX2_push 17 = .ok (.getfield 9, 3) := by decide +kernel
theorem dX2_push_20 : decode cX2_push 20 = .ok (.aload_n 0, 1) := by decide +kernel
theorem dX2_push_21 : decode cX2_push 21 = .ok (.getfield 13, 3) := by decide +kernel
theorem dX2_push_24 : decode cX2_push 24 = .ok (.iload_n 1, 1) := by decide +kernel
theorem dX2_push_25 : decode cX2_push 25 = .ok (.iload_n 2, 1) := by decide +kernel
theorem dX2_push_26 : decode cX2_push 26 = .ok (.iushr, 1) := by decide +kernel
theorem dX2_push_27 : decode cX2_push 27 = .ok (.sipush 255, 3) := by decide +kernel
theorem dX2_push_30 : decode cX2_push 30 = .ok (.iand, 1) := by decide +kernel
theorem dX2_push_31 : decode cX2_push 31 = .ok (.iastore, 1) := by decide +kernel
theorem dX2_push_32 : decode cX2_push 32 = .ok (.aload_n 0, 1) := by decide +kernel
theorem dX2_push_33 : decode cX2_push 33 = .ok (.dup, 1) := by decide +kernel
theorem dX2_push_34 : decode cX2_push 34 = .ok (.getfield 13, 3) := by decide +kernel
theorem dX2_push_37 : decode cX2_push 37 = .ok (.iconst 1, 1) := by decide +kernel
theorem dX2_push_38 : decode cX2_push 38 = .ok (.iadd, 1) := by decide +kernel
theorem dX2_push_39 : decode cX2_push 39 = .ok (.putfield 13, 3) := by decide +kernel
theorem dX2_push_42 : decode cX2_push 42 = .ok (.iinc 2 (-8), 3) := by decide +kernel
theorem dX2_push_45 : decode cX2_push 45 = .ok (.goto (-42), 3) := by decide +kernel
theorem dX2_push_48 : decode cX2_push 48 = .ok (.return_, 1) := by decide +kernel
theorem dX2_shorten_0 : decode cX2_shorten 0 = .ok (.iload_n 1, 1) := by decide +kernel
theorem dX2_shorten_1 : decode cX2_shorten 1 = .ok (.ifCond .lt 11, 3) := by decide +kernel
theorem dX2_shorten_4 : decode cX2_shorten 4 = .ok (.iload_n 1, 1) := by decide +kernel
theorem dX2_shorten_5 : decode cX2_shorten 5 = .ok (.aload_n 0, 1) := by decide +kernel
theorem dX2_shorten_6 : decode cX2_shorten 6 = .ok (.getfield 13, 3) := by decide +kernel
theorem dX2_shorten_9 : decode cX2_shorten 9 = .ok (.if_icmp .le 5, 3) := by decide +kernel
theorem dX2_shorten_12 : decode cX2_shorten 12 = .ok (.iconst 0, 1) := by decide +kernel
theorem dX2_shorten_13 : decode cX2_shorten 13 = .ok (.ireturn, 1) := by decide +kernel
theorem dX2_shorten_14 : decode cX2_shorten 14 = .ok (.aload_n 0, 1) := by decide +kernel
theorem dX2_shorten_15 : decode cX2_shorten 15 = .ok (.iload_n 1, 1) := by decide +kernel
theorem dX2_shorten_16 : decode cX2_shorten 16 = .ok (.putfield 13, 3) := by decide +kernel
theorem dX2_shorten_19 : decode cX2_shorten 19 = .ok (.iconst 1, 1) := by decide +kernel
theorem dX2_shorten_20 : decode cX2_shorten 20 = .ok (.ireturn, 1) := by decide +kernel
set_option maxRecDepth 20000 in
theorem ggX3_init_X0_init : GoodIn wsX3_init wsX0_init := goodIn_r _ [27, 28, 2, 3, 29, 30, 31, 32, 33, 64, 65, 66, 67, 68, 69, 70, 71, 72, 73, 74, 75, 76, 77, 78] (by decide +kernel) (by decide +kernel)
set_option maxRecDepth 20000 in
theorem gX3_init_X0_init_n9 : GoodIn wsX3_init (wsX0_init) := ggX3_init_X0_init
set_option maxRecDepth 20000 in
theorem ggX3_init_X2_init : GoodIn wsX3_init wsX2_init := goodIn_r _ [35, 36, 2, 3, 31, 37, 38, 91, 92] (by decide +kernel) (by decide +kernel)
set_option maxRecDepth 20000 in
theorem gX3_init_X2_init_n21 : GoodIn wsX3_init (wsX2_init) := ggX3_init_X2_init
set_option maxRecDepth 20000 in
theorem ggX3_init_X1_init : GoodIn wsX3_init wsX1_init := goodIn_r _ [40, 41, 2, 3, 31, 42, 43, 44, 45, 46, 47, 48, 93, 94, 95, 96, 97, 98, 99] (by decide +kernel) (by decide +kernel)
set_option maxRecDepth 20000 in
theorem gX3_init_X1_init_n28 : GoodIn wsX3_init (wsX1_init) := ggX3_init_X1_init
set_option maxRecDepth 20000 in
theorem ggX3_init_X0_begin : GoodIn wsX3_init wsX0_begin := goodIn_r _ [51, 52, 53, 54, 55, 56, 57, 58, 59, 60, 61, 62, 6, 63, 30, 64, 65, 66, 67, 68, 69, 70, 71, 72, 73, 74, 75, 76, 77, 78] (by decide +kernel) (by decide +kernel)
set_option maxRecDepth 20000 in
theorem gX3_init_X0_begin_n60 : GoodIn wsX3_init (wsX0_begin) := ggX3_init_X0_begin
theorem dX3_init_0 : decode cX3_init 0 = .ok (.aload_n 0, 1) := by decide +kernel
theorem dX3_init_1 : decode cX3_init 1 = .ok (.invokespecial 1, 3) := by decide +kernel
theorem dX3_init_4 : decode cX3_init 4 = .ok (.aload_n 0, 1) := by decide +kernel
theorem dX3_init_5 : decode cX3_init 5 = .ok (.new 7, 3) := by decide +kernel
theorem dX3_init_8 : decode cX3_init 8 = .ok (.dup, 1) := by decide +kernel
theorem dX3_init_9 : decode cX3_init 9 = .ok (.invokespecial 9, 3) := by decide +kernel
theorem dX3_init_12 : decode cX3_init 12 = .ok (.putfield 10, 3) := by decide +kernel
theorem dX3_init_15 : decode cX3_init 15 = .ok (.aload_n 0, 1) := by decide +kernel
theorem dX3_init_16 : decode cX3_init 16 = .ok (.new 7, 3) := by decide +kernel
theorem dX3_init_19 : decode cX3_init 19 = .ok (.dup, 1) := by decide +kernel
theorem dX3_init_20 : decode cX3_init 20 = .ok (.invokespecial 9, 3) := by decide +kernel
theorem dX3_init_23 : decode cX3_init 23 = .ok (.putfield 16, 3) := by decide +kernel
theorem dX3_init_26 : decode cX3_init 26 = .ok (.aload_n 0, 1) := by decide +kernel
theorem dX3_init_27 : decode cX3_init 27 = .ok (.new 19, 3) := by decide +kernel
theorem dX3_init_30 : decode cX3_init 30 = .ok (.dup, 1) := by decide +kernel
theorem dX3_init_31 : decode cX3_init 31 = .ok (.invokespecial 21, 3) := by decide +kernel
theorem dX3_init_34 : decode cX3_init 34 = .ok (.putfield 22, 3) := by decide +kernel
theorem dX3_init_37 : decode cX3_init 37 = .ok (.aload_n 0, 1) := by decide +kernel
theorem dX3_init_38 : decode cX3_init 38 = .ok (.new 26, 3) := by decide +kernel
theorem dX3_init_41 : decode cX3_init 41 = .ok (.dup, 1) := by decide +kernel
theorem dX3_init_42 : decode cX3_init 42 = .ok (.invokespecial 28, 3) := by decide +kernel
theorem dX3_init_45 : decode cX3_init 45 = .ok (.putfield 29, 3) := by decide +kernel
theorem dX3_init_48 : decode cX3_init 48 = .ok (.aload_n 0, 1) := by decide +kernel
theorem dX3_init_49 : decode cX3_init 49 = .ok (.ldc 33, 2) := by decide +kernel
theorem dX3_init_51 : decode cX3_init 51 = .ok (.putfield 34, 3) := by decide +kernel
theorem dX3_init_54 : decode cX3_init 54 = .ok (.aload_n 0, 1) := by decide +kernel
theorem dX3_init_55 : decode cX3_init 55 = .ok (.bipush 20, 2) := by decide +kernel
theorem dX3_init_57 : decode cX3_init 57 = .ok (.putfield 38, 3) := by decide +kernel
theorem dX3_init_60 : decode cX3_init 60 = .ok (.aload_n 0, 1) := by decide +kernel
theorem dX3_init_61 : decode cX3_init 61 = .ok (.bipush 10, 2) := by decide +kernel
theorem dX3_init_63 : decode cX3_init 63 = .ok (.putfield 41, 3) := by decide +kernel
theorem dX3_init_66 : decode cX3_init 66 = .ok (.aload_n 0, 1) := by decide +kernel
theorem dX3_init_67 : decode cX3_init 67 = .ok (.bipush 60, 2) := by decide +kernel
theorem dX3_init_69 : decode cX3_init 69 = .ok (.putfield 44, 3) := by decide +kernel
theorem dX3_init_72 : decode cX3_init 72 = .ok (.aload_n 0, 1) := by decide +kernel
theorem dX3_init_73 : decode cX3_init 73 = .ok (.bipush 10, 2) := by decide +kernel
theorem dX3_init_75 : decode cX3_init 75 = .ok (.putfield 47, 3) := by decide +kernel
theorem dX3_init_78 : decode cX3_init 78 = .ok (.aload_n 0, 1) := by decide +kernel
theorem dX3_init_79 : decode cX3_init 79 = .ok (.bipush 40, 2) := by decide +kernel
theorem dX3_init_81 : decode cX3_init 81 = .ok (.putfield 50, 3) := by decide +kernel
theorem dX3_init_84 : decode cX3_init 84 = .ok (.aload_n 0, 1) := by decide +kernel
theorem dX3_init_85 : decode cX3_init 85 = .ok (.bipush 120, 2) := by decide +kernel
theorem dX3_init_87 : decode cX3_init 87 = .ok (.putfield 53, 3) := by decide +kernel
theorem dX3_init_90 : decode cX3_init 90 = .ok (.aload_n 0, 1) := by decide +kernel
theorem dX3_init_91 : decode cX3_init 91 = .ok (.lconst 0, 1) := by decide +kernel
theorem dX3_init_92 : decode cX3_init 92 = .ok (.putfield 56, 3) := by decide +kernel
theorem dX3_init_95 : decode cX3_init 95 = .ok (.aload_n 0, 1) := by decide +kernel
theorem dX3_init_96 : decode cX3_init 96 = .ok (.getfield 10, 3) := by decide +kernel
theorem dX3_init_99 : decode cX3_init 99 = .ok (.aload_n 0, 1) := by decide +kernel
theorem dX3_init_100 : decode cX3_init 100 = .ok (.getfield 34, 3) := by decide +kernel
theorem dX3_init_103 : decode cX3_init 103 = .ok (.invokevirtual 60, 3) := by decide +kernel
theorem dX3_init_106 : decode cX3_init 106 = .ok (.aload_n 0, 1) := by decide +kernel
theorem dX3_init_107 : decode cX3_init 107 = .ok (.getfield 16, 3) := by decide +kernel
theorem dX3_init_110 : decode cX3_init 110 = .ok (.aload_n 0, 1) := by decide +kernel
theorem dX3_init_111 : decode cX3_init 111 = .ok (.getfield 34, 3) := by decide +kernel
theorem dX3_init_114 : decode cX3_init 114 = .ok (.invokevirtual 60, 3) := by decide +kernel
theorem dX3_init_117 : decode cX3_init 117 = .ok (.return_, 1) := by decide +kernel
set_option maxRecDepth 20000 in
theorem ggX3_feed_X2_hasRoom : GoodIn wsX3_feed wsX2_hasRoom := goodIn_r _ [5, 6, 23, 24] (by decide +kernel) (by decide +kernel)
set_option maxRecDepth 20000 in
theorem gX3_feed_X2_hasRoom_n64 : GoodIn wsX3_feed (wsX2_hasRoom) := ggX3_feed_X2_hasRoom
set_option maxRecDepth 20000 in
theorem ggX3_feed_X2_push : GoodIn wsX3_feed wsX2_push := goodIn_r _ [9, 6, 10, 23, 24] (by decide +kernel) (by decide +kernel)
set_option maxRecDepth 20000 in
theorem gX3_feed_X2_push_n68 : GoodIn wsX3_feed (wsX2_push) := ggX3_feed_X2_push
theorem dX3_feed_0 : decode cX3_feed 0 = .ok (.aload_n 0, 1) := by decide +kernel
theorem dX3_feed_1 : decode cX3_feed 1 = .ok (.getfield 22, 3) := by decide +kernel
theorem dX3_feed_4 : decode cX3_feed 4 = .ok (.invokevirtual 64, 3) := by decide +kernel
theorem dX3_feed_7 : decode cX3_feed 7 = .ok (.ifCond .ne 5, 3) := by decide +kernel
theorem dX3_feed_10 : decode cX3_feed 10 = .ok (.iconst (-1), 1) := by decide +kernel
theorem dX3_feed_11 : decode cX3_feed 11 = .ok (.ireturn, 1) := by decide +kernel
theorem dX3_feed_12 : decode cX3_feed 12 = .ok (.aload_n 0, 1) := by decide +kernel
theorem dX3_feed_13 : decode cX3_feed 13 = .ok (.getfield 22, 3) := by decide +kernel
theorem dX3_feed_16 : decode cX3_feed 16 = .ok (.iload_n 1, 1) := by decide +kernel
theorem dX3_feed_17 : decode cX3_feed 17 = .ok (.invokevirtual 68, 3) := by decide +kernel
theorem dX3_feed_20 : decode cX3_feed 20 = .ok (.aload_n 0, 1) := by decide +kernel
theorem dX3_feed_21 : decode cX3_feed 21 = .ok (.getfield 22, 3) := by decide +kernel
theorem dX3_feed_24 : decode cX3_feed 24 = .ok (.iload_n 2, 1) := by decide +kernel
theorem dX3_feed_25 : decode cX3_feed 25 = .ok (.invokevirtual 68, 3) := by decide +kernel
theorem dX3_feed_28 : decode cX3_feed 28 = .ok (.aload_n 0, 1) := by decide +kernel
theorem dX3_feed_29 : decode cX3_feed 29 = .ok (.getfield 22, 3) := by decide +kernel
theorem dX3_feed_32 : decode cX3_feed 32 = .ok (.iload_n 3, 1) := by decide +kernel
theorem dX3_feed_33 : decode cX3_feed 33 = .ok (.invokevirtual 68, 3) := by decide +kernel
theorem dX3_feed_36 : decode cX3_feed 36 = .ok (.aload_n 0, 1) := by decide +kernel
theorem dX3_feed_37 : decode cX3_feed 37 = .ok (.getfield 22, 3) := by decide +kernel
theorem dX3_feed_40 : decode cX3_feed 40 = .ok (.iload 4, 2) := by decide +kernel
theorem dX3_feed_42 : decode cX3_feed 42 = .ok (.invokevirtual 68, 3) := by decide +kernel
theorem dX3_feed_45 : decode cX3_feed 45 = .ok (.aload_n 0, 1) := by decide +kernel
theorem dX3_feed_46 : decode cX3_feed 46 = .ok (.getfield 22, 3) := by decide +kernel
theorem dX3_feed_49 : decode cX3_feed 49 = .ok (.iload 5, 2) := by decide +kernel
theorem dX3_feed_51 : decode cX3_feed 51 = .ok (.invokevirtual 68, 3) := by decide +kernel
theorem dX3_feed_54 : decode cX3_feed 54 = .ok (.aload_n 0, 1) := by decide +kernel
theorem dX3_feed_55 : decode cX3_feed 55 = .ok (.getfield 22, 3) := by decide +kernel
theorem dX3_feed_58 : decode cX3_feed 58 = .ok (.getfield 71, 3) := by decide +kernel
theorem dX3_feed_61 : decode cX3_feed 61 = .ok (.ireturn, 1) := by decide +kernel
set_option maxRecDepth 20000 in
theorem ggX3_end_X2_shorten : GoodIn wsX3_end wsX2_shorten := goodIn_r _ [5, 6, 19, 20] (by decide +kernel) (by decide +kernel)
set_option maxRecDepth 20000 in
theorem gX3_end_X2_shorten_n74 : GoodIn wsX3_end (wsX2_shorten) := ggX3_end_X2_shorten
theorem dX3_end_0 : decode cX3_end 0 = .ok (.aload_n 0, 1) := by decide +kernel
theorem dX3_end_1 : decode cX3_end 1 = .ok (.getfield 22, 3) := by decide +kernel
theorem dX3_end_4 : decode cX3_end 4 = .ok (.iload_n 1, 1) := by decide +kernel
theorem dX3_end_5 : decode cX3_end 5 = .ok (.invokevirtual 74, 3) := by decide +kernel
theorem dX3_end_8 : decode cX3_end 8 = .ok (.ireturn, 1) := by decide +kernel
set_option maxRecDepth 20000 in
theorem ggX3_car_X3_within : GoodIn wsX3_car wsX3_within := goodIn_r _ [11] (by decide +kernel) (by decide +kernel)
set_option maxRecDepth 20000 in
theorem gX3_car_X3_within : GoodIn wsX3_car (va_wsS RX3 79 yX3_within wsX3_within) := goodIn_app (goodIn_of _ (by decide +kernel)) ggX3_car_X3_within
set_option maxRecDepth 20000 in
theorem ggX3_car_X0_begin : GoodIn wsX3_car wsX0_begin := goodIn_r _ [15, 16, 17, 18, 19, 20, 21, 22, 23, 24, 25, 26, 13, 27, 28, 41, 42, 43, 44, 45, 46, 47, 48, 49, 50, 51, 52, 53, 54, 55] (by decide +kernel) (by decide +kernel)
set_option maxRecDepth 20000 in
theorem gX3_car_X0_begin_n60 : GoodIn wsX3_car (wsX0_begin) := ggX3_car_X0_begin
theorem dX3_car_0 : decode cX3_car 0 = .ok (.iload_n 1, 1) := by decide +kernel
theorem dX3_car_1 : decode cX3_car 1 = .ok (.sipush 1000, 3) := by decide +kernel
theorem dX3_car_4 : decode cX3_car 4 = .ok (.ldc 78, 2) := by decide +kernel
theorem dX3_car_6 : decode cX3_car 6 = .ok (.invokestatic 79, 3) := by decide +kernel
theorem dX3_car_9 : decode cX3_car 9 = .ok (.ifCond .eq 24, 3) := by decide +kernel
theorem dX3_car_12 : decode cX3_car 12 = .ok (.iload_n 2, 1) := by decide +kernel
theorem dX3_car_13 : decode cX3_car 13 = .ok (.iconst 1, 1) := by decide +kernel
theorem dX3_car_14 : decode cX3_car 14 = .ok (.sipush 1000, 3) := by decide +kernel
theorem dX3_car_17 : decode cX3_car 17 = .ok (.invokestatic 79, 3) := by decide +kernel
theorem dX3_car_20 : decode cX3_car 20 = .ok (.ifCond .eq 13, 3) := by decide +kernel
theorem dX3_car_23 : decode cX3_car 23 = .ok (.iload_n 3, 1) := by decide +kernel
theorem dX3_car_24 : decode cX3_car 24 = .ok (.iconst 0, 1) := by decide +kernel
theorem dX3_car_25 : decode cX3_car 25 = .ok (.bipush 60, 2) := by decide +kernel
theorem dX3_car_27 : decode cX3_car 27 = .ok (.invokestatic 79, 3) := by decide +kernel
theorem dX3_car_30 : decode cX3_car 30 = .ok (.ifCond .ne 5, 3) := by decide +kernel
theorem dX3_car_33 : decode cX3_car 33 = .ok (.iconst 0, 1) := by decide +kernel
theorem dX3_car_34 : decode cX3_car 34 = .ok (.ireturn, 1) := by decide +kernel
theorem dX3_car_35 : decode cX3_car 35 = .ok (.aload_n 0, 1) := by decide +kernel
theorem dX3_car_36 : decode cX3_car 36 = .ok (.iload_n 1, 1) := by decide +kernel
theorem dX3_car_37 : decode cX3_car 37 = .ok (.putfield 34, 3) := by decide +kernel
theorem dX3_car_40 : decode cX3_car 40 = .ok (.aload_n 0, 1) := by decide +kernel
theorem dX3_car_41 : decode cX3_car 41 = .ok (.iload_n 2, 1) := by decide +kernel
theorem dX3_car_42 : decode cX3_car 42 = .ok (.putfield 38, 3) := by decide +kernel
theorem dX3_car_45 : decode cX3_car 45 = .ok (.aload_n 0, 1) := by decide +kernel
theorem dX3_car_46 : decode cX3_car 46 = .ok (.iload_n 3, 1) := by decide +kernel
theorem dX3_car_47 : decode cX3_car 47 = .ok (.putfield 41, 3) := by decide +kernel
theorem dX3_car_50 : decode cX3_car 50 = .ok (.aload_n 0, 1) := by decide +kernel
theorem dX3_car_51 : decode cX3_car 51 = .ok (.lconst 0, 1) := by decide +kernel
theorem dX3_car_52 : decode cX3_car 52 = .ok (.putfield 56, 3) := by decide +kernel
theorem dX3_car_55 : decode cX3_car 55 = .ok (.aload_n 0, 1) := by decide +kernel
theorem dX3_car_56 : decode cX3_car 56 = .ok (.getfield 10, 3) := by decide +kernel
theorem dX3_car_59 : decode cX3_car 59 = .ok (.iload_n 1, 1) := by decide +kernel
theorem dX3_car_60 : decode cX3_car 60 = .ok (.invokevirtual 60, 3) := by decide +kernel
theorem dX3_car_63 : decode cX3_car 63 = .ok (.aload_n 0, 1) := by decide +kernel
theorem dX3_car_64 : decode cX3_car 64 = .ok (.getfield 16, 3) := by decide +kernel
theorem dX3_car_67 : decode cX3_car 67 = .ok (.iload_n 1, 1) := by decide +kernel
theorem dX3_car_68 : decode cX3_car 68 = .ok (.invokevirtual 60, 3) := by decide +kernel
theorem dX3_car_71 : decode cX3_car 71 = .ok (.iconst 1, 1) := by decide +kernel
theorem dX3_car_72 : decode cX3_car 72 = .ok (.ireturn, 1) := by decide +kernel
set_option maxRecDepth 20000 in
theorem ggX3_bounds_X3_checkedBounds : GoodIn wsX3_bounds wsX3_checkedBounds := goodIn_r _ [8, 9, 10, 7, 11] (by decide +kernel) (by decide +kernel)
set_option maxRecDepth 20000 in
theorem gX3_bounds_X3_checkedBounds : GoodIn wsX3_bounds (va_wsS RX3 83 yX3_checkedBounds wsX3_checkedBounds) := goodIn_app (goodIn_of _ (by decide +kernel)) ggX3_bounds_X3_checkedBounds
theorem dX3_bounds_0 : decode cX3_bounds 0 = .ok (.iload_n 1, 1) := by decide +kernel
theorem dX3_bounds_1 : decode cX3_bounds 1 = .ok (.iload_n 2, 1) := by decide +kernel
theorem dX3_bounds_2 : decode cX3_bounds 2 = .ok (.iload_n 3, 1) := by decide +kernel
theorem dX3_bounds_3 : decode cX3_bounds 3 = .ok (.iload 4, 2) := by decide +kernel
theorem dX3_bounds_5 : decode cX3_bounds 5 = .ok (.invokestatic 83, 3) := by decide +kernel
theorem dX3_bounds_8 : decode cX3_bounds 8 = .ok (.ifCond .ne 5, 3) := by decide +kernel
theorem dX3_bounds_11 : decode cX3_bounds 11 = .ok (.iconst 0, 1) := by decide +kernel
theorem dX3_bounds_12 : decode cX3_bounds 12 = .ok (.ireturn, 1) := by decide +kernel
theorem dX3_bounds_13 : decode cX3_bounds 13 = .ok (.aload_n 0, 1) := by decide +kernel
theorem dX3_bounds_14 : decode cX3_bounds 14 = .ok (.iload_n 1, 1) := by decide +kernel
theorem dX3_bounds_15 : decode cX3_bounds 15 = .ok (.putfield 44, 3) := by decide +kernel
theorem dX3_bounds_18 : decode cX3_bounds 18 = .ok (.aload_n 0, 1) := by decide +kernel
theorem dX3_bounds_19 : decode cX3_bounds 19 = .ok (.iload_n 2, 1) := by decide +kernel
theorem dX3_bounds_20 : decode cX3_bounds 20 = .ok (.putfield 47, 3) := by decide +kernel
theorem dX3_bounds_23 : decode cX3_bounds 23 = .ok (.aload_n 0, 1) := by decide +kernel
theorem dX3_bounds_24 : decode cX3_bounds 24 = .ok (.iload_n 3, 1) := by decide +kernel
theorem dX3_bounds_25 : decode cX3_bounds 25 = .ok (.putfield 50, 3) := by decide +kernel
theorem dX3_bounds_28 : decode cX3_bounds 28 = .ok (.aload_n 0, 1) := by decide +kernel
theorem dX3_bounds_29 : decode cX3_bounds 29 = .ok (.iload 4, 2) := by decide +kernel
theorem dX3_bounds_31 : decode cX3_bounds 31 = .ok (.putfield 53, 3) := by decide +kernel
theorem dX3_bounds_34 : decode cX3_bounds 34 = .ok (.iconst 1, 1) := by decide +kernel
theorem dX3_bounds_35 : decode cX3_bounds 35 = .ok (.ireturn, 1) := by decide +kernel
set_option maxRecDepth 20000 in
theorem ggX3_drive_X3_within : GoodIn wsX3_drive wsX3_within := goodIn_r _ [8] (by decide +kernel) (by decide +kernel)
set_option maxRecDepth 20000 in
theorem gX3_drive_X3_within : GoodIn wsX3_drive (va_wsS RX3 79 yX3_within wsX3_within) := goodIn_app (goodIn_of _ (by decide +kernel)) ggX3_drive_X3_within
set_option maxRecDepth 20000 in
theorem ggX3_drive_X0_pass : GoodIn wsX3_drive wsX0_pass := goodIn_r _ [12, 13, 14, 15, 51, 52, 53, 54, 55, 56, 57, 58, 59, 60, 61, 62, 63, 64, 65] (by decide +kernel) (by decide +kernel)
set_option maxRecDepth 20000 in
theorem gX3_drive_X0_pass_n90 : GoodIn wsX3_drive (wsX0_pass) := ggX3_drive_X0_pass
set_option maxRecDepth 20000 in
theorem ggX3_drive_X0_burn : GoodIn wsX3_drive wsX0_burn := goodIn_r _ [18, 19, 20, 21, 22, 23, 24, 25, 26, 51, 52, 53, 54, 55, 56, 57, 58, 59, 60, 61, 62, 63, 64, 65] (by decide +kernel) (by decide +kernel)
set_option maxRecDepth 20000 in
theorem gX3_drive_X0_burn_n94 : GoodIn wsX3_drive (wsX0_burn) := ggX3_drive_X0_burn
set_option maxRecDepth 20000 in
theorem ggX3_drive_X0_showStep : GoodIn wsX3_drive wsX0_showStep := goodIn_r _ [29, 30, 31, 32, 33, 10, 34, 22, 19, 35, 36, 37, 38, 51, 52, 53, 54, 55, 56, 57, 58, 59, 60, 61, 62, 63, 64, 65] (by decide +kernel) (by decide +kernel)
set_option maxRecDepth 20000 in
theorem gX3_drive_X0_showStep_n97 : GoodIn wsX3_drive (wsX0_showStep) := ggX3_drive_X0_showStep
theorem dX3_drive_0 : decode cX3_drive 0 = .ok (.iload_n 1, 1) := by decide +kernel
theorem dX3_drive_1 : decode cX3_drive 1 = .ok (.iconst 0, 1) := by decide +kernel
theorem dX3_drive_2 : decode cX3_drive 2 = .ok (.ldc 87, 2) := by decide +kernel
theorem dX3_drive_4 : decode cX3_drive 4 = .ok (.invokestatic 79, 3) := by decide +kernel
theorem dX3_drive_7 : decode cX3_drive 7 = .ok (.ifCond .eq 25, 3) := by decide +kernel
theorem dX3_drive_10 : decode cX3_drive 10 = .ok (.iload_n 2, 1) := by decide +kernel
theorem dX3_drive_11 : decode cX3_drive 11 = .ok (.iconst 0, 1) := by decide +kernel
theorem dX3_drive_12 : decode cX3_drive 12 = .ok (.sipush 10000, 3) := by decide +kernel
theorem dX3_drive_15 : decode cX3_drive 15 = .ok (.invokestatic 79, 3) := by decide +kernel
theorem dX3_drive_18 : decode cX3_drive 18 = .ok (.ifCond .eq 14, 3) := by decide +kernel
theorem dX3_drive_21 : decode cX3_drive 21 = .ok (.iload_n 3, 1) := by decide +kernel
theorem dX3_drive_22 : decode cX3_drive 22 = .ok (.iconst 1, 1) := by decide +kernel
theorem dX3_drive_23 : decode cX3_drive 23 = .ok (.sipush 3600, 3) := by decide +kernel
theorem dX3_drive_26 : decode cX3_drive 26 = .ok (.invokestatic 79, 3) := by decide +kernel
theorem dX3_drive_29 : decode cX3_drive 29 = .ok (.ifCond .ne 5, 3) := by decide +kernel
theorem dX3_drive_32 : decode cX3_drive 32 = .ok (.iconst 0, 1) := by decide +kernel
theorem dX3_drive_33 : decode cX3_drive 33 = .ok (.ireturn, 1) := by decide +kernel
theorem dX3_drive_34 : decode cX3_drive 34 = .ok (.aload_n 0, 1) := by decide +kernel
theorem dX3_drive_35 : decode cX3_drive 35 = .ok (.getfield 56, 3) := by decide +kernel
theorem dX3_drive_38 : decode cX3_drive 38 = .ok (.iload_n 1, 1) := by decide +kernel
theorem dX3_drive_39 : decode cX3_drive 39 = .ok (.i2l, 1) := by decide +kernel
theorem dX3_drive_40 : decode cX3_drive 40 = .ok (.ladd, 1) := by decide +kernel
theorem dX3_drive_41 : decode cX3_drive 41 = .ok (.ldc2_w 88, 3) := by decide +kernel
theorem dX3_drive_44 : decode cX3_drive 44 = .ok (.lcmp, 1) := by decide +kernel
theorem dX3_drive_45 : decode cX3_drive 45 = .ok (.ifCond .le 5, 3) := by decide +kernel
theorem dX3_drive_48 : decode cX3_drive 48 = .ok (.iconst 0, 1) := by decide +kernel
theorem dX3_drive_49 : decode cX3_drive 49 = .ok (.ireturn, 1) := by decide +kernel
theorem dX3_drive_50 : decode cX3_drive 50 = .ok (.aload_n 0, 1) := by decide +kernel
theorem dX3_drive_51 : decode cX3_drive 51 = .ok (.dup, 1) := by decide +kernel
theorem dX3_drive_52 : decode cX3_drive 52 = .ok (.getfield 56, 3) := by decide +kernel
theorem dX3_drive_55 : decode cX3_drive 55 = .ok (.iload_n 1, 1) := by decide +kernel
theorem dX3_drive_56 : decode cX3_drive 56 = .ok (.i2l, 1) := by decide +kernel
theorem dX3_drive_57 : decode cX3_drive 57 = .ok (.ladd, 1) := by decide +kernel
theorem dX3_drive_58 : decode cX3_drive 58 = .ok (.putfield 56, 3) := by decide +kernel
theorem dX3_drive_61 : decode cX3_drive 61 = .ok (.aload_n 0, 1) := by decide +kernel
theorem dX3_drive_62 : decode cX3_drive 62 = .ok (.getfield 10, 3) := by decide +kernel
theorem dX3_drive_65 : decode cX3_drive 65 = .ok (.iload_n 1, 1) := by decide +kernel
theorem dX3_drive_66 : decode cX3_drive 66 = .ok (.iload_n 1, 1) := by decide +kernel
theorem dX3_drive_67 : decode cX3_drive 67 = .ok (.iload_n 2, 1) := by decide +kernel
theorem dX3_drive_68 : decode cX3_drive 68 = .ok (.iload_n 2, 1) := by decide +kernel
theorem dX3_drive_69 : decode cX3_drive 69 = .ok (.iload_n 3, 1) := by decide +kernel
theorem dX3_drive_70 : decode cX3_drive 70 = .ok (.invokevirtual 90, 3) := by decide +kernel
theorem dX3_drive_73 : decode cX3_drive 73 = .ok (.aload_n 0, 1) := by decide +kernel
theorem dX3_drive_74 : decode cX3_drive 74 = .ok (.getfield 10, 3) := by decide +kernel
theorem dX3_drive_77 : decode cX3_drive 77 = .ok (.iload_n 2, 1) := by decide +kernel
theorem dX3_drive_78 : decode cX3_drive 78 = .ok (.invokevirtual 94, 3) := by decide +kernel
theorem dX3_drive_81 : decode cX3_drive 81 = .ok (.aload_n 0, 1) := by decide +kernel
theorem dX3_drive_82 : decode cX3_drive 82 = .ok (.getfield 10, 3) := by decide +kernel
theorem dX3_drive_85 : decode cX3_drive 85 = .ok (.invokevirtual 97, 3) := by decide +kernel
theorem dX3_drive_88 : decode cX3_drive 88 = .ok (.iconst 1, 1) := by decide +kernel
theorem dX3_drive_89 : decode cX3_drive 89 = .ok (.ireturn, 1) := by decide +kernel
set_option maxRecDepth 20000 in
theorem ggX3_gap_X3_gapFits : GoodIn wsX3_gap wsX3_gapFits := goodIn_r _ [5, 6, 7, 8, 9, 10, 11, 4, 12, 47, 48, 49, 50, 51, 52, 53, 54, 55, 56, 57, 58] (by decide +kernel) (by decide +kernel)
set_option maxRecDepth 20000 in
theorem gX3_gap_X3_gapFits : GoodIn wsX3_gap (wsV RX3 100 RX3 yX3_gapFits wsX3_gapFits) := goodIn_app (goodIn_of _ (by decide +kernel)) ggX3_gap_X3_gapFits
set_option maxRecDepth 20000 in
theorem ggX3_gap_X3_passGap : GoodIn wsX3_gap wsX3_passGap := goodIn_r _ [16, 8, 17, 7, 18, 19, 20, 21, 22, 23, 24, 25, 26, 27, 28, 29, 30, 31, 32, 33, 34, 35, 36, 37, 38, 39, 40, 41, 42, 43, 44, 45, 46, 47, 48, 49, 50, 51, 52, 53, 54, 55, 56, 57, 58, 59, 60, 61, 62, 63, 64, 65, 66, 67, 68, 69, 70, 71, 72, 73] (by decide +kernel) (by decide +kernel)
set_option maxRecDepth 20000 in
theorem gX3_gap_X3_passGap : GoodIn wsX3_gap (wsV RX3 103 RX3 yX3_passGap wsX3_passGap) := goodIn_app (goodIn_of _ (by decide +kernel)) ggX3_gap_X3_passGap
theorem dX3_gap_0 : decode cX3_gap 0 = .ok (.aload_n 0, 1) := by decide +kernel
theorem dX3_gap_1 : decode cX3_gap 1 = .ok (.iload_n 1, 1) := by decide +kernel
theorem dX3_gap_2 : decode cX3_gap 2 = .ok (.invokevirtual 100, 3) := by decide +kernel
theorem dX3_gap_5 : decode cX3_gap 5 = .ok (.ifCond .ne 5, 3) := by decide +kernel
theorem dX3_gap_8 : decode cX3_gap 8 = .ok (.iconst 0, 1) := by decide +kernel
theorem dX3_gap_9 : decode cX3_gap 9 = .ok (.ireturn, 1) := by decide +kernel
theorem dX3_gap_10 : decode cX3_gap 10 = .ok (.aload_n 0, 1) := by decide +kernel
theorem dX3_gap_11 : decode cX3_gap 11 = .ok (.iload_n 1, 1) := by decide +kernel
theorem dX3_gap_12 : decode cX3_gap 12 = .ok (.invokevirtual 103, 3) := by decide +kernel
theorem dX3_gap_15 : decode cX3_gap 15 = .ok (.iconst 1, 1) := by decide +kernel
theorem dX3_gap_16 : decode cX3_gap 16 = .ok (.ireturn, 1) := by decide +kernel
set_option maxRecDepth 20000 in
theorem ggX3_tells_X3_within : GoodIn wsX3_tells wsX3_within := goodIn_r _ [14] (by decide +kernel) (by decide +kernel)
set_option maxRecDepth 20000 in
theorem gX3_tells_X3_within : GoodIn wsX3_tells (va_wsS RX3 79 yX3_within wsX3_within) := goodIn_app (goodIn_of _ (by decide +kernel)) ggX3_tells_X3_within
set_option maxRecDepth 20000 in
theorem ggX3_tells_X0_takeRefill : GoodIn wsX3_tells wsX0_takeRefill := goodIn_r _ [18, 19, 20, 21, 22, 23, 24, 25, 26, 27, 28, 29, 30, 16, 31, 32, 33, 34, 35, 36, 37, 38, 39, 40, 41, 42, 43, 44, 45, 46, 47, 48, 49, 50, 90, 91, 92, 93, 94, 95, 96, 97, 98, 99, 100, 101, 102, 103, 104] (by decide +kernel) (by decide +kernel)
