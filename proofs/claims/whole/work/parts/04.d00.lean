theorem dX0_init_0 : decode cX0_init 0 = .ok (.aload_n 0, 1) := by decide +kernel
theorem dX0_init_1 : decode cX0_init 1 = .ok (.invokespecial 3, 3) := by decide +kernel
theorem dX0_init_4 : decode cX0_init 4 = .ok (.aload_n 0, 1) := by decide +kernel
theorem dX0_init_5 : decode cX0_init 5 = .ok (.bipush 20, 2) := by decide +kernel
theorem dX0_init_7 : decode cX0_init 7 = .ok (.newarray .long, 2) := by decide +kernel
theorem dX0_init_9 : decode cX0_init 9 = .ok (.putfield 9, 3) := by decide +kernel
theorem dX0_init_12 : decode cX0_init 12 = .ok (.aload_n 0, 1) := by decide +kernel
theorem dX0_init_13 : decode cX0_init 13 = .ok (.bipush 30, 2) := by decide +kernel
theorem dX0_init_15 : decode cX0_init 15 = .ok (.newarray .int, 2) := by decide +kernel
theorem dX0_init_17 : decode cX0_init 17 = .ok (.putfield 15, 3) := by decide +kernel
theorem dX0_init_20 : decode cX0_init 20 = .ok (.aload_n 0, 1) := by decide +kernel
theorem dX0_init_21 : decode cX0_init 21 = .ok (.bipush 30, 2) := by decide +kernel
theorem dX0_init_23 : decode cX0_init 23 = .ok (.newarray .int, 2) := by decide +kernel
theorem dX0_init_25 : decode cX0_init 25 = .ok (.putfield 19, 3) := by decide +kernel
theorem dX0_init_28 : decode cX0_init 28 = .ok (.return_, 1) := by decide +kernel
set_option maxRecDepth 20000 in
theorem ggX0_begin_X0_clearMark : GoodIn wsX0_begin wsX0_clearMark := goodIn_r _ [13, 14, 15, 16, 17, 18, 19, 20, 21, 22, 23, 24, 25, 26, 27, 28, 29] (by decide +kernel) (by decide +kernel)
set_option maxRecDepth 20000 in
theorem gX0_begin_X0_clearMark : GoodIn wsX0_begin (wsV RX0 48 RX0 yX0_clearMark wsX0_clearMark) := goodIn_app (goodIn_of _ (by decide +kernel)) ggX0_begin_X0_clearMark
theorem dX0_begin_0 : decode cX0_begin 0 = .ok (.aload_n 0, 1) := by decide +kernel
theorem dX0_begin_1 : decode cX0_begin 1 = .ok (.iconst 0, 1) := by decide +kernel
theorem dX0_begin_2 : decode cX0_begin 2 = .ok (.putfield 22, 3) := by decide +kernel
theorem dX0_begin_5 : decode cX0_begin 5 = .ok (.aload_n 0, 1) := by decide +kernel
theorem dX0_begin_6 : decode cX0_begin 6 = .ok (.iload_n 1, 1) := by decide +kernel
theorem dX0_begin_7 : decode cX0_begin 7 = .ok (.putfield 26, 3) := by decide +kernel
theorem dX0_begin_10 : decode cX0_begin 10 = .ok (.aload_n 0, 1) := by decide +kernel
theorem dX0_begin_11 : decode cX0_begin 11 = .ok (.iconst 0, 1) := by decide +kernel
theorem dX0_begin_12 : decode cX0_begin 12 = .ok (.putfield 29, 3) := by decide +kernel
theorem dX0_begin_15 : decode cX0_begin 15 = .ok (.aload_n 0, 1) := by decide +kernel
theorem dX0_begin_16 : decode cX0_begin 16 = .ok (.iconst 0, 1) := by decide +kernel
theorem dX0_begin_17 : decode cX0_begin 17 = .ok (.putfield 32, 3) := by decide +kernel
theorem dX0_begin_20 : decode cX0_begin 20 = .ok (.aload_n 0, 1) := by decide +kernel
theorem dX0_begin_21 : decode cX0_begin 21 = .ok (.iconst 0, 1) := by decide +kernel
theorem dX0_begin_22 : decode cX0_begin 22 = .ok (.putfield 35, 3) := by decide +kernel
theorem dX0_begin_25 : decode cX0_begin 25 = .ok (.aload_n 0, 1) := by decide +kernel
theorem dX0_begin_26 : decode cX0_begin 26 = .ok (.iconst 0, 1) := by decide +kernel
theorem dX0_begin_27 : decode cX0_begin 27 = .ok (.putfield 38, 3) := by decide +kernel
theorem dX0_begin_30 : decode cX0_begin 30 = .ok (.aload_n 0, 1) := by decide +kernel
theorem dX0_begin_31 : decode cX0_begin 31 = .ok (.iconst 0, 1) := by decide +kernel
theorem dX0_begin_32 : decode cX0_begin 32 = .ok (.putfield 41, 3) := by decide +kernel
theorem dX0_begin_35 : decode cX0_begin 35 = .ok (.aload_n 0, 1) := by decide +kernel
theorem dX0_begin_36 : decode cX0_begin 36 = .ok (.iconst 0, 1) := by decide +kernel
theorem dX0_begin_37 : decode cX0_begin 37 = .ok (.putfield 44, 3) := by decide +kernel
theorem dX0_begin_40 : decode cX0_begin 40 = .ok (.iconst 0, 1) := by decide +kernel
theorem dX0_begin_41 : decode cX0_begin 41 = .ok (.istore_n 2, 1) := by decide +kernel
theorem dX0_begin_42 : decode cX0_begin 42 = .ok (.iload_n 2, 1) := by decide +kernel
theorem dX0_begin_43 : decode cX0_begin 43 = .ok (.iconst 4, 1) := by decide +kernel
theorem dX0_begin_44 : decode cX0_begin 44 = .ok (.if_icmp .ge 14, 3) := by decide +kernel
theorem dX0_begin_47 : decode cX0_begin 47 = .ok (.aload_n 0, 1) := by decide +kernel
theorem dX0_begin_48 : decode cX0_begin 48 = .ok (.iload_n 2, 1) := by decide +kernel
theorem dX0_begin_49 : decode cX0_begin 49 = .ok (.invokevirtual 48, 3) := by decide +kernel
theorem dX0_begin_52 : decode cX0_begin 52 = .ok (.iinc 2 1, 3) := by decide +kernel
theorem dX0_begin_55 : decode cX0_begin 55 = .ok (.goto (-13), 3) := by decide +kernel
theorem dX0_begin_58 : decode cX0_begin 58 = .ok (.return_, 1) := by decide +kernel
theorem dX0_copyFrom_0 : decode cX0_copyFrom 0 = .ok (.aload_n 0, 1) := by decide +kernel
theorem dX0_copyFrom_1 : decode cX0_copyFrom 1 = .ok (.aload_n 1, 1) := by decide +kernel
theorem dX0_copyFrom_2 : decode cX0_copyFrom 2 = .ok (.getfield 22, 3) := by decide +kernel
theorem dX0_copyFrom_5 : decode cX0_copyFrom 5 = .ok (.putfield 22, 3) := by decide +kernel
theorem dX0_copyFrom_8 : decode cX0_copyFrom 8 = .ok (.aload_n 0, 1) := by decide +kernel
theorem dX0_copyFrom_9 : decode cX0_copyFrom 9 = .ok (.aload_n 1, 1) := by decide +kernel
theorem dX0_copyFrom_10 : decode cX0_copyFrom 10 = .ok (.getfield 26, 3) := by decide +kernel
theorem dX0_copyFrom_13 : decode cX0_copyFrom 13 = .ok (.putfield 26, 3) := by decide +kernel
theorem dX0_copyFrom_16 : decode cX0_copyFrom 16 = .ok (.aload_n 0, 1) := by decide +kernel
theorem dX0_copyFrom_17 : decode cX0_copyFrom 17 = .ok (.aload_n 1, 1) := by decide +kernel
theorem dX0_copyFrom_18 : decode cX0_copyFrom 18 = .ok (.getfield 29, 3) := by decide +kernel
theorem dX0_copyFrom_21 : decode cX0_copyFrom 21 = .ok (.putfield 29, 3) := by decide +kernel
theorem dX0_copyFrom_24 : decode cX0_copyFrom 24 = .ok (.aload_n 0, 1) := by decide +kernel
theorem dX0_copyFrom_25 : decode cX0_copyFrom 25 = .ok (.aload_n 1, 1) := by decide +kernel
theorem dX0_copyFrom_26 : decode cX0_copyFrom 26 = .ok (.getfield 32, 3) := by decide +kernel
theorem dX0_copyFrom_29 : decode cX0_copyFrom 29 = .ok (.putfield 32, 3) := by decide +kernel
theorem dX0_copyFrom_32 : decode cX0_copyFrom 32 = .ok (.aload_n 0, 1) := by decide +kernel
theorem dX0_copyFrom_33 : decode cX0_copyFrom 33 = .ok (.aload_n 1, 1) := by decide +kernel
theorem dX0_copyFrom_34 : decode cX0_copyFrom 34 = .ok (.getfield 35, 3) := by decide +kernel
theorem dX0_copyFrom_37 : decode cX0_copyFrom 37 = .ok (.putfield 35, 3) := by decide +kernel
theorem dX0_copyFrom_40 : decode cX0_copyFrom 40 = .ok (.aload_n 0, 1) := by decide +kernel
theorem dX0_copyFrom_41 : decode cX0_copyFrom 41 = .ok (.aload_n 1, 1) := by decide +kernel
theorem dX0_copyFrom_42 : decode cX0_copyFrom 42 = .ok (.getfield 38, 3) := by decide +kernel
theorem dX0_copyFrom_45 : decode cX0_copyFrom 45 = .ok (.putfield 38, 3) := by decide +kernel
theorem dX0_copyFrom_48 : decode cX0_copyFrom 48 = .ok (.aload_n 0, 1) := by decide +kernel
theorem dX0_copyFrom_49 : decode cX0_copyFrom 49 = .ok (.aload_n 1, 1) := by decide +kernel
theorem dX0_copyFrom_50 : decode cX0_copyFrom 50 = .ok (.getfield 41, 3) := by decide +kernel
theorem dX0_copyFrom_53 : decode cX0_copyFrom 53 = .ok (.putfield 41, 3) := by decide +kernel
theorem dX0_copyFrom_56 : decode cX0_copyFrom 56 = .ok (.aload_n 0, 1) := by decide +kernel
theorem dX0_copyFrom_57 : decode cX0_copyFrom 57 = .ok (.aload_n 1, 1) := by decide +kernel
theorem dX0_copyFrom_58 : decode cX0_copyFrom 58 = .ok (.getfield 44, 3) := by decide +kernel
theorem dX0_copyFrom_61 : decode cX0_copyFrom 61 = .ok (.putfield 44, 3) := by decide +kernel
theorem dX0_copyFrom_64 : decode cX0_copyFrom 64 = .ok (.aload_n 0, 1) := by decide +kernel
theorem dX0_copyFrom_65 : decode cX0_copyFrom 65 = .ok (.aload_n 1, 1) := by decide +kernel
theorem dX0_copyFrom_66 : decode cX0_copyFrom 66 = .ok (.getfield 52, 3) := by decide +kernel
theorem dX0_copyFrom_69 : decode cX0_copyFrom 69 = .ok (.putfield 52, 3) := by decide +kernel
theorem dX0_copyFrom_72 : decode cX0_copyFrom 72 = .ok (.aload_n 0, 1) := by decide +kernel
theorem dX0_copyFrom_73 : decode cX0_copyFrom 73 = .ok (.aload_n 1, 1) := by decide +kernel
theorem dX0_copyFrom_74 : decode cX0_copyFrom 74 = .ok (.getfield 55, 3) := by decide +kernel
theorem dX0_copyFrom_77 : decode cX0_copyFrom 77 = .ok (.putfield 55, 3) := by decide +kernel
theorem dX0_copyFrom_80 : decode cX0_copyFrom 80 = .ok (.aload_n 0, 1) := by decide +kernel
theorem dX0_copyFrom_81 : decode cX0_copyFrom 81 = .ok (.aload_n 1, 1) := by decide +kernel
theorem dX0_copyFrom_82 : decode cX0_copyFrom 82 = .ok (.getfield 58, 3) := by decide +kernel
theorem dX0_copyFrom_85 : decode cX0_copyFrom 85 = .ok (.putfield 58, 3) := by decide +kernel
theorem dX0_copyFrom_88 : decode cX0_copyFrom 88 = .ok (.aload_n 0, 1) := by decide +kernel
theorem dX0_copyFrom_89 : decode cX0_copyFrom 89 = .ok (.aload_n 1, 1) := by decide +kernel
theorem dX0_copyFrom_90 : decode cX0_copyFrom 90 = .ok (.getfield 62, 3) := by decide +kernel
theorem dX0_copyFrom_93 : decode cX0_copyFrom 93 = .ok (.putfield 62, 3) := by decide +kernel
theorem dX0_copyFrom_96 : decode cX0_copyFrom 96 = .ok (.aload_n 1, 1) := by decide +kernel
theorem dX0_copyFrom_97 : decode cX0_copyFrom 97 = .ok (.getfield 9, 3) := by decide +kernel
theorem dX0_copyFrom_100 : decode cX0_copyFrom 100 = .ok (.iconst 0, 1) := by decide +kernel
theorem dX0_copyFrom_101 : decode cX0_copyFrom 101 = .ok (.aload_n 0, 1) := by decide +kernel
theorem dX0_copyFrom_102 : decode cX0_copyFrom 102 = .ok (.getfield 9, 3) := by decide +kernel
theorem dX0_copyFrom_105 : decode cX0_copyFrom 105 = .ok (.iconst 0, 1) := by decide +kernel
theorem dX0_copyFrom_106 : decode cX0_copyFrom 106 = .ok (.bipush 20, 2) := by decide +kernel
theorem dX0_copyFrom_108 : decode cX0_copyFrom 108 = .ok (.invokestatic 65, 3) := by decide +kernel
theorem dX0_copyFrom_111 : decode cX0_copyFrom 111 = .ok (.aload_n 1, 1) := by decide +kernel
theorem dX0_copyFrom_112 : decode cX0_copyFrom 112 = .ok (.getfield 15, 3) := by decide +kernel
theorem dX0_copyFrom_115 : decode cX0_copyFrom 115 = .ok (.iconst 0, 1) := by decide +kernel
theorem dX0_copyFrom_116 : decode cX0_copyFrom 116 = .ok (.aload_n 0, 1) := by decide +kernel
theorem dX0_copyFrom_117 : decode cX0_copyFrom 117 = .ok (.getfield 15, 3) := by decide +kernel
theorem dX0_copyFrom_120 : decode cX0_copyFrom 120 = .ok (.iconst 0, 1) := by decide +kernel
theorem dX0_copyFrom_121 : decode cX0_copyFrom 121 = .ok (.bipush 30, 2) := by decide +kernel
theorem dX0_copyFrom_123 : decode cX0_copyFrom 123 = .ok (.invokestatic 65, 3) := by decide +kernel
theorem dX0_copyFrom_126 : decode cX0_copyFrom 126 = .ok (.aload_n 1, 1) := by decide +kernel
theorem dX0_copyFrom_127 : decode cX0_copyFrom 127 = .ok (.getfield 19, 3) := by decide +kernel
theorem dX0_copyFrom_130 : decode cX0_copyFrom 130 = .ok (.iconst 0, 1) := by decide +kernel
theorem dX0_copyFrom_131 : decode cX0_copyFrom 131 = .ok (.aload_n 0, 1) := by decide +kernel
theorem dX0_copyFrom_132 : decode cX0_copyFrom 132 = .ok (.getfield 19, 3) := by decide +kernel
theorem dX0_copyFrom_135 : decode cX0_copyFrom 135 = .ok (.iconst 0, 1) := by decide +kernel
theorem dX0_copyFrom_136 : decode cX0_copyFrom 136 = .ok (.bipush 30, 2) := by decide +kernel
theorem dX0_copyFrom_138 : decode cX0_copyFrom 138 = .ok (.invokestatic 65, 3) := by decide +kernel
theorem dX0_copyFrom_141 : decode cX0_copyFrom 141 = .ok (.return_, 1) := by decide +kernel
theorem dX0_clearMark_0 : decode cX0_clearMark 0 = .ok (.iconst 0, 1) := by decide +kernel
theorem dX0_clearMark_1 : decode cX0_clearMark 1 = .ok (.istore_n 2, 1) := by decide +kernel
theorem dX0_clearMark_2 : decode cX0_clearMark 2 = .ok (.iload_n 2, 1) := by decide +kernel
theorem dX0_clearMark_3 : decode cX0_clearMark 3 = .ok (.iconst 5, 1) := by decide +kernel
theorem dX0_clearMark_4 : decode cX0_clearMark 4 = .ok (.if_icmp .ge 20, 3) := by decide +kernel
theorem dX0_clearMark_7 : decode cX0_clearMark 7 = .ok (.aload_n 0, 1) := by decide +kernel
theorem dX0_clearMark_8 : decode cX0_clearMark 8 = .ok (.getfield 9, 3) := by decide +kernel
theorem dX0_clearMark_11 : decode cX0_clearMark 11 = .ok (.iload_n 1, 1) := by decide +kernel
theorem dX0_clearMark_12 : decode cX0_clearMark 12 = .ok (.iconst 5, 1) := by decide +kernel
theorem dX0_clearMark_13 : decode cX0_clearMark 13 = .ok (.imul, 1) := by decide +kernel
theorem dX0_clearMark_14 : decode cX0_clearMark 14 = .ok (.iload_n 2, 1) := by decide +kernel
theorem dX0_clearMark_15 : decode cX0_clearMark 15 = .ok (.iadd, 1) := by decide +kernel
theorem dX0_clearMark_16 : decode cX0_clearMark 16 = .ok (.lconst 0, 1) := by decide +kernel
theorem dX0_clearMark_17 : decode cX0_clearMark 17 = .ok (.lastore, 1) := by decide +kernel
theorem dX0_clearMark_18 : decode cX0_clearMark 18 = .ok (.iinc 2 1, 3) := by decide +kernel
theorem dX0_clearMark_21 : decode cX0_clearMark 21 = .ok (.goto (-19), 3) := by decide +kernel
theorem dX0_clearMark_24 : decode cX0_clearMark 24 = .ok (.return_, 1) := by decide +kernel
theorem dX0_marked_0 : decode cX0_marked 0 = .ok (.aload_n 0, 1) := by decide +kernel
theorem dX0_marked_1 : decode cX0_marked 1 = .ok (.getfield 9, 3) := by decide +kernel
theorem dX0_marked_4 : decode cX0_marked 4 = .ok (.iload_n 1, 1) := by decide +kernel
theorem dX0_marked_5 : decode cX0_marked 5 = .ok (.iconst 5, 1) := by decide +kernel
theorem dX0_marked_6 : decode cX0_marked 6 = .ok (.imul, 1) := by decide +kernel
theorem dX0_marked_7 : decode cX0_marked 7 = .ok (.iload_n 2, 1) := by decide +kernel
theorem dX0_marked_8 : decode cX0_marked 8 = .ok (.iadd, 1) := by decide +kernel
theorem dX0_marked_9 : decode cX0_marked 9 = .ok (.laload, 1) := by decide +kernel
theorem dX0_marked_10 : decode cX0_marked 10 = .ok (.lreturn, 1) := by decide +kernel
theorem dX0_pass_0 : decode cX0_pass 0 = .ok (.iconst 0, 1) := by decide +kernel
theorem dX0_pass_1 : decode cX0_pass 1 = .ok (.istore 6, 2) := by decide +kernel
theorem dX0_pass_3 : decode cX0_pass 3 = .ok (.iload 6, 2) := by decide +kernel
theorem dX0_pass_5 : decode cX0_pass 5 = .ok (.iconst 4, 1) := by decide +kernel
theorem dX0_pass_6 : decode cX0_pass 6 = .ok (.if_icmp .ge 87, 3) := by decide +kernel
theorem dX0_pass_9 : decode cX0_pass 9 = .ok (.iload 6, 2) := by decide +kernel
theorem dX0_pass_11 : decode cX0_pass 11 = .ok (.iconst 5, 1) := by decide +kernel
theorem dX0_pass_12 : decode cX0_pass 12 = .ok (.imul, 1) := by decide +kernel
theorem dX0_pass_13 : decode cX0_pass 13 = .ok (.istore 7, 2) := by decide +kernel
theorem dX0_pass_15 : decode cX0_pass 15 = .ok (.aload_n 0, 1) := by decide +kernel
theorem dX0_pass_16 : decode cX0_pass 16 = .ok (.getfield 9, 3) := by decide +kernel
theorem dX0_pass_19 : decode cX0_pass 19 = .ok (.iload 7, 2) := by decide +kernel
theorem dX0_pass_21 : decode cX0_pass 21 = .ok (.iconst 0, 1) := by decide +kernel
theorem dX0_pass_22 : decode cX0_pass 22 = .ok (.iadd, 1) := by decide +kernel
theorem dX0_pass_23 : decode cX0_pass 23 = .ok (.dup2, 1) := by decide +kernel
theorem dX0_pass_24 : decode cX0_pass 24 = .ok (.laload, 1) := by decide +kernel
theorem dX0_pass_25 : decode cX0_pass 25 = .ok (.iload_n 1, 1) := by decide +kernel
theorem dX0_pass_26 : decode cX0_pass 26 = .ok (.i2l, 1) := by decide +kernel
theorem dX0_pass_27 : decode cX0_pass 27 = .ok (.ladd, 1) := by decide +kernel
theorem dX0_pass_28 : decode cX0_pass 28 = .ok (.lastore, 1) := by decide +kernel
theorem dX0_pass_29 : decode cX0_pass 29 = .ok (.aload_n 0, 1) := by decide +kernel
theorem dX0_pass_30 : decode cX0_pass 30 = .ok (.getfield 9, 3) := by decide +kernel
theorem dX0_pass_33 : decode cX0_pass 33 = .ok (.iload 7, 2) := by decide +kernel
theorem dX0_pass_35 : decode cX0_pass 35 = .ok (.iconst 1, 1) := by decide +kernel
theorem dX0_pass_36 : decode cX0_pass 36 = .ok (.iadd, 1) := by decide +kernel
theorem dX0_pass_37 : decode cX0_pass 37 = .ok (.dup2, 1) := by decide +kernel
theorem dX0_pass_38 : decode cX0_pass 38 = .ok (.laload, 1) := by decide +kernel
theorem dX0_pass_39 : decode cX0_pass 39 = .ok (.iload_n 2, 1) := by decide +kernel
theorem dX0_pass_40 : decode cX0_pass 40 = .ok (.i2l, 1) := by decide +kernel
theorem dX0_pass_41 : decode cX0_pass 41 = .ok (.ladd, 1) := by decide +kernel
theorem dX0_pass_42 : decode cX0_pass 42 = .ok (.lastore, 1) := by decide +kernel
theorem dX0_pass_43 : decode cX0_pass 43 = .ok (.aload_n 0, 1) := by decide +kernel
theorem dX0_pass_44 : decode cX0_pass 44 = .ok (.getfield 9, 3) := by decide +kernel
theorem dX0_pass_47 : decode cX0_pass 47 = .ok (.iload 7, 2) := by decide +kernel
theorem dX0_pass_49 : decode cX0_pass 49 = .ok (.iconst 2, 1) := by decide +kernel
theorem dX0_pass_50 : decode cX0_pass 50 = .ok (.iadd, 1) := by decide +kernel
theorem dX0_pass_51 : decode cX0_pass 51 = .ok (.dup2, 1) := by decide +kernel
theorem dX0_pass_52 : decode cX0_pass 52 = .ok (.laload, 1) := by decide +kernel
theorem dX0_pass_53 : decode cX0_pass 53 = .ok (.iload_n 3, 1) := by decide +kernel
theorem dX0_pass_54 : decode cX0_pass 54 = .ok (.i2l, 1) := by decide +kernel
theorem dX0_pass_55 : decode cX0_pass 55 = .ok (.ladd, 1) := by decide +kernel
theorem dX0_pass_56 : decode cX0_pass 56 = .ok (.lastore, 1) := by decide +kernel
theorem dX0_pass_57 : decode cX0_pass 57 = .ok (.aload_n 0, 1) := by decide +kernel
theorem dX0_pass_58 : decode cX0_pass 58 = .ok (.getfield 9, 3) := by decide +kernel
theorem dX0_pass_61 : decode cX0_pass 61 = .ok (.iload 7, 2) := by decide +kernel
theorem dX0_pass_63 : decode cX0_pass 63 = .ok (.iconst 3, 1) := by decide +kernel
theorem dX0_pass_64 : decode cX0_pass 64 = .ok (.iadd, 1) := by decide +kernel
theorem dX0_pass_65 : decode cX0_pass 65 = .ok (.dup2, 1) := by decide +kernel
theorem dX0_pass_66 : decode cX0_pass 66 = .ok (.laload, 1) := by decide +kernel
theorem dX0_pass_67 : decode cX0_pass 67 = .ok (.iload 4, 2) := by decide +kernel
theorem dX0_pass_69 : decode cX0_pass 69 = .ok (.i2l, 1) := by decide +kernel
theorem dX0_pass_70 : decode cX0_pass 70 = .ok (.ladd, 1) := by decide +kernel
theorem dX0_pass_71 : decode cX0_pass 71 = .ok (.lastore, 1) := by decide +kernel
theorem dX0_pass_72 : decode cX0_pass 72 = .ok (.aload_n 0, 1) := by decide +kernel
theorem dX0_pass_73 : decode cX0_pass 73 = .ok (.getfield 9, 3) := by decide +kernel
theorem dX0_pass_76 : decode cX0_pass 76 = .ok (.iload 7, 2) := by decide +kernel
theorem dX0_pass_78 : decode cX0_pass 78 = .ok (.iconst 4, 1) := by decide +kernel
theorem dX0_pass_79 : decode cX0_pass 79 = .ok (.iadd, 1) := by decide +kernel
theorem dX0_pass_80 : decode cX0_pass 80 = .ok (.dup2, 1) := by decide +kernel
theorem dX0_pass_81 : decode cX0_pass 81 = .ok (.laload, 1) := by decide +kernel
theorem dX0_pass_82 : decode cX0_pass 82 = .ok (.iload 5, 2) := by decide +kernel
theorem dX0_pass_84 : decode cX0_pass 84 = .ok (.i2l, 1) := by decide +kernel
theorem dX0_pass_85 : decode cX0_pass 85 = .ok (.ladd, 1) := by decide +kernel
theorem dX0_pass_86 : decode cX0_pass 86 = .ok (.lastore, 1) := by decide +kernel
theorem dX0_pass_87 : decode cX0_pass 87 = .ok (.iinc 6 1, 3) := by decide +kernel
theorem dX0_pass_90 : decode cX0_pass 90 = .ok (.goto (-87), 3) := by decide +kernel
theorem dX0_pass_93 : decode cX0_pass 93 = .ok (.aload_n 0, 1) := by decide +kernel
theorem dX0_pass_94 : decode cX0_pass 94 = .ok (.dup, 1) := by decide +kernel
theorem dX0_pass_95 : decode cX0_pass 95 = .ok (.getfield 58, 3) := by decide +kernel
theorem dX0_pass_98 : decode cX0_pass 98 = .ok (.iload_n 3, 1) := by decide +kernel
theorem dX0_pass_99 : decode cX0_pass 99 = .ok (.i2l, 1) := by decide +kernel
theorem dX0_pass_100 : decode cX0_pass 100 = .ok (.ladd, 1) := by decide +kernel
theorem dX0_pass_101 : decode cX0_pass 101 = .ok (.putfield 58, 3) := by decide +kernel
theorem dX0_pass_104 : decode cX0_pass 104 = .ok (.aload_n 0, 1) := by decide +kernel
theorem dX0_pass_105 : decode cX0_pass 105 = .ok (.dup, 1) := by decide +kernel
theorem dX0_pass_106 : decode cX0_pass 106 = .ok (.getfield 62, 3) := by decide +kernel
theorem dX0_pass_109 : decode cX0_pass 109 = .ok (.iload 4, 2) := by decide +kernel
theorem dX0_pass_111 : decode cX0_pass 111 = .ok (.i2l, 1) := by decide +kernel
theorem dX0_pass_112 : decode cX0_pass 112 = .ok (.ladd, 1) := by decide +kernel
theorem dX0_pass_113 : decode cX0_pass 113 = .ok (.putfield 62, 3) := by decide +kernel
theorem dX0_pass_116 : decode cX0_pass 116 = .ok (.return_, 1) := by decide +kernel
theorem dX0_burn_0 : decode cX0_burn 0 = .ok (.iload_n 1, 1) := by decide +kernel
theorem dX0_burn_1 : decode cX0_burn 1 = .ok (.aload_n 0, 1) := by decide +kernel
theorem dX0_burn_2 : decode cX0_burn 2 = .ok (.getfield 26, 3) := by decide +kernel
theorem dX0_burn_5 : decode cX0_burn 5 = .ok (.if_icmp .le 18, 3) := by decide +kernel
theorem dX0_burn_8 : decode cX0_burn 8 = .ok (.aload_n 0, 1) := by decide +kernel
theorem dX0_burn_9 : decode cX0_burn 9 = .ok (.dup, 1) := by decide +kernel
theorem dX0_burn_10 : decode cX0_burn 10 = .ok (.getfield 35, 3) := by decide +kernel
theorem dX0_burn_13 : decode cX0_burn 13 = .ok (.iconst 1, 1) := by decide +kernel
theorem dX0_burn_14 : decode cX0_burn 14 = .ok (.iadd, 1) := by decide +kernel
theorem dX0_burn_15 : decode cX0_burn 15 = .ok (.putfield 35, 3) := by decide +kernel
theorem dX0_burn_18 : decode cX0_burn 18 = .ok (.aload_n 0, 1) := by decide +kernel
theorem dX0_burn_19 : decode cX0_burn 19 = .ok (.iconst 0, 1) := by decide +kernel
theorem dX0_burn_20 : decode cX0_burn 20 = .ok (.putfield 44, 3) := by decide +kernel
theorem dX0_burn_23 : decode cX0_burn 23 = .ok (.aload_n 0, 1) := by decide +kernel
theorem dX0_burn_24 : decode cX0_burn 24 = .ok (.iconst 0, 1) := by decide +kernel
theorem dX0_burn_25 : decode cX0_burn 25 = .ok (.aload_n 0, 1) := by decide +kernel
theorem dX0_burn_26 : decode cX0_burn 26 = .ok (.getfield 22, 3) := by decide +kernel
theorem dX0_burn_29 : decode cX0_burn 29 = .ok (.iload_n 1, 1) := by decide +kernel
theorem dX0_burn_30 : decode cX0_burn 30 = .ok (.isub, 1) := by decide +kernel
theorem dX0_burn_31 : decode cX0_burn 31 = .ok (.invokestatic 71, 3) := by decide +kernel
theorem dX0_burn_34 : decode cX0_burn 34 = .ok (.putfield 22, 3) := by decide +kernel
theorem dX0_burn_37 : decode cX0_burn 37 = .ok (.aload_n 0, 1) := by decide +kernel
theorem dX0_burn_38 : decode cX0_burn 38 = .ok (.iconst 0, 1) := by decide +kernel
theorem dX0_burn_39 : decode cX0_burn 39 = .ok (.aload_n 0, 1) := by decide +kernel
theorem dX0_burn_40 : decode cX0_burn 40 = .ok (.getfield 26, 3) := by decide +kernel
theorem dX0_burn_43 : decode cX0_burn 43 = .ok (.iload_n 1, 1) := by decide +kernel
theorem dX0_burn_44 : decode cX0_burn 44 = .ok (.isub, 1) := by decide +kernel
theorem dX0_burn_45 : decode cX0_burn 45 = .ok (.invokestatic 71, 3) := by decide +kernel
theorem dX0_burn_48 : decode cX0_burn 48 = .ok (.putfield 26, 3) := by decide +kernel
theorem dX0_burn_51 : decode cX0_burn 51 = .ok (.return_, 1) := by decide +kernel
theorem dX0_doubt_0 : decode cX0_doubt 0 = .ok (.aload_n 0, 1) := by decide +kernel
theorem dX0_doubt_1 : decode cX0_doubt 1 = .ok (.iconst 0, 1) := by decide +kernel
theorem dX0_doubt_2 : decode cX0_doubt 2 = .ok (.aload_n 0, 1) := by decide +kernel
theorem dX0_doubt_3 : decode cX0_doubt 3 = .ok (.getfield 22, 3) := by decide +kernel
theorem dX0_doubt_6 : decode cX0_doubt 6 = .ok (.iload_n 1, 1) := by decide +kernel
theorem dX0_doubt_7 : decode cX0_doubt 7 = .ok (.isub, 1) := by decide +kernel
theorem dX0_doubt_8 : decode cX0_doubt 8 = .ok (.invokestatic 71, 3) := by decide +kernel
theorem dX0_doubt_11 : decode cX0_doubt 11 = .ok (.putfield 22, 3) := by decide +kernel
theorem dX0_doubt_14 : decode cX0_doubt 14 = .ok (.return_, 1) := by decide +kernel
set_option maxRecDepth 20000 in
theorem ggX0_narrow_X0_settle : GoodIn wsX0_narrow wsX0_settle := goodIn_r _ [14, 15, 16, 1, 17, 18, 6, 19, 20, 21, 22, 23, 4, 24, 25, 26, 27, 28, 29, 30, 13, 31, 32, 33, 34, 35, 49, 50, 51, 52, 53, 54, 55, 56, 57, 58, 59, 60, 61, 62, 63] (by decide +kernel) (by decide +kernel)
set_option maxRecDepth 20000 in
theorem gX0_narrow_X0_settle : GoodIn wsX0_narrow (wsV RX0 80 RX0 yX0_settle wsX0_settle) := goodIn_app (goodIn_of _ (by decide +kernel)) ggX0_narrow_X0_settle
set_option maxRecDepth 20000 in
theorem ggX0_narrow_X0_showStep : GoodIn wsX0_narrow wsX0_showStep := goodIn_r _ [39, 40, 41, 42, 43, 13, 44, 1, 6, 45, 46, 47, 48, 49, 50, 51, 52, 53, 54, 55, 56, 57, 58, 59, 60, 61, 62, 63] (by decide +kernel) (by decide +kernel)
set_option maxRecDepth 20000 in
theorem gX0_narrow_X0_showStep : GoodIn wsX0_narrow (wsV RX0 83 RX0 yX0_showStep wsX0_showStep) := goodIn_app (goodIn_of _ (by decide +kernel)) ggX0_narrow_X0_showStep
theorem dX0_narrow_0 : decode cX0_narrow 0 = .ok (.aload_n 0, 1) := by decide +kernel
theorem dX0_narrow_1 : decode cX0_narrow 1 = .ok (.aload_n 0, 1) := by decide +kernel
theorem dX0_narrow_2 : decode cX0_narrow 2 = .ok (.getfield 22, 3) := by decide +kernel
theorem dX0_narrow_5 : decode cX0_narrow 5 = .ok (.iload_n 1, 1) := by decide +kernel
theorem dX0_narrow_6 : decode cX0_narrow 6 = .ok (.invokestatic 71, 3) := by decide +kernel
theorem dX0_narrow_9 : decode cX0_narrow 9 = .ok (.putfield 22, 3) := by decide +kernel
theorem dX0_narrow_12 : decode cX0_narrow 12 = .ok (.aload_n 0, 1) := by decide +kernel
theorem dX0_narrow_13 : decode cX0_narrow 13 = .ok (.aload_n 0, 1) := by decide +kernel
theorem dX0_narrow_14 : decode cX0_narrow 14 = .ok (.getfield 26, 3) := by decide +kernel
theorem dX0_narrow_17 : decode cX0_narrow 17 = .ok (.iload_n 2, 1) := by decide +kernel
theorem dX0_narrow_18 : decode cX0_narrow 18 = .ok (.invokestatic 77, 3) := by decide +kernel
theorem dX0_narrow_21 : decode cX0_narrow 21 = .ok (.putfield 26, 3) := by decide +kernel
theorem dX0_narrow_24 : decode cX0_narrow 24 = .ok (.aload_n 0, 1) := by decide +kernel
theorem dX0_narrow_25 : decode cX0_narrow 25 = .ok (.invokevirtual 80, 3) := by decide +kernel
theorem dX0_narrow_28 : decode cX0_narrow 28 = .ok (.aload_n 0, 1) := by decide +kernel
theorem dX0_narrow_29 : decode cX0_narrow 29 = .ok (.invokevirtual 83, 3) := by decide +kernel
theorem dX0_narrow_32 : decode cX0_narrow 32 = .ok (.return_, 1) := by decide +kernel
set_option maxRecDepth 20000 in
theorem ggX0_settle_X0_placeOf : GoodIn wsX0_settle wsX0_placeOf := goodIn_r _ [21, 22, 23, 24, 25] (by decide +kernel) (by decide +kernel)
set_option maxRecDepth 20000 in
theorem gX0_settle_X0_placeOf : GoodIn wsX0_settle (va_wsS RX0 86 yX0_placeOf wsX0_placeOf) := goodIn_app (goodIn_of _ (by decide +kernel)) ggX0_settle_X0_placeOf
theorem dX0_settle_0 : decode cX0_settle 0 = .ok (.aload_n 0, 1) := by decide +kernel
theorem dX0_settle_1 : decode cX0_settle 1 = .ok (.getfield 44, 3) := by decide +kernel
theorem dX0_settle_4 : decode cX0_settle 4 = .ok (.ifCond .ne 4, 3) := by decide +kernel
theorem dX0_settle_7 : decode cX0_settle 7 = .ok (.return_, 1) := by decide +kernel
theorem dX0_settle_8 : decode cX0_settle 8 = .ok (.aload_n 0, 1) := by decide +kernel
theorem dX0_settle_9 : decode cX0_settle 9 = .ok (.getfield 29, 3) := by decide +kernel
theorem dX0_settle_12 : decode cX0_settle 12 = .ok (.iconst 1, 1) := by decide +kernel
theorem dX0_settle_13 : decode cX0_settle 13 = .ok (.isub, 1) := by decide +kernel
theorem dX0_settle_14 : decode cX0_settle 14 = .ok (.invokestatic 86, 3) := by decide +kernel
theorem dX0_settle_17 : decode cX0_settle 17 = .ok (.istore_n 1, 1) := by decide +kernel
theorem dX0_settle_18 : decode cX0_settle 18 = .ok (.aload_n 0, 1) := by decide +kernel
theorem dX0_settle_19 : decode cX0_settle 19 = .ok (.getfield 22, 3) := by decide +kernel
theorem dX0_settle_22 : decode cX0_settle 22 = .ok (.i2l, 1) := by decide +kernel
theorem dX0_settle_23 : decode cX0_settle 23 = .ok (.aload_n 0, 1) := by decide +kernel
theorem dX0_settle_24 : decode cX0_settle 24 = .ok (.getfield 58, 3) := by decide +kernel
theorem dX0_settle_27 : decode cX0_settle 27 = .ok (.ladd, 1) := by decide +kernel
theorem dX0_settle_28 : decode cX0_settle 28 = .ok (.aload_n 0, 1) := by decide +kernel
theorem dX0_settle_29 : decode cX0_settle 29 = .ok (.getfield 55, 3) := by decide +kernel
theorem dX0_settle_32 : decode cX0_settle 32 = .ok (.i2l, 1) := by decide +kernel
theorem dX0_settle_33 : decode cX0_settle 33 = .ok (.lsub, 1) := by decide +kernel
theorem dX0_settle_34 : decode cX0_settle 34 = .ok (.lstore_n 2, 1) := by decide +kernel
theorem dX0_settle_35 : decode cX0_settle 35 = .ok (.aload_n 0, 1) := by decide +kernel
theorem dX0_settle_36 : decode cX0_settle 36 = .ok (.getfield 26, 3) := by decide +kernel
theorem dX0_settle_39 : decode cX0_settle 39 = .ok (.i2l, 1) := by decide +kernel
theorem dX0_settle_40 : decode cX0_settle 40 = .ok (.aload_n 0, 1) := by decide +kernel
theorem dX0_settle_41 : decode cX0_settle 41 = .ok (.getfield 62, 3) := by decide +kernel
theorem dX0_settle_44 : decode cX0_settle 44 = .ok (.ladd, 1) := by decide +kernel
theorem dX0_settle_45 : decode cX0_settle 45 = .ok (.aload_n 0, 1) := by decide +kernel
theorem dX0_settle_46 : decode cX0_settle 46 = .ok (.getfield 52, 3) := by decide +kernel
theorem dX0_settle_49 : decode cX0_settle 49 = .ok (.i2l, 1) := by decide +kernel
theorem dX0_settle_50 : decode cX0_settle 50 = .ok (.lsub, 1) := by decide +kernel
theorem dX0_settle_51 : decode cX0_settle 51 = .ok (.lstore 4, 2) := by decide +kernel
theorem dX0_settle_53 : decode cX0_settle 53 = .ok (.aload_n 0, 1) := by decide +kernel
theorem dX0_settle_54 : decode cX0_settle 54 = .ok (.getfield 15, 3) := by decide +kernel
theorem dX0_settle_57 : decode cX0_settle 57 = .ok (.iload_n 1, 1) := by decide +kernel
theorem dX0_settle_58 : decode cX0_settle 58 = .ok (.aload_n 0, 1) := by decide +kernel
theorem dX0_settle_59 : decode cX0_settle 59 = .ok (.getfield 15, 3) := by decide +kernel
theorem dX0_settle_62 : decode cX0_settle 62 = .ok (.iload_n 1, 1) := by decide +kernel
theorem dX0_settle_63 : decode cX0_settle 63 = .ok (.iaload, 1) := by decide +kernel
theorem dX0_settle_64 : decode cX0_settle 64 = .ok (.i2l, 1) := by decide +kernel
theorem dX0_settle_65 : decode cX0_settle 65 = .ok (.lload_n 2, 1) := by decide +kernel
theorem dX0_settle_66 : decode cX0_settle 66 = .ok (.invokestatic 90, 3) := by decide +kernel
theorem dX0_settle_69 : decode cX0_settle 69 = .ok (.l2i, 1) := by decide +kernel
theorem dX0_settle_70 : decode cX0_settle 70 = .ok (.iastore, 1) := by decide +kernel
theorem dX0_settle_71 : decode cX0_settle 71 = .ok (.aload_n 0, 1) := by decide +kernel
theorem dX0_settle_72 : decode cX0_settle 72 = .ok (.getfield 19, 3) := by decide +kernel
theorem dX0_settle_75 : decode cX0_settle 75 = .ok (.iload_n 1, 1) := by decide +kernel
theorem dX0_settle_76 : decode cX0_settle 76 = .ok (.aload_n 0, 1) := by decide +kernel
theorem dX0_settle_77 : decode cX0_settle 77 = .ok (.getfield 19, 3) := by decide +kernel
theorem dX0_settle_80 : decode cX0_settle 80 = .ok (.iload_n 1, 1) := by decide +kernel
theorem dX0_settle_81 : decode cX0_settle 81 = .ok (.iaload, 1) := by decide +kernel
theorem dX0_settle_82 : decode cX0_settle 82 = .ok (.i2l, 1) := by decide +kernel
theorem dX0_settle_83 : decode cX0_settle 83 = .ok (.lload 4, 2) := by decide +kernel
theorem dX0_settle_85 : decode cX0_settle 85 = .ok (.invokestatic 93, 3) := by decide +kernel
theorem dX0_settle_88 : decode cX0_settle 88 = .ok (.l2i, 1) := by decide +kernel
theorem dX0_settle_89 : decode cX0_settle 89 = .ok (.iastore, 1) := by decide +kernel
theorem dX0_settle_90 : decode cX0_settle 90 = .ok (.return_, 1) := by decide +kernel
set_option maxRecDepth 20000 in
theorem ggX0_placeOf_J9_floorMod_7cf53 : GoodIn wsX0_placeOf wsJ9_floorMod_7cf53 := goodIn_r _ [4] (by decide +kernel) (by decide +kernel)
set_option maxRecDepth 20000 in
theorem gX0_placeOf_J9_floorMod_7cf53 : GoodIn wsX0_placeOf (va_wsS RX0 95 yJ9_floorMod_7cf53 wsJ9_floorMod_7cf53) := goodIn_app (goodIn_of _ (by decide +kernel)) ggX0_placeOf_J9_floorMod_7cf53
theorem dX0_placeOf_0 : decode cX0_placeOf 0 = .ok (.iload_n 0, 1) := by decide +kernel
theorem dX0_placeOf_1 : decode cX0_placeOf 1 = .ok (.bipush 30, 2) := by decide +kernel
theorem dX0_placeOf_3 : decode cX0_placeOf 3 = .ok (.invokestatic 95, 3) := by decide +kernel
theorem dX0_placeOf_6 : decode cX0_placeOf 6 = .ok (.ireturn, 1) := by decide +kernel
set_option maxRecDepth 20000 in
theorem ggX0_takeRefill_X0_placeOf : GoodIn wsX0_takeRefill wsX0_placeOf := goodIn_r _ [14, 15, 16, 17, 18] (by decide +kernel) (by decide +kernel)
set_option maxRecDepth 20000 in
theorem gX0_takeRefill_X0_placeOf : GoodIn wsX0_takeRefill (va_wsS RX0 86 yX0_placeOf wsX0_placeOf) := goodIn_app (goodIn_of _ (by decide +kernel)) ggX0_takeRefill_X0_placeOf
set_option maxRecDepth 20000 in
theorem ggX0_takeRefill_X0_clearMark : GoodIn wsX0_takeRefill wsX0_clearMark := goodIn_r _ [22, 23, 34, 35, 36, 37, 38, 39, 40, 41, 42, 43, 44, 45, 46, 47, 48] (by decide +kernel) (by decide +kernel)
set_option maxRecDepth 20000 in
theorem gX0_takeRefill_X0_clearMark : GoodIn wsX0_takeRefill (wsV RX0 48 RX0 yX0_clearMark wsX0_clearMark) := goodIn_app (goodIn_of _ (by decide +kernel)) ggX0_takeRefill_X0_clearMark
set_option maxRecDepth 20000 in
theorem ggX0_takeRefill_X0_takeFloat : GoodIn wsX0_takeRefill wsX0_takeFloat := goodIn_r _ [27, 5, 3, 28, 29, 30, 31, 32, 13, 33, 34, 35, 36, 37, 38, 39, 40, 41, 42, 43, 44, 45, 46, 47, 48] (by decide +kernel) (by decide +kernel)
set_option maxRecDepth 20000 in
theorem gX0_takeRefill_X0_takeFloat : GoodIn wsX0_takeRefill (wsV RX0 98 RX0 yX0_takeFloat wsX0_takeFloat) := goodIn_app (goodIn_of _ (by decide +kernel)) ggX0_takeRefill_X0_takeFloat
theorem dX0_takeRefill_0 : decode cX0_takeRefill 0 = .ok (.aload_n 0, 1) := by decide +kernel
theorem dX0_takeRefill_1 : decode cX0_takeRefill 1 = .ok (.getfield 29, 3) := by decide +kernel
theorem dX0_takeRefill_4 : decode cX0_takeRefill 4 = .ok (.invokestatic 86, 3) := by decide +kernel
theorem dX0_takeRefill_7 : decode cX0_takeRefill 7 = .ok (.istore_n 3, 1) := by decide +kernel
theorem dX0_takeRefill_8 : decode cX0_takeRefill 8 = .ok (.aload_n 0, 1) := by decide +kernel
theorem dX0_takeRefill_9 : decode cX0_takeRefill 9 = .ok (.getfield 15, 3) := by decide +kernel
theorem dX0_takeRefill_12 : decode cX0_takeRefill 12 = .ok (.iload_n 3, 1) := by decide +kernel
theorem dX0_takeRefill_13 : decode cX0_takeRefill 13 = .ok (.iload_n 1, 1) := by decide +kernel
theorem dX0_takeRefill_14 : decode cX0_takeRefill 14 = .ok (.aload_n 0, 1) := by decide +kernel
theorem dX0_takeRefill_15 : decode cX0_takeRefill 15 = .ok (.getfield 26, 3) := by decide +kernel
theorem dX0_takeRefill_18 : decode cX0_takeRefill 18 = .ok (.isub, 1) := by decide +kernel
theorem dX0_takeRefill_19 : decode cX0_takeRefill 19 = .ok (.iastore, 1) := by decide +kernel
theorem dX0_takeRefill_20 : decode cX0_takeRefill 20 = .ok (.aload_n 0, 1) := by decide +kernel
theorem dX0_takeRefill_21 : decode cX0_takeRefill 21 = .ok (.getfield 19, 3) := by decide +kernel
theorem dX0_takeRefill_24 : decode cX0_takeRefill 24 = .ok (.iload_n 3, 1) := by decide +kernel
theorem dX0_takeRefill_25 : decode cX0_takeRefill 25 = .ok (.iload_n 2, 1) := by decide +kernel
theorem dX0_takeRefill_26 : decode cX0_takeRefill 26 = .ok (.aload_n 0, 1) := by decide +kernel
theorem dX0_takeRefill_27 : decode cX0_takeRefill 27 = .ok (.getfield 22, 3) := by decide +kernel
theorem dX0_takeRefill_30 : decode cX0_takeRefill 30 = .ok (.isub, 1) := by decide +kernel
theorem dX0_takeRefill_31 : decode cX0_takeRefill 31 = .ok (.iastore, 1) := by decide +kernel
theorem dX0_takeRefill_32 : decode cX0_takeRefill 32 = .ok (.aload_n 0, 1) := by decide +kernel
theorem dX0_takeRefill_33 : decode cX0_takeRefill 33 = .ok (.dup, 1) := by decide +kernel
theorem dX0_takeRefill_34 : decode cX0_takeRefill 34 = .ok (.getfield 29, 3) := by decide +kernel
theorem dX0_takeRefill_37 : decode cX0_takeRefill 37 = .ok (.iconst 1, 1) := by decide +kernel
theorem dX0_takeRefill_38 : decode cX0_takeRefill 38 = .ok (.iadd, 1) := by decide +kernel
theorem dX0_takeRefill_39 : decode cX0_takeRefill 39 = .ok (.putfield 29, 3) := by decide +kernel
theorem dX0_takeRefill_42 : decode cX0_takeRefill 42 = .ok (.aload_n 0, 1) := by decide +kernel
theorem dX0_takeRefill_43 : decode cX0_takeRefill 43 = .ok (.iconst 1, 1) := by decide +kernel
theorem dX0_takeRefill_44 : decode cX0_takeRefill 44 = .ok (.putfield 44, 3) := by decide +kernel
theorem dX0_takeRefill_47 : decode cX0_takeRefill 47 = .ok (.aload_n 0, 1) := by decide +kernel
theorem dX0_takeRefill_48 : decode cX0_takeRefill 48 = .ok (.aload_n 0, 1) := by decide +kernel
theorem dX0_takeRefill_49 : decode cX0_takeRefill 49 = .ok (.getfield 22, 3) := by decide +kernel
theorem dX0_takeRefill_52 : decode cX0_takeRefill 52 = .ok (.putfield 52, 3) := by decide +kernel
theorem dX0_takeRefill_55 : decode cX0_takeRefill 55 = .ok (.aload_n 0, 1) := by decide +kernel
theorem dX0_takeRefill_56 : decode cX0_takeRefill 56 = .ok (.aload_n 0, 1) := by decide +kernel
theorem dX0_takeRefill_57 : decode cX0_takeRefill 57 = .ok (.getfield 26, 3) := by decide +kernel
theorem dX0_takeRefill_60 : decode cX0_takeRefill 60 = .ok (.putfield 55, 3) := by decide +kernel
theorem dX0_takeRefill_63 : decode cX0_takeRefill 63 = .ok (.aload_n 0, 1) := by decide +kernel
theorem dX0_takeRefill_64 : decode cX0_takeRefill 64 = .ok (.lconst 0, 1) := by decide +kernel
theorem dX0_takeRefill_65 : decode cX0_takeRefill 65 = .ok (.putfield 58, 3) := by decide +kernel
theorem dX0_takeRefill_68 : decode cX0_takeRefill 68 = .ok (.aload_n 0, 1) := by decide +kernel
theorem dX0_takeRefill_69 : decode cX0_takeRefill 69 = .ok (.lconst 0, 1) := by decide +kernel
theorem dX0_takeRefill_70 : decode cX0_takeRefill 70 = .ok (.putfield 62, 3) := by decide +kernel
theorem dX0_takeRefill_73 : decode cX0_takeRefill 73 = .ok (.aload_n 0, 1) := by decide +kernel
theorem dX0_takeRefill_74 : decode cX0_takeRefill 74 = .ok (.iconst 3, 1) := by decide +kernel
theorem dX0_takeRefill_75 : decode cX0_takeRefill 75 = .ok (.invokevirtual 48, 3) := by decide +kernel
theorem dX0_takeRefill_78 : decode cX0_takeRefill 78 = .ok (.aload_n 0, 1) := by decide +kernel
theorem dX0_takeRefill_79 : decode cX0_takeRefill 79 = .ok (.iload_n 1, 1) := by decide +kernel
theorem dX0_takeRefill_80 : decode cX0_takeRefill 80 = .ok (.iload_n 2, 1) := by decide +kernel
theorem dX0_takeRefill_81 : decode cX0_takeRefill 81 = .ok (.invokevirtual 98, 3) := by decide +kernel
theorem dX0_takeRefill_84 : decode cX0_takeRefill 84 = .ok (.return_, 1) := by decide +kernel
set_option maxRecDepth 20000 in
theorem ggX0_takeLoss_X0_takeFloat : GoodIn wsX0_takeLoss wsX0_takeFloat := goodIn_r _ [7, 8, 9, 10, 11, 12, 13, 14, 6, 15, 16, 17, 18, 19, 20, 21, 22, 23, 24, 25, 26, 27, 28, 29, 30] (by decide +kernel) (by decide +kernel)
set_option maxRecDepth 20000 in
theorem gX0_takeLoss_X0_takeFloat : GoodIn wsX0_takeLoss (wsV RX0 98 RX0 yX0_takeFloat wsX0_takeFloat) := goodIn_app (goodIn_of _ (by decide +kernel)) ggX0_takeLoss_X0_takeFloat
theorem dX0_takeLoss_0 : decode cX0_takeLoss 0 = .ok (.aload_n 0, 1) := by decide +kernel
theorem dX0_takeLoss_1 : decode cX0_takeLoss 1 = .ok (.dup, 1) := by decide +kernel
theorem dX0_takeLoss_2 : decode cX0_takeLoss 2 = .ok (.getfield 32, 3) := by decide +kernel
theorem dX0_takeLoss_5 : decode cX0_takeLoss 5 = .ok (.iconst 1, 1) := by decide +kernel
theorem dX0_takeLoss_6 : decode cX0_takeLoss 6 = .ok (.iadd, 1) := by decide +kernel
theorem dX0_takeLoss_7 : decode cX0_takeLoss 7 = .ok (.putfield 32, 3) := by decide +kernel
theorem dX0_takeLoss_10 : decode cX0_takeLoss 10 = .ok (.aload_n 0, 1) := by decide +kernel
theorem dX0_takeLoss_11 : decode cX0_takeLoss 11 = .ok (.iconst 0, 1) := by decide +kernel
theorem dX0_takeLoss_12 : decode cX0_takeLoss 12 = .ok (.putfield 44, 3) := by decide +kernel
theorem dX0_takeLoss_15 : decode cX0_takeLoss 15 = .ok (.aload_n 0, 1) := by decide +kernel
theorem dX0_takeLoss_16 : decode cX0_takeLoss 16 = .ok (.iload_n 1, 1) := by decide +kernel
theorem dX0_takeLoss_17 : decode cX0_takeLoss 17 = .ok (.iload_n 2, 1) := by decide +kernel
theorem dX0_takeLoss_18 : decode cX0_takeLoss 18 = .ok (.invokevirtual 98, 3) := by decide +kernel
theorem dX0_takeLoss_21 : decode cX0_takeLoss 21 = .ok (.return_, 1) := by decide +kernel
set_option maxRecDepth 20000 in
theorem ggX0_takeFloat_X0_truth : GoodIn wsX0_takeFloat wsX0_truth := goodIn_r _ [9, 1, 2, 10, 11, 12, 13, 14, 15, 16, 17, 18, 19, 20, 21, 22, 23, 24] (by decide +kernel) (by decide +kernel)
set_option maxRecDepth 20000 in
theorem gX0_takeFloat_X0_truth : GoodIn wsX0_takeFloat (wsV RX0 102 RX0 yX0_truth wsX0_truth) := goodIn_app (goodIn_of _ (by decide +kernel)) ggX0_takeFloat_X0_truth
theorem dX0_takeFloat_0 : decode cX0_takeFloat 0 = .ok (.aload_n 0, 1) := by decide +kernel
theorem dX0_takeFloat_1 : decode cX0_takeFloat 1 = .ok (.iload_n 1, 1) := by decide +kernel
theorem dX0_takeFloat_2 : decode cX0_takeFloat 2 = .ok (.putfield 22, 3) := by decide +kernel
theorem dX0_takeFloat_5 : decode cX0_takeFloat 5 = .ok (.aload_n 0, 1) := by decide +kernel
theorem dX0_takeFloat_6 : decode cX0_takeFloat 6 = .ok (.iload_n 2, 1) := by decide +kernel
theorem dX0_takeFloat_7 : decode cX0_takeFloat 7 = .ok (.putfield 26, 3) := by decide +kernel
theorem dX0_takeFloat_10 : decode cX0_takeFloat 10 = .ok (.aload_n 0, 1) := by decide +kernel
theorem dX0_takeFloat_11 : decode cX0_takeFloat 11 = .ok (.getfield 41, 3) := by decide +kernel
theorem dX0_takeFloat_14 : decode cX0_takeFloat 14 = .ok (.aload_n 0, 1) := by decide +kernel
theorem dX0_takeFloat_15 : decode cX0_takeFloat 15 = .ok (.invokevirtual 102, 3) := by decide +kernel
theorem dX0_takeFloat_18 : decode cX0_takeFloat 18 = .ok (.if_icmp .eq 21, 3) := by decide +kernel
theorem dX0_takeFloat_21 : decode cX0_takeFloat 21 = .ok (.aload_n 0, 1) := by decide +kernel
theorem dX0_takeFloat_22 : decode cX0_takeFloat 22 = .ok (.dup, 1) := by decide +kernel
theorem dX0_takeFloat_23 : decode cX0_takeFloat 23 = .ok (.getfield 38, 3) := by decide +kernel
theorem dX0_takeFloat_26 : decode cX0_takeFloat 26 = .ok (.iconst 1, 1) := by decide +kernel
theorem dX0_takeFloat_27 : decode cX0_takeFloat 27 = .ok (.iadd, 1) := by decide +kernel
theorem dX0_takeFloat_28 : decode cX0_takeFloat 28 = .ok (.putfield 38, 3) := by decide +kernel
theorem dX0_takeFloat_31 : decode cX0_takeFloat 31 = .ok (.aload_n 0, 1) := by decide +kernel
theorem dX0_takeFloat_32 : decode cX0_takeFloat 32 = .ok (.aload_n 0, 1) := by decide +kernel
theorem dX0_takeFloat_33 : decode cX0_takeFloat 33 = .ok (.invokevirtual 102, 3) := by decide +kernel
theorem dX0_takeFloat_36 : decode cX0_takeFloat 36 = .ok (.putfield 41, 3) := by decide +kernel
theorem dX0_takeFloat_39 : decode cX0_takeFloat 39 = .ok (.return_, 1) := by decide +kernel
theorem dX0_truth_0 : decode cX0_truth 0 = .ok (.aload_n 0, 1) := by decide +kernel
theorem dX0_truth_1 : decode cX0_truth 1 = .ok (.getfield 22, 3) := by decide +kernel
theorem dX0_truth_4 : decode cX0_truth 4 = .ok (.aload_n 0, 1) := by decide +kernel
theorem dX0_truth_5 : decode cX0_truth 5 = .ok (.getfield 26, 3) := by decide +kernel
theorem dX0_truth_8 : decode cX0_truth 8 = .ok (.iadd, 1) := by decide +kernel
theorem dX0_truth_9 : decode cX0_truth 9 = .ok (.sipush 2000, 3) := by decide +kernel
theorem dX0_truth_12 : decode cX0_truth 12 = .ok (.idiv, 1) := by decide +kernel
theorem dX0_truth_13 : decode cX0_truth 13 = .ok (.ireturn, 1) := by decide +kernel
set_option maxRecDepth 20000 in
theorem ggX0_showStep_X0_truth : GoodIn wsX0_showStep wsX0_truth := goodIn_r _ [6, 7, 8, 13, 14, 15, 16, 17, 18, 19, 20, 21, 22, 23, 24, 25, 26, 27] (by decide +kernel) (by decide +kernel)
set_option maxRecDepth 20000 in
theorem gX0_showStep_X0_truth : GoodIn wsX0_showStep (wsV RX0 102 RX0 yX0_truth wsX0_truth) := goodIn_app (goodIn_of _ (by decide +kernel)) ggX0_showStep_X0_truth
set_option maxRecDepth 20000 in
theorem ggX0_showStep_J6_compare_7cf53 : GoodIn wsX0_showStep wsJ6_compare_7cf53 := goodIn_r _ [12] (by decide +kernel) (by decide +kernel)
set_option maxRecDepth 20000 in
theorem gX0_showStep_J6_compare_7cf53 : GoodIn wsX0_showStep (va_wsS RX0 106 yJ6_compare_7cf53 wsJ6_compare_7cf53) := goodIn_app (goodIn_of _ (by decide +kernel)) ggX0_showStep_J6_compare_7cf53
theorem dX0_showStep_0 : decode cX0_showStep 0 = .ok (.aload_n 0, 1) := by decide +kernel
theorem dX0_showStep_1 : decode cX0_showStep 1 = .ok (.dup, 1) := by decide +kernel
theorem dX0_showStep_2 : decode cX0_showStep 2 = .ok (.getfield 41, 3) := by decide +kernel
theorem dX0_showStep_5 : decode cX0_showStep 5 = .ok (.aload_n 0, 1) := by decide +kernel
theorem dX0_showStep_6 : decode cX0_showStep 6 = .ok (.invokevirtual 102, 3) := by decide +kernel
theorem dX0_showStep_9 : decode cX0_showStep 9 = .ok (.aload_n 0, 1) := by decide +kernel
theorem dX0_showStep_10 : decode cX0_showStep 10 = .ok (.getfield 41, 3) := by decide +kernel
theorem dX0_showStep_13 : decode cX0_showStep 13 = .ok (.invokestatic 106, 3) := by decide +kernel
theorem dX0_showStep_16 : decode cX0_showStep 16 = .ok (.iadd, 1) := by decide +kernel
theorem dX0_showStep_17 : decode cX0_showStep 17 = .ok (.putfield 41, 3) := by decide +kernel
theorem dX0_showStep_20 : decode cX0_showStep 20 = .ok (.return_, 1) := by decide +kernel
theorem dX0_tellsRefill_0 : decode cX0_tellsRefill 0 = .ok (.iload_n 1, 1) := by decide +kernel
theorem dX0_tellsRefill_1 : decode cX0_tellsRefill 1 = .ok (.ifCond .lt 26, 3) := by decide +kernel
theorem dX0_tellsRefill_4 : decode cX0_tellsRefill 4 = .ok (.iload_n 1, 1) := by decide +kernel
theorem dX0_tellsRefill_5 : decode cX0_tellsRefill 5 = .ok (.aload_n 0, 1) := by decide +kernel
theorem dX0_tellsRefill_6 : decode cX0_tellsRefill 6 = .ok (.getfield 29, 3) := by decide +kernel
theorem dX0_tellsRefill_9 : decode cX0_tellsRefill 9 = .ok (.if_icmp .ge 18, 3) := by decide +kernel
theorem dX0_tellsRefill_12 : decode cX0_tellsRefill 12 = .ok (.iload_n 1, 1) := by decide +kernel
theorem dX0_tellsRefill_13 : decode cX0_tellsRefill 13 = .ok (.aload_n 0, 1) := by decide +kernel
theorem dX0_tellsRefill_14 : decode cX0_tellsRefill 14 = .ok (.getfield 29, 3) := by decide +kernel
theorem dX0_tellsRefill_17 : decode cX0_tellsRefill 17 = .ok (.bipush 30, 2) := by decide +kernel
theorem dX0_tellsRefill_19 : decode cX0_tellsRefill 19 = .ok (.isub, 1) := by decide +kernel
theorem dX0_tellsRefill_20 : decode cX0_tellsRefill 20 = .ok (.if_icmp .lt 7, 3) := by decide +kernel
theorem dX0_tellsRefill_23 : decode cX0_tellsRefill 23 = .ok (.iconst 1, 1) := by decide +kernel
theorem dX0_tellsRefill_24 : decode cX0_tellsRefill 24 = .ok (.goto 4, 3) := by decide +kernel
theorem dX0_tellsRefill_27 : decode cX0_tellsRefill 27 = .ok (.iconst 0, 1) := by decide +kernel
theorem dX0_tellsRefill_28 : decode cX0_tellsRefill 28 = .ok (.ireturn, 1) := by decide +kernel
set_option maxRecDepth 20000 in
theorem ggX0_amount_X0_placeOf : GoodIn wsX0_amount wsX0_placeOf := goodIn_r _ [6, 7, 8, 9, 10] (by decide +kernel) (by decide +kernel)
set_option maxRecDepth 20000 in
theorem gX0_amount_X0_placeOf : GoodIn wsX0_amount (va_wsS RX0 86 yX0_placeOf wsX0_placeOf) := goodIn_app (goodIn_of _ (by decide +kernel)) ggX0_amount_X0_placeOf
theorem dX0_amount_0 : decode cX0_amount 0 = .ok (.iload_n 1, 1) := by decide +kernel
theorem dX0_amount_1 : decode cX0_amount 1 = .ok (.invokestatic 86, 3) := by decide +kernel
theorem dX0_amount_4 : decode cX0_amount 4 = .ok (.istore_n 3, 1) := by decide +kernel
theorem dX0_amount_5 : decode cX0_amount 5 = .ok (.iload_n 2, 1) := by decide +kernel
theorem dX0_amount_6 : decode cX0_amount 6 = .ok (.ifCond .eq 12, 3) := by decide +kernel
theorem dX0_amount_9 : decode cX0_amount 9 = .ok (.aload_n 0, 1) := by decide +kernel
theorem dX0_amount_10 : decode cX0_amount 10 = .ok (.getfield 19, 3) := by decide +kernel
theorem dX0_amount_13 : decode cX0_amount 13 = .ok (.iload_n 3, 1) := by decide +kernel
theorem dX0_amount_14 : decode cX0_amount 14 = .ok (.iaload, 1) := by decide +kernel
theorem dX0_amount_15 : decode cX0_amount 15 = .ok (.goto 9, 3) := by decide +kernel
theorem dX0_amount_18 : decode cX0_amount 18 = .ok (.aload_n 0, 1) := by decide +kernel
theorem dX0_amount_19 : decode cX0_amount 19 = .ok (.getfield 15, 3) := by decide +kernel
theorem dX0_amount_22 : decode cX0_amount 22 = .ok (.iload_n 3, 1) := by decide +kernel
theorem dX0_amount_23 : decode cX0_amount 23 = .ok (.iaload, 1) := by decide +kernel
theorem dX0_amount_24 : decode cX0_amount 24 = .ok (.ireturn, 1) := by decide +kernel
theorem dX1_init_0 : decode cX1_init 0 = .ok (.aload_n 0, 1) := by decide +kernel
theorem dX1_init_1 : decode cX1_init 1 = .ok (.invokespecial 3, 3) := by decide +kernel
theorem dX1_init_4 : decode cX1_init 4 = .ok (.aload_n 0, 1) := by decide +kernel
theorem dX1_init_5 : decode cX1_init 5 = .ok (.bipush 13, 2) := by decide +kernel
theorem dX1_init_7 : decode cX1_init 7 = .ok (.newarray .int, 2) := by decide +kernel
theorem dX1_init_9 : decode cX1_init 9 = .ok (.putfield 11, 3) := by decide +kernel
theorem dX1_init_12 : decode cX1_init 12 = .ok (.aload_n 0, 1) := by decide +kernel
theorem dX1_init_13 : decode cX1_init 13 = .ok (.bipush 12, 2) := by decide +kernel
theorem dX1_init_15 : decode cX1_init 15 = .ok (.newarray .int, 2) := by decide +kernel
theorem dX1_init_17 : decode cX1_init 17 = .ok (.putfield 15, 3) := by decide +kernel
theorem dX1_init_20 : decode cX1_init 20 = .ok (.aload_n 0, 1) := by decide +kernel
theorem dX1_init_21 : decode cX1_init 21 = .ok (.bipush 121, 2) := by decide +kernel
theorem dX1_init_23 : decode cX1_init 23 = .ok (.newarray .int, 2) := by decide +kernel
theorem dX1_init_25 : decode cX1_init 25 = .ok (.putfield 18, 3) := by decide +kernel
theorem dX1_init_28 : decode cX1_init 28 = .ok (.aload_n 0, 1) := by decide +kernel
theorem dX1_init_29 : decode cX1_init 29 = .ok (.sipush 1452, 3) := by decide +kernel
theorem dX1_init_32 : decode cX1_init 32 = .ok (.newarray .int, 2) := by decide +kernel
theorem dX1_init_34 : decode cX1_init 34 = .ok (.putfield 21, 3) := by decide +kernel
theorem dX1_init_37 : decode cX1_init 37 = .ok (.aload_n 0, 1) := by decide +kernel
theorem dX1_init_38 : decode cX1_init 38 = .ok (.bipush 12, 2) := by decide +kernel
theorem dX1_init_40 : decode cX1_init 40 = .ok (.newarray .int, 2) := by decide +kernel
theorem dX1_init_42 : decode cX1_init 42 = .ok (.putfield 24, 3) := by decide +kernel
theorem dX1_init_45 : decode cX1_init 45 = .ok (.aload_n 0, 1) := by decide +kernel
theorem dX1_init_46 : decode cX1_init 46 = .ok (.iconst 0, 1) := by decide +kernel
theorem dX1_init_47 : decode cX1_init 47 = .ok (.putfield 27, 3) := by decide +kernel
theorem dX1_init_50 : decode cX1_init 50 = .ok (.aload_n 0, 1) := by decide +kernel
theorem dX1_init_51 : decode cX1_init 51 = .ok (.iconst 0, 1) := by decide +kernel
theorem dX1_init_52 : decode cX1_init 52 = .ok (.putfield 31, 3) := by decide +kernel
theorem dX1_init_55 : decode cX1_init 55 = .ok (.return_, 1) := by decide +kernel
theorem dX1_read_0 : decode cX1_read 0 = .ok (.aload_n 1, 1) := by decide +kernel
theorem dX1_read_1 : decode cX1_read 1 = .ok (.getfield 34, 3) := by decide +kernel
theorem dX1_read_4 : decode cX1_read 4 = .ok (.iconst 2, 1) := by decide +kernel
theorem dX1_read_5 : decode cX1_read 5 = .ok (.irem, 1) := by decide +kernel
theorem dX1_read_6 : decode cX1_read 6 = .ok (.ifCond .eq 12, 3) := by decide +kernel
theorem dX1_read_9 : decode cX1_read 9 = .ok (.aload_n 1, 1) := by decide +kernel
theorem dX1_read_10 : decode cX1_read 10 = .ok (.getfield 34, 3) := by decide +kernel
theorem dX1_read_13 : decode cX1_read 13 = .ok (.bipush 25, 2) := by decide +kernel
theorem dX1_read_15 : decode cX1_read 15 = .ok (.if_icmp .le 5, 3) := by decide +kernel
theorem dX1_read_18 : decode cX1_read 18 = .ok (.iconst 0, 1) := by decide +kernel
theorem dX1_read_19 : decode cX1_read 19 = .ok (.ireturn, 1) := by decide +kernel
theorem dX1_read_20 : decode cX1_read 20 = .ok (.iconst 0, 1) := by decide +kernel
theorem dX1_read_21 : decode cX1_read 21 = .ok (.istore_n 3, 1) := by decide +kernel
theorem dX1_read_22 : decode cX1_read 22 = .ok (.iload_n 3, 1) := by decide +kernel
theorem dX1_read_23 : decode cX1_read 23 = .ok (.aload_n 1, 1) := by decide +kernel
theorem dX1_read_24 : decode cX1_read 24 = .ok (.getfield 34, 3) := by decide +kernel
theorem dX1_read_27 : decode cX1_read 27 = .ok (.if_icmp .ge 20, 3) := by decide +kernel
theorem dX1_read_30 : decode cX1_read 30 = .ok (.aload_n 1, 1) := by decide +kernel
theorem dX1_read_31 : decode cX1_read 31 = .ok (.getfield 39, 3) := by decide +kernel
theorem dX1_read_34 : decode cX1_read 34 = .ok (.iload_n 3, 1) := by decide +kernel
theorem dX1_read_35 : decode cX1_read 35 = .ok (.iaload, 1) := by decide +kernel
theorem dX1_read_36 : decode cX1_read 36 = .ok (.ifCond .ne 5, 3) := by decide +kernel
theorem dX1_read_39 : decode cX1_read 39 = .ok (.iconst 0, 1) := by decide +kernel
theorem dX1_read_40 : decode cX1_read 40 = .ok (.ireturn, 1) := by decide +kernel
theorem dX1_read_41 : decode cX1_read 41 = .ok (.iinc 3 1, 3) := by decide +kernel
theorem dX1_read_44 : decode cX1_read 44 = .ok (.goto (-22), 3) := by decide +kernel
theorem dX1_read_47 : decode cX1_read 47 = .ok (.aload_n 0, 1) := by decide +kernel
theorem dX1_read_48 : decode cX1_read 48 = .ok (.aload_n 1, 1) := by decide +kernel
theorem dX1_read_49 : decode cX1_read 49 = .ok (.getfield 34, 3) := by decide +kernel
theorem dX1_read_52 : decode cX1_read 52 = .ok (.iconst 2, 1) := by decide +kernel
theorem dX1_read_53 : decode cX1_read 53 = .ok (.idiv, 1) := by decide +kernel
theorem dX1_read_54 : decode cX1_read 54 = .ok (.putfield 27, 3) := by decide +kernel
theorem dX1_read_57 : decode cX1_read 57 = .ok (.iconst 0, 1) := by decide +kernel
theorem dX1_read_58 : decode cX1_read 58 = .ok (.istore_n 3, 1) := by decide +kernel
theorem dX1_read_59 : decode cX1_read 59 = .ok (.iload_n 3, 1) := by decide +kernel
