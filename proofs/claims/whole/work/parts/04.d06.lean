theorem dL_mark_17 : decode cL_mark 17 = .ok (.ireturn, 1) := by decide +kernel
set_option maxRecDepth 20000 in
theorem ggL_metres_X3_metres : GoodIn wsL_metres wsX3_metres := goodIn_ca (goodIn_r _ [6, 7, 8, 9, 10, 11, 5, 12, 13, 14, 15, 16, 17, 18, 19, 20, 21, 22, 23, 24, 25, 26, 27, 28, 29, 30, 31, 32, 33, 34, 35, 36, 37, 38, 39, 40, 41, 42, 43, 44, 45, 46, 47, 48, 49, 50, 51, 52, 53] (by decide +kernel) (by decide +kernel)) (goodIn_sub (fun _ h => List.mem_cons_of_mem _ (List.mem_append_right _ h)) (by decide +kernel))
set_option maxRecDepth 20000 in
theorem gL_metres_X3_metres : GoodIn wsL_metres (wsV RL 15 RX3 yX3_metres wsX3_metres) := goodIn_app (goodIn_of _ (by decide +kernel)) ggL_metres_X3_metres
theorem dL_metres_0 : decode cL_metres 0 = .ok (.aload_n 3, 1) := by decide +kernel
theorem dL_metres_1 : decode cL_metres 1 = .ok (.iconst 0, 1) := by decide +kernel
theorem dL_metres_2 : decode cL_metres 2 = .ok (.aload_n 0, 1) := by decide +kernel
theorem dL_metres_3 : decode cL_metres 3 = .ok (.iload_n 1, 1) := by decide +kernel
theorem dL_metres_4 : decode cL_metres 4 = .ok (.iload_n 2, 1) := by decide +kernel
theorem dL_metres_5 : decode cL_metres 5 = .ok (.invokevirtual 15, 3) := by decide +kernel
theorem dL_metres_8 : decode cL_metres 8 = .ok (.lastore, 1) := by decide +kernel
theorem dL_metres_9 : decode cL_metres 9 = .ok (.goto 7, 3) := by decide +kernel
theorem dL_metres_12 : decode cL_metres 12 = .ok (.astore 4, 2) := by decide +kernel
theorem dL_metres_14 : decode cL_metres 14 = .ok (.iconst 1, 1) := by decide +kernel
theorem dL_metres_15 : decode cL_metres 15 = .ok (.ireturn, 1) := by decide +kernel
theorem dL_metres_16 : decode cL_metres 16 = .ok (.iconst 0, 1) := by decide +kernel
theorem dL_metres_17 : decode cL_metres 17 = .ok (.ireturn, 1) := by decide +kernel
set_option maxRecDepth 20000 in
theorem ggL_average_X3_average : GoodIn wsL_average wsX3_average := goodIn_ca (goodIn_r _ [6, 7, 8, 9, 10, 11, 12, 5, 13, 14, 15, 16, 17, 18, 19, 20, 21, 22, 23, 24, 25, 26, 27, 28, 29, 30, 31, 32, 33, 34, 35, 36, 37, 38, 39, 40, 41, 42, 43, 44, 45, 46, 47, 48, 49, 50, 51, 52, 53, 54, 55, 56, 57, 58, 59, 60] (by decide +kernel) (by decide +kernel)) (goodIn_sub (fun _ h => List.mem_cons_of_mem _ (List.mem_append_right _ h)) (by decide +kernel))
set_option maxRecDepth 20000 in
theorem gL_average_X3_average : GoodIn wsL_average (wsV RL 19 RX3 yX3_average wsX3_average) := goodIn_app (goodIn_of _ (by decide +kernel)) ggL_average_X3_average
theorem dL_average_0 : decode cL_average 0 = .ok (.aload 4, 2) := by decide +kernel
theorem dL_average_2 : decode cL_average 2 = .ok (.iconst 0, 1) := by decide +kernel
theorem dL_average_3 : decode cL_average 3 = .ok (.aload_n 0, 1) := by decide +kernel
theorem dL_average_4 : decode cL_average 4 = .ok (.iload_n 1, 1) := by decide +kernel
theorem dL_average_5 : decode cL_average 5 = .ok (.iload_n 2, 1) := by decide +kernel
theorem dL_average_6 : decode cL_average 6 = .ok (.iload_n 3, 1) := by decide +kernel
theorem dL_average_7 : decode cL_average 7 = .ok (.invokevirtual 19, 3) := by decide +kernel
theorem dL_average_10 : decode cL_average 10 = .ok (.lastore, 1) := by decide +kernel
theorem dL_average_11 : decode cL_average 11 = .ok (.goto 7, 3) := by decide +kernel
theorem dL_average_14 : decode cL_average 14 = .ok (.astore 5, 2) := by decide +kernel
theorem dL_average_16 : decode cL_average 16 = .ok (.iconst 1, 1) := by decide +kernel
theorem dL_average_17 : decode cL_average 17 = .ok (.ireturn, 1) := by decide +kernel
theorem dL_average_18 : decode cL_average 18 = .ok (.iconst 0, 1) := by decide +kernel
theorem dL_average_19 : decode cL_average 19 = .ok (.ireturn, 1) := by decide +kernel
set_option maxRecDepth 20000 in
theorem ggL_refill_X3_refill : GoodIn wsL_refill wsX3_refill := goodIn_ca (goodIn_r _ [6, 7, 8, 9, 10, 11, 12, 13, 14, 15, 16, 17, 18, 19, 20, 21, 22, 23, 24, 25, 26, 27, 28, 29, 30, 31, 32, 33, 34, 35, 36, 37, 38, 39, 40, 41, 42, 43, 44, 45, 46, 47, 48, 49, 50, 51, 52, 53] (by decide +kernel) (by decide +kernel)) (goodIn_sub (fun _ h => List.mem_cons_of_mem _ (List.mem_append_right _ h)) (by decide +kernel))
set_option maxRecDepth 20000 in
theorem gL_refill_X3_refill : GoodIn wsL_refill (wsV RL 23 RX3 yX3_refill wsX3_refill) := goodIn_app (goodIn_of _ (by decide +kernel)) ggL_refill_X3_refill
theorem dL_refill_0 : decode cL_refill 0 = .ok (.aload_n 3, 1) := by decide +kernel
theorem dL_refill_1 : decode cL_refill 1 = .ok (.iconst 0, 1) := by decide +kernel
theorem dL_refill_2 : decode cL_refill 2 = .ok (.aload_n 0, 1) := by decide +kernel
theorem dL_refill_3 : decode cL_refill 3 = .ok (.iload_n 1, 1) := by decide +kernel
theorem dL_refill_4 : decode cL_refill 4 = .ok (.iload_n 2, 1) := by decide +kernel
theorem dL_refill_5 : decode cL_refill 5 = .ok (.invokevirtual 23, 3) := by decide +kernel
theorem dL_refill_8 : decode cL_refill 8 = .ok (.i2l, 1) := by decide +kernel
theorem dL_refill_9 : decode cL_refill 9 = .ok (.lastore, 1) := by decide +kernel
theorem dL_refill_10 : decode cL_refill 10 = .ok (.goto 7, 3) := by decide +kernel
theorem dL_refill_13 : decode cL_refill 13 = .ok (.astore 4, 2) := by decide +kernel
theorem dL_refill_15 : decode cL_refill 15 = .ok (.iconst 1, 1) := by decide +kernel
theorem dL_refill_16 : decode cL_refill 16 = .ok (.ireturn, 1) := by decide +kernel
theorem dL_refill_17 : decode cL_refill 17 = .ok (.iconst 0, 1) := by decide +kernel
theorem dL_refill_18 : decode cL_refill 18 = .ok (.ireturn, 1) := by decide +kernel
set_option maxRecDepth 20000 in
theorem ggL_law_X3_init : GoodIn wsL_law wsX3_init := goodIn_r _ [9, 10, 11, 12, 13, 14, 15, 16, 17, 18, 19, 20, 21, 22, 23, 24, 25, 26, 27, 28, 29, 30, 31, 32, 33, 34, 35, 36, 37, 6, 38, 39, 40, 41, 42, 43, 44, 45, 46, 47, 48, 49, 50, 51, 52, 53, 54, 55, 56, 57, 58, 59, 60, 61, 62, 63, 64, 65, 66, 67, 68, 69, 70, 71, 534, 535, 536, 537, 538, 539, 540, 541, 542, 543, 544, 545, 546, 547, 548, 505, 506, 507, 508, 509, 510, 511, 512, 513, 514, 515, 516, 549, 550, 551, 552, 553, 554, 555, 556, 557] (by decide +kernel) (by decide +kernel)
set_option maxRecDepth 20000 in
theorem gL_law_X3_init : GoodIn wsL_law (wsX3_init) := ggL_law_X3_init
set_option maxRecDepth 20000 in
theorem ggL_law_X4_init : GoodIn wsL_law wsX4_init := goodIn_r _ [74, 75, 11, 12, 39, 76, 6, 77, 78, 79, 80, 81, 82, 83, 84, 85, 86, 87, 88, 517, 518, 519, 520, 521, 522, 523, 524, 525, 526, 527, 528, 529, 530, 531, 532, 533] (by decide +kernel) (by decide +kernel)
set_option maxRecDepth 20000 in
theorem gL_law_X4_init : GoodIn wsL_law (wsX4_init) := ggL_law_X4_init
set_option maxRecDepth 20000 in
theorem ggL_law_X3_feed : GoodIn wsL_law wsX3_feed := goodIn_r _ [92, 21, 93, 20, 94, 95, 46, 96, 97, 98, 45, 505, 506, 507, 508, 509, 510, 511, 512, 513, 514, 515, 516, 549, 550] (by decide +kernel) (by decide +kernel)
set_option maxRecDepth 20000 in
theorem gL_law_X3_feed : GoodIn wsL_law (wsV RL 31 RX3 yX3_feed wsX3_feed) := goodIn_app (goodIn_of _ (by decide +kernel)) ggL_law_X3_feed
set_option maxRecDepth 20000 in
theorem ggL_law_X4_feed : GoodIn wsL_law wsX4_feed := goodIn_r _ [102, 103, 104, 105, 106, 107, 5, 108, 76, 517, 518, 519, 520, 521, 522, 523, 524, 525, 526, 527, 528, 529, 530, 531, 532, 533] (by decide +kernel) (by decide +kernel)
set_option maxRecDepth 20000 in
theorem gL_law_X4_feed : GoodIn wsL_law (wsV RL 35 RX4 yX4_feed wsX4_feed) := goodIn_app (goodIn_of _ (by decide +kernel)) ggL_law_X4_feed
set_option maxRecDepth 20000 in
theorem ggL_law_X3_end : GoodIn wsL_law wsX3_end := goodIn_r _ [112, 21, 113, 20, 114, 115, 46, 505, 506, 507, 508, 509, 510, 511, 512, 513, 514, 515, 516, 549, 550] (by decide +kernel) (by decide +kernel)
set_option maxRecDepth 20000 in
theorem gL_law_X3_end : GoodIn wsL_law (wsV RL 36 RX3 yX3_end wsX3_end) := goodIn_app (goodIn_of _ (by decide +kernel)) ggL_law_X3_end
set_option maxRecDepth 20000 in
theorem ggL_law_X4_end : GoodIn wsL_law wsX4_end := goodIn_r _ [119, 103, 104, 517, 518, 519, 520, 521, 522, 523, 524, 525, 526, 527, 528, 529, 530, 531, 532, 533] (by decide +kernel) (by decide +kernel)
set_option maxRecDepth 20000 in
theorem gL_law_X4_end : GoodIn wsL_law (wsV RL 40 RX4 yX4_end wsX4_end) := goodIn_app (goodIn_of _ (by decide +kernel)) ggL_law_X4_end
set_option maxRecDepth 20000 in
theorem ggL_law_X3_car : GoodIn wsL_law wsX3_car := goodIn_r _ [123, 124, 27, 28, 29, 34, 16, 17, 125, 126, 2, 127, 57, 15, 58, 59, 60, 61, 62, 63, 64, 65, 66, 67, 68, 69, 70, 71, 38, 505, 506, 507, 508, 509, 510, 511, 512, 513, 514, 515, 516, 534, 535, 536, 537, 538, 539, 540, 541, 542, 543, 544, 545, 546, 547, 548] (by decide +kernel) (by decide +kernel)
set_option maxRecDepth 20000 in
theorem gL_law_X3_car : GoodIn wsL_law (wsV RL 41 RX3 yX3_car wsX3_car) := goodIn_app (goodIn_of _ (by decide +kernel)) ggL_law_X3_car
set_option maxRecDepth 20000 in
theorem ggL_law_X4_car : GoodIn wsL_law wsX4_car := goodIn_r _ [131, 103, 132, 80, 81, 82, 133, 134, 135, 5, 136, 137, 138, 139, 140, 77, 141, 142, 143, 144, 145, 78, 517, 518, 519, 520, 521, 522, 523, 524, 525, 526, 527, 528, 529, 530, 531, 532, 533] (by decide +kernel) (by decide +kernel)
set_option maxRecDepth 20000 in
theorem gL_law_X4_car : GoodIn wsL_law (wsV RL 45 RX4 yX4_car wsX4_car) := goodIn_app (goodIn_of _ (by decide +kernel)) ggL_law_X4_car
set_option maxRecDepth 20000 in
theorem ggL_law_X3_bounds : GoodIn wsL_law wsX3_bounds := goodIn_r _ [149, 30, 31, 32, 33, 150, 151, 2, 152, 125, 126, 127, 505, 506, 507, 508, 509, 510, 511, 512, 513, 514, 515, 516] (by decide +kernel) (by decide +kernel)
set_option maxRecDepth 20000 in
theorem gL_law_X3_bounds : GoodIn wsL_law (wsV RL 46 RX3 yX3_bounds wsX3_bounds) := goodIn_app (goodIn_of _ (by decide +kernel)) ggL_law_X3_bounds
set_option maxRecDepth 20000 in
theorem ggL_law_X4_bounds : GoodIn wsL_law wsX4_bounds := goodIn_r _ [156, 103, 83, 84, 85, 86, 134, 135, 5, 136, 517, 518, 519, 520, 521, 522, 523, 524, 525, 526, 527, 528, 529, 530, 531, 532, 533] (by decide +kernel) (by decide +kernel)
set_option maxRecDepth 20000 in
theorem gL_law_X4_bounds : GoodIn wsL_law (wsV RL 50 RX4 yX4_bounds wsX4_bounds) := goodIn_app (goodIn_of _ (by decide +kernel)) ggL_law_X4_bounds
set_option maxRecDepth 20000 in
theorem ggL_law_X3_drive : GoodIn wsL_law wsX3_drive := goodIn_r _ [160, 161, 34, 162, 16, 125, 126, 2, 127, 163, 15, 164, 165, 38, 166, 167, 168, 169, 170, 61, 64, 67, 60, 171, 172, 173, 174, 175, 176, 177, 66, 178, 179, 180, 181, 182, 183, 184, 185, 505, 506, 507, 508, 509, 510, 511, 512, 513, 514, 515, 516, 534, 535, 536, 537, 538, 539, 540, 541, 542, 543, 544, 545, 546, 547, 548] (by decide +kernel) (by decide +kernel)
set_option maxRecDepth 20000 in
theorem gL_law_X3_drive : GoodIn wsL_law (wsV RL 51 RX3 yX3_drive wsX3_drive) := goodIn_app (goodIn_of _ (by decide +kernel)) ggL_law_X3_drive
set_option maxRecDepth 20000 in
theorem ggL_law_X4_drive : GoodIn wsL_law wsX4_drive := goodIn_r _ [189, 103, 190, 141, 191, 77, 137, 138, 139, 5, 140, 133, 80, 142, 143, 144, 145, 78, 134, 135, 136, 192, 193, 194, 195, 196, 197, 198, 199, 200, 201, 202, 203, 204, 205, 206, 207, 517, 518, 519, 520, 521, 522, 523, 524, 525, 526, 527, 528, 529, 530, 531, 532, 533] (by decide +kernel) (by decide +kernel)
set_option maxRecDepth 20000 in
theorem gL_law_X4_drive : GoodIn wsL_law (wsV RL 54 RX4 yX4_drive wsX4_drive) := goodIn_app (goodIn_of _ (by decide +kernel)) ggL_law_X4_drive
set_option maxRecDepth 20000 in
theorem ggL_law_X3_gap : GoodIn wsL_law wsX3_gap := goodIn_r _ [211, 212, 213, 214, 2, 215, 216, 34, 30, 162, 125, 126, 127, 217, 218, 219, 220, 31, 16, 163, 15, 164, 165, 38, 166, 167, 221, 222, 223, 60, 171, 172, 173, 174, 175, 176, 177, 66, 178, 179, 180, 181, 61, 182, 183, 184, 185, 505, 506, 507, 508, 509, 510, 511, 512, 513, 514, 515, 516, 534, 535, 536, 537, 538, 539, 540, 541, 542, 543, 544, 545, 546, 547, 548] (by decide +kernel) (by decide +kernel)
set_option maxRecDepth 20000 in
theorem gL_law_X3_gap : GoodIn wsL_law (wsV RL 55 RX3 yX3_gap wsX3_gap) := goodIn_app (goodIn_of _ (by decide +kernel)) ggL_law_X3_gap
set_option maxRecDepth 20000 in
theorem ggL_law_X4_gap : GoodIn wsL_law wsX4_gap := goodIn_r _ [227, 103, 137, 138, 139, 5, 140, 133, 77, 80, 141, 142, 143, 144, 145, 78, 228, 229, 230, 231, 232, 83, 191, 134, 135, 136, 233, 234, 235, 236, 84, 192, 193, 194, 195, 196, 197, 198, 199, 200, 201, 202, 203, 204, 205, 206, 207, 517, 518, 519, 520, 521, 522, 523, 524, 525, 526, 527, 528, 529, 530, 531, 532, 533] (by decide +kernel) (by decide +kernel)
set_option maxRecDepth 20000 in
theorem gL_law_X4_gap : GoodIn wsL_law (wsV RL 58 RX4 yX4_gap wsX4_gap) := goodIn_app (goodIn_of _ (by decide +kernel)) ggL_law_X4_gap
set_option maxRecDepth 20000 in
theorem ggL_law_X3_tells : GoodIn wsL_law wsX3_tells := goodIn_r _ [240, 27, 29, 241, 172, 173, 174, 242, 243, 244, 16, 125, 126, 2, 127, 245, 15, 246, 247, 62, 40, 61, 41, 60, 67, 248, 249, 166, 167, 250, 251, 252, 253, 254, 255, 256, 68, 69, 70, 71, 38, 257, 258, 259, 260, 66, 65, 178, 179, 180, 181, 261, 262, 263, 63, 264, 265, 266, 171, 267, 268, 269, 270, 271, 272, 273, 274, 275, 276, 277, 278, 175, 176, 177, 182, 183, 184, 185, 505, 506, 507, 508, 509, 510, 511, 512, 513, 514, 515, 516, 534, 535, 536, 537, 538, 539, 540, 541, 542, 543, 544, 545, 546, 547, 548] (by decide +kernel) (by decide +kernel)
set_option maxRecDepth 20000 in
theorem gL_law_X3_tells : GoodIn wsL_law (wsV RL 59 RX3 yX3_tells wsX3_tells) := goodIn_app (goodIn_of _ (by decide +kernel)) ggL_law_X3_tells
set_option maxRecDepth 20000 in
theorem ggL_law_X4_tells : GoodIn wsL_law wsX4_tells := goodIn_r _ [282, 103, 82, 80, 283, 77, 137, 138, 139, 5, 140, 133, 141, 142, 143, 144, 145, 78, 134, 135, 136, 284, 285, 286, 287, 288, 289, 290, 291, 199, 200, 201, 202, 203, 204, 205, 206, 207, 292, 293, 294, 295, 296, 297, 298, 299, 517, 518, 519, 520, 521, 522, 523, 524, 525, 526, 527, 528, 529, 530, 531, 532, 533] (by decide +kernel) (by decide +kernel)
set_option maxRecDepth 20000 in
theorem gL_law_X4_tells : GoodIn wsL_law (wsV RL 63 RX4 yX4_tells wsX4_tells) := goodIn_app (goodIn_of _ (by decide +kernel)) ggL_law_X4_tells
set_option maxRecDepth 20000 in
theorem ggL_law_X3_set : GoodIn wsL_law wsX3_set := goodIn_r _ [303, 16, 304, 305, 2, 306, 125, 126, 127, 69, 15, 70, 71, 38, 505, 506, 507, 508, 509, 510, 511, 512, 513, 514, 515, 516, 534, 535, 536, 537, 538, 539, 540, 541, 542, 543, 544, 545, 546, 547, 548] (by decide +kernel) (by decide +kernel)
set_option maxRecDepth 20000 in
theorem gL_law_X3_set : GoodIn wsL_law (wsV RL 64 RX3 yX3_set wsX3_set) := goodIn_app (goodIn_of _ (by decide +kernel)) ggL_law_X3_set
set_option maxRecDepth 20000 in
theorem ggL_law_X4_set : GoodIn wsL_law wsX4_set := goodIn_r _ [310, 103, 137, 138, 139, 5, 140, 133, 77, 80, 141, 142, 143, 144, 145, 78, 292, 293, 294, 295, 517, 518, 519, 520, 521, 522, 523, 524, 525, 526, 527, 528, 529, 530, 531, 532, 533] (by decide +kernel) (by decide +kernel)
set_option maxRecDepth 20000 in
theorem gL_law_X4_set : GoodIn wsL_law (wsV RL 67 RX4 yX4_set wsX4_set) := goodIn_app (goodIn_of _ (by decide +kernel)) ggL_law_X4_set
set_option maxRecDepth 20000 in
theorem ggL_law_X3_keep : GoodIn wsL_law wsX3_keep := goodIn_r _ [314, 17, 16, 315, 15, 316, 317, 60, 61, 62, 63, 64, 65, 66, 67, 248, 249, 166, 167, 38, 318, 319, 320, 321, 40, 41, 505, 506, 507, 508, 509, 510, 511, 512, 513, 514, 515, 516, 534, 535, 536, 537, 538, 539, 540, 541, 542, 543, 544, 545, 546, 547, 548] (by decide +kernel) (by decide +kernel)
set_option maxRecDepth 20000 in
theorem gL_law_X3_keep : GoodIn wsL_law (wsV RL 68 RX3 yX3_keep wsX3_keep) := goodIn_app (goodIn_of _ (by decide +kernel)) ggL_law_X3_keep
set_option maxRecDepth 20000 in
theorem ggL_law_X4_keep : GoodIn wsL_law wsX4_keep := goodIn_r _ [325, 103, 137, 138, 139, 5, 140, 133, 77, 80, 141, 142, 143, 144, 145, 78, 517, 518, 519, 520, 521, 522, 523, 524, 525, 526, 527, 528, 529, 530, 531, 532, 533] (by decide +kernel) (by decide +kernel)
set_option maxRecDepth 20000 in
theorem gL_law_X4_keep : GoodIn wsL_law (wsV RL 71 RX4 yX4_keep wsX4_keep) := goodIn_app (goodIn_of _ (by decide +kernel)) ggL_law_X4_keep
set_option maxRecDepth 20000 in
theorem ggL_law_X3_dead : GoodIn wsL_law wsX3_dead := goodIn_r _ [329, 16, 17, 212, 213, 214, 2, 215, 216, 34, 30, 162, 125, 126, 127, 315, 15, 316, 317, 60, 61, 62, 63, 64, 65, 66, 67, 248, 249, 166, 167, 38, 318, 319, 320, 321, 40, 41, 217, 218, 219, 220, 31, 163, 164, 165, 221, 222, 223, 171, 172, 173, 174, 175, 176, 177, 178, 179, 180, 181, 182, 183, 184, 185, 505, 506, 507, 508, 509, 510, 511, 512, 513, 514, 515, 516, 534, 535, 536, 537, 538, 539, 540, 541, 542, 543, 544, 545, 546, 547, 548] (by decide +kernel) (by decide +kernel)
set_option maxRecDepth 20000 in
theorem gL_law_X3_dead : GoodIn wsL_law (wsV RL 72 RX3 yX3_dead wsX3_dead) := goodIn_app (goodIn_of _ (by decide +kernel)) ggL_law_X3_dead
set_option maxRecDepth 20000 in
theorem ggL_law_X4_dead : GoodIn wsL_law wsX4_dead := goodIn_r _ [333, 103, 77, 78, 137, 138, 139, 5, 140, 133, 80, 141, 142, 143, 144, 145, 228, 229, 230, 231, 232, 83, 191, 134, 135, 136, 233, 234, 235, 236, 84, 192, 193, 194, 195, 196, 197, 198, 199, 200, 201, 202, 203, 204, 205, 206, 207, 517, 518, 519, 520, 521, 522, 523, 524, 525, 526, 527, 528, 529, 530, 531, 532, 533] (by decide +kernel) (by decide +kernel)
set_option maxRecDepth 20000 in
theorem gL_law_X4_dead : GoodIn wsL_law (wsV RL 75 RX4 yX4_dead wsX4_dead) := goodIn_app (goodIn_of _ (by decide +kernel)) ggL_law_X4_dead
set_option maxRecDepth 20000 in
theorem ggL_law_X3_span : GoodIn wsL_law wsX3_span := goodIn_r _ [337, 16, 505, 506, 507, 508, 509, 510, 511, 512, 513, 514, 515, 516, 534, 535, 536, 537, 538, 539, 540, 541, 542, 543, 544, 545, 546, 547, 548] (by decide +kernel) (by decide +kernel)
set_option maxRecDepth 20000 in
theorem gL_law_X3_span : GoodIn wsL_law (wsV RL 76 RX3 yX3_span wsX3_span) := goodIn_app (goodIn_of _ (by decide +kernel)) ggL_law_X3_span
set_option maxRecDepth 20000 in
theorem ggL_law_X4_span : GoodIn wsL_law wsX4_span := goodIn_r _ [341, 103, 77, 137, 138, 139, 5, 140, 133, 80, 141, 142, 143, 144, 145, 78, 517, 518, 519, 520, 521, 522, 523, 524, 525, 526, 527, 528, 529, 530, 531, 532, 533] (by decide +kernel) (by decide +kernel)
set_option maxRecDepth 20000 in
theorem gL_law_X4_span : GoodIn wsL_law (wsV RL 80 RX4 yX4_span wsX4_span) := goodIn_app (goodIn_of _ (by decide +kernel)) ggL_law_X4_span
set_option maxRecDepth 20000 in
theorem ggL_law_L_mark : GoodIn wsL_law wsL_mark := goodIn_ca (goodIn_r _ [345, 346, 347, 348, 349, 2, 350, 351, 352, 16, 304, 305, 306, 125, 126, 127, 353, 15, 354, 355, 38, 505, 506, 507, 508, 509, 510, 511, 512, 513, 514, 515, 516, 534, 535, 536, 537, 538, 539, 540, 541, 542, 543, 544, 545, 546, 547, 548] (by decide +kernel) (by decide +kernel)) (goodIn_sub (fun _ h => List.mem_append_right _ h) (by decide +kernel))
set_option maxRecDepth 20000 in
theorem gL_law_L_mark : GoodIn wsL_law (va_wsS RL 81 yL_mark wsL_mark) := goodIn_app (goodIn_of _ (by decide +kernel)) ggL_law_L_mark
set_option maxRecDepth 20000 in
theorem ggL_law_X4_mark : GoodIn wsL_law wsX4_mark := goodIn_r _ [359, 103, 77, 137, 138, 139, 5, 140, 133, 80, 141, 142, 143, 144, 145, 78, 360, 361, 362, 363, 364, 365, 366, 517, 518, 519, 520, 521, 522, 523, 524, 525, 526, 527, 528, 529, 530, 531, 532, 533] (by decide +kernel) (by decide +kernel)
set_option maxRecDepth 20000 in
theorem gL_law_X4_mark : GoodIn wsL_law (wsV RL 86 RX4 yX4_mark wsX4_mark) := goodIn_app (goodIn_of _ (by decide +kernel)) ggL_law_X4_mark
set_option maxRecDepth 20000 in
theorem ggL_law_X4_thrown : GoodIn wsL_law wsX4_thrown := goodIn_r _ [370, 103, 517, 518, 519, 520, 521, 522, 523, 524, 525, 526, 527, 528, 529, 530, 531, 532, 533] (by decide +kernel) (by decide +kernel)
set_option maxRecDepth 20000 in
theorem gL_law_X4_thrown : GoodIn wsL_law (wsV RL 87 RX4 yX4_thrown wsX4_thrown) := goodIn_app (goodIn_of _ (by decide +kernel)) ggL_law_X4_thrown
set_option maxRecDepth 20000 in
theorem ggL_law_L_metres : GoodIn wsL_law wsL_metres := goodIn_ca (goodIn_r _ [373, 346, 374, 375, 376, 2, 377, 351, 352, 378, 304, 305, 306, 125, 126, 127, 379, 380, 381, 382, 16, 28, 353, 15, 354, 355, 38, 505, 506, 507, 508, 509, 510, 511, 512, 513, 514, 515, 516, 534, 535, 536, 537, 538, 539, 540, 541, 542, 543, 544, 545, 546, 547, 548] (by decide +kernel) (by decide +kernel)) (goodIn_sub (fun _ h => List.mem_append_right _ h) (by decide +kernel))
set_option maxRecDepth 20000 in
theorem gL_law_L_metres : GoodIn wsL_law (va_wsS RL 91 yL_metres wsL_metres) := goodIn_app (goodIn_of _ (by decide +kernel)) ggL_law_L_metres
set_option maxRecDepth 20000 in
theorem ggL_law_X4_metres : GoodIn wsL_law wsX4_metres := goodIn_r _ [386, 103, 77, 81, 387, 137, 138, 139, 5, 140, 133, 80, 141, 142, 143, 144, 145, 78, 360, 361, 362, 363, 364, 365, 366, 517, 518, 519, 520, 521, 522, 523, 524, 525, 526, 527, 528, 529, 530, 531, 532, 533] (by decide +kernel) (by decide +kernel)
set_option maxRecDepth 20000 in
theorem gL_law_X4_metres : GoodIn wsL_law (wsV RL 94 RX4 yX4_metres wsX4_metres) := goodIn_app (goodIn_of _ (by decide +kernel)) ggL_law_X4_metres
set_option maxRecDepth 20000 in
theorem ggL_law_L_average : GoodIn wsL_law wsL_average := goodIn_ca (goodIn_r _ [390, 346, 391, 392, 393, 2, 394, 351, 352, 16, 395, 304, 305, 306, 125, 126, 127, 379, 380, 381, 382, 28, 353, 15, 354, 355, 38, 396, 397, 398, 399, 273, 173, 274, 505, 506, 507, 508, 509, 510, 511, 512, 513, 514, 515, 516, 534, 535, 536, 537, 538, 539, 540, 541, 542, 543, 544, 545, 546, 547, 548] (by decide +kernel) (by decide +kernel)) (goodIn_sub (fun _ h => List.mem_append_right _ h) (by decide +kernel))
set_option maxRecDepth 20000 in
theorem gL_law_L_average : GoodIn wsL_law (va_wsS RL 95 yL_average wsL_average) := goodIn_app (goodIn_of _ (by decide +kernel)) ggL_law_L_average
set_option maxRecDepth 20000 in
theorem ggL_law_X4_average : GoodIn wsL_law wsX4_average := goodIn_r _ [403, 77, 81, 103, 404, 137, 138, 139, 5, 140, 133, 80, 141, 142, 143, 144, 145, 78, 360, 361, 362, 363, 364, 365, 366, 405, 406, 407, 517, 518, 519, 520, 521, 522, 523, 524, 525, 526, 527, 528, 529, 530, 531, 532, 533] (by decide +kernel) (by decide +kernel)
set_option maxRecDepth 20000 in
theorem gL_law_X4_average : GoodIn wsL_law (wsV RL 98 RX4 yX4_average wsX4_average) := goodIn_app (goodIn_of _ (by decide +kernel)) ggL_law_X4_average
set_option maxRecDepth 20000 in
theorem ggL_law_X3_range : GoodIn wsL_law wsX3_range := goodIn_r _ [411, 16, 32, 33, 412, 413, 2, 414, 505, 506, 507, 508, 509, 510, 511, 512, 513, 514, 515, 516, 534, 535, 536, 537, 538, 539, 540, 541, 542, 543, 544, 545, 546, 547, 548] (by decide +kernel) (by decide +kernel)
set_option maxRecDepth 20000 in
theorem gL_law_X3_range : GoodIn wsL_law (wsV RL 99 RX3 yX3_range wsX3_range) := goodIn_app (goodIn_of _ (by decide +kernel)) ggL_law_X3_range
set_option maxRecDepth 20000 in
theorem ggL_law_X4_range : GoodIn wsL_law wsX4_range := goodIn_r _ [418, 103, 77, 85, 86, 137, 138, 139, 5, 140, 133, 80, 141, 142, 143, 144, 145, 78, 517, 518, 519, 520, 521, 522, 523, 524, 525, 526, 527, 528, 529, 530, 531, 532, 533] (by decide +kernel) (by decide +kernel)
set_option maxRecDepth 20000 in
theorem gL_law_X4_range : GoodIn wsL_law (wsV RL 102 RX4 yX4_range wsX4_range) := goodIn_app (goodIn_of _ (by decide +kernel)) ggL_law_X4_range
set_option maxRecDepth 20000 in
theorem ggL_law_X3_shown : GoodIn wsL_law wsX3_shown := goodIn_r _ [422, 16, 505, 506, 507, 508, 509, 510, 511, 512, 513, 514, 515, 516, 534, 535, 536, 537, 538, 539, 540, 541, 542, 543, 544, 545, 546, 547, 548] (by decide +kernel) (by decide +kernel)
set_option maxRecDepth 20000 in
theorem gL_law_X3_shown : GoodIn wsL_law (wsV RL 103 RX3 yX3_shown wsX3_shown) := goodIn_app (goodIn_of _ (by decide +kernel)) ggL_law_X3_shown
set_option maxRecDepth 20000 in
theorem ggL_law_X4_shown : GoodIn wsL_law wsX4_shown := goodIn_r _ [426, 103, 77, 137, 138, 139, 5, 140, 133, 80, 141, 142, 143, 144, 145, 78, 517, 518, 519, 520, 521, 522, 523, 524, 525, 526, 527, 528, 529, 530, 531, 532, 533] (by decide +kernel) (by decide +kernel)
set_option maxRecDepth 20000 in
theorem gL_law_X4_shown : GoodIn wsL_law (wsV RL 106 RX4 yX4_shown wsX4_shown) := goodIn_app (goodIn_of _ (by decide +kernel)) ggL_law_X4_shown
set_option maxRecDepth 20000 in
theorem ggL_law_L_refill : GoodIn wsL_law wsL_refill := goodIn_ca (goodIn_r _ [429, 346, 430, 431, 432, 2, 433, 351, 352, 16, 434, 15, 435, 436, 62, 437, 438, 439, 41, 40, 250, 251, 252, 253, 254, 255, 256, 505, 506, 507, 508, 509, 510, 511, 512, 513, 514, 515, 516, 534, 535, 536, 537, 538, 539, 540, 541, 542, 543, 544, 545, 546, 547, 548] (by decide +kernel) (by decide +kernel)) (goodIn_sub (fun _ h => List.mem_append_right _ h) (by decide +kernel))
set_option maxRecDepth 20000 in
theorem gL_law_L_refill : GoodIn wsL_law (va_wsS RL 107 yL_refill wsL_refill) := goodIn_app (goodIn_of _ (by decide +kernel)) ggL_law_L_refill
set_option maxRecDepth 20000 in
theorem ggL_law_X4_refill : GoodIn wsL_law wsX4_refill := goodIn_r _ [443, 77, 291, 103, 137, 138, 139, 5, 140, 133, 80, 141, 142, 143, 144, 145, 78, 363, 364, 365, 366, 288, 289, 290, 517, 518, 519, 520, 521, 522, 523, 524, 525, 526, 527, 528, 529, 530, 531, 532, 533] (by decide +kernel) (by decide +kernel)
set_option maxRecDepth 20000 in
theorem gL_law_X4_refill : GoodIn wsL_law (wsV RL 109 RX4 yX4_refill wsX4_refill) := goodIn_app (goodIn_of _ (by decide +kernel)) ggL_law_X4_refill
set_option maxRecDepth 20000 in
theorem ggL_law_X3_plan : GoodIn wsL_law wsX3_plan := goodIn_r _ [447, 25, 21, 33, 16, 27, 448, 24, 449, 450, 55, 50, 51, 113, 20, 114, 115, 46, 451, 452, 453, 454, 243, 173, 244, 52, 455, 456, 457, 458, 459, 460, 461, 462, 463, 53, 464, 465, 466, 467, 54, 56, 126, 2, 127, 505, 506, 507, 508, 509, 510, 511, 512, 513, 514, 515, 516, 534, 535, 536, 537, 538, 539, 540, 541, 542, 543, 544, 545, 546, 547, 548, 549, 550, 551, 552, 553, 554, 555, 556, 557] (by decide +kernel) (by decide +kernel)
set_option maxRecDepth 20000 in
theorem gL_law_X3_plan : GoodIn wsL_law (wsV RL 110 RX3 yX3_plan wsX3_plan) := goodIn_app (goodIn_of _ (by decide +kernel)) ggL_law_X3_plan
set_option maxRecDepth 20000 in
theorem ggL_law_X4_plan : GoodIn wsL_law wsX4_plan := goodIn_r _ [471, 103, 104, 76, 80, 77, 472, 87, 473, 88, 137, 138, 139, 5, 140, 133, 141, 142, 143, 144, 145, 78, 474, 475, 476, 477, 478, 479, 480, 481, 86, 482, 483, 484, 485, 517, 518, 519, 520, 521, 522, 523, 524, 525, 526, 527, 528, 529, 530, 531, 532, 533] (by decide +kernel) (by decide +kernel)
set_option maxRecDepth 20000 in
theorem gL_law_X4_plan : GoodIn wsL_law (wsV RL 113 RX4 yX4_plan wsX4_plan) := goodIn_app (goodIn_of _ (by decide +kernel)) ggL_law_X4_plan
set_option maxRecDepth 20000 in
theorem ggL_law_X3_buys : GoodIn wsL_law wsX3_buys := goodIn_r _ [489, 25, 490, 24, 491, 492, 56, 54, 505, 506, 507, 508, 509, 510, 511, 512, 513, 514, 515, 516, 551, 552, 553, 554, 555, 556, 557] (by decide +kernel) (by decide +kernel)
set_option maxRecDepth 20000 in
theorem gL_law_X3_buys : GoodIn wsL_law (wsV RL 114 RX3 yX3_buys wsX3_buys) := goodIn_app (goodIn_of _ (by decide +kernel)) ggL_law_X3_buys
set_option maxRecDepth 20000 in
theorem ggL_law_X4_buys : GoodIn wsL_law wsX4_buys := goodIn_r _ [496, 103, 473, 88, 517, 518, 519, 520, 521, 522, 523, 524, 525, 526, 527, 528, 529, 530, 531, 532, 533] (by decide +kernel) (by decide +kernel)
set_option maxRecDepth 20000 in
theorem gL_law_X4_buys : GoodIn wsL_law (wsV RL 117 RX4 yX4_buys wsX4_buys) := goodIn_app (goodIn_of _ (by decide +kernel)) ggL_law_X4_buys
set_option maxRecDepth 20000 in
theorem ggL_law_X3_count : GoodIn wsL_law wsX3_count := goodIn_r _ [500, 16, 21, 505, 506, 507, 508, 509, 510, 511, 512, 513, 514, 515, 516, 534, 535, 536, 537, 538, 539, 540, 541, 542, 543, 544, 545, 546, 547, 548, 549, 550] (by decide +kernel) (by decide +kernel)
set_option maxRecDepth 20000 in
theorem gL_law_X3_count : GoodIn wsL_law (wsV RL 118 RX3 yX3_count wsX3_count) := goodIn_app (goodIn_of _ (by decide +kernel)) ggL_law_X3_count
set_option maxRecDepth 20000 in
theorem ggL_law_X4_count : GoodIn wsL_law wsX4_count := goodIn_r _ [504, 103, 77, 104, 137, 138, 139, 5, 140, 133, 80, 141, 142, 143, 144, 145, 78, 517, 518, 519, 520, 521, 522, 523, 524, 525, 526, 527, 528, 529, 530, 531, 532, 533] (by decide +kernel) (by decide +kernel)
set_option maxRecDepth 20000 in
theorem gL_law_X4_count : GoodIn wsL_law (wsV RL 121 RX4 yX4_count wsX4_count) := goodIn_app (goodIn_of _ (by decide +kernel)) ggL_law_X4_count
