set_option maxRecDepth 20000 in
theorem ggY_X3_init : GoodIn wsY_law wsX3_init := goodIn_r _ [9, 10, 11, 12, 13, 14, 15, 16, 17, 18, 19, 20, 21, 22, 23, 24, 25, 26, 27, 28, 29, 30, 31, 32, 33, 34, 35, 36, 37, 6, 38, 39, 40, 41, 42, 43, 44, 45, 46, 47, 48, 49, 50, 51, 52, 53, 54, 55, 56, 57, 58, 59, 60, 61, 62, 63, 64, 65, 66, 67, 68, 69, 70, 71, 534, 535, 536, 537, 538, 539, 540, 541, 542, 543, 544, 545, 546, 547, 548, 505, 506, 507, 508, 509, 510, 511, 512, 513, 514, 515, 516, 549, 550, 551, 552, 553, 554, 555, 556, 557] (by decide +kernel) (by decide +kernel)
theorem gY_X3_init : GoodIn wsY_law (wsX3_init) := ggY_X3_init
set_option maxRecDepth 20000 in
theorem ggY_X4_init : GoodIn wsY_law wsX4_init := goodIn_r _ [74, 75, 11, 12, 39, 76, 6, 77, 78, 79, 80, 81, 82, 83, 84, 85, 86, 87, 88, 517, 518, 519, 520, 521, 522, 523, 524, 525, 526, 527, 528, 529, 530, 531, 532, 533] (by decide +kernel) (by decide +kernel)
theorem gY_X4_init : GoodIn wsY_law (wsX4_init) := ggY_X4_init
set_option maxRecDepth 20000 in
theorem ggY_X3_feed : GoodIn wsY_law wsX3_feed := goodIn_r _ [92, 21, 93, 20, 94, 95, 46, 96, 97, 98, 45, 505, 506, 507, 508, 509, 510, 511, 512, 513, 514, 515, 516, 549, 550] (by decide +kernel) (by decide +kernel)
set_option maxRecDepth 20000 in
theorem gY_X3_feed : GoodIn wsY_law (wsV RL 31 RX3 yX3_feed wsX3_feed) := goodIn_app (goodIn_of _ (by decide +kernel)) ggY_X3_feed
set_option maxRecDepth 20000 in
theorem ggY_X4_feed : GoodIn wsY_law wsX4_feed := goodIn_r _ [102, 103, 104, 105, 106, 107, 5, 108, 76, 517, 518, 519, 520, 521, 522, 523, 524, 525, 526, 527, 528, 529, 530, 531, 532, 533] (by decide +kernel) (by decide +kernel)
set_option maxRecDepth 20000 in
theorem gY_X4_feed : GoodIn wsY_law (wsV RL 35 RX4 yX4_feed wsX4_feed) := goodIn_app (goodIn_of _ (by decide +kernel)) ggY_X4_feed
set_option maxRecDepth 20000 in
theorem ggY_X3_end : GoodIn wsY_law wsX3_end := goodIn_r _ [112, 21, 113, 20, 114, 115, 46, 505, 506, 507, 508, 509, 510, 511, 512, 513, 514, 515, 516, 549, 550] (by decide +kernel) (by decide +kernel)
set_option maxRecDepth 20000 in
theorem gY_X3_end : GoodIn wsY_law (wsV RL 36 RX3 yX3_end wsX3_end) := goodIn_app (goodIn_of _ (by decide +kernel)) ggY_X3_end
set_option maxRecDepth 20000 in
theorem ggY_X4_end : GoodIn wsY_law wsX4_end := goodIn_r _ [119, 103, 104, 517, 518, 519, 520, 521, 522, 523, 524, 525, 526, 527, 528, 529, 530, 531, 532, 533] (by decide +kernel) (by decide +kernel)
set_option maxRecDepth 20000 in
theorem gY_X4_end : GoodIn wsY_law (wsV RL 40 RX4 yX4_end wsX4_end) := goodIn_app (goodIn_of _ (by decide +kernel)) ggY_X4_end
set_option maxRecDepth 20000 in
theorem ggY_X3_car : GoodIn wsY_law wsX3_car := goodIn_r _ [123, 124, 27, 28, 29, 34, 16, 17, 125, 126, 2, 127, 57, 15, 58, 59, 60, 61, 62, 63, 64, 65, 66, 67, 68, 69, 70, 71, 38, 505, 506, 507, 508, 509, 510, 511, 512, 513, 514, 515, 516, 534, 535, 536, 537, 538, 539, 540, 541, 542, 543, 544, 545, 546, 547, 548] (by decide +kernel) (by decide +kernel)
set_option maxRecDepth 20000 in
theorem gY_X3_car : GoodIn wsY_law (wsV RL 41 RX3 yX3_car wsX3_car) := goodIn_app (goodIn_of _ (by decide +kernel)) ggY_X3_car
set_option maxRecDepth 20000 in
theorem ggY_X4_car : GoodIn wsY_law wsX4_car := goodIn_r _ [131, 103, 132, 80, 81, 82, 133, 134, 135, 5, 136, 137, 138, 139, 140, 77, 141, 142, 143, 144, 145, 78, 517, 518, 519, 520, 521, 522, 523, 524, 525, 526, 527, 528, 529, 530, 531, 532, 533] (by decide +kernel) (by decide +kernel)
set_option maxRecDepth 20000 in
theorem gY_X4_car : GoodIn wsY_law (wsV RL 45 RX4 yX4_car wsX4_car) := goodIn_app (goodIn_of _ (by decide +kernel)) ggY_X4_car
set_option maxRecDepth 20000 in
theorem ggY_X3_bounds : GoodIn wsY_law wsX3_bounds := goodIn_r _ [149, 30, 31, 32, 33, 150, 151, 2, 152, 125, 126, 127, 505, 506, 507, 508, 509, 510, 511, 512, 513, 514, 515, 516] (by decide +kernel) (by decide +kernel)
set_option maxRecDepth 20000 in
theorem gY_X3_bounds : GoodIn wsY_law (wsV RL 46 RX3 yX3_bounds wsX3_bounds) := goodIn_app (goodIn_of _ (by decide +kernel)) ggY_X3_bounds
set_option maxRecDepth 20000 in
theorem ggY_X4_bounds : GoodIn wsY_law wsX4_bounds := goodIn_r _ [156, 103, 83, 84, 85, 86, 134, 135, 5, 136, 517, 518, 519, 520, 521, 522, 523, 524, 525, 526, 527, 528, 529, 530, 531, 532, 533] (by decide +kernel) (by decide +kernel)
set_option maxRecDepth 20000 in
theorem gY_X4_bounds : GoodIn wsY_law (wsV RL 50 RX4 yX4_bounds wsX4_bounds) := goodIn_app (goodIn_of _ (by decide +kernel)) ggY_X4_bounds
set_option maxRecDepth 20000 in
theorem ggY_X3_drive : GoodIn wsY_law wsX3_drive := goodIn_r _ [160, 161, 34, 162, 16, 125, 126, 2, 127, 163, 15, 164, 165, 38, 166, 167, 168, 169, 170, 61, 64, 67, 60, 171, 172, 173, 174, 175, 176, 177, 66, 178, 179, 180, 181, 182, 183, 184, 185, 505, 506, 507, 508, 509, 510, 511, 512, 513, 514, 515, 516, 534, 535, 536, 537, 538, 539, 540, 541, 542, 543, 544, 545, 546, 547, 548] (by decide +kernel) (by decide +kernel)
set_option maxRecDepth 20000 in
theorem gY_X3_drive : GoodIn wsY_law (wsV RL 51 RX3 yX3_drive wsX3_drive) := goodIn_app (goodIn_of _ (by decide +kernel)) ggY_X3_drive
set_option maxRecDepth 20000 in
theorem ggY_X4_drive : GoodIn wsY_law wsX4_drive := goodIn_r _ [189, 103, 190, 141, 191, 77, 137, 138, 139, 5, 140, 133, 80, 142, 143, 144, 145, 78, 134, 135, 136, 192, 193, 194, 195, 196, 197, 198, 199, 200, 201, 202, 203, 204, 205, 206, 207, 517, 518, 519, 520, 521, 522, 523, 524, 525, 526, 527, 528, 529, 530, 531, 532, 533] (by decide +kernel) (by decide +kernel)
set_option maxRecDepth 20000 in
theorem gY_X4_drive : GoodIn wsY_law (wsV RL 54 RX4 yX4_drive wsX4_drive) := goodIn_app (goodIn_of _ (by decide +kernel)) ggY_X4_drive
set_option maxRecDepth 20000 in
theorem ggY_X3_gap : GoodIn wsY_law wsX3_gap := goodIn_r _ [211, 212, 213, 214, 2, 215, 216, 34, 30, 162, 125, 126, 127, 217, 218, 219, 220, 31, 16, 163, 15, 164, 165, 38, 166, 167, 221, 222, 223, 60, 171, 172, 173, 174, 175, 176, 177, 66, 178, 179, 180, 181, 61, 182, 183, 184, 185, 505, 506, 507, 508, 509, 510, 511, 512, 513, 514, 515, 516, 534, 535, 536, 537, 538, 539, 540, 541, 542, 543, 544, 545, 546, 547, 548] (by decide +kernel) (by decide +kernel)
set_option maxRecDepth 20000 in
theorem gY_X3_gap : GoodIn wsY_law (wsV RL 55 RX3 yX3_gap wsX3_gap) := goodIn_app (goodIn_of _ (by decide +kernel)) ggY_X3_gap
set_option maxRecDepth 20000 in
theorem ggY_X4_gap : GoodIn wsY_law wsX4_gap := goodIn_r _ [227, 103, 137, 138, 139, 5, 140, 133, 77, 80, 141, 142, 143, 144, 145, 78, 228, 229, 230, 231, 232, 83, 191, 134, 135, 136, 233, 234, 235, 236, 84, 192, 193, 194, 195, 196, 197, 198, 199, 200, 201, 202, 203, 204, 205, 206, 207, 517, 518, 519, 520, 521, 522, 523, 524, 525, 526, 527, 528, 529, 530, 531, 532, 533] (by decide +kernel) (by decide +kernel)
set_option maxRecDepth 20000 in
theorem gY_X4_gap : GoodIn wsY_law (wsV RL 58 RX4 yX4_gap wsX4_gap) := goodIn_app (goodIn_of _ (by decide +kernel)) ggY_X4_gap
set_option maxRecDepth 20000 in
theorem ggY_X3_tells : GoodIn wsY_law wsX3_tells := goodIn_r _ [240, 27, 29, 241, 172, 173, 174, 242, 243, 244, 16, 125, 126, 2, 127, 245, 15, 246, 247, 62, 40, 61, 41, 60, 67, 248, 249, 166, 167, 250, 251, 252, 253, 254, 255, 256, 68, 69, 70, 71, 38, 257, 258, 259, 260, 66, 65, 178, 179, 180, 181, 261, 262, 263, 63, 264, 265, 266, 171, 267, 268, 269, 270, 271, 272, 273, 274, 275, 276, 277, 278, 175, 176, 177, 182, 183, 184, 185, 505, 506, 507, 508, 509, 510, 511, 512, 513, 514, 515, 516, 534, 535, 536, 537, 538, 539, 540, 541, 542, 543, 544, 545, 546, 547, 548] (by decide +kernel) (by decide +kernel)
set_option maxRecDepth 20000 in
theorem gY_X3_tells : GoodIn wsY_law (wsV RL 59 RX3 yX3_tells wsX3_tells) := goodIn_app (goodIn_of _ (by decide +kernel)) ggY_X3_tells
