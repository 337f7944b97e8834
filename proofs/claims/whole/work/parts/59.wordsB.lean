set_option maxRecDepth 20000 in
theorem ggY_X4_tells : GoodIn wsY_law wsX4_tells := goodIn_r _ [282, 103, 82, 80, 283, 77, 137, 138, 139, 5, 140, 133, 141, 142, 143, 144, 145, 78, 134, 135, 136, 284, 285, 286, 287, 288, 289, 290, 291, 199, 200, 201, 202, 203, 204, 205, 206, 207, 292, 293, 294, 295, 296, 297, 298, 299, 517, 518, 519, 520, 521, 522, 523, 524, 525, 526, 527, 528, 529, 530, 531, 532, 533] (by decide +kernel) (by decide +kernel)
set_option maxRecDepth 20000 in
theorem gY_X4_tells : GoodIn wsY_law (wsV RL 63 RX4 yX4_tells wsX4_tells) := goodIn_app (goodIn_of _ (by decide +kernel)) ggY_X4_tells
set_option maxRecDepth 20000 in
theorem ggY_X3_set : GoodIn wsY_law wsX3_set := goodIn_r _ [303, 16, 304, 305, 2, 306, 125, 126, 127, 69, 15, 70, 71, 38, 505, 506, 507, 508, 509, 510, 511, 512, 513, 514, 515, 516, 534, 535, 536, 537, 538, 539, 540, 541, 542, 543, 544, 545, 546, 547, 548] (by decide +kernel) (by decide +kernel)
set_option maxRecDepth 20000 in
theorem gY_X3_set : GoodIn wsY_law (wsV RL 64 RX3 yX3_set wsX3_set) := goodIn_app (goodIn_of _ (by decide +kernel)) ggY_X3_set
set_option maxRecDepth 20000 in
theorem ggY_X4_set : GoodIn wsY_law wsX4_set := goodIn_r _ [310, 103, 137, 138, 139, 5, 140, 133, 77, 80, 141, 142, 143, 144, 145, 78, 292, 293, 294, 295, 517, 518, 519, 520, 521, 522, 523, 524, 525, 526, 527, 528, 529, 530, 531, 532, 533] (by decide +kernel) (by decide +kernel)
set_option maxRecDepth 20000 in
theorem gY_X4_set : GoodIn wsY_law (wsV RL 67 RX4 yX4_set wsX4_set) := goodIn_app (goodIn_of _ (by decide +kernel)) ggY_X4_set
set_option maxRecDepth 20000 in
theorem ggY_X3_keep : GoodIn wsY_law wsX3_keep := goodIn_r _ [314, 17, 16, 315, 15, 316, 317, 60, 61, 62, 63, 64, 65, 66, 67, 248, 249, 166, 167, 38, 318, 319, 320, 321, 40, 41, 505, 506, 507, 508, 509, 510, 511, 512, 513, 514, 515, 516, 534, 535, 536, 537, 538, 539, 540, 541, 542, 543, 544, 545, 546, 547, 548] (by decide +kernel) (by decide +kernel)
set_option maxRecDepth 20000 in
theorem gY_X3_keep : GoodIn wsY_law (wsV RL 68 RX3 yX3_keep wsX3_keep) := goodIn_app (goodIn_of _ (by decide +kernel)) ggY_X3_keep
set_option maxRecDepth 20000 in
theorem ggY_X4_keep : GoodIn wsY_law wsX4_keep := goodIn_r _ [325, 103, 137, 138, 139, 5, 140, 133, 77, 80, 141, 142, 143, 144, 145, 78, 517, 518, 519, 520, 521, 522, 523, 524, 525, 526, 527, 528, 529, 530, 531, 532, 533] (by decide +kernel) (by decide +kernel)
set_option maxRecDepth 20000 in
theorem gY_X4_keep : GoodIn wsY_law (wsV RL 71 RX4 yX4_keep wsX4_keep) := goodIn_app (goodIn_of _ (by decide +kernel)) ggY_X4_keep
set_option maxRecDepth 20000 in
theorem ggY_X3_dead : GoodIn wsY_law wsX3_dead := goodIn_r _ [329, 16, 17, 212, 213, 214, 2, 215, 216, 34, 30, 162, 125, 126, 127, 315, 15, 316, 317, 60, 61, 62, 63, 64, 65, 66, 67, 248, 249, 166, 167, 38, 318, 319, 320, 321, 40, 41, 217, 218, 219, 220, 31, 163, 164, 165, 221, 222, 223, 171, 172, 173, 174, 175, 176, 177, 178, 179, 180, 181, 182, 183, 184, 185, 505, 506, 507, 508, 509, 510, 511, 512, 513, 514, 515, 516, 534, 535, 536, 537, 538, 539, 540, 541, 542, 543, 544, 545, 546, 547, 548] (by decide +kernel) (by decide +kernel)
set_option maxRecDepth 20000 in
theorem gY_X3_dead : GoodIn wsY_law (wsV RL 72 RX3 yX3_dead wsX3_dead) := goodIn_app (goodIn_of _ (by decide +kernel)) ggY_X3_dead
set_option maxRecDepth 20000 in
theorem ggY_X4_dead : GoodIn wsY_law wsX4_dead := goodIn_r _ [333, 103, 77, 78, 137, 138, 139, 5, 140, 133, 80, 141, 142, 143, 144, 145, 228, 229, 230, 231, 232, 83, 191, 134, 135, 136, 233, 234, 235, 236, 84, 192, 193, 194, 195, 196, 197, 198, 199, 200, 201, 202, 203, 204, 205, 206, 207, 517, 518, 519, 520, 521, 522, 523, 524, 525, 526, 527, 528, 529, 530, 531, 532, 533] (by decide +kernel) (by decide +kernel)
set_option maxRecDepth 20000 in
theorem gY_X4_dead : GoodIn wsY_law (wsV RL 75 RX4 yX4_dead wsX4_dead) := goodIn_app (goodIn_of _ (by decide +kernel)) ggY_X4_dead
set_option maxRecDepth 20000 in
theorem ggY_X3_span : GoodIn wsY_law wsX3_span := goodIn_r _ [337, 16, 505, 506, 507, 508, 509, 510, 511, 512, 513, 514, 515, 516, 534, 535, 536, 537, 538, 539, 540, 541, 542, 543, 544, 545, 546, 547, 548] (by decide +kernel) (by decide +kernel)
set_option maxRecDepth 20000 in
theorem gY_X3_span : GoodIn wsY_law (wsV RL 76 RX3 yX3_span wsX3_span) := goodIn_app (goodIn_of _ (by decide +kernel)) ggY_X3_span
set_option maxRecDepth 20000 in
theorem ggY_X4_span : GoodIn wsY_law wsX4_span := goodIn_r _ [341, 103, 77, 137, 138, 139, 5, 140, 133, 80, 141, 142, 143, 144, 145, 78, 517, 518, 519, 520, 521, 522, 523, 524, 525, 526, 527, 528, 529, 530, 531, 532, 533] (by decide +kernel) (by decide +kernel)
set_option maxRecDepth 20000 in
theorem gY_X4_span : GoodIn wsY_law (wsV RL 80 RX4 yX4_span wsX4_span) := goodIn_app (goodIn_of _ (by decide +kernel)) ggY_X4_span
set_option maxRecDepth 20000 in
theorem ggY_X4_mark : GoodIn wsY_law wsX4_mark := goodIn_r _ [359, 103, 77, 137, 138, 139, 5, 140, 133, 80, 141, 142, 143, 144, 145, 78, 360, 361, 362, 363, 364, 365, 366, 517, 518, 519, 520, 521, 522, 523, 524, 525, 526, 527, 528, 529, 530, 531, 532, 533] (by decide +kernel) (by decide +kernel)
set_option maxRecDepth 20000 in
theorem gY_X4_mark : GoodIn wsY_law (wsV RL 86 RX4 yX4_mark wsX4_mark) := goodIn_app (goodIn_of _ (by decide +kernel)) ggY_X4_mark
set_option maxRecDepth 20000 in
theorem ggY_X4_thrown : GoodIn wsY_law wsX4_thrown := goodIn_r _ [370, 103, 517, 518, 519, 520, 521, 522, 523, 524, 525, 526, 527, 528, 529, 530, 531, 532, 533] (by decide +kernel) (by decide +kernel)
set_option maxRecDepth 20000 in
theorem gY_X4_thrown : GoodIn wsY_law (wsV RL 87 RX4 yX4_thrown wsX4_thrown) := goodIn_app (goodIn_of _ (by decide +kernel)) ggY_X4_thrown
set_option maxRecDepth 20000 in
theorem ggY_X4_metres : GoodIn wsY_law wsX4_metres := goodIn_r _ [386, 103, 77, 81, 387, 137, 138, 139, 5, 140, 133, 80, 141, 142, 143, 144, 145, 78, 360, 361, 362, 363, 364, 365, 366, 517, 518, 519, 520, 521, 522, 523, 524, 525, 526, 527, 528, 529, 530, 531, 532, 533] (by decide +kernel) (by decide +kernel)
set_option maxRecDepth 20000 in
theorem gY_X4_metres : GoodIn wsY_law (wsV RL 94 RX4 yX4_metres wsX4_metres) := goodIn_app (goodIn_of _ (by decide +kernel)) ggY_X4_metres
set_option maxRecDepth 20000 in
theorem ggY_X4_average : GoodIn wsY_law wsX4_average := goodIn_r _ [403, 77, 81, 103, 404, 137, 138, 139, 5, 140, 133, 80, 141, 142, 143, 144, 145, 78, 360, 361, 362, 363, 364, 365, 366, 405, 406, 407, 517, 518, 519, 520, 521, 522, 523, 524, 525, 526, 527, 528, 529, 530, 531, 532, 533] (by decide +kernel) (by decide +kernel)
set_option maxRecDepth 20000 in
theorem gY_X4_average : GoodIn wsY_law (wsV RL 98 RX4 yX4_average wsX4_average) := goodIn_app (goodIn_of _ (by decide +kernel)) ggY_X4_average
set_option maxRecDepth 20000 in
theorem ggY_X3_range : GoodIn wsY_law wsX3_range := goodIn_r _ [411, 16, 32, 33, 412, 413, 2, 414, 505, 506, 507, 508, 509, 510, 511, 512, 513, 514, 515, 516, 534, 535, 536, 537, 538, 539, 540, 541, 542, 543, 544, 545, 546, 547, 548] (by decide +kernel) (by decide +kernel)
set_option maxRecDepth 20000 in
theorem gY_X3_range : GoodIn wsY_law (wsV RL 99 RX3 yX3_range wsX3_range) := goodIn_app (goodIn_of _ (by decide +kernel)) ggY_X3_range
set_option maxRecDepth 20000 in
theorem ggY_X4_range : GoodIn wsY_law wsX4_range := goodIn_r _ [418, 103, 77, 85, 86, 137, 138, 139, 5, 140, 133, 80, 141, 142, 143, 144, 145, 78, 517, 518, 519, 520, 521, 522, 523, 524, 525, 526, 527, 528, 529, 530, 531, 532, 533] (by decide +kernel) (by decide +kernel)
set_option maxRecDepth 20000 in
theorem gY_X4_range : GoodIn wsY_law (wsV RL 102 RX4 yX4_range wsX4_range) := goodIn_app (goodIn_of _ (by decide +kernel)) ggY_X4_range
