set_option maxRecDepth 20000 in
theorem ggY_X3_shown : GoodIn wsY_law wsX3_shown := goodIn_r _ [411, 16, 494, 495, 496, 497, 498, 499, 500, 501, 502, 503, 504, 505, 523, 524, 525, 526, 527, 528, 529, 530, 531, 532, 533, 534, 535, 536, 537] (by decide +kernel) (by decide +kernel)
set_option maxRecDepth 20000 in
theorem gY_X3_shown : GoodIn wsY_law (wsV RL 103 RX3 yX3_shown wsX3_shown) := goodIn_app (goodIn_of _ (by decide +kernel)) ggY_X3_shown
set_option maxRecDepth 20000 in
theorem ggY_X4_shown : GoodIn wsY_law wsX4_shown := goodIn_r _ [415, 103, 77, 137, 138, 139, 5, 140, 133, 80, 141, 142, 143, 144, 145, 78, 506, 507, 508, 509, 510, 511, 512, 513, 514, 515, 516, 517, 518, 519, 520, 521, 522] (by decide +kernel) (by decide +kernel)
set_option maxRecDepth 20000 in
theorem gY_X4_shown : GoodIn wsY_law (wsV RL 106 RX4 yX4_shown wsX4_shown) := goodIn_app (goodIn_of _ (by decide +kernel)) ggY_X4_shown
set_option maxRecDepth 20000 in
theorem ggY_X4_refill : GoodIn wsY_law wsX4_refill := goodIn_r _ [432, 77, 284, 103, 137, 138, 139, 5, 140, 133, 80, 141, 142, 143, 144, 145, 78, 356, 357, 358, 359, 281, 282, 283, 506, 507, 508, 509, 510, 511, 512, 513, 514, 515, 516, 517, 518, 519, 520, 521, 522] (by decide +kernel) (by decide +kernel)
set_option maxRecDepth 20000 in
theorem gY_X4_refill : GoodIn wsY_law (wsV RL 109 RX4 yX4_refill wsX4_refill) := goodIn_app (goodIn_of _ (by decide +kernel)) ggY_X4_refill
set_option maxRecDepth 20000 in
theorem ggY_X3_plan : GoodIn wsY_law wsX3_plan := goodIn_r _ [436, 25, 21, 33, 16, 27, 437, 24, 438, 439, 55, 50, 51, 113, 20, 114, 115, 46, 440, 441, 442, 443, 243, 173, 244, 52, 444, 445, 446, 447, 448, 449, 450, 451, 452, 53, 453, 454, 455, 456, 54, 56, 494, 495, 496, 497, 498, 499, 500, 501, 502, 503, 504, 505, 523, 524, 525, 526, 527, 528, 529, 530, 531, 532, 533, 534, 535, 536, 537, 538, 539, 540, 541, 542, 543, 544, 545, 546] (by decide +kernel) (by decide +kernel)
set_option maxRecDepth 20000 in
theorem gY_X3_plan : GoodIn wsY_law (wsV RL 110 RX3 yX3_plan wsX3_plan) := goodIn_app (goodIn_of _ (by decide +kernel)) ggY_X3_plan
set_option maxRecDepth 20000 in
theorem ggY_X4_plan : GoodIn wsY_law wsX4_plan := goodIn_r _ [460, 103, 104, 76, 80, 77, 461, 87, 462, 88, 137, 138, 139, 5, 140, 133, 141, 142, 143, 144, 145, 78, 463, 464, 465, 466, 467, 468, 469, 470, 86, 471, 472, 473, 474, 506, 507, 508, 509, 510, 511, 512, 513, 514, 515, 516, 517, 518, 519, 520, 521, 522] (by decide +kernel) (by decide +kernel)
set_option maxRecDepth 20000 in
theorem gY_X4_plan : GoodIn wsY_law (wsV RL 113 RX4 yX4_plan wsX4_plan) := goodIn_app (goodIn_of _ (by decide +kernel)) ggY_X4_plan
set_option maxRecDepth 20000 in
theorem ggY_X3_buys : GoodIn wsY_law wsX3_buys := goodIn_r _ [478, 25, 479, 24, 480, 481, 56, 54, 494, 495, 496, 497, 498, 499, 500, 501, 502, 503, 504, 505, 540, 541, 542, 543, 544, 545, 546] (by decide +kernel) (by decide +kernel)
set_option maxRecDepth 20000 in
theorem gY_X3_buys : GoodIn wsY_law (wsV RL 114 RX3 yX3_buys wsX3_buys) := goodIn_app (goodIn_of _ (by decide +kernel)) ggY_X3_buys
set_option maxRecDepth 20000 in
theorem ggY_X4_buys : GoodIn wsY_law wsX4_buys := goodIn_r _ [485, 103, 462, 88, 506, 507, 508, 509, 510, 511, 512, 513, 514, 515, 516, 517, 518, 519, 520, 521, 522] (by decide +kernel) (by decide +kernel)
set_option maxRecDepth 20000 in
theorem gY_X4_buys : GoodIn wsY_law (wsV RL 117 RX4 yX4_buys wsX4_buys) := goodIn_app (goodIn_of _ (by decide +kernel)) ggY_X4_buys
set_option maxRecDepth 20000 in
theorem ggY_X3_count : GoodIn wsY_law wsX3_count := goodIn_r _ [489, 16, 21, 494, 495, 496, 497, 498, 499, 500, 501, 502, 503, 504, 505, 523, 524, 525, 526, 527, 528, 529, 530, 531, 532, 533, 534, 535, 536, 537, 538, 539] (by decide +kernel) (by decide +kernel)
set_option maxRecDepth 20000 in
theorem gY_X3_count : GoodIn wsY_law (wsV RL 118 RX3 yX3_count wsX3_count) := goodIn_app (goodIn_of _ (by decide +kernel)) ggY_X3_count
set_option maxRecDepth 20000 in
theorem ggY_X4_count : GoodIn wsY_law wsX4_count := goodIn_r _ [493, 103, 77, 104, 137, 138, 139, 5, 140, 133, 80, 141, 142, 143, 144, 145, 78, 506, 507, 508, 509, 510, 511, 512, 513, 514, 515, 516, 517, 518, 519, 520, 521, 522] (by decide +kernel) (by decide +kernel)
set_option maxRecDepth 20000 in
theorem gY_X4_count : GoodIn wsY_law (wsV RL 121 RX4 yX4_count wsX4_count) := goodIn_app (goodIn_of _ (by decide +kernel)) ggY_X4_count
