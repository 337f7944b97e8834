set_option maxRecDepth 20000 in
theorem ggY_X3_shown : GoodIn wsY_law wsX3_shown := goodIn_r _ [422, 16, 505, 506, 507, 508, 509, 510, 511, 512, 513, 514, 515, 516, 534, 535, 536, 537, 538, 539, 540, 541, 542, 543, 544, 545, 546, 547, 548] (by decide +kernel) (by decide +kernel)
set_option maxRecDepth 20000 in
theorem gY_X3_shown : GoodIn wsY_law (wsV RL 103 RX3 yX3_shown wsX3_shown) := goodIn_app (goodIn_of _ (by decide +kernel)) ggY_X3_shown
set_option maxRecDepth 20000 in
theorem ggY_X4_shown : GoodIn wsY_law wsX4_shown := goodIn_r _ [426, 103, 77, 137, 138, 139, 5, 140, 133, 80, 141, 142, 143, 144, 145, 78, 517, 518, 519, 520, 521, 522, 523, 524, 525, 526, 527, 528, 529, 530, 531, 532, 533] (by decide +kernel) (by decide +kernel)
set_option maxRecDepth 20000 in
theorem gY_X4_shown : GoodIn wsY_law (wsV RL 106 RX4 yX4_shown wsX4_shown) := goodIn_app (goodIn_of _ (by decide +kernel)) ggY_X4_shown
set_option maxRecDepth 20000 in
theorem ggY_X4_refill : GoodIn wsY_law wsX4_refill := goodIn_r _ [443, 77, 291, 103, 137, 138, 139, 5, 140, 133, 80, 141, 142, 143, 144, 145, 78, 363, 364, 365, 366, 288, 289, 290, 517, 518, 519, 520, 521, 522, 523, 524, 525, 526, 527, 528, 529, 530, 531, 532, 533] (by decide +kernel) (by decide +kernel)
set_option maxRecDepth 20000 in
theorem gY_X4_refill : GoodIn wsY_law (wsV RL 109 RX4 yX4_refill wsX4_refill) := goodIn_app (goodIn_of _ (by decide +kernel)) ggY_X4_refill
set_option maxRecDepth 20000 in
theorem ggY_X3_plan : GoodIn wsY_law wsX3_plan := goodIn_r _ [447, 25, 21, 33, 16, 27, 448, 24, 449, 450, 55, 50, 51, 113, 20, 114, 115, 46, 451, 452, 453, 454, 243, 173, 244, 52, 455, 456, 457, 458, 459, 460, 461, 462, 463, 53, 464, 465, 466, 467, 54, 56, 126, 2, 127, 505, 506, 507, 508, 509, 510, 511, 512, 513, 514, 515, 516, 534, 535, 536, 537, 538, 539, 540, 541, 542, 543, 544, 545, 546, 547, 548, 549, 550, 551, 552, 553, 554, 555, 556, 557] (by decide +kernel) (by decide +kernel)
set_option maxRecDepth 20000 in
theorem gY_X3_plan : GoodIn wsY_law (wsV RL 110 RX3 yX3_plan wsX3_plan) := goodIn_app (goodIn_of _ (by decide +kernel)) ggY_X3_plan
set_option maxRecDepth 20000 in
theorem ggY_X4_plan : GoodIn wsY_law wsX4_plan := goodIn_r _ [471, 103, 104, 76, 80, 77, 472, 87, 473, 88, 137, 138, 139, 5, 140, 133, 141, 142, 143, 144, 145, 78, 474, 475, 476, 477, 478, 479, 480, 481, 86, 482, 483, 484, 485, 517, 518, 519, 520, 521, 522, 523, 524, 525, 526, 527, 528, 529, 530, 531, 532, 533] (by decide +kernel) (by decide +kernel)
set_option maxRecDepth 20000 in
theorem gY_X4_plan : GoodIn wsY_law (wsV RL 113 RX4 yX4_plan wsX4_plan) := goodIn_app (goodIn_of _ (by decide +kernel)) ggY_X4_plan
set_option maxRecDepth 20000 in
theorem ggY_X3_buys : GoodIn wsY_law wsX3_buys := goodIn_r _ [489, 25, 490, 24, 491, 492, 56, 54, 505, 506, 507, 508, 509, 510, 511, 512, 513, 514, 515, 516, 551, 552, 553, 554, 555, 556, 557] (by decide +kernel) (by decide +kernel)
set_option maxRecDepth 20000 in
theorem gY_X3_buys : GoodIn wsY_law (wsV RL 114 RX3 yX3_buys wsX3_buys) := goodIn_app (goodIn_of _ (by decide +kernel)) ggY_X3_buys
set_option maxRecDepth 20000 in
theorem ggY_X4_buys : GoodIn wsY_law wsX4_buys := goodIn_r _ [496, 103, 473, 88, 517, 518, 519, 520, 521, 522, 523, 524, 525, 526, 527, 528, 529, 530, 531, 532, 533] (by decide +kernel) (by decide +kernel)
set_option maxRecDepth 20000 in
theorem gY_X4_buys : GoodIn wsY_law (wsV RL 117 RX4 yX4_buys wsX4_buys) := goodIn_app (goodIn_of _ (by decide +kernel)) ggY_X4_buys
set_option maxRecDepth 20000 in
theorem ggY_X3_count : GoodIn wsY_law wsX3_count := goodIn_r _ [500, 16, 21, 505, 506, 507, 508, 509, 510, 511, 512, 513, 514, 515, 516, 534, 535, 536, 537, 538, 539, 540, 541, 542, 543, 544, 545, 546, 547, 548, 549, 550] (by decide +kernel) (by decide +kernel)
set_option maxRecDepth 20000 in
theorem gY_X3_count : GoodIn wsY_law (wsV RL 118 RX3 yX3_count wsX3_count) := goodIn_app (goodIn_of _ (by decide +kernel)) ggY_X3_count
set_option maxRecDepth 20000 in
theorem ggY_X4_count : GoodIn wsY_law wsX4_count := goodIn_r _ [504, 103, 77, 104, 137, 138, 139, 5, 140, 133, 80, 141, 142, 143, 144, 145, 78, 517, 518, 519, 520, 521, 522, 523, 524, 525, 526, 527, 528, 529, 530, 531, 532, 533] (by decide +kernel) (by decide +kernel)
set_option maxRecDepth 20000 in
theorem gY_X4_count : GoodIn wsY_law (wsV RL 121 RX4 yX4_count wsX4_count) := goodIn_app (goodIn_of _ (by decide +kernel)) ggY_X4_count
