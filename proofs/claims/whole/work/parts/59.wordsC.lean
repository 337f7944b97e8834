set_option maxRecDepth 20000 in
theorem ggY_X3_shown : GoodIn wsY_law wsX3_shown := goodIn_r _ [418, 16, 501, 502, 503, 504, 505, 506, 507, 508, 509, 510, 511, 512, 530, 531, 532, 533, 534, 535, 536, 537, 538, 539, 540, 541, 542, 543, 544] (by decide +kernel) (by decide +kernel)
set_option maxRecDepth 20000 in
theorem gY_X3_shown : GoodIn wsY_law (wsV RL 103 RX3 yX3_shown wsX3_shown) := goodIn_app (goodIn_of _ (by decide +kernel)) ggY_X3_shown
set_option maxRecDepth 20000 in
theorem ggY_X4_shown : GoodIn wsY_law wsX4_shown := goodIn_r _ [422, 103, 77, 137, 138, 139, 5, 140, 133, 80, 141, 142, 143, 144, 145, 78, 513, 514, 515, 516, 517, 518, 519, 520, 521, 522, 523, 524, 525, 526, 527, 528, 529] (by decide +kernel) (by decide +kernel)
set_option maxRecDepth 20000 in
theorem gY_X4_shown : GoodIn wsY_law (wsV RL 106 RX4 yX4_shown wsX4_shown) := goodIn_app (goodIn_of _ (by decide +kernel)) ggY_X4_shown
set_option maxRecDepth 20000 in
theorem ggY_X4_refill : GoodIn wsY_law wsX4_refill := goodIn_r _ [439, 77, 291, 103, 137, 138, 139, 5, 140, 133, 80, 141, 142, 143, 144, 145, 78, 363, 364, 365, 366, 288, 289, 290, 513, 514, 515, 516, 517, 518, 519, 520, 521, 522, 523, 524, 525, 526, 527, 528, 529] (by decide +kernel) (by decide +kernel)
set_option maxRecDepth 20000 in
theorem gY_X4_refill : GoodIn wsY_law (wsV RL 109 RX4 yX4_refill wsX4_refill) := goodIn_app (goodIn_of _ (by decide +kernel)) ggY_X4_refill
set_option maxRecDepth 20000 in
theorem ggY_X3_plan : GoodIn wsY_law wsX3_plan := goodIn_r _ [443, 25, 21, 33, 16, 27, 444, 24, 445, 446, 55, 50, 51, 113, 20, 114, 115, 46, 447, 448, 449, 450, 243, 173, 244, 52, 451, 452, 453, 454, 455, 456, 457, 458, 459, 53, 460, 461, 462, 463, 54, 56, 501, 502, 503, 504, 505, 506, 507, 508, 509, 510, 511, 512, 530, 531, 532, 533, 534, 535, 536, 537, 538, 539, 540, 541, 542, 543, 544, 545, 546, 547, 548, 549, 550, 551, 552, 553] (by decide +kernel) (by decide +kernel)
set_option maxRecDepth 20000 in
theorem gY_X3_plan : GoodIn wsY_law (wsV RL 110 RX3 yX3_plan wsX3_plan) := goodIn_app (goodIn_of _ (by decide +kernel)) ggY_X3_plan
set_option maxRecDepth 20000 in
theorem ggY_X4_plan : GoodIn wsY_law wsX4_plan := goodIn_r _ [467, 103, 104, 76, 80, 77, 468, 87, 469, 88, 137, 138, 139, 5, 140, 133, 141, 142, 143, 144, 145, 78, 470, 471, 472, 473, 474, 475, 476, 477, 86, 478, 479, 480, 481, 513, 514, 515, 516, 517, 518, 519, 520, 521, 522, 523, 524, 525, 526, 527, 528, 529] (by decide +kernel) (by decide +kernel)
set_option maxRecDepth 20000 in
theorem gY_X4_plan : GoodIn wsY_law (wsV RL 113 RX4 yX4_plan wsX4_plan) := goodIn_app (goodIn_of _ (by decide +kernel)) ggY_X4_plan
set_option maxRecDepth 20000 in
theorem ggY_X3_buys : GoodIn wsY_law wsX3_buys := goodIn_r _ [485, 25, 486, 24, 487, 488, 56, 54, 501, 502, 503, 504, 505, 506, 507, 508, 509, 510, 511, 512, 547, 548, 549, 550, 551, 552, 553] (by decide +kernel) (by decide +kernel)
set_option maxRecDepth 20000 in
theorem gY_X3_buys : GoodIn wsY_law (wsV RL 114 RX3 yX3_buys wsX3_buys) := goodIn_app (goodIn_of _ (by decide +kernel)) ggY_X3_buys
set_option maxRecDepth 20000 in
theorem ggY_X4_buys : GoodIn wsY_law wsX4_buys := goodIn_r _ [492, 103, 469, 88, 513, 514, 515, 516, 517, 518, 519, 520, 521, 522, 523, 524, 525, 526, 527, 528, 529] (by decide +kernel) (by decide +kernel)
set_option maxRecDepth 20000 in
theorem gY_X4_buys : GoodIn wsY_law (wsV RL 117 RX4 yX4_buys wsX4_buys) := goodIn_app (goodIn_of _ (by decide +kernel)) ggY_X4_buys
set_option maxRecDepth 20000 in
theorem ggY_X3_count : GoodIn wsY_law wsX3_count := goodIn_r _ [496, 16, 21, 501, 502, 503, 504, 505, 506, 507, 508, 509, 510, 511, 512, 530, 531, 532, 533, 534, 535, 536, 537, 538, 539, 540, 541, 542, 543, 544, 545, 546] (by decide +kernel) (by decide +kernel)
set_option maxRecDepth 20000 in
theorem gY_X3_count : GoodIn wsY_law (wsV RL 118 RX3 yX3_count wsX3_count) := goodIn_app (goodIn_of _ (by decide +kernel)) ggY_X3_count
set_option maxRecDepth 20000 in
theorem ggY_X4_count : GoodIn wsY_law wsX4_count := goodIn_r _ [500, 103, 77, 104, 137, 138, 139, 5, 140, 133, 80, 141, 142, 143, 144, 145, 78, 513, 514, 515, 516, 517, 518, 519, 520, 521, 522, 523, 524, 525, 526, 527, 528, 529] (by decide +kernel) (by decide +kernel)
set_option maxRecDepth 20000 in
theorem gY_X4_count : GoodIn wsY_law (wsV RL 121 RX4 yX4_count wsX4_count) := goodIn_app (goodIn_of _ (by decide +kernel)) ggY_X4_count
