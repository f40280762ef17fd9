set_option maxRecDepth 20000 in
theorem ggL_law_X2_count : GoodIn wsL_law wsX2_count := goodIn_r _ [452, 16, 334, 300, 172, 173, 174, 2, 175, 176, 177, 178, 179, 69, 70, 71, 72, 73, 74, 75, 76, 77, 78, 15, 79, 26, 164, 165, 166, 167, 87, 88, 89, 90, 91, 92, 93, 453, 454, 455, 456, 457, 458, 459, 460, 461, 462, 463, 464, 465, 466, 467, 468, 469, 470, 471, 218, 219, 220, 221, 520, 521, 522, 523, 524, 541, 542, 543, 544, 545] (by decide +kernel) (by decide +kernel)
set_option maxRecDepth 20000 in
theorem gL_law_X2_count : GoodIn wsL_law (wsV RL 91 RX2 yX2_count wsX2_count) := goodIn_app (goodIn_of _ (by decide +kernel)) ggL_law_X2_count
set_option maxRecDepth 20000 in
theorem ggL_law_X3_count : GoodIn wsL_law wsX3_count := goodIn_r _ [475, 36, 151, 325, 37, 38, 191, 192, 193, 5, 194, 525, 526, 527, 528, 529, 530, 531, 532, 533, 534, 535, 536, 537, 538, 539, 540] (by decide +kernel) (by decide +kernel)
set_option maxRecDepth 20000 in
theorem gL_law_X3_count : GoodIn wsL_law (wsV RL 94 RX3 yX3_count wsX3_count) := goodIn_app (goodIn_of _ (by decide +kernel)) ggL_law_X3_count
set_option maxRecDepth 20000 in
theorem ggL_law_X2_tree : GoodIn wsL_law wsX2_tree := goodIn_r _ [479, 347, 480, 481, 482, 483, 2, 484, 69, 70, 71, 72, 16, 73, 74, 75, 76, 77, 78, 15, 79, 26, 485, 486, 487, 488, 489, 490, 491, 492, 291, 164, 165, 166, 167, 87, 88, 89, 90, 91, 92, 93, 180, 181, 182, 493, 494, 495, 496, 497, 498, 94, 95, 96, 215, 216, 217, 352, 353, 354, 355, 520, 521, 522, 523, 524, 541, 542, 543, 544, 545] (by decide +kernel) (by decide +kernel)
set_option maxRecDepth 20000 in
theorem gL_law_X2_tree : GoodIn wsL_law (wsV RL 95 RX2 yX2_tree wsX2_tree) := goodIn_app (goodIn_of _ (by decide +kernel)) ggL_law_X2_tree
set_option maxRecDepth 20000 in
theorem ggL_law_X3_tree : GoodIn wsL_law wsX3_tree := goodIn_r _ [502, 503, 42, 43, 504, 392, 38, 36, 124, 37, 39, 505, 506, 507, 5, 508, 525, 526, 527, 528, 529, 530, 531, 532, 533, 534, 535, 536, 537, 538, 539, 540] (by decide +kernel) (by decide +kernel)
set_option maxRecDepth 20000 in
theorem gL_law_X3_tree : GoodIn wsL_law (wsV RL 98 RX3 yX3_tree wsX3_tree) := goodIn_app (goodIn_of _ (by decide +kernel)) ggL_law_X3_tree
set_option maxRecDepth 20000 in
theorem ggL_law_X2_digest : GoodIn wsL_law wsX2_digest := goodIn_r _ [512, 513, 492, 16, 76, 77, 78, 15, 79, 26, 514, 369, 370, 2, 371, 64, 520, 521, 522, 523, 524, 541, 542, 543, 544, 545] (by decide +kernel) (by decide +kernel)
set_option maxRecDepth 20000 in
theorem gL_law_X2_digest : GoodIn wsL_law (wsV RL 99 RX2 yX2_digest wsX2_digest) := goodIn_app (goodIn_of _ (by decide +kernel)) ggL_law_X2_digest
set_option maxRecDepth 20000 in
theorem ggL_law_X3_digest : GoodIn wsL_law wsX3_digest := goodIn_r _ [518, 432, 504, 39, 40, 393, 394, 395, 5, 396, 36, 37, 38, 519, 373, 374, 375, 125, 525, 526, 527, 528, 529, 530, 531, 532, 533, 534, 535, 536, 537, 538, 539, 540] (by decide +kernel) (by decide +kernel)
set_option maxRecDepth 20000 in
theorem gL_law_X3_digest : GoodIn wsL_law (wsV RL 102 RX3 yX3_digest wsX3_digest) := goodIn_app (goodIn_of _ (by decide +kernel)) ggL_law_X3_digest
