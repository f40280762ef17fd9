set_option maxRecDepth 20000 in
theorem ggL_law_X2_count : GoodIn wsL_law wsX2_count := goodIn_r _ [447, 16, 333, 299, 166, 167, 168, 2, 169, 170, 171, 172, 173, 69, 70, 71, 72, 73, 74, 75, 76, 77, 78, 15, 79, 26, 162, 163, 164, 165, 87, 88, 89, 90, 91, 92, 93, 448, 449, 450, 451, 452, 453, 454, 455, 456, 457, 458, 459, 460, 461, 462, 463, 464, 465, 466, 218, 219, 220, 221, 515, 516, 517, 518, 519, 536, 537, 538, 539] (by decide +kernel) (by decide +kernel)
set_option maxRecDepth 20000 in
theorem gL_law_X2_count : GoodIn wsL_law (wsV RL 91 RX2 yX2_count wsX2_count) := goodIn_app (goodIn_of _ (by decide +kernel)) ggL_law_X2_count
set_option maxRecDepth 20000 in
theorem ggL_law_X3_count : GoodIn wsL_law wsX3_count := goodIn_r _ [470, 36, 149, 324, 37, 38, 191, 192, 193, 5, 194, 520, 521, 522, 523, 524, 525, 526, 527, 528, 529, 530, 531, 532, 533, 534, 535] (by decide +kernel) (by decide +kernel)
set_option maxRecDepth 20000 in
theorem gL_law_X3_count : GoodIn wsL_law (wsV RL 94 RX3 yX3_count wsX3_count) := goodIn_app (goodIn_of _ (by decide +kernel)) ggL_law_X3_count
set_option maxRecDepth 20000 in
theorem ggL_law_X2_tree : GoodIn wsL_law wsX2_tree := goodIn_r _ [474, 342, 475, 476, 477, 478, 2, 479, 69, 70, 71, 72, 16, 73, 74, 75, 76, 77, 78, 15, 79, 26, 480, 481, 482, 483, 484, 485, 486, 487, 290, 162, 163, 164, 165, 87, 88, 89, 90, 91, 92, 93, 180, 181, 182, 488, 489, 490, 491, 492, 493, 94, 95, 96, 215, 216, 217, 347, 348, 349, 350, 515, 516, 517, 518, 519, 536, 537, 538, 539] (by decide +kernel) (by decide +kernel)
set_option maxRecDepth 20000 in
theorem gL_law_X2_tree : GoodIn wsL_law (wsV RL 95 RX2 yX2_tree wsX2_tree) := goodIn_app (goodIn_of _ (by decide +kernel)) ggL_law_X2_tree
set_option maxRecDepth 20000 in
theorem ggL_law_X3_tree : GoodIn wsL_law wsX3_tree := goodIn_r _ [497, 498, 42, 43, 499, 387, 38, 36, 122, 37, 39, 500, 501, 502, 5, 503, 520, 521, 522, 523, 524, 525, 526, 527, 528, 529, 530, 531, 532, 533, 534, 535] (by decide +kernel) (by decide +kernel)
set_option maxRecDepth 20000 in
theorem gL_law_X3_tree : GoodIn wsL_law (wsV RL 98 RX3 yX3_tree wsX3_tree) := goodIn_app (goodIn_of _ (by decide +kernel)) ggL_law_X3_tree
set_option maxRecDepth 20000 in
theorem ggL_law_X2_digest : GoodIn wsL_law wsX2_digest := goodIn_r _ [507, 508, 487, 16, 76, 77, 78, 15, 79, 26, 509, 364, 365, 2, 366, 64, 515, 516, 517, 518, 519, 536, 537, 538, 539] (by decide +kernel) (by decide +kernel)
set_option maxRecDepth 20000 in
theorem gL_law_X2_digest : GoodIn wsL_law (wsV RL 99 RX2 yX2_digest wsX2_digest) := goodIn_app (goodIn_of _ (by decide +kernel)) ggL_law_X2_digest
set_option maxRecDepth 20000 in
theorem ggL_law_X3_digest : GoodIn wsL_law wsX3_digest := goodIn_r _ [513, 427, 499, 39, 40, 388, 389, 390, 5, 391, 36, 37, 38, 514, 368, 369, 370, 123, 520, 521, 522, 523, 524, 525, 526, 527, 528, 529, 530, 531, 532, 533, 534, 535] (by decide +kernel) (by decide +kernel)
set_option maxRecDepth 20000 in
theorem gL_law_X3_digest : GoodIn wsL_law (wsV RL 102 RX3 yX3_digest wsX3_digest) := goodIn_app (goodIn_of _ (by decide +kernel)) ggL_law_X3_digest
