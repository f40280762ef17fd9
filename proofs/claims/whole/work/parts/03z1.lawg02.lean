set_option maxRecDepth 20000 in
theorem ggL_law_X2_data : GoodIn wsL_law wsX2_data := goodIn_r _ [400, 16, 401, 49, 50, 2, 51, 184, 185, 186, 76, 77, 78, 15, 79, 26, 520, 521, 522, 523, 524, 541, 542, 543, 544, 545] (by decide +kernel) (by decide +kernel)
set_option maxRecDepth 20000 in
theorem gL_law_X2_data : GoodIn wsL_law (wsV RL 66 RX2 yX2_data wsX2_data) := goodIn_app (goodIn_of _ (by decide +kernel)) ggL_law_X2_data
set_option maxRecDepth 20000 in
theorem ggL_law_X3_data : GoodIn wsL_law wsX3_data := goodIn_r _ [405, 406, 128, 39, 407, 57, 58, 5, 59, 525, 526, 527, 528, 529, 530, 531, 532, 533, 534, 535, 536, 537, 538, 539, 540] (by decide +kernel) (by decide +kernel)
set_option maxRecDepth 20000 in
theorem gL_law_X3_data : GoodIn wsL_law (wsV RL 69 RX3 yX3_data wsX3_data) := goodIn_app (goodIn_of _ (by decide +kernel)) ggL_law_X3_data
set_option maxRecDepth 20000 in
theorem ggL_law_X2_read : GoodIn wsL_law wsX2_read := goodIn_r _ [411, 16, 401, 207, 208, 209, 2, 210, 65, 66, 67, 68, 49, 50, 51, 69, 70, 71, 72, 73, 74, 75, 76, 77, 78, 15, 79, 26, 168, 169, 170, 171, 87, 88, 89, 90, 91, 92, 93, 184, 185, 186, 520, 521, 522, 523, 524, 541, 542, 543, 544, 545] (by decide +kernel) (by decide +kernel)
set_option maxRecDepth 20000 in
theorem gL_law_X2_read : GoodIn wsL_law (wsV RL 70 RX2 yX2_read wsX2_read) := goodIn_app (goodIn_of _ (by decide +kernel)) ggL_law_X2_read
set_option maxRecDepth 20000 in
theorem ggL_law_X3_read : GoodIn wsL_law wsX3_read := goodIn_r _ [415, 37, 128, 39, 38, 407, 130, 131, 132, 5, 133, 134, 36, 57, 58, 59, 525, 526, 527, 528, 529, 530, 531, 532, 533, 534, 535, 536, 537, 538, 539, 540] (by decide +kernel) (by decide +kernel)
set_option maxRecDepth 20000 in
theorem gL_law_X3_read : GoodIn wsL_law (wsV RL 73 RX3 yX3_read wsX3_read) := goodIn_app (goodIn_of _ (by decide +kernel)) ggL_law_X3_read
set_option maxRecDepth 20000 in
theorem ggL_law_X2_asked : GoodIn wsL_law wsX2_asked := goodIn_r _ [419, 401, 520, 521, 522, 523, 524] (by decide +kernel) (by decide +kernel)
set_option maxRecDepth 20000 in
theorem gL_law_X2_asked : GoodIn wsL_law (wsV RL 74 RX2 yX2_asked wsX2_asked) := goodIn_app (goodIn_of _ (by decide +kernel)) ggL_law_X2_asked
set_option maxRecDepth 20000 in
theorem ggL_law_X3_asked : GoodIn wsL_law wsX3_asked := goodIn_r _ [423, 407, 525, 526, 527, 528, 529, 530, 531, 532, 533, 534, 535, 536, 537, 538, 539, 540] (by decide +kernel) (by decide +kernel)
set_option maxRecDepth 20000 in
theorem gL_law_X3_asked : GoodIn wsL_law (wsV RL 78 RX3 yX3_asked wsX3_asked) := goodIn_app (goodIn_of _ (by decide +kernel)) ggL_law_X3_asked
set_option maxRecDepth 20000 in
theorem ggL_law_X2_record : GoodIn wsL_law wsX2_record := goodIn_r _ [427, 49, 50, 2, 51, 296, 297, 298, 299, 16, 288, 289, 290, 76, 77, 78, 15, 79, 26, 520, 521, 522, 523, 524, 541, 542, 543, 544, 545] (by decide +kernel) (by decide +kernel)
set_option maxRecDepth 20000 in
theorem gL_law_X2_record : GoodIn wsL_law (wsV RL 79 RX2 yX2_record wsX2_record) := goodIn_app (goodIn_of _ (by decide +kernel)) ggL_law_X2_record
set_option maxRecDepth 20000 in
theorem ggL_law_X3_record : GoodIn wsL_law wsX3_record := goodIn_r _ [431, 432, 40, 57, 58, 5, 59, 525, 526, 527, 528, 529, 530, 531, 532, 533, 534, 535, 536, 537, 538, 539, 540] (by decide +kernel) (by decide +kernel)
set_option maxRecDepth 20000 in
theorem gL_law_X3_record : GoodIn wsL_law (wsV RL 82 RX3 yX3_record wsX3_record) := goodIn_app (goodIn_of _ (by decide +kernel)) ggL_law_X3_record
set_option maxRecDepth 20000 in
theorem ggL_law_X2_plan : GoodIn wsL_law wsX2_plan := goodIn_r _ [436, 20, 262, 263, 264, 49, 50, 2, 51, 265, 266, 267, 268, 180, 181, 182, 183, 69, 70, 71, 72, 16, 73, 74, 75, 76, 77, 78, 15, 79, 26, 168, 169, 170, 171, 87, 88, 89, 90, 91, 92, 93, 269, 270, 271, 272, 176, 177, 178, 179, 273, 274, 275, 19, 276, 277, 278, 279, 280, 281, 282, 283, 284, 285, 286, 287, 520, 521, 522, 523, 524, 546, 547, 548, 541, 542, 543, 544, 545] (by decide +kernel) (by decide +kernel)
set_option maxRecDepth 20000 in
theorem gL_law_X2_plan : GoodIn wsL_law (wsV RL 83 RX2 yX2_plan wsX2_plan) := goodIn_app (goodIn_of _ (by decide +kernel)) ggL_law_X2_plan
set_option maxRecDepth 20000 in
theorem ggL_law_X3_plan : GoodIn wsL_law wsX3_plan := goodIn_r _ [440, 432, 320, 319, 317, 318, 57, 58, 5, 59, 309, 310, 311, 312, 36, 37, 38, 313, 314, 315, 316, 195, 196, 197, 198, 321, 322, 323, 324, 525, 526, 527, 528, 529, 530, 531, 532, 533, 534, 535, 536, 537, 538, 539, 540] (by decide +kernel) (by decide +kernel)
set_option maxRecDepth 20000 in
theorem gL_law_X3_plan : GoodIn wsL_law (wsV RL 86 RX3 yX3_plan wsX3_plan) := goodIn_app (goodIn_of _ (by decide +kernel)) ggL_law_X3_plan
set_option maxRecDepth 20000 in
theorem ggL_law_X2_runs : GoodIn wsL_law wsX2_runs := goodIn_r _ [444, 65, 66, 67, 2, 68, 49, 50, 51, 69, 70, 71, 72, 16, 73, 74, 75, 76, 77, 78, 15, 79, 26, 168, 169, 170, 171, 87, 88, 89, 90, 91, 92, 93, 520, 521, 522, 523, 524, 541, 542, 543, 544, 545] (by decide +kernel) (by decide +kernel)
set_option maxRecDepth 20000 in
theorem gL_law_X2_runs : GoodIn wsL_law (wsV RL 87 RX2 yX2_runs wsX2_runs) := goodIn_app (goodIn_of _ (by decide +kernel)) ggL_law_X2_runs
set_option maxRecDepth 20000 in
theorem ggL_law_X3_runs : GoodIn wsL_law wsX3_runs := goodIn_r _ [448, 37, 38, 130, 131, 132, 5, 133, 134, 36, 57, 58, 59, 525, 526, 527, 528, 529, 530, 531, 532, 533, 534, 535, 536, 537, 538, 539, 540] (by decide +kernel) (by decide +kernel)
set_option maxRecDepth 20000 in
theorem gL_law_X3_runs : GoodIn wsL_law (wsV RL 90 RX3 yX3_runs wsX3_runs) := goodIn_app (goodIn_of _ (by decide +kernel)) ggL_law_X3_runs
