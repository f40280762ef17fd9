set_option maxRecDepth 20000 in
theorem ggL_law_X2_data : GoodIn wsL_law wsX2_data := goodIn_r _ [400, 16, 401, 49, 50, 2, 51, 180, 181, 182, 76, 77, 78, 15, 79, 26, 520, 521, 522, 523, 524, 541, 542, 543, 544, 545] (by decide +kernel) (by decide +kernel)
set_option maxRecDepth 20000 in
theorem gL_law_X2_data : GoodIn wsL_law (wsV RL 66 RX2 yX2_data wsX2_data) := goodIn_app (goodIn_of _ (by decide +kernel)) ggL_law_X2_data
set_option maxRecDepth 20000 in
theorem ggL_law_X3_data : GoodIn wsL_law wsX3_data := goodIn_r _ [405, 406, 124, 39, 407, 57, 58, 5, 59, 525, 526, 527, 528, 529, 530, 531, 532, 533, 534, 535, 536, 537, 538, 539, 540] (by decide +kernel) (by decide +kernel)
set_option maxRecDepth 20000 in
theorem gL_law_X3_data : GoodIn wsL_law (wsV RL 69 RX3 yX3_data wsX3_data) := goodIn_app (goodIn_of _ (by decide +kernel)) ggL_law_X3_data
set_option maxRecDepth 20000 in
theorem ggL_law_X2_read : GoodIn wsL_law wsX2_read := goodIn_r _ [411, 16, 401, 203, 204, 205, 2, 206, 65, 66, 67, 68, 49, 50, 51, 69, 70, 71, 72, 73, 74, 75, 76, 77, 78, 15, 79, 26, 164, 165, 166, 167, 87, 88, 89, 90, 91, 92, 93, 180, 181, 182, 520, 521, 522, 523, 524, 541, 542, 543, 544, 545] (by decide +kernel) (by decide +kernel)
set_option maxRecDepth 20000 in
theorem gL_law_X2_read : GoodIn wsL_law (wsV RL 70 RX2 yX2_read wsX2_read) := goodIn_app (goodIn_of _ (by decide +kernel)) ggL_law_X2_read
set_option maxRecDepth 20000 in
theorem ggL_law_X3_read : GoodIn wsL_law wsX3_read := goodIn_r _ [415, 37, 124, 39, 38, 407, 126, 127, 128, 5, 129, 130, 36, 57, 58, 59, 525, 526, 527, 528, 529, 530, 531, 532, 533, 534, 535, 536, 537, 538, 539, 540] (by decide +kernel) (by decide +kernel)
set_option maxRecDepth 20000 in
theorem gL_law_X3_read : GoodIn wsL_law (wsV RL 73 RX3 yX3_read wsX3_read) := goodIn_app (goodIn_of _ (by decide +kernel)) ggL_law_X3_read
set_option maxRecDepth 20000 in
theorem ggL_law_X2_asked : GoodIn wsL_law wsX2_asked := goodIn_r _ [419, 401, 520, 521, 522, 523, 524] (by decide +kernel) (by decide +kernel)
set_option maxRecDepth 20000 in
theorem gL_law_X2_asked : GoodIn wsL_law (wsV RL 74 RX2 yX2_asked wsX2_asked) := goodIn_app (goodIn_of _ (by decide +kernel)) ggL_law_X2_asked
set_option maxRecDepth 20000 in
theorem ggL_law_X3_asked : GoodIn wsL_law wsX3_asked := goodIn_r _ [423, 407, 525, 526, 527, 528, 529, 530, 531, 532, 533, 534, 535, 536, 537, 538, 539, 540] (by decide +kernel) (by decide +kernel)
set_option maxRecDepth 20000 in
theorem gL_law_X3_asked : GoodIn wsL_law (wsV RL 78 RX3 yX3_asked wsX3_asked) := goodIn_app (goodIn_of _ (by decide +kernel)) ggL_law_X3_asked
set_option maxRecDepth 20000 in
theorem ggL_law_X2_record : GoodIn wsL_law wsX2_record := goodIn_r _ [427, 49, 50, 2, 51, 292, 293, 294, 295, 16, 284, 285, 286, 76, 77, 78, 15, 79, 26, 520, 521, 522, 523, 524, 541, 542, 543, 544, 545] (by decide +kernel) (by decide +kernel)
set_option maxRecDepth 20000 in
theorem gL_law_X2_record : GoodIn wsL_law (wsV RL 79 RX2 yX2_record wsX2_record) := goodIn_app (goodIn_of _ (by decide +kernel)) ggL_law_X2_record
set_option maxRecDepth 20000 in
theorem ggL_law_X3_record : GoodIn wsL_law wsX3_record := goodIn_r _ [431, 432, 40, 57, 58, 5, 59, 525, 526, 527, 528, 529, 530, 531, 532, 533, 534, 535, 536, 537, 538, 539, 540] (by decide +kernel) (by decide +kernel)
set_option maxRecDepth 20000 in
theorem gL_law_X3_record : GoodIn wsL_law (wsV RL 82 RX3 yX3_record wsX3_record) := goodIn_app (goodIn_of _ (by decide +kernel)) ggL_law_X3_record
set_option maxRecDepth 20000 in
theorem ggL_law_X2_plan : GoodIn wsL_law wsX2_plan := goodIn_r _ [436, 20, 258, 259, 260, 49, 50, 2, 51, 261, 262, 263, 264, 176, 177, 178, 179, 69, 70, 71, 72, 16, 73, 74, 75, 76, 77, 78, 15, 79, 26, 164, 165, 166, 167, 87, 88, 89, 90, 91, 92, 93, 265, 266, 267, 268, 172, 173, 174, 175, 269, 270, 271, 19, 272, 273, 274, 275, 276, 277, 278, 279, 280, 281, 282, 283, 520, 521, 522, 523, 524, 546, 547, 548, 541, 542, 543, 544, 545] (by decide +kernel) (by decide +kernel)
set_option maxRecDepth 20000 in
theorem gL_law_X2_plan : GoodIn wsL_law (wsV RL 83 RX2 yX2_plan wsX2_plan) := goodIn_app (goodIn_of _ (by decide +kernel)) ggL_law_X2_plan
set_option maxRecDepth 20000 in
theorem ggL_law_X3_plan : GoodIn wsL_law wsX3_plan := goodIn_r _ [440, 432, 316, 315, 313, 314, 57, 58, 5, 59, 305, 306, 307, 308, 36, 37, 38, 309, 310, 311, 312, 191, 192, 193, 194, 317, 318, 319, 320, 525, 526, 527, 528, 529, 530, 531, 532, 533, 534, 535, 536, 537, 538, 539, 540] (by decide +kernel) (by decide +kernel)
set_option maxRecDepth 20000 in
theorem gL_law_X3_plan : GoodIn wsL_law (wsV RL 86 RX3 yX3_plan wsX3_plan) := goodIn_app (goodIn_of _ (by decide +kernel)) ggL_law_X3_plan
set_option maxRecDepth 20000 in
theorem ggL_law_X2_runs : GoodIn wsL_law wsX2_runs := goodIn_r _ [444, 65, 66, 67, 2, 68, 49, 50, 51, 69, 70, 71, 72, 16, 73, 74, 75, 76, 77, 78, 15, 79, 26, 164, 165, 166, 167, 87, 88, 89, 90, 91, 92, 93, 520, 521, 522, 523, 524, 541, 542, 543, 544, 545] (by decide +kernel) (by decide +kernel)
set_option maxRecDepth 20000 in
theorem gL_law_X2_runs : GoodIn wsL_law (wsV RL 87 RX2 yX2_runs wsX2_runs) := goodIn_app (goodIn_of _ (by decide +kernel)) ggL_law_X2_runs
set_option maxRecDepth 20000 in
theorem ggL_law_X3_runs : GoodIn wsL_law wsX3_runs := goodIn_r _ [448, 37, 38, 126, 127, 128, 5, 129, 130, 36, 57, 58, 59, 525, 526, 527, 528, 529, 530, 531, 532, 533, 534, 535, 536, 537, 538, 539, 540] (by decide +kernel) (by decide +kernel)
set_option maxRecDepth 20000 in
theorem gL_law_X3_runs : GoodIn wsL_law (wsV RL 90 RX3 yX3_runs wsX3_runs) := goodIn_app (goodIn_of _ (by decide +kernel)) ggL_law_X3_runs
