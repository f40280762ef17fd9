set_option maxRecDepth 20000 in
theorem ggL_law_X2_data : GoodIn wsL_law wsX2_data := goodIn_r _ [395, 16, 396, 49, 50, 2, 51, 180, 181, 182, 76, 77, 78, 15, 79, 26, 515, 516, 517, 518, 519, 536, 537, 538, 539] (by decide +kernel) (by decide +kernel)
set_option maxRecDepth 20000 in
theorem gL_law_X2_data : GoodIn wsL_law (wsV RL 66 RX2 yX2_data wsX2_data) := goodIn_app (goodIn_of _ (by decide +kernel)) ggL_law_X2_data
set_option maxRecDepth 20000 in
theorem ggL_law_X3_data : GoodIn wsL_law wsX3_data := goodIn_r _ [400, 401, 122, 39, 402, 57, 58, 5, 59, 520, 521, 522, 523, 524, 525, 526, 527, 528, 529, 530, 531, 532, 533, 534, 535] (by decide +kernel) (by decide +kernel)
set_option maxRecDepth 20000 in
theorem gL_law_X3_data : GoodIn wsL_law (wsV RL 69 RX3 yX3_data wsX3_data) := goodIn_app (goodIn_of _ (by decide +kernel)) ggL_law_X3_data
set_option maxRecDepth 20000 in
theorem ggL_law_X2_read : GoodIn wsL_law wsX2_read := goodIn_r _ [406, 16, 396, 203, 204, 205, 2, 206, 65, 66, 67, 68, 49, 50, 51, 69, 70, 71, 72, 73, 74, 75, 76, 77, 78, 15, 79, 26, 162, 163, 164, 165, 87, 88, 89, 90, 91, 92, 93, 180, 181, 182, 515, 516, 517, 518, 519, 536, 537, 538, 539] (by decide +kernel) (by decide +kernel)
set_option maxRecDepth 20000 in
theorem gL_law_X2_read : GoodIn wsL_law (wsV RL 70 RX2 yX2_read wsX2_read) := goodIn_app (goodIn_of _ (by decide +kernel)) ggL_law_X2_read
set_option maxRecDepth 20000 in
theorem ggL_law_X3_read : GoodIn wsL_law wsX3_read := goodIn_r _ [410, 37, 122, 39, 38, 402, 124, 125, 126, 5, 127, 128, 36, 57, 58, 59, 520, 521, 522, 523, 524, 525, 526, 527, 528, 529, 530, 531, 532, 533, 534, 535] (by decide +kernel) (by decide +kernel)
set_option maxRecDepth 20000 in
theorem gL_law_X3_read : GoodIn wsL_law (wsV RL 73 RX3 yX3_read wsX3_read) := goodIn_app (goodIn_of _ (by decide +kernel)) ggL_law_X3_read
set_option maxRecDepth 20000 in
theorem ggL_law_X2_asked : GoodIn wsL_law wsX2_asked := goodIn_r _ [414, 396, 515, 516, 517, 518, 519] (by decide +kernel) (by decide +kernel)
set_option maxRecDepth 20000 in
theorem gL_law_X2_asked : GoodIn wsL_law (wsV RL 74 RX2 yX2_asked wsX2_asked) := goodIn_app (goodIn_of _ (by decide +kernel)) ggL_law_X2_asked
set_option maxRecDepth 20000 in
theorem ggL_law_X3_asked : GoodIn wsL_law wsX3_asked := goodIn_r _ [418, 402, 520, 521, 522, 523, 524, 525, 526, 527, 528, 529, 530, 531, 532, 533, 534, 535] (by decide +kernel) (by decide +kernel)
set_option maxRecDepth 20000 in
theorem gL_law_X3_asked : GoodIn wsL_law (wsV RL 78 RX3 yX3_asked wsX3_asked) := goodIn_app (goodIn_of _ (by decide +kernel)) ggL_law_X3_asked
set_option maxRecDepth 20000 in
theorem ggL_law_X2_record : GoodIn wsL_law wsX2_record := goodIn_r _ [422, 49, 50, 2, 51, 291, 292, 293, 294, 16, 283, 284, 285, 76, 77, 78, 15, 79, 26, 515, 516, 517, 518, 519, 536, 537, 538, 539] (by decide +kernel) (by decide +kernel)
set_option maxRecDepth 20000 in
theorem gL_law_X2_record : GoodIn wsL_law (wsV RL 79 RX2 yX2_record wsX2_record) := goodIn_app (goodIn_of _ (by decide +kernel)) ggL_law_X2_record
set_option maxRecDepth 20000 in
theorem ggL_law_X3_record : GoodIn wsL_law wsX3_record := goodIn_r _ [426, 427, 40, 57, 58, 5, 59, 520, 521, 522, 523, 524, 525, 526, 527, 528, 529, 530, 531, 532, 533, 534, 535] (by decide +kernel) (by decide +kernel)
set_option maxRecDepth 20000 in
theorem gL_law_X3_record : GoodIn wsL_law (wsV RL 82 RX3 yX3_record wsX3_record) := goodIn_app (goodIn_of _ (by decide +kernel)) ggL_law_X3_record
set_option maxRecDepth 20000 in
theorem ggL_law_X2_plan : GoodIn wsL_law wsX2_plan := goodIn_r _ [431, 20, 258, 259, 260, 49, 50, 2, 51, 261, 262, 263, 264, 170, 171, 172, 173, 69, 70, 71, 72, 16, 73, 74, 75, 76, 77, 78, 15, 79, 26, 162, 163, 164, 165, 87, 88, 89, 90, 91, 92, 93, 265, 266, 267, 268, 166, 167, 168, 169, 177, 178, 179, 269, 270, 271, 19, 272, 273, 274, 275, 276, 277, 278, 279, 280, 281, 282, 515, 516, 517, 518, 519, 540, 541, 542, 536, 537, 538, 539] (by decide +kernel) (by decide +kernel)
set_option maxRecDepth 20000 in
theorem gL_law_X2_plan : GoodIn wsL_law (wsV RL 83 RX2 yX2_plan wsX2_plan) := goodIn_app (goodIn_of _ (by decide +kernel)) ggL_law_X2_plan
set_option maxRecDepth 20000 in
theorem ggL_law_X3_plan : GoodIn wsL_law wsX3_plan := goodIn_r _ [435, 427, 315, 314, 312, 313, 57, 58, 5, 59, 304, 305, 306, 307, 36, 37, 38, 308, 309, 310, 311, 191, 192, 193, 194, 316, 317, 318, 319, 520, 521, 522, 523, 524, 525, 526, 527, 528, 529, 530, 531, 532, 533, 534, 535] (by decide +kernel) (by decide +kernel)
set_option maxRecDepth 20000 in
theorem gL_law_X3_plan : GoodIn wsL_law (wsV RL 86 RX3 yX3_plan wsX3_plan) := goodIn_app (goodIn_of _ (by decide +kernel)) ggL_law_X3_plan
set_option maxRecDepth 20000 in
theorem ggL_law_X2_runs : GoodIn wsL_law wsX2_runs := goodIn_r _ [439, 65, 66, 67, 2, 68, 49, 50, 51, 69, 70, 71, 72, 16, 73, 74, 75, 76, 77, 78, 15, 79, 26, 162, 163, 164, 165, 87, 88, 89, 90, 91, 92, 93, 515, 516, 517, 518, 519, 536, 537, 538, 539] (by decide +kernel) (by decide +kernel)
set_option maxRecDepth 20000 in
theorem gL_law_X2_runs : GoodIn wsL_law (wsV RL 87 RX2 yX2_runs wsX2_runs) := goodIn_app (goodIn_of _ (by decide +kernel)) ggL_law_X2_runs
set_option maxRecDepth 20000 in
theorem ggL_law_X3_runs : GoodIn wsL_law wsX3_runs := goodIn_r _ [443, 37, 38, 124, 125, 126, 5, 127, 128, 36, 57, 58, 59, 520, 521, 522, 523, 524, 525, 526, 527, 528, 529, 530, 531, 532, 533, 534, 535] (by decide +kernel) (by decide +kernel)
set_option maxRecDepth 20000 in
theorem gL_law_X3_runs : GoodIn wsL_law (wsV RL 90 RX3 yX3_runs wsX3_runs) := goodIn_app (goodIn_of _ (by decide +kernel)) ggL_law_X3_runs
