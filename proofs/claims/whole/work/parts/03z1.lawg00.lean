set_option maxRecDepth 20000 in
theorem ggL_law_X2_init : GoodIn wsL_law wsX2_init := goodIn_r _ [9, 10, 11, 12, 13, 14, 15, 16, 17, 18, 19, 20, 21, 22, 23, 24, 25, 26, 27, 28, 29, 30, 536, 537, 538, 539, 515, 516, 517, 518, 519, 540, 541, 542] (by decide +kernel) (by decide +kernel)
set_option maxRecDepth 20000 in
theorem gL_law_X2_init : GoodIn wsL_law (wsX2_init) := ggL_law_X2_init
set_option maxRecDepth 20000 in
theorem ggL_law_X3_init : GoodIn wsL_law wsX3_init := goodIn_r _ [33, 34, 11, 12, 35, 36, 37, 38, 25, 39, 40, 41, 42, 43, 520, 521, 522, 523, 524, 525, 526, 527, 528, 529, 530, 531, 532, 533, 534, 535] (by decide +kernel) (by decide +kernel)
set_option maxRecDepth 20000 in
theorem gL_law_X3_init : GoodIn wsL_law (wsX3_init) := ggL_law_X3_init
set_option maxRecDepth 20000 in
theorem ggL_law_X2_cut : GoodIn wsL_law wsX2_cut := goodIn_r _ [47, 16, 48, 49, 50, 2, 51, 515, 516, 517, 518, 519, 536, 537, 538, 539] (by decide +kernel) (by decide +kernel)
set_option maxRecDepth 20000 in
theorem gL_law_X2_cut : GoodIn wsL_law (wsV RL 13 RX2 yX2_cut wsX2_cut) := goodIn_app (goodIn_of _ (by decide +kernel)) ggL_law_X2_cut
set_option maxRecDepth 20000 in
theorem ggL_law_X3_cut : GoodIn wsL_law wsX3_cut := goodIn_r _ [55, 56, 41, 57, 58, 5, 59, 520, 521, 522, 523, 524, 525, 526, 527, 528, 529, 530, 531, 532, 533, 534, 535] (by decide +kernel) (by decide +kernel)
set_option maxRecDepth 20000 in
theorem gL_law_X3_cut : GoodIn wsL_law (wsV RL 17 RX3 yX3_cut wsX3_cut) := goodIn_app (goodIn_of _ (by decide +kernel)) ggL_law_X3_cut
set_option maxRecDepth 20000 in
theorem ggL_law_X2_make : GoodIn wsL_law wsX2_make := goodIn_r _ [63, 16, 64, 65, 66, 67, 2, 68, 49, 50, 51, 69, 70, 71, 72, 73, 74, 75, 76, 77, 78, 15, 79, 26, 80, 81, 82, 83, 84, 85, 86, 87, 88, 89, 90, 91, 92, 93, 94, 95, 96, 97, 98, 99, 100, 101, 102, 103, 104, 105, 106, 107, 108, 109, 27, 110, 111, 112, 113, 114, 115, 116, 117, 515, 516, 517, 518, 519, 536, 537, 538, 539] (by decide +kernel) (by decide +kernel)
set_option maxRecDepth 20000 in
theorem gL_law_X2_make : GoodIn wsL_law (wsV RL 18 RX2 yX2_make wsX2_make) := goodIn_app (goodIn_of _ (by decide +kernel)) ggL_law_X2_make
set_option maxRecDepth 20000 in
theorem ggL_law_X3_make : GoodIn wsL_law wsX3_make := goodIn_r _ [121, 122, 123, 36, 124, 125, 126, 5, 127, 128, 57, 58, 59, 129, 130, 131, 132, 133, 134, 135, 136, 38, 137, 138, 139, 140, 141, 142, 143, 144, 37, 145, 146, 147, 148, 41, 149, 150, 151, 152, 153, 154, 155, 156, 157, 520, 521, 522, 523, 524, 525, 526, 527, 528, 529, 530, 531, 532, 533, 534, 535] (by decide +kernel) (by decide +kernel)
set_option maxRecDepth 20000 in
theorem gL_law_X3_make : GoodIn wsL_law (wsV RL 22 RX3 yX3_make wsX3_make) := goodIn_app (goodIn_of _ (by decide +kernel)) ggL_law_X3_make
set_option maxRecDepth 20000 in
theorem ggL_law_X2_append : GoodIn wsL_law wsX2_append := goodIn_r _ [161, 16, 64, 65, 66, 67, 2, 68, 49, 50, 51, 69, 70, 71, 72, 73, 74, 75, 76, 77, 78, 15, 79, 26, 162, 163, 164, 165, 166, 167, 168, 169, 170, 171, 172, 173, 87, 88, 89, 90, 91, 92, 93, 174, 175, 176, 177, 178, 179, 180, 181, 182, 105, 106, 107, 108, 109, 27, 110, 114, 115, 116, 117, 515, 516, 517, 518, 519, 536, 537, 538, 539] (by decide +kernel) (by decide +kernel)
set_option maxRecDepth 20000 in
theorem gL_law_X2_append : GoodIn wsL_law (wsV RL 25 RX2 yX2_append wsX2_append) := goodIn_app (goodIn_of _ (by decide +kernel)) ggL_law_X2_append
set_option maxRecDepth 20000 in
theorem ggL_law_X3_append : GoodIn wsL_law wsX3_append := goodIn_r _ [186, 123, 37, 124, 125, 126, 5, 127, 128, 36, 57, 58, 59, 187, 188, 189, 190, 191, 192, 193, 194, 38, 195, 196, 197, 198, 39, 145, 146, 147, 148, 41, 149, 150, 151, 152, 153, 141, 142, 143, 144, 520, 521, 522, 523, 524, 525, 526, 527, 528, 529, 530, 531, 532, 533, 534, 535] (by decide +kernel) (by decide +kernel)
set_option maxRecDepth 20000 in
theorem gL_law_X3_append : GoodIn wsL_law (wsV RL 29 RX3 yX3_append wsX3_append) := goodIn_app (goodIn_of _ (by decide +kernel)) ggL_law_X3_append
set_option maxRecDepth 20000 in
theorem ggL_law_X2_put : GoodIn wsL_law wsX2_put := goodIn_r _ [202, 16, 64, 203, 204, 205, 2, 206, 65, 66, 67, 68, 49, 50, 51, 69, 70, 71, 72, 73, 74, 75, 76, 77, 78, 15, 79, 26, 162, 163, 164, 165, 87, 88, 89, 90, 91, 92, 93, 180, 181, 182, 105, 106, 107, 108, 109, 27, 110, 114, 115, 116, 117, 515, 516, 517, 518, 519, 536, 537, 538, 539] (by decide +kernel) (by decide +kernel)
set_option maxRecDepth 20000 in
theorem gL_law_X2_put : GoodIn wsL_law (wsV RL 30 RX2 yX2_put wsX2_put) := goodIn_app (goodIn_of _ (by decide +kernel)) ggL_law_X2_put
set_option maxRecDepth 20000 in
theorem ggL_law_X3_put : GoodIn wsL_law wsX3_put := goodIn_r _ [210, 37, 122, 123, 38, 124, 125, 126, 5, 127, 128, 36, 57, 58, 59, 195, 196, 197, 198, 39, 145, 146, 147, 148, 41, 149, 520, 521, 522, 523, 524, 525, 526, 527, 528, 529, 530, 531, 532, 533, 534, 535] (by decide +kernel) (by decide +kernel)
set_option maxRecDepth 20000 in
theorem gL_law_X3_put : GoodIn wsL_law (wsV RL 34 RX3 yX3_put wsX3_put) := goodIn_app (goodIn_of _ (by decide +kernel)) ggL_law_X3_put
set_option maxRecDepth 20000 in
theorem ggL_law_X2_remove : GoodIn wsL_law wsX2_remove := goodIn_r _ [214, 16, 64, 65, 66, 67, 2, 68, 49, 50, 51, 69, 70, 71, 72, 73, 74, 75, 76, 77, 78, 15, 79, 26, 80, 81, 82, 83, 84, 85, 86, 87, 88, 89, 90, 91, 92, 93, 94, 95, 96, 215, 216, 217, 218, 219, 220, 221, 105, 106, 107, 108, 109, 27, 110, 114, 115, 116, 117, 515, 516, 517, 518, 519, 536, 537, 538, 539] (by decide +kernel) (by decide +kernel)
set_option maxRecDepth 20000 in
theorem gL_law_X2_remove : GoodIn wsL_law (wsV RL 35 RX2 yX2_remove wsX2_remove) := goodIn_app (goodIn_of _ (by decide +kernel)) ggL_law_X2_remove
set_option maxRecDepth 20000 in
theorem ggL_law_X3_remove : GoodIn wsL_law wsX3_remove := goodIn_r _ [225, 123, 38, 36, 124, 125, 126, 5, 127, 128, 57, 58, 59, 129, 130, 131, 132, 133, 134, 135, 136, 226, 227, 228, 229, 150, 151, 152, 153, 145, 146, 147, 148, 41, 149, 154, 155, 156, 157, 520, 521, 522, 523, 524, 525, 526, 527, 528, 529, 530, 531, 532, 533, 534, 535] (by decide +kernel) (by decide +kernel)
set_option maxRecDepth 20000 in
theorem gL_law_X3_remove : GoodIn wsL_law (wsV RL 39 RX3 yX3_remove wsX3_remove) := goodIn_app (goodIn_of _ (by decide +kernel)) ggL_law_X3_remove
