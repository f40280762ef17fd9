set_option maxRecDepth 20000 in
theorem ggL_law_X2_rename : GoodIn wsL_law wsX2_rename := goodIn_r _ [233, 16, 64, 65, 66, 67, 2, 68, 49, 50, 51, 69, 70, 71, 72, 73, 74, 75, 76, 77, 78, 15, 79, 26, 80, 81, 82, 83, 84, 85, 86, 87, 88, 89, 90, 91, 92, 93, 94, 95, 96, 101, 102, 103, 104, 215, 216, 217, 234, 235, 236, 237, 238, 239, 240, 241, 242, 243, 244, 245, 111, 112, 113, 105, 106, 107, 108, 109, 27, 110, 114, 115, 116, 117, 515, 516, 517, 518, 519, 536, 537, 538, 539] (by decide +kernel) (by decide +kernel)
set_option maxRecDepth 20000 in
theorem gL_law_X2_rename : GoodIn wsL_law (wsV RL 40 RX2 yX2_rename wsX2_rename) := goodIn_app (goodIn_of _ (by decide +kernel)) ggL_law_X2_rename
set_option maxRecDepth 20000 in
theorem ggL_law_X3_rename : GoodIn wsL_law wsX3_rename := goodIn_r _ [249, 123, 38, 36, 124, 125, 126, 5, 127, 128, 57, 58, 59, 129, 130, 131, 132, 133, 134, 135, 136, 137, 138, 139, 140, 250, 251, 252, 253, 150, 151, 152, 153, 145, 146, 147, 148, 41, 149, 520, 521, 522, 523, 524, 525, 526, 527, 528, 529, 530, 531, 532, 533, 534, 535] (by decide +kernel) (by decide +kernel)
set_option maxRecDepth 20000 in
theorem gL_law_X3_rename : GoodIn wsL_law (wsV RL 44 RX3 yX3_rename wsX3_rename) := goodIn_app (goodIn_of _ (by decide +kernel)) ggL_law_X3_rename
set_option maxRecDepth 20000 in
theorem ggL_law_X2_step : GoodIn wsL_law wsX2_step := goodIn_r _ [257, 16, 64, 20, 258, 259, 260, 261, 262, 263, 2, 264, 170, 171, 172, 173, 69, 70, 71, 72, 73, 74, 75, 76, 77, 78, 15, 79, 26, 162, 163, 164, 165, 87, 88, 89, 90, 91, 92, 93, 265, 266, 267, 268, 166, 167, 168, 169, 177, 178, 179, 269, 270, 271, 19, 272, 273, 274, 275, 276, 277, 278, 279, 280, 281, 282, 283, 284, 285, 105, 106, 107, 108, 109, 27, 110, 286, 287, 288, 289, 290, 291, 292, 293, 294, 180, 181, 182, 295, 296, 297, 298, 299, 114, 115, 116, 117, 515, 516, 517, 518, 519, 536, 537, 538, 539, 540, 541, 542] (by decide +kernel) (by decide +kernel)
set_option maxRecDepth 20000 in
theorem gL_law_X2_step : GoodIn wsL_law (wsV RL 45 RX2 yX2_step wsX2_step) := goodIn_app (goodIn_of _ (by decide +kernel)) ggL_law_X2_step
set_option maxRecDepth 20000 in
theorem ggL_law_X3_step : GoodIn wsL_law wsX3_step := goodIn_r _ [303, 123, 304, 305, 306, 5, 307, 36, 37, 38, 308, 309, 310, 311, 312, 313, 314, 315, 191, 192, 193, 194, 316, 317, 318, 319, 320, 321, 322, 323, 40, 39, 324, 325, 326, 327, 328, 145, 146, 147, 148, 41, 149, 195, 196, 197, 198, 150, 151, 152, 153, 520, 521, 522, 523, 524, 525, 526, 527, 528, 529, 530, 531, 532, 533, 534, 535] (by decide +kernel) (by decide +kernel)
set_option maxRecDepth 20000 in
theorem gL_law_X3_step : GoodIn wsL_law (wsV RL 49 RX3 yX3_step wsX3_step) := goodIn_app (goodIn_of _ (by decide +kernel)) ggL_law_X3_step
set_option maxRecDepth 20000 in
theorem ggL_law_X2_restart : GoodIn wsL_law wsX2_restart := goodIn_r _ [332, 16, 333, 64, 334, 335, 336, 2, 337, 291, 292, 293, 294, 283, 284, 285, 76, 77, 78, 15, 79, 26, 286, 287, 288, 289, 290, 87, 88, 89, 90, 91, 92, 93, 73, 74, 75, 180, 181, 182, 105, 106, 107, 108, 109, 27, 110, 295, 296, 297, 298, 299, 338, 339, 340, 341, 342, 69, 70, 71, 72, 343, 344, 345, 346, 215, 216, 217, 347, 348, 349, 350, 351, 352, 353, 354, 238, 239, 240, 241, 242, 243, 244, 245, 114, 115, 116, 117, 515, 516, 517, 518, 519, 536, 537, 538, 539] (by decide +kernel) (by decide +kernel)
set_option maxRecDepth 20000 in
theorem gL_law_X2_restart : GoodIn wsL_law (wsV RL 50 RX2 yX2_restart wsX2_restart) := goodIn_app (goodIn_of _ (by decide +kernel)) ggL_law_X2_restart
set_option maxRecDepth 20000 in
theorem ggL_law_X3_restart : GoodIn wsL_law wsX3_restart := goodIn_r _ [358, 149, 123, 40, 36, 38, 320, 321, 322, 5, 323, 312, 313, 314, 39, 324, 325, 326, 327, 328, 145, 146, 147, 148, 41, 195, 196, 197, 198, 150, 151, 152, 153, 359, 360, 361, 362, 154, 155, 156, 157, 520, 521, 522, 523, 524, 525, 526, 527, 528, 529, 530, 531, 532, 533, 534, 535] (by decide +kernel) (by decide +kernel)
set_option maxRecDepth 20000 in
theorem gL_law_X3_restart : GoodIn wsL_law (wsV RL 53 RX3 yX3_restart wsX3_restart) := goodIn_app (goodIn_of _ (by decide +kernel)) ggL_law_X3_restart
set_option maxRecDepth 20000 in
theorem ggL_law_X2_isDown : GoodIn wsL_law wsX2_isDown := goodIn_r _ [366, 16, 64, 515, 516, 517, 518, 519, 536, 537, 538, 539] (by decide +kernel) (by decide +kernel)
set_option maxRecDepth 20000 in
theorem gL_law_X2_isDown : GoodIn wsL_law (wsV RL 54 RX2 yX2_isDown wsX2_isDown) := goodIn_app (goodIn_of _ (by decide +kernel)) ggL_law_X2_isDown
set_option maxRecDepth 20000 in
theorem ggL_law_X3_isDown : GoodIn wsL_law wsX3_isDown := goodIn_r _ [370, 123, 520, 521, 522, 523, 524, 525, 526, 527, 528, 529, 530, 531, 532, 533, 534, 535] (by decide +kernel) (by decide +kernel)
set_option maxRecDepth 20000 in
theorem gL_law_X3_isDown : GoodIn wsL_law (wsV RL 57 RX3 yX3_isDown wsX3_isDown) := goodIn_app (goodIn_of _ (by decide +kernel)) ggL_law_X3_isDown
set_option maxRecDepth 20000 in
theorem ggL_law_X2_find : GoodIn wsL_law wsX2_find := goodIn_r _ [374, 65, 66, 67, 2, 68, 49, 50, 51, 69, 70, 71, 72, 16, 73, 74, 75, 76, 77, 78, 15, 79, 26, 80, 81, 82, 83, 84, 85, 86, 87, 88, 89, 90, 91, 92, 93, 94, 95, 96, 215, 216, 217, 515, 516, 517, 518, 519, 536, 537, 538, 539] (by decide +kernel) (by decide +kernel)
set_option maxRecDepth 20000 in
theorem gL_law_X2_find : GoodIn wsL_law (wsV RL 58 RX2 yX2_find wsX2_find) := goodIn_app (goodIn_of _ (by decide +kernel)) ggL_law_X2_find
set_option maxRecDepth 20000 in
theorem ggL_law_X3_find : GoodIn wsL_law wsX3_find := goodIn_r _ [378, 38, 124, 125, 126, 5, 127, 128, 36, 57, 58, 59, 129, 130, 131, 132, 133, 134, 135, 136, 520, 521, 522, 523, 524, 525, 526, 527, 528, 529, 530, 531, 532, 533, 534, 535] (by decide +kernel) (by decide +kernel)
set_option maxRecDepth 20000 in
theorem gL_law_X3_find : GoodIn wsL_law (wsV RL 61 RX3 yX3_find wsX3_find) := goodIn_app (goodIn_of _ (by decide +kernel)) ggL_law_X3_find
set_option maxRecDepth 20000 in
theorem ggL_law_X2_inode : GoodIn wsL_law wsX2_inode := goodIn_r _ [382, 16, 49, 50, 2, 51, 73, 74, 75, 76, 77, 78, 15, 79, 26, 515, 516, 517, 518, 519, 536, 537, 538, 539] (by decide +kernel) (by decide +kernel)
set_option maxRecDepth 20000 in
theorem gL_law_X2_inode : GoodIn wsL_law (wsV RL 62 RX2 yX2_inode wsX2_inode) := goodIn_app (goodIn_of _ (by decide +kernel)) ggL_law_X2_inode
set_option maxRecDepth 20000 in
theorem ggL_law_X3_inode : GoodIn wsL_law wsX3_inode := goodIn_r _ [386, 128, 387, 57, 58, 5, 59, 388, 389, 390, 391, 36, 37, 38, 520, 521, 522, 523, 524, 525, 526, 527, 528, 529, 530, 531, 532, 533, 534, 535] (by decide +kernel) (by decide +kernel)
set_option maxRecDepth 20000 in
theorem gL_law_X3_inode : GoodIn wsL_law (wsV RL 65 RX3 yX3_inode wsX3_inode) := goodIn_app (goodIn_of _ (by decide +kernel)) ggL_law_X3_inode
