set_option maxRecDepth 20000 in
theorem ggL_law_X2_rename : GoodIn wsL_law wsX2_rename := goodIn_r _ [233, 16, 64, 65, 66, 67, 2, 68, 49, 50, 51, 69, 70, 71, 72, 73, 74, 75, 76, 77, 78, 15, 79, 26, 80, 81, 82, 83, 84, 85, 86, 87, 88, 89, 90, 91, 92, 93, 94, 95, 96, 101, 102, 103, 104, 215, 216, 217, 234, 235, 236, 237, 238, 239, 240, 241, 242, 243, 244, 245, 112, 113, 114, 105, 106, 107, 108, 109, 27, 110, 111, 115, 116, 117, 118, 119, 520, 521, 522, 523, 524, 541, 542, 543, 544, 545] (by decide +kernel) (by decide +kernel)
set_option maxRecDepth 20000 in
theorem gL_law_X2_rename : GoodIn wsL_law (wsV RL 40 RX2 yX2_rename wsX2_rename) := goodIn_app (goodIn_of _ (by decide +kernel)) ggL_law_X2_rename
set_option maxRecDepth 20000 in
theorem ggL_law_X3_rename : GoodIn wsL_law wsX3_rename := goodIn_r _ [249, 125, 38, 36, 126, 127, 128, 5, 129, 130, 57, 58, 59, 131, 132, 133, 134, 135, 136, 137, 138, 139, 140, 141, 142, 250, 251, 252, 253, 152, 153, 154, 155, 147, 148, 149, 150, 41, 151, 525, 526, 527, 528, 529, 530, 531, 532, 533, 534, 535, 536, 537, 538, 539, 540] (by decide +kernel) (by decide +kernel)
set_option maxRecDepth 20000 in
theorem gL_law_X3_rename : GoodIn wsL_law (wsV RL 44 RX3 yX3_rename wsX3_rename) := goodIn_app (goodIn_of _ (by decide +kernel)) ggL_law_X3_rename
set_option maxRecDepth 20000 in
theorem ggL_law_X2_step : GoodIn wsL_law wsX2_step := goodIn_r _ [257, 16, 64, 20, 258, 259, 260, 261, 262, 263, 2, 264, 176, 177, 178, 179, 69, 70, 71, 72, 73, 74, 75, 76, 77, 78, 15, 79, 26, 164, 165, 166, 167, 87, 88, 89, 90, 91, 92, 93, 265, 266, 267, 268, 172, 173, 174, 175, 269, 270, 271, 19, 272, 273, 274, 275, 276, 277, 278, 279, 280, 281, 282, 283, 284, 285, 286, 105, 106, 107, 108, 109, 27, 110, 111, 287, 288, 289, 290, 291, 292, 293, 294, 295, 180, 181, 182, 296, 297, 298, 299, 119, 300, 115, 116, 117, 118, 520, 521, 522, 523, 524, 541, 542, 543, 544, 545, 546, 547, 548] (by decide +kernel) (by decide +kernel)
set_option maxRecDepth 20000 in
theorem gL_law_X2_step : GoodIn wsL_law (wsV RL 45 RX2 yX2_step wsX2_step) := goodIn_app (goodIn_of _ (by decide +kernel)) ggL_law_X2_step
set_option maxRecDepth 20000 in
theorem ggL_law_X3_step : GoodIn wsL_law wsX3_step := goodIn_r _ [304, 125, 305, 306, 307, 5, 308, 36, 37, 38, 309, 310, 311, 312, 313, 314, 315, 316, 191, 192, 193, 194, 317, 318, 319, 320, 321, 322, 323, 324, 40, 39, 325, 326, 327, 328, 329, 147, 148, 149, 150, 41, 151, 195, 196, 197, 198, 152, 153, 154, 155, 525, 526, 527, 528, 529, 530, 531, 532, 533, 534, 535, 536, 537, 538, 539, 540] (by decide +kernel) (by decide +kernel)
set_option maxRecDepth 20000 in
theorem gL_law_X3_step : GoodIn wsL_law (wsV RL 49 RX3 yX3_step wsX3_step) := goodIn_app (goodIn_of _ (by decide +kernel)) ggL_law_X3_step
set_option maxRecDepth 20000 in
theorem ggL_law_X2_restart : GoodIn wsL_law wsX2_restart := goodIn_r _ [333, 16, 334, 119, 64, 335, 336, 337, 15, 338, 109, 339, 340, 341, 2, 342, 292, 293, 294, 295, 284, 285, 286, 76, 77, 78, 79, 26, 287, 288, 289, 290, 291, 87, 88, 89, 90, 91, 92, 93, 73, 74, 75, 180, 181, 182, 105, 106, 107, 108, 27, 110, 111, 296, 297, 298, 299, 300, 343, 344, 345, 346, 347, 69, 70, 71, 72, 348, 349, 350, 351, 215, 216, 217, 352, 353, 354, 355, 356, 357, 358, 359, 238, 239, 240, 241, 242, 243, 244, 245, 520, 521, 522, 523, 524, 541, 542, 543, 544, 545] (by decide +kernel) (by decide +kernel)
set_option maxRecDepth 20000 in
theorem gL_law_X2_restart : GoodIn wsL_law (wsV RL 50 RX2 yX2_restart wsX2_restart) := goodIn_app (goodIn_of _ (by decide +kernel)) ggL_law_X2_restart
set_option maxRecDepth 20000 in
theorem ggL_law_X3_restart : GoodIn wsL_law wsX3_restart := goodIn_r _ [363, 151, 125, 40, 36, 38, 321, 322, 323, 5, 324, 313, 314, 315, 39, 325, 326, 327, 328, 329, 147, 148, 149, 150, 41, 195, 196, 197, 198, 152, 153, 154, 155, 364, 365, 366, 367, 156, 157, 158, 159, 525, 526, 527, 528, 529, 530, 531, 532, 533, 534, 535, 536, 537, 538, 539, 540] (by decide +kernel) (by decide +kernel)
set_option maxRecDepth 20000 in
theorem gL_law_X3_restart : GoodIn wsL_law (wsV RL 53 RX3 yX3_restart wsX3_restart) := goodIn_app (goodIn_of _ (by decide +kernel)) ggL_law_X3_restart
set_option maxRecDepth 20000 in
theorem ggL_law_X2_isDown : GoodIn wsL_law wsX2_isDown := goodIn_r _ [371, 16, 64, 520, 521, 522, 523, 524, 541, 542, 543, 544, 545] (by decide +kernel) (by decide +kernel)
set_option maxRecDepth 20000 in
theorem gL_law_X2_isDown : GoodIn wsL_law (wsV RL 54 RX2 yX2_isDown wsX2_isDown) := goodIn_app (goodIn_of _ (by decide +kernel)) ggL_law_X2_isDown
set_option maxRecDepth 20000 in
theorem ggL_law_X3_isDown : GoodIn wsL_law wsX3_isDown := goodIn_r _ [375, 125, 525, 526, 527, 528, 529, 530, 531, 532, 533, 534, 535, 536, 537, 538, 539, 540] (by decide +kernel) (by decide +kernel)
set_option maxRecDepth 20000 in
theorem gL_law_X3_isDown : GoodIn wsL_law (wsV RL 57 RX3 yX3_isDown wsX3_isDown) := goodIn_app (goodIn_of _ (by decide +kernel)) ggL_law_X3_isDown
set_option maxRecDepth 20000 in
theorem ggL_law_X2_find : GoodIn wsL_law wsX2_find := goodIn_r _ [379, 65, 66, 67, 2, 68, 49, 50, 51, 69, 70, 71, 72, 16, 73, 74, 75, 76, 77, 78, 15, 79, 26, 80, 81, 82, 83, 84, 85, 86, 87, 88, 89, 90, 91, 92, 93, 94, 95, 96, 215, 216, 217, 520, 521, 522, 523, 524, 541, 542, 543, 544, 545] (by decide +kernel) (by decide +kernel)
set_option maxRecDepth 20000 in
theorem gL_law_X2_find : GoodIn wsL_law (wsV RL 58 RX2 yX2_find wsX2_find) := goodIn_app (goodIn_of _ (by decide +kernel)) ggL_law_X2_find
set_option maxRecDepth 20000 in
theorem ggL_law_X3_find : GoodIn wsL_law wsX3_find := goodIn_r _ [383, 38, 126, 127, 128, 5, 129, 130, 36, 57, 58, 59, 131, 132, 133, 134, 135, 136, 137, 138, 525, 526, 527, 528, 529, 530, 531, 532, 533, 534, 535, 536, 537, 538, 539, 540] (by decide +kernel) (by decide +kernel)
set_option maxRecDepth 20000 in
theorem gL_law_X3_find : GoodIn wsL_law (wsV RL 61 RX3 yX3_find wsX3_find) := goodIn_app (goodIn_of _ (by decide +kernel)) ggL_law_X3_find
set_option maxRecDepth 20000 in
theorem ggL_law_X2_inode : GoodIn wsL_law wsX2_inode := goodIn_r _ [387, 16, 49, 50, 2, 51, 73, 74, 75, 76, 77, 78, 15, 79, 26, 520, 521, 522, 523, 524, 541, 542, 543, 544, 545] (by decide +kernel) (by decide +kernel)
set_option maxRecDepth 20000 in
theorem gL_law_X2_inode : GoodIn wsL_law (wsV RL 62 RX2 yX2_inode wsX2_inode) := goodIn_app (goodIn_of _ (by decide +kernel)) ggL_law_X2_inode
set_option maxRecDepth 20000 in
theorem ggL_law_X3_inode : GoodIn wsL_law wsX3_inode := goodIn_r _ [391, 130, 392, 57, 58, 5, 59, 393, 394, 395, 396, 36, 37, 38, 525, 526, 527, 528, 529, 530, 531, 532, 533, 534, 535, 536, 537, 538, 539, 540] (by decide +kernel) (by decide +kernel)
set_option maxRecDepth 20000 in
theorem gL_law_X3_inode : GoodIn wsL_law (wsV RL 65 RX3 yX3_inode wsX3_inode) := goodIn_app (goodIn_of _ (by decide +kernel)) ggL_law_X3_inode
