set_option maxRecDepth 20000 in
theorem ggL_law_X2_rename : GoodIn wsL_law wsX2_rename := goodIn_r _ [237, 16, 64, 65, 66, 67, 2, 68, 49, 50, 51, 69, 70, 71, 72, 73, 74, 75, 76, 77, 78, 15, 79, 26, 80, 81, 82, 83, 84, 85, 86, 87, 88, 89, 90, 91, 92, 93, 94, 95, 96, 101, 102, 103, 104, 219, 220, 221, 238, 239, 240, 241, 242, 243, 244, 245, 246, 247, 248, 249, 105, 106, 107, 108, 109, 116, 117, 118, 110, 111, 112, 113, 27, 114, 115, 119, 120, 121, 122, 123, 520, 521, 522, 523, 524, 541, 542, 543, 544, 545] (by decide +kernel) (by decide +kernel)
set_option maxRecDepth 20000 in
theorem gL_law_X2_rename : GoodIn wsL_law (wsV RL 40 RX2 yX2_rename wsX2_rename) := goodIn_app (goodIn_of _ (by decide +kernel)) ggL_law_X2_rename
set_option maxRecDepth 20000 in
theorem ggL_law_X3_rename : GoodIn wsL_law wsX3_rename := goodIn_r _ [253, 129, 38, 36, 130, 131, 132, 5, 133, 134, 57, 58, 59, 135, 136, 137, 138, 139, 140, 141, 142, 143, 144, 145, 146, 254, 255, 256, 257, 156, 157, 158, 159, 151, 152, 153, 154, 41, 155, 525, 526, 527, 528, 529, 530, 531, 532, 533, 534, 535, 536, 537, 538, 539, 540] (by decide +kernel) (by decide +kernel)
set_option maxRecDepth 20000 in
theorem gL_law_X3_rename : GoodIn wsL_law (wsV RL 44 RX3 yX3_rename wsX3_rename) := goodIn_app (goodIn_of _ (by decide +kernel)) ggL_law_X3_rename
set_option maxRecDepth 20000 in
theorem ggL_law_X2_step : GoodIn wsL_law wsX2_step := goodIn_r _ [261, 16, 64, 20, 262, 263, 264, 265, 266, 267, 2, 268, 180, 181, 182, 183, 69, 70, 71, 72, 73, 74, 75, 76, 77, 78, 15, 79, 26, 168, 169, 170, 171, 87, 88, 89, 90, 91, 92, 93, 269, 270, 271, 272, 176, 177, 178, 179, 273, 274, 275, 19, 276, 277, 278, 279, 280, 281, 282, 283, 284, 285, 286, 287, 105, 106, 107, 108, 109, 288, 289, 290, 110, 111, 112, 113, 27, 114, 115, 291, 292, 293, 294, 295, 296, 297, 298, 299, 184, 185, 186, 300, 301, 302, 303, 123, 304, 119, 120, 121, 122, 520, 521, 522, 523, 524, 541, 542, 543, 544, 545, 546, 547, 548] (by decide +kernel) (by decide +kernel)
set_option maxRecDepth 20000 in
theorem gL_law_X2_step : GoodIn wsL_law (wsV RL 45 RX2 yX2_step wsX2_step) := goodIn_app (goodIn_of _ (by decide +kernel)) ggL_law_X2_step
set_option maxRecDepth 20000 in
theorem ggL_law_X3_step : GoodIn wsL_law wsX3_step := goodIn_r _ [308, 129, 309, 310, 311, 5, 312, 36, 37, 38, 313, 314, 315, 316, 317, 318, 319, 320, 195, 196, 197, 198, 321, 322, 323, 324, 325, 326, 327, 328, 40, 39, 329, 330, 331, 332, 333, 151, 152, 153, 154, 41, 155, 199, 200, 201, 202, 156, 157, 158, 159, 525, 526, 527, 528, 529, 530, 531, 532, 533, 534, 535, 536, 537, 538, 539, 540] (by decide +kernel) (by decide +kernel)
set_option maxRecDepth 20000 in
theorem gL_law_X3_step : GoodIn wsL_law (wsV RL 49 RX3 yX3_step wsX3_step) := goodIn_app (goodIn_of _ (by decide +kernel)) ggL_law_X3_step
set_option maxRecDepth 20000 in
theorem ggL_law_X2_restart : GoodIn wsL_law wsX2_restart := goodIn_r _ [337, 16, 338, 123, 64, 105, 106, 107, 15, 108, 109, 339, 340, 341, 2, 342, 296, 297, 298, 299, 288, 289, 290, 76, 77, 78, 79, 26, 291, 292, 293, 294, 295, 87, 88, 89, 90, 91, 92, 93, 73, 74, 75, 184, 185, 186, 110, 111, 112, 113, 27, 114, 115, 300, 301, 302, 303, 304, 343, 344, 345, 346, 347, 69, 70, 71, 72, 348, 349, 350, 351, 219, 220, 221, 352, 353, 354, 355, 356, 357, 358, 359, 242, 243, 244, 245, 246, 247, 248, 249, 520, 521, 522, 523, 524, 541, 542, 543, 544, 545] (by decide +kernel) (by decide +kernel)
set_option maxRecDepth 20000 in
theorem gL_law_X2_restart : GoodIn wsL_law (wsV RL 50 RX2 yX2_restart wsX2_restart) := goodIn_app (goodIn_of _ (by decide +kernel)) ggL_law_X2_restart
set_option maxRecDepth 20000 in
theorem ggL_law_X3_restart : GoodIn wsL_law wsX3_restart := goodIn_r _ [363, 155, 129, 40, 36, 38, 325, 326, 327, 5, 328, 317, 318, 319, 39, 329, 330, 331, 332, 333, 151, 152, 153, 154, 41, 199, 200, 201, 202, 156, 157, 158, 159, 364, 365, 366, 367, 160, 161, 162, 163, 525, 526, 527, 528, 529, 530, 531, 532, 533, 534, 535, 536, 537, 538, 539, 540] (by decide +kernel) (by decide +kernel)
set_option maxRecDepth 20000 in
theorem gL_law_X3_restart : GoodIn wsL_law (wsV RL 53 RX3 yX3_restart wsX3_restart) := goodIn_app (goodIn_of _ (by decide +kernel)) ggL_law_X3_restart
set_option maxRecDepth 20000 in
theorem ggL_law_X2_isDown : GoodIn wsL_law wsX2_isDown := goodIn_r _ [371, 16, 64, 520, 521, 522, 523, 524, 541, 542, 543, 544, 545] (by decide +kernel) (by decide +kernel)
set_option maxRecDepth 20000 in
theorem gL_law_X2_isDown : GoodIn wsL_law (wsV RL 54 RX2 yX2_isDown wsX2_isDown) := goodIn_app (goodIn_of _ (by decide +kernel)) ggL_law_X2_isDown
set_option maxRecDepth 20000 in
theorem ggL_law_X3_isDown : GoodIn wsL_law wsX3_isDown := goodIn_r _ [375, 129, 525, 526, 527, 528, 529, 530, 531, 532, 533, 534, 535, 536, 537, 538, 539, 540] (by decide +kernel) (by decide +kernel)
set_option maxRecDepth 20000 in
theorem gL_law_X3_isDown : GoodIn wsL_law (wsV RL 57 RX3 yX3_isDown wsX3_isDown) := goodIn_app (goodIn_of _ (by decide +kernel)) ggL_law_X3_isDown
set_option maxRecDepth 20000 in
theorem ggL_law_X2_find : GoodIn wsL_law wsX2_find := goodIn_r _ [379, 65, 66, 67, 2, 68, 49, 50, 51, 69, 70, 71, 72, 16, 73, 74, 75, 76, 77, 78, 15, 79, 26, 80, 81, 82, 83, 84, 85, 86, 87, 88, 89, 90, 91, 92, 93, 94, 95, 96, 219, 220, 221, 520, 521, 522, 523, 524, 541, 542, 543, 544, 545] (by decide +kernel) (by decide +kernel)
set_option maxRecDepth 20000 in
theorem gL_law_X2_find : GoodIn wsL_law (wsV RL 58 RX2 yX2_find wsX2_find) := goodIn_app (goodIn_of _ (by decide +kernel)) ggL_law_X2_find
set_option maxRecDepth 20000 in
theorem ggL_law_X3_find : GoodIn wsL_law wsX3_find := goodIn_r _ [383, 38, 130, 131, 132, 5, 133, 134, 36, 57, 58, 59, 135, 136, 137, 138, 139, 140, 141, 142, 525, 526, 527, 528, 529, 530, 531, 532, 533, 534, 535, 536, 537, 538, 539, 540] (by decide +kernel) (by decide +kernel)
set_option maxRecDepth 20000 in
theorem gL_law_X3_find : GoodIn wsL_law (wsV RL 61 RX3 yX3_find wsX3_find) := goodIn_app (goodIn_of _ (by decide +kernel)) ggL_law_X3_find
set_option maxRecDepth 20000 in
theorem ggL_law_X2_inode : GoodIn wsL_law wsX2_inode := goodIn_r _ [387, 16, 49, 50, 2, 51, 73, 74, 75, 76, 77, 78, 15, 79, 26, 520, 521, 522, 523, 524, 541, 542, 543, 544, 545] (by decide +kernel) (by decide +kernel)
set_option maxRecDepth 20000 in
theorem gL_law_X2_inode : GoodIn wsL_law (wsV RL 62 RX2 yX2_inode wsX2_inode) := goodIn_app (goodIn_of _ (by decide +kernel)) ggL_law_X2_inode
set_option maxRecDepth 20000 in
theorem ggL_law_X3_inode : GoodIn wsL_law wsX3_inode := goodIn_r _ [391, 134, 392, 57, 58, 5, 59, 393, 394, 395, 396, 36, 37, 38, 525, 526, 527, 528, 529, 530, 531, 532, 533, 534, 535, 536, 537, 538, 539, 540] (by decide +kernel) (by decide +kernel)
set_option maxRecDepth 20000 in
theorem gL_law_X3_inode : GoodIn wsL_law (wsV RL 65 RX3 yX3_inode wsX3_inode) := goodIn_app (goodIn_of _ (by decide +kernel)) ggL_law_X3_inode
