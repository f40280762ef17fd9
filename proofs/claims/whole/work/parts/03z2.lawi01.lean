set_option maxRecDepth 20000 in
theorem inr_8 : ∀ w ∈ wsL_law_r8, w ∈ lw_tbl := fun w h => ((goodIn_p wsL_law_r8 [202, 206, 209, 212, 215, 502, 506] (by decide +kernel) (by decide +kernel)) w h).1
set_option maxRecDepth 20000 in
theorem inr_9 : ∀ w ∈ wsL_law_r9, w ∈ lw_tbl := fun w h => ((goodIn_p wsL_law_r9 [510, 514, 219, 223, 518, 227] (by decide +kernel) (by decide +kernel)) w h).1
set_option maxRecDepth 20000 in
theorem inr_10 : ∀ w ∈ wsL_law_r10, w ∈ lw_tbl := fun w h => ((goodIn_p wsL_law_r10 [230, 234, 522, 526, 238, 242] (by decide +kernel) (by decide +kernel)) w h).1
set_option maxRecDepth 20000 in
theorem inr_11 : ∀ w ∈ wsL_law_r11, w ∈ lw_tbl := fun w h => ((goodIn_p wsL_law_r11 [246, 250, 530, 534, 254] (by decide +kernel) (by decide +kernel)) w h).1
set_option maxRecDepth 20000 in
theorem inr_12 : ∀ w ∈ wsL_law_r12, w ∈ lw_tbl := fun w h => ((goodIn_p wsL_law_r12 [258, 262, 266, 269, 273, 276] (by decide +kernel) (by decide +kernel)) w h).1
set_option maxRecDepth 20000 in
theorem inr_13 : ∀ w ∈ wsL_law_r13, w ∈ lw_tbl := fun w h => ((goodIn_p wsL_law_r13 [280, 284, 289, 538, 542, 546] (by decide +kernel) (by decide +kernel)) w h).1
set_option maxRecDepth 20000 in
theorem inr_14 : ∀ w ∈ wsL_law_r14, w ∈ lw_tbl := fun w h => ((goodIn_p wsL_law_r14 [550, 554, 558, 293] (by decide +kernel) (by decide +kernel)) w h).1
