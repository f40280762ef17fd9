set_option maxRecDepth 20000 in
theorem inr_8 : ∀ w ∈ wsL_law_r8, w ∈ lw_tbl := fun w h => ((goodIn_p wsL_law_r8 [208, 212, 216, 219, 511, 515] (by decide +kernel) (by decide +kernel)) w h).1
set_option maxRecDepth 20000 in
theorem inr_9 : ∀ w ∈ wsL_law_r9, w ∈ lw_tbl := fun w h => ((goodIn_p wsL_law_r9 [519, 523, 223, 227, 527, 231] (by decide +kernel) (by decide +kernel)) w h).1
set_option maxRecDepth 20000 in
theorem inr_10 : ∀ w ∈ wsL_law_r10, w ∈ lw_tbl := fun w h => ((goodIn_p wsL_law_r10 [234, 238, 531, 535, 242, 246] (by decide +kernel) (by decide +kernel)) w h).1
set_option maxRecDepth 20000 in
theorem inr_11 : ∀ w ∈ wsL_law_r11, w ∈ lw_tbl := fun w h => ((goodIn_p wsL_law_r11 [250, 254, 539, 543, 258] (by decide +kernel) (by decide +kernel)) w h).1
set_option maxRecDepth 20000 in
theorem inr_12 : ∀ w ∈ wsL_law_r12, w ∈ lw_tbl := fun w h => ((goodIn_p wsL_law_r12 [262, 266, 270, 274, 278, 281] (by decide +kernel) (by decide +kernel)) w h).1
set_option maxRecDepth 20000 in
theorem inr_13 : ∀ w ∈ wsL_law_r13, w ∈ lw_tbl := fun w h => ((goodIn_p wsL_law_r13 [285, 289, 294, 547, 551] (by decide +kernel) (by decide +kernel)) w h).1
set_option maxRecDepth 20000 in
theorem inr_14 : ∀ w ∈ wsL_law_r14, w ∈ lw_tbl := fun w h => ((goodIn_p wsL_law_r14 [555, 559, 563, 567, 298] (by decide +kernel) (by decide +kernel)) w h).1
