set_option maxRecDepth 20000 in
theorem inr_8 : ∀ w ∈ wsL_law_r8, w ∈ lw_tbl := fun w h => ((goodIn_p wsL_law_r8 [208, 212, 216, 220, 223, 511] (by decide +kernel) (by decide +kernel)) w h).1
set_option maxRecDepth 20000 in
theorem inr_9 : ∀ w ∈ wsL_law_r9, w ∈ lw_tbl := fun w h => ((goodIn_p wsL_law_r9 [515, 519, 523, 227, 231, 527] (by decide +kernel) (by decide +kernel)) w h).1
set_option maxRecDepth 20000 in
theorem inr_10 : ∀ w ∈ wsL_law_r10, w ∈ lw_tbl := fun w h => ((goodIn_p wsL_law_r10 [235, 238, 242, 531, 535, 246] (by decide +kernel) (by decide +kernel)) w h).1
set_option maxRecDepth 20000 in
theorem inr_11 : ∀ w ∈ wsL_law_r11, w ∈ lw_tbl := fun w h => ((goodIn_p wsL_law_r11 [250, 254, 258, 539, 543, 262] (by decide +kernel) (by decide +kernel)) w h).1
set_option maxRecDepth 20000 in
theorem inr_12 : ∀ w ∈ wsL_law_r12, w ∈ lw_tbl := fun w h => ((goodIn_p wsL_law_r12 [266, 270, 274, 278, 282] (by decide +kernel) (by decide +kernel)) w h).1
set_option maxRecDepth 20000 in
theorem inr_13 : ∀ w ∈ wsL_law_r13, w ∈ lw_tbl := fun w h => ((goodIn_p wsL_law_r13 [285, 289, 293, 298, 547] (by decide +kernel) (by decide +kernel)) w h).1
set_option maxRecDepth 20000 in
theorem inr_14 : ∀ w ∈ wsL_law_r14, w ∈ lw_tbl := fun w h => ((goodIn_p wsL_law_r14 [551, 555, 559, 563, 567] (by decide +kernel) (by decide +kernel)) w h).1
