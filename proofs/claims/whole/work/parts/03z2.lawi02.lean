set_option maxRecDepth 20000 in
theorem inr_15 : ∀ w ∈ wsL_law_r15, w ∈ lw_tbl := fun w h => ((goodIn_p wsL_law_r15 [302, 306, 310, 314, 318, 322] (by decide +kernel) (by decide +kernel)) w h).1
set_option maxRecDepth 20000 in
theorem inr_16 : ∀ w ∈ wsL_law_r16, w ∈ lw_tbl := fun w h => ((goodIn_p wsL_law_r16 [571, 575, 141, 579, 326, 583] (by decide +kernel) (by decide +kernel)) w h).1
set_option maxRecDepth 20000 in
theorem inr_17 : ∀ w ∈ wsL_law_r17, w ∈ lw_tbl := fun w h => ((goodIn_p wsL_law_r17 [330, 587, 592, 334, 596] (by decide +kernel) (by decide +kernel)) w h).1
set_option maxRecDepth 20000 in
theorem inr_18 : ∀ w ∈ wsL_law_r18, w ∈ lw_tbl := fun w h => ((goodIn_p wsL_law_r18 [338, 601, 342, 605, 346, 609] (by decide +kernel) (by decide +kernel)) w h).1
set_option maxRecDepth 20000 in
theorem inr_19 : ∀ w ∈ wsL_law_r19, w ∈ lw_tbl := fun w h => ((goodIn_p wsL_law_r19 [350, 614, 354, 618, 358] (by decide +kernel) (by decide +kernel)) w h).1
set_option maxRecDepth 20000 in
theorem inr_20 : ∀ w ∈ wsL_law_r20, w ∈ lw_tbl := fun w h => ((goodIn_p wsL_law_r20 [361, 368, 372, 376, 622, 380] (by decide +kernel) (by decide +kernel)) w h).1
set_option maxRecDepth 20000 in
theorem inr_21 : ∀ w ∈ wsL_law_r21, w ∈ lw_tbl := fun w h => ((goodIn_p wsL_law_r21 [385, 399, 389, 394, 626] (by decide +kernel) (by decide +kernel)) w h).1
