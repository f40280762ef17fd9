set_option maxRecDepth 20000 in
theorem inr_15 : ∀ w ∈ wsL_law_r15, w ∈ lw_tbl := fun w h => ((goodIn_p wsL_law_r15 [297, 301, 305, 309, 313, 562] (by decide +kernel) (by decide +kernel)) w h).1
set_option maxRecDepth 20000 in
theorem inr_16 : ∀ w ∈ wsL_law_r16, w ∈ lw_tbl := fun w h => ((goodIn_p wsL_law_r16 [566, 135, 570, 317, 574, 321] (by decide +kernel) (by decide +kernel)) w h).1
set_option maxRecDepth 20000 in
theorem inr_17 : ∀ w ∈ wsL_law_r17, w ∈ lw_tbl := fun w h => ((goodIn_p wsL_law_r17 [578, 583, 325, 587, 329] (by decide +kernel) (by decide +kernel)) w h).1
set_option maxRecDepth 20000 in
theorem inr_18 : ∀ w ∈ wsL_law_r18, w ∈ lw_tbl := fun w h => ((goodIn_p wsL_law_r18 [592, 333, 596, 337, 600, 341] (by decide +kernel) (by decide +kernel)) w h).1
set_option maxRecDepth 20000 in
theorem inr_19 : ∀ w ∈ wsL_law_r19, w ∈ lw_tbl := fun w h => ((goodIn_p wsL_law_r19 [605, 345, 609, 349, 352] (by decide +kernel) (by decide +kernel)) w h).1
set_option maxRecDepth 20000 in
theorem inr_20 : ∀ w ∈ wsL_law_r20, w ∈ lw_tbl := fun w h => ((goodIn_p wsL_law_r20 [359, 363, 367, 613, 371, 376] (by decide +kernel) (by decide +kernel)) w h).1
set_option maxRecDepth 20000 in
theorem inr_21 : ∀ w ∈ wsL_law_r21, w ∈ lw_tbl := fun w h => ((goodIn_p wsL_law_r21 [390, 380, 385, 617, 622] (by decide +kernel) (by decide +kernel)) w h).1
