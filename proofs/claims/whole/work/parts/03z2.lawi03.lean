set_option maxRecDepth 20000 in
theorem inr_22 : ∀ w ∈ wsL_law_r22, w ∈ lw_tbl := fun w h => ((goodIn_p wsL_law_r22 [394, 627] (by decide +kernel) (by decide +kernel)) w h).1
set_option maxRecDepth 20000 in
theorem inw_X2 : ∀ w ∈ wsX20, w ∈ lw_tbl := fun w h => ((goodIn_p wsX20 [] (by decide +kernel) (by decide +kernel)) w h).1
set_option maxRecDepth 20000 in
theorem inw_X3 : ∀ w ∈ wsX30, w ∈ lw_tbl := fun w h => ((goodIn_p wsX30 [] (by decide +kernel) (by decide +kernel)) w h).1
set_option maxRecDepth 20000 in
theorem inw_X0 : ∀ w ∈ wsX00, w ∈ lw_tbl := fun w h => ((goodIn_p wsX00 [] (by decide +kernel) (by decide +kernel)) w h).1
set_option maxRecDepth 20000 in
theorem inw_X1 : ∀ w ∈ wsX10, w ∈ lw_tbl := fun w h => ((goodIn_p wsX10 [] (by decide +kernel) (by decide +kernel)) w h).1
