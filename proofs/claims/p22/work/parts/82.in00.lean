/-! the law's words stand in the tables -/
set_option maxRecDepth 20000 in
theorem wi1 : ∀ w ∈ wsL_law0_r1, w ∈ lw_tbl := fun w h => (goodIn_p wsL_law0_r1 [34, 37, 42] rfl (by decide +kernel) w h).1
set_option maxRecDepth 20000 in
theorem wi2 : ∀ w ∈ wsL_law0_r2, w ∈ lw_tbl := fun w h => (goodIn_p wsL_law0_r2 [] rfl (by decide +kernel) w h).1
