set_option maxRecDepth 20000 in
theorem wi15 : ∀ w ∈ wsL_law0_r15, w ∈ lw_tbl := fun w h => (goodIn_p wsL_law0_r15 [435, 439, 443, 447] rfl (by decide +kernel) w h).1
set_option maxRecDepth 20000 in
theorem wi16 : ∀ w ∈ wsL_law0_r16, w ∈ lw_tbl := fun w h => (goodIn_p wsL_law0_r16 [452, 457, 461, 467, 471] rfl (by decide +kernel) w h).1
set_option maxRecDepth 20000 in
theorem wi17 : ∀ w ∈ wsL_law0_r17, w ∈ lw_tbl := fun w h => (goodIn_p wsL_law0_r17 [476, 480, 485, 490, 496] rfl (by decide +kernel) w h).1
