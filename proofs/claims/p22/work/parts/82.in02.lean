set_option maxRecDepth 20000 in
theorem wi6 : ∀ w ∈ wsL_law0_r6, w ∈ lw_tbl := fun w h => (goodIn_p wsL_law0_r6 [512, 262, 265, 336] rfl (by decide +kernel) w h).1
set_option maxRecDepth 20000 in
theorem wi7 : ∀ w ∈ wsL_law0_r7, w ∈ lw_tbl := fun w h => (goodIn_p wsL_law0_r7 [583, 695, 377, 700, 559, 705] rfl (by decide +kernel) w h).1
set_option maxRecDepth 20000 in
theorem wi8 : ∀ w ∈ wsL_law0_r8, w ∈ lw_tbl := fun w h => (goodIn_p wsL_law0_r8 [709, 713, 717, 721, 725] rfl (by decide +kernel) w h).1
