set_option maxRecDepth 20000 in
theorem wi18 : ∀ w ∈ wsL_law0_r18, w ∈ lw_tbl := fun w h => (goodIn_p wsL_law0_r18 [501, 505, 563, 576] rfl (by decide +kernel) w h).1
set_option maxRecDepth 20000 in
theorem wi19 : ∀ w ∈ wsL_law0_r19, w ∈ lw_tbl := fun w h => (goodIn_p wsL_law0_r19 [580, 587, 591, 603] rfl (by decide +kernel) w h).1
set_option maxRecDepth 20000 in
theorem wi20 : ∀ w ∈ wsL_law0_r20, w ∈ lw_tbl := fun w h => (goodIn_p wsL_law0_r20 [608, 259, 616, 620, 624, 627] rfl (by decide +kernel) w h).1
