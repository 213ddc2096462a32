set_option maxRecDepth 20000 in
theorem wi3 : ∀ w ∈ wsL_law0_r3, w ∈ lw_tbl := fun w h => (goodIn_p wsL_law0_r3 [48, 53, 92] rfl (by decide +kernel) w h).1
set_option maxRecDepth 20000 in
theorem wi4 : ∀ w ∈ wsL_law0_r4, w ∈ lw_tbl := fun w h => (goodIn_p wsL_law0_r4 [137, 157, 191] rfl (by decide +kernel) w h).1
set_option maxRecDepth 20000 in
theorem wi5 : ∀ w ∈ wsL_law0_r5, w ∈ lw_tbl := fun w h => (goodIn_p wsL_law0_r5 [567, 572, 684, 689] rfl (by decide +kernel) w h).1
