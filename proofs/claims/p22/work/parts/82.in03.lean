set_option maxRecDepth 20000 in
theorem wi9 : ∀ w ∈ wsL_law0_r9, w ∈ lw_tbl := fun w h => (goodIn_p wsL_law0_r9 [729, 733, 737, 741, 746] rfl (by decide +kernel) w h).1
set_option maxRecDepth 20000 in
theorem wi10 : ∀ w ∈ wsL_law0_r10, w ∈ lw_tbl := fun w h => (goodIn_p wsL_law0_r10 [509, 532, 536, 540, 544] rfl (by decide +kernel) w h).1
set_option maxRecDepth 20000 in
theorem wi11 : ∀ w ∈ wsL_law0_r11, w ∈ lw_tbl := fun w h => (goodIn_p wsL_law0_r11 [548, 552, 556, 356, 360] rfl (by decide +kernel) w h).1
