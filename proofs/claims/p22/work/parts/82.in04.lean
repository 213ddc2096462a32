set_option maxRecDepth 20000 in
theorem wi12 : ∀ w ∈ wsL_law0_r12, w ∈ lw_tbl := fun w h => (goodIn_p wsL_law0_r12 [364, 368, 374, 381] rfl (by decide +kernel) w h).1
set_option maxRecDepth 20000 in
theorem wi13 : ∀ w ∈ wsL_law0_r13, w ∈ lw_tbl := fun w h => (goodIn_p wsL_law0_r13 [385, 389, 402, 418, 393] rfl (by decide +kernel) w h).1
set_option maxRecDepth 20000 in
theorem wi14 : ∀ w ∈ wsL_law0_r14, w ∈ lw_tbl := fun w h => (goodIn_p wsL_law0_r14 [398, 409, 414, 423, 430] rfl (by decide +kernel) w h).1
