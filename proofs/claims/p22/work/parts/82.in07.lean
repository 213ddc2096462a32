set_option maxRecDepth 20000 in
theorem wi21 : ∀ w ∈ wsL_law0_r21, w ∈ lw_tbl := fun w h => (goodIn_p wsL_law0_r21 [631, 634, 641, 645, 649, 653] rfl (by decide +kernel) w h).1
set_option maxRecDepth 20000 in
theorem wi22 : ∀ w ∈ wsL_law0_r22, w ∈ lw_tbl := fun w h => (goodIn_p wsL_law0_r22 [657, 661, 665, 669, 672, 676] rfl (by decide +kernel) w h).1
set_option maxRecDepth 20000 in
theorem wi23 : ∀ w ∈ wsL_law0_r23, w ∈ lw_tbl := fun w h => (goodIn_p wsL_law0_r23 [681] rfl (by decide +kernel) w h).1
