/-! the law's words stand in the tables -/
set_option maxRecDepth 20000 in
theorem wi1 : ∀ w ∈ wsL_law0_r1, w ∈ lw_tbl := fun w h => (goodIn_p wsL_law0_r1 [34, 37, 42] (by decide +kernel) (by decide +kernel) w h).1
set_option maxRecDepth 20000 in
theorem wi2 : ∀ w ∈ wsL_law0_r2, w ∈ lw_tbl := fun w h => (goodIn_p wsL_law0_r2 [] (by decide +kernel) (by decide +kernel) w h).1
set_option maxRecDepth 20000 in
theorem wi3 : ∀ w ∈ wsL_law0_r3, w ∈ lw_tbl := fun w h => (goodIn_p wsL_law0_r3 [48, 53, 92] (by decide +kernel) (by decide +kernel) w h).1
set_option maxRecDepth 20000 in
theorem wi4 : ∀ w ∈ wsL_law0_r4, w ∈ lw_tbl := fun w h => (goodIn_p wsL_law0_r4 [137, 157, 191] (by decide +kernel) (by decide +kernel) w h).1
set_option maxRecDepth 20000 in
theorem wi5 : ∀ w ∈ wsL_law0_r5, w ∈ lw_tbl := fun w h => (goodIn_p wsL_law0_r5 [567, 572, 684, 689] (by decide +kernel) (by decide +kernel) w h).1
set_option maxRecDepth 20000 in
theorem wi6 : ∀ w ∈ wsL_law0_r6, w ∈ lw_tbl := fun w h => (goodIn_p wsL_law0_r6 [512, 262, 265, 336] (by decide +kernel) (by decide +kernel) w h).1
set_option maxRecDepth 20000 in
theorem wi7 : ∀ w ∈ wsL_law0_r7, w ∈ lw_tbl := fun w h => (goodIn_p wsL_law0_r7 [583, 695, 377, 700, 559, 705] (by decide +kernel) (by decide +kernel) w h).1
set_option maxRecDepth 20000 in
theorem wi8 : ∀ w ∈ wsL_law0_r8, w ∈ lw_tbl := fun w h => (goodIn_p wsL_law0_r8 [709, 713, 717, 721, 725] (by decide +kernel) (by decide +kernel) w h).1
set_option maxRecDepth 20000 in
theorem wi9 : ∀ w ∈ wsL_law0_r9, w ∈ lw_tbl := fun w h => (goodIn_p wsL_law0_r9 [729, 733, 737, 741, 746] (by decide +kernel) (by decide +kernel) w h).1
set_option maxRecDepth 20000 in
theorem wi10 : ∀ w ∈ wsL_law0_r10, w ∈ lw_tbl := fun w h => (goodIn_p wsL_law0_r10 [509, 532, 536, 540, 544] (by decide +kernel) (by decide +kernel) w h).1
set_option maxRecDepth 20000 in
theorem wi11 : ∀ w ∈ wsL_law0_r11, w ∈ lw_tbl := fun w h => (goodIn_p wsL_law0_r11 [548, 552, 556, 356, 360] (by decide +kernel) (by decide +kernel) w h).1
set_option maxRecDepth 20000 in
theorem wi12 : ∀ w ∈ wsL_law0_r12, w ∈ lw_tbl := fun w h => (goodIn_p wsL_law0_r12 [364, 368, 374, 381] (by decide +kernel) (by decide +kernel) w h).1
set_option maxRecDepth 20000 in
theorem wi13 : ∀ w ∈ wsL_law0_r13, w ∈ lw_tbl := fun w h => (goodIn_p wsL_law0_r13 [385, 389, 402, 418, 393] (by decide +kernel) (by decide +kernel) w h).1
set_option maxRecDepth 20000 in
theorem wi14 : ∀ w ∈ wsL_law0_r14, w ∈ lw_tbl := fun w h => (goodIn_p wsL_law0_r14 [398, 409, 414, 423, 430] (by decide +kernel) (by decide +kernel) w h).1
set_option maxRecDepth 20000 in
theorem wi15 : ∀ w ∈ wsL_law0_r15, w ∈ lw_tbl := fun w h => (goodIn_p wsL_law0_r15 [435, 439, 443, 447] (by decide +kernel) (by decide +kernel) w h).1
set_option maxRecDepth 20000 in
theorem wi16 : ∀ w ∈ wsL_law0_r16, w ∈ lw_tbl := fun w h => (goodIn_p wsL_law0_r16 [452, 457, 461, 467, 471] (by decide +kernel) (by decide +kernel) w h).1
set_option maxRecDepth 20000 in
theorem wi17 : ∀ w ∈ wsL_law0_r17, w ∈ lw_tbl := fun w h => (goodIn_p wsL_law0_r17 [476, 480, 485, 490, 496] (by decide +kernel) (by decide +kernel) w h).1
set_option maxRecDepth 20000 in
theorem wi18 : ∀ w ∈ wsL_law0_r18, w ∈ lw_tbl := fun w h => (goodIn_p wsL_law0_r18 [501, 505, 563, 576] (by decide +kernel) (by decide +kernel) w h).1
set_option maxRecDepth 20000 in
theorem wi19 : ∀ w ∈ wsL_law0_r19, w ∈ lw_tbl := fun w h => (goodIn_p wsL_law0_r19 [580, 587, 591, 603] (by decide +kernel) (by decide +kernel) w h).1
set_option maxRecDepth 20000 in
theorem wi20 : ∀ w ∈ wsL_law0_r20, w ∈ lw_tbl := fun w h => (goodIn_p wsL_law0_r20 [608, 259, 616, 620, 624, 627] (by decide +kernel) (by decide +kernel) w h).1
set_option maxRecDepth 20000 in
theorem wi21 : ∀ w ∈ wsL_law0_r21, w ∈ lw_tbl := fun w h => (goodIn_p wsL_law0_r21 [631, 634, 641, 645, 649, 653] (by decide +kernel) (by decide +kernel) w h).1
set_option maxRecDepth 20000 in
theorem wi22 : ∀ w ∈ wsL_law0_r22, w ∈ lw_tbl := fun w h => (goodIn_p wsL_law0_r22 [657, 661, 665, 669, 672, 676] (by decide +kernel) (by decide +kernel) w h).1
set_option maxRecDepth 20000 in
theorem wi23 : ∀ w ∈ wsL_law0_r23, w ∈ lw_tbl := fun w h => (goodIn_p wsL_law0_r23 [681] (by decide +kernel) (by decide +kernel) w h).1
theorem wiX0 : ∀ w ∈ wsX00, w ∈ lw_tbl := by decide +kernel
theorem wiX1 : ∀ w ∈ wsX10, w ∈ lw_tbl := by decide +kernel
theorem wiX2 : ∀ w ∈ wsX20, w ∈ lw_tbl := by decide +kernel
theorem wiX3 : ∀ w ∈ wsX30, w ∈ lw_tbl := by decide +kernel
theorem wiX4 : ∀ w ∈ wsX40, w ∈ lw_tbl := by decide +kernel
theorem wiX5 : ∀ w ∈ wsX50, w ∈ lw_tbl := by decide +kernel
theorem wiX6 : ∀ w ∈ wsX60, w ∈ lw_tbl := by decide +kernel
theorem wix0 : ∀ w ∈ (vx_atS RX6 157 xI xUp).filter goodWord, w ∈ lw_tbl := by decide +kernel
theorem wix1 : ∀ w ∈ (vx_atS RX6 164 xA xUp).filter goodWord, w ∈ lw_tbl := by decide +kernel
theorem wix2 : ∀ w ∈ (vx_atS RX6 169 xS xUp).filter goodWord, w ∈ lw_tbl := by decide +kernel
theorem wi_all : ∀ w ∈ wsL_law, w ∈ lw_tbl := fun w h => by
  have h9 : w ∈ wsL_law0 ∨ w ∈ (vx_atS RX6 157 xI xUp).filter goodWord ∨ w ∈ (vx_atS RX6 164 xA xUp).filter goodWord ∨ w ∈ (vx_atS RX6 169 xS xUp).filter goodWord := by
    rcases List.mem_append.mp h with h | h
    · rcases List.mem_append.mp h with h | h
      · rcases List.mem_append.mp h with h | h
        · exact Or.inl h
        · exact Or.inr (Or.inl h)
      · exact Or.inr (Or.inr (Or.inl h))
    · exact Or.inr (Or.inr (Or.inr h))
  rcases h9 with h | h | h | h
  · have h8 : w ∈ wsL_law0 := h
    unfold wsL_law0 at h8
    simp only [List.mem_append, List.not_mem_nil, or_false] at h8
    rcases h8 with (((((((h | h | h | h | h | h | h | h | h | h | h | h | h | h | h | h | h | h | h | h | h | h | h) | h) | h) | h) | h) | h) | h) | h
    · exact wi1 w h
    · exact wi2 w h
    · exact wi3 w h
    · exact wi4 w h
    · exact wi5 w h
    · exact wi6 w h
    · exact wi7 w h
    · exact wi8 w h
    · exact wi9 w h
    · exact wi10 w h
    · exact wi11 w h
    · exact wi12 w h
    · exact wi13 w h
    · exact wi14 w h
    · exact wi15 w h
    · exact wi16 w h
    · exact wi17 w h
    · exact wi18 w h
    · exact wi19 w h
    · exact wi20 w h
    · exact wi21 w h
    · exact wi22 w h
    · exact wi23 w h
    · exact wiX6 w h
    · exact wiX0 w h
    · exact wiX1 w h
    · exact wiX5 w h
    · exact wiX4 w h
    · exact wiX3 w h
    · exact wiX2 w h
  · exact wix0 w h
  · exact wix1 w h
  · exact wix2 w h
