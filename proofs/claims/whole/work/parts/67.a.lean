/-! the law's words stand in the tables -/
set_option maxRecDepth 20000 in
theorem wi1 : ∀ w ∈ wsL_law0_r1, w ∈ lw_tbl := fun w h => (goodIn_p wsL_law0_r1 [52, 55, 60] (by decide +kernel) (by decide +kernel) w h).1
set_option maxRecDepth 20000 in
theorem wi2 : ∀ w ∈ wsL_law0_r2, w ∈ lw_tbl := fun w h => (goodIn_p wsL_law0_r2 [] (by decide +kernel) (by decide +kernel) w h).1
set_option maxRecDepth 20000 in
theorem wi3 : ∀ w ∈ wsL_law0_r3, w ∈ lw_tbl := fun w h => (goodIn_p wsL_law0_r3 [66, 71, 110] (by decide +kernel) (by decide +kernel) w h).1
set_option maxRecDepth 20000 in
theorem wi4 : ∀ w ∈ wsL_law0_r4, w ∈ lw_tbl := fun w h => (goodIn_p wsL_law0_r4 [155, 175, 209] (by decide +kernel) (by decide +kernel) w h).1
set_option maxRecDepth 20000 in
theorem wi5 : ∀ w ∈ wsL_law0_r5, w ∈ lw_tbl := fun w h => (goodIn_p wsL_law0_r5 [758] (by decide +kernel) (by decide +kernel) w h).1
set_option maxRecDepth 20000 in
theorem wi6 : ∀ w ∈ wsL_law0_r6, w ∈ lw_tbl := fun w h => (goodIn_p wsL_law0_r6 [291, 294] (by decide +kernel) (by decide +kernel) w h).1
set_option maxRecDepth 20000 in
theorem wi7 : ∀ w ∈ wsL_law0_r7, w ∈ lw_tbl := fun w h => (goodIn_p wsL_law0_r7 [366, 369, 388, 833, 836] (by decide +kernel) (by decide +kernel) w h).1
set_option maxRecDepth 20000 in
theorem wi8 : ∀ w ∈ wsL_law0_r8, w ∈ lw_tbl := fun w h => (goodIn_p wsL_law0_r8 [839, 829, 412, 415, 419, 422] (by decide +kernel) (by decide +kernel) w h).1
set_option maxRecDepth 20000 in
theorem wi9 : ∀ w ∈ wsL_law0_r9, w ∈ lw_tbl := fun w h => (goodIn_p wsL_law0_r9 [844, 847, 850, 429, 854] (by decide +kernel) (by decide +kernel) w h).1
set_option maxRecDepth 20000 in
theorem wi10 : ∀ w ∈ wsL_law0_r10, w ∈ lw_tbl := fun w h => (goodIn_p wsL_law0_r10 [436, 440, 858, 447] (by decide +kernel) (by decide +kernel) w h).1
set_option maxRecDepth 20000 in
theorem wi11 : ∀ w ∈ wsL_law0_r11, w ∈ lw_tbl := fun w h => (goodIn_p wsL_law0_r11 [863, 867, 454, 871] (by decide +kernel) (by decide +kernel) w h).1
set_option maxRecDepth 20000 in
theorem wi12 : ∀ w ∈ wsL_law0_r12, w ∈ lw_tbl := fun w h => (goodIn_p wsL_law0_r12 [461, 465, 875, 472] (by decide +kernel) (by decide +kernel) w h).1
set_option maxRecDepth 20000 in
theorem wi13 : ∀ w ∈ wsL_law0_r13, w ∈ lw_tbl := fun w h => (goodIn_p wsL_law0_r13 [476, 879, 483, 883] (by decide +kernel) (by decide +kernel) w h).1
set_option maxRecDepth 20000 in
theorem wi14 : ∀ w ∈ wsL_law0_r14, w ∈ lw_tbl := fun w h => (goodIn_p wsL_law0_r14 [887, 490, 891, 498] (by decide +kernel) (by decide +kernel) w h).1
set_option maxRecDepth 20000 in
theorem wi15 : ∀ w ∈ wsL_law0_r15, w ∈ lw_tbl := fun w h => (goodIn_p wsL_law0_r15 [502, 506, 510, 514] (by decide +kernel) (by decide +kernel) w h).1
set_option maxRecDepth 20000 in
theorem wi16 : ∀ w ∈ wsL_law0_r16, w ∈ lw_tbl := fun w h => (goodIn_p wsL_law0_r16 [520, 525, 529, 533, 546] (by decide +kernel) (by decide +kernel) w h).1
set_option maxRecDepth 20000 in
theorem wi17 : ∀ w ∈ wsL_law0_r17, w ∈ lw_tbl := fun w h => (goodIn_p wsL_law0_r17 [562, 537, 542, 553, 558] (by decide +kernel) (by decide +kernel) w h).1
set_option maxRecDepth 20000 in
theorem wi18 : ∀ w ∈ wsL_law0_r18, w ∈ lw_tbl := fun w h => (goodIn_p wsL_law0_r18 [567, 574, 579, 583] (by decide +kernel) (by decide +kernel) w h).1
set_option maxRecDepth 20000 in
theorem wi19 : ∀ w ∈ wsL_law0_r19, w ∈ lw_tbl := fun w h => (goodIn_p wsL_law0_r19 [587, 591, 596, 601, 605] (by decide +kernel) (by decide +kernel) w h).1
set_option maxRecDepth 20000 in
theorem wi20 : ∀ w ∈ wsL_law0_r20, w ∈ lw_tbl := fun w h => (goodIn_p wsL_law0_r20 [611, 615, 620, 624, 629] (by decide +kernel) (by decide +kernel) w h).1
set_option maxRecDepth 20000 in
theorem wi21 : ∀ w ∈ wsL_law0_r21, w ∈ lw_tbl := fun w h => (goodIn_p wsL_law0_r21 [634, 640, 645, 649, 896] (by decide +kernel) (by decide +kernel) w h).1
set_option maxRecDepth 20000 in
theorem wi22 : ∀ w ∈ wsL_law0_r22, w ∈ lw_tbl := fun w h => (goodIn_p wsL_law0_r22 [901, 905, 909, 915, 918] (by decide +kernel) (by decide +kernel) w h).1
set_option maxRecDepth 20000 in
theorem wi23 : ∀ w ∈ wsL_law0_r23, w ∈ lw_tbl := fun w h => (goodIn_p wsL_law0_r23 [922, 927, 931, 936, 945] (by decide +kernel) (by decide +kernel) w h).1
set_option maxRecDepth 20000 in
theorem wi24 : ∀ w ∈ wsL_law0_r24, w ∈ lw_tbl := fun w h => (goodIn_p wsL_law0_r24 [950, 955, 959, 963] (by decide +kernel) (by decide +kernel) w h).1
set_option maxRecDepth 20000 in
theorem wi25 : ∀ w ∈ wsL_law0_r25, w ∈ lw_tbl := fun w h => (goodIn_p wsL_law0_r25 [970, 656, 660, 974, 978] (by decide +kernel) (by decide +kernel) w h).1
set_option maxRecDepth 20000 in
theorem wi26 : ∀ w ∈ wsL_law0_r26, w ∈ lw_tbl := fun w h => (goodIn_p wsL_law0_r26 [668, 672, 676, 680, 684, 688] (by decide +kernel) (by decide +kernel) w h).1
set_option maxRecDepth 20000 in
theorem wi27 : ∀ w ∈ wsL_law0_r27, w ∈ lw_tbl := fun w h => (goodIn_p wsL_law0_r27 [692, 696, 982, 704, 708] (by decide +kernel) (by decide +kernel) w h).1
set_option maxRecDepth 20000 in
theorem wi28 : ∀ w ∈ wsL_law0_r28, w ∈ lw_tbl := fun w h => (goodIn_p wsL_law0_r28 [986, 715, 719, 723, 990] (by decide +kernel) (by decide +kernel) w h).1
set_option maxRecDepth 20000 in
theorem wi29 : ∀ w ∈ wsL_law0_r29, w ∈ lw_tbl := fun w h => (goodIn_p wsL_law0_r29 [994, 730, 735, 998] (by decide +kernel) (by decide +kernel) w h).1
set_option maxRecDepth 20000 in
theorem wi30 : ∀ w ∈ wsL_law0_r30, w ∈ lw_tbl := fun w h => (goodIn_p wsL_law0_r30 [742, 1002, 749, 753, 1006] (by decide +kernel) (by decide +kernel) w h).1
set_option maxRecDepth 20000 in
theorem wi31 : ∀ w ∈ wsL_law0_r31, w ∈ lw_tbl := fun w h => (goodIn_p wsL_law0_r31 [277, 280, 1010] (by decide +kernel) (by decide +kernel) w h).1
theorem wiX0 : ∀ w ∈ wsX00, w ∈ lw_tbl := by decide +kernel
theorem wiX1 : ∀ w ∈ wsX10, w ∈ lw_tbl := by decide +kernel
theorem wiX2 : ∀ w ∈ wsX20, w ∈ lw_tbl := by decide +kernel
theorem wiX3 : ∀ w ∈ wsX30, w ∈ lw_tbl := by decide +kernel
theorem wiX4 : ∀ w ∈ wsX40, w ∈ lw_tbl := by decide +kernel
theorem wiX5 : ∀ w ∈ wsX50, w ∈ lw_tbl := by decide +kernel
theorem wiX6 : ∀ w ∈ wsX60, w ∈ lw_tbl := by decide +kernel
theorem wiX7 : ∀ w ∈ wsX70, w ∈ lw_tbl := by decide +kernel
theorem wix0 : ∀ w ∈ (vx_atS RX6 157 xI xUp).filter goodWord, w ∈ lw_tbl := by decide +kernel
theorem wix1 : ∀ w ∈ (vx_atS RX6 164 xA xUp).filter goodWord, w ∈ lw_tbl := by decide +kernel
theorem wix2 : ∀ w ∈ (vx_atS RX6 169 xS xUp).filter goodWord, w ∈ lw_tbl := by decide +kernel
theorem wi_all : ∀ w ∈ wsL_law, w ∈ lw_tbl := fun w h => by
  have h9 : w ∈ wsL_law0 ∨ w ∈ (vx_atS RX6 157 xI xUp).filter goodWord ∨ w ∈ (vx_atS RX6 164 xA xUp).filter goodWord ∨ w ∈ (vx_atS RX6 169 xS xUp).filter goodWord := by
    rcases List.mem_append.mp h with h | h
    · rcases List.mem_append.mp h with h | h
      · rcases List.mem_append.mp h with h | h
        · exact Or.inl h
        · exact Or.inr (Or.inl h)
      · exact Or.inr (Or.inr (Or.inl h))
    · exact Or.inr (Or.inr (Or.inr h))
  rcases h9 with h | h | h | h
  · have h8 : w ∈ wsL_law0 := h
    unfold wsL_law0 at h8
    simp only [List.mem_append, List.not_mem_nil, or_false] at h8
    rcases h8 with ((((((((h | h | h | h | h | h | h | h | h | h | h | h | h | h | h | h | h | h | h | h | h | h | h | h | h | h | h | h | h | h | h) | h) | h) | h) | h) | h) | h) | h) | h
    · exact wi1 w h
    · exact wi2 w h
    · exact wi3 w h
    · exact wi4 w h
    · exact wi5 w h
    · exact wi6 w h
    · exact wi7 w h
    · exact wi8 w h
    · exact wi9 w h
    · exact wi10 w h
    · exact wi11 w h
    · exact wi12 w h
    · exact wi13 w h
    · exact wi14 w h
    · exact wi15 w h
    · exact wi16 w h
    · exact wi17 w h
    · exact wi18 w h
    · exact wi19 w h
    · exact wi20 w h
    · exact wi21 w h
    · exact wi22 w h
    · exact wi23 w h
    · exact wi24 w h
    · exact wi25 w h
    · exact wi26 w h
    · exact wi27 w h
    · exact wi28 w h
    · exact wi29 w h
    · exact wi30 w h
    · exact wi31 w h
    · exact wiX6 w h
    · exact wiX7 w h
    · exact wiX0 w h
    · exact wiX1 w h
    · exact wiX5 w h
    · exact wiX4 w h
    · exact wiX3 w h
    · exact wiX2 w h
  · exact wix0 w h
  · exact wix1 w h
  · exact wix2 w h
