theorem wiX0 : ∀ w ∈ wsX00, w ∈ lw_tbl := by decide +kernel
theorem wiX1 : ∀ w ∈ wsX10, w ∈ lw_tbl := by decide +kernel
theorem wiX2 : ∀ w ∈ wsX20, w ∈ lw_tbl := by decide +kernel
theorem wiX3 : ∀ w ∈ wsX30, w ∈ lw_tbl := by decide +kernel
theorem wiX4 : ∀ w ∈ wsX40, w ∈ lw_tbl := by decide +kernel
theorem wiX5 : ∀ w ∈ wsX50, w ∈ lw_tbl := by decide +kernel
theorem wiX6 : ∀ w ∈ wsX60, w ∈ lw_tbl := by decide +kernel
theorem wix0 : ∀ w ∈ (vx_atS RX6 157 xI xUp).filter goodWord, w ∈ lw_tbl := by decide +kernel
theorem wix1 : ∀ w ∈ (vx_atS RX6 164 xA xUp).filter goodWord, w ∈ lw_tbl := by decide +kernel
theorem wix2 : ∀ w ∈ (vx_atS RX6 169 xS xUp).filter goodWord, w ∈ lw_tbl := by decide +kernel
theorem wi_all : ∀ w ∈ wsL_law, w ∈ lw_tbl := fun w h => by
  have h9 : w ∈ wsL_law0 ∨ w ∈ (vx_atS RX6 157 xI xUp).filter goodWord ∨ w ∈ (vx_atS RX6 164 xA xUp).filter goodWord ∨ w ∈ (vx_atS RX6 169 xS xUp).filter goodWord := by
    rcases List.mem_append.mp h with h | h
    · rcases List.mem_append.mp h with h | h
      · rcases List.mem_append.mp h with h | h
        · exact Or.inl h
        · exact Or.inr (Or.inl h)
      · exact Or.inr (Or.inr (Or.inl h))
    · exact Or.inr (Or.inr (Or.inr h))
  rcases h9 with h | h | h | h
  · have h8 : w ∈ wsL_law0 := h
    unfold wsL_law0 at h8
    simp only [List.mem_append, List.not_mem_nil, or_false] at h8
    rcases h8 with (((((((h | h | h | h | h | h | h | h | h | h | h | h | h | h | h | h | h | h | h | h | h | h | h) | h) | h) | h) | h) | h) | h) | h
    · exact wi1 w h
    · exact wi2 w h
    · exact wi3 w h
    · exact wi4 w h
    · exact wi5 w h
    · exact wi6 w h
    · exact wi7 w h
    · exact wi8 w h
    · exact wi9 w h
    · exact wi10 w h
    · exact wi11 w h
    · exact wi12 w h
    · exact wi13 w h
    · exact wi14 w h
    · exact wi15 w h
    · exact wi16 w h
    · exact wi17 w h
    · exact wi18 w h
    · exact wi19 w h
    · exact wi20 w h
    · exact wi21 w h
    · exact wi22 w h
    · exact wi23 w h
    · exact wiX6 w h
    · exact wiX0 w h
    · exact wiX1 w h
    · exact wiX5 w h
    · exact wiX4 w h
    · exact wiX3 w h
    · exact wiX2 w h
  · exact wix0 w h
  · exact wix1 w h
  · exact wix2 w h
