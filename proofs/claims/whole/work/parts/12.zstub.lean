theorem big_tbl : ∀ w ∈ big, w ∈ lw_tbl := sorry
theorem big_good : ∀ w ∈ big, goodWord w = true := sorry
