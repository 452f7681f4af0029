theorem wsL_law_in : ∀ w ∈ wsL_law, w ∈ lw_tbl := by sorry
