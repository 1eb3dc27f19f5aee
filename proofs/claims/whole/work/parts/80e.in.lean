theorem inR9 : ∀ w ∈ wsL_law_r9, w ∈ lw_tbl := fun w h => (goodIn_p wsL_law_r9 [231, 235, 239, 242, 245, 248, 251, 254] (by decide +kernel) (by decide +kernel) w h).1
theorem inR10 : ∀ w ∈ wsL_law_r10, w ∈ lw_tbl := fun w h => (goodIn_p wsL_law_r10 [258, 262, 266, 270, 274, 277] (by decide +kernel) (by decide +kernel) w h).1
