theorem inR7 : ∀ w ∈ wsL_law_r7, w ∈ lw_tbl := fun w h => (goodIn_p wsL_law_r7 [188, 223, 191, 194, 197, 203] (by decide +kernel) (by decide +kernel) w h).1
theorem inR8 : ∀ w ∈ wsL_law_r8, w ∈ lw_tbl := fun w h => (goodIn_p wsL_law_r8 [207, 213, 216, 219, 227] (by decide +kernel) (by decide +kernel) w h).1
