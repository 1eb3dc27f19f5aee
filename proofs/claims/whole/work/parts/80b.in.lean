theorem inR3 : ∀ w ∈ wsL_law_r3, w ∈ lw_tbl := fun w h => (goodIn_p wsL_law_r3 [329, 333, 339] (by decide +kernel) (by decide +kernel) w h).1
theorem inR4 : ∀ w ∈ wsL_law_r4, w ∈ lw_tbl := fun w h => (goodIn_p wsL_law_r4 [135, 138, 381, 142, 146, 385] (by decide +kernel) (by decide +kernel) w h).1
