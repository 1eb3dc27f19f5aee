theorem inR1 : ∀ w ∈ wsL_law_r1, w ∈ lw_tbl := fun w h => (goodIn_p wsL_law_r1 [36, 39] (by decide +kernel) (by decide +kernel) w h).1
theorem inR2 : ∀ w ∈ wsL_law_r2, w ∈ lw_tbl := fun w h => (goodIn_p wsL_law_r2 [46, 87] (by decide +kernel) (by decide +kernel) w h).1
