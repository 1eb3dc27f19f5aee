theorem inR15 : ∀ w ∈ wsL_law_r15, w ∈ lw_tbl := fun w h => (goodIn_p wsL_law_r15 [456, 460, 464, 468, 316] (by decide +kernel) (by decide +kernel) w h).1
theorem inR16 : ∀ w ∈ wsL_law_r16, w ∈ lw_tbl := fun w h => (goodIn_p wsL_law_r16 [320, 473, 324, 477] (by decide +kernel) (by decide +kernel) w h).1
