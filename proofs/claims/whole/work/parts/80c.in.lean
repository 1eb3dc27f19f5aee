theorem inR5 : ∀ w ∈ wsL_law_r5, w ∈ lw_tbl := fun w h => (goodIn_p wsL_law_r5 [389, 150, 393, 154, 158, 162] (by decide +kernel) (by decide +kernel) w h).1
theorem inR6 : ∀ w ∈ wsL_law_r6, w ∈ lw_tbl := fun w h => (goodIn_p wsL_law_r6 [166, 169, 173, 177, 180, 184] (by decide +kernel) (by decide +kernel) w h).1
