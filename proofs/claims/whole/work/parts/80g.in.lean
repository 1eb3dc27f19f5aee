theorem inR13 : ∀ w ∈ wsL_law_r13, w ∈ lw_tbl := fun w h => (goodIn_p wsL_law_r13 [406, 410, 414, 418, 422, 428] (by decide +kernel) (by decide +kernel) w h).1
theorem inR14 : ∀ w ∈ wsL_law_r14, w ∈ lw_tbl := fun w h => (goodIn_p wsL_law_r14 [432, 436, 439, 444, 448, 452] (by decide +kernel) (by decide +kernel) w h).1
