theorem inR11 : ∀ w ∈ wsL_law_r11, w ∈ lw_tbl := fun w h => (goodIn_p wsL_law_r11 [284, 291, 295, 299, 302] (by decide +kernel) (by decide +kernel) w h).1
theorem inR12 : ∀ w ∈ wsL_law_r12, w ∈ lw_tbl := fun w h => (goodIn_p wsL_law_r12 [308, 311, 397, 401] (by decide +kernel) (by decide +kernel) w h).1
