def wsL_law0_r18_21 : List Cond := [Cond.methodLink RL 129 yL_areCounts, Cond.static yL_areCounts, Cond.code yL_areCounts cL_areCounts 15 (some .boolean)]
set_option maxRecDepth 20000 in
theorem wsL_law_r18_21 : ∀ w ∈ wsL_law0_r18_21, w ∈ lw_tbl := fun w h => (goodIn_p wsL_law0_r18_21 [377] (by decide +kernel) (by decide +kernel) w h).1
