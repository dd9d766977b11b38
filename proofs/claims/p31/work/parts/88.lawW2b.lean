def wsL_law0_r18_18 : List Cond := [Cond.methodLink RL 125 yL_isHearth, Cond.static yL_isHearth, Cond.code yL_isHearth cL_isHearth 13 (some .boolean)]
set_option maxRecDepth 20000 in
theorem wsL_law_r18_18 : ∀ w ∈ wsL_law0_r18_18, w ∈ lw_tbl := fun w h => (goodIn_p wsL_law0_r18_18 [350] (by decide +kernel) (by decide +kernel) w h).1
