def wsL_law0_r18_0 : List Cond := [Cond.methodLink RL 189 yL_isSo, Cond.static yL_isSo, Cond.code yL_isSo cL_isSo 15 (some .boolean)]
set_option maxRecDepth 20000 in
theorem wsL_law_r18_0 : ∀ w ∈ wsL_law0_r18_0, w ∈ lw_tbl := fun w h => (goodIn_p wsL_law0_r18_0 [225] (by decide +kernel) (by decide +kernel) w h).1
def wsL_law0_r18_3 : List Cond := [Cond.methodLink RL 115 yL_whyNot, Cond.static yL_whyNot, Cond.codeWith yL_whyNot cL_whyNot 5 (some .int) [(0, 7, 8, 16)], Cond.methodLink RL 69 yX3_whyNot, Cond.instanceMethod yX3_whyNot, Cond.selects RX3 yX3_whyNot yX3_whyNot, Cond.code yX3_whyNot cX3_whyNot 4 (some .int), Cond.methodLink RL 123 yL_rain, Cond.static yL_rain, Cond.codeWith yL_rain cL_rain 3 (some .int) [(0, 5, 6, 18)], Cond.methodLink RL 63 yX3_rain, Cond.instanceMethod yX3_rain, Cond.selects RX3 yX3_rain yX3_rain, Cond.code yX3_rain cX3_rain 2 (some .int), Cond.methodLink RX3 151 yX0_rainOf]
set_option maxRecDepth 20000 in
theorem wsL_law_r18_3 : ∀ w ∈ wsL_law0_r18_3, w ∈ lw_tbl := fun w h => (goodIn_p wsL_law0_r18_3 [315, 340] (by decide +kernel) (by decide +kernel) w h).1
