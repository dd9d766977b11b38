set_option maxRecDepth 20000 in
theorem wsL_law_w3 : ∀ w ∈ wsX30, w ∈ lw_tbl := by decide +kernel
set_option maxRecDepth 20000 in
theorem wsL_law_w0 : ∀ w ∈ wsX00, w ∈ lw_tbl := by decide +kernel
set_option maxRecDepth 20000 in
theorem wsL_law_w1 : ∀ w ∈ wsX10, w ∈ lw_tbl := by decide +kernel
set_option maxRecDepth 20000 in
theorem wsL_law_w2 : ∀ w ∈ wsX20, w ∈ lw_tbl := by decide +kernel
set_option maxRecDepth 20000 in
theorem wsL_law_x0 : ∀ w ∈ (vx_atS RX3 235 "java/lang/IllegalArgumentException" ["java/lang/RuntimeException", "java/lang/Exception"]).filter goodWord, w ∈ lw_tbl := by decide +kernel
set_option maxRecDepth 20000 in
theorem wsL_law_x1 : ∀ w ∈ (vx_atS RX3 228 "java/lang/IndexOutOfBoundsException" ["java/lang/RuntimeException", "java/lang/Exception"]).filter goodWord, w ∈ lw_tbl := by decide +kernel
set_option maxRecDepth 20000 in
theorem wsL_law_x2 : ∀ w ∈ (vx_atS RX3 240 "java/lang/IllegalStateException" ["java/lang/RuntimeException", "java/lang/Exception"]).filter goodWord, w ∈ lw_tbl := by decide +kernel
theorem all_app {a b t : List Cond} (ha : ∀ w ∈ a, w ∈ t) (hb : ∀ w ∈ b, w ∈ t) : ∀ w ∈ a ++ b, w ∈ t := fun w h => (List.mem_append.mp h).elim (ha w) (hb w)
theorem wsL_law_c18 : ∀ w ∈ wsL_law0_r18, w ∈ lw_tbl := fun w h => all_app wsL_law_r18_0 (all_app wsL_law_r18_3 (all_app wsL_law_r18_18 wsL_law_r18_21)) w (show w ∈ wsL_law0_r18_0 ++ (wsL_law0_r18_3 ++ (wsL_law0_r18_18 ++ wsL_law0_r18_21)) from h)
theorem wsL_law_in0 : ∀ w ∈ wsL_law0, w ∈ lw_tbl := all_app (all_app (all_app (all_app (all_app (all_app wsL_law_c1 (all_app wsL_law_c2 (all_app wsL_law_c3 (all_app wsL_law_c4 (all_app wsL_law_c5 (all_app wsL_law_c6 (all_app wsL_law_c7 (all_app wsL_law_c8 (all_app wsL_law_c9 (all_app wsL_law_c10 (all_app wsL_law_c11 (all_app wsL_law_c12 (all_app wsL_law_c13 (all_app wsL_law_c14 (all_app wsL_law_c15 (all_app wsL_law_c16 (all_app wsL_law_c17 (all_app wsL_law_c18 (wsL_law_c19))))))))))))))))))) wsL_law_w3) wsL_law_w0) wsL_law_w1) wsL_law_w2) (fun _ h => absurd h List.not_mem_nil)
theorem wsL_law_in : ∀ w ∈ wsL_law, w ∈ lw_tbl := all_app (all_app (all_app wsL_law_in0 wsL_law_x0) wsL_law_x1) wsL_law_x2
