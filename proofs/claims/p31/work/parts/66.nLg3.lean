set_option maxRecDepth 20000 in
theorem ggI_c : GoodIn wsL_law [Cond.code yL_isSo cL_isSo 15 (some .boolean)] := goodIn_r _ [410] (by decide +kernel) (by decide +kernel)
set_option maxRecDepth 20000 in
theorem ggI_1 : GoodIn wsL_law wsL_isSo_r1 := goodIn_r _ [79, 80, 72, 81, 82, 197, 198, 199, 157, 91, 200, 201, 202, 2, 203, 13, 162, 163, 164, 165, 166, 96, 97, 98] (by decide +kernel) (by decide +kernel)
set_option maxRecDepth 20000 in
theorem ggI_2 : GoodIn wsL_law wsL_isSo_r2 := goodIn_r _ [99, 100, 101, 102, 103, 204, 205, 206, 12, 207, 40, 41, 42, 43, 28, 117, 118, 119, 120, 121, 122, 123, 124, 33] (by decide +kernel) (by decide +kernel)
set_option maxRecDepth 20000 in
theorem ggI_3 : GoodIn wsL_law wsL_isSo_r3 := goodIn_r _ [34, 35, 133, 134, 135, 136, 405, 406, 407, 384, 385, 386, 154, 155, 156, 158, 159, 160, 161, 167, 168, 169, 170, 411] (by decide +kernel) (by decide +kernel)
set_option maxRecDepth 20000 in
theorem ggI_4 : GoodIn wsL_law wsL_isSo_r4 := goodIn_r _ [412, 413, 414, 415, 416, 417, 219, 220, 221, 222, 381, 382, 383, 186, 187, 188, 189, 190, 191, 192, 193, 194, 195, 196] (by decide +kernel) (by decide +kernel)
set_option maxRecDepth 20000 in
theorem ggI_5 : GoodIn wsL_law wsL_isSo_r5 := goodIn_r _ [418, 419, 420, 421, 422, 423, 424, 425, 276, 277, 278, 279, 280, 281, 282, 426, 427, 428, 171, 172, 173, 174, 175, 176] (by decide +kernel) (by decide +kernel)
set_option maxRecDepth 20000 in
theorem ggI_6 : GoodIn wsL_law wsL_isSo_r6 := goodIn_r _ [177, 178, 179, 180, 181, 141, 142, 143, 144, 145, 61, 58, 62, 150, 151, 152, 153, 182, 183, 184, 185, 429, 430, 431] (by decide +kernel) (by decide +kernel)
set_option maxRecDepth 20000 in
theorem ggI_7 : GoodIn wsL_law wsL_isSo_r7 := goodIn_r _ [88, 89, 90, 92, 93, 94, 95, 18, 104, 105, 106, 17, 107, 108, 109, 110, 111, 112, 113, 114, 115, 116, 125, 126] (by decide +kernel) (by decide +kernel)
set_option maxRecDepth 20000 in
theorem ggI_8 : GoodIn wsL_law wsL_isSo_r8 := goodIn_r _ [127, 128, 129, 130, 131, 132, 137, 138, 139, 140, 146, 147, 148, 149, 432, 433, 434, 435, 436, 437] (by decide +kernel) (by decide +kernel)
theorem inlX3 : ∀ w ∈ wsX30, w ∈ wsL_law := fun _ h => List.mem_append_left _ (List.mem_append_left _ (List.mem_append_left _ (List.mem_append_left _ (List.mem_append_left _ (List.mem_append_left _ (List.mem_append_left _ (List.mem_append_right _ h)))))))
theorem ggI_X3 : GoodIn wsL_law wsX30 := goodIn_sub inlX3 (by decide +kernel)
theorem inlX0 : ∀ w ∈ wsX00, w ∈ wsL_law := fun _ h => List.mem_append_left _ (List.mem_append_left _ (List.mem_append_left _ (List.mem_append_left _ (List.mem_append_left _ (List.mem_append_left _ (List.mem_append_right _ h))))))
theorem ggI_X0 : GoodIn wsL_law wsX00 := goodIn_sub inlX0 (by decide +kernel)
theorem inlX1 : ∀ w ∈ wsX10, w ∈ wsL_law := fun _ h => List.mem_append_left _ (List.mem_append_left _ (List.mem_append_left _ (List.mem_append_left _ (List.mem_append_left _ (List.mem_append_right _ h)))))
theorem ggI_X1 : GoodIn wsL_law wsX10 := goodIn_sub inlX1 (by decide +kernel)
theorem ggL_law_L_isSo : GoodIn wsL_law wsL_isSo := goodIn_ca (goodIn_ca (goodIn_app ggI_c (goodIn_app (goodIn_app (goodIn_app (goodIn_app ggI_1 (goodIn_app ggI_2 (goodIn_app ggI_3 (goodIn_app ggI_4 (goodIn_app ggI_5 (goodIn_app ggI_6 (goodIn_app ggI_7 ggI_8))))))) ggI_X3) ggI_X0) ggI_X1)) (goodIn_sub (fun _ h => List.mem_append_left _ (List.mem_append_right _ h)) (by decide +kernel))) (goodIn_sub (fun _ h => List.mem_append_left _ (List.mem_append_left _ (List.mem_append_right _ h))) (by decide +kernel))
set_option maxRecDepth 20000 in
theorem gL_law_L_isSo : GoodIn wsL_law (va_wsS RL 189 yL_isSo wsL_isSo) := goodIn_app (goodIn_of _ (by decide +kernel)) ggL_law_L_isSo
