set_option maxRecDepth 20000 in
theorem ggL_law_X3_init : GoodIn wsL_law wsX3_init := goodIn_r _ [9, 10, 11, 12, 13, 14, 15, 16, 17, 18, 19, 20, 21, 22, 23, 24, 25, 26, 27, 28, 29, 30, 31, 32, 33, 34, 35, 36, 37, 38, 39, 40, 41, 42, 43, 44, 45, 46, 47, 48, 49, 50, 51, 52, 53, 54, 55, 56, 57, 58, 59, 60, 61, 62, 63, 64, 65, 66, 67, 68, 69, 70, 71, 72, 73, 913, 893, 894, 895, 896, 897, 914, 915, 916, 917, 918, 919] (by decide +kernel) (by decide +kernel)
set_option maxRecDepth 20000 in
theorem gL_law_X3_init : GoodIn wsL_law (wsX3_init) := ggL_law_X3_init
set_option maxRecDepth 20000 in
theorem ggL_law_X4_init : GoodIn wsL_law wsX4_init := goodIn_r _ [76, 77, 11, 12, 31, 78, 79, 80, 81, 82, 898, 899, 900, 901, 902, 903, 904, 905, 906, 907, 908, 909, 910, 911, 912] (by decide +kernel) (by decide +kernel)
set_option maxRecDepth 20000 in
theorem gL_law_X4_init : GoodIn wsL_law (wsX4_init) := ggL_law_X4_init
set_option maxRecDepth 20000 in
theorem ggL_law_L_hearth : GoodIn wsL_law wsL_hearth := goodIn_ca (goodIn_ca (goodIn_r _ [86, 87, 88, 89, 90, 91, 2, 92, 21, 16, 93, 94, 95, 96, 97, 98, 99, 100, 101, 102, 103, 104, 105, 106, 107, 108, 20, 109, 110, 67, 111, 60, 61, 62, 63, 68, 112, 113, 114, 115, 116, 45, 46, 15, 47, 32, 117, 34, 35, 36, 118, 119, 120, 121, 44, 33, 893, 894, 895, 896, 897, 914, 915, 916, 917, 913] (by decide +kernel) (by decide +kernel)) (goodIn_sub (fun _ h => List.mem_append_left _ (List.mem_append_left _ (List.mem_append_right _ h))) (by decide +kernel))) (goodIn_sub (fun _ h => List.mem_append_left _ (List.mem_append_right _ h)) (by decide +kernel))
set_option maxRecDepth 20000 in
theorem gL_law_L_hearth : GoodIn wsL_law (va_wsS RL 91 yL_hearth wsL_hearth) := goodIn_app (goodIn_of _ (by decide +kernel)) ggL_law_L_hearth
set_option maxRecDepth 20000 in
theorem ggL_law_X4_hearth : GoodIn wsL_law wsX4_hearth := goodIn_r _ [125, 126, 78, 127, 128, 5, 129, 130, 131, 132, 133, 134, 135, 136, 137, 138, 139, 140, 141, 80, 898, 899, 900, 901, 902, 903, 904, 905, 906, 907, 908, 909, 910, 911, 912] (by decide +kernel) (by decide +kernel)
set_option maxRecDepth 20000 in
theorem gL_law_X4_hearth : GoodIn wsL_law (wsV RL 96 RX4 yX4_hearth wsX4_hearth) := goodIn_app (goodIn_of _ (by decide +kernel)) ggL_law_X4_hearth
set_option maxRecDepth 20000 in
theorem ggL_law_X4_thrown : GoodIn wsL_law wsX4_thrown := goodIn_r _ [145, 126, 898, 899, 900, 901, 902, 903, 904, 905, 906, 907, 908, 909, 910, 911, 912] (by decide +kernel) (by decide +kernel)
set_option maxRecDepth 20000 in
theorem gL_law_X4_thrown : GoodIn wsL_law (wsV RL 97 RX4 yX4_thrown wsX4_thrown) := goodIn_app (goodIn_of _ (by decide +kernel)) ggL_law_X4_thrown
set_option maxRecDepth 20000 in
theorem ggL_law_L_track : GoodIn wsL_law wsL_track := goodIn_ca (goodIn_ca (goodIn_r _ [148, 87, 88, 149, 150, 151, 2, 152, 21, 16, 93, 94, 95, 96, 97, 98, 99, 100, 101, 102, 103, 104, 105, 106, 107, 108, 20, 109, 110, 67, 111, 60, 61, 62, 63, 68, 112, 113, 114, 115, 116, 45, 46, 15, 47, 32, 118, 119, 120, 121, 44, 33, 34, 35, 36, 893, 894, 895, 896, 897, 914, 915, 916, 917, 913] (by decide +kernel) (by decide +kernel)) (goodIn_sub (fun _ h => List.mem_append_left _ (List.mem_append_left _ (List.mem_append_right _ h))) (by decide +kernel))) (goodIn_sub (fun _ h => List.mem_append_left _ (List.mem_append_right _ h)) (by decide +kernel))
set_option maxRecDepth 20000 in
theorem gL_law_L_track : GoodIn wsL_law (va_wsS RL 100 yL_track wsL_track) := goodIn_app (goodIn_of _ (by decide +kernel)) ggL_law_L_track
set_option maxRecDepth 20000 in
theorem ggL_law_X4_track : GoodIn wsL_law wsX4_track := goodIn_r _ [156, 126, 78, 157, 158, 5, 159, 130, 131, 132, 133, 134, 135, 136, 137, 138, 139, 140, 141, 80, 898, 899, 900, 901, 902, 903, 904, 905, 906, 907, 908, 909, 910, 911, 912] (by decide +kernel) (by decide +kernel)
set_option maxRecDepth 20000 in
theorem gL_law_X4_track : GoodIn wsL_law (wsV RL 103 RX4 yX4_track wsX4_track) := goodIn_app (goodIn_of _ (by decide +kernel)) ggL_law_X4_track
set_option maxRecDepth 20000 in
theorem ggL_law_L_strength : GoodIn wsL_law wsL_strength := goodIn_ca (goodIn_ca (goodIn_r _ [162, 87, 88, 163, 164, 165, 2, 166, 21, 16, 93, 94, 95, 96, 97, 98, 99, 100, 101, 102, 103, 104, 105, 106, 107, 108, 20, 109, 110, 67, 111, 60, 61, 62, 63, 68, 112, 113, 114, 115, 116, 45, 46, 15, 47, 32, 118, 119, 120, 121, 44, 33, 34, 35, 36, 893, 894, 895, 896, 897, 914, 915, 916, 917, 913] (by decide +kernel) (by decide +kernel)) (goodIn_sub (fun _ h => List.mem_append_left _ (List.mem_append_left _ (List.mem_append_right _ h))) (by decide +kernel))) (goodIn_sub (fun _ h => List.mem_append_left _ (List.mem_append_right _ h)) (by decide +kernel))
set_option maxRecDepth 20000 in
theorem gL_law_L_strength : GoodIn wsL_law (va_wsS RL 104 yL_strength wsL_strength) := goodIn_app (goodIn_of _ (by decide +kernel)) ggL_law_L_strength
set_option maxRecDepth 20000 in
theorem ggL_law_X4_strength : GoodIn wsL_law wsX4_strength := goodIn_r _ [170, 126, 78, 171, 172, 5, 173, 130, 131, 132, 133, 134, 135, 136, 137, 138, 139, 140, 141, 80, 898, 899, 900, 901, 902, 903, 904, 905, 906, 907, 908, 909, 910, 911, 912] (by decide +kernel) (by decide +kernel)
set_option maxRecDepth 20000 in
theorem gL_law_X4_strength : GoodIn wsL_law (wsV RL 106 RX4 yX4_strength wsX4_strength) := goodIn_app (goodIn_of _ (by decide +kernel)) ggL_law_X4_strength
set_option maxRecDepth 20000 in
theorem ggL_law_L_work : GoodIn wsL_law wsL_work := goodIn_ca (goodIn_ca (goodIn_r _ [176, 87, 177, 178, 179, 180, 2, 181, 16, 21, 93, 94, 95, 96, 97, 182, 183, 184, 15, 185, 37, 38, 39, 44, 45, 46, 47, 32, 186, 187, 188, 189, 190, 191, 192, 193, 194, 106, 107, 108, 20, 109, 110, 67, 111, 60, 61, 62, 63, 68, 112, 113, 114, 115, 116, 195, 53, 54, 55, 33, 34, 35, 36, 196, 893, 894, 895, 896, 897, 913, 914, 915, 916, 917] (by decide +kernel) (by decide +kernel)) (goodIn_sub (fun _ h => List.mem_append_left _ (List.mem_append_left _ (List.mem_append_right _ h))) (by decide +kernel))) (goodIn_sub (fun _ h => List.mem_append_right _ h) (by decide +kernel))
set_option maxRecDepth 20000 in
theorem gL_law_L_work : GoodIn wsL_law (va_wsS RL 107 yL_work wsL_work) := goodIn_app (goodIn_of _ (by decide +kernel)) ggL_law_L_work
set_option maxRecDepth 20000 in
theorem ggL_law_X4_work : GoodIn wsL_law wsX4_work := goodIn_r _ [200, 126, 171, 172, 5, 173, 130, 131, 132, 127, 128, 129, 157, 158, 159, 133, 134, 135, 136, 201, 202, 203, 204, 78, 205, 206, 207, 208, 209, 210, 211, 212, 213, 214, 215, 216, 137, 138, 139, 140, 141, 80, 217, 218, 219, 220, 898, 899, 900, 901, 902, 903, 904, 905, 906, 907, 908, 909, 910, 911, 912] (by decide +kernel) (by decide +kernel)
set_option maxRecDepth 20000 in
theorem gL_law_X4_work : GoodIn wsL_law (wsV RL 110 RX4 yX4_work wsX4_work) := goodIn_app (goodIn_of _ (by decide +kernel)) ggL_law_X4_work
set_option maxRecDepth 20000 in
theorem ggL_law_L_rest : GoodIn wsL_law wsL_rest := goodIn_ca (goodIn_r _ [223, 87, 224, 225, 226, 2, 227, 21, 16, 93, 94, 95, 96, 97, 106, 107, 108, 20, 109, 110, 67, 111, 60, 61, 62, 63, 68, 112, 113, 114, 115, 116, 45, 46, 15, 47, 32, 228, 49, 50, 51, 52, 53, 54, 55, 33, 34, 35, 36, 229, 230, 231, 232, 233, 234, 235, 236, 186, 187, 188, 189, 44, 893, 894, 895, 896, 897, 914, 915, 916, 917, 913] (by decide +kernel) (by decide +kernel)) (goodIn_sub (fun _ h => List.mem_append_left _ (List.mem_append_left _ (List.mem_append_right _ h))) (by decide +kernel))
set_option maxRecDepth 20000 in
theorem gL_law_L_rest : GoodIn wsL_law (va_wsS RL 111 yL_rest wsL_rest) := goodIn_app (goodIn_of _ (by decide +kernel)) ggL_law_L_rest
set_option maxRecDepth 20000 in
theorem ggL_law_X4_rest : GoodIn wsL_law wsX4_rest := goodIn_r _ [240, 126, 171, 172, 5, 173, 130, 131, 132, 133, 134, 135, 136, 137, 138, 139, 140, 141, 80, 78, 217, 218, 219, 220, 241, 242, 243, 244, 245, 246, 247, 248, 213, 214, 215, 216, 898, 899, 900, 901, 902, 903, 904, 905, 906, 907, 908, 909, 910, 911, 912] (by decide +kernel) (by decide +kernel)
set_option maxRecDepth 20000 in
theorem gL_law_X4_rest : GoodIn wsL_law (wsV RL 114 RX4 yX4_rest wsX4_rest) := goodIn_app (goodIn_of _ (by decide +kernel)) ggL_law_X4_rest
set_option maxRecDepth 20000 in
theorem ggL_law_L_give : GoodIn wsL_law wsL_give := goodIn_ca (goodIn_ca (goodIn_ca (goodIn_r _ [251, 87, 88, 177, 252, 253, 254, 2, 255, 16, 21, 256, 257, 258, 93, 94, 95, 96, 97, 98, 99, 100, 101, 102, 103, 104, 105, 259, 260, 15, 261, 37, 38, 39, 262, 45, 46, 47, 32, 190, 191, 192, 193, 194, 106, 107, 108, 20, 109, 110, 67, 111, 60, 61, 62, 63, 68, 112, 113, 114, 115, 116, 263, 41, 42, 43, 44, 33, 34, 35, 36, 893, 894, 895, 896, 897, 913, 914, 915, 916, 917] (by decide +kernel) (by decide +kernel)) (goodIn_sub (fun _ h => List.mem_append_left _ (List.mem_append_left _ (List.mem_append_right _ h))) (by decide +kernel))) (goodIn_sub (fun _ h => List.mem_append_left _ (List.mem_append_right _ h)) (by decide +kernel))) (goodIn_sub (fun _ h => List.mem_append_right _ h) (by decide +kernel))
set_option maxRecDepth 20000 in
theorem gL_law_L_give : GoodIn wsL_law (va_wsS RL 115 yL_give wsL_give) := goodIn_app (goodIn_of _ (by decide +kernel)) ggL_law_L_give
set_option maxRecDepth 20000 in
theorem ggL_law_X4_give : GoodIn wsL_law wsX4_give := goodIn_r _ [267, 126, 78, 130, 131, 5, 132, 157, 158, 159, 133, 134, 135, 136, 205, 206, 207, 208, 209, 210, 211, 212, 137, 138, 139, 140, 141, 80, 898, 899, 900, 901, 902, 903, 904, 905, 906, 907, 908, 909, 910, 911, 912] (by decide +kernel) (by decide +kernel)
set_option maxRecDepth 20000 in
theorem gL_law_X4_give : GoodIn wsL_law (wsV RL 118 RX4 yX4_give wsX4_give) := goodIn_app (goodIn_of _ (by decide +kernel)) ggL_law_X4_give
set_option maxRecDepth 20000 in
theorem ggL_law_X3_snow : GoodIn wsL_law wsX3_snow := goodIn_r _ [271, 21, 16, 106, 107, 108, 20, 109, 110, 67, 111, 60, 61, 62, 63, 68, 112, 113, 114, 115, 116, 45, 46, 15, 47, 32, 272, 273, 274, 275, 44, 33, 34, 35, 36, 48, 49, 50, 51, 52, 53, 54, 55, 262, 893, 894, 895, 896, 897, 914, 915, 916, 917, 913] (by decide +kernel) (by decide +kernel)
set_option maxRecDepth 20000 in
theorem gL_law_X3_snow : GoodIn wsL_law (wsV RL 119 RX3 yX3_snow wsX3_snow) := goodIn_app (goodIn_of _ (by decide +kernel)) ggL_law_X3_snow
set_option maxRecDepth 20000 in
theorem ggL_law_X4_snow : GoodIn wsL_law wsX4_snow := goodIn_r _ [279, 126, 137, 138, 139, 5, 140, 141, 80, 78, 280, 281, 282, 283, 217, 218, 219, 220, 898, 899, 900, 901, 902, 903, 904, 905, 906, 907, 908, 909, 910, 911, 912] (by decide +kernel) (by decide +kernel)
set_option maxRecDepth 20000 in
theorem gL_law_X4_snow : GoodIn wsL_law (wsV RL 122 RX4 yX4_snow wsX4_snow) := goodIn_app (goodIn_of _ (by decide +kernel)) ggL_law_X4_snow
set_option maxRecDepth 20000 in
theorem ggL_law_L_pass : GoodIn wsL_law wsL_pass := goodIn_ca (goodIn_r _ [286, 88, 287, 288, 289, 2, 290, 21, 16, 98, 99, 100, 101, 102, 103, 104, 105, 106, 107, 108, 20, 109, 110, 67, 111, 60, 61, 62, 63, 68, 112, 113, 114, 115, 116, 45, 46, 15, 47, 32, 291, 292, 293, 294, 40, 41, 42, 43, 44, 33, 34, 35, 36, 295, 296, 297, 298, 299, 300, 301, 302, 303, 304, 305, 306, 307, 308, 309, 310, 311, 312, 313, 314, 315, 316, 317, 318, 319, 320, 321, 322, 37, 38, 39, 323, 324, 325, 326, 327, 328, 329, 330, 331, 332, 333, 334, 335, 336, 337, 338, 339, 340, 341, 342, 893, 894, 895, 896, 897, 914, 915, 916, 917, 913] (by decide +kernel) (by decide +kernel)) (goodIn_sub (fun _ h => List.mem_append_left _ (List.mem_append_right _ h)) (by decide +kernel))
set_option maxRecDepth 20000 in
theorem gL_law_L_pass : GoodIn wsL_law (va_wsS RL 123 yL_pass wsL_pass) := goodIn_app (goodIn_of _ (by decide +kernel)) ggL_law_L_pass
set_option maxRecDepth 20000 in
theorem ggL_law_X4_pass : GoodIn wsL_law wsX4_pass := goodIn_r _ [346, 126, 130, 131, 5, 132, 133, 134, 135, 136, 137, 138, 139, 140, 141, 80, 78, 347, 348, 349, 350, 351, 352, 353, 354, 355, 356, 357, 358, 359, 360, 361, 362, 363, 364, 365, 366, 367, 368, 369, 370, 371, 372, 373, 374, 375, 376, 377, 378, 379, 380, 381, 382, 383, 384, 385, 386, 387, 388, 389, 390, 391, 898, 899, 900, 901, 902, 903, 904, 905, 906, 907, 908, 909, 910, 911, 912] (by decide +kernel) (by decide +kernel)
set_option maxRecDepth 20000 in
theorem gL_law_X4_pass : GoodIn wsL_law (wsV RL 125 RX4 yX4_pass wsX4_pass) := goodIn_app (goodIn_of _ (by decide +kernel)) ggL_law_X4_pass
set_option maxRecDepth 20000 in
theorem ggL_law_L_set : GoodIn wsL_law wsL_set := goodIn_ca (goodIn_ca (goodIn_r _ [394, 87, 88, 395, 396, 397, 2, 398, 399, 400, 21, 16, 93, 94, 95, 96, 97, 98, 99, 100, 101, 102, 103, 104, 105, 106, 107, 108, 20, 109, 110, 67, 111, 60, 61, 62, 63, 68, 112, 113, 114, 115, 116, 45, 46, 15, 47, 32, 118, 119, 120, 121, 44, 33, 34, 35, 36, 893, 894, 895, 896, 897, 914, 915, 916, 917, 913] (by decide +kernel) (by decide +kernel)) (goodIn_sub (fun _ h => List.mem_append_left _ (List.mem_append_left _ (List.mem_append_right _ h))) (by decide +kernel))) (goodIn_sub (fun _ h => List.mem_append_left _ (List.mem_append_right _ h)) (by decide +kernel))
set_option maxRecDepth 20000 in
theorem gL_law_L_set : GoodIn wsL_law (va_wsS RL 126 yL_set wsL_set) := goodIn_app (goodIn_of _ (by decide +kernel)) ggL_law_L_set
set_option maxRecDepth 20000 in
theorem ggL_law_X4_set : GoodIn wsL_law wsX4_set := goodIn_r _ [404, 126, 78, 130, 131, 5, 132, 133, 134, 135, 136, 405, 406, 407, 408, 409, 410, 137, 138, 139, 140, 141, 80, 898, 899, 900, 901, 902, 903, 904, 905, 906, 907, 908, 909, 910, 911, 912] (by decide +kernel) (by decide +kernel)
set_option maxRecDepth 20000 in
theorem gL_law_X4_set : GoodIn wsL_law (wsV RL 128 RX4 yX4_set wsX4_set) := goodIn_app (goodIn_of _ (by decide +kernel)) ggL_law_X4_set
set_option maxRecDepth 20000 in
theorem ggL_law_L_append : GoodIn wsL_law wsL_append := goodIn_ca (goodIn_ca (goodIn_r _ [413, 88, 177, 414, 415, 416, 2, 417, 26, 98, 99, 100, 101, 102, 103, 104, 105, 418, 419, 420, 25, 421, 422, 190, 191, 192, 193, 194, 423, 424, 425, 426, 73, 893, 894, 895, 896, 897, 918, 919] (by decide +kernel) (by decide +kernel)) (goodIn_sub (fun _ h => List.mem_append_left _ (List.mem_append_right _ h)) (by decide +kernel))) (goodIn_sub (fun _ h => List.mem_append_right _ h) (by decide +kernel))
set_option maxRecDepth 20000 in
theorem gL_law_L_append : GoodIn wsL_law (va_wsS RL 129 yL_append wsL_append) := goodIn_app (goodIn_of _ (by decide +kernel)) ggL_law_L_append
set_option maxRecDepth 20000 in
theorem ggL_law_X4_append : GoodIn wsL_law wsX4_append := goodIn_r _ [430, 126, 431, 82, 130, 131, 5, 132, 133, 134, 135, 136, 898, 899, 900, 901, 902, 903, 904, 905, 906, 907, 908, 909, 910, 911, 912] (by decide +kernel) (by decide +kernel)
set_option maxRecDepth 20000 in
theorem gL_law_X4_append : GoodIn wsL_law (wsV RL 131 RX4 yX4_append wsX4_append) := goodIn_app (goodIn_of _ (by decide +kernel)) ggL_law_X4_append
set_option maxRecDepth 20000 in
theorem ggL_law_X3_clearBuffer : GoodIn wsL_law wsX3_clearBuffer := goodIn_r _ [435, 26, 418, 419, 420, 25, 421, 422, 436, 437, 438, 439, 893, 894, 895, 896, 897, 918, 919] (by decide +kernel) (by decide +kernel)
set_option maxRecDepth 20000 in
theorem gL_law_X3_clearBuffer : GoodIn wsL_law (wsV RL 132 RX3 yX3_clearBuffer wsX3_clearBuffer) := goodIn_app (goodIn_of _ (by decide +kernel)) ggL_law_X3_clearBuffer
set_option maxRecDepth 20000 in
theorem ggL_law_X4_clearBuffer : GoodIn wsL_law wsX4_clearBuffer := goodIn_r _ [443, 126, 431, 898, 899, 900, 901, 902, 903, 904, 905, 906, 907, 908, 909, 910, 911, 912] (by decide +kernel) (by decide +kernel)
set_option maxRecDepth 20000 in
theorem gL_law_X4_clearBuffer : GoodIn wsL_law (wsV RL 135 RX4 yX4_clearBuffer wsX4_clearBuffer) := goodIn_app (goodIn_of _ (by decide +kernel)) ggL_law_X4_clearBuffer
set_option maxRecDepth 20000 in
theorem ggL_law_X3_firstError : GoodIn wsL_law wsX3_firstError := goodIn_r _ [447, 26, 448, 449, 450, 25, 451, 422, 452, 453, 454, 455, 73, 456, 457, 458, 459, 460, 461, 462, 463, 464, 465, 466, 467, 468, 469, 470, 893, 894, 895, 896, 897, 918, 919] (by decide +kernel) (by decide +kernel)
set_option maxRecDepth 20000 in
theorem gL_law_X3_firstError : GoodIn wsL_law (wsV RL 136 RX3 yX3_firstError wsX3_firstError) := goodIn_app (goodIn_of _ (by decide +kernel)) ggL_law_X3_firstError
set_option maxRecDepth 20000 in
theorem ggL_law_X4_firstError : GoodIn wsL_law wsX4_firstError := goodIn_r _ [474, 126, 431, 475, 476, 477, 5, 478, 479, 480, 481, 482, 483, 484, 485, 486, 487, 488, 489, 82, 490, 491, 492, 493, 130, 131, 132, 494, 495, 496, 497, 498, 499, 500, 501, 502, 503, 504, 505, 506, 507, 898, 899, 900, 901, 902, 903, 904, 905, 906, 907, 908, 909, 910, 911, 912] (by decide +kernel) (by decide +kernel)
set_option maxRecDepth 20000 in
theorem gL_law_X4_firstError : GoodIn wsL_law (wsV RL 139 RX4 yX4_firstError wsX4_firstError) := goodIn_app (goodIn_of _ (by decide +kernel)) ggL_law_X4_firstError
set_option maxRecDepth 20000 in
theorem ggL_law_L_play : GoodIn wsL_law wsL_play := goodIn_ca (goodIn_r _ [510, 88, 511, 512, 513, 2, 514, 26, 21, 16, 515, 516, 517, 25, 518, 422, 452, 453, 454, 455, 73, 456, 457, 458, 459, 460, 461, 462, 463, 464, 465, 466, 467, 468, 469, 470, 101, 102, 103, 104, 105, 106, 107, 108, 20, 109, 110, 67, 111, 60, 61, 62, 63, 68, 112, 113, 114, 115, 116, 45, 46, 15, 47, 32, 418, 419, 420, 421, 519, 520, 521, 522, 523, 524, 525, 526, 527, 528, 529, 530, 531, 182, 183, 184, 185, 37, 38, 39, 44, 186, 187, 188, 189, 195, 53, 54, 55, 33, 34, 35, 36, 228, 49, 50, 51, 52, 291, 292, 293, 294, 40, 41, 42, 43, 295, 296, 297, 298, 299, 300, 301, 302, 303, 304, 305, 306, 307, 308, 309, 310, 311, 312, 313, 314, 315, 316, 317, 318, 319, 320, 321, 322, 323, 324, 325, 326, 327, 328, 329, 330, 331, 332, 333, 334, 335, 336, 337, 338, 339, 340, 341, 342, 272, 273, 274, 275, 48, 436, 437, 438, 439, 893, 894, 895, 896, 897, 918, 919, 914, 915, 916, 917, 913] (by decide +kernel) (by decide +kernel)) (goodIn_sub (fun _ h => List.mem_append_left _ (List.mem_append_right _ h)) (by decide +kernel))
set_option maxRecDepth 20000 in
theorem gL_law_L_play : GoodIn wsL_law (va_wsS RL 140 yL_play wsL_play) := goodIn_app (goodIn_of _ (by decide +kernel)) ggL_law_L_play
set_option maxRecDepth 20000 in
theorem ggL_law_X4_play : GoodIn wsL_law wsX4_play := goodIn_r _ [535, 126, 479, 431, 475, 476, 477, 5, 478, 480, 481, 482, 483, 484, 485, 486, 487, 488, 489, 82, 490, 491, 492, 493, 130, 131, 132, 494, 495, 496, 497, 498, 499, 500, 501, 502, 503, 504, 505, 506, 507, 133, 134, 135, 136, 137, 138, 139, 140, 141, 80, 78, 536, 537, 538, 539, 201, 202, 203, 204, 205, 206, 207, 208, 209, 210, 211, 212, 213, 214, 215, 216, 217, 218, 219, 220, 347, 348, 349, 350, 351, 352, 353, 354, 355, 356, 357, 358, 359, 360, 361, 362, 363, 364, 365, 366, 367, 368, 369, 370, 371, 372, 373, 374, 375, 376, 377, 378, 379, 380, 381, 382, 383, 384, 385, 386, 387, 388, 389, 390, 391, 280, 281, 282, 283, 898, 899, 900, 901, 902, 903, 904, 905, 906, 907, 908, 909, 910, 911, 912] (by decide +kernel) (by decide +kernel)
set_option maxRecDepth 20000 in
theorem gL_law_X4_play : GoodIn wsL_law (wsV RL 143 RX4 yX4_play wsX4_play) := goodIn_app (goodIn_of _ (by decide +kernel)) ggL_law_X4_play
