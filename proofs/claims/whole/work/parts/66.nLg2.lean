set_option maxRecDepth 20000 in
theorem ggL_law_L_undo : GoodIn wsL_law wsL_undo := goodIn_ca (goodIn_r _ [542, 177, 543, 544, 545, 2, 546, 21, 16, 547, 548, 549, 20, 550, 111, 190, 191, 192, 193, 194, 551, 552, 553, 554, 110, 68, 112, 113, 114, 115, 555, 34, 35, 15, 36, 32, 556, 557, 558, 559, 67, 64, 65, 62, 66, 893, 894, 895, 896, 897, 914, 915, 916, 917, 913] (by decide +kernel) (by decide +kernel)) (goodIn_sub (fun _ h => List.mem_append_right _ h) (by decide +kernel))
set_option maxRecDepth 20000 in
theorem gL_law_L_undo : GoodIn wsL_law (va_wsS RL 144 yL_undo wsL_undo) := goodIn_app (goodIn_of _ (by decide +kernel)) ggL_law_L_undo
set_option maxRecDepth 20000 in
theorem ggL_law_X4_undo : GoodIn wsL_law wsX4_undo := goodIn_r _ [563, 126, 141, 78, 80, 133, 134, 135, 5, 136, 898, 899, 900, 901, 902, 903, 904, 905, 906, 907, 908, 909, 910, 911, 912] (by decide +kernel) (by decide +kernel)
set_option maxRecDepth 20000 in
theorem gL_law_X4_undo : GoodIn wsL_law (wsV RL 146 RX4 yX4_undo wsX4_undo) := goodIn_app (goodIn_of _ (by decide +kernel)) ggL_law_X4_undo
set_option maxRecDepth 20000 in
theorem ggL_law_X3_keep : GoodIn wsL_law wsX3_keep := goodIn_r _ [567, 22, 16, 106, 107, 108, 20, 109, 110, 67, 111, 60, 61, 62, 63, 68, 112, 113, 114, 115, 116, 45, 46, 15, 47, 32, 262, 893, 894, 895, 896, 897, 914, 915, 916, 917, 913] (by decide +kernel) (by decide +kernel)
set_option maxRecDepth 20000 in
theorem gL_law_X3_keep : GoodIn wsL_law (wsV RL 147 RX3 yX3_keep wsX3_keep) := goodIn_app (goodIn_of _ (by decide +kernel)) ggL_law_X3_keep
set_option maxRecDepth 20000 in
theorem ggL_law_X4_keep : GoodIn wsL_law wsX4_keep := goodIn_r _ [571, 126, 81, 78, 572, 898, 899, 900, 901, 902, 903, 904, 905, 906, 907, 908, 909, 910, 911, 912] (by decide +kernel) (by decide +kernel)
set_option maxRecDepth 20000 in
theorem gL_law_X4_keep : GoodIn wsL_law (wsV RL 150 RX4 yX4_keep wsX4_keep) := goodIn_app (goodIn_of _ (by decide +kernel)) ggL_law_X4_keep
set_option maxRecDepth 20000 in
theorem ggL_law_L_restore : GoodIn wsL_law wsL_restore := goodIn_ca (goodIn_r _ [575, 177, 576, 577, 578, 2, 579, 22, 21, 16, 547, 548, 549, 20, 550, 111, 190, 191, 192, 193, 194, 106, 107, 108, 109, 110, 67, 60, 61, 62, 63, 68, 112, 113, 114, 115, 116, 45, 46, 15, 47, 32, 551, 552, 553, 554, 555, 34, 35, 36, 262, 893, 894, 895, 896, 897, 914, 915, 916, 917, 913] (by decide +kernel) (by decide +kernel)) (goodIn_sub (fun _ h => List.mem_append_right _ h) (by decide +kernel))
set_option maxRecDepth 20000 in
theorem gL_law_L_restore : GoodIn wsL_law (va_wsS RL 151 yL_restore wsL_restore) := goodIn_app (goodIn_of _ (by decide +kernel)) ggL_law_L_restore
set_option maxRecDepth 20000 in
theorem ggL_law_X4_restore : GoodIn wsL_law wsX4_restore := goodIn_r _ [583, 126, 572, 78, 81, 133, 134, 135, 5, 136, 137, 138, 139, 140, 141, 80, 898, 899, 900, 901, 902, 903, 904, 905, 906, 907, 908, 909, 910, 911, 912] (by decide +kernel) (by decide +kernel)
set_option maxRecDepth 20000 in
theorem gL_law_X4_restore : GoodIn wsL_law (wsV RL 153 RX4 yX4_restore wsX4_restore) := goodIn_app (goodIn_of _ (by decide +kernel)) ggL_law_X4_restore
set_option maxRecDepth 20000 in
theorem ggL_law_L_hearthOf : GoodIn wsL_law wsL_hearthOf := goodIn_ca (goodIn_ca (goodIn_r _ [586, 87, 88, 587, 588, 589, 2, 590, 16, 93, 94, 95, 96, 97, 98, 99, 100, 101, 102, 103, 104, 105, 591, 592, 593, 15, 594, 44, 45, 46, 47, 32, 37, 38, 39, 299, 300, 301, 302, 595, 596, 597, 598, 599, 65, 62, 66, 600, 601, 602, 603, 604, 605, 606, 607, 893, 894, 895, 896, 897, 913] (by decide +kernel) (by decide +kernel)) (goodIn_sub (fun _ h => List.mem_append_left _ (List.mem_append_left _ (List.mem_append_right _ h))) (by decide +kernel))) (goodIn_sub (fun _ h => List.mem_append_left _ (List.mem_append_right _ h)) (by decide +kernel))
set_option maxRecDepth 20000 in
theorem gL_law_L_hearthOf : GoodIn wsL_law (va_wsS RL 154 yL_hearthOf wsL_hearthOf) := goodIn_app (goodIn_of _ (by decide +kernel)) ggL_law_L_hearthOf
set_option maxRecDepth 20000 in
theorem ggL_law_X4_hearthOf : GoodIn wsL_law wsX4_hearthOf := goodIn_r _ [611, 126, 127, 128, 5, 129, 130, 131, 132, 133, 134, 135, 136, 612, 613, 614, 615, 78, 616, 617, 618, 619, 620, 621, 622, 623, 624, 625, 626, 627, 628, 629, 630, 631, 632, 633, 634, 635, 636, 637, 638, 898, 899, 900, 901, 902, 903, 904, 905, 906, 907, 908, 909, 910, 911, 912] (by decide +kernel) (by decide +kernel)
set_option maxRecDepth 20000 in
theorem gL_law_X4_hearthOf : GoodIn wsL_law (wsV RL 156 RX4 yX4_hearthOf wsX4_hearthOf) := goodIn_app (goodIn_of _ (by decide +kernel)) ggL_law_X4_hearthOf
set_option maxRecDepth 20000 in
theorem ggL_law_L_bankOf : GoodIn wsL_law wsL_bankOf := goodIn_ca (goodIn_ca (goodIn_r _ [641, 87, 88, 642, 643, 644, 2, 645, 16, 93, 94, 95, 96, 97, 98, 99, 100, 101, 102, 103, 104, 105, 646, 647, 648, 15, 649, 44, 45, 46, 47, 32, 233, 234, 235, 236, 186, 187, 188, 189, 37, 38, 39, 299, 300, 301, 302, 893, 894, 895, 896, 897, 913] (by decide +kernel) (by decide +kernel)) (goodIn_sub (fun _ h => List.mem_append_left _ (List.mem_append_left _ (List.mem_append_right _ h))) (by decide +kernel))) (goodIn_sub (fun _ h => List.mem_append_left _ (List.mem_append_right _ h)) (by decide +kernel))
set_option maxRecDepth 20000 in
theorem gL_law_L_bankOf : GoodIn wsL_law (va_wsS RL 157 yL_bankOf wsL_bankOf) := goodIn_app (goodIn_of _ (by decide +kernel)) ggL_law_L_bankOf
set_option maxRecDepth 20000 in
theorem ggL_law_X4_bankOf : GoodIn wsL_law wsX4_bankOf := goodIn_r _ [653, 126, 157, 158, 5, 159, 130, 131, 132, 133, 134, 135, 136, 654, 655, 656, 657, 78, 209, 210, 211, 212, 245, 246, 247, 248, 213, 214, 215, 216, 658, 659, 660, 661, 620, 621, 622, 623, 898, 899, 900, 901, 902, 903, 904, 905, 906, 907, 908, 909, 910, 911, 912] (by decide +kernel) (by decide +kernel)
set_option maxRecDepth 20000 in
theorem gL_law_X4_bankOf : GoodIn wsL_law (wsV RL 159 RX4 yX4_bankOf wsX4_bankOf) := goodIn_app (goodIn_of _ (by decide +kernel)) ggL_law_X4_bankOf
set_option maxRecDepth 20000 in
theorem ggL_law_L_plot : GoodIn wsL_law wsL_plot := goodIn_ca (goodIn_ca (goodIn_r _ [664, 87, 88, 665, 666, 667, 2, 668, 16, 93, 94, 95, 96, 97, 98, 99, 100, 101, 102, 103, 104, 105, 669, 670, 671, 15, 672, 37, 38, 39, 44, 45, 46, 47, 32, 186, 187, 188, 189, 893, 894, 895, 896, 897, 913] (by decide +kernel) (by decide +kernel)) (goodIn_sub (fun _ h => List.mem_append_left _ (List.mem_append_left _ (List.mem_append_right _ h))) (by decide +kernel))) (goodIn_sub (fun _ h => List.mem_append_left _ (List.mem_append_right _ h)) (by decide +kernel))
set_option maxRecDepth 20000 in
theorem gL_law_L_plot : GoodIn wsL_law (va_wsS RL 160 yL_plot wsL_plot) := goodIn_app (goodIn_of _ (by decide +kernel)) ggL_law_L_plot
set_option maxRecDepth 20000 in
theorem ggL_law_X4_plot : GoodIn wsL_law wsX4_plot := goodIn_r _ [676, 126, 127, 128, 5, 129, 130, 131, 132, 157, 158, 159, 133, 134, 135, 136, 677, 678, 679, 680, 78, 213, 214, 215, 216, 898, 899, 900, 901, 902, 903, 904, 905, 906, 907, 908, 909, 910, 911, 912] (by decide +kernel) (by decide +kernel)
set_option maxRecDepth 20000 in
theorem gL_law_X4_plot : GoodIn wsL_law (wsV RL 162 RX4 yX4_plot wsX4_plot) := goodIn_app (goodIn_of _ (by decide +kernel)) ggL_law_X4_plot
set_option maxRecDepth 20000 in
theorem ggL_law_L_cutter : GoodIn wsL_law wsL_cutter := goodIn_ca (goodIn_ca (goodIn_r _ [683, 87, 88, 684, 685, 686, 2, 687, 16, 93, 94, 95, 96, 97, 98, 99, 100, 101, 102, 103, 104, 105, 688, 689, 690, 15, 691, 44, 45, 46, 47, 32, 893, 894, 895, 896, 897, 913] (by decide +kernel) (by decide +kernel)) (goodIn_sub (fun _ h => List.mem_append_left _ (List.mem_append_left _ (List.mem_append_right _ h))) (by decide +kernel))) (goodIn_sub (fun _ h => List.mem_append_left _ (List.mem_append_right _ h)) (by decide +kernel))
set_option maxRecDepth 20000 in
theorem gL_law_L_cutter : GoodIn wsL_law (va_wsS RL 163 yL_cutter wsL_cutter) := goodIn_app (goodIn_of _ (by decide +kernel)) ggL_law_L_cutter
set_option maxRecDepth 20000 in
theorem ggL_law_X4_cutter : GoodIn wsL_law wsX4_cutter := goodIn_r _ [695, 126, 171, 172, 5, 173, 130, 131, 132, 133, 134, 135, 136, 696, 697, 698, 699, 78, 898, 899, 900, 901, 902, 903, 904, 905, 906, 907, 908, 909, 910, 911, 912] (by decide +kernel) (by decide +kernel)
set_option maxRecDepth 20000 in
theorem gL_law_X4_cutter : GoodIn wsL_law (wsV RL 165 RX4 yX4_cutter wsX4_cutter) := goodIn_app (goodIn_of _ (by decide +kernel)) ggL_law_X4_cutter
set_option maxRecDepth 20000 in
theorem ggL_law_L_rain : GoodIn wsL_law wsL_rain := goodIn_ca (goodIn_r _ [702, 88, 703, 704, 705, 2, 706, 16, 101, 102, 103, 104, 105, 707, 324, 325, 15, 326, 327, 328, 329, 330, 44, 45, 46, 47, 32, 893, 894, 895, 896, 897, 913] (by decide +kernel) (by decide +kernel)) (goodIn_sub (fun _ h => List.mem_append_left _ (List.mem_append_right _ h)) (by decide +kernel))
set_option maxRecDepth 20000 in
theorem gL_law_L_rain : GoodIn wsL_law (va_wsS RL 166 yL_rain wsL_rain) := goodIn_app (goodIn_of _ (by decide +kernel)) ggL_law_L_rain
set_option maxRecDepth 20000 in
theorem ggL_law_X4_rain : GoodIn wsL_law wsX4_rain := goodIn_r _ [711, 126, 133, 134, 135, 5, 136, 355, 356, 357, 358, 359, 78, 360, 898, 899, 900, 901, 902, 903, 904, 905, 906, 907, 908, 909, 910, 911, 912] (by decide +kernel) (by decide +kernel)
set_option maxRecDepth 20000 in
theorem gL_law_X4_rain : GoodIn wsL_law (wsV RL 168 RX4 yX4_rain wsX4_rain) := goodIn_app (goodIn_of _ (by decide +kernel)) ggL_law_X4_rain
set_option maxRecDepth 20000 in
theorem ggL_law_L_count : GoodIn wsL_law wsL_count := goodIn_ca (goodIn_r _ [714, 88, 715, 716, 717, 2, 718, 21, 16, 98, 99, 100, 101, 102, 103, 104, 105, 547, 548, 549, 20, 550, 111, 719, 720, 721, 15, 722, 44, 45, 46, 47, 32, 723, 230, 231, 232, 233, 234, 235, 236, 186, 187, 188, 189, 724, 725, 726, 727, 728, 729, 730, 731, 299, 300, 301, 302, 732, 733, 734, 735, 595, 596, 597, 598, 599, 65, 62, 66, 736, 737, 738, 739, 600, 601, 602, 603, 37, 38, 39, 893, 894, 895, 896, 897, 914, 915, 916, 917, 913] (by decide +kernel) (by decide +kernel)) (goodIn_sub (fun _ h => List.mem_append_left _ (List.mem_append_right _ h)) (by decide +kernel))
set_option maxRecDepth 20000 in
theorem gL_law_L_count : GoodIn wsL_law (va_wsS RL 169 yL_count wsL_count) := goodIn_app (goodIn_of _ (by decide +kernel)) ggL_law_L_count
set_option maxRecDepth 20000 in
theorem ggL_law_X4_count : GoodIn wsL_law wsX4_count := goodIn_r _ [743, 126, 130, 131, 5, 132, 744, 745, 746, 747, 78, 141, 241, 242, 243, 244, 245, 246, 247, 248, 213, 214, 215, 216, 748, 749, 750, 751, 752, 753, 754, 755, 624, 625, 626, 627, 628, 629, 630, 631, 632, 633, 634, 616, 617, 618, 619, 620, 621, 622, 623, 133, 134, 135, 136, 898, 899, 900, 901, 902, 903, 904, 905, 906, 907, 908, 909, 910, 911, 912] (by decide +kernel) (by decide +kernel)
set_option maxRecDepth 20000 in
theorem gL_law_X4_count : GoodIn wsL_law (wsV RL 171 RX4 yX4_count wsX4_count) := goodIn_app (goodIn_of _ (by decide +kernel)) ggL_law_X4_count
set_option maxRecDepth 20000 in
theorem ggL_law_L_whyNot : GoodIn wsL_law wsL_whyNot := goodIn_ca (goodIn_r _ [758, 87, 759, 760, 761, 2, 762, 16, 93, 94, 95, 96, 97, 182, 183, 184, 15, 185, 37, 38, 39, 44, 45, 46, 47, 32, 186, 187, 188, 189, 893, 894, 895, 896, 897, 913] (by decide +kernel) (by decide +kernel)) (goodIn_sub (fun _ h => List.mem_append_left _ (List.mem_append_left _ (List.mem_append_right _ h))) (by decide +kernel))
set_option maxRecDepth 20000 in
theorem gL_law_L_whyNot : GoodIn wsL_law (va_wsS RL 172 yL_whyNot wsL_whyNot) := goodIn_app (goodIn_of _ (by decide +kernel)) ggL_law_L_whyNot
set_option maxRecDepth 20000 in
theorem ggL_law_X4_whyNot : GoodIn wsL_law wsX4_whyNot := goodIn_r _ [766, 126, 171, 172, 5, 173, 130, 131, 132, 127, 128, 129, 157, 158, 159, 201, 202, 203, 204, 78, 205, 206, 207, 208, 209, 210, 211, 212, 213, 214, 215, 216, 133, 134, 135, 136, 898, 899, 900, 901, 902, 903, 904, 905, 906, 907, 908, 909, 910, 911, 912] (by decide +kernel) (by decide +kernel)
set_option maxRecDepth 20000 in
theorem gL_law_X4_whyNot : GoodIn wsL_law (wsV RL 174 RX4 yX4_whyNot wsX4_whyNot) := goodIn_app (goodIn_of _ (by decide +kernel)) ggL_law_X4_whyNot
set_option maxRecDepth 20000 in
theorem ggL_law_L_ifPassed : GoodIn wsL_law wsL_ifPassed := goodIn_ca (goodIn_r _ [769, 88, 770, 771, 772, 2, 773, 17, 16, 98, 99, 100, 101, 102, 103, 104, 105, 774, 775, 776, 15, 777, 44, 45, 46, 47, 32, 33, 34, 35, 36, 291, 292, 293, 294, 40, 41, 42, 43, 295, 296, 297, 298, 299, 300, 301, 302, 303, 304, 305, 306, 307, 308, 309, 310, 311, 312, 313, 314, 61, 62, 63, 315, 316, 317, 318, 319, 320, 321, 322, 37, 38, 39, 323, 324, 325, 326, 327, 328, 329, 330, 331, 332, 333, 334, 335, 336, 337, 338, 339, 340, 341, 342, 778, 733, 734, 735, 595, 596, 597, 598, 599, 65, 66, 779, 725, 726, 727, 893, 894, 895, 896, 897, 913] (by decide +kernel) (by decide +kernel)) (goodIn_sub (fun _ h => List.mem_append_left _ (List.mem_append_right _ h)) (by decide +kernel))
set_option maxRecDepth 20000 in
theorem gL_law_L_ifPassed : GoodIn wsL_law (va_wsS RL 175 yL_ifPassed wsL_ifPassed) := goodIn_app (goodIn_of _ (by decide +kernel)) ggL_law_L_ifPassed
set_option maxRecDepth 20000 in
theorem ggL_law_X4_ifPassed : GoodIn wsL_law wsX4_ifPassed := goodIn_r _ [783, 126, 130, 131, 5, 132, 784, 785, 786, 787, 788, 789, 790, 791, 79, 78, 748, 749, 750, 751, 347, 348, 349, 350, 351, 352, 353, 354, 355, 356, 357, 358, 359, 360, 361, 362, 363, 364, 365, 366, 367, 368, 369, 370, 371, 372, 373, 374, 375, 376, 377, 378, 379, 380, 381, 382, 383, 384, 385, 386, 387, 388, 389, 390, 391, 752, 753, 754, 755, 624, 625, 626, 627, 628, 629, 630, 631, 632, 633, 634, 616, 617, 618, 619, 620, 621, 622, 623, 792, 793, 794, 795, 133, 134, 135, 136, 898, 899, 900, 901, 902, 903, 904, 905, 906, 907, 908, 909, 910, 911, 912] (by decide +kernel) (by decide +kernel)
set_option maxRecDepth 20000 in
theorem gL_law_X4_ifPassed : GoodIn wsL_law (wsV RL 177 RX4 yX4_ifPassed wsX4_ifPassed) := goodIn_app (goodIn_of _ (by decide +kernel)) ggL_law_X4_ifPassed
set_option maxRecDepth 20000 in
theorem ggL_law_L_enoughIn : GoodIn wsL_law wsL_enoughIn := goodIn_ca (goodIn_r _ [798, 87, 799, 800, 801, 2, 802, 17, 16, 93, 94, 95, 96, 97, 774, 775, 776, 15, 777, 44, 45, 46, 47, 32, 33, 34, 35, 36, 803, 596, 597, 598, 599, 65, 62, 66, 291, 292, 293, 294, 40, 41, 42, 43, 295, 296, 297, 298, 299, 300, 301, 302, 303, 304, 305, 306, 307, 308, 309, 310, 311, 312, 313, 314, 61, 63, 315, 316, 317, 318, 319, 320, 321, 322, 37, 38, 39, 323, 324, 325, 326, 327, 328, 329, 330, 331, 332, 333, 334, 335, 336, 337, 338, 339, 340, 341, 342, 893, 894, 895, 896, 897, 913] (by decide +kernel) (by decide +kernel)) (goodIn_sub (fun _ h => List.mem_append_left _ (List.mem_append_left _ (List.mem_append_right _ h))) (by decide +kernel))
set_option maxRecDepth 20000 in
theorem gL_law_L_enoughIn : GoodIn wsL_law (va_wsS RL 178 yL_enoughIn wsL_enoughIn) := goodIn_app (goodIn_of _ (by decide +kernel)) ggL_law_L_enoughIn
set_option maxRecDepth 20000 in
theorem ggL_law_X4_enoughIn : GoodIn wsL_law wsX4_enoughIn := goodIn_r _ [807, 126, 127, 128, 5, 129, 130, 131, 132, 808, 809, 810, 811, 788, 789, 790, 791, 79, 78, 624, 625, 626, 627, 628, 629, 630, 351, 352, 353, 354, 355, 356, 357, 358, 359, 360, 361, 362, 363, 364, 365, 366, 367, 368, 369, 370, 371, 372, 373, 374, 375, 376, 377, 378, 379, 380, 381, 382, 383, 384, 385, 386, 387, 388, 389, 390, 391, 792, 793, 794, 795, 133, 134, 135, 136, 898, 899, 900, 901, 902, 903, 904, 905, 906, 907, 908, 909, 910, 911, 912] (by decide +kernel) (by decide +kernel)
set_option maxRecDepth 20000 in
theorem gL_law_X4_enoughIn : GoodIn wsL_law (wsV RL 180 RX4 yX4_enoughIn wsX4_enoughIn) := goodIn_app (goodIn_of _ (by decide +kernel)) ggL_law_X4_enoughIn
set_option maxRecDepth 20000 in
theorem ggL_law_L_bestBank : GoodIn wsL_law wsL_bestBank := goodIn_ca (goodIn_r _ [814, 87, 815, 816, 817, 2, 818, 16, 17, 93, 94, 95, 96, 97, 182, 183, 184, 15, 185, 37, 38, 39, 44, 45, 46, 47, 32, 186, 187, 188, 189, 774, 775, 776, 777, 33, 34, 35, 36, 195, 53, 54, 55, 291, 292, 293, 294, 40, 41, 42, 43, 295, 296, 297, 298, 299, 300, 301, 302, 303, 304, 305, 306, 307, 308, 309, 310, 311, 312, 313, 314, 61, 62, 63, 315, 316, 317, 318, 319, 320, 321, 322, 323, 324, 325, 326, 327, 328, 329, 330, 331, 332, 333, 334, 335, 336, 337, 338, 339, 340, 341, 342, 262, 893, 894, 895, 896, 897, 913] (by decide +kernel) (by decide +kernel)) (goodIn_sub (fun _ h => List.mem_append_left _ (List.mem_append_left _ (List.mem_append_right _ h))) (by decide +kernel))
set_option maxRecDepth 20000 in
theorem gL_law_L_bestBank : GoodIn wsL_law (va_wsS RL 181 yL_bestBank wsL_bestBank) := goodIn_app (goodIn_of _ (by decide +kernel)) ggL_law_L_bestBank
set_option maxRecDepth 20000 in
theorem ggL_law_X4_bestBank : GoodIn wsL_law wsX4_bestBank := goodIn_r _ [822, 126, 171, 172, 5, 173, 130, 131, 132, 127, 128, 129, 823, 824, 825, 826, 201, 202, 203, 204, 78, 205, 206, 207, 208, 209, 210, 211, 212, 213, 214, 215, 216, 827, 828, 829, 830, 788, 789, 790, 791, 79, 217, 218, 219, 220, 347, 348, 349, 350, 351, 352, 353, 354, 355, 356, 357, 358, 359, 360, 361, 362, 363, 364, 365, 366, 367, 368, 369, 370, 371, 372, 373, 374, 375, 376, 377, 378, 379, 380, 381, 382, 383, 384, 385, 386, 387, 388, 389, 390, 391, 792, 793, 794, 795, 133, 134, 135, 136, 898, 899, 900, 901, 902, 903, 904, 905, 906, 907, 908, 909, 910, 911, 912] (by decide +kernel) (by decide +kernel)
set_option maxRecDepth 20000 in
theorem gL_law_X4_bestBank : GoodIn wsL_law (wsV RL 183 RX4 yX4_bestBank wsX4_bestBank) := goodIn_app (goodIn_of _ (by decide +kernel)) ggL_law_X4_bestBank
set_option maxRecDepth 20000 in
theorem ggL_law_X3_dryness : GoodIn wsL_law wsX3_dryness := goodIn_r _ [834, 16, 835, 729, 730, 15, 731, 299, 300, 301, 302, 44, 45, 46, 47, 32, 779, 725, 726, 727, 893, 894, 895, 896, 897, 913] (by decide +kernel) (by decide +kernel)
set_option maxRecDepth 20000 in
theorem gL_law_X3_dryness : GoodIn wsL_law (wsV RL 184 RX3 yX3_dryness wsX3_dryness) := goodIn_app (goodIn_of _ (by decide +kernel)) ggL_law_X3_dryness
set_option maxRecDepth 20000 in
theorem ggL_law_X4_dryness : GoodIn wsL_law wsX4_dryness := goodIn_r _ [839, 126, 840, 841, 842, 5, 843, 748, 749, 750, 751, 78, 898, 899, 900, 901, 902, 903, 904, 905, 906, 907, 908, 909, 910, 911, 912] (by decide +kernel) (by decide +kernel)
set_option maxRecDepth 20000 in
theorem gL_law_X4_dryness : GoodIn wsL_law (wsV RL 188 RX4 yX4_dryness wsX4_dryness) := goodIn_app (goodIn_of _ (by decide +kernel)) ggL_law_X4_dryness
set_option maxRecDepth 20000 in
theorem ggL_law_X3_digest : GoodIn wsL_law wsX3_digest := goodIn_ca (goodIn_ca (goodIn_r _ [847, 848, 849, 26, 850, 716, 717, 2, 718, 21, 16, 98, 99, 100, 101, 102, 103, 104, 105, 547, 548, 549, 20, 550, 111, 719, 720, 721, 15, 722, 44, 45, 46, 47, 32, 723, 230, 231, 232, 233, 234, 235, 236, 186, 187, 188, 189, 724, 725, 726, 727, 728, 729, 730, 731, 299, 300, 301, 302, 732, 733, 734, 735, 595, 596, 597, 598, 599, 65, 62, 66, 736, 737, 738, 739, 600, 601, 602, 603, 37, 38, 39, 851, 588, 589, 590, 93, 94, 95, 96, 97, 591, 592, 593, 594, 604, 605, 606, 607, 852, 666, 667, 668, 669, 670, 671, 672, 853, 800, 801, 802, 17, 774, 775, 776, 777, 33, 34, 35, 36, 803, 291, 292, 293, 294, 40, 41, 42, 43, 295, 296, 297, 298, 303, 304, 305, 306, 307, 308, 309, 310, 311, 312, 313, 314, 61, 63, 315, 316, 317, 318, 319, 320, 321, 322, 323, 324, 325, 326, 327, 328, 329, 330, 331, 332, 333, 334, 335, 336, 337, 338, 339, 340, 341, 342, 854, 816, 817, 818, 182, 183, 184, 185, 195, 53, 54, 55, 262, 855, 643, 644, 645, 646, 647, 648, 649, 856, 685, 686, 687, 688, 689, 690, 691, 857, 704, 705, 706, 707, 858, 771, 772, 773, 778, 779, 859, 832, 833, 834, 835, 860, 861, 862, 863, 864, 865, 418, 419, 420, 25, 421, 422, 527, 453, 454, 455, 73, 893, 894, 895, 896, 897, 914, 915, 916, 917, 913, 918, 919] (by decide +kernel) (by decide +kernel)) (goodIn_sub (fun _ h => List.mem_append_left _ (List.mem_append_right _ h)) (by decide +kernel))) (goodIn_sub (fun _ h => List.mem_append_left _ (List.mem_append_left _ (List.mem_append_right _ h))) (by decide +kernel))
set_option maxRecDepth 20000 in
theorem gL_law_X3_digest : GoodIn wsL_law (wsV RL 189 RX3 yX3_digest wsX3_digest) := goodIn_app (goodIn_of _ (by decide +kernel)) ggL_law_X3_digest
set_option maxRecDepth 20000 in
theorem ggL_law_X4_digest : GoodIn wsL_law wsX4_digest := goodIn_r _ [869, 126, 870, 871, 431, 82, 744, 745, 746, 5, 747, 78, 141, 241, 242, 243, 244, 245, 246, 247, 248, 213, 214, 215, 216, 748, 749, 750, 751, 752, 753, 754, 755, 624, 625, 626, 627, 628, 629, 630, 631, 632, 633, 634, 616, 617, 618, 619, 620, 621, 622, 623, 872, 873, 874, 875, 876, 877, 878, 879, 880, 612, 613, 614, 615, 635, 636, 637, 638, 677, 678, 679, 680, 808, 809, 810, 811, 788, 789, 790, 791, 79, 351, 352, 353, 354, 355, 356, 357, 358, 359, 360, 361, 362, 363, 364, 365, 366, 367, 368, 369, 370, 371, 372, 373, 374, 375, 376, 377, 378, 379, 380, 381, 382, 383, 384, 385, 386, 387, 388, 389, 390, 391, 792, 793, 794, 795, 823, 824, 825, 826, 201, 202, 203, 204, 205, 206, 207, 208, 209, 210, 211, 212, 827, 828, 829, 830, 217, 218, 219, 220, 347, 348, 349, 350, 654, 655, 656, 657, 658, 659, 660, 661, 696, 697, 698, 699, 784, 785, 786, 787, 840, 841, 842, 843, 881, 882, 883, 884, 885, 886, 887, 888, 889, 890, 891, 892, 898, 899, 900, 901, 902, 903, 904, 905, 906, 907, 908, 909, 910, 911, 912] (by decide +kernel) (by decide +kernel)
set_option maxRecDepth 20000 in
theorem gL_law_X4_digest : GoodIn wsL_law (wsV RL 193 RX4 yX4_digest wsX4_digest) := goodIn_app (goodIn_of _ (by decide +kernel)) ggL_law_X4_digest
