set_option maxRecDepth 20000 in
theorem ggL_isSo_L_low : GoodIn wsL_isSo wsL_low := goodIn_r _ [4, 5] (by decide +kernel) (by decide +kernel)
set_option maxRecDepth 20000 in
theorem gL_isSo_L_low : GoodIn wsL_isSo (va_wsS RL 107 yL_low wsL_low) := goodIn_app (goodIn_of _ (by decide +kernel)) ggL_isSo_L_low
set_option maxRecDepth 20000 in
theorem ggL_isSo_L_bankOf : GoodIn wsL_isSo wsL_bankOf := goodIn_ca (goodIn_ca (goodIn_r _ [8, 9, 10, 11, 12, 13, 14, 15, 16, 17, 18, 19, 20, 21, 22, 23, 24, 25, 26, 27, 28, 29, 30, 31, 32, 33, 34, 35, 36, 37, 38, 39, 40, 41, 42, 43, 44, 45, 46, 47, 48, 49, 50, 51, 52, 53, 54, 189, 190, 191, 192, 193, 194] (by decide +kernel) (by decide +kernel)) (goodIn_sub (fun _ h => List.mem_cons_of_mem _ (List.mem_append_left _ (List.mem_append_right _ h))) (by decide +kernel))) (goodIn_sub (fun _ h => List.mem_cons_of_mem _ (List.mem_append_right _ h)) (by decide +kernel))
set_option maxRecDepth 20000 in
theorem gL_isSo_L_bankOf : GoodIn wsL_isSo (va_wsS RL 110 yL_bankOf wsL_bankOf) := goodIn_app (goodIn_of _ (by decide +kernel)) ggL_isSo_L_bankOf
set_option maxRecDepth 20000 in
theorem ggL_isSo_L_commons : GoodIn wsL_isSo wsL_commons := goodIn_r _ [57] (by decide +kernel) (by decide +kernel)
set_option maxRecDepth 20000 in
theorem gL_isSo_L_commons : GoodIn wsL_isSo (va_wsS RL 93 yL_commons wsL_commons) := goodIn_app (goodIn_of _ (by decide +kernel)) ggL_isSo_L_commons
set_option maxRecDepth 20000 in
theorem ggL_isSo_L_workers : GoodIn wsL_isSo wsL_workers := goodIn_r _ [60] (by decide +kernel) (by decide +kernel)
set_option maxRecDepth 20000 in
theorem gL_isSo_L_workers : GoodIn wsL_isSo (va_wsS RL 89 yL_workers wsL_workers) := goodIn_app (goodIn_of _ (by decide +kernel)) ggL_isSo_L_workers
set_option maxRecDepth 20000 in
theorem ggL_isSo_L_plot : GoodIn wsL_isSo wsL_plot := goodIn_ca (goodIn_ca (goodIn_r _ [63, 9, 10, 64, 65, 66, 14, 67, 16, 17, 18, 19, 20, 21, 22, 23, 24, 25, 26, 27, 28, 29, 68, 69, 70, 33, 71, 48, 49, 50, 35, 36, 37, 38, 39, 44, 45, 46, 47, 189, 190, 191, 192, 193, 194] (by decide +kernel) (by decide +kernel)) (goodIn_sub (fun _ h => List.mem_cons_of_mem _ (List.mem_append_left _ (List.mem_append_right _ h))) (by decide +kernel))) (goodIn_sub (fun _ h => List.mem_cons_of_mem _ (List.mem_append_right _ h)) (by decide +kernel))
set_option maxRecDepth 20000 in
theorem gL_isSo_L_plot : GoodIn wsL_isSo (va_wsS RL 112 yL_plot wsL_plot) := goodIn_app (goodIn_of _ (by decide +kernel)) ggL_isSo_L_plot
set_option maxRecDepth 20000 in
theorem ggL_isSo_L_whyNot : GoodIn wsL_isSo wsL_whyNot := goodIn_ca (goodIn_r _ [74, 9, 75, 76, 77, 14, 78, 16, 17, 18, 19, 20, 21, 79, 80, 81, 33, 82, 48, 49, 50, 35, 36, 37, 38, 39, 44, 45, 46, 47, 189, 190, 191, 192, 193, 194] (by decide +kernel) (by decide +kernel)) (goodIn_sub (fun _ h => List.mem_cons_of_mem _ (List.mem_append_left _ (List.mem_append_right _ h))) (by decide +kernel))
set_option maxRecDepth 20000 in
theorem gL_isSo_L_whyNot : GoodIn wsL_isSo (va_wsS RL 115 yL_whyNot wsL_whyNot) := goodIn_app (goodIn_of _ (by decide +kernel)) ggL_isSo_L_whyNot
set_option maxRecDepth 20000 in
theorem ggL_isSo_L_why : GoodIn wsL_isSo wsL_why := goodIn_r _ [85, 58, 59, 3, 60] (by decide +kernel) (by decide +kernel)
set_option maxRecDepth 20000 in
theorem gL_isSo_L_why : GoodIn wsL_isSo (va_wsS RL 117 yL_why wsL_why) := goodIn_app (goodIn_of _ (by decide +kernel)) ggL_isSo_L_why
set_option maxRecDepth 20000 in
theorem ggL_isSo_L_cutter : GoodIn wsL_isSo wsL_cutter := goodIn_ca (goodIn_ca (goodIn_r _ [88, 9, 10, 89, 90, 91, 14, 92, 16, 17, 18, 19, 20, 21, 22, 23, 24, 25, 26, 27, 28, 29, 93, 94, 95, 33, 96, 35, 36, 37, 38, 39, 189, 190, 191, 192, 193, 194] (by decide +kernel) (by decide +kernel)) (goodIn_sub (fun _ h => List.mem_cons_of_mem _ (List.mem_append_left _ (List.mem_append_right _ h))) (by decide +kernel))) (goodIn_sub (fun _ h => List.mem_cons_of_mem _ (List.mem_append_right _ h)) (by decide +kernel))
set_option maxRecDepth 20000 in
theorem gL_isSo_L_cutter : GoodIn wsL_isSo (va_wsS RL 121 yL_cutter wsL_cutter) := goodIn_app (goodIn_of _ (by decide +kernel)) ggL_isSo_L_cutter
set_option maxRecDepth 20000 in
theorem ggL_isSo_L_rain : GoodIn wsL_isSo wsL_rain := goodIn_ca (goodIn_r _ [99, 10, 100, 101, 102, 14, 103, 16, 25, 26, 27, 28, 29, 104, 105, 106, 33, 107, 108, 109, 110, 111, 35, 36, 37, 38, 39, 189, 190, 191, 192, 193, 194] (by decide +kernel) (by decide +kernel)) (goodIn_sub (fun _ h => List.mem_cons_of_mem _ (List.mem_append_right _ h)) (by decide +kernel))
set_option maxRecDepth 20000 in
theorem gL_isSo_L_rain : GoodIn wsL_isSo (va_wsS RL 123 yL_rain wsL_rain) := goodIn_app (goodIn_of _ (by decide +kernel)) ggL_isSo_L_rain
set_option maxRecDepth 20000 in
theorem ggL_isSo_L_isHearth : GoodIn wsL_isSo wsL_isHearth := goodIn_ca (goodIn_ca (goodIn_r _ [114, 115, 116, 3, 117, 9, 10, 118, 119, 120, 14, 121, 16, 17, 18, 19, 20, 21, 22, 23, 24, 25, 26, 27, 28, 29, 122, 123, 124, 33, 125, 35, 36, 37, 38, 39, 48, 49, 50, 51, 52, 53, 54, 126, 127, 128, 129, 130, 131, 132, 133, 134, 135, 136, 137, 138, 139, 140, 141, 189, 190, 191, 192, 193, 194] (by decide +kernel) (by decide +kernel)) (goodIn_sub (fun _ h => List.mem_cons_of_mem _ (List.mem_append_left _ (List.mem_append_right _ h))) (by decide +kernel))) (goodIn_sub (fun _ h => List.mem_cons_of_mem _ (List.mem_append_right _ h)) (by decide +kernel))
set_option maxRecDepth 20000 in
theorem gL_isSo_L_isHearth : GoodIn wsL_isSo (va_wsS RL 125 yL_isHearth wsL_isHearth) := goodIn_app (goodIn_of _ (by decide +kernel)) ggL_isSo_L_isHearth
set_option maxRecDepth 20000 in
theorem ggL_isSo_L_areCounts : GoodIn wsL_isSo wsL_areCounts := goodIn_ca (goodIn_ca (goodIn_r _ [144, 115, 116, 3, 117, 9, 10, 118, 119, 120, 14, 121, 16, 17, 18, 19, 20, 21, 22, 23, 24, 25, 26, 27, 28, 29, 122, 123, 124, 33, 125, 35, 36, 37, 38, 39, 48, 49, 50, 51, 52, 53, 54, 126, 127, 128, 129, 130, 131, 132, 133, 134, 135, 136, 137, 138, 139, 140, 141, 145, 146, 147, 148, 149, 150, 151, 152, 153, 154, 155, 156, 157, 158, 159, 160, 161, 162, 163, 164, 165, 166, 40, 41, 42, 43, 44, 45, 46, 47, 167, 168, 169, 170, 171, 172, 173, 174, 175, 176, 177, 178, 179, 180, 181, 182, 58, 59, 60, 183, 184, 185, 186, 187, 188, 189, 190, 191, 192, 193, 194, 195, 196, 197, 198] (by decide +kernel) (by decide +kernel)) (goodIn_sub (fun _ h => List.mem_cons_of_mem _ (List.mem_append_left _ (List.mem_append_right _ h))) (by decide +kernel))) (goodIn_sub (fun _ h => List.mem_cons_of_mem _ (List.mem_append_right _ h)) (by decide +kernel))
set_option maxRecDepth 20000 in
theorem gL_isSo_L_areCounts : GoodIn wsL_isSo (va_wsS RL 129 yL_areCounts wsL_areCounts) := goodIn_app (goodIn_of _ (by decide +kernel)) ggL_isSo_L_areCounts
theorem dL_isSo_0 : decode cL_isSo 0 = .ok (.iload_n 1, 1) := by decide +kernel
theorem dL_isSo_1 : decode cL_isSo 1 = .ok (.iconst 4, 1) := by decide +kernel
theorem dL_isSo_2 : decode cL_isSo 2 = .ok (.invokestatic 107, 3) := by decide +kernel
theorem dL_isSo_5 : decode cL_isSo 5 = .ok (.istore 9, 2) := by decide +kernel
theorem dL_isSo_7 : decode cL_isSo 7 = .ok (.iload_n 1, 1) := by decide +kernel
theorem dL_isSo_8 : decode cL_isSo 8 = .ok (.iconst 2, 1) := by decide +kernel
theorem dL_isSo_9 : decode cL_isSo 9 = .ok (.ishr, 1) := by decide +kernel
theorem dL_isSo_10 : decode cL_isSo 10 = .ok (.iconst 5, 1) := by decide +kernel
theorem dL_isSo_11 : decode cL_isSo 11 = .ok (.invokestatic 107, 3) := by decide +kernel
theorem dL_isSo_14 : decode cL_isSo 14 = .ok (.istore 10, 2) := by decide +kernel
theorem dL_isSo_16 : decode cL_isSo 16 = .ok (.iload_n 1, 1) := by decide +kernel
theorem dL_isSo_17 : decode cL_isSo 17 = .ok (.iconst 5, 1) := by decide +kernel
theorem dL_isSo_18 : decode cL_isSo 18 = .ok (.ishr, 1) := by decide +kernel
theorem dL_isSo_19 : decode cL_isSo 19 = .ok (.bipush 6, 2) := by decide +kernel
theorem dL_isSo_21 : decode cL_isSo 21 = .ok (.invokestatic 107, 3) := by decide +kernel
theorem dL_isSo_24 : decode cL_isSo 24 = .ok (.istore 11, 2) := by decide +kernel
theorem dL_isSo_26 : decode cL_isSo 26 = .ok (.iconst 0, 1) := by decide +kernel
theorem dL_isSo_27 : decode cL_isSo 27 = .ok (.istore 12, 2) := by decide +kernel
theorem dL_isSo_29 : decode cL_isSo 29 = .ok (.iconst 0, 1) := by decide +kernel
theorem dL_isSo_30 : decode cL_isSo 30 = .ok (.istore 13, 2) := by decide +kernel
theorem dL_isSo_32 : decode cL_isSo 32 = .ok (.iload 13, 2) := by decide +kernel
theorem dL_isSo_34 : decode cL_isSo 34 = .ok (.iconst 5, 1) := by decide +kernel
theorem dL_isSo_35 : decode cL_isSo 35 = .ok (.if_icmp .ge 46, 3) := by decide +kernel
theorem dL_isSo_38 : decode cL_isSo 38 = .ok (.iload 12, 2) := by decide +kernel
theorem dL_isSo_40 : decode cL_isSo 40 = .ok (.aload 5, 2) := by decide +kernel
theorem dL_isSo_42 : decode cL_isSo 42 = .ok (.iconst 4, 1) := by decide +kernel
theorem dL_isSo_43 : decode cL_isSo 43 = .ok (.iload 13, 2) := by decide +kernel
theorem dL_isSo_45 : decode cL_isSo 45 = .ok (.imul, 1) := by decide +kernel
theorem dL_isSo_46 : decode cL_isSo 46 = .ok (.iload 9, 2) := by decide +kernel
theorem dL_isSo_48 : decode cL_isSo 48 = .ok (.iadd, 1) := by decide +kernel
theorem dL_isSo_49 : decode cL_isSo 49 = .ok (.iaload, 1) := by decide +kernel
theorem dL_isSo_50 : decode cL_isSo 50 = .ok (.aload 6, 2) := by decide +kernel
theorem dL_isSo_52 : decode cL_isSo 52 = .ok (.iconst 4, 1) := by decide +kernel
theorem dL_isSo_53 : decode cL_isSo 53 = .ok (.iload 13, 2) := by decide +kernel
theorem dL_isSo_55 : decode cL_isSo 55 = .ok (.imul, 1) := by decide +kernel
theorem dL_isSo_56 : decode cL_isSo 56 = .ok (.iload 9, 2) := by decide +kernel
theorem dL_isSo_58 : decode cL_isSo 58 = .ok (.iadd, 1) := by decide +kernel
theorem dL_isSo_59 : decode cL_isSo 59 = .ok (.iaload, 1) := by decide +kernel
theorem dL_isSo_60 : decode cL_isSo 60 = .ok (.iadd, 1) := by decide +kernel
theorem dL_isSo_61 : decode cL_isSo 61 = .ok (.aload 7, 2) := by decide +kernel
theorem dL_isSo_63 : decode cL_isSo 63 = .ok (.iconst 4, 1) := by decide +kernel
theorem dL_isSo_64 : decode cL_isSo 64 = .ok (.iload 13, 2) := by decide +kernel
theorem dL_isSo_66 : decode cL_isSo 66 = .ok (.imul, 1) := by decide +kernel
theorem dL_isSo_67 : decode cL_isSo 67 = .ok (.iload 9, 2) := by decide +kernel
theorem dL_isSo_69 : decode cL_isSo 69 = .ok (.iadd, 1) := by decide +kernel
theorem dL_isSo_70 : decode cL_isSo 70 = .ok (.iaload, 1) := by decide +kernel
theorem dL_isSo_71 : decode cL_isSo 71 = .ok (.iadd, 1) := by decide +kernel
theorem dL_isSo_72 : decode cL_isSo 72 = .ok (.iadd, 1) := by decide +kernel
theorem dL_isSo_73 : decode cL_isSo 73 = .ok (.istore 12, 2) := by decide +kernel
theorem dL_isSo_75 : decode cL_isSo 75 = .ok (.iinc 13 1, 3) := by decide +kernel
theorem dL_isSo_78 : decode cL_isSo 78 = .ok (.goto (-46), 3) := by decide +kernel
theorem dL_isSo_81 : decode cL_isSo 81 = .ok (.aload_n 0, 1) := by decide +kernel
theorem dL_isSo_82 : decode cL_isSo 82 = .ok (.iload 9, 2) := by decide +kernel
theorem dL_isSo_84 : decode cL_isSo 84 = .ok (.iconst 0, 1) := by decide +kernel
theorem dL_isSo_85 : decode cL_isSo 85 = .ok (.invokestatic 110, 3) := by decide +kernel
theorem dL_isSo_88 : decode cL_isSo 88 = .ok (.aload_n 2, 1) := by decide +kernel
theorem dL_isSo_89 : decode cL_isSo 89 = .ok (.iconst 5, 1) := by decide +kernel
theorem dL_isSo_90 : decode cL_isSo 90 = .ok (.iload 9, 2) := by decide +kernel
theorem dL_isSo_92 : decode cL_isSo 92 = .ok (.iadd, 1) := by decide +kernel
theorem dL_isSo_93 : decode cL_isSo 93 = .ok (.iaload, 1) := by decide +kernel
theorem dL_isSo_94 : decode cL_isSo 94 = .ok (.if_icmp .ne 71, 3) := by decide +kernel
theorem dL_isSo_97 : decode cL_isSo 97 = .ok (.aload_n 0, 1) := by decide +kernel
theorem dL_isSo_98 : decode cL_isSo 98 = .ok (.iload 9, 2) := by decide +kernel
theorem dL_isSo_100 : decode cL_isSo 100 = .ok (.iconst 1, 1) := by decide +kernel
theorem dL_isSo_101 : decode cL_isSo 101 = .ok (.invokestatic 110, 3) := by decide +kernel
theorem dL_isSo_104 : decode cL_isSo 104 = .ok (.aload_n 2, 1) := by decide +kernel
theorem dL_isSo_105 : decode cL_isSo 105 = .ok (.bipush 9, 2) := by decide +kernel
theorem dL_isSo_107 : decode cL_isSo 107 = .ok (.iload 9, 2) := by decide +kernel
theorem dL_isSo_109 : decode cL_isSo 109 = .ok (.iadd, 1) := by decide +kernel
theorem dL_isSo_110 : decode cL_isSo 110 = .ok (.iaload, 1) := by decide +kernel
theorem dL_isSo_111 : decode cL_isSo 111 = .ok (.if_icmp .ne 54, 3) := by decide +kernel
theorem dL_isSo_114 : decode cL_isSo 114 = .ok (.aload_n 0, 1) := by decide +kernel
theorem dL_isSo_115 : decode cL_isSo 115 = .ok (.iload 9, 2) := by decide +kernel
theorem dL_isSo_117 : decode cL_isSo 117 = .ok (.iconst 2, 1) := by decide +kernel
theorem dL_isSo_118 : decode cL_isSo 118 = .ok (.invokestatic 110, 3) := by decide +kernel
theorem dL_isSo_121 : decode cL_isSo 121 = .ok (.iload 9, 2) := by decide +kernel
theorem dL_isSo_123 : decode cL_isSo 123 = .ok (.aload 4, 2) := by decide +kernel
theorem dL_isSo_125 : decode cL_isSo 125 = .ok (.invokestatic 93, 3) := by decide +kernel
theorem dL_isSo_128 : decode cL_isSo 128 = .ok (.if_icmp .ne 37, 3) := by decide +kernel
theorem dL_isSo_131 : decode cL_isSo 131 = .ok (.aload_n 0, 1) := by decide +kernel
theorem dL_isSo_132 : decode cL_isSo 132 = .ok (.iload 9, 2) := by decide +kernel
theorem dL_isSo_134 : decode cL_isSo 134 = .ok (.iconst 3, 1) := by decide +kernel
theorem dL_isSo_135 : decode cL_isSo 135 = .ok (.invokestatic 110, 3) := by decide +kernel
theorem dL_isSo_138 : decode cL_isSo 138 = .ok (.iconst (-1), 1) := by decide +kernel
theorem dL_isSo_139 : decode cL_isSo 139 = .ok (.iload 9, 2) := by decide +kernel
theorem dL_isSo_141 : decode cL_isSo 141 = .ok (.aload 8, 2) := by decide +kernel
theorem dL_isSo_143 : decode cL_isSo 143 = .ok (.invokestatic 89, 3) := by decide +kernel
theorem dL_isSo_146 : decode cL_isSo 146 = .ok (.if_icmp .ne 19, 3) := by decide +kernel
theorem dL_isSo_149 : decode cL_isSo 149 = .ok (.aload_n 0, 1) := by decide +kernel
theorem dL_isSo_150 : decode cL_isSo 150 = .ok (.iload 9, 2) := by decide +kernel
theorem dL_isSo_152 : decode cL_isSo 152 = .ok (.iconst 4, 1) := by decide +kernel
theorem dL_isSo_153 : decode cL_isSo 153 = .ok (.invokestatic 110, 3) := by decide +kernel
theorem dL_isSo_156 : decode cL_isSo 156 = .ok (.iload 12, 2) := by decide +kernel
theorem dL_isSo_158 : decode cL_isSo 158 = .ok (.if_icmp .ne 7, 3) := by decide +kernel
theorem dL_isSo_161 : decode cL_isSo 161 = .ok (.iconst 1, 1) := by decide +kernel
theorem dL_isSo_162 : decode cL_isSo 162 = .ok (.goto 4, 3) := by decide +kernel
theorem dL_isSo_165 : decode cL_isSo 165 = .ok (.iconst 0, 1) := by decide +kernel
theorem dL_isSo_166 : decode cL_isSo 166 = .ok (.istore 13, 2) := by decide +kernel
theorem dL_isSo_168 : decode cL_isSo 168 = .ok (.iload 13, 2) := by decide +kernel
theorem dL_isSo_170 : decode cL_isSo 170 = .ok (.ifCond .eq 141, 3) := by decide +kernel
theorem dL_isSo_173 : decode cL_isSo 173 = .ok (.aload_n 0, 1) := by decide +kernel
theorem dL_isSo_174 : decode cL_isSo 174 = .ok (.iload 10, 2) := by decide +kernel
theorem dL_isSo_176 : decode cL_isSo 176 = .ok (.iload 9, 2) := by decide +kernel
theorem dL_isSo_178 : decode cL_isSo 178 = .ok (.iconst 0, 1) := by decide +kernel
theorem dL_isSo_179 : decode cL_isSo 179 = .ok (.invokestatic 112, 3) := by decide +kernel
theorem dL_isSo_182 : decode cL_isSo 182 = .ok (.aload 4, 2) := by decide +kernel
theorem dL_isSo_184 : decode cL_isSo 184 = .ok (.iconst 4, 1) := by decide +kernel
theorem dL_isSo_185 : decode cL_isSo 185 = .ok (.iload 10, 2) := by decide +kernel
theorem dL_isSo_187 : decode cL_isSo 187 = .ok (.imul, 1) := by decide +kernel
theorem dL_isSo_188 : decode cL_isSo 188 = .ok (.iload 9, 2) := by decide +kernel
theorem dL_isSo_190 : decode cL_isSo 190 = .ok (.iadd, 1) := by decide +kernel
theorem dL_isSo_191 : decode cL_isSo 191 = .ok (.iaload, 1) := by decide +kernel
theorem dL_isSo_192 : decode cL_isSo 192 = .ok (.if_icmp .ne 119, 3) := by decide +kernel
theorem dL_isSo_195 : decode cL_isSo 195 = .ok (.aload_n 0, 1) := by decide +kernel
theorem dL_isSo_196 : decode cL_isSo 196 = .ok (.iload 10, 2) := by decide +kernel
theorem dL_isSo_198 : decode cL_isSo 198 = .ok (.iload 9, 2) := by decide +kernel
theorem dL_isSo_200 : decode cL_isSo 200 = .ok (.iconst 1, 1) := by decide +kernel
theorem dL_isSo_201 : decode cL_isSo 201 = .ok (.invokestatic 112, 3) := by decide +kernel
theorem dL_isSo_204 : decode cL_isSo 204 = .ok (.aload 5, 2) := by decide +kernel
theorem dL_isSo_206 : decode cL_isSo 206 = .ok (.iconst 4, 1) := by decide +kernel
theorem dL_isSo_207 : decode cL_isSo 207 = .ok (.iload 10, 2) := by decide +kernel
theorem dL_isSo_209 : decode cL_isSo 209 = .ok (.imul, 1) := by decide +kernel
theorem dL_isSo_210 : decode cL_isSo 210 = .ok (.iload 9, 2) := by decide +kernel
theorem dL_isSo_212 : decode cL_isSo 212 = .ok (.iadd, 1) := by decide +kernel
theorem dL_isSo_213 : decode cL_isSo 213 = .ok (.iaload, 1) := by decide +kernel
theorem dL_isSo_214 : decode cL_isSo 214 = .ok (.if_icmp .ne 97, 3) := by decide +kernel
theorem dL_isSo_217 : decode cL_isSo 217 = .ok (.aload_n 0, 1) := by decide +kernel
theorem dL_isSo_218 : decode cL_isSo 218 = .ok (.iload 10, 2) := by decide +kernel
theorem dL_isSo_220 : decode cL_isSo 220 = .ok (.iload 9, 2) := by decide +kernel
theorem dL_isSo_222 : decode cL_isSo 222 = .ok (.iconst 2, 1) := by decide +kernel
theorem dL_isSo_223 : decode cL_isSo 223 = .ok (.invokestatic 112, 3) := by decide +kernel
theorem dL_isSo_226 : decode cL_isSo 226 = .ok (.aload 6, 2) := by decide +kernel
theorem dL_isSo_228 : decode cL_isSo 228 = .ok (.iconst 4, 1) := by decide +kernel
theorem dL_isSo_229 : decode cL_isSo 229 = .ok (.iload 10, 2) := by decide +kernel
theorem dL_isSo_231 : decode cL_isSo 231 = .ok (.imul, 1) := by decide +kernel
theorem dL_isSo_232 : decode cL_isSo 232 = .ok (.iload 9, 2) := by decide +kernel
theorem dL_isSo_234 : decode cL_isSo 234 = .ok (.iadd, 1) := by decide +kernel
theorem dL_isSo_235 : decode cL_isSo 235 = .ok (.iaload, 1) := by decide +kernel
theorem dL_isSo_236 : decode cL_isSo 236 = .ok (.if_icmp .ne 75, 3) := by decide +kernel
theorem dL_isSo_239 : decode cL_isSo 239 = .ok (.aload_n 0, 1) := by decide +kernel
theorem dL_isSo_240 : decode cL_isSo 240 = .ok (.iload 10, 2) := by decide +kernel
theorem dL_isSo_242 : decode cL_isSo 242 = .ok (.iload 9, 2) := by decide +kernel
theorem dL_isSo_244 : decode cL_isSo 244 = .ok (.iconst 3, 1) := by decide +kernel
theorem dL_isSo_245 : decode cL_isSo 245 = .ok (.invokestatic 112, 3) := by decide +kernel
theorem dL_isSo_248 : decode cL_isSo 248 = .ok (.aload 7, 2) := by decide +kernel
theorem dL_isSo_250 : decode cL_isSo 250 = .ok (.iconst 4, 1) := by decide +kernel
theorem dL_isSo_251 : decode cL_isSo 251 = .ok (.iload 10, 2) := by decide +kernel
theorem dL_isSo_253 : decode cL_isSo 253 = .ok (.imul, 1) := by decide +kernel
theorem dL_isSo_254 : decode cL_isSo 254 = .ok (.iload 9, 2) := by decide +kernel
theorem dL_isSo_256 : decode cL_isSo 256 = .ok (.iadd, 1) := by decide +kernel
theorem dL_isSo_257 : decode cL_isSo 257 = .ok (.iaload, 1) := by decide +kernel
theorem dL_isSo_258 : decode cL_isSo 258 = .ok (.if_icmp .ne 53, 3) := by decide +kernel
theorem dL_isSo_261 : decode cL_isSo 261 = .ok (.aload_n 0, 1) := by decide +kernel
theorem dL_isSo_262 : decode cL_isSo 262 = .ok (.iload 10, 2) := by decide +kernel
theorem dL_isSo_264 : decode cL_isSo 264 = .ok (.iload 9, 2) := by decide +kernel
theorem dL_isSo_266 : decode cL_isSo 266 = .ok (.iconst 4, 1) := by decide +kernel
theorem dL_isSo_267 : decode cL_isSo 267 = .ok (.invokestatic 112, 3) := by decide +kernel
theorem dL_isSo_270 : decode cL_isSo 270 = .ok (.iload 10, 2) := by decide +kernel
theorem dL_isSo_272 : decode cL_isSo 272 = .ok (.iload 9, 2) := by decide +kernel
theorem dL_isSo_274 : decode cL_isSo 274 = .ok (.aload 8, 2) := by decide +kernel
theorem dL_isSo_276 : decode cL_isSo 276 = .ok (.invokestatic 89, 3) := by decide +kernel
theorem dL_isSo_279 : decode cL_isSo 279 = .ok (.if_icmp .ne 32, 3) := by decide +kernel
theorem dL_isSo_282 : decode cL_isSo 282 = .ok (.aload_n 0, 1) := by decide +kernel
theorem dL_isSo_283 : decode cL_isSo 283 = .ok (.iload 11, 2) := by decide +kernel
theorem dL_isSo_285 : decode cL_isSo 285 = .ok (.iload 10, 2) := by decide +kernel
theorem dL_isSo_287 : decode cL_isSo 287 = .ok (.iload 9, 2) := by decide +kernel
theorem dL_isSo_289 : decode cL_isSo 289 = .ok (.invokestatic 115, 3) := by decide +kernel
theorem dL_isSo_292 : decode cL_isSo 292 = .ok (.iload 10, 2) := by decide +kernel
theorem dL_isSo_294 : decode cL_isSo 294 = .ok (.iload 9, 2) := by decide +kernel
theorem dL_isSo_296 : decode cL_isSo 296 = .ok (.aload_n 2, 1) := by decide +kernel
theorem dL_isSo_297 : decode cL_isSo 297 = .ok (.aload 4, 2) := by decide +kernel
theorem dL_isSo_299 : decode cL_isSo 299 = .ok (.aload 8, 2) := by decide +kernel
theorem dL_isSo_301 : decode cL_isSo 301 = .ok (.invokestatic 117, 3) := by decide +kernel
theorem dL_isSo_304 : decode cL_isSo 304 = .ok (.if_icmp .ne 7, 3) := by decide +kernel
theorem dL_isSo_307 : decode cL_isSo 307 = .ok (.iconst 1, 1) := by decide +kernel
theorem dL_isSo_308 : decode cL_isSo 308 = .ok (.goto 4, 3) := by decide +kernel
theorem dL_isSo_311 : decode cL_isSo 311 = .ok (.iconst 0, 1) := by decide +kernel
theorem dL_isSo_312 : decode cL_isSo 312 = .ok (.istore 13, 2) := by decide +kernel
theorem dL_isSo_314 : decode cL_isSo 314 = .ok (.iconst 0, 1) := by decide +kernel
theorem dL_isSo_315 : decode cL_isSo 315 = .ok (.istore 14, 2) := by decide +kernel
theorem dL_isSo_317 : decode cL_isSo 317 = .ok (.iload 14, 2) := by decide +kernel
theorem dL_isSo_319 : decode cL_isSo 319 = .ok (.iconst 4, 1) := by decide +kernel
theorem dL_isSo_320 : decode cL_isSo 320 = .ok (.if_icmp .ge 42, 3) := by decide +kernel
theorem dL_isSo_323 : decode cL_isSo 323 = .ok (.iload 13, 2) := by decide +kernel
theorem dL_isSo_325 : decode cL_isSo 325 = .ok (.ifCond .eq 28, 3) := by decide +kernel
theorem dL_isSo_328 : decode cL_isSo 328 = .ok (.aload_n 0, 1) := by decide +kernel
theorem dL_isSo_329 : decode cL_isSo 329 = .ok (.iload 11, 2) := by decide +kernel
theorem dL_isSo_331 : decode cL_isSo 331 = .ok (.iload 14, 2) := by decide +kernel
theorem dL_isSo_333 : decode cL_isSo 333 = .ok (.invokestatic 121, 3) := by decide +kernel
theorem dL_isSo_336 : decode cL_isSo 336 = .ok (.aload 8, 2) := by decide +kernel
theorem dL_isSo_338 : decode cL_isSo 338 = .ok (.iconst 4, 1) := by decide +kernel
theorem dL_isSo_339 : decode cL_isSo 339 = .ok (.iload 11, 2) := by decide +kernel
theorem dL_isSo_341 : decode cL_isSo 341 = .ok (.imul, 1) := by decide +kernel
theorem dL_isSo_342 : decode cL_isSo 342 = .ok (.iload 14, 2) := by decide +kernel
theorem dL_isSo_344 : decode cL_isSo 344 = .ok (.iadd, 1) := by decide +kernel
theorem dL_isSo_345 : decode cL_isSo 345 = .ok (.iaload, 1) := by decide +kernel
theorem dL_isSo_346 : decode cL_isSo 346 = .ok (.if_icmp .ne 7, 3) := by decide +kernel
theorem dL_isSo_349 : decode cL_isSo 349 = .ok (.iconst 1, 1) := by decide +kernel
theorem dL_isSo_350 : decode cL_isSo 350 = .ok (.goto 4, 3) := by decide +kernel
theorem dL_isSo_353 : decode cL_isSo 353 = .ok (.iconst 0, 1) := by decide +kernel
theorem dL_isSo_354 : decode cL_isSo 354 = .ok (.istore 13, 2) := by decide +kernel
theorem dL_isSo_356 : decode cL_isSo 356 = .ok (.iinc 14 1, 3) := by decide +kernel
theorem dL_isSo_359 : decode cL_isSo 359 = .ok (.goto (-42), 3) := by decide +kernel
theorem dL_isSo_362 : decode cL_isSo 362 = .ok (.iload_n 1, 1) := by decide +kernel
theorem dL_isSo_363 : decode cL_isSo 363 = .ok (.bipush 8, 2) := by decide +kernel
theorem dL_isSo_365 : decode cL_isSo 365 = .ok (.ishr, 1) := by decide +kernel
theorem dL_isSo_366 : decode cL_isSo 366 = .ok (.sipush 1000, 3) := by decide +kernel
theorem dL_isSo_369 : decode cL_isSo 369 = .ok (.invokestatic 107, 3) := by decide +kernel
theorem dL_isSo_372 : decode cL_isSo 372 = .ok (.istore 14, 2) := by decide +kernel
theorem dL_isSo_374 : decode cL_isSo 374 = .ok (.iload 13, 2) := by decide +kernel
theorem dL_isSo_376 : decode cL_isSo 376 = .ok (.ifCond .eq 61, 3) := by decide +kernel
theorem dL_isSo_379 : decode cL_isSo 379 = .ok (.aload_n 0, 1) := by decide +kernel
theorem dL_isSo_380 : decode cL_isSo 380 = .ok (.iload 14, 2) := by decide +kernel
theorem dL_isSo_382 : decode cL_isSo 382 = .ok (.invokestatic 123, 3) := by decide +kernel
theorem dL_isSo_385 : decode cL_isSo 385 = .ok (.bipush 7, 2) := by decide +kernel
theorem dL_isSo_387 : decode cL_isSo 387 = .ok (.iload 14, 2) := by decide +kernel
theorem dL_isSo_389 : decode cL_isSo 389 = .ok (.imul, 1) := by decide +kernel
theorem dL_isSo_390 : decode cL_isSo 390 = .ok (.aload_n 2, 1) := by decide +kernel
theorem dL_isSo_391 : decode cL_isSo 391 = .ok (.iconst 2, 1) := by decide +kernel
theorem dL_isSo_392 : decode cL_isSo 392 = .ok (.iaload, 1) := by decide +kernel
theorem dL_isSo_393 : decode cL_isSo 393 = .ok (.iadd, 1) := by decide +kernel
theorem dL_isSo_394 : decode cL_isSo 394 = .ok (.bipush 10, 2) := by decide +kernel
theorem dL_isSo_396 : decode cL_isSo 396 = .ok (.irem, 1) := by decide +kernel
theorem dL_isSo_397 : decode cL_isSo 397 = .ok (.if_icmp .ne 40, 3) := by decide +kernel
theorem dL_isSo_400 : decode cL_isSo 400 = .ok (.aload_n 0, 1) := by decide +kernel
theorem dL_isSo_401 : decode cL_isSo 401 = .ok (.iload 10, 2) := by decide +kernel
theorem dL_isSo_403 : decode cL_isSo 403 = .ok (.aload_n 3, 1) := by decide +kernel
theorem dL_isSo_404 : decode cL_isSo 404 = .ok (.aload 5, 2) := by decide +kernel
theorem dL_isSo_406 : decode cL_isSo 406 = .ok (.aload 6, 2) := by decide +kernel
theorem dL_isSo_408 : decode cL_isSo 408 = .ok (.aload 7, 2) := by decide +kernel
theorem dL_isSo_410 : decode cL_isSo 410 = .ok (.invokestatic 125, 3) := by decide +kernel
theorem dL_isSo_413 : decode cL_isSo 413 = .ok (.ifCond .eq 24, 3) := by decide +kernel
theorem dL_isSo_416 : decode cL_isSo 416 = .ok (.aload_n 0, 1) := by decide +kernel
theorem dL_isSo_417 : decode cL_isSo 417 = .ok (.aload_n 2, 1) := by decide +kernel
theorem dL_isSo_418 : decode cL_isSo 418 = .ok (.aload_n 3, 1) := by decide +kernel
theorem dL_isSo_419 : decode cL_isSo 419 = .ok (.aload 5, 2) := by decide +kernel
theorem dL_isSo_421 : decode cL_isSo 421 = .ok (.aload 6, 2) := by decide +kernel
theorem dL_isSo_423 : decode cL_isSo 423 = .ok (.aload 7, 2) := by decide +kernel
theorem dL_isSo_425 : decode cL_isSo 425 = .ok (.aload 8, 2) := by decide +kernel
theorem dL_isSo_427 : decode cL_isSo 427 = .ok (.invokestatic 129, 3) := by decide +kernel
theorem dL_isSo_430 : decode cL_isSo 430 = .ok (.ifCond .eq 7, 3) := by decide +kernel
theorem dL_isSo_433 : decode cL_isSo 433 = .ok (.iconst 1, 1) := by decide +kernel
theorem dL_isSo_434 : decode cL_isSo 434 = .ok (.goto 4, 3) := by decide +kernel
theorem dL_isSo_437 : decode cL_isSo 437 = .ok (.iconst 0, 1) := by decide +kernel
theorem dL_isSo_438 : decode cL_isSo 438 = .ok (.ireturn, 1) := by decide +kernel
set_option maxRecDepth 20000 in
theorem ggL_told_L_count : GoodIn wsL_told wsL_count := goodIn_ca (goodIn_r _ [6, 7, 8, 9, 10, 11, 12, 13, 14, 15, 16, 17, 18, 19, 20, 21, 22, 23, 24, 25, 26, 27, 28, 29, 30, 31, 32, 33, 34, 35, 36, 37, 38, 39, 40, 41, 42, 43, 44, 45, 46, 47, 48, 49, 50, 51, 52, 53, 54, 55, 56, 57, 58, 59, 60, 61, 62, 63, 64, 65, 66, 67, 68, 69, 70, 71, 72, 73, 74, 75, 76, 77, 78, 79, 80, 81, 82, 83, 84, 85, 140, 141, 142, 143, 144, 145, 146, 147, 148, 149] (by decide +kernel) (by decide +kernel)) (goodIn_sub (fun _ h => List.mem_cons_of_mem _ (List.mem_append_left _ (List.mem_append_right _ h))) (by decide +kernel))
set_option maxRecDepth 20000 in
theorem gL_told_L_count : GoodIn wsL_told (va_wsS RL 100 yL_count wsL_count) := goodIn_app (goodIn_of _ (by decide +kernel)) ggL_told_L_count
set_option maxRecDepth 20000 in
theorem ggL_told_L_plot : GoodIn wsL_told wsL_plot := goodIn_ca (goodIn_ca (goodIn_r _ [88, 89, 7, 90, 91, 92, 11, 93, 14, 94, 95, 96, 97, 98, 15, 16, 17, 18, 19, 20, 21, 22, 99, 100, 101, 32, 102, 83, 84, 85, 34, 35, 36, 37, 38, 47, 48, 49, 50, 140, 141, 142, 143, 144, 149] (by decide +kernel) (by decide +kernel)) (goodIn_sub (fun _ h => List.mem_cons_of_mem _ (List.mem_append_right _ h)) (by decide +kernel))) (goodIn_sub (fun _ h => List.mem_cons_of_mem _ (List.mem_append_left _ (List.mem_append_right _ h))) (by decide +kernel))
set_option maxRecDepth 20000 in
theorem gL_told_L_plot : GoodIn wsL_told (va_wsS RL 112 yL_plot wsL_plot) := goodIn_app (goodIn_of _ (by decide +kernel)) ggL_told_L_plot
set_option maxRecDepth 20000 in
theorem ggL_told_L_hearthOf : GoodIn wsL_told wsL_hearthOf := goodIn_ca (goodIn_ca (goodIn_r _ [105, 89, 7, 106, 107, 108, 11, 109, 14, 94, 95, 96, 97, 98, 15, 16, 17, 18, 19, 20, 21, 22, 110, 111, 112, 32, 113, 34, 35, 36, 37, 38, 83, 84, 85, 59, 60, 61, 62, 67, 68, 69, 70, 71, 72, 73, 74, 79, 80, 81, 82, 114, 115, 116, 117, 140, 141, 142, 143, 144, 149] (by decide +kernel) (by decide +kernel)) (goodIn_sub (fun _ h => List.mem_cons_of_mem _ (List.mem_append_right _ h)) (by decide +kernel))) (goodIn_sub (fun _ h => List.mem_cons_of_mem _ (List.mem_append_left _ (List.mem_append_right _ h))) (by decide +kernel))
set_option maxRecDepth 20000 in
theorem gL_told_L_hearthOf : GoodIn wsL_told (va_wsS RL 97 yL_hearthOf wsL_hearthOf) := goodIn_app (goodIn_of _ (by decide +kernel)) ggL_told_L_hearthOf
set_option maxRecDepth 20000 in
theorem ggL_told_L_cutter : GoodIn wsL_told wsL_cutter := goodIn_ca (goodIn_ca (goodIn_r _ [120, 89, 7, 121, 122, 123, 11, 124, 14, 94, 95, 96, 97, 98, 15, 16, 17, 18, 19, 20, 21, 22, 125, 126, 127, 32, 128, 34, 35, 36, 37, 38, 140, 141, 142, 143, 144, 149] (by decide +kernel) (by decide +kernel)) (goodIn_sub (fun _ h => List.mem_cons_of_mem _ (List.mem_append_right _ h)) (by decide +kernel))) (goodIn_sub (fun _ h => List.mem_cons_of_mem _ (List.mem_append_left _ (List.mem_append_right _ h))) (by decide +kernel))
set_option maxRecDepth 20000 in
theorem gL_told_L_cutter : GoodIn wsL_told (va_wsS RL 121 yL_cutter wsL_cutter) := goodIn_app (goodIn_of _ (by decide +kernel)) ggL_told_L_cutter
set_option maxRecDepth 20000 in
theorem ggL_told_L_bankOf : GoodIn wsL_told wsL_bankOf := goodIn_ca (goodIn_ca (goodIn_r _ [131, 89, 7, 132, 133, 134, 11, 135, 14, 94, 95, 96, 97, 98, 15, 16, 17, 18, 19, 20, 21, 22, 136, 137, 138, 32, 139, 34, 35, 36, 37, 38, 43, 44, 45, 46, 47, 48, 49, 50, 83, 84, 85, 59, 60, 61, 62, 140, 141, 142, 143, 144, 149] (by decide +kernel) (by decide +kernel)) (goodIn_sub (fun _ h => List.mem_cons_of_mem _ (List.mem_append_right _ h)) (by decide +kernel))) (goodIn_sub (fun _ h => List.mem_cons_of_mem _ (List.mem_append_left _ (List.mem_append_right _ h))) (by decide +kernel))
set_option maxRecDepth 20000 in
theorem gL_told_L_bankOf : GoodIn wsL_told (va_wsS RL 110 yL_bankOf wsL_bankOf) := goodIn_app (goodIn_of _ (by decide +kernel)) ggL_told_L_bankOf
theorem dL_told_0 : decode cL_told 0 = .ok (.ldc2_w 133, 3) := by decide +kernel
theorem dL_told_3 : decode cL_told 3 = .ok (.lstore_n 1, 1) := by decide +kernel
theorem dL_told_4 : decode cL_told 4 = .ok (.iconst 0, 1) := by decide +kernel
theorem dL_told_5 : decode cL_told 5 = .ok (.istore_n 3, 1) := by decide +kernel
theorem dL_told_6 : decode cL_told 6 = .ok (.iload_n 3, 1) := by decide +kernel
theorem dL_told_7 : decode cL_told 7 = .ok (.bipush 12, 2) := by decide +kernel
theorem dL_told_9 : decode cL_told 9 = .ok (.if_icmp .ge 22, 3) := by decide +kernel
theorem dL_told_12 : decode cL_told 12 = .ok (.ldc2_w 135, 3) := by decide +kernel
theorem dL_told_15 : decode cL_told 15 = .ok (.lload_n 1, 1) := by decide +kernel
theorem dL_told_16 : decode cL_told 16 = .ok (.lmul, 1) := by decide +kernel
theorem dL_told_17 : decode cL_told 17 = .ok (.aload_n 0, 1) := by decide +kernel
theorem dL_told_18 : decode cL_told 18 = .ok (.iload_n 3, 1) := by decide +kernel
theorem dL_told_19 : decode cL_told 19 = .ok (.invokestatic 100, 3) := by decide +kernel
theorem dL_told_22 : decode cL_told 22 = .ok (.i2l, 1) := by decide +kernel
theorem dL_told_23 : decode cL_told 23 = .ok (.ladd, 1) := by decide +kernel
theorem dL_told_24 : decode cL_told 24 = .ok (.lstore_n 1, 1) := by decide +kernel
theorem dL_told_25 : decode cL_told 25 = .ok (.iinc 3 1, 3) := by decide +kernel
theorem dL_told_28 : decode cL_told 28 = .ok (.goto (-22), 3) := by decide +kernel
theorem dL_told_31 : decode cL_told 31 = .ok (.iconst 0, 1) := by decide +kernel
theorem dL_told_32 : decode cL_told 32 = .ok (.istore_n 3, 1) := by decide +kernel
theorem dL_told_33 : decode cL_told 33 = .ok (.iload_n 3, 1) := by decide +kernel
theorem dL_told_34 : decode cL_told 34 = .ok (.bipush 20, 2) := by decide +kernel
theorem dL_told_36 : decode cL_told 36 = .ok (.if_icmp .ge 83, 3) := by decide +kernel
theorem dL_told_39 : decode cL_told 39 = .ok (.ldc2_w 135, 3) := by decide +kernel
theorem dL_told_42 : decode cL_told 42 = .ok (.ldc2_w 135, 3) := by decide +kernel
theorem dL_told_45 : decode cL_told 45 = .ok (.lload_n 1, 1) := by decide +kernel
theorem dL_told_46 : decode cL_told 46 = .ok (.lmul, 1) := by decide +kernel
theorem dL_told_47 : decode cL_told 47 = .ok (.aload_n 0, 1) := by decide +kernel
theorem dL_told_48 : decode cL_told 48 = .ok (.iload_n 3, 1) := by decide +kernel
theorem dL_told_49 : decode cL_told 49 = .ok (.iconst 4, 1) := by decide +kernel
theorem dL_told_50 : decode cL_told 50 = .ok (.idiv, 1) := by decide +kernel
theorem dL_told_51 : decode cL_told 51 = .ok (.iload_n 3, 1) := by decide +kernel
theorem dL_told_52 : decode cL_told 52 = .ok (.iconst 4, 1) := by decide +kernel
theorem dL_told_53 : decode cL_told 53 = .ok (.irem, 1) := by decide +kernel
theorem dL_told_54 : decode cL_told 54 = .ok (.iconst 0, 1) := by decide +kernel
theorem dL_told_55 : decode cL_told 55 = .ok (.invokestatic 112, 3) := by decide +kernel
theorem dL_told_58 : decode cL_told 58 = .ok (.i2l, 1) := by decide +kernel
theorem dL_told_59 : decode cL_told 59 = .ok (.ladd, 1) := by decide +kernel
theorem dL_told_60 : decode cL_told 60 = .ok (.lmul, 1) := by decide +kernel
theorem dL_told_61 : decode cL_told 61 = .ok (.aload_n 0, 1) := by decide +kernel
theorem dL_told_62 : decode cL_told 62 = .ok (.iload_n 3, 1) := by decide +kernel
theorem dL_told_63 : decode cL_told 63 = .ok (.iconst 4, 1) := by decide +kernel
theorem dL_told_64 : decode cL_told 64 = .ok (.idiv, 1) := by decide +kernel
theorem dL_told_65 : decode cL_told 65 = .ok (.iload_n 3, 1) := by decide +kernel
theorem dL_told_66 : decode cL_told 66 = .ok (.iconst 4, 1) := by decide +kernel
theorem dL_told_67 : decode cL_told 67 = .ok (.irem, 1) := by decide +kernel
theorem dL_told_68 : decode cL_told 68 = .ok (.iconst 1, 1) := by decide +kernel
theorem dL_told_69 : decode cL_told 69 = .ok (.invokestatic 112, 3) := by decide +kernel
theorem dL_told_72 : decode cL_told 72 = .ok (.i2l, 1) := by decide +kernel
theorem dL_told_73 : decode cL_told 73 = .ok (.ladd, 1) := by decide +kernel
theorem dL_told_74 : decode cL_told 74 = .ok (.lstore_n 1, 1) := by decide +kernel
theorem dL_told_75 : decode cL_told 75 = .ok (.ldc2_w 135, 3) := by decide +kernel
theorem dL_told_78 : decode cL_told 78 = .ok (.ldc2_w 135, 3) := by decide +kernel
theorem dL_told_81 : decode cL_told 81 = .ok (.lload_n 1, 1) := by decide +kernel
theorem dL_told_82 : decode cL_told 82 = .ok (.lmul, 1) := by decide +kernel
theorem dL_told_83 : decode cL_told 83 = .ok (.aload_n 0, 1) := by decide +kernel
theorem dL_told_84 : decode cL_told 84 = .ok (.iload_n 3, 1) := by decide +kernel
theorem dL_told_85 : decode cL_told 85 = .ok (.iconst 4, 1) := by decide +kernel
theorem dL_told_86 : decode cL_told 86 = .ok (.idiv, 1) := by decide +kernel
theorem dL_told_87 : decode cL_told 87 = .ok (.iload_n 3, 1) := by decide +kernel
theorem dL_told_88 : decode cL_told 88 = .ok (.iconst 4, 1) := by decide +kernel
theorem dL_told_89 : decode cL_told 89 = .ok (.irem, 1) := by decide +kernel
theorem dL_told_90 : decode cL_told 90 = .ok (.iconst 2, 1) := by decide +kernel
theorem dL_told_91 : decode cL_told 91 = .ok (.invokestatic 112, 3) := by decide +kernel
theorem dL_told_94 : decode cL_told 94 = .ok (.i2l, 1) := by decide +kernel
theorem dL_told_95 : decode cL_told 95 = .ok (.ladd, 1) := by decide +kernel
theorem dL_told_96 : decode cL_told 96 = .ok (.lmul, 1) := by decide +kernel
theorem dL_told_97 : decode cL_told 97 = .ok (.aload_n 0, 1) := by decide +kernel
theorem dL_told_98 : decode cL_told 98 = .ok (.iload_n 3, 1) := by decide +kernel
theorem dL_told_99 : decode cL_told 99 = .ok (.iconst 4, 1) := by decide +kernel
theorem dL_told_100 : decode cL_told 100 = .ok (.idiv, 1) := by decide +kernel
theorem dL_told_101 : decode cL_told 101 = .ok (.bipush 8, 2) := by decide +kernel
theorem dL_told_103 : decode cL_told 103 = .ok (.iload_n 3, 1) := by decide +kernel
theorem dL_told_104 : decode cL_told 104 = .ok (.iconst 4, 1) := by decide +kernel
theorem dL_told_105 : decode cL_told 105 = .ok (.irem, 1) := by decide +kernel
theorem dL_told_106 : decode cL_told 106 = .ok (.iadd, 1) := by decide +kernel
theorem dL_told_107 : decode cL_told 107 = .ok (.invokestatic 97, 3) := by decide +kernel
theorem dL_told_110 : decode cL_told 110 = .ok (.i2l, 1) := by decide +kernel
theorem dL_told_111 : decode cL_told 111 = .ok (.ladd, 1) := by decide +kernel
theorem dL_told_112 : decode cL_told 112 = .ok (.lstore_n 1, 1) := by decide +kernel
theorem dL_told_113 : decode cL_told 113 = .ok (.iinc 3 1, 3) := by decide +kernel
theorem dL_told_116 : decode cL_told 116 = .ok (.goto (-83), 3) := by decide +kernel
theorem dL_told_119 : decode cL_told 119 = .ok (.iconst 0, 1) := by decide +kernel
theorem dL_told_120 : decode cL_told 120 = .ok (.istore_n 3, 1) := by decide +kernel
theorem dL_told_121 : decode cL_told 121 = .ok (.iload_n 3, 1) := by decide +kernel
theorem dL_told_122 : decode cL_told 122 = .ok (.bipush 24, 2) := by decide +kernel
theorem dL_told_124 : decode cL_told 124 = .ok (.if_icmp .ge 55, 3) := by decide +kernel
theorem dL_told_127 : decode cL_told 127 = .ok (.ldc2_w 135, 3) := by decide +kernel
theorem dL_told_130 : decode cL_told 130 = .ok (.ldc2_w 135, 3) := by decide +kernel
theorem dL_told_133 : decode cL_told 133 = .ok (.lload_n 1, 1) := by decide +kernel
theorem dL_told_134 : decode cL_told 134 = .ok (.lmul, 1) := by decide +kernel
theorem dL_told_135 : decode cL_told 135 = .ok (.aload_n 0, 1) := by decide +kernel
theorem dL_told_136 : decode cL_told 136 = .ok (.iload_n 3, 1) := by decide +kernel
theorem dL_told_137 : decode cL_told 137 = .ok (.iconst 4, 1) := by decide +kernel
theorem dL_told_138 : decode cL_told 138 = .ok (.idiv, 1) := by decide +kernel
theorem dL_told_139 : decode cL_told 139 = .ok (.iload_n 3, 1) := by decide +kernel
theorem dL_told_140 : decode cL_told 140 = .ok (.iconst 4, 1) := by decide +kernel
theorem dL_told_141 : decode cL_told 141 = .ok (.irem, 1) := by decide +kernel
theorem dL_told_142 : decode cL_told 142 = .ok (.invokestatic 121, 3) := by decide +kernel
theorem dL_told_145 : decode cL_told 145 = .ok (.i2l, 1) := by decide +kernel
theorem dL_told_146 : decode cL_told 146 = .ok (.ladd, 1) := by decide +kernel
theorem dL_told_147 : decode cL_told 147 = .ok (.lmul, 1) := by decide +kernel
theorem dL_told_148 : decode cL_told 148 = .ok (.aload_n 0, 1) := by decide +kernel
theorem dL_told_149 : decode cL_told 149 = .ok (.iload_n 3, 1) := by decide +kernel
theorem dL_told_150 : decode cL_told 150 = .ok (.iconst 4, 1) := by decide +kernel
theorem dL_told_151 : decode cL_told 151 = .ok (.irem, 1) := by decide +kernel
theorem dL_told_152 : decode cL_told 152 = .ok (.iconst 1, 1) := by decide +kernel
theorem dL_told_153 : decode cL_told 153 = .ok (.invokestatic 110, 3) := by decide +kernel
theorem dL_told_156 : decode cL_told 156 = .ok (.i2l, 1) := by decide +kernel
theorem dL_told_157 : decode cL_told 157 = .ok (.ladd, 1) := by decide +kernel
theorem dL_told_158 : decode cL_told 158 = .ok (.aload_n 0, 1) := by decide +kernel
theorem dL_told_159 : decode cL_told 159 = .ok (.iload_n 3, 1) := by decide +kernel
theorem dL_told_160 : decode cL_told 160 = .ok (.iconst 5, 1) := by decide +kernel
theorem dL_told_161 : decode cL_told 161 = .ok (.irem, 1) := by decide +kernel
theorem dL_told_162 : decode cL_told 162 = .ok (.iload_n 3, 1) := by decide +kernel
theorem dL_told_163 : decode cL_told 163 = .ok (.iconst 5, 1) := by decide +kernel
theorem dL_told_164 : decode cL_told 164 = .ok (.idiv, 1) := by decide +kernel
theorem dL_told_165 : decode cL_told 165 = .ok (.iconst 3, 1) := by decide +kernel
theorem dL_told_166 : decode cL_told 166 = .ok (.irem, 1) := by decide +kernel
theorem dL_told_167 : decode cL_told 167 = .ok (.invokestatic 97, 3) := by decide +kernel
theorem dL_told_170 : decode cL_told 170 = .ok (.i2l, 1) := by decide +kernel
theorem dL_told_171 : decode cL_told 171 = .ok (.ladd, 1) := by decide +kernel
theorem dL_told_172 : decode cL_told 172 = .ok (.lstore_n 1, 1) := by decide +kernel
theorem dL_told_173 : decode cL_told 173 = .ok (.iinc 3 1, 3) := by decide +kernel
theorem dL_told_176 : decode cL_told 176 = .ok (.goto (-55), 3) := by decide +kernel
theorem dL_told_179 : decode cL_told 179 = .ok (.lload_n 1, 1) := by decide +kernel
theorem dL_told_180 : decode cL_told 180 = .ok (.lreturn, 1) := by decide +kernel
set_option maxRecDepth 20000 in
theorem ggL_call_L_work : GoodIn wsL_call wsL_work := goodIn_ca (goodIn_ca (goodIn_r _ [4, 5, 6, 7, 8, 9, 10, 11, 12, 13, 14, 15, 16, 17, 18, 19, 20, 21, 22, 23, 24, 25, 26, 27, 28, 29, 30, 31, 32, 33, 34, 35, 36, 37, 38, 39, 40, 41, 42, 43, 44, 45, 46, 47, 48, 49, 50, 51, 52, 53, 54, 55, 56, 57, 58, 59, 60, 61, 62, 63, 64, 65, 66, 67, 219, 220, 221, 222, 223, 224, 225, 226, 227, 228] (by decide +kernel) (by decide +kernel)) (goodIn_sub (fun _ h => List.mem_cons_of_mem _ (List.mem_append_left _ (List.mem_append_left _ (List.mem_append_right _ h)))) (by decide +kernel))) (goodIn_sub (fun _ h => List.mem_cons_of_mem _ (List.mem_append_left _ (List.mem_append_right _ h))) (by decide +kernel))
set_option maxRecDepth 20000 in
theorem gL_call_L_work : GoodIn wsL_call (va_wsS RL 137 yL_work wsL_work) := goodIn_app (goodIn_of _ (by decide +kernel)) ggL_call_L_work
set_option maxRecDepth 20000 in
theorem ggL_call_L_pass : GoodIn wsL_call wsL_pass := goodIn_ca (goodIn_r _ [70, 71, 72, 73, 74, 10, 75, 13, 12, 76, 77, 78, 79, 80, 81, 82, 83, 41, 42, 43, 44, 45, 46, 47, 48, 49, 50, 51, 52, 53, 54, 55, 56, 57, 58, 28, 29, 22, 30, 31, 84, 85, 86, 87, 88, 89, 90, 91, 27, 63, 64, 65, 66, 92, 93, 94, 95, 96, 97, 98, 99, 100, 101, 102, 103, 104, 105, 106, 107, 108, 109, 110, 111, 112, 113, 114, 115, 116, 117, 118, 119, 24, 25, 26, 120, 121, 122, 123, 124, 125, 126, 127, 128, 129, 130, 131, 132, 133, 134, 135, 136, 137, 138, 139, 219, 220, 221, 222, 223, 225, 226, 227, 228, 224] (by decide +kernel) (by decide +kernel)) (goodIn_sub (fun _ h => List.mem_cons_of_mem _ (List.mem_append_right _ h)) (by decide +kernel))
set_option maxRecDepth 20000 in
theorem gL_call_L_pass : GoodIn wsL_call (va_wsS RL 139 yL_pass wsL_pass) := goodIn_app (goodIn_of _ (by decide +kernel)) ggL_call_L_pass
set_option maxRecDepth 20000 in
theorem ggL_call_L_rest : GoodIn wsL_call wsL_rest := goodIn_ca (goodIn_r _ [142, 5, 143, 144, 145, 10, 146, 13, 12, 14, 15, 16, 17, 18, 41, 42, 43, 44, 45, 46, 47, 48, 49, 50, 51, 52, 53, 54, 55, 56, 57, 58, 28, 29, 22, 30, 31, 147, 148, 149, 150, 151, 60, 61, 62, 63, 64, 65, 66, 152, 153, 154, 155, 156, 157, 158, 159, 32, 33, 34, 35, 27, 219, 220, 221, 222, 223, 225, 226, 227, 228, 224] (by decide +kernel) (by decide +kernel)) (goodIn_sub (fun _ h => List.mem_cons_of_mem _ (List.mem_append_left _ (List.mem_append_left _ (List.mem_append_right _ h)))) (by decide +kernel))
set_option maxRecDepth 20000 in
theorem gL_call_L_rest : GoodIn wsL_call (va_wsS RL 141 yL_rest wsL_rest) := goodIn_app (goodIn_of _ (by decide +kernel)) ggL_call_L_rest
set_option maxRecDepth 20000 in
theorem ggL_call_L_give : GoodIn wsL_call wsL_give := goodIn_ca (goodIn_ca (goodIn_ca (goodIn_r _ [162, 5, 71, 6, 163, 164, 165, 10, 166, 12, 13, 167, 168, 169, 14, 15, 16, 17, 18, 76, 77, 78, 79, 80, 81, 82, 83, 170, 171, 22, 172, 24, 25, 26, 173, 28, 29, 30, 31, 36, 37, 38, 39, 40, 41, 42, 43, 44, 45, 46, 47, 48, 49, 50, 51, 52, 53, 54, 55, 56, 57, 58, 174, 89, 90, 91, 27, 63, 64, 65, 66, 219, 220, 221, 222, 223, 224, 225, 226, 227, 228] (by decide +kernel) (by decide +kernel)) (goodIn_sub (fun _ h => List.mem_cons_of_mem _ (List.mem_append_left _ (List.mem_append_left _ (List.mem_append_right _ h)))) (by decide +kernel))) (goodIn_sub (fun _ h => List.mem_cons_of_mem _ (List.mem_append_right _ h)) (by decide +kernel))) (goodIn_sub (fun _ h => List.mem_cons_of_mem _ (List.mem_append_left _ (List.mem_append_right _ h))) (by decide +kernel))
set_option maxRecDepth 20000 in
theorem gL_call_L_give : GoodIn wsL_call (va_wsS RL 143 yL_give wsL_give) := goodIn_app (goodIn_of _ (by decide +kernel)) ggL_call_L_give
set_option maxRecDepth 20000 in
theorem ggL_call_X3_snow : GoodIn wsL_call wsX3_snow := goodIn_r _ [178, 13, 12, 41, 42, 43, 44, 45, 46, 47, 48, 49, 50, 51, 52, 53, 54, 55, 56, 57, 58, 28, 29, 22, 30, 31, 179, 180, 181, 182, 27, 63, 64, 65, 66, 183, 148, 149, 150, 151, 60, 61, 62, 173, 219, 220, 221, 222, 223, 225, 226, 227, 228, 224] (by decide +kernel) (by decide +kernel)
set_option maxRecDepth 20000 in
theorem gL_call_X3_snow : GoodIn wsL_call (wsV RL 146 RX3 yX3_snow wsX3_snow) := goodIn_app (goodIn_of _ (by decide +kernel)) ggL_call_X3_snow
set_option maxRecDepth 20000 in
theorem ggL_call_L_hearth : GoodIn wsL_call wsL_hearth := goodIn_ca (goodIn_ca (goodIn_r _ [186, 5, 71, 187, 188, 189, 10, 190, 13, 12, 14, 15, 16, 17, 18, 76, 77, 78, 79, 80, 81, 82, 83, 41, 42, 43, 44, 45, 46, 47, 48, 49, 50, 51, 52, 53, 54, 55, 56, 57, 58, 28, 29, 22, 30, 31, 191, 64, 65, 66, 192, 193, 194, 195, 27, 63, 219, 220, 221, 222, 223, 225, 226, 227, 228, 224] (by decide +kernel) (by decide +kernel)) (goodIn_sub (fun _ h => List.mem_cons_of_mem _ (List.mem_append_left _ (List.mem_append_left _ (List.mem_append_right _ h)))) (by decide +kernel))) (goodIn_sub (fun _ h => List.mem_cons_of_mem _ (List.mem_append_right _ h)) (by decide +kernel))
set_option maxRecDepth 20000 in
theorem gL_call_L_hearth : GoodIn wsL_call (va_wsS RL 149 yL_hearth wsL_hearth) := goodIn_app (goodIn_of _ (by decide +kernel)) ggL_call_L_hearth
set_option maxRecDepth 20000 in
theorem ggL_call_L_track : GoodIn wsL_call wsL_track := goodIn_ca (goodIn_ca (goodIn_r _ [198, 5, 71, 199, 200, 201, 10, 202, 13, 12, 14, 15, 16, 17, 18, 76, 77, 78, 79, 80, 81, 82, 83, 41, 42, 43, 44, 45, 46, 47, 48, 49, 50, 51, 52, 53, 54, 55, 56, 57, 58, 28, 29, 22, 30, 31, 192, 193, 194, 195, 27, 63, 64, 65, 66, 219, 220, 221, 222, 223, 225, 226, 227, 228, 224] (by decide +kernel) (by decide +kernel)) (goodIn_sub (fun _ h => List.mem_cons_of_mem _ (List.mem_append_left _ (List.mem_append_left _ (List.mem_append_right _ h)))) (by decide +kernel))) (goodIn_sub (fun _ h => List.mem_cons_of_mem _ (List.mem_append_right _ h)) (by decide +kernel))
set_option maxRecDepth 20000 in
theorem gL_call_L_track : GoodIn wsL_call (va_wsS RL 152 yL_track wsL_track) := goodIn_app (goodIn_of _ (by decide +kernel)) ggL_call_L_track
set_option maxRecDepth 20000 in
theorem ggL_call_L_strength : GoodIn wsL_call wsL_strength := goodIn_ca (goodIn_ca (goodIn_r _ [205, 5, 71, 206, 207, 208, 10, 209, 13, 12, 14, 15, 16, 17, 18, 76, 77, 78, 79, 80, 81, 82, 83, 41, 42, 43, 44, 45, 46, 47, 48, 49, 50, 51, 52, 53, 54, 55, 56, 57, 58, 28, 29, 22, 30, 31, 192, 193, 194, 195, 27, 63, 64, 65, 66, 219, 220, 221, 222, 223, 225, 226, 227, 228, 224] (by decide +kernel) (by decide +kernel)) (goodIn_sub (fun _ h => List.mem_cons_of_mem _ (List.mem_append_left _ (List.mem_append_left _ (List.mem_append_right _ h)))) (by decide +kernel))) (goodIn_sub (fun _ h => List.mem_cons_of_mem _ (List.mem_append_right _ h)) (by decide +kernel))
set_option maxRecDepth 20000 in
theorem gL_call_L_strength : GoodIn wsL_call (va_wsS RL 154 yL_strength wsL_strength) := goodIn_app (goodIn_of _ (by decide +kernel)) ggL_call_L_strength
set_option maxRecDepth 20000 in
theorem ggL_call_L_set : GoodIn wsL_call wsL_set := goodIn_ca (goodIn_ca (goodIn_r _ [212, 5, 71, 213, 214, 215, 10, 216, 217, 218, 13, 12, 14, 15, 16, 17, 18, 76, 77, 78, 79, 80, 81, 82, 83, 41, 42, 43, 44, 45, 46, 47, 48, 49, 50, 51, 52, 53, 54, 55, 56, 57, 58, 28, 29, 22, 30, 31, 192, 193, 194, 195, 27, 63, 64, 65, 66, 219, 220, 221, 222, 223, 225, 226, 227, 228, 224] (by decide +kernel) (by decide +kernel)) (goodIn_sub (fun _ h => List.mem_cons_of_mem _ (List.mem_append_left _ (List.mem_append_left _ (List.mem_append_right _ h)))) (by decide +kernel))) (goodIn_sub (fun _ h => List.mem_cons_of_mem _ (List.mem_append_right _ h)) (by decide +kernel))
set_option maxRecDepth 20000 in
theorem gL_call_L_set : GoodIn wsL_call (va_wsS RL 156 yL_set wsL_set) := goodIn_app (goodIn_of _ (by decide +kernel)) ggL_call_L_set
theorem dL_call_0 : decode cL_call 0 = .ok (.iload_n 1, 1) := by decide +kernel
theorem dL_call_1 : decode cL_call 1 = .ok (.tableswitch 116 0 7 #[47, 56, 62, 68, 79, 84, 102, 109], 47) := by decide +kernel
theorem dL_call_48 : decode cL_call 48 = .ok (.aload_n 0, 1) := by decide +kernel
theorem dL_call_49 : decode cL_call 49 = .ok (.iload_n 2, 1) := by decide +kernel
theorem dL_call_50 : decode cL_call 50 = .ok (.iload_n 3, 1) := by decide +kernel
theorem dL_call_51 : decode cL_call 51 = .ok (.iload 4, 2) := by decide +kernel
theorem dL_call_53 : decode cL_call 53 = .ok (.invokestatic 137, 3) := by decide +kernel
theorem dL_call_56 : decode cL_call 56 = .ok (.ireturn, 1) := by decide +kernel
theorem dL_call_57 : decode cL_call 57 = .ok (.aload_n 0, 1) := by decide +kernel
theorem dL_call_58 : decode cL_call 58 = .ok (.iload_n 2, 1) := by decide +kernel
theorem dL_call_59 : decode cL_call 59 = .ok (.invokestatic 139, 3) := by decide +kernel
theorem dL_call_62 : decode cL_call 62 = .ok (.ireturn, 1) := by decide +kernel
theorem dL_call_63 : decode cL_call 63 = .ok (.aload_n 0, 1) := by decide +kernel
theorem dL_call_64 : decode cL_call 64 = .ok (.iload_n 2, 1) := by decide +kernel
theorem dL_call_65 : decode cL_call 65 = .ok (.invokestatic 141, 3) := by decide +kernel
theorem dL_call_68 : decode cL_call 68 = .ok (.ireturn, 1) := by decide +kernel
theorem dL_call_69 : decode cL_call 69 = .ok (.aload_n 0, 1) := by decide +kernel
theorem dL_call_70 : decode cL_call 70 = .ok (.iload_n 2, 1) := by decide +kernel
theorem dL_call_71 : decode cL_call 71 = .ok (.iload_n 3, 1) := by decide +kernel
theorem dL_call_72 : decode cL_call 72 = .ok (.iload 4, 2) := by decide +kernel
theorem dL_call_74 : decode cL_call 74 = .ok (.iload 5, 2) := by decide +kernel
theorem dL_call_76 : decode cL_call 76 = .ok (.invokestatic 143, 3) := by decide +kernel
theorem dL_call_79 : decode cL_call 79 = .ok (.ireturn, 1) := by decide +kernel
theorem dL_call_80 : decode cL_call 80 = .ok (.aload_n 0, 1) := by decide +kernel
theorem dL_call_81 : decode cL_call 81 = .ok (.invokevirtual 146, 3) := by decide +kernel
theorem dL_call_84 : decode cL_call 84 = .ok (.ireturn, 1) := by decide +kernel
theorem dL_call_85 : decode cL_call 85 = .ok (.aload_n 0, 1) := by decide +kernel
theorem dL_call_86 : decode cL_call 86 = .ok (.iload_n 2, 1) := by decide +kernel
theorem dL_call_87 : decode cL_call 87 = .ok (.iload_n 3, 1) := by decide +kernel
theorem dL_call_88 : decode cL_call 88 = .ok (.iconst 1, 1) := by decide +kernel
theorem dL_call_89 : decode cL_call 89 = .ok (.if_icmp .ne 7, 3) := by decide +kernel
theorem dL_call_92 : decode cL_call 92 = .ok (.iconst 1, 1) := by decide +kernel
theorem dL_call_93 : decode cL_call 93 = .ok (.goto 4, 3) := by decide +kernel
theorem dL_call_96 : decode cL_call 96 = .ok (.iconst 0, 1) := by decide +kernel
theorem dL_call_97 : decode cL_call 97 = .ok (.iload 4, 2) := by decide +kernel
theorem dL_call_99 : decode cL_call 99 = .ok (.invokestatic 149, 3) := by decide +kernel
theorem dL_call_102 : decode cL_call 102 = .ok (.ireturn, 1) := by decide +kernel
theorem dL_call_103 : decode cL_call 103 = .ok (.aload_n 0, 1) := by decide +kernel
theorem dL_call_104 : decode cL_call 104 = .ok (.iload_n 2, 1) := by decide +kernel
theorem dL_call_105 : decode cL_call 105 = .ok (.iload_n 3, 1) := by decide +kernel
theorem dL_call_106 : decode cL_call 106 = .ok (.invokestatic 152, 3) := by decide +kernel
theorem dL_call_109 : decode cL_call 109 = .ok (.ireturn, 1) := by decide +kernel
theorem dL_call_110 : decode cL_call 110 = .ok (.aload_n 0, 1) := by decide +kernel
theorem dL_call_111 : decode cL_call 111 = .ok (.iload_n 2, 1) := by decide +kernel
theorem dL_call_112 : decode cL_call 112 = .ok (.iload_n 3, 1) := by decide +kernel
theorem dL_call_113 : decode cL_call 113 = .ok (.invokestatic 154, 3) := by decide +kernel
theorem dL_call_116 : decode cL_call 116 = .ok (.ireturn, 1) := by decide +kernel
theorem dL_call_117 : decode cL_call 117 = .ok (.aload_n 0, 1) := by decide +kernel
theorem dL_call_118 : decode cL_call 118 = .ok (.iload_n 2, 1) := by decide +kernel
theorem dL_call_119 : decode cL_call 119 = .ok (.iload_n 3, 1) := by decide +kernel
theorem dL_call_120 : decode cL_call 120 = .ok (.invokestatic 156, 3) := by decide +kernel
theorem dL_call_123 : decode cL_call 123 = .ok (.ireturn, 1) := by decide +kernel
set_option maxRecDepth 20000 in
theorem ggL_due_L_why : GoodIn wsL_due wsL_why := goodIn_r _ [4, 5, 6, 3, 7] (by decide +kernel) (by decide +kernel)
set_option maxRecDepth 20000 in
theorem gL_due_L_why : GoodIn wsL_due (va_wsS RL 117 yL_why wsL_why) := goodIn_app (goodIn_of _ (by decide +kernel)) ggL_due_L_why
set_option maxRecDepth 20000 in
theorem ggL_due_L_workers : GoodIn wsL_due wsL_workers := goodIn_r _ [7] (by decide +kernel) (by decide +kernel)
set_option maxRecDepth 20000 in
theorem gL_due_L_workers : GoodIn wsL_due (va_wsS RL 89 yL_workers wsL_workers) := goodIn_app (goodIn_of _ (by decide +kernel)) ggL_due_L_workers
set_option maxRecDepth 20000 in
theorem ggL_due_L_days : GoodIn wsL_due wsL_days := goodIn_r _ [10, 11, 12, 3, 13, 14, 15, 16, 17, 18, 19, 20, 21, 22] (by decide +kernel) (by decide +kernel)
set_option maxRecDepth 20000 in
theorem gL_due_L_days : GoodIn wsL_due (va_wsS RL 158 yL_days wsL_days) := goodIn_app (goodIn_of _ (by decide +kernel)) ggL_due_L_days
set_option maxRecDepth 20000 in
theorem ggL_due_L_gives : GoodIn wsL_due wsL_gives := goodIn_r _ [25, 26, 27, 3, 28] (by decide +kernel) (by decide +kernel)
set_option maxRecDepth 20000 in
theorem gL_due_L_gives : GoodIn wsL_due (va_wsS RL 162 yL_gives wsL_gives) := goodIn_app (goodIn_of _ (by decide +kernel)) ggL_due_L_gives
theorem dL_due_0 : decode cL_due 0 = .ok (.iload_n 0, 1) := by decide +kernel
theorem dL_due_1 : decode cL_due 1 = .ok (.iconst 5, 1) := by decide +kernel
theorem dL_due_2 : decode cL_due 2 = .ok (.if_icmp .ne 15, 3) := by decide +kernel
theorem dL_due_5 : decode cL_due 5 = .ok (.aload 6, 2) := by decide +kernel
theorem dL_due_7 : decode cL_due 7 = .ok (.bipush 8, 2) := by decide +kernel
theorem dL_due_9 : decode cL_due 9 = .ok (.iload_n 1, 1) := by decide +kernel
theorem dL_due_10 : decode cL_due 10 = .ok (.imul, 1) := by decide +kernel
theorem dL_due_11 : decode cL_due 11 = .ok (.iconst 1, 1) := by decide +kernel
theorem dL_due_12 : decode cL_due 12 = .ok (.iadd, 1) := by decide +kernel
theorem dL_due_13 : decode cL_due 13 = .ok (.iaload, 1) := by decide +kernel
theorem dL_due_14 : decode cL_due 14 = .ok (.goto 50, 3) := by decide +kernel
theorem dL_due_17 : decode cL_due 17 = .ok (.iload_n 0, 1) := by decide +kernel
theorem dL_due_18 : decode cL_due 18 = .ok (.bipush 6, 2) := by decide +kernel
theorem dL_due_20 : decode cL_due 20 = .ok (.if_icmp .ne 13, 3) := by decide +kernel
theorem dL_due_23 : decode cL_due 23 = .ok (.aload 5, 2) := by decide +kernel
theorem dL_due_25 : decode cL_due 25 = .ok (.bipush 9, 2) := by decide +kernel
theorem dL_due_27 : decode cL_due 27 = .ok (.iload_n 1, 1) := by decide +kernel
theorem dL_due_28 : decode cL_due 28 = .ok (.iadd, 1) := by decide +kernel
theorem dL_due_29 : decode cL_due 29 = .ok (.iaload, 1) := by decide +kernel
theorem dL_due_30 : decode cL_due 30 = .ok (.goto 34, 3) := by decide +kernel
theorem dL_due_33 : decode cL_due 33 = .ok (.iload_n 0, 1) := by decide +kernel
theorem dL_due_34 : decode cL_due 34 = .ok (.bipush 7, 2) := by decide +kernel
theorem dL_due_36 : decode cL_due 36 = .ok (.if_icmp .ne 12, 3) := by decide +kernel
theorem dL_due_39 : decode cL_due 39 = .ok (.aload 11, 2) := by decide +kernel
theorem dL_due_41 : decode cL_due 41 = .ok (.iconst 4, 1) := by decide +kernel
theorem dL_due_42 : decode cL_due 42 = .ok (.iload_n 1, 1) := by decide +kernel
theorem dL_due_43 : decode cL_due 43 = .ok (.imul, 1) := by decide +kernel
theorem dL_due_44 : decode cL_due 44 = .ok (.iaload, 1) := by decide +kernel
theorem dL_due_45 : decode cL_due 45 = .ok (.goto 19, 3) := by decide +kernel
theorem dL_due_48 : decode cL_due 48 = .ok (.iload_n 0, 1) := by decide +kernel
theorem dL_due_49 : decode cL_due 49 = .ok (.bipush 8, 2) := by decide +kernel
theorem dL_due_51 : decode cL_due 51 = .ok (.if_icmp .ne 12, 3) := by decide +kernel
theorem dL_due_54 : decode cL_due 54 = .ok (.aload 5, 2) := by decide +kernel
theorem dL_due_56 : decode cL_due 56 = .ok (.iconst 2, 1) := by decide +kernel
theorem dL_due_57 : decode cL_due 57 = .ok (.iload_n 1, 1) := by decide +kernel
theorem dL_due_58 : decode cL_due 58 = .ok (.iadd, 1) := by decide +kernel
theorem dL_due_59 : decode cL_due 59 = .ok (.iaload, 1) := by decide +kernel
theorem dL_due_60 : decode cL_due 60 = .ok (.goto 4, 3) := by decide +kernel
theorem dL_due_63 : decode cL_due 63 = .ok (.iconst 0, 1) := by decide +kernel
theorem dL_due_64 : decode cL_due 64 = .ok (.istore 12, 2) := by decide +kernel
theorem dL_due_66 : decode cL_due 66 = .ok (.iload_n 0, 1) := by decide +kernel
theorem dL_due_67 : decode cL_due 67 = .ok (.tableswitch 241 0 7 #[45, 88, 105, 131, 142, 199, 220, 231], 45) := by decide +kernel
theorem dL_due_112 : decode cL_due 112 = .ok (.iload_n 2, 1) := by decide +kernel
theorem dL_due_113 : decode cL_due 113 = .ok (.iload_n 3, 1) := by decide +kernel
theorem dL_due_114 : decode cL_due 114 = .ok (.aload 5, 2) := by decide +kernel
theorem dL_due_116 : decode cL_due 116 = .ok (.aload 7, 2) := by decide +kernel
theorem dL_due_118 : decode cL_due 118 = .ok (.aload 11, 2) := by decide +kernel
theorem dL_due_120 : decode cL_due 120 = .ok (.invokestatic 117, 3) := by decide +kernel
theorem dL_due_123 : decode cL_due 123 = .ok (.ifCond .eq 6, 3) := by decide +kernel
theorem dL_due_126 : decode cL_due 126 = .ok (.bipush (-103), 2) := by decide +kernel
theorem dL_due_128 : decode cL_due 128 = .ok (.ireturn, 1) := by decide +kernel
theorem dL_due_129 : decode cL_due 129 = .ok (.aload 11, 2) := by decide +kernel
theorem dL_due_131 : decode cL_due 131 = .ok (.iconst 4, 1) := by decide +kernel
theorem dL_due_132 : decode cL_due 132 = .ok (.iload_n 1, 1) := by decide +kernel
theorem dL_due_133 : decode cL_due 133 = .ok (.imul, 1) := by decide +kernel
theorem dL_due_134 : decode cL_due 134 = .ok (.iconst 1, 1) := by decide +kernel
theorem dL_due_135 : decode cL_due 135 = .ok (.iadd, 1) := by decide +kernel
theorem dL_due_136 : decode cL_due 136 = .ok (.iload_n 2, 1) := by decide +kernel
theorem dL_due_137 : decode cL_due 137 = .ok (.iastore, 1) := by decide +kernel
theorem dL_due_138 : decode cL_due 138 = .ok (.aload 11, 2) := by decide +kernel
theorem dL_due_140 : decode cL_due 140 = .ok (.iconst 4, 1) := by decide +kernel
theorem dL_due_141 : decode cL_due 141 = .ok (.iload_n 1, 1) := by decide +kernel
theorem dL_due_142 : decode cL_due 142 = .ok (.imul, 1) := by decide +kernel
theorem dL_due_143 : decode cL_due 143 = .ok (.iconst 2, 1) := by decide +kernel
theorem dL_due_144 : decode cL_due 144 = .ok (.iadd, 1) := by decide +kernel
theorem dL_due_145 : decode cL_due 145 = .ok (.iload_n 3, 1) := by decide +kernel
theorem dL_due_146 : decode cL_due 146 = .ok (.iastore, 1) := by decide +kernel
theorem dL_due_147 : decode cL_due 147 = .ok (.iload_n 2, 1) := by decide +kernel
theorem dL_due_148 : decode cL_due 148 = .ok (.iload_n 3, 1) := by decide +kernel
theorem dL_due_149 : decode cL_due 149 = .ok (.aload 11, 2) := by decide +kernel
theorem dL_due_151 : decode cL_due 151 = .ok (.invokestatic 89, 3) := by decide +kernel
theorem dL_due_154 : decode cL_due 154 = .ok (.ireturn, 1) := by decide +kernel
theorem dL_due_155 : decode cL_due 155 = .ok (.iload_n 1, 1) := by decide +kernel
theorem dL_due_156 : decode cL_due 156 = .ok (.aload 5, 2) := by decide +kernel
theorem dL_due_158 : decode cL_due 158 = .ok (.aload 6, 2) := by decide +kernel
theorem dL_due_160 : decode cL_due 160 = .ok (.aload 8, 2) := by decide +kernel
theorem dL_due_162 : decode cL_due 162 = .ok (.aload 9, 2) := by decide +kernel
theorem dL_due_164 : decode cL_due 164 = .ok (.aload 10, 2) := by decide +kernel
theorem dL_due_166 : decode cL_due 166 = .ok (.aload 11, 2) := by decide +kernel
theorem dL_due_168 : decode cL_due 168 = .ok (.invokestatic 158, 3) := by decide +kernel
theorem dL_due_171 : decode cL_due 171 = .ok (.ireturn, 1) := by decide +kernel
theorem dL_due_172 : decode cL_due 172 = .ok (.aload 11, 2) := by decide +kernel
theorem dL_due_174 : decode cL_due 174 = .ok (.iconst 4, 1) := by decide +kernel
theorem dL_due_175 : decode cL_due 175 = .ok (.iload_n 1, 1) := by decide +kernel
theorem dL_due_176 : decode cL_due 176 = .ok (.imul, 1) := by decide +kernel
theorem dL_due_177 : decode cL_due 177 = .ok (.iconst 1, 1) := by decide +kernel
theorem dL_due_178 : decode cL_due 178 = .ok (.iadd, 1) := by decide +kernel
theorem dL_due_179 : decode cL_due 179 = .ok (.iconst (-1), 1) := by decide +kernel
theorem dL_due_180 : decode cL_due 180 = .ok (.iastore, 1) := by decide +kernel
theorem dL_due_181 : decode cL_due 181 = .ok (.aload 11, 2) := by decide +kernel
theorem dL_due_183 : decode cL_due 183 = .ok (.iconst 4, 1) := by decide +kernel
theorem dL_due_184 : decode cL_due 184 = .ok (.iload_n 1, 1) := by decide +kernel
theorem dL_due_185 : decode cL_due 185 = .ok (.imul, 1) := by decide +kernel
theorem dL_due_186 : decode cL_due 186 = .ok (.iconst 2, 1) := by decide +kernel
theorem dL_due_187 : decode cL_due 187 = .ok (.iadd, 1) := by decide +kernel
theorem dL_due_188 : decode cL_due 188 = .ok (.iconst (-1), 1) := by decide +kernel
theorem dL_due_189 : decode cL_due 189 = .ok (.iastore, 1) := by decide +kernel
theorem dL_due_190 : decode cL_due 190 = .ok (.iconst (-1), 1) := by decide +kernel
theorem dL_due_191 : decode cL_due 191 = .ok (.iconst (-1), 1) := by decide +kernel
theorem dL_due_192 : decode cL_due 192 = .ok (.aload 11, 2) := by decide +kernel
theorem dL_due_194 : decode cL_due 194 = .ok (.invokestatic 89, 3) := by decide +kernel
theorem dL_due_197 : decode cL_due 197 = .ok (.ireturn, 1) := by decide +kernel
theorem dL_due_198 : decode cL_due 198 = .ok (.iload_n 1, 1) := by decide +kernel
theorem dL_due_199 : decode cL_due 199 = .ok (.iload_n 2, 1) := by decide +kernel
theorem dL_due_200 : decode cL_due 200 = .ok (.iload_n 3, 1) := by decide +kernel
theorem dL_due_201 : decode cL_due 201 = .ok (.iload 4, 2) := by decide +kernel
theorem dL_due_203 : decode cL_due 203 = .ok (.aload 7, 2) := by decide +kernel
theorem dL_due_205 : decode cL_due 205 = .ok (.invokestatic 162, 3) := by decide +kernel
theorem dL_due_208 : decode cL_due 208 = .ok (.ireturn, 1) := by decide +kernel
theorem dL_due_209 : decode cL_due 209 = .ok (.aload 5, 2) := by decide +kernel
theorem dL_due_211 : decode cL_due 211 = .ok (.iconst 1, 1) := by decide +kernel
theorem dL_due_212 : decode cL_due 212 = .ok (.dup2, 1) := by decide +kernel
theorem dL_due_213 : decode cL_due 213 = .ok (.iaload, 1) := by decide +kernel
theorem dL_due_214 : decode cL_due 214 = .ok (.iconst 1, 1) := by decide +kernel
theorem dL_due_215 : decode cL_due 215 = .ok (.ixor, 1) := by decide +kernel
theorem dL_due_216 : decode cL_due 216 = .ok (.iastore, 1) := by decide +kernel
theorem dL_due_217 : decode cL_due 217 = .ok (.iconst 0, 1) := by decide +kernel
theorem dL_due_218 : decode cL_due 218 = .ok (.istore 13, 2) := by decide +kernel
theorem dL_due_220 : decode cL_due 220 = .ok (.iload 13, 2) := by decide +kernel
theorem dL_due_222 : decode cL_due 222 = .ok (.bipush 6, 2) := by decide +kernel
theorem dL_due_224 : decode cL_due 224 = .ok (.if_icmp .ge 37, 3) := by decide +kernel
theorem dL_due_227 : decode cL_due 227 = .ok (.aload 5, 2) := by decide +kernel
theorem dL_due_229 : decode cL_due 229 = .ok (.iconst 1, 1) := by decide +kernel
theorem dL_due_230 : decode cL_due 230 = .ok (.iaload, 1) := by decide +kernel
theorem dL_due_231 : decode cL_due 231 = .ok (.iconst 1, 1) := by decide +kernel
theorem dL_due_232 : decode cL_due 232 = .ok (.if_icmp .ne 29, 3) := by decide +kernel
theorem dL_due_235 : decode cL_due 235 = .ok (.aload 11, 2) := by decide +kernel
theorem dL_due_237 : decode cL_due 237 = .ok (.iconst 4, 1) := by decide +kernel
theorem dL_due_238 : decode cL_due 238 = .ok (.iload 13, 2) := by decide +kernel
theorem dL_due_240 : decode cL_due 240 = .ok (.imul, 1) := by decide +kernel
theorem dL_due_241 : decode cL_due 241 = .ok (.iconst 1, 1) := by decide +kernel
theorem dL_due_242 : decode cL_due 242 = .ok (.iadd, 1) := by decide +kernel
theorem dL_due_243 : decode cL_due 243 = .ok (.iconst (-1), 1) := by decide +kernel
theorem dL_due_244 : decode cL_due 244 = .ok (.iastore, 1) := by decide +kernel
theorem dL_due_245 : decode cL_due 245 = .ok (.aload 11, 2) := by decide +kernel
theorem dL_due_247 : decode cL_due 247 = .ok (.iconst 4, 1) := by decide +kernel
theorem dL_due_248 : decode cL_due 248 = .ok (.iload 13, 2) := by decide +kernel
theorem dL_due_250 : decode cL_due 250 = .ok (.imul, 1) := by decide +kernel
theorem dL_due_251 : decode cL_due 251 = .ok (.iconst 2, 1) := by decide +kernel
theorem dL_due_252 : decode cL_due 252 = .ok (.iadd, 1) := by decide +kernel
theorem dL_due_253 : decode cL_due 253 = .ok (.iconst (-1), 1) := by decide +kernel
theorem dL_due_254 : decode cL_due 254 = .ok (.iastore, 1) := by decide +kernel
theorem dL_due_255 : decode cL_due 255 = .ok (.iinc 13 1, 3) := by decide +kernel
theorem dL_due_258 : decode cL_due 258 = .ok (.goto (-38), 3) := by decide +kernel
theorem dL_due_261 : decode cL_due 261 = .ok (.aload 5, 2) := by decide +kernel
theorem dL_due_263 : decode cL_due 263 = .ok (.iconst 1, 1) := by decide +kernel
theorem dL_due_264 : decode cL_due 264 = .ok (.iaload, 1) := by decide +kernel
theorem dL_due_265 : decode cL_due 265 = .ok (.ireturn, 1) := by decide +kernel
theorem dL_due_266 : decode cL_due 266 = .ok (.aload 6, 2) := by decide +kernel
theorem dL_due_268 : decode cL_due 268 = .ok (.bipush 8, 2) := by decide +kernel
theorem dL_due_270 : decode cL_due 270 = .ok (.iload_n 1, 1) := by decide +kernel
theorem dL_due_271 : decode cL_due 271 = .ok (.imul, 1) := by decide +kernel
theorem dL_due_272 : decode cL_due 272 = .ok (.iload_n 2, 1) := by decide +kernel
theorem dL_due_273 : decode cL_due 273 = .ok (.iastore, 1) := by decide +kernel
theorem dL_due_274 : decode cL_due 274 = .ok (.aload 6, 2) := by decide +kernel
theorem dL_due_276 : decode cL_due 276 = .ok (.bipush 8, 2) := by decide +kernel
theorem dL_due_278 : decode cL_due 278 = .ok (.iload_n 1, 1) := by decide +kernel
theorem dL_due_279 : decode cL_due 279 = .ok (.imul, 1) := by decide +kernel
theorem dL_due_280 : decode cL_due 280 = .ok (.iconst 1, 1) := by decide +kernel
theorem dL_due_281 : decode cL_due 281 = .ok (.iadd, 1) := by decide +kernel
theorem dL_due_282 : decode cL_due 282 = .ok (.iload_n 3, 1) := by decide +kernel
theorem dL_due_283 : decode cL_due 283 = .ok (.iastore, 1) := by decide +kernel
theorem dL_due_284 : decode cL_due 284 = .ok (.iload 12, 2) := by decide +kernel
theorem dL_due_286 : decode cL_due 286 = .ok (.ireturn, 1) := by decide +kernel
theorem dL_due_287 : decode cL_due 287 = .ok (.aload 5, 2) := by decide +kernel
theorem dL_due_289 : decode cL_due 289 = .ok (.bipush 9, 2) := by decide +kernel
theorem dL_due_291 : decode cL_due 291 = .ok (.iload_n 1, 1) := by decide +kernel
theorem dL_due_292 : decode cL_due 292 = .ok (.iadd, 1) := by decide +kernel
theorem dL_due_293 : decode cL_due 293 = .ok (.iload_n 2, 1) := by decide +kernel
theorem dL_due_294 : decode cL_due 294 = .ok (.iastore, 1) := by decide +kernel
theorem dL_due_295 : decode cL_due 295 = .ok (.iload 12, 2) := by decide +kernel
theorem dL_due_297 : decode cL_due 297 = .ok (.ireturn, 1) := by decide +kernel
theorem dL_due_298 : decode cL_due 298 = .ok (.aload 11, 2) := by decide +kernel
theorem dL_due_300 : decode cL_due 300 = .ok (.iconst 4, 1) := by decide +kernel
theorem dL_due_301 : decode cL_due 301 = .ok (.iload_n 1, 1) := by decide +kernel
theorem dL_due_302 : decode cL_due 302 = .ok (.imul, 1) := by decide +kernel
theorem dL_due_303 : decode cL_due 303 = .ok (.iload_n 2, 1) := by decide +kernel
theorem dL_due_304 : decode cL_due 304 = .ok (.iastore, 1) := by decide +kernel
theorem dL_due_305 : decode cL_due 305 = .ok (.iload 12, 2) := by decide +kernel
theorem dL_due_307 : decode cL_due 307 = .ok (.ireturn, 1) := by decide +kernel
theorem dL_due_308 : decode cL_due 308 = .ok (.aload 5, 2) := by decide +kernel
theorem dL_due_310 : decode cL_due 310 = .ok (.iconst 2, 1) := by decide +kernel
theorem dL_due_311 : decode cL_due 311 = .ok (.iload_n 1, 1) := by decide +kernel
theorem dL_due_312 : decode cL_due 312 = .ok (.iadd, 1) := by decide +kernel
theorem dL_due_313 : decode cL_due 313 = .ok (.iload_n 2, 1) := by decide +kernel
theorem dL_due_314 : decode cL_due 314 = .ok (.iastore, 1) := by decide +kernel
theorem dL_due_315 : decode cL_due 315 = .ok (.iload 12, 2) := by decide +kernel
theorem dL_due_317 : decode cL_due 317 = .ok (.ireturn, 1) := by decide +kernel
