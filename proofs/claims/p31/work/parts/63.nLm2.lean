set_option maxRecDepth 20000 in
theorem ggL_isHearth_L_hearthOf : GoodIn wsL_isHearth wsL_hearthOf := goodIn_ca (goodIn_ca (goodIn_r _ [4, 5, 6, 7, 8, 9, 10, 11, 12, 13, 14, 15, 16, 17, 18, 19, 20, 21, 22, 23, 24, 25, 26, 27, 28, 29, 30, 31, 32, 33, 34, 35, 36, 37, 38, 39, 40, 41, 42, 43, 44, 45, 46, 47, 48, 49, 50, 51, 52, 53, 54, 55, 56, 57, 58, 59, 60, 61, 62, 63, 64] (by decide +kernel) (by decide +kernel)) (goodIn_sub (fun _ h => List.mem_cons_of_mem _ (List.mem_append_left _ (List.mem_append_right _ h))) (by decide +kernel))) (goodIn_sub (fun _ h => List.mem_cons_of_mem _ (List.mem_append_right _ h)) (by decide +kernel))
set_option maxRecDepth 20000 in
theorem gL_isHearth_L_hearthOf : GoodIn wsL_isHearth (va_wsS RL 97 yL_hearthOf wsL_hearthOf) := goodIn_app (goodIn_of _ (by decide +kernel)) ggL_isHearth_L_hearthOf
theorem dL_isHearth_0 : decode cL_isHearth 0 = .ok (.iconst 0, 1) := by decide +kernel
theorem dL_isHearth_1 : decode cL_isHearth 1 = .ok (.istore 6, 2) := by decide +kernel
theorem dL_isHearth_3 : decode cL_isHearth 3 = .ok (.iconst 0, 1) := by decide +kernel
theorem dL_isHearth_4 : decode cL_isHearth 4 = .ok (.istore 7, 2) := by decide +kernel
theorem dL_isHearth_6 : decode cL_isHearth 6 = .ok (.iload 7, 2) := by decide +kernel
theorem dL_isHearth_8 : decode cL_isHearth 8 = .ok (.iconst 4, 1) := by decide +kernel
theorem dL_isHearth_9 : decode cL_isHearth 9 = .ok (.if_icmp .ge 42, 3) := by decide +kernel
theorem dL_isHearth_12 : decode cL_isHearth 12 = .ok (.iload 6, 2) := by decide +kernel
theorem dL_isHearth_14 : decode cL_isHearth 14 = .ok (.aload_n 3, 1) := by decide +kernel
theorem dL_isHearth_15 : decode cL_isHearth 15 = .ok (.iconst 4, 1) := by decide +kernel
theorem dL_isHearth_16 : decode cL_isHearth 16 = .ok (.iload_n 1, 1) := by decide +kernel
theorem dL_isHearth_17 : decode cL_isHearth 17 = .ok (.imul, 1) := by decide +kernel
theorem dL_isHearth_18 : decode cL_isHearth 18 = .ok (.iload 7, 2) := by decide +kernel
theorem dL_isHearth_20 : decode cL_isHearth 20 = .ok (.iadd, 1) := by decide +kernel
theorem dL_isHearth_21 : decode cL_isHearth 21 = .ok (.iaload, 1) := by decide +kernel
theorem dL_isHearth_22 : decode cL_isHearth 22 = .ok (.aload 4, 2) := by decide +kernel
theorem dL_isHearth_24 : decode cL_isHearth 24 = .ok (.iconst 4, 1) := by decide +kernel
theorem dL_isHearth_25 : decode cL_isHearth 25 = .ok (.iload_n 1, 1) := by decide +kernel
theorem dL_isHearth_26 : decode cL_isHearth 26 = .ok (.imul, 1) := by decide +kernel
theorem dL_isHearth_27 : decode cL_isHearth 27 = .ok (.iload 7, 2) := by decide +kernel
theorem dL_isHearth_29 : decode cL_isHearth 29 = .ok (.iadd, 1) := by decide +kernel
theorem dL_isHearth_30 : decode cL_isHearth 30 = .ok (.iaload, 1) := by decide +kernel
theorem dL_isHearth_31 : decode cL_isHearth 31 = .ok (.iadd, 1) := by decide +kernel
theorem dL_isHearth_32 : decode cL_isHearth 32 = .ok (.aload 5, 2) := by decide +kernel
theorem dL_isHearth_34 : decode cL_isHearth 34 = .ok (.iconst 4, 1) := by decide +kernel
theorem dL_isHearth_35 : decode cL_isHearth 35 = .ok (.iload_n 1, 1) := by decide +kernel
theorem dL_isHearth_36 : decode cL_isHearth 36 = .ok (.imul, 1) := by decide +kernel
theorem dL_isHearth_37 : decode cL_isHearth 37 = .ok (.iload 7, 2) := by decide +kernel
theorem dL_isHearth_39 : decode cL_isHearth 39 = .ok (.iadd, 1) := by decide +kernel
theorem dL_isHearth_40 : decode cL_isHearth 40 = .ok (.iaload, 1) := by decide +kernel
theorem dL_isHearth_41 : decode cL_isHearth 41 = .ok (.iadd, 1) := by decide +kernel
theorem dL_isHearth_42 : decode cL_isHearth 42 = .ok (.iadd, 1) := by decide +kernel
theorem dL_isHearth_43 : decode cL_isHearth 43 = .ok (.istore 6, 2) := by decide +kernel
theorem dL_isHearth_45 : decode cL_isHearth 45 = .ok (.iinc 7 1, 3) := by decide +kernel
theorem dL_isHearth_48 : decode cL_isHearth 48 = .ok (.goto (-42), 3) := by decide +kernel
theorem dL_isHearth_51 : decode cL_isHearth 51 = .ok (.aload_n 2, 1) := by decide +kernel
theorem dL_isHearth_52 : decode cL_isHearth 52 = .ok (.bipush 8, 2) := by decide +kernel
theorem dL_isHearth_54 : decode cL_isHearth 54 = .ok (.iload_n 1, 1) := by decide +kernel
theorem dL_isHearth_55 : decode cL_isHearth 55 = .ok (.imul, 1) := by decide +kernel
theorem dL_isHearth_56 : decode cL_isHearth 56 = .ok (.iconst 1, 1) := by decide +kernel
theorem dL_isHearth_57 : decode cL_isHearth 57 = .ok (.iadd, 1) := by decide +kernel
theorem dL_isHearth_58 : decode cL_isHearth 58 = .ok (.iaload, 1) := by decide +kernel
theorem dL_isHearth_59 : decode cL_isHearth 59 = .ok (.istore 7, 2) := by decide +kernel
theorem dL_isHearth_61 : decode cL_isHearth 61 = .ok (.aload_n 2, 1) := by decide +kernel
theorem dL_isHearth_62 : decode cL_isHearth 62 = .ok (.bipush 8, 2) := by decide +kernel
theorem dL_isHearth_64 : decode cL_isHearth 64 = .ok (.iload_n 1, 1) := by decide +kernel
theorem dL_isHearth_65 : decode cL_isHearth 65 = .ok (.imul, 1) := by decide +kernel
theorem dL_isHearth_66 : decode cL_isHearth 66 = .ok (.iconst 2, 1) := by decide +kernel
theorem dL_isHearth_67 : decode cL_isHearth 67 = .ok (.iadd, 1) := by decide +kernel
theorem dL_isHearth_68 : decode cL_isHearth 68 = .ok (.iaload, 1) := by decide +kernel
theorem dL_isHearth_69 : decode cL_isHearth 69 = .ok (.istore 8, 2) := by decide +kernel
theorem dL_isHearth_71 : decode cL_isHearth 71 = .ok (.iload 7, 2) := by decide +kernel
theorem dL_isHearth_73 : decode cL_isHearth 73 = .ok (.iload 8, 2) := by decide +kernel
theorem dL_isHearth_75 : decode cL_isHearth 75 = .ok (.if_icmp .le 11, 3) := by decide +kernel
theorem dL_isHearth_78 : decode cL_isHearth 78 = .ok (.iload 7, 2) := by decide +kernel
theorem dL_isHearth_80 : decode cL_isHearth 80 = .ok (.iload 8, 2) := by decide +kernel
theorem dL_isHearth_82 : decode cL_isHearth 82 = .ok (.isub, 1) := by decide +kernel
theorem dL_isHearth_83 : decode cL_isHearth 83 = .ok (.goto 4, 3) := by decide +kernel
theorem dL_isHearth_86 : decode cL_isHearth 86 = .ok (.iconst 0, 1) := by decide +kernel
theorem dL_isHearth_87 : decode cL_isHearth 87 = .ok (.istore 9, 2) := by decide +kernel
theorem dL_isHearth_89 : decode cL_isHearth 89 = .ok (.iload 7, 2) := by decide +kernel
theorem dL_isHearth_91 : decode cL_isHearth 91 = .ok (.iload 8, 2) := by decide +kernel
theorem dL_isHearth_93 : decode cL_isHearth 93 = .ok (.iload 6, 2) := by decide +kernel
theorem dL_isHearth_95 : decode cL_isHearth 95 = .ok (.iadd, 1) := by decide +kernel
theorem dL_isHearth_96 : decode cL_isHearth 96 = .ok (.if_icmp .le 14, 3) := by decide +kernel
theorem dL_isHearth_99 : decode cL_isHearth 99 = .ok (.iload 7, 2) := by decide +kernel
theorem dL_isHearth_101 : decode cL_isHearth 101 = .ok (.iload 8, 2) := by decide +kernel
theorem dL_isHearth_103 : decode cL_isHearth 103 = .ok (.isub, 1) := by decide +kernel
theorem dL_isHearth_104 : decode cL_isHearth 104 = .ok (.iload 6, 2) := by decide +kernel
theorem dL_isHearth_106 : decode cL_isHearth 106 = .ok (.isub, 1) := by decide +kernel
theorem dL_isHearth_107 : decode cL_isHearth 107 = .ok (.goto 4, 3) := by decide +kernel
theorem dL_isHearth_110 : decode cL_isHearth 110 = .ok (.iconst 0, 1) := by decide +kernel
theorem dL_isHearth_111 : decode cL_isHearth 111 = .ok (.istore 10, 2) := by decide +kernel
theorem dL_isHearth_113 : decode cL_isHearth 113 = .ok (.iload 8, 2) := by decide +kernel
theorem dL_isHearth_115 : decode cL_isHearth 115 = .ok (.iload 6, 2) := by decide +kernel
theorem dL_isHearth_117 : decode cL_isHearth 117 = .ok (.iadd, 1) := by decide +kernel
theorem dL_isHearth_118 : decode cL_isHearth 118 = .ok (.aload_n 2, 1) := by decide +kernel
theorem dL_isHearth_119 : decode cL_isHearth 119 = .ok (.bipush 8, 2) := by decide +kernel
theorem dL_isHearth_121 : decode cL_isHearth 121 = .ok (.iload_n 1, 1) := by decide +kernel
theorem dL_isHearth_122 : decode cL_isHearth 122 = .ok (.imul, 1) := by decide +kernel
theorem dL_isHearth_123 : decode cL_isHearth 123 = .ok (.iconst 3, 1) := by decide +kernel
theorem dL_isHearth_124 : decode cL_isHearth 124 = .ok (.iadd, 1) := by decide +kernel
theorem dL_isHearth_125 : decode cL_isHearth 125 = .ok (.iaload, 1) := by decide +kernel
theorem dL_isHearth_126 : decode cL_isHearth 126 = .ok (.aload_n 2, 1) := by decide +kernel
theorem dL_isHearth_127 : decode cL_isHearth 127 = .ok (.bipush 8, 2) := by decide +kernel
theorem dL_isHearth_129 : decode cL_isHearth 129 = .ok (.iload_n 1, 1) := by decide +kernel
theorem dL_isHearth_130 : decode cL_isHearth 130 = .ok (.imul, 1) := by decide +kernel
theorem dL_isHearth_131 : decode cL_isHearth 131 = .ok (.iconst 4, 1) := by decide +kernel
theorem dL_isHearth_132 : decode cL_isHearth 132 = .ok (.iadd, 1) := by decide +kernel
theorem dL_isHearth_133 : decode cL_isHearth 133 = .ok (.iaload, 1) := by decide +kernel
theorem dL_isHearth_134 : decode cL_isHearth 134 = .ok (.iadd, 1) := by decide +kernel
theorem dL_isHearth_135 : decode cL_isHearth 135 = .ok (.aload_n 2, 1) := by decide +kernel
theorem dL_isHearth_136 : decode cL_isHearth 136 = .ok (.bipush 8, 2) := by decide +kernel
theorem dL_isHearth_138 : decode cL_isHearth 138 = .ok (.iload_n 1, 1) := by decide +kernel
theorem dL_isHearth_139 : decode cL_isHearth 139 = .ok (.imul, 1) := by decide +kernel
theorem dL_isHearth_140 : decode cL_isHearth 140 = .ok (.iconst 5, 1) := by decide +kernel
theorem dL_isHearth_141 : decode cL_isHearth 141 = .ok (.iadd, 1) := by decide +kernel
theorem dL_isHearth_142 : decode cL_isHearth 142 = .ok (.iaload, 1) := by decide +kernel
theorem dL_isHearth_143 : decode cL_isHearth 143 = .ok (.isub, 1) := by decide +kernel
theorem dL_isHearth_144 : decode cL_isHearth 144 = .ok (.aload_n 2, 1) := by decide +kernel
theorem dL_isHearth_145 : decode cL_isHearth 145 = .ok (.bipush 8, 2) := by decide +kernel
theorem dL_isHearth_147 : decode cL_isHearth 147 = .ok (.iload_n 1, 1) := by decide +kernel
theorem dL_isHearth_148 : decode cL_isHearth 148 = .ok (.imul, 1) := by decide +kernel
theorem dL_isHearth_149 : decode cL_isHearth 149 = .ok (.bipush 6, 2) := by decide +kernel
theorem dL_isHearth_151 : decode cL_isHearth 151 = .ok (.iadd, 1) := by decide +kernel
theorem dL_isHearth_152 : decode cL_isHearth 152 = .ok (.iaload, 1) := by decide +kernel
theorem dL_isHearth_153 : decode cL_isHearth 153 = .ok (.isub, 1) := by decide +kernel
theorem dL_isHearth_154 : decode cL_isHearth 154 = .ok (.if_icmp .ne 7, 3) := by decide +kernel
theorem dL_isHearth_157 : decode cL_isHearth 157 = .ok (.iconst 1, 1) := by decide +kernel
theorem dL_isHearth_158 : decode cL_isHearth 158 = .ok (.goto 4, 3) := by decide +kernel
theorem dL_isHearth_161 : decode cL_isHearth 161 = .ok (.iconst 0, 1) := by decide +kernel
theorem dL_isHearth_162 : decode cL_isHearth 162 = .ok (.istore 11, 2) := by decide +kernel
theorem dL_isHearth_164 : decode cL_isHearth 164 = .ok (.iload 11, 2) := by decide +kernel
theorem dL_isHearth_166 : decode cL_isHearth 166 = .ok (.ifCond .eq 89, 3) := by decide +kernel
theorem dL_isHearth_169 : decode cL_isHearth 169 = .ok (.aload_n 0, 1) := by decide +kernel
theorem dL_isHearth_170 : decode cL_isHearth 170 = .ok (.iload_n 1, 1) := by decide +kernel
theorem dL_isHearth_171 : decode cL_isHearth 171 = .ok (.iconst 0, 1) := by decide +kernel
theorem dL_isHearth_172 : decode cL_isHearth 172 = .ok (.invokestatic 97, 3) := by decide +kernel
theorem dL_isHearth_175 : decode cL_isHearth 175 = .ok (.aload_n 2, 1) := by decide +kernel
theorem dL_isHearth_176 : decode cL_isHearth 176 = .ok (.bipush 8, 2) := by decide +kernel
theorem dL_isHearth_178 : decode cL_isHearth 178 = .ok (.iload_n 1, 1) := by decide +kernel
theorem dL_isHearth_179 : decode cL_isHearth 179 = .ok (.imul, 1) := by decide +kernel
theorem dL_isHearth_180 : decode cL_isHearth 180 = .ok (.iaload, 1) := by decide +kernel
theorem dL_isHearth_181 : decode cL_isHearth 181 = .ok (.if_icmp .ne 74, 3) := by decide +kernel
theorem dL_isHearth_184 : decode cL_isHearth 184 = .ok (.aload_n 0, 1) := by decide +kernel
theorem dL_isHearth_185 : decode cL_isHearth 185 = .ok (.iload_n 1, 1) := by decide +kernel
theorem dL_isHearth_186 : decode cL_isHearth 186 = .ok (.iconst 1, 1) := by decide +kernel
theorem dL_isHearth_187 : decode cL_isHearth 187 = .ok (.invokestatic 97, 3) := by decide +kernel
theorem dL_isHearth_190 : decode cL_isHearth 190 = .ok (.iload 7, 2) := by decide +kernel
theorem dL_isHearth_192 : decode cL_isHearth 192 = .ok (.if_icmp .ne 63, 3) := by decide +kernel
theorem dL_isHearth_195 : decode cL_isHearth 195 = .ok (.aload_n 0, 1) := by decide +kernel
theorem dL_isHearth_196 : decode cL_isHearth 196 = .ok (.iload_n 1, 1) := by decide +kernel
theorem dL_isHearth_197 : decode cL_isHearth 197 = .ok (.iconst 2, 1) := by decide +kernel
theorem dL_isHearth_198 : decode cL_isHearth 198 = .ok (.invokestatic 97, 3) := by decide +kernel
theorem dL_isHearth_201 : decode cL_isHearth 201 = .ok (.iload 8, 2) := by decide +kernel
theorem dL_isHearth_203 : decode cL_isHearth 203 = .ok (.if_icmp .ne 52, 3) := by decide +kernel
theorem dL_isHearth_206 : decode cL_isHearth 206 = .ok (.aload_n 0, 1) := by decide +kernel
theorem dL_isHearth_207 : decode cL_isHearth 207 = .ok (.iload_n 1, 1) := by decide +kernel
theorem dL_isHearth_208 : decode cL_isHearth 208 = .ok (.iconst 3, 1) := by decide +kernel
theorem dL_isHearth_209 : decode cL_isHearth 209 = .ok (.invokestatic 97, 3) := by decide +kernel
theorem dL_isHearth_212 : decode cL_isHearth 212 = .ok (.iload 6, 2) := by decide +kernel
theorem dL_isHearth_214 : decode cL_isHearth 214 = .ok (.if_icmp .ne 41, 3) := by decide +kernel
theorem dL_isHearth_217 : decode cL_isHearth 217 = .ok (.aload_n 0, 1) := by decide +kernel
theorem dL_isHearth_218 : decode cL_isHearth 218 = .ok (.iload_n 1, 1) := by decide +kernel
theorem dL_isHearth_219 : decode cL_isHearth 219 = .ok (.iconst 4, 1) := by decide +kernel
theorem dL_isHearth_220 : decode cL_isHearth 220 = .ok (.invokestatic 97, 3) := by decide +kernel
theorem dL_isHearth_223 : decode cL_isHearth 223 = .ok (.iload 9, 2) := by decide +kernel
theorem dL_isHearth_225 : decode cL_isHearth 225 = .ok (.if_icmp .ne 30, 3) := by decide +kernel
theorem dL_isHearth_228 : decode cL_isHearth 228 = .ok (.aload_n 0, 1) := by decide +kernel
theorem dL_isHearth_229 : decode cL_isHearth 229 = .ok (.iload_n 1, 1) := by decide +kernel
theorem dL_isHearth_230 : decode cL_isHearth 230 = .ok (.iconst 5, 1) := by decide +kernel
theorem dL_isHearth_231 : decode cL_isHearth 231 = .ok (.invokestatic 97, 3) := by decide +kernel
theorem dL_isHearth_234 : decode cL_isHearth 234 = .ok (.iload 10, 2) := by decide +kernel
theorem dL_isHearth_236 : decode cL_isHearth 236 = .ok (.if_icmp .ne 19, 3) := by decide +kernel
theorem dL_isHearth_239 : decode cL_isHearth 239 = .ok (.aload_n 0, 1) := by decide +kernel
theorem dL_isHearth_240 : decode cL_isHearth 240 = .ok (.iload_n 1, 1) := by decide +kernel
theorem dL_isHearth_241 : decode cL_isHearth 241 = .ok (.bipush 6, 2) := by decide +kernel
theorem dL_isHearth_243 : decode cL_isHearth 243 = .ok (.invokestatic 97, 3) := by decide +kernel
theorem dL_isHearth_246 : decode cL_isHearth 246 = .ok (.iload 10, 2) := by decide +kernel
theorem dL_isHearth_248 : decode cL_isHearth 248 = .ok (.if_icmp .ne 7, 3) := by decide +kernel
theorem dL_isHearth_251 : decode cL_isHearth 251 = .ok (.iconst 1, 1) := by decide +kernel
theorem dL_isHearth_252 : decode cL_isHearth 252 = .ok (.goto 4, 3) := by decide +kernel
theorem dL_isHearth_255 : decode cL_isHearth 255 = .ok (.iconst 0, 1) := by decide +kernel
theorem dL_isHearth_256 : decode cL_isHearth 256 = .ok (.istore 11, 2) := by decide +kernel
theorem dL_isHearth_258 : decode cL_isHearth 258 = .ok (.bipush 7, 2) := by decide +kernel
theorem dL_isHearth_260 : decode cL_isHearth 260 = .ok (.istore 12, 2) := by decide +kernel
theorem dL_isHearth_262 : decode cL_isHearth 262 = .ok (.iload 12, 2) := by decide +kernel
theorem dL_isHearth_264 : decode cL_isHearth 264 = .ok (.bipush 12, 2) := by decide +kernel
theorem dL_isHearth_266 : decode cL_isHearth 266 = .ok (.if_icmp .ge 42, 3) := by decide +kernel
theorem dL_isHearth_269 : decode cL_isHearth 269 = .ok (.iload 11, 2) := by decide +kernel
theorem dL_isHearth_271 : decode cL_isHearth 271 = .ok (.ifCond .eq 28, 3) := by decide +kernel
theorem dL_isHearth_274 : decode cL_isHearth 274 = .ok (.aload_n 0, 1) := by decide +kernel
theorem dL_isHearth_275 : decode cL_isHearth 275 = .ok (.iload_n 1, 1) := by decide +kernel
theorem dL_isHearth_276 : decode cL_isHearth 276 = .ok (.iload 12, 2) := by decide +kernel
theorem dL_isHearth_278 : decode cL_isHearth 278 = .ok (.invokestatic 97, 3) := by decide +kernel
theorem dL_isHearth_281 : decode cL_isHearth 281 = .ok (.aload_n 2, 1) := by decide +kernel
theorem dL_isHearth_282 : decode cL_isHearth 282 = .ok (.bipush 8, 2) := by decide +kernel
theorem dL_isHearth_284 : decode cL_isHearth 284 = .ok (.iload_n 1, 1) := by decide +kernel
theorem dL_isHearth_285 : decode cL_isHearth 285 = .ok (.imul, 1) := by decide +kernel
theorem dL_isHearth_286 : decode cL_isHearth 286 = .ok (.iload 12, 2) := by decide +kernel
theorem dL_isHearth_288 : decode cL_isHearth 288 = .ok (.iadd, 1) := by decide +kernel
theorem dL_isHearth_289 : decode cL_isHearth 289 = .ok (.iconst 4, 1) := by decide +kernel
theorem dL_isHearth_290 : decode cL_isHearth 290 = .ok (.isub, 1) := by decide +kernel
theorem dL_isHearth_291 : decode cL_isHearth 291 = .ok (.iaload, 1) := by decide +kernel
theorem dL_isHearth_292 : decode cL_isHearth 292 = .ok (.if_icmp .ne 7, 3) := by decide +kernel
theorem dL_isHearth_295 : decode cL_isHearth 295 = .ok (.iconst 1, 1) := by decide +kernel
theorem dL_isHearth_296 : decode cL_isHearth 296 = .ok (.goto 4, 3) := by decide +kernel
theorem dL_isHearth_299 : decode cL_isHearth 299 = .ok (.iconst 0, 1) := by decide +kernel
theorem dL_isHearth_300 : decode cL_isHearth 300 = .ok (.istore 11, 2) := by decide +kernel
theorem dL_isHearth_302 : decode cL_isHearth 302 = .ok (.iinc 12 1, 3) := by decide +kernel
theorem dL_isHearth_305 : decode cL_isHearth 305 = .ok (.goto (-43), 3) := by decide +kernel
theorem dL_isHearth_308 : decode cL_isHearth 308 = .ok (.iload 11, 2) := by decide +kernel
theorem dL_isHearth_310 : decode cL_isHearth 310 = .ok (.ireturn, 1) := by decide +kernel
set_option maxRecDepth 20000 in
theorem ggL_areCounts_L_hearthOf : GoodIn wsL_areCounts wsL_hearthOf := goodIn_ca (goodIn_ca (goodIn_r _ [4, 5, 6, 7, 8, 9, 10, 11, 12, 13, 14, 15, 16, 17, 18, 19, 20, 21, 22, 23, 24, 25, 26, 27, 28, 29, 30, 31, 32, 33, 34, 35, 36, 37, 38, 39, 40, 41, 42, 43, 44, 45, 46, 47, 48, 49, 50, 51, 52, 53, 54, 55, 56, 57, 58, 114, 115, 116, 117, 118, 119] (by decide +kernel) (by decide +kernel)) (goodIn_sub (fun _ h => List.mem_cons_of_mem _ (List.mem_append_left _ (List.mem_append_right _ h))) (by decide +kernel))) (goodIn_sub (fun _ h => List.mem_cons_of_mem _ (List.mem_append_right _ h)) (by decide +kernel))
set_option maxRecDepth 20000 in
theorem gL_areCounts_L_hearthOf : GoodIn wsL_areCounts (va_wsS RL 97 yL_hearthOf wsL_hearthOf) := goodIn_app (goodIn_of _ (by decide +kernel)) ggL_areCounts_L_hearthOf
set_option maxRecDepth 20000 in
theorem ggL_areCounts_L_count : GoodIn wsL_areCounts wsL_count := goodIn_ca (goodIn_r _ [61, 6, 62, 63, 64, 10, 65, 66, 12, 18, 19, 20, 21, 22, 23, 24, 25, 67, 68, 69, 70, 71, 72, 73, 74, 75, 29, 76, 31, 32, 33, 34, 35, 77, 78, 79, 80, 81, 82, 83, 84, 85, 86, 87, 88, 89, 90, 91, 92, 93, 94, 95, 96, 39, 40, 41, 42, 97, 98, 99, 100, 43, 44, 45, 46, 47, 48, 49, 50, 101, 102, 103, 104, 51, 52, 53, 54, 36, 37, 38, 114, 115, 116, 117, 118, 120, 121, 122, 123, 119] (by decide +kernel) (by decide +kernel)) (goodIn_sub (fun _ h => List.mem_cons_of_mem _ (List.mem_append_right _ h)) (by decide +kernel))
set_option maxRecDepth 20000 in
theorem gL_areCounts_L_count : GoodIn wsL_areCounts (va_wsS RL 100 yL_count wsL_count) := goodIn_app (goodIn_of _ (by decide +kernel)) ggL_areCounts_L_count
set_option maxRecDepth 20000 in
theorem ggL_areCounts_L_workers : GoodIn wsL_areCounts wsL_workers := goodIn_r _ [107] (by decide +kernel) (by decide +kernel)
set_option maxRecDepth 20000 in
theorem gL_areCounts_L_workers : GoodIn wsL_areCounts (va_wsS RL 89 yL_workers wsL_workers) := goodIn_app (goodIn_of _ (by decide +kernel)) ggL_areCounts_L_workers
set_option maxRecDepth 20000 in
theorem ggL_areCounts_X3_dryness : GoodIn wsL_areCounts wsX3_dryness := goodIn_r _ [111, 12, 112, 94, 95, 29, 96, 39, 40, 41, 42, 31, 32, 33, 34, 35, 113, 90, 91, 92, 114, 115, 116, 117, 118, 119] (by decide +kernel) (by decide +kernel)
set_option maxRecDepth 20000 in
theorem gL_areCounts_X3_dryness : GoodIn wsL_areCounts (wsV RL 103 RX3 yX3_dryness wsX3_dryness) := goodIn_app (goodIn_of _ (by decide +kernel)) ggL_areCounts_X3_dryness
theorem dL_areCounts_0 : decode cL_areCounts 0 = .ok (.aload_n 1, 1) := by decide +kernel
theorem dL_areCounts_1 : decode cL_areCounts 1 = .ok (.iconst 5, 1) := by decide +kernel
theorem dL_areCounts_2 : decode cL_areCounts 2 = .ok (.iaload, 1) := by decide +kernel
theorem dL_areCounts_3 : decode cL_areCounts 3 = .ok (.aload_n 1, 1) := by decide +kernel
theorem dL_areCounts_4 : decode cL_areCounts 4 = .ok (.bipush 6, 2) := by decide +kernel
theorem dL_areCounts_6 : decode cL_areCounts 6 = .ok (.iaload, 1) := by decide +kernel
theorem dL_areCounts_7 : decode cL_areCounts 7 = .ok (.iadd, 1) := by decide +kernel
theorem dL_areCounts_8 : decode cL_areCounts 8 = .ok (.aload_n 1, 1) := by decide +kernel
theorem dL_areCounts_9 : decode cL_areCounts 9 = .ok (.bipush 7, 2) := by decide +kernel
theorem dL_areCounts_11 : decode cL_areCounts 11 = .ok (.iaload, 1) := by decide +kernel
theorem dL_areCounts_12 : decode cL_areCounts 12 = .ok (.iadd, 1) := by decide +kernel
theorem dL_areCounts_13 : decode cL_areCounts 13 = .ok (.aload_n 1, 1) := by decide +kernel
theorem dL_areCounts_14 : decode cL_areCounts 14 = .ok (.bipush 8, 2) := by decide +kernel
theorem dL_areCounts_16 : decode cL_areCounts 16 = .ok (.iaload, 1) := by decide +kernel
theorem dL_areCounts_17 : decode cL_areCounts 17 = .ok (.iadd, 1) := by decide +kernel
theorem dL_areCounts_18 : decode cL_areCounts 18 = .ok (.istore 7, 2) := by decide +kernel
theorem dL_areCounts_20 : decode cL_areCounts 20 = .ok (.iconst 0, 1) := by decide +kernel
theorem dL_areCounts_21 : decode cL_areCounts 21 = .ok (.istore 8, 2) := by decide +kernel
theorem dL_areCounts_23 : decode cL_areCounts 23 = .ok (.iconst 0, 1) := by decide +kernel
theorem dL_areCounts_24 : decode cL_areCounts 24 = .ok (.istore 9, 2) := by decide +kernel
theorem dL_areCounts_26 : decode cL_areCounts 26 = .ok (.iconst 0, 1) := by decide +kernel
theorem dL_areCounts_27 : decode cL_areCounts 27 = .ok (.istore 10, 2) := by decide +kernel
theorem dL_areCounts_29 : decode cL_areCounts 29 = .ok (.iconst 0, 1) := by decide +kernel
theorem dL_areCounts_30 : decode cL_areCounts 30 = .ok (.istore 11, 2) := by decide +kernel
theorem dL_areCounts_32 : decode cL_areCounts 32 = .ok (.iconst 0, 1) := by decide +kernel
theorem dL_areCounts_33 : decode cL_areCounts 33 = .ok (.istore 12, 2) := by decide +kernel
theorem dL_areCounts_35 : decode cL_areCounts 35 = .ok (.iconst 0, 1) := by decide +kernel
theorem dL_areCounts_36 : decode cL_areCounts 36 = .ok (.istore 13, 2) := by decide +kernel
theorem dL_areCounts_38 : decode cL_areCounts 38 = .ok (.iconst 0, 1) := by decide +kernel
theorem dL_areCounts_39 : decode cL_areCounts 39 = .ok (.istore 14, 2) := by decide +kernel
theorem dL_areCounts_41 : decode cL_areCounts 41 = .ok (.iload 14, 2) := by decide +kernel
theorem dL_areCounts_43 : decode cL_areCounts 43 = .ok (.bipush 20, 2) := by decide +kernel
theorem dL_areCounts_45 : decode cL_areCounts 45 = .ok (.if_icmp .ge 34, 3) := by decide +kernel
theorem dL_areCounts_48 : decode cL_areCounts 48 = .ok (.iload 8, 2) := by decide +kernel
theorem dL_areCounts_50 : decode cL_areCounts 50 = .ok (.aload_n 3, 1) := by decide +kernel
theorem dL_areCounts_51 : decode cL_areCounts 51 = .ok (.iload 14, 2) := by decide +kernel
theorem dL_areCounts_53 : decode cL_areCounts 53 = .ok (.iaload, 1) := by decide +kernel
theorem dL_areCounts_54 : decode cL_areCounts 54 = .ok (.aload 4, 2) := by decide +kernel
theorem dL_areCounts_56 : decode cL_areCounts 56 = .ok (.iload 14, 2) := by decide +kernel
theorem dL_areCounts_58 : decode cL_areCounts 58 = .ok (.iaload, 1) := by decide +kernel
theorem dL_areCounts_59 : decode cL_areCounts 59 = .ok (.iadd, 1) := by decide +kernel
theorem dL_areCounts_60 : decode cL_areCounts 60 = .ok (.iadd, 1) := by decide +kernel
theorem dL_areCounts_61 : decode cL_areCounts 61 = .ok (.istore 8, 2) := by decide +kernel
theorem dL_areCounts_63 : decode cL_areCounts 63 = .ok (.iload 9, 2) := by decide +kernel
theorem dL_areCounts_65 : decode cL_areCounts 65 = .ok (.aload 5, 2) := by decide +kernel
theorem dL_areCounts_67 : decode cL_areCounts 67 = .ok (.iload 14, 2) := by decide +kernel
theorem dL_areCounts_69 : decode cL_areCounts 69 = .ok (.iaload, 1) := by decide +kernel
theorem dL_areCounts_70 : decode cL_areCounts 70 = .ok (.iadd, 1) := by decide +kernel
theorem dL_areCounts_71 : decode cL_areCounts 71 = .ok (.istore 9, 2) := by decide +kernel
theorem dL_areCounts_73 : decode cL_areCounts 73 = .ok (.iinc 14 1, 3) := by decide +kernel
theorem dL_areCounts_76 : decode cL_areCounts 76 = .ok (.goto (-35), 3) := by decide +kernel
theorem dL_areCounts_79 : decode cL_areCounts 79 = .ok (.iconst 0, 1) := by decide +kernel
theorem dL_areCounts_80 : decode cL_areCounts 80 = .ok (.istore 14, 2) := by decide +kernel
theorem dL_areCounts_82 : decode cL_areCounts 82 = .ok (.iload 14, 2) := by decide +kernel
theorem dL_areCounts_84 : decode cL_areCounts 84 = .ok (.iconst 5, 1) := by decide +kernel
theorem dL_areCounts_85 : decode cL_areCounts 85 = .ok (.if_icmp .ge 78, 3) := by decide +kernel
theorem dL_areCounts_88 : decode cL_areCounts 88 = .ok (.iload 10, 2) := by decide +kernel
theorem dL_areCounts_90 : decode cL_areCounts 90 = .ok (.aload_n 2, 1) := by decide +kernel
theorem dL_areCounts_91 : decode cL_areCounts 91 = .ok (.bipush 8, 2) := by decide +kernel
theorem dL_areCounts_93 : decode cL_areCounts 93 = .ok (.iload 14, 2) := by decide +kernel
theorem dL_areCounts_95 : decode cL_areCounts 95 = .ok (.imul, 1) := by decide +kernel
theorem dL_areCounts_96 : decode cL_areCounts 96 = .ok (.iconst 2, 1) := by decide +kernel
theorem dL_areCounts_97 : decode cL_areCounts 97 = .ok (.iadd, 1) := by decide +kernel
theorem dL_areCounts_98 : decode cL_areCounts 98 = .ok (.iaload, 1) := by decide +kernel
theorem dL_areCounts_99 : decode cL_areCounts 99 = .ok (.iadd, 1) := by decide +kernel
theorem dL_areCounts_100 : decode cL_areCounts 100 = .ok (.istore 10, 2) := by decide +kernel
theorem dL_areCounts_102 : decode cL_areCounts 102 = .ok (.iload 11, 2) := by decide +kernel
theorem dL_areCounts_104 : decode cL_areCounts 104 = .ok (.aload_n 2, 1) := by decide +kernel
theorem dL_areCounts_105 : decode cL_areCounts 105 = .ok (.bipush 8, 2) := by decide +kernel
theorem dL_areCounts_107 : decode cL_areCounts 107 = .ok (.iload 14, 2) := by decide +kernel
theorem dL_areCounts_109 : decode cL_areCounts 109 = .ok (.imul, 1) := by decide +kernel
theorem dL_areCounts_110 : decode cL_areCounts 110 = .ok (.bipush 6, 2) := by decide +kernel
theorem dL_areCounts_112 : decode cL_areCounts 112 = .ok (.iadd, 1) := by decide +kernel
theorem dL_areCounts_113 : decode cL_areCounts 113 = .ok (.iaload, 1) := by decide +kernel
theorem dL_areCounts_114 : decode cL_areCounts 114 = .ok (.iadd, 1) := by decide +kernel
theorem dL_areCounts_115 : decode cL_areCounts 115 = .ok (.istore 11, 2) := by decide +kernel
theorem dL_areCounts_117 : decode cL_areCounts 117 = .ok (.iload 12, 2) := by decide +kernel
theorem dL_areCounts_119 : decode cL_areCounts 119 = .ok (.aload_n 0, 1) := by decide +kernel
theorem dL_areCounts_120 : decode cL_areCounts 120 = .ok (.iload 14, 2) := by decide +kernel
theorem dL_areCounts_122 : decode cL_areCounts 122 = .ok (.iconst 4, 1) := by decide +kernel
theorem dL_areCounts_123 : decode cL_areCounts 123 = .ok (.invokestatic 97, 3) := by decide +kernel
theorem dL_areCounts_126 : decode cL_areCounts 126 = .ok (.ifCond .le 7, 3) := by decide +kernel
theorem dL_areCounts_129 : decode cL_areCounts 129 = .ok (.iconst 1, 1) := by decide +kernel
theorem dL_areCounts_130 : decode cL_areCounts 130 = .ok (.goto 4, 3) := by decide +kernel
theorem dL_areCounts_133 : decode cL_areCounts 133 = .ok (.iconst 0, 1) := by decide +kernel
theorem dL_areCounts_134 : decode cL_areCounts 134 = .ok (.iadd, 1) := by decide +kernel
theorem dL_areCounts_135 : decode cL_areCounts 135 = .ok (.istore 12, 2) := by decide +kernel
theorem dL_areCounts_137 : decode cL_areCounts 137 = .ok (.iload 13, 2) := by decide +kernel
theorem dL_areCounts_139 : decode cL_areCounts 139 = .ok (.aload_n 0, 1) := by decide +kernel
theorem dL_areCounts_140 : decode cL_areCounts 140 = .ok (.iload 14, 2) := by decide +kernel
theorem dL_areCounts_142 : decode cL_areCounts 142 = .ok (.iconst 5, 1) := by decide +kernel
theorem dL_areCounts_143 : decode cL_areCounts 143 = .ok (.invokestatic 97, 3) := by decide +kernel
theorem dL_areCounts_146 : decode cL_areCounts 146 = .ok (.ifCond .le 7, 3) := by decide +kernel
theorem dL_areCounts_149 : decode cL_areCounts 149 = .ok (.iconst 1, 1) := by decide +kernel
theorem dL_areCounts_150 : decode cL_areCounts 150 = .ok (.goto 4, 3) := by decide +kernel
theorem dL_areCounts_153 : decode cL_areCounts 153 = .ok (.iconst 0, 1) := by decide +kernel
theorem dL_areCounts_154 : decode cL_areCounts 154 = .ok (.iadd, 1) := by decide +kernel
theorem dL_areCounts_155 : decode cL_areCounts 155 = .ok (.istore 13, 2) := by decide +kernel
theorem dL_areCounts_157 : decode cL_areCounts 157 = .ok (.iinc 14 1, 3) := by decide +kernel
theorem dL_areCounts_160 : decode cL_areCounts 160 = .ok (.goto (-78), 3) := by decide +kernel
theorem dL_areCounts_163 : decode cL_areCounts 163 = .ok (.aload_n 0, 1) := by decide +kernel
theorem dL_areCounts_164 : decode cL_areCounts 164 = .ok (.iconst 0, 1) := by decide +kernel
theorem dL_areCounts_165 : decode cL_areCounts 165 = .ok (.invokestatic 100, 3) := by decide +kernel
theorem dL_areCounts_168 : decode cL_areCounts 168 = .ok (.aload_n 1, 1) := by decide +kernel
theorem dL_areCounts_169 : decode cL_areCounts 169 = .ok (.iconst 0, 1) := by decide +kernel
theorem dL_areCounts_170 : decode cL_areCounts 170 = .ok (.iaload, 1) := by decide +kernel
theorem dL_areCounts_171 : decode cL_areCounts 171 = .ok (.if_icmp .ne 135, 3) := by decide +kernel
theorem dL_areCounts_174 : decode cL_areCounts 174 = .ok (.aload_n 0, 1) := by decide +kernel
theorem dL_areCounts_175 : decode cL_areCounts 175 = .ok (.iconst 1, 1) := by decide +kernel
theorem dL_areCounts_176 : decode cL_areCounts 176 = .ok (.invokestatic 100, 3) := by decide +kernel
theorem dL_areCounts_179 : decode cL_areCounts 179 = .ok (.aload_n 1, 1) := by decide +kernel
theorem dL_areCounts_180 : decode cL_areCounts 180 = .ok (.iconst 1, 1) := by decide +kernel
theorem dL_areCounts_181 : decode cL_areCounts 181 = .ok (.iaload, 1) := by decide +kernel
theorem dL_areCounts_182 : decode cL_areCounts 182 = .ok (.if_icmp .ne 124, 3) := by decide +kernel
theorem dL_areCounts_185 : decode cL_areCounts 185 = .ok (.aload_n 0, 1) := by decide +kernel
theorem dL_areCounts_186 : decode cL_areCounts 186 = .ok (.iconst 2, 1) := by decide +kernel
theorem dL_areCounts_187 : decode cL_areCounts 187 = .ok (.invokestatic 100, 3) := by decide +kernel
theorem dL_areCounts_190 : decode cL_areCounts 190 = .ok (.iconst (-1), 1) := by decide +kernel
theorem dL_areCounts_191 : decode cL_areCounts 191 = .ok (.iconst (-1), 1) := by decide +kernel
theorem dL_areCounts_192 : decode cL_areCounts 192 = .ok (.aload 6, 2) := by decide +kernel
theorem dL_areCounts_194 : decode cL_areCounts 194 = .ok (.invokestatic 89, 3) := by decide +kernel
theorem dL_areCounts_197 : decode cL_areCounts 197 = .ok (.if_icmp .ne 109, 3) := by decide +kernel
theorem dL_areCounts_200 : decode cL_areCounts 200 = .ok (.aload_n 0, 1) := by decide +kernel
theorem dL_areCounts_201 : decode cL_areCounts 201 = .ok (.iconst 3, 1) := by decide +kernel
theorem dL_areCounts_202 : decode cL_areCounts 202 = .ok (.invokestatic 100, 3) := by decide +kernel
theorem dL_areCounts_205 : decode cL_areCounts 205 = .ok (.iload 7, 2) := by decide +kernel
theorem dL_areCounts_207 : decode cL_areCounts 207 = .ok (.if_icmp .ne 99, 3) := by decide +kernel
theorem dL_areCounts_210 : decode cL_areCounts 210 = .ok (.aload_n 0, 1) := by decide +kernel
theorem dL_areCounts_211 : decode cL_areCounts 211 = .ok (.iconst 4, 1) := by decide +kernel
theorem dL_areCounts_212 : decode cL_areCounts 212 = .ok (.invokestatic 100, 3) := by decide +kernel
theorem dL_areCounts_215 : decode cL_areCounts 215 = .ok (.iload 8, 2) := by decide +kernel
theorem dL_areCounts_217 : decode cL_areCounts 217 = .ok (.iload 9, 2) := by decide +kernel
theorem dL_areCounts_219 : decode cL_areCounts 219 = .ok (.iadd, 1) := by decide +kernel
theorem dL_areCounts_220 : decode cL_areCounts 220 = .ok (.if_icmp .ne 86, 3) := by decide +kernel
theorem dL_areCounts_223 : decode cL_areCounts 223 = .ok (.aload_n 0, 1) := by decide +kernel
theorem dL_areCounts_224 : decode cL_areCounts 224 = .ok (.iconst 5, 1) := by decide +kernel
theorem dL_areCounts_225 : decode cL_areCounts 225 = .ok (.invokestatic 100, 3) := by decide +kernel
theorem dL_areCounts_228 : decode cL_areCounts 228 = .ok (.iload 10, 2) := by decide +kernel
theorem dL_areCounts_230 : decode cL_areCounts 230 = .ok (.if_icmp .ne 76, 3) := by decide +kernel
theorem dL_areCounts_233 : decode cL_areCounts 233 = .ok (.aload_n 0, 1) := by decide +kernel
theorem dL_areCounts_234 : decode cL_areCounts 234 = .ok (.bipush 6, 2) := by decide +kernel
theorem dL_areCounts_236 : decode cL_areCounts 236 = .ok (.invokestatic 100, 3) := by decide +kernel
theorem dL_areCounts_239 : decode cL_areCounts 239 = .ok (.iload 11, 2) := by decide +kernel
theorem dL_areCounts_241 : decode cL_areCounts 241 = .ok (.if_icmp .ne 65, 3) := by decide +kernel
theorem dL_areCounts_244 : decode cL_areCounts 244 = .ok (.aload_n 0, 1) := by decide +kernel
theorem dL_areCounts_245 : decode cL_areCounts 245 = .ok (.bipush 7, 2) := by decide +kernel
theorem dL_areCounts_247 : decode cL_areCounts 247 = .ok (.invokestatic 100, 3) := by decide +kernel
theorem dL_areCounts_250 : decode cL_areCounts 250 = .ok (.iload 12, 2) := by decide +kernel
theorem dL_areCounts_252 : decode cL_areCounts 252 = .ok (.if_icmp .ne 54, 3) := by decide +kernel
theorem dL_areCounts_255 : decode cL_areCounts 255 = .ok (.aload_n 0, 1) := by decide +kernel
theorem dL_areCounts_256 : decode cL_areCounts 256 = .ok (.bipush 8, 2) := by decide +kernel
theorem dL_areCounts_258 : decode cL_areCounts 258 = .ok (.invokestatic 100, 3) := by decide +kernel
theorem dL_areCounts_261 : decode cL_areCounts 261 = .ok (.iload 13, 2) := by decide +kernel
theorem dL_areCounts_263 : decode cL_areCounts 263 = .ok (.if_icmp .ne 43, 3) := by decide +kernel
theorem dL_areCounts_266 : decode cL_areCounts 266 = .ok (.aload_n 0, 1) := by decide +kernel
theorem dL_areCounts_267 : decode cL_areCounts 267 = .ok (.bipush 9, 2) := by decide +kernel
theorem dL_areCounts_269 : decode cL_areCounts 269 = .ok (.invokestatic 100, 3) := by decide +kernel
theorem dL_areCounts_272 : decode cL_areCounts 272 = .ok (.aload_n 1, 1) := by decide +kernel
theorem dL_areCounts_273 : decode cL_areCounts 273 = .ok (.iconst 2, 1) := by decide +kernel
theorem dL_areCounts_274 : decode cL_areCounts 274 = .ok (.iaload, 1) := by decide +kernel
theorem dL_areCounts_275 : decode cL_areCounts 275 = .ok (.if_icmp .ne 31, 3) := by decide +kernel
theorem dL_areCounts_278 : decode cL_areCounts 278 = .ok (.aload_n 0, 1) := by decide +kernel
theorem dL_areCounts_279 : decode cL_areCounts 279 = .ok (.bipush 10, 2) := by decide +kernel
theorem dL_areCounts_281 : decode cL_areCounts 281 = .ok (.invokestatic 100, 3) := by decide +kernel
theorem dL_areCounts_284 : decode cL_areCounts 284 = .ok (.aload_n 1, 1) := by decide +kernel
theorem dL_areCounts_285 : decode cL_areCounts 285 = .ok (.iconst 3, 1) := by decide +kernel
theorem dL_areCounts_286 : decode cL_areCounts 286 = .ok (.iaload, 1) := by decide +kernel
theorem dL_areCounts_287 : decode cL_areCounts 287 = .ok (.if_icmp .ne 19, 3) := by decide +kernel
theorem dL_areCounts_290 : decode cL_areCounts 290 = .ok (.aload_n 0, 1) := by decide +kernel
theorem dL_areCounts_291 : decode cL_areCounts 291 = .ok (.bipush 11, 2) := by decide +kernel
theorem dL_areCounts_293 : decode cL_areCounts 293 = .ok (.invokestatic 100, 3) := by decide +kernel
theorem dL_areCounts_296 : decode cL_areCounts 296 = .ok (.aload_n 1, 1) := by decide +kernel
theorem dL_areCounts_297 : decode cL_areCounts 297 = .ok (.iconst 4, 1) := by decide +kernel
theorem dL_areCounts_298 : decode cL_areCounts 298 = .ok (.iaload, 1) := by decide +kernel
theorem dL_areCounts_299 : decode cL_areCounts 299 = .ok (.if_icmp .ne 7, 3) := by decide +kernel
theorem dL_areCounts_302 : decode cL_areCounts 302 = .ok (.iconst 1, 1) := by decide +kernel
theorem dL_areCounts_303 : decode cL_areCounts 303 = .ok (.goto 4, 3) := by decide +kernel
theorem dL_areCounts_306 : decode cL_areCounts 306 = .ok (.iconst 0, 1) := by decide +kernel
theorem dL_areCounts_307 : decode cL_areCounts 307 = .ok (.istore 14, 2) := by decide +kernel
theorem dL_areCounts_309 : decode cL_areCounts 309 = .ok (.iload 14, 2) := by decide +kernel
theorem dL_areCounts_311 : decode cL_areCounts 311 = .ok (.ifCond .eq 57, 3) := by decide +kernel
theorem dL_areCounts_314 : decode cL_areCounts 314 = .ok (.iload 7, 2) := by decide +kernel
theorem dL_areCounts_316 : decode cL_areCounts 316 = .ok (.iload 8, 2) := by decide +kernel
theorem dL_areCounts_318 : decode cL_areCounts 318 = .ok (.iadd, 1) := by decide +kernel
theorem dL_areCounts_319 : decode cL_areCounts 319 = .ok (.iload 9, 2) := by decide +kernel
theorem dL_areCounts_321 : decode cL_areCounts 321 = .ok (.iadd, 1) := by decide +kernel
theorem dL_areCounts_322 : decode cL_areCounts 322 = .ok (.iload 10, 2) := by decide +kernel
theorem dL_areCounts_324 : decode cL_areCounts 324 = .ok (.iadd, 1) := by decide +kernel
theorem dL_areCounts_325 : decode cL_areCounts 325 = .ok (.iload 11, 2) := by decide +kernel
theorem dL_areCounts_327 : decode cL_areCounts 327 = .ok (.iadd, 1) := by decide +kernel
theorem dL_areCounts_328 : decode cL_areCounts 328 = .ok (.sipush 8000, 3) := by decide +kernel
theorem dL_areCounts_331 : decode cL_areCounts 331 = .ok (.if_icmp .ne 37, 3) := by decide +kernel
theorem dL_areCounts_334 : decode cL_areCounts 334 = .ok (.aload_n 0, 1) := by decide +kernel
theorem dL_areCounts_335 : decode cL_areCounts 335 = .ok (.invokevirtual 103, 3) := by decide +kernel
theorem dL_areCounts_338 : decode cL_areCounts 338 = .ok (.iload 8, 2) := by decide +kernel
theorem dL_areCounts_340 : decode cL_areCounts 340 = .ok (.iload 9, 2) := by decide +kernel
theorem dL_areCounts_342 : decode cL_areCounts 342 = .ok (.iadd, 1) := by decide +kernel
theorem dL_areCounts_343 : decode cL_areCounts 343 = .ok (.ifCond .ne 7, 3) := by decide +kernel
theorem dL_areCounts_346 : decode cL_areCounts 346 = .ok (.dconst 1, 1) := by decide +kernel
theorem dL_areCounts_347 : decode cL_areCounts 347 = .ok (.goto 13, 3) := by decide +kernel
theorem dL_areCounts_350 : decode cL_areCounts 350 = .ok (.iload 9, 2) := by decide +kernel
theorem dL_areCounts_352 : decode cL_areCounts 352 = .ok (.i2d, 1) := by decide +kernel
theorem dL_areCounts_353 : decode cL_areCounts 353 = .ok (.iload 8, 2) := by decide +kernel
theorem dL_areCounts_355 : decode cL_areCounts 355 = .ok (.iload 9, 2) := by decide +kernel
theorem dL_areCounts_357 : decode cL_areCounts 357 = .ok (.iadd, 1) := by decide +kernel
theorem dL_areCounts_358 : decode cL_areCounts 358 = .ok (.i2d, 1) := by decide +kernel
theorem dL_areCounts_359 : decode cL_areCounts 359 = .ok (.ddiv, 1) := by decide +kernel
theorem dL_areCounts_360 : decode cL_areCounts 360 = .ok (.dcmp .l, 1) := by decide +kernel
theorem dL_areCounts_361 : decode cL_areCounts 361 = .ok (.ifCond .ne 7, 3) := by decide +kernel
theorem dL_areCounts_364 : decode cL_areCounts 364 = .ok (.iconst 1, 1) := by decide +kernel
theorem dL_areCounts_365 : decode cL_areCounts 365 = .ok (.goto 4, 3) := by decide +kernel
theorem dL_areCounts_368 : decode cL_areCounts 368 = .ok (.iconst 0, 1) := by decide +kernel
theorem dL_areCounts_369 : decode cL_areCounts 369 = .ok (.ireturn, 1) := by decide +kernel
