theorem dX4_init_0 : decode cX4_init 0 = .ok (.aload_n 0, 1) := by decide +kernel
theorem dX4_init_1 : decode cX4_init 1 = .ok (.invokespecial 1, 3) := by decide +kernel
theorem dX4_init_4 : decode cX4_init 4 = .ok (.aload_n 0, 1) := by decide +kernel
theorem dX4_init_5 : decode cX4_init 5 = .ok (.sipush 157, 3) := by decide +kernel
theorem dX4_init_8 : decode cX4_init 8 = .ok (.newarray .int, 2) := by decide +kernel
theorem dX4_init_10 : decode cX4_init 10 = .ok (.putfield 7, 3) := by decide +kernel
theorem dX4_init_13 : decode cX4_init 13 = .ok (.aload_n 0, 1) := by decide +kernel
theorem dX4_init_14 : decode cX4_init 14 = .ok (.sipush 157, 3) := by decide +kernel
theorem dX4_init_17 : decode cX4_init 17 = .ok (.newarray .int, 2) := by decide +kernel
theorem dX4_init_19 : decode cX4_init 19 = .ok (.putfield 13, 3) := by decide +kernel
theorem dX4_init_22 : decode cX4_init 22 = .ok (.aload_n 0, 1) := by decide +kernel
theorem dX4_init_23 : decode cX4_init 23 = .ok (.sipush 942, 3) := by decide +kernel
theorem dX4_init_26 : decode cX4_init 26 = .ok (.newarray .int, 2) := by decide +kernel
theorem dX4_init_28 : decode cX4_init 28 = .ok (.putfield 16, 3) := by decide +kernel
theorem dX4_init_31 : decode cX4_init 31 = .ok (.aload_n 0, 1) := by decide +kernel
theorem dX4_init_32 : decode cX4_init 32 = .ok (.sipush 157, 3) := by decide +kernel
theorem dX4_init_35 : decode cX4_init 35 = .ok (.newarray .int, 2) := by decide +kernel
theorem dX4_init_37 : decode cX4_init 37 = .ok (.putfield 19, 3) := by decide +kernel
theorem dX4_init_40 : decode cX4_init 40 = .ok (.aload_n 0, 1) := by decide +kernel
theorem dX4_init_41 : decode cX4_init 41 = .ok (.bipush 60, 2) := by decide +kernel
theorem dX4_init_43 : decode cX4_init 43 = .ok (.newarray .int, 2) := by decide +kernel
theorem dX4_init_45 : decode cX4_init 45 = .ok (.putfield 22, 3) := by decide +kernel
theorem dX4_init_48 : decode cX4_init 48 = .ok (.aload_n 0, 1) := by decide +kernel
theorem dX4_init_49 : decode cX4_init 49 = .ok (.getfield 7, 3) := by decide +kernel
theorem dX4_init_52 : decode cX4_init 52 = .ok (.iconst 2, 1) := by decide +kernel
theorem dX4_init_53 : decode cX4_init 53 = .ok (.iconst 3, 1) := by decide +kernel
theorem dX4_init_54 : decode cX4_init 54 = .ok (.iastore, 1) := by decide +kernel
theorem dX4_init_55 : decode cX4_init 55 = .ok (.aload_n 0, 1) := by decide +kernel
theorem dX4_init_56 : decode cX4_init 56 = .ok (.getfield 7, 3) := by decide +kernel
theorem dX4_init_59 : decode cX4_init 59 = .ok (.iconst 3, 1) := by decide +kernel
theorem dX4_init_60 : decode cX4_init 60 = .ok (.bipush 10, 2) := by decide +kernel
theorem dX4_init_62 : decode cX4_init 62 = .ok (.iastore, 1) := by decide +kernel
theorem dX4_init_63 : decode cX4_init 63 = .ok (.aload_n 0, 1) := by decide +kernel
theorem dX4_init_64 : decode cX4_init 64 = .ok (.getfield 7, 3) := by decide +kernel
theorem dX4_init_67 : decode cX4_init 67 = .ok (.iconst 4, 1) := by decide +kernel
theorem dX4_init_68 : decode cX4_init 68 = .ok (.bipush 8, 2) := by decide +kernel
theorem dX4_init_70 : decode cX4_init 70 = .ok (.iastore, 1) := by decide +kernel
theorem dX4_init_71 : decode cX4_init 71 = .ok (.aload_n 0, 1) := by decide +kernel
theorem dX4_init_72 : decode cX4_init 72 = .ok (.getfield 7, 3) := by decide +kernel
theorem dX4_init_75 : decode cX4_init 75 = .ok (.bipush 9, 2) := by decide +kernel
theorem dX4_init_77 : decode cX4_init 77 = .ok (.iconst 1, 1) := by decide +kernel
theorem dX4_init_78 : decode cX4_init 78 = .ok (.iastore, 1) := by decide +kernel
theorem dX4_init_79 : decode cX4_init 79 = .ok (.iconst 0, 1) := by decide +kernel
theorem dX4_init_80 : decode cX4_init 80 = .ok (.istore_n 1, 1) := by decide +kernel
theorem dX4_init_81 : decode cX4_init 81 = .ok (.iload_n 1, 1) := by decide +kernel
theorem dX4_init_82 : decode cX4_init 82 = .ok (.iconst 5, 1) := by decide +kernel
theorem dX4_init_83 : decode cX4_init 83 = .ok (.if_icmp .ge 21, 3) := by decide +kernel
theorem dX4_init_86 : decode cX4_init 86 = .ok (.aload_n 0, 1) := by decide +kernel
theorem dX4_init_87 : decode cX4_init 87 = .ok (.getfield 7, 3) := by decide +kernel
theorem dX4_init_90 : decode cX4_init 90 = .ok (.bipush 10, 2) := by decide +kernel
theorem dX4_init_92 : decode cX4_init 92 = .ok (.iload_n 1, 1) := by decide +kernel
theorem dX4_init_93 : decode cX4_init 93 = .ok (.iadd, 1) := by decide +kernel
theorem dX4_init_94 : decode cX4_init 94 = .ok (.sipush 300, 3) := by decide +kernel
theorem dX4_init_97 : decode cX4_init 97 = .ok (.iastore, 1) := by decide +kernel
theorem dX4_init_98 : decode cX4_init 98 = .ok (.iinc 1 1, 3) := by decide +kernel
theorem dX4_init_101 : decode cX4_init 101 = .ok (.goto (-20), 3) := by decide +kernel
theorem dX4_init_104 : decode cX4_init 104 = .ok (.iconst 0, 1) := by decide +kernel
theorem dX4_init_105 : decode cX4_init 105 = .ok (.istore_n 1, 1) := by decide +kernel
theorem dX4_init_106 : decode cX4_init 106 = .ok (.iload_n 1, 1) := by decide +kernel
theorem dX4_init_107 : decode cX4_init 107 = .ok (.iconst 4, 1) := by decide +kernel
theorem dX4_init_108 : decode cX4_init 108 = .ok (.if_icmp .ge 32, 3) := by decide +kernel
theorem dX4_init_111 : decode cX4_init 111 = .ok (.aload_n 0, 1) := by decide +kernel
theorem dX4_init_112 : decode cX4_init 112 = .ok (.getfield 7, 3) := by decide +kernel
theorem dX4_init_115 : decode cX4_init 115 = .ok (.bipush 45, 2) := by decide +kernel
theorem dX4_init_117 : decode cX4_init 117 = .ok (.iload_n 1, 1) := by decide +kernel
theorem dX4_init_118 : decode cX4_init 118 = .ok (.iadd, 1) := by decide +kernel
theorem dX4_init_119 : decode cX4_init 119 = .ok (.sipush 2000, 3) := by decide +kernel
theorem dX4_init_122 : decode cX4_init 122 = .ok (.iastore, 1) := by decide +kernel
theorem dX4_init_123 : decode cX4_init 123 = .ok (.aload_n 0, 1) := by decide +kernel
theorem dX4_init_124 : decode cX4_init 124 = .ok (.getfield 7, 3) := by decide +kernel
theorem dX4_init_127 : decode cX4_init 127 = .ok (.bipush 49, 2) := by decide +kernel
theorem dX4_init_129 : decode cX4_init 129 = .ok (.iload_n 1, 1) := by decide +kernel
theorem dX4_init_130 : decode cX4_init 130 = .ok (.iadd, 1) := by decide +kernel
theorem dX4_init_131 : decode cX4_init 131 = .ok (.bipush 40, 2) := by decide +kernel
theorem dX4_init_133 : decode cX4_init 133 = .ok (.iastore, 1) := by decide +kernel
theorem dX4_init_134 : decode cX4_init 134 = .ok (.iinc 1 1, 3) := by decide +kernel
theorem dX4_init_137 : decode cX4_init 137 = .ok (.goto (-31), 3) := by decide +kernel
theorem dX4_init_140 : decode cX4_init 140 = .ok (.iconst 0, 1) := by decide +kernel
theorem dX4_init_141 : decode cX4_init 141 = .ok (.istore_n 1, 1) := by decide +kernel
theorem dX4_init_142 : decode cX4_init 142 = .ok (.iload_n 1, 1) := by decide +kernel
theorem dX4_init_143 : decode cX4_init 143 = .ok (.bipush 16, 2) := by decide +kernel
theorem dX4_init_145 : decode cX4_init 145 = .ok (.if_icmp .ge 32, 3) := by decide +kernel
theorem dX4_init_148 : decode cX4_init 148 = .ok (.aload_n 0, 1) := by decide +kernel
theorem dX4_init_149 : decode cX4_init 149 = .ok (.getfield 7, 3) := by decide +kernel
theorem dX4_init_152 : decode cX4_init 152 = .ok (.bipush 53, 2) := by decide +kernel
theorem dX4_init_154 : decode cX4_init 154 = .ok (.iload_n 1, 1) := by decide +kernel
theorem dX4_init_155 : decode cX4_init 155 = .ok (.iadd, 1) := by decide +kernel
theorem dX4_init_156 : decode cX4_init 156 = .ok (.iload_n 1, 1) := by decide +kernel
theorem dX4_init_157 : decode cX4_init 157 = .ok (.iconst 4, 1) := by decide +kernel
theorem dX4_init_158 : decode cX4_init 158 = .ok (.idiv, 1) := by decide +kernel
theorem dX4_init_159 : decode cX4_init 159 = .ok (.iload_n 1, 1) := by decide +kernel
theorem dX4_init_160 : decode cX4_init 160 = .ok (.iconst 4, 1) := by decide +kernel
theorem dX4_init_161 : decode cX4_init 161 = .ok (.irem, 1) := by decide +kernel
theorem dX4_init_162 : decode cX4_init 162 = .ok (.if_icmp .ne 7, 3) := by decide +kernel
theorem dX4_init_165 : decode cX4_init 165 = .ok (.iconst 0, 1) := by decide +kernel
theorem dX4_init_166 : decode cX4_init 166 = .ok (.goto 4, 3) := by decide +kernel
theorem dX4_init_169 : decode cX4_init 169 = .ok (.iconst 3, 1) := by decide +kernel
theorem dX4_init_170 : decode cX4_init 170 = .ok (.iastore, 1) := by decide +kernel
theorem dX4_init_171 : decode cX4_init 171 = .ok (.iinc 1 1, 3) := by decide +kernel
theorem dX4_init_174 : decode cX4_init 174 = .ok (.goto (-32), 3) := by decide +kernel
theorem dX4_init_177 : decode cX4_init 177 = .ok (.iconst 0, 1) := by decide +kernel
theorem dX4_init_178 : decode cX4_init 178 = .ok (.istore_n 1, 1) := by decide +kernel
theorem dX4_init_179 : decode cX4_init 179 = .ok (.iload_n 1, 1) := by decide +kernel
theorem dX4_init_180 : decode cX4_init 180 = .ok (.bipush 6, 2) := by decide +kernel
theorem dX4_init_182 : decode cX4_init 182 = .ok (.if_icmp .ge 47, 3) := by decide +kernel
theorem dX4_init_185 : decode cX4_init 185 = .ok (.aload_n 0, 1) := by decide +kernel
theorem dX4_init_186 : decode cX4_init 186 = .ok (.getfield 7, 3) := by decide +kernel
theorem dX4_init_189 : decode cX4_init 189 = .ok (.sipush 133, 3) := by decide +kernel
theorem dX4_init_192 : decode cX4_init 192 = .ok (.iload_n 1, 1) := by decide +kernel
theorem dX4_init_193 : decode cX4_init 193 = .ok (.iadd, 1) := by decide +kernel
theorem dX4_init_194 : decode cX4_init 194 = .ok (.bipush 10, 2) := by decide +kernel
theorem dX4_init_196 : decode cX4_init 196 = .ok (.iconst 2, 1) := by decide +kernel
theorem dX4_init_197 : decode cX4_init 197 = .ok (.iload_n 1, 1) := by decide +kernel
theorem dX4_init_198 : decode cX4_init 198 = .ok (.imul, 1) := by decide +kernel
theorem dX4_init_199 : decode cX4_init 199 = .ok (.iadd, 1) := by decide +kernel
theorem dX4_init_200 : decode cX4_init 200 = .ok (.iastore, 1) := by decide +kernel
theorem dX4_init_201 : decode cX4_init 201 = .ok (.aload_n 0, 1) := by decide +kernel
theorem dX4_init_202 : decode cX4_init 202 = .ok (.getfield 7, 3) := by decide +kernel
theorem dX4_init_205 : decode cX4_init 205 = .ok (.sipush 139, 3) := by decide +kernel
theorem dX4_init_208 : decode cX4_init 208 = .ok (.iload_n 1, 1) := by decide +kernel
theorem dX4_init_209 : decode cX4_init 209 = .ok (.iadd, 1) := by decide +kernel
theorem dX4_init_210 : decode cX4_init 210 = .ok (.iconst (-1), 1) := by decide +kernel
theorem dX4_init_211 : decode cX4_init 211 = .ok (.iastore, 1) := by decide +kernel
theorem dX4_init_212 : decode cX4_init 212 = .ok (.aload_n 0, 1) := by decide +kernel
theorem dX4_init_213 : decode cX4_init 213 = .ok (.getfield 7, 3) := by decide +kernel
theorem dX4_init_216 : decode cX4_init 216 = .ok (.sipush 145, 3) := by decide +kernel
theorem dX4_init_219 : decode cX4_init 219 = .ok (.iload_n 1, 1) := by decide +kernel
theorem dX4_init_220 : decode cX4_init 220 = .ok (.iadd, 1) := by decide +kernel
theorem dX4_init_221 : decode cX4_init 221 = .ok (.iconst (-1), 1) := by decide +kernel
theorem dX4_init_222 : decode cX4_init 222 = .ok (.iastore, 1) := by decide +kernel
theorem dX4_init_223 : decode cX4_init 223 = .ok (.iinc 1 1, 3) := by decide +kernel
theorem dX4_init_226 : decode cX4_init 226 = .ok (.goto (-47), 3) := by decide +kernel
theorem dX4_init_229 : decode cX4_init 229 = .ok (.return_, 1) := by decide +kernel
theorem dX4_thrown_0 : decode cX4_thrown 0 = .ok (.aload_n 0, 1) := by decide +kernel
theorem dX4_thrown_1 : decode cX4_thrown 1 = .ok (.getfield 25, 3) := by decide +kernel
theorem dX4_thrown_4 : decode cX4_thrown 4 = .ok (.ireturn, 1) := by decide +kernel
theorem dX4_fails_0 : decode cX4_fails 0 = .ok (.aload_n 0, 1) := by decide +kernel
theorem dX4_fails_1 : decode cX4_fails 1 = .ok (.iload_n 1, 1) := by decide +kernel
theorem dX4_fails_2 : decode cX4_fails 2 = .ok (.putfield 25, 3) := by decide +kernel
theorem dX4_fails_5 : decode cX4_fails 5 = .ok (.iconst 0, 1) := by decide +kernel
theorem dX4_fails_6 : decode cX4_fails 6 = .ok (.ireturn, 1) := by decide +kernel
theorem dX4_within_0 : decode cX4_within 0 = .ok (.iload_n 0, 1) := by decide +kernel
theorem dX4_within_1 : decode cX4_within 1 = .ok (.iload_n 1, 1) := by decide +kernel
theorem dX4_within_2 : decode cX4_within 2 = .ok (.if_icmp .lt 12, 3) := by decide +kernel
theorem dX4_within_5 : decode cX4_within 5 = .ok (.iload_n 0, 1) := by decide +kernel
theorem dX4_within_6 : decode cX4_within 6 = .ok (.iload_n 2, 1) := by decide +kernel
theorem dX4_within_7 : decode cX4_within 7 = .ok (.if_icmp .gt 7, 3) := by decide +kernel
theorem dX4_within_10 : decode cX4_within 10 = .ok (.iconst 1, 1) := by decide +kernel
theorem dX4_within_11 : decode cX4_within 11 = .ok (.goto 4, 3) := by decide +kernel
theorem dX4_within_14 : decode cX4_within 14 = .ok (.iconst 0, 1) := by decide +kernel
theorem dX4_within_15 : decode cX4_within 15 = .ok (.ireturn, 1) := by decide +kernel
set_option maxRecDepth 20000 in
theorem ggX4_isHearth_X4_within : GoodIn wsX4_isHearth wsX4_within := goodIn_r _ [4] (by decide +kernel) (by decide +kernel)
set_option maxRecDepth 20000 in
theorem gX4_isHearth_X4_within : GoodIn wsX4_isHearth (va_wsS RX4 29 yX4_within wsX4_within) := goodIn_app (goodIn_of _ (by decide +kernel)) ggX4_isHearth_X4_within
theorem dX4_isHearth_0 : decode cX4_isHearth 0 = .ok (.iload_n 0, 1) := by decide +kernel
theorem dX4_isHearth_1 : decode cX4_isHearth 1 = .ok (.iconst 0, 1) := by decide +kernel
theorem dX4_isHearth_2 : decode cX4_isHearth 2 = .ok (.iconst 4, 1) := by decide +kernel
theorem dX4_isHearth_3 : decode cX4_isHearth 3 = .ok (.invokestatic 29, 3) := by decide +kernel
theorem dX4_isHearth_6 : decode cX4_isHearth 6 = .ok (.ireturn, 1) := by decide +kernel
set_option maxRecDepth 20000 in
theorem ggX4_isBank_X4_within : GoodIn wsX4_isBank wsX4_within := goodIn_r _ [4] (by decide +kernel) (by decide +kernel)
set_option maxRecDepth 20000 in
theorem gX4_isBank_X4_within : GoodIn wsX4_isBank (va_wsS RX4 29 yX4_within wsX4_within) := goodIn_app (goodIn_of _ (by decide +kernel)) ggX4_isBank_X4_within
theorem dX4_isBank_0 : decode cX4_isBank 0 = .ok (.iload_n 0, 1) := by decide +kernel
theorem dX4_isBank_1 : decode cX4_isBank 1 = .ok (.iconst 0, 1) := by decide +kernel
theorem dX4_isBank_2 : decode cX4_isBank 2 = .ok (.iconst 3, 1) := by decide +kernel
theorem dX4_isBank_3 : decode cX4_isBank 3 = .ok (.invokestatic 29, 3) := by decide +kernel
theorem dX4_isBank_6 : decode cX4_isBank 6 = .ok (.ireturn, 1) := by decide +kernel
set_option maxRecDepth 20000 in
theorem ggX4_isCutter_X4_within : GoodIn wsX4_isCutter wsX4_within := goodIn_r _ [4] (by decide +kernel) (by decide +kernel)
set_option maxRecDepth 20000 in
theorem gX4_isCutter_X4_within : GoodIn wsX4_isCutter (va_wsS RX4 29 yX4_within wsX4_within) := goodIn_app (goodIn_of _ (by decide +kernel)) ggX4_isCutter_X4_within
theorem dX4_isCutter_0 : decode cX4_isCutter 0 = .ok (.iload_n 0, 1) := by decide +kernel
theorem dX4_isCutter_1 : decode cX4_isCutter 1 = .ok (.iconst 0, 1) := by decide +kernel
theorem dX4_isCutter_2 : decode cX4_isCutter 2 = .ok (.iconst 5, 1) := by decide +kernel
theorem dX4_isCutter_3 : decode cX4_isCutter 3 = .ok (.invokestatic 29, 3) := by decide +kernel
theorem dX4_isCutter_6 : decode cX4_isCutter 6 = .ok (.ireturn, 1) := by decide +kernel
theorem dX4_less_0 : decode cX4_less 0 = .ok (.iload_n 0, 1) := by decide +kernel
theorem dX4_less_1 : decode cX4_less 1 = .ok (.iload_n 1, 1) := by decide +kernel
theorem dX4_less_2 : decode cX4_less 2 = .ok (.if_icmp .ge 7, 3) := by decide +kernel
theorem dX4_less_5 : decode cX4_less 5 = .ok (.iload_n 0, 1) := by decide +kernel
theorem dX4_less_6 : decode cX4_less 6 = .ok (.goto 4, 3) := by decide +kernel
theorem dX4_less_9 : decode cX4_less 9 = .ok (.iload_n 1, 1) := by decide +kernel
theorem dX4_less_10 : decode cX4_less 10 = .ok (.ireturn, 1) := by decide +kernel
theorem dX4_save_0 : decode cX4_save 0 = .ok (.aload_n 0, 1) := by decide +kernel
theorem dX4_save_1 : decode cX4_save 1 = .ok (.getfield 33, 3) := by decide +kernel
theorem dX4_save_4 : decode cX4_save 4 = .ok (.bipush 6, 2) := by decide +kernel
theorem dX4_save_6 : decode cX4_save 6 = .ok (.if_icmp .ne 44, 3) := by decide +kernel
theorem dX4_save_9 : decode cX4_save 9 = .ok (.iconst 0, 1) := by decide +kernel
theorem dX4_save_10 : decode cX4_save 10 = .ok (.istore_n 1, 1) := by decide +kernel
theorem dX4_save_11 : decode cX4_save 11 = .ok (.iload_n 1, 1) := by decide +kernel
theorem dX4_save_12 : decode cX4_save 12 = .ok (.sipush 785, 3) := by decide +kernel
theorem dX4_save_15 : decode cX4_save 15 = .ok (.if_icmp .ge 25, 3) := by decide +kernel
theorem dX4_save_18 : decode cX4_save 18 = .ok (.aload_n 0, 1) := by decide +kernel
theorem dX4_save_19 : decode cX4_save 19 = .ok (.getfield 16, 3) := by decide +kernel
theorem dX4_save_22 : decode cX4_save 22 = .ok (.iload_n 1, 1) := by decide +kernel
theorem dX4_save_23 : decode cX4_save 23 = .ok (.aload_n 0, 1) := by decide +kernel
theorem dX4_save_24 : decode cX4_save 24 = .ok (.getfield 16, 3) := by decide +kernel
theorem dX4_save_27 : decode cX4_save 27 = .ok (.iload_n 1, 1) := by decide +kernel
theorem dX4_save_28 : decode cX4_save 28 = .ok (.sipush 157, 3) := by decide +kernel
theorem dX4_save_31 : decode cX4_save 31 = .ok (.iadd, 1) := by decide +kernel
theorem dX4_save_32 : decode cX4_save 32 = .ok (.iaload, 1) := by decide +kernel
theorem dX4_save_33 : decode cX4_save 33 = .ok (.iastore, 1) := by decide +kernel
theorem dX4_save_34 : decode cX4_save 34 = .ok (.iinc 1 1, 3) := by decide +kernel
theorem dX4_save_37 : decode cX4_save 37 = .ok (.goto (-26), 3) := by decide +kernel
theorem dX4_save_40 : decode cX4_save 40 = .ok (.aload_n 0, 1) := by decide +kernel
theorem dX4_save_41 : decode cX4_save 41 = .ok (.dup, 1) := by decide +kernel
theorem dX4_save_42 : decode cX4_save 42 = .ok (.getfield 33, 3) := by decide +kernel
theorem dX4_save_45 : decode cX4_save 45 = .ok (.iconst 1, 1) := by decide +kernel
theorem dX4_save_46 : decode cX4_save 46 = .ok (.isub, 1) := by decide +kernel
theorem dX4_save_47 : decode cX4_save 47 = .ok (.putfield 33, 3) := by decide +kernel
theorem dX4_save_50 : decode cX4_save 50 = .ok (.iconst 0, 1) := by decide +kernel
theorem dX4_save_51 : decode cX4_save 51 = .ok (.istore_n 1, 1) := by decide +kernel
theorem dX4_save_52 : decode cX4_save 52 = .ok (.iload_n 1, 1) := by decide +kernel
theorem dX4_save_53 : decode cX4_save 53 = .ok (.sipush 157, 3) := by decide +kernel
theorem dX4_save_56 : decode cX4_save 56 = .ok (.if_icmp .ge 30, 3) := by decide +kernel
theorem dX4_save_59 : decode cX4_save 59 = .ok (.aload_n 0, 1) := by decide +kernel
theorem dX4_save_60 : decode cX4_save 60 = .ok (.getfield 16, 3) := by decide +kernel
theorem dX4_save_63 : decode cX4_save 63 = .ok (.aload_n 0, 1) := by decide +kernel
theorem dX4_save_64 : decode cX4_save 64 = .ok (.getfield 33, 3) := by decide +kernel
theorem dX4_save_67 : decode cX4_save 67 = .ok (.sipush 157, 3) := by decide +kernel
theorem dX4_save_70 : decode cX4_save 70 = .ok (.imul, 1) := by decide +kernel
theorem dX4_save_71 : decode cX4_save 71 = .ok (.iload_n 1, 1) := by decide +kernel
theorem dX4_save_72 : decode cX4_save 72 = .ok (.iadd, 1) := by decide +kernel
theorem dX4_save_73 : decode cX4_save 73 = .ok (.aload_n 0, 1) := by decide +kernel
theorem dX4_save_74 : decode cX4_save 74 = .ok (.getfield 7, 3) := by decide +kernel
theorem dX4_save_77 : decode cX4_save 77 = .ok (.iload_n 1, 1) := by decide +kernel
theorem dX4_save_78 : decode cX4_save 78 = .ok (.iaload, 1) := by decide +kernel
theorem dX4_save_79 : decode cX4_save 79 = .ok (.iastore, 1) := by decide +kernel
theorem dX4_save_80 : decode cX4_save 80 = .ok (.iinc 1 1, 3) := by decide +kernel
theorem dX4_save_83 : decode cX4_save 83 = .ok (.goto (-31), 3) := by decide +kernel
theorem dX4_save_86 : decode cX4_save 86 = .ok (.aload_n 0, 1) := by decide +kernel
theorem dX4_save_87 : decode cX4_save 87 = .ok (.dup, 1) := by decide +kernel
theorem dX4_save_88 : decode cX4_save 88 = .ok (.getfield 33, 3) := by decide +kernel
theorem dX4_save_91 : decode cX4_save 91 = .ok (.iconst 1, 1) := by decide +kernel
theorem dX4_save_92 : decode cX4_save 92 = .ok (.iadd, 1) := by decide +kernel
theorem dX4_save_93 : decode cX4_save 93 = .ok (.putfield 33, 3) := by decide +kernel
theorem dX4_save_96 : decode cX4_save 96 = .ok (.return_, 1) := by decide +kernel
set_option maxRecDepth 20000 in
theorem ggX4_undo_X4_fails : GoodIn wsX4_undo wsX4_fails := goodIn_r _ [9, 1, 10, 11, 12, 13, 14, 15, 16, 17, 18, 19, 20, 21, 22, 23, 24] (by decide +kernel) (by decide +kernel)
set_option maxRecDepth 20000 in
theorem gX4_undo_X4_fails : GoodIn wsX4_undo (wsV RX4 36 RX4 yX4_fails wsX4_fails) := goodIn_app (goodIn_of _ (by decide +kernel)) ggX4_undo_X4_fails
theorem dX4_undo_0 : decode cX4_undo 0 = .ok (.aload_n 0, 1) := by decide +kernel
theorem dX4_undo_1 : decode cX4_undo 1 = .ok (.iconst 0, 1) := by decide +kernel
theorem dX4_undo_2 : decode cX4_undo 2 = .ok (.putfield 25, 3) := by decide +kernel
theorem dX4_undo_5 : decode cX4_undo 5 = .ok (.aload_n 0, 1) := by decide +kernel
theorem dX4_undo_6 : decode cX4_undo 6 = .ok (.getfield 33, 3) := by decide +kernel
theorem dX4_undo_9 : decode cX4_undo 9 = .ok (.ifCond .ne 9, 3) := by decide +kernel
theorem dX4_undo_12 : decode cX4_undo 12 = .ok (.aload_n 0, 1) := by decide +kernel
theorem dX4_undo_13 : decode cX4_undo 13 = .ok (.iconst 1, 1) := by decide +kernel
theorem dX4_undo_14 : decode cX4_undo 14 = .ok (.invokevirtual 36, 3) := by decide +kernel
theorem dX4_undo_17 : decode cX4_undo 17 = .ok (.ireturn, 1) := by decide +kernel
theorem dX4_undo_18 : decode cX4_undo 18 = .ok (.aload_n 0, 1) := by decide +kernel
theorem dX4_undo_19 : decode cX4_undo 19 = .ok (.dup, 1) := by decide +kernel
theorem dX4_undo_20 : decode cX4_undo 20 = .ok (.getfield 33, 3) := by decide +kernel
theorem dX4_undo_23 : decode cX4_undo 23 = .ok (.iconst 1, 1) := by decide +kernel
theorem dX4_undo_24 : decode cX4_undo 24 = .ok (.isub, 1) := by decide +kernel
theorem dX4_undo_25 : decode cX4_undo 25 = .ok (.putfield 33, 3) := by decide +kernel
theorem dX4_undo_28 : decode cX4_undo 28 = .ok (.iconst 0, 1) := by decide +kernel
theorem dX4_undo_29 : decode cX4_undo 29 = .ok (.istore_n 1, 1) := by decide +kernel
theorem dX4_undo_30 : decode cX4_undo 30 = .ok (.iload_n 1, 1) := by decide +kernel
theorem dX4_undo_31 : decode cX4_undo 31 = .ok (.sipush 157, 3) := by decide +kernel
theorem dX4_undo_34 : decode cX4_undo 34 = .ok (.if_icmp .ge 30, 3) := by decide +kernel
theorem dX4_undo_37 : decode cX4_undo 37 = .ok (.aload_n 0, 1) := by decide +kernel
theorem dX4_undo_38 : decode cX4_undo 38 = .ok (.getfield 7, 3) := by decide +kernel
theorem dX4_undo_41 : decode cX4_undo 41 = .ok (.iload_n 1, 1) := by decide +kernel
theorem dX4_undo_42 : decode cX4_undo 42 = .ok (.aload_n 0, 1) := by decide +kernel
theorem dX4_undo_43 : decode cX4_undo 43 = .ok (.getfield 16, 3) := by decide +kernel
theorem dX4_undo_46 : decode cX4_undo 46 = .ok (.aload_n 0, 1) := by decide +kernel
theorem dX4_undo_47 : decode cX4_undo 47 = .ok (.getfield 33, 3) := by decide +kernel
theorem dX4_undo_50 : decode cX4_undo 50 = .ok (.sipush 157, 3) := by decide +kernel
theorem dX4_undo_53 : decode cX4_undo 53 = .ok (.imul, 1) := by decide +kernel
theorem dX4_undo_54 : decode cX4_undo 54 = .ok (.iload_n 1, 1) := by decide +kernel
theorem dX4_undo_55 : decode cX4_undo 55 = .ok (.iadd, 1) := by decide +kernel
theorem dX4_undo_56 : decode cX4_undo 56 = .ok (.iaload, 1) := by decide +kernel
theorem dX4_undo_57 : decode cX4_undo 57 = .ok (.iastore, 1) := by decide +kernel
theorem dX4_undo_58 : decode cX4_undo 58 = .ok (.iinc 1 1, 3) := by decide +kernel
theorem dX4_undo_61 : decode cX4_undo 61 = .ok (.goto (-31), 3) := by decide +kernel
theorem dX4_undo_64 : decode cX4_undo 64 = .ok (.aload_n 0, 1) := by decide +kernel
theorem dX4_undo_65 : decode cX4_undo 65 = .ok (.getfield 33, 3) := by decide +kernel
theorem dX4_undo_68 : decode cX4_undo 68 = .ok (.ireturn, 1) := by decide +kernel
theorem dX4_keep_0 : decode cX4_keep 0 = .ok (.aload_n 0, 1) := by decide +kernel
theorem dX4_keep_1 : decode cX4_keep 1 = .ok (.iconst 0, 1) := by decide +kernel
theorem dX4_keep_2 : decode cX4_keep 2 = .ok (.putfield 25, 3) := by decide +kernel
theorem dX4_keep_5 : decode cX4_keep 5 = .ok (.iconst 0, 1) := by decide +kernel
theorem dX4_keep_6 : decode cX4_keep 6 = .ok (.istore_n 1, 1) := by decide +kernel
theorem dX4_keep_7 : decode cX4_keep 7 = .ok (.iload_n 1, 1) := by decide +kernel
theorem dX4_keep_8 : decode cX4_keep 8 = .ok (.sipush 157, 3) := by decide +kernel
theorem dX4_keep_11 : decode cX4_keep 11 = .ok (.if_icmp .ge 21, 3) := by decide +kernel
theorem dX4_keep_14 : decode cX4_keep 14 = .ok (.aload_n 0, 1) := by decide +kernel
theorem dX4_keep_15 : decode cX4_keep 15 = .ok (.getfield 19, 3) := by decide +kernel
theorem dX4_keep_18 : decode cX4_keep 18 = .ok (.iload_n 1, 1) := by decide +kernel
theorem dX4_keep_19 : decode cX4_keep 19 = .ok (.aload_n 0, 1) := by decide +kernel
theorem dX4_keep_20 : decode cX4_keep 20 = .ok (.getfield 7, 3) := by decide +kernel
theorem dX4_keep_23 : decode cX4_keep 23 = .ok (.iload_n 1, 1) := by decide +kernel
theorem dX4_keep_24 : decode cX4_keep 24 = .ok (.iaload, 1) := by decide +kernel
theorem dX4_keep_25 : decode cX4_keep 25 = .ok (.iastore, 1) := by decide +kernel
theorem dX4_keep_26 : decode cX4_keep 26 = .ok (.iinc 1 1, 3) := by decide +kernel
theorem dX4_keep_29 : decode cX4_keep 29 = .ok (.goto (-22), 3) := by decide +kernel
theorem dX4_keep_32 : decode cX4_keep 32 = .ok (.aload_n 0, 1) := by decide +kernel
theorem dX4_keep_33 : decode cX4_keep 33 = .ok (.iconst 1, 1) := by decide +kernel
theorem dX4_keep_34 : decode cX4_keep 34 = .ok (.putfield 40, 3) := by decide +kernel
theorem dX4_keep_37 : decode cX4_keep 37 = .ok (.aload_n 0, 1) := by decide +kernel
theorem dX4_keep_38 : decode cX4_keep 38 = .ok (.getfield 7, 3) := by decide +kernel
theorem dX4_keep_41 : decode cX4_keep 41 = .ok (.iconst 0, 1) := by decide +kernel
theorem dX4_keep_42 : decode cX4_keep 42 = .ok (.iaload, 1) := by decide +kernel
theorem dX4_keep_43 : decode cX4_keep 43 = .ok (.ireturn, 1) := by decide +kernel
set_option maxRecDepth 20000 in
theorem ggX4_restore_X4_fails : GoodIn wsX4_restore wsX4_fails := goodIn_r _ [9, 1, 16, 17, 18, 19, 20, 21, 22, 23, 24, 25, 26, 27, 28, 29, 30] (by decide +kernel) (by decide +kernel)
set_option maxRecDepth 20000 in
theorem gX4_restore_X4_fails : GoodIn wsX4_restore (wsV RX4 36 RX4 yX4_fails wsX4_fails) := goodIn_app (goodIn_of _ (by decide +kernel)) ggX4_restore_X4_fails
set_option maxRecDepth 20000 in
theorem ggX4_restore_X4_save : GoodIn wsX4_restore wsX4_save := goodIn_r _ [13, 14, 15, 3, 16, 17, 18, 19, 20, 21, 22, 23, 24, 25, 26, 27, 28, 29, 30] (by decide +kernel) (by decide +kernel)
set_option maxRecDepth 20000 in
theorem gX4_restore_X4_save : GoodIn wsX4_restore (wsV RX4 44 RX4 yX4_save wsX4_save) := goodIn_app (goodIn_of _ (by decide +kernel)) ggX4_restore_X4_save
theorem dX4_restore_0 : decode cX4_restore 0 = .ok (.aload_n 0, 1) := by decide +kernel
theorem dX4_restore_1 : decode cX4_restore 1 = .ok (.iconst 0, 1) := by decide +kernel
theorem dX4_restore_2 : decode cX4_restore 2 = .ok (.putfield 25, 3) := by decide +kernel
theorem dX4_restore_5 : decode cX4_restore 5 = .ok (.aload_n 0, 1) := by decide +kernel
theorem dX4_restore_6 : decode cX4_restore 6 = .ok (.getfield 40, 3) := by decide +kernel
theorem dX4_restore_9 : decode cX4_restore 9 = .ok (.ifCond .ne 9, 3) := by decide +kernel
theorem dX4_restore_12 : decode cX4_restore 12 = .ok (.aload_n 0, 1) := by decide +kernel
theorem dX4_restore_13 : decode cX4_restore 13 = .ok (.iconst 1, 1) := by decide +kernel
theorem dX4_restore_14 : decode cX4_restore 14 = .ok (.invokevirtual 36, 3) := by decide +kernel
theorem dX4_restore_17 : decode cX4_restore 17 = .ok (.ireturn, 1) := by decide +kernel
theorem dX4_restore_18 : decode cX4_restore 18 = .ok (.aload_n 0, 1) := by decide +kernel
theorem dX4_restore_19 : decode cX4_restore 19 = .ok (.invokevirtual 44, 3) := by decide +kernel
theorem dX4_restore_22 : decode cX4_restore 22 = .ok (.iconst 0, 1) := by decide +kernel
theorem dX4_restore_23 : decode cX4_restore 23 = .ok (.istore_n 1, 1) := by decide +kernel
theorem dX4_restore_24 : decode cX4_restore 24 = .ok (.iload_n 1, 1) := by decide +kernel
theorem dX4_restore_25 : decode cX4_restore 25 = .ok (.sipush 157, 3) := by decide +kernel
theorem dX4_restore_28 : decode cX4_restore 28 = .ok (.if_icmp .ge 21, 3) := by decide +kernel
theorem dX4_restore_31 : decode cX4_restore 31 = .ok (.aload_n 0, 1) := by decide +kernel
theorem dX4_restore_32 : decode cX4_restore 32 = .ok (.getfield 7, 3) := by decide +kernel
theorem dX4_restore_35 : decode cX4_restore 35 = .ok (.iload_n 1, 1) := by decide +kernel
theorem dX4_restore_36 : decode cX4_restore 36 = .ok (.aload_n 0, 1) := by decide +kernel
theorem dX4_restore_37 : decode cX4_restore 37 = .ok (.getfield 19, 3) := by decide +kernel
theorem dX4_restore_40 : decode cX4_restore 40 = .ok (.iload_n 1, 1) := by decide +kernel
theorem dX4_restore_41 : decode cX4_restore 41 = .ok (.iaload, 1) := by decide +kernel
theorem dX4_restore_42 : decode cX4_restore 42 = .ok (.iastore, 1) := by decide +kernel
theorem dX4_restore_43 : decode cX4_restore 43 = .ok (.iinc 1 1, 3) := by decide +kernel
theorem dX4_restore_46 : decode cX4_restore 46 = .ok (.goto (-22), 3) := by decide +kernel
theorem dX4_restore_49 : decode cX4_restore 49 = .ok (.aload_n 0, 1) := by decide +kernel
theorem dX4_restore_50 : decode cX4_restore 50 = .ok (.getfield 7, 3) := by decide +kernel
theorem dX4_restore_53 : decode cX4_restore 53 = .ok (.iconst 0, 1) := by decide +kernel
theorem dX4_restore_54 : decode cX4_restore 54 = .ok (.iaload, 1) := by decide +kernel
theorem dX4_restore_55 : decode cX4_restore 55 = .ok (.ireturn, 1) := by decide +kernel
theorem dX4_putAside_0 : decode cX4_putAside 0 = .ok (.iconst 0, 1) := by decide +kernel
theorem dX4_putAside_1 : decode cX4_putAside 1 = .ok (.istore_n 1, 1) := by decide +kernel
theorem dX4_putAside_2 : decode cX4_putAside 2 = .ok (.iload_n 1, 1) := by decide +kernel
theorem dX4_putAside_3 : decode cX4_putAside 3 = .ok (.sipush 157, 3) := by decide +kernel
theorem dX4_putAside_6 : decode cX4_putAside 6 = .ok (.if_icmp .ge 21, 3) := by decide +kernel
theorem dX4_putAside_9 : decode cX4_putAside 9 = .ok (.aload_n 0, 1) := by decide +kernel
theorem dX4_putAside_10 : decode cX4_putAside 10 = .ok (.getfield 13, 3) := by decide +kernel
theorem dX4_putAside_13 : decode cX4_putAside 13 = .ok (.iload_n 1, 1) := by decide +kernel
theorem dX4_putAside_14 : decode cX4_putAside 14 = .ok (.aload_n 0, 1) := by decide +kernel
theorem dX4_putAside_15 : decode cX4_putAside 15 = .ok (.getfield 7, 3) := by decide +kernel
theorem dX4_putAside_18 : decode cX4_putAside 18 = .ok (.iload_n 1, 1) := by decide +kernel
theorem dX4_putAside_19 : decode cX4_putAside 19 = .ok (.iaload, 1) := by decide +kernel
theorem dX4_putAside_20 : decode cX4_putAside 20 = .ok (.iastore, 1) := by decide +kernel
theorem dX4_putAside_21 : decode cX4_putAside 21 = .ok (.iinc 1 1, 3) := by decide +kernel
theorem dX4_putAside_24 : decode cX4_putAside 24 = .ok (.goto (-22), 3) := by decide +kernel
theorem dX4_putAside_27 : decode cX4_putAside 27 = .ok (.return_, 1) := by decide +kernel
theorem dX4_takeBack_0 : decode cX4_takeBack 0 = .ok (.iconst 0, 1) := by decide +kernel
theorem dX4_takeBack_1 : decode cX4_takeBack 1 = .ok (.istore_n 1, 1) := by decide +kernel
theorem dX4_takeBack_2 : decode cX4_takeBack 2 = .ok (.iload_n 1, 1) := by decide +kernel
theorem dX4_takeBack_3 : decode cX4_takeBack 3 = .ok (.sipush 157, 3) := by decide +kernel
theorem dX4_takeBack_6 : decode cX4_takeBack 6 = .ok (.if_icmp .ge 21, 3) := by decide +kernel
theorem dX4_takeBack_9 : decode cX4_takeBack 9 = .ok (.aload_n 0, 1) := by decide +kernel
theorem dX4_takeBack_10 : decode cX4_takeBack 10 = .ok (.getfield 7, 3) := by decide +kernel
theorem dX4_takeBack_13 : decode cX4_takeBack 13 = .ok (.iload_n 1, 1) := by decide +kernel
theorem dX4_takeBack_14 : decode cX4_takeBack 14 = .ok (.aload_n 0, 1) := by decide +kernel
theorem dX4_takeBack_15 : decode cX4_takeBack 15 = .ok (.getfield 13, 3) := by decide +kernel
theorem dX4_takeBack_18 : decode cX4_takeBack 18 = .ok (.iload_n 1, 1) := by decide +kernel
theorem dX4_takeBack_19 : decode cX4_takeBack 19 = .ok (.iaload, 1) := by decide +kernel
theorem dX4_takeBack_20 : decode cX4_takeBack 20 = .ok (.iastore, 1) := by decide +kernel
theorem dX4_takeBack_21 : decode cX4_takeBack 21 = .ok (.iinc 1 1, 3) := by decide +kernel
theorem dX4_takeBack_24 : decode cX4_takeBack 24 = .ok (.goto (-22), 3) := by decide +kernel
theorem dX4_takeBack_27 : decode cX4_takeBack 27 = .ok (.return_, 1) := by decide +kernel
theorem dX4_rainOf_0 : decode cX4_rainOf 0 = .ok (.ldc2_w 47, 3) := by decide +kernel
theorem dX4_rainOf_3 : decode cX4_rainOf 3 = .ok (.iload_n 1, 1) := by decide +kernel
theorem dX4_rainOf_4 : decode cX4_rainOf 4 = .ok (.i2l, 1) := by decide +kernel
theorem dX4_rainOf_5 : decode cX4_rainOf 5 = .ok (.lmul, 1) := by decide +kernel
theorem dX4_rainOf_6 : decode cX4_rainOf 6 = .ok (.aload_n 0, 1) := by decide +kernel
theorem dX4_rainOf_7 : decode cX4_rainOf 7 = .ok (.getfield 7, 3) := by decide +kernel
theorem dX4_rainOf_10 : decode cX4_rainOf 10 = .ok (.iconst 2, 1) := by decide +kernel
theorem dX4_rainOf_11 : decode cX4_rainOf 11 = .ok (.iaload, 1) := by decide +kernel
theorem dX4_rainOf_12 : decode cX4_rainOf 12 = .ok (.i2l, 1) := by decide +kernel
theorem dX4_rainOf_13 : decode cX4_rainOf 13 = .ok (.ladd, 1) := by decide +kernel
theorem dX4_rainOf_14 : decode cX4_rainOf 14 = .ok (.lstore_n 2, 1) := by decide +kernel
theorem dX4_rainOf_15 : decode cX4_rainOf 15 = .ok (.lload_n 2, 1) := by decide +kernel
theorem dX4_rainOf_16 : decode cX4_rainOf 16 = .ok (.ldc2_w 49, 3) := by decide +kernel
theorem dX4_rainOf_19 : decode cX4_rainOf 19 = .ok (.lrem, 1) := by decide +kernel
theorem dX4_rainOf_20 : decode cX4_rainOf 20 = .ok (.l2i, 1) := by decide +kernel
theorem dX4_rainOf_21 : decode cX4_rainOf 21 = .ok (.ireturn, 1) := by decide +kernel
set_option maxRecDepth 20000 in
theorem ggX4_cutAll_X4_less : GoodIn wsX4_cutAll wsX4_less := goodIn_r _ [5] (by decide +kernel) (by decide +kernel)
set_option maxRecDepth 20000 in
theorem gX4_cutAll_X4_less : GoodIn wsX4_cutAll (va_wsS RX4 51 yX4_less wsX4_less) := goodIn_app (goodIn_of _ (by decide +kernel)) ggX4_cutAll_X4_less
theorem dX4_cutAll_0 : decode cX4_cutAll 0 = .ok (.iconst 0, 1) := by decide +kernel
theorem dX4_cutAll_1 : decode cX4_cutAll 1 = .ok (.istore_n 1, 1) := by decide +kernel
theorem dX4_cutAll_2 : decode cX4_cutAll 2 = .ok (.iload_n 1, 1) := by decide +kernel
theorem dX4_cutAll_3 : decode cX4_cutAll 3 = .ok (.bipush 6, 2) := by decide +kernel
theorem dX4_cutAll_5 : decode cX4_cutAll 5 = .ok (.if_icmp .ge 121, 3) := by decide +kernel
theorem dX4_cutAll_8 : decode cX4_cutAll 8 = .ok (.aload_n 0, 1) := by decide +kernel
theorem dX4_cutAll_9 : decode cX4_cutAll 9 = .ok (.getfield 7, 3) := by decide +kernel
theorem dX4_cutAll_12 : decode cX4_cutAll 12 = .ok (.sipush 139, 3) := by decide +kernel
theorem dX4_cutAll_15 : decode cX4_cutAll 15 = .ok (.iload_n 1, 1) := by decide +kernel
theorem dX4_cutAll_16 : decode cX4_cutAll 16 = .ok (.iadd, 1) := by decide +kernel
theorem dX4_cutAll_17 : decode cX4_cutAll 17 = .ok (.iaload, 1) := by decide +kernel
theorem dX4_cutAll_18 : decode cX4_cutAll 18 = .ok (.istore_n 2, 1) := by decide +kernel
theorem dX4_cutAll_19 : decode cX4_cutAll 19 = .ok (.aload_n 0, 1) := by decide +kernel
theorem dX4_cutAll_20 : decode cX4_cutAll 20 = .ok (.getfield 7, 3) := by decide +kernel
theorem dX4_cutAll_23 : decode cX4_cutAll 23 = .ok (.sipush 145, 3) := by decide +kernel
theorem dX4_cutAll_26 : decode cX4_cutAll 26 = .ok (.iload_n 1, 1) := by decide +kernel
theorem dX4_cutAll_27 : decode cX4_cutAll 27 = .ok (.iadd, 1) := by decide +kernel
theorem dX4_cutAll_28 : decode cX4_cutAll 28 = .ok (.iaload, 1) := by decide +kernel
theorem dX4_cutAll_29 : decode cX4_cutAll 29 = .ok (.istore_n 3, 1) := by decide +kernel
theorem dX4_cutAll_30 : decode cX4_cutAll 30 = .ok (.iload_n 2, 1) := by decide +kernel
theorem dX4_cutAll_31 : decode cX4_cutAll 31 = .ok (.iconst (-1), 1) := by decide +kernel
theorem dX4_cutAll_32 : decode cX4_cutAll 32 = .ok (.if_icmp .eq 88, 3) := by decide +kernel
theorem dX4_cutAll_35 : decode cX4_cutAll 35 = .ok (.aload_n 0, 1) := by decide +kernel
theorem dX4_cutAll_36 : decode cX4_cutAll 36 = .ok (.getfield 7, 3) := by decide +kernel
theorem dX4_cutAll_39 : decode cX4_cutAll 39 = .ok (.sipush 133, 3) := by decide +kernel
theorem dX4_cutAll_42 : decode cX4_cutAll 42 = .ok (.iload_n 1, 1) := by decide +kernel
theorem dX4_cutAll_43 : decode cX4_cutAll 43 = .ok (.iadd, 1) := by decide +kernel
theorem dX4_cutAll_44 : decode cX4_cutAll 44 = .ok (.iaload, 1) := by decide +kernel
theorem dX4_cutAll_45 : decode cX4_cutAll 45 = .ok (.aload_n 0, 1) := by decide +kernel
theorem dX4_cutAll_46 : decode cX4_cutAll 46 = .ok (.getfield 7, 3) := by decide +kernel
theorem dX4_cutAll_49 : decode cX4_cutAll 49 = .ok (.bipush 45, 2) := by decide +kernel
theorem dX4_cutAll_51 : decode cX4_cutAll 51 = .ok (.iload_n 3, 1) := by decide +kernel
theorem dX4_cutAll_52 : decode cX4_cutAll 52 = .ok (.iadd, 1) := by decide +kernel
theorem dX4_cutAll_53 : decode cX4_cutAll 53 = .ok (.iaload, 1) := by decide +kernel
theorem dX4_cutAll_54 : decode cX4_cutAll 54 = .ok (.invokestatic 51, 3) := by decide +kernel
theorem dX4_cutAll_57 : decode cX4_cutAll 57 = .ok (.istore 4, 2) := by decide +kernel
theorem dX4_cutAll_59 : decode cX4_cutAll 59 = .ok (.aload_n 0, 1) := by decide +kernel
theorem dX4_cutAll_60 : decode cX4_cutAll 60 = .ok (.getfield 7, 3) := by decide +kernel
theorem dX4_cutAll_63 : decode cX4_cutAll 63 = .ok (.bipush 45, 2) := by decide +kernel
theorem dX4_cutAll_65 : decode cX4_cutAll 65 = .ok (.iload_n 3, 1) := by decide +kernel
theorem dX4_cutAll_66 : decode cX4_cutAll 66 = .ok (.iadd, 1) := by decide +kernel
theorem dX4_cutAll_67 : decode cX4_cutAll 67 = .ok (.dup2, 1) := by decide +kernel
theorem dX4_cutAll_68 : decode cX4_cutAll 68 = .ok (.iaload, 1) := by decide +kernel
theorem dX4_cutAll_69 : decode cX4_cutAll 69 = .ok (.iload 4, 2) := by decide +kernel
theorem dX4_cutAll_71 : decode cX4_cutAll 71 = .ok (.isub, 1) := by decide +kernel
theorem dX4_cutAll_72 : decode cX4_cutAll 72 = .ok (.iastore, 1) := by decide +kernel
theorem dX4_cutAll_73 : decode cX4_cutAll 73 = .ok (.aload_n 0, 1) := by decide +kernel
theorem dX4_cutAll_74 : decode cX4_cutAll 74 = .ok (.getfield 7, 3) := by decide +kernel
theorem dX4_cutAll_77 : decode cX4_cutAll 77 = .ok (.bipush 73, 2) := by decide +kernel
theorem dX4_cutAll_79 : decode cX4_cutAll 79 = .ok (.iconst 4, 1) := by decide +kernel
theorem dX4_cutAll_80 : decode cX4_cutAll 80 = .ok (.iload_n 2, 1) := by decide +kernel
theorem dX4_cutAll_81 : decode cX4_cutAll 81 = .ok (.imul, 1) := by decide +kernel
theorem dX4_cutAll_82 : decode cX4_cutAll 82 = .ok (.iadd, 1) := by decide +kernel
theorem dX4_cutAll_83 : decode cX4_cutAll 83 = .ok (.iload_n 3, 1) := by decide +kernel
theorem dX4_cutAll_84 : decode cX4_cutAll 84 = .ok (.iadd, 1) := by decide +kernel
theorem dX4_cutAll_85 : decode cX4_cutAll 85 = .ok (.dup2, 1) := by decide +kernel
theorem dX4_cutAll_86 : decode cX4_cutAll 86 = .ok (.iaload, 1) := by decide +kernel
theorem dX4_cutAll_87 : decode cX4_cutAll 87 = .ok (.iload 4, 2) := by decide +kernel
theorem dX4_cutAll_89 : decode cX4_cutAll 89 = .ok (.iadd, 1) := by decide +kernel
theorem dX4_cutAll_90 : decode cX4_cutAll 90 = .ok (.iastore, 1) := by decide +kernel
theorem dX4_cutAll_91 : decode cX4_cutAll 91 = .ok (.aload_n 0, 1) := by decide +kernel
theorem dX4_cutAll_92 : decode cX4_cutAll 92 = .ok (.getfield 7, 3) := by decide +kernel
theorem dX4_cutAll_95 : decode cX4_cutAll 95 = .ok (.bipush 20, 2) := by decide +kernel
theorem dX4_cutAll_97 : decode cX4_cutAll 97 = .ok (.iload_n 2, 1) := by decide +kernel
theorem dX4_cutAll_98 : decode cX4_cutAll 98 = .ok (.iadd, 1) := by decide +kernel
theorem dX4_cutAll_99 : decode cX4_cutAll 99 = .ok (.dup2, 1) := by decide +kernel
theorem dX4_cutAll_100 : decode cX4_cutAll 100 = .ok (.iaload, 1) := by decide +kernel
theorem dX4_cutAll_101 : decode cX4_cutAll 101 = .ok (.iload 4, 2) := by decide +kernel
theorem dX4_cutAll_103 : decode cX4_cutAll 103 = .ok (.iadd, 1) := by decide +kernel
theorem dX4_cutAll_104 : decode cX4_cutAll 104 = .ok (.iastore, 1) := by decide +kernel
theorem dX4_cutAll_105 : decode cX4_cutAll 105 = .ok (.aload_n 0, 1) := by decide +kernel
theorem dX4_cutAll_106 : decode cX4_cutAll 106 = .ok (.getfield 7, 3) := by decide +kernel
theorem dX4_cutAll_109 : decode cX4_cutAll 109 = .ok (.sipush 151, 3) := by decide +kernel
theorem dX4_cutAll_112 : decode cX4_cutAll 112 = .ok (.iload_n 1, 1) := by decide +kernel
theorem dX4_cutAll_113 : decode cX4_cutAll 113 = .ok (.iadd, 1) := by decide +kernel
theorem dX4_cutAll_114 : decode cX4_cutAll 114 = .ok (.dup2, 1) := by decide +kernel
theorem dX4_cutAll_115 : decode cX4_cutAll 115 = .ok (.iaload, 1) := by decide +kernel
theorem dX4_cutAll_116 : decode cX4_cutAll 116 = .ok (.iload 4, 2) := by decide +kernel
theorem dX4_cutAll_118 : decode cX4_cutAll 118 = .ok (.iadd, 1) := by decide +kernel
theorem dX4_cutAll_119 : decode cX4_cutAll 119 = .ok (.iastore, 1) := by decide +kernel
theorem dX4_cutAll_120 : decode cX4_cutAll 120 = .ok (.iinc 1 1, 3) := by decide +kernel
theorem dX4_cutAll_123 : decode cX4_cutAll 123 = .ok (.goto (-121), 3) := by decide +kernel
theorem dX4_cutAll_126 : decode cX4_cutAll 126 = .ok (.return_, 1) := by decide +kernel
theorem dX4_soak_0 : decode cX4_soak 0 = .ok (.aload_n 0, 1) := by decide +kernel
theorem dX4_soak_1 : decode cX4_soak 1 = .ok (.getfield 7, 3) := by decide +kernel
theorem dX4_soak_4 : decode cX4_soak 4 = .ok (.bipush 113, 2) := by decide +kernel
theorem dX4_soak_6 : decode cX4_soak 6 = .ok (.iload_n 1, 1) := by decide +kernel
theorem dX4_soak_7 : decode cX4_soak 7 = .ok (.iadd, 1) := by decide +kernel
theorem dX4_soak_8 : decode cX4_soak 8 = .ok (.iaload, 1) := by decide +kernel
theorem dX4_soak_9 : decode cX4_soak 9 = .ok (.iconst 1, 1) := by decide +kernel
theorem dX4_soak_10 : decode cX4_soak 10 = .ok (.iadd, 1) := by decide +kernel
theorem dX4_soak_11 : decode cX4_soak 11 = .ok (.iconst 2, 1) := by decide +kernel
theorem dX4_soak_12 : decode cX4_soak 12 = .ok (.idiv, 1) := by decide +kernel
theorem dX4_soak_13 : decode cX4_soak 13 = .ok (.istore_n 2, 1) := by decide +kernel
theorem dX4_soak_14 : decode cX4_soak 14 = .ok (.aload_n 0, 1) := by decide +kernel
theorem dX4_soak_15 : decode cX4_soak 15 = .ok (.getfield 7, 3) := by decide +kernel
theorem dX4_soak_18 : decode cX4_soak 18 = .ok (.bipush 93, 2) := by decide +kernel
theorem dX4_soak_20 : decode cX4_soak 20 = .ok (.iload_n 1, 1) := by decide +kernel
theorem dX4_soak_21 : decode cX4_soak 21 = .ok (.iadd, 1) := by decide +kernel
theorem dX4_soak_22 : decode cX4_soak 22 = .ok (.iaload, 1) := by decide +kernel
theorem dX4_soak_23 : decode cX4_soak 23 = .ok (.iconst 1, 1) := by decide +kernel
theorem dX4_soak_24 : decode cX4_soak 24 = .ok (.iadd, 1) := by decide +kernel
theorem dX4_soak_25 : decode cX4_soak 25 = .ok (.iconst 2, 1) := by decide +kernel
theorem dX4_soak_26 : decode cX4_soak 26 = .ok (.idiv, 1) := by decide +kernel
theorem dX4_soak_27 : decode cX4_soak 27 = .ok (.istore_n 3, 1) := by decide +kernel
theorem dX4_soak_28 : decode cX4_soak 28 = .ok (.aload_n 0, 1) := by decide +kernel
theorem dX4_soak_29 : decode cX4_soak 29 = .ok (.getfield 7, 3) := by decide +kernel
theorem dX4_soak_32 : decode cX4_soak 32 = .ok (.bipush 113, 2) := by decide +kernel
theorem dX4_soak_34 : decode cX4_soak 34 = .ok (.iload_n 1, 1) := by decide +kernel
theorem dX4_soak_35 : decode cX4_soak 35 = .ok (.iadd, 1) := by decide +kernel
theorem dX4_soak_36 : decode cX4_soak 36 = .ok (.dup2, 1) := by decide +kernel
theorem dX4_soak_37 : decode cX4_soak 37 = .ok (.iaload, 1) := by decide +kernel
theorem dX4_soak_38 : decode cX4_soak 38 = .ok (.iload_n 2, 1) := by decide +kernel
theorem dX4_soak_39 : decode cX4_soak 39 = .ok (.isub, 1) := by decide +kernel
theorem dX4_soak_40 : decode cX4_soak 40 = .ok (.iastore, 1) := by decide +kernel
theorem dX4_soak_41 : decode cX4_soak 41 = .ok (.aload_n 0, 1) := by decide +kernel
theorem dX4_soak_42 : decode cX4_soak 42 = .ok (.getfield 7, 3) := by decide +kernel
theorem dX4_soak_45 : decode cX4_soak 45 = .ok (.bipush 93, 2) := by decide +kernel
theorem dX4_soak_47 : decode cX4_soak 47 = .ok (.iload_n 1, 1) := by decide +kernel
theorem dX4_soak_48 : decode cX4_soak 48 = .ok (.iadd, 1) := by decide +kernel
theorem dX4_soak_49 : decode cX4_soak 49 = .ok (.dup2, 1) := by decide +kernel
theorem dX4_soak_50 : decode cX4_soak 50 = .ok (.iaload, 1) := by decide +kernel
theorem dX4_soak_51 : decode cX4_soak 51 = .ok (.iload_n 3, 1) := by decide +kernel
theorem dX4_soak_52 : decode cX4_soak 52 = .ok (.isub, 1) := by decide +kernel
theorem dX4_soak_53 : decode cX4_soak 53 = .ok (.iastore, 1) := by decide +kernel
theorem dX4_soak_54 : decode cX4_soak 54 = .ok (.aload_n 0, 1) := by decide +kernel
theorem dX4_soak_55 : decode cX4_soak 55 = .ok (.getfield 7, 3) := by decide +kernel
theorem dX4_soak_58 : decode cX4_soak 58 = .ok (.bipush 73, 2) := by decide +kernel
theorem dX4_soak_60 : decode cX4_soak 60 = .ok (.iload_n 1, 1) := by decide +kernel
theorem dX4_soak_61 : decode cX4_soak 61 = .ok (.iadd, 1) := by decide +kernel
theorem dX4_soak_62 : decode cX4_soak 62 = .ok (.dup2, 1) := by decide +kernel
theorem dX4_soak_63 : decode cX4_soak 63 = .ok (.iaload, 1) := by decide +kernel
theorem dX4_soak_64 : decode cX4_soak 64 = .ok (.iload_n 2, 1) := by decide +kernel
theorem dX4_soak_65 : decode cX4_soak 65 = .ok (.iload_n 3, 1) := by decide +kernel
theorem dX4_soak_66 : decode cX4_soak 66 = .ok (.iadd, 1) := by decide +kernel
theorem dX4_soak_67 : decode cX4_soak 67 = .ok (.iadd, 1) := by decide +kernel
theorem dX4_soak_68 : decode cX4_soak 68 = .ok (.iastore, 1) := by decide +kernel
theorem dX4_soak_69 : decode cX4_soak 69 = .ok (.return_, 1) := by decide +kernel
set_option maxRecDepth 20000 in
theorem ggX4_dry_X4_less : GoodIn wsX4_dry wsX4_less := goodIn_r _ [5] (by decide +kernel) (by decide +kernel)
set_option maxRecDepth 20000 in
theorem gX4_dry_X4_less : GoodIn wsX4_dry (va_wsS RX4 51 yX4_less wsX4_less) := goodIn_app (goodIn_of _ (by decide +kernel)) ggX4_dry_X4_less
theorem dX4_dry_0 : decode cX4_dry 0 = .ok (.aload_n 0, 1) := by decide +kernel
theorem dX4_dry_1 : decode cX4_dry 1 = .ok (.getfield 7, 3) := by decide +kernel
theorem dX4_dry_4 : decode cX4_dry 4 = .ok (.bipush 93, 2) := by decide +kernel
theorem dX4_dry_6 : decode cX4_dry 6 = .ok (.iload_n 1, 1) := by decide +kernel
theorem dX4_dry_7 : decode cX4_dry 7 = .ok (.iadd, 1) := by decide +kernel
theorem dX4_dry_8 : decode cX4_dry 8 = .ok (.iaload, 1) := by decide +kernel
theorem dX4_dry_9 : decode cX4_dry 9 = .ok (.iconst 3, 1) := by decide +kernel
theorem dX4_dry_10 : decode cX4_dry 10 = .ok (.idiv, 1) := by decide +kernel
theorem dX4_dry_11 : decode cX4_dry 11 = .ok (.iconst 1, 1) := by decide +kernel
theorem dX4_dry_12 : decode cX4_dry 12 = .ok (.iadd, 1) := by decide +kernel
theorem dX4_dry_13 : decode cX4_dry 13 = .ok (.aload_n 0, 1) := by decide +kernel
theorem dX4_dry_14 : decode cX4_dry 14 = .ok (.getfield 7, 3) := by decide +kernel
theorem dX4_dry_17 : decode cX4_dry 17 = .ok (.bipush 93, 2) := by decide +kernel
theorem dX4_dry_19 : decode cX4_dry 19 = .ok (.iload_n 1, 1) := by decide +kernel
theorem dX4_dry_20 : decode cX4_dry 20 = .ok (.iadd, 1) := by decide +kernel
theorem dX4_dry_21 : decode cX4_dry 21 = .ok (.iaload, 1) := by decide +kernel
theorem dX4_dry_22 : decode cX4_dry 22 = .ok (.invokestatic 51, 3) := by decide +kernel
theorem dX4_dry_25 : decode cX4_dry 25 = .ok (.istore_n 2, 1) := by decide +kernel
theorem dX4_dry_26 : decode cX4_dry 26 = .ok (.aload_n 0, 1) := by decide +kernel
theorem dX4_dry_27 : decode cX4_dry 27 = .ok (.getfield 7, 3) := by decide +kernel
theorem dX4_dry_30 : decode cX4_dry 30 = .ok (.bipush 93, 2) := by decide +kernel
theorem dX4_dry_32 : decode cX4_dry 32 = .ok (.iload_n 1, 1) := by decide +kernel
theorem dX4_dry_33 : decode cX4_dry 33 = .ok (.iadd, 1) := by decide +kernel
theorem dX4_dry_34 : decode cX4_dry 34 = .ok (.dup2, 1) := by decide +kernel
theorem dX4_dry_35 : decode cX4_dry 35 = .ok (.iaload, 1) := by decide +kernel
theorem dX4_dry_36 : decode cX4_dry 36 = .ok (.iload_n 2, 1) := by decide +kernel
theorem dX4_dry_37 : decode cX4_dry 37 = .ok (.isub, 1) := by decide +kernel
theorem dX4_dry_38 : decode cX4_dry 38 = .ok (.iastore, 1) := by decide +kernel
theorem dX4_dry_39 : decode cX4_dry 39 = .ok (.aload_n 0, 1) := by decide +kernel
theorem dX4_dry_40 : decode cX4_dry 40 = .ok (.getfield 7, 3) := by decide +kernel
theorem dX4_dry_43 : decode cX4_dry 43 = .ok (.bipush 113, 2) := by decide +kernel
theorem dX4_dry_45 : decode cX4_dry 45 = .ok (.iload_n 1, 1) := by decide +kernel
theorem dX4_dry_46 : decode cX4_dry 46 = .ok (.iadd, 1) := by decide +kernel
theorem dX4_dry_47 : decode cX4_dry 47 = .ok (.dup2, 1) := by decide +kernel
theorem dX4_dry_48 : decode cX4_dry 48 = .ok (.iaload, 1) := by decide +kernel
theorem dX4_dry_49 : decode cX4_dry 49 = .ok (.iload_n 2, 1) := by decide +kernel
theorem dX4_dry_50 : decode cX4_dry 50 = .ok (.iadd, 1) := by decide +kernel
theorem dX4_dry_51 : decode cX4_dry 51 = .ok (.iastore, 1) := by decide +kernel
theorem dX4_dry_52 : decode cX4_dry 52 = .ok (.aload_n 0, 1) := by decide +kernel
theorem dX4_dry_53 : decode cX4_dry 53 = .ok (.getfield 7, 3) := by decide +kernel
theorem dX4_dry_56 : decode cX4_dry 56 = .ok (.bipush 73, 2) := by decide +kernel
theorem dX4_dry_58 : decode cX4_dry 58 = .ok (.iload_n 1, 1) := by decide +kernel
theorem dX4_dry_59 : decode cX4_dry 59 = .ok (.iadd, 1) := by decide +kernel
theorem dX4_dry_60 : decode cX4_dry 60 = .ok (.iaload, 1) := by decide +kernel
theorem dX4_dry_61 : decode cX4_dry 61 = .ok (.iconst 1, 1) := by decide +kernel
theorem dX4_dry_62 : decode cX4_dry 62 = .ok (.iadd, 1) := by decide +kernel
theorem dX4_dry_63 : decode cX4_dry 63 = .ok (.iconst 2, 1) := by decide +kernel
theorem dX4_dry_64 : decode cX4_dry 64 = .ok (.idiv, 1) := by decide +kernel
theorem dX4_dry_65 : decode cX4_dry 65 = .ok (.istore_n 3, 1) := by decide +kernel
theorem dX4_dry_66 : decode cX4_dry 66 = .ok (.aload_n 0, 1) := by decide +kernel
theorem dX4_dry_67 : decode cX4_dry 67 = .ok (.getfield 7, 3) := by decide +kernel
theorem dX4_dry_70 : decode cX4_dry 70 = .ok (.bipush 73, 2) := by decide +kernel
theorem dX4_dry_72 : decode cX4_dry 72 = .ok (.iload_n 1, 1) := by decide +kernel
theorem dX4_dry_73 : decode cX4_dry 73 = .ok (.iadd, 1) := by decide +kernel
theorem dX4_dry_74 : decode cX4_dry 74 = .ok (.dup2, 1) := by decide +kernel
theorem dX4_dry_75 : decode cX4_dry 75 = .ok (.iaload, 1) := by decide +kernel
theorem dX4_dry_76 : decode cX4_dry 76 = .ok (.iload_n 3, 1) := by decide +kernel
theorem dX4_dry_77 : decode cX4_dry 77 = .ok (.isub, 1) := by decide +kernel
theorem dX4_dry_78 : decode cX4_dry 78 = .ok (.iastore, 1) := by decide +kernel
theorem dX4_dry_79 : decode cX4_dry 79 = .ok (.aload_n 0, 1) := by decide +kernel
theorem dX4_dry_80 : decode cX4_dry 80 = .ok (.getfield 7, 3) := by decide +kernel
theorem dX4_dry_83 : decode cX4_dry 83 = .ok (.bipush 93, 2) := by decide +kernel
theorem dX4_dry_85 : decode cX4_dry 85 = .ok (.iload_n 1, 1) := by decide +kernel
theorem dX4_dry_86 : decode cX4_dry 86 = .ok (.iadd, 1) := by decide +kernel
theorem dX4_dry_87 : decode cX4_dry 87 = .ok (.dup2, 1) := by decide +kernel
theorem dX4_dry_88 : decode cX4_dry 88 = .ok (.iaload, 1) := by decide +kernel
theorem dX4_dry_89 : decode cX4_dry 89 = .ok (.iload_n 3, 1) := by decide +kernel
theorem dX4_dry_90 : decode cX4_dry 90 = .ok (.iadd, 1) := by decide +kernel
theorem dX4_dry_91 : decode cX4_dry 91 = .ok (.iastore, 1) := by decide +kernel
theorem dX4_dry_92 : decode cX4_dry 92 = .ok (.return_, 1) := by decide +kernel
theorem dX4_poorest_0 : decode cX4_poorest 0 = .ok (.iconst (-1), 1) := by decide +kernel
theorem dX4_poorest_1 : decode cX4_poorest 1 = .ok (.istore_n 1, 1) := by decide +kernel
theorem dX4_poorest_2 : decode cX4_poorest 2 = .ok (.iconst 0, 1) := by decide +kernel
theorem dX4_poorest_3 : decode cX4_poorest 3 = .ok (.istore_n 2, 1) := by decide +kernel
theorem dX4_poorest_4 : decode cX4_poorest 4 = .ok (.iload_n 2, 1) := by decide +kernel
theorem dX4_poorest_5 : decode cX4_poorest 5 = .ok (.iconst 5, 1) := by decide +kernel
theorem dX4_poorest_6 : decode cX4_poorest 6 = .ok (.if_icmp .ge 63, 3) := by decide +kernel
theorem dX4_poorest_9 : decode cX4_poorest 9 = .ok (.aload_n 0, 1) := by decide +kernel
theorem dX4_poorest_10 : decode cX4_poorest 10 = .ok (.getfield 7, 3) := by decide +kernel
theorem dX4_poorest_13 : decode cX4_poorest 13 = .ok (.iconst 5, 1) := by decide +kernel
theorem dX4_poorest_14 : decode cX4_poorest 14 = .ok (.iload_n 2, 1) := by decide +kernel
theorem dX4_poorest_15 : decode cX4_poorest 15 = .ok (.iadd, 1) := by decide +kernel
theorem dX4_poorest_16 : decode cX4_poorest 16 = .ok (.iaload, 1) := by decide +kernel
theorem dX4_poorest_17 : decode cX4_poorest 17 = .ok (.iconst 1, 1) := by decide +kernel
theorem dX4_poorest_18 : decode cX4_poorest 18 = .ok (.if_icmp .ne 33, 3) := by decide +kernel
theorem dX4_poorest_21 : decode cX4_poorest 21 = .ok (.iload_n 1, 1) := by decide +kernel
theorem dX4_poorest_22 : decode cX4_poorest 22 = .ok (.iconst (-1), 1) := by decide +kernel
theorem dX4_poorest_23 : decode cX4_poorest 23 = .ok (.if_icmp .eq 24, 3) := by decide +kernel
theorem dX4_poorest_26 : decode cX4_poorest 26 = .ok (.aload_n 0, 1) := by decide +kernel
theorem dX4_poorest_27 : decode cX4_poorest 27 = .ok (.getfield 7, 3) := by decide +kernel
theorem dX4_poorest_30 : decode cX4_poorest 30 = .ok (.bipush 15, 2) := by decide +kernel
theorem dX4_poorest_32 : decode cX4_poorest 32 = .ok (.iload_n 2, 1) := by decide +kernel
theorem dX4_poorest_33 : decode cX4_poorest 33 = .ok (.iadd, 1) := by decide +kernel
theorem dX4_poorest_34 : decode cX4_poorest 34 = .ok (.iaload, 1) := by decide +kernel
theorem dX4_poorest_35 : decode cX4_poorest 35 = .ok (.aload_n 0, 1) := by decide +kernel
theorem dX4_poorest_36 : decode cX4_poorest 36 = .ok (.getfield 7, 3) := by decide +kernel
theorem dX4_poorest_39 : decode cX4_poorest 39 = .ok (.bipush 15, 2) := by decide +kernel
theorem dX4_poorest_41 : decode cX4_poorest 41 = .ok (.iload_n 1, 1) := by decide +kernel
theorem dX4_poorest_42 : decode cX4_poorest 42 = .ok (.iadd, 1) := by decide +kernel
theorem dX4_poorest_43 : decode cX4_poorest 43 = .ok (.iaload, 1) := by decide +kernel
theorem dX4_poorest_44 : decode cX4_poorest 44 = .ok (.if_icmp .ge 7, 3) := by decide +kernel
theorem dX4_poorest_47 : decode cX4_poorest 47 = .ok (.iconst 1, 1) := by decide +kernel
theorem dX4_poorest_48 : decode cX4_poorest 48 = .ok (.goto 4, 3) := by decide +kernel
theorem dX4_poorest_51 : decode cX4_poorest 51 = .ok (.iconst 0, 1) := by decide +kernel
theorem dX4_poorest_52 : decode cX4_poorest 52 = .ok (.istore_n 3, 1) := by decide +kernel
theorem dX4_poorest_53 : decode cX4_poorest 53 = .ok (.iload_n 3, 1) := by decide +kernel
theorem dX4_poorest_54 : decode cX4_poorest 54 = .ok (.ifCond .eq 7, 3) := by decide +kernel
theorem dX4_poorest_57 : decode cX4_poorest 57 = .ok (.iload_n 2, 1) := by decide +kernel
theorem dX4_poorest_58 : decode cX4_poorest 58 = .ok (.goto 4, 3) := by decide +kernel
theorem dX4_poorest_61 : decode cX4_poorest 61 = .ok (.iload_n 1, 1) := by decide +kernel
theorem dX4_poorest_62 : decode cX4_poorest 62 = .ok (.istore_n 1, 1) := by decide +kernel
theorem dX4_poorest_63 : decode cX4_poorest 63 = .ok (.iinc 2 1, 3) := by decide +kernel
theorem dX4_poorest_66 : decode cX4_poorest 66 = .ok (.goto (-62), 3) := by decide +kernel
theorem dX4_poorest_69 : decode cX4_poorest 69 = .ok (.iload_n 1, 1) := by decide +kernel
theorem dX4_poorest_70 : decode cX4_poorest 70 = .ok (.ireturn, 1) := by decide +kernel
set_option maxRecDepth 20000 in
theorem ggX4_bringHome_X4_poorest : GoodIn wsX4_bringHome wsX4_poorest := goodIn_r _ [6, 1, 7, 8, 9, 10, 11, 12, 13, 14, 15, 16, 17, 18, 19, 20, 21] (by decide +kernel) (by decide +kernel)
set_option maxRecDepth 20000 in
theorem gX4_bringHome_X4_poorest : GoodIn wsX4_bringHome (wsV RX4 55 RX4 yX4_poorest wsX4_poorest) := goodIn_app (goodIn_of _ (by decide +kernel)) ggX4_bringHome_X4_poorest
theorem dX4_bringHome_0 : decode cX4_bringHome 0 = .ok (.aload_n 0, 1) := by decide +kernel
theorem dX4_bringHome_1 : decode cX4_bringHome 1 = .ok (.getfield 7, 3) := by decide +kernel
theorem dX4_bringHome_4 : decode cX4_bringHome 4 = .ok (.bipush 113, 2) := by decide +kernel
theorem dX4_bringHome_6 : decode cX4_bringHome 6 = .ok (.iconst 4, 1) := by decide +kernel
theorem dX4_bringHome_7 : decode cX4_bringHome 7 = .ok (.iload_n 1, 1) := by decide +kernel
theorem dX4_bringHome_8 : decode cX4_bringHome 8 = .ok (.imul, 1) := by decide +kernel
theorem dX4_bringHome_9 : decode cX4_bringHome 9 = .ok (.iadd, 1) := by decide +kernel
theorem dX4_bringHome_10 : decode cX4_bringHome 10 = .ok (.iload_n 2, 1) := by decide +kernel
theorem dX4_bringHome_11 : decode cX4_bringHome 11 = .ok (.iadd, 1) := by decide +kernel
theorem dX4_bringHome_12 : decode cX4_bringHome 12 = .ok (.dup2, 1) := by decide +kernel
theorem dX4_bringHome_13 : decode cX4_bringHome 13 = .ok (.iaload, 1) := by decide +kernel
theorem dX4_bringHome_14 : decode cX4_bringHome 14 = .ok (.iload_n 3, 1) := by decide +kernel
theorem dX4_bringHome_15 : decode cX4_bringHome 15 = .ok (.isub, 1) := by decide +kernel
theorem dX4_bringHome_16 : decode cX4_bringHome 16 = .ok (.iastore, 1) := by decide +kernel
theorem dX4_bringHome_17 : decode cX4_bringHome 17 = .ok (.aload_n 0, 1) := by decide +kernel
theorem dX4_bringHome_18 : decode cX4_bringHome 18 = .ok (.getfield 7, 3) := by decide +kernel
theorem dX4_bringHome_21 : decode cX4_bringHome 21 = .ok (.bipush 15, 2) := by decide +kernel
theorem dX4_bringHome_23 : decode cX4_bringHome 23 = .ok (.iload_n 1, 1) := by decide +kernel
theorem dX4_bringHome_24 : decode cX4_bringHome 24 = .ok (.iadd, 1) := by decide +kernel
theorem dX4_bringHome_25 : decode cX4_bringHome 25 = .ok (.dup2, 1) := by decide +kernel
theorem dX4_bringHome_26 : decode cX4_bringHome 26 = .ok (.iaload, 1) := by decide +kernel
theorem dX4_bringHome_27 : decode cX4_bringHome 27 = .ok (.iload_n 3, 1) := by decide +kernel
theorem dX4_bringHome_28 : decode cX4_bringHome 28 = .ok (.iadd, 1) := by decide +kernel
theorem dX4_bringHome_29 : decode cX4_bringHome 29 = .ok (.iastore, 1) := by decide +kernel
theorem dX4_bringHome_30 : decode cX4_bringHome 30 = .ok (.aload_n 0, 1) := by decide +kernel
theorem dX4_bringHome_31 : decode cX4_bringHome 31 = .ok (.invokevirtual 55, 3) := by decide +kernel
theorem dX4_bringHome_34 : decode cX4_bringHome 34 = .ok (.istore 4, 2) := by decide +kernel
theorem dX4_bringHome_36 : decode cX4_bringHome 36 = .ok (.aload_n 0, 1) := by decide +kernel
theorem dX4_bringHome_37 : decode cX4_bringHome 37 = .ok (.getfield 7, 3) := by decide +kernel
theorem dX4_bringHome_40 : decode cX4_bringHome 40 = .ok (.iconst 5, 1) := by decide +kernel
theorem dX4_bringHome_41 : decode cX4_bringHome 41 = .ok (.iload_n 1, 1) := by decide +kernel
theorem dX4_bringHome_42 : decode cX4_bringHome 42 = .ok (.iadd, 1) := by decide +kernel
theorem dX4_bringHome_43 : decode cX4_bringHome 43 = .ok (.iaload, 1) := by decide +kernel
theorem dX4_bringHome_44 : decode cX4_bringHome 44 = .ok (.ifCond .ne 80, 3) := by decide +kernel
theorem dX4_bringHome_47 : decode cX4_bringHome 47 = .ok (.iload 4, 2) := by decide +kernel
theorem dX4_bringHome_49 : decode cX4_bringHome 49 = .ok (.iconst (-1), 1) := by decide +kernel
theorem dX4_bringHome_50 : decode cX4_bringHome 50 = .ok (.if_icmp .eq 74, 3) := by decide +kernel
theorem dX4_bringHome_53 : decode cX4_bringHome 53 = .ok (.iload_n 3, 1) := by decide +kernel
theorem dX4_bringHome_54 : decode cX4_bringHome 54 = .ok (.aload_n 0, 1) := by decide +kernel
theorem dX4_bringHome_55 : decode cX4_bringHome 55 = .ok (.getfield 7, 3) := by decide +kernel
theorem dX4_bringHome_58 : decode cX4_bringHome 58 = .ok (.iconst 3, 1) := by decide +kernel
theorem dX4_bringHome_59 : decode cX4_bringHome 59 = .ok (.iaload, 1) := by decide +kernel
theorem dX4_bringHome_60 : decode cX4_bringHome 60 = .ok (.imul, 1) := by decide +kernel
theorem dX4_bringHome_61 : decode cX4_bringHome 61 = .ok (.bipush 100, 2) := by decide +kernel
theorem dX4_bringHome_63 : decode cX4_bringHome 63 = .ok (.idiv, 1) := by decide +kernel
theorem dX4_bringHome_64 : decode cX4_bringHome 64 = .ok (.istore 5, 2) := by decide +kernel
theorem dX4_bringHome_66 : decode cX4_bringHome 66 = .ok (.aload_n 0, 1) := by decide +kernel
theorem dX4_bringHome_67 : decode cX4_bringHome 67 = .ok (.getfield 7, 3) := by decide +kernel
theorem dX4_bringHome_70 : decode cX4_bringHome 70 = .ok (.bipush 15, 2) := by decide +kernel
theorem dX4_bringHome_72 : decode cX4_bringHome 72 = .ok (.iload_n 1, 1) := by decide +kernel
theorem dX4_bringHome_73 : decode cX4_bringHome 73 = .ok (.iadd, 1) := by decide +kernel
theorem dX4_bringHome_74 : decode cX4_bringHome 74 = .ok (.dup2, 1) := by decide +kernel
theorem dX4_bringHome_75 : decode cX4_bringHome 75 = .ok (.iaload, 1) := by decide +kernel
theorem dX4_bringHome_76 : decode cX4_bringHome 76 = .ok (.iload 5, 2) := by decide +kernel
theorem dX4_bringHome_78 : decode cX4_bringHome 78 = .ok (.isub, 1) := by decide +kernel
theorem dX4_bringHome_79 : decode cX4_bringHome 79 = .ok (.iastore, 1) := by decide +kernel
theorem dX4_bringHome_80 : decode cX4_bringHome 80 = .ok (.aload_n 0, 1) := by decide +kernel
theorem dX4_bringHome_81 : decode cX4_bringHome 81 = .ok (.getfield 7, 3) := by decide +kernel
theorem dX4_bringHome_84 : decode cX4_bringHome 84 = .ok (.bipush 30, 2) := by decide +kernel
theorem dX4_bringHome_86 : decode cX4_bringHome 86 = .ok (.iload_n 1, 1) := by decide +kernel
theorem dX4_bringHome_87 : decode cX4_bringHome 87 = .ok (.iadd, 1) := by decide +kernel
theorem dX4_bringHome_88 : decode cX4_bringHome 88 = .ok (.dup2, 1) := by decide +kernel
theorem dX4_bringHome_89 : decode cX4_bringHome 89 = .ok (.iaload, 1) := by decide +kernel
theorem dX4_bringHome_90 : decode cX4_bringHome 90 = .ok (.iload 5, 2) := by decide +kernel
theorem dX4_bringHome_92 : decode cX4_bringHome 92 = .ok (.iadd, 1) := by decide +kernel
theorem dX4_bringHome_93 : decode cX4_bringHome 93 = .ok (.iastore, 1) := by decide +kernel
theorem dX4_bringHome_94 : decode cX4_bringHome 94 = .ok (.aload_n 0, 1) := by decide +kernel
theorem dX4_bringHome_95 : decode cX4_bringHome 95 = .ok (.getfield 7, 3) := by decide +kernel
theorem dX4_bringHome_98 : decode cX4_bringHome 98 = .ok (.bipush 15, 2) := by decide +kernel
theorem dX4_bringHome_100 : decode cX4_bringHome 100 = .ok (.iload 4, 2) := by decide +kernel
theorem dX4_bringHome_102 : decode cX4_bringHome 102 = .ok (.iadd, 1) := by decide +kernel
theorem dX4_bringHome_103 : decode cX4_bringHome 103 = .ok (.dup2, 1) := by decide +kernel
theorem dX4_bringHome_104 : decode cX4_bringHome 104 = .ok (.iaload, 1) := by decide +kernel
theorem dX4_bringHome_105 : decode cX4_bringHome 105 = .ok (.iload 5, 2) := by decide +kernel
theorem dX4_bringHome_107 : decode cX4_bringHome 107 = .ok (.iadd, 1) := by decide +kernel
theorem dX4_bringHome_108 : decode cX4_bringHome 108 = .ok (.iastore, 1) := by decide +kernel
theorem dX4_bringHome_109 : decode cX4_bringHome 109 = .ok (.aload_n 0, 1) := by decide +kernel
theorem dX4_bringHome_110 : decode cX4_bringHome 110 = .ok (.getfield 7, 3) := by decide +kernel
theorem dX4_bringHome_113 : decode cX4_bringHome 113 = .ok (.bipush 25, 2) := by decide +kernel
theorem dX4_bringHome_115 : decode cX4_bringHome 115 = .ok (.iload 4, 2) := by decide +kernel
theorem dX4_bringHome_117 : decode cX4_bringHome 117 = .ok (.iadd, 1) := by decide +kernel
theorem dX4_bringHome_118 : decode cX4_bringHome 118 = .ok (.dup2, 1) := by decide +kernel
theorem dX4_bringHome_119 : decode cX4_bringHome 119 = .ok (.iaload, 1) := by decide +kernel
theorem dX4_bringHome_120 : decode cX4_bringHome 120 = .ok (.iload 5, 2) := by decide +kernel
theorem dX4_bringHome_122 : decode cX4_bringHome 122 = .ok (.iadd, 1) := by decide +kernel
theorem dX4_bringHome_123 : decode cX4_bringHome 123 = .ok (.iastore, 1) := by decide +kernel
theorem dX4_bringHome_124 : decode cX4_bringHome 124 = .ok (.return_, 1) := by decide +kernel
set_option maxRecDepth 20000 in
theorem ggX4_cart_X4_less : GoodIn wsX4_cart wsX4_less := goodIn_r _ [5] (by decide +kernel) (by decide +kernel)
set_option maxRecDepth 20000 in
theorem gX4_cart_X4_less : GoodIn wsX4_cart (va_wsS RX4 51 yX4_less wsX4_less) := goodIn_app (goodIn_of _ (by decide +kernel)) ggX4_cart_X4_less
set_option maxRecDepth 20000 in
theorem ggX4_cart_X4_bringHome : GoodIn wsX4_cart wsX4_bringHome := goodIn_r _ [9, 1, 10, 11, 12, 4, 13, 14, 15, 16, 17, 18, 19, 20, 21, 22, 23, 24, 25, 26, 27, 28] (by decide +kernel) (by decide +kernel)
set_option maxRecDepth 20000 in
theorem gX4_cart_X4_bringHome : GoodIn wsX4_cart (wsV RX4 59 RX4 yX4_bringHome wsX4_bringHome) := goodIn_app (goodIn_of _ (by decide +kernel)) ggX4_cart_X4_bringHome
theorem dX4_cart_0 : decode cX4_cart 0 = .ok (.aload_n 0, 1) := by decide +kernel
theorem dX4_cart_1 : decode cX4_cart 1 = .ok (.getfield 7, 3) := by decide +kernel
theorem dX4_cart_4 : decode cX4_cart 4 = .ok (.bipush 49, 2) := by decide +kernel
theorem dX4_cart_6 : decode cX4_cart 6 = .ok (.iload_n 1, 1) := by decide +kernel
theorem dX4_cart_7 : decode cX4_cart 7 = .ok (.iadd, 1) := by decide +kernel
theorem dX4_cart_8 : decode cX4_cart 8 = .ok (.iaload, 1) := by decide +kernel
theorem dX4_cart_9 : decode cX4_cart 9 = .ok (.istore_n 2, 1) := by decide +kernel
theorem dX4_cart_10 : decode cX4_cart 10 = .ok (.iconst 0, 1) := by decide +kernel
theorem dX4_cart_11 : decode cX4_cart 11 = .ok (.istore_n 3, 1) := by decide +kernel
theorem dX4_cart_12 : decode cX4_cart 12 = .ok (.iload_n 3, 1) := by decide +kernel
theorem dX4_cart_13 : decode cX4_cart 13 = .ok (.iconst 5, 1) := by decide +kernel
theorem dX4_cart_14 : decode cX4_cart 14 = .ok (.if_icmp .ge 55, 3) := by decide +kernel
theorem dX4_cart_17 : decode cX4_cart 17 = .ok (.aload_n 0, 1) := by decide +kernel
theorem dX4_cart_18 : decode cX4_cart 18 = .ok (.getfield 7, 3) := by decide +kernel
theorem dX4_cart_21 : decode cX4_cart 21 = .ok (.iconst 0, 1) := by decide +kernel
theorem dX4_cart_22 : decode cX4_cart 22 = .ok (.iaload, 1) := by decide +kernel
theorem dX4_cart_23 : decode cX4_cart 23 = .ok (.iload_n 3, 1) := by decide +kernel
theorem dX4_cart_24 : decode cX4_cart 24 = .ok (.iadd, 1) := by decide +kernel
theorem dX4_cart_25 : decode cX4_cart 25 = .ok (.iconst 5, 1) := by decide +kernel
theorem dX4_cart_26 : decode cX4_cart 26 = .ok (.irem, 1) := by decide +kernel
theorem dX4_cart_27 : decode cX4_cart 27 = .ok (.istore 4, 2) := by decide +kernel
theorem dX4_cart_29 : decode cX4_cart 29 = .ok (.aload_n 0, 1) := by decide +kernel
theorem dX4_cart_30 : decode cX4_cart 30 = .ok (.getfield 7, 3) := by decide +kernel
theorem dX4_cart_33 : decode cX4_cart 33 = .ok (.bipush 113, 2) := by decide +kernel
theorem dX4_cart_35 : decode cX4_cart 35 = .ok (.iconst 4, 1) := by decide +kernel
theorem dX4_cart_36 : decode cX4_cart 36 = .ok (.iload 4, 2) := by decide +kernel
theorem dX4_cart_38 : decode cX4_cart 38 = .ok (.imul, 1) := by decide +kernel
theorem dX4_cart_39 : decode cX4_cart 39 = .ok (.iadd, 1) := by decide +kernel
theorem dX4_cart_40 : decode cX4_cart 40 = .ok (.iload_n 1, 1) := by decide +kernel
theorem dX4_cart_41 : decode cX4_cart 41 = .ok (.iadd, 1) := by decide +kernel
theorem dX4_cart_42 : decode cX4_cart 42 = .ok (.iaload, 1) := by decide +kernel
theorem dX4_cart_43 : decode cX4_cart 43 = .ok (.iload_n 2, 1) := by decide +kernel
theorem dX4_cart_44 : decode cX4_cart 44 = .ok (.invokestatic 51, 3) := by decide +kernel
theorem dX4_cart_47 : decode cX4_cart 47 = .ok (.istore 5, 2) := by decide +kernel
theorem dX4_cart_49 : decode cX4_cart 49 = .ok (.aload_n 0, 1) := by decide +kernel
theorem dX4_cart_50 : decode cX4_cart 50 = .ok (.iload 4, 2) := by decide +kernel
theorem dX4_cart_52 : decode cX4_cart 52 = .ok (.iload_n 1, 1) := by decide +kernel
theorem dX4_cart_53 : decode cX4_cart 53 = .ok (.iload 5, 2) := by decide +kernel
theorem dX4_cart_55 : decode cX4_cart 55 = .ok (.invokevirtual 59, 3) := by decide +kernel
theorem dX4_cart_58 : decode cX4_cart 58 = .ok (.iload_n 2, 1) := by decide +kernel
theorem dX4_cart_59 : decode cX4_cart 59 = .ok (.iload 5, 2) := by decide +kernel
theorem dX4_cart_61 : decode cX4_cart 61 = .ok (.isub, 1) := by decide +kernel
theorem dX4_cart_62 : decode cX4_cart 62 = .ok (.istore_n 2, 1) := by decide +kernel
theorem dX4_cart_63 : decode cX4_cart 63 = .ok (.iinc 3 1, 3) := by decide +kernel
theorem dX4_cart_66 : decode cX4_cart 66 = .ok (.goto (-54), 3) := by decide +kernel
theorem dX4_cart_69 : decode cX4_cart 69 = .ok (.aload_n 0, 1) := by decide +kernel
theorem dX4_cart_70 : decode cX4_cart 70 = .ok (.getfield 7, 3) := by decide +kernel
theorem dX4_cart_73 : decode cX4_cart 73 = .ok (.bipush 49, 2) := by decide +kernel
theorem dX4_cart_75 : decode cX4_cart 75 = .ok (.iload_n 1, 1) := by decide +kernel
theorem dX4_cart_76 : decode cX4_cart 76 = .ok (.iadd, 1) := by decide +kernel
theorem dX4_cart_77 : decode cX4_cart 77 = .ok (.iaload, 1) := by decide +kernel
theorem dX4_cart_78 : decode cX4_cart 78 = .ok (.iload_n 2, 1) := by decide +kernel
theorem dX4_cart_79 : decode cX4_cart 79 = .ok (.isub, 1) := by decide +kernel
theorem dX4_cart_80 : decode cX4_cart 80 = .ok (.ireturn, 1) := by decide +kernel
set_option maxRecDepth 20000 in
theorem ggX4_burnAll_X4_less : GoodIn wsX4_burnAll wsX4_less := goodIn_r _ [5] (by decide +kernel) (by decide +kernel)
set_option maxRecDepth 20000 in
theorem gX4_burnAll_X4_less : GoodIn wsX4_burnAll (va_wsS RX4 51 yX4_less wsX4_less) := goodIn_app (goodIn_of _ (by decide +kernel)) ggX4_burnAll_X4_less
theorem dX4_burnAll_0 : decode cX4_burnAll 0 = .ok (.iconst 0, 1) := by decide +kernel
theorem dX4_burnAll_1 : decode cX4_burnAll 1 = .ok (.istore_n 1, 1) := by decide +kernel
theorem dX4_burnAll_2 : decode cX4_burnAll 2 = .ok (.iload_n 1, 1) := by decide +kernel
theorem dX4_burnAll_3 : decode cX4_burnAll 3 = .ok (.iconst 5, 1) := by decide +kernel
theorem dX4_burnAll_4 : decode cX4_burnAll 4 = .ok (.if_icmp .ge 74, 3) := by decide +kernel
theorem dX4_burnAll_7 : decode cX4_burnAll 7 = .ok (.aload_n 0, 1) := by decide +kernel
theorem dX4_burnAll_8 : decode cX4_burnAll 8 = .ok (.getfield 7, 3) := by decide +kernel
theorem dX4_burnAll_11 : decode cX4_burnAll 11 = .ok (.iconst 4, 1) := by decide +kernel
theorem dX4_burnAll_12 : decode cX4_burnAll 12 = .ok (.iaload, 1) := by decide +kernel
theorem dX4_burnAll_13 : decode cX4_burnAll 13 = .ok (.aload_n 0, 1) := by decide +kernel
theorem dX4_burnAll_14 : decode cX4_burnAll 14 = .ok (.getfield 7, 3) := by decide +kernel
theorem dX4_burnAll_17 : decode cX4_burnAll 17 = .ok (.bipush 15, 2) := by decide +kernel
theorem dX4_burnAll_19 : decode cX4_burnAll 19 = .ok (.iload_n 1, 1) := by decide +kernel
theorem dX4_burnAll_20 : decode cX4_burnAll 20 = .ok (.iadd, 1) := by decide +kernel
theorem dX4_burnAll_21 : decode cX4_burnAll 21 = .ok (.iaload, 1) := by decide +kernel
theorem dX4_burnAll_22 : decode cX4_burnAll 22 = .ok (.invokestatic 51, 3) := by decide +kernel
theorem dX4_burnAll_25 : decode cX4_burnAll 25 = .ok (.istore_n 2, 1) := by decide +kernel
theorem dX4_burnAll_26 : decode cX4_burnAll 26 = .ok (.aload_n 0, 1) := by decide +kernel
theorem dX4_burnAll_27 : decode cX4_burnAll 27 = .ok (.getfield 7, 3) := by decide +kernel
theorem dX4_burnAll_30 : decode cX4_burnAll 30 = .ok (.bipush 15, 2) := by decide +kernel
theorem dX4_burnAll_32 : decode cX4_burnAll 32 = .ok (.iload_n 1, 1) := by decide +kernel
theorem dX4_burnAll_33 : decode cX4_burnAll 33 = .ok (.iadd, 1) := by decide +kernel
theorem dX4_burnAll_34 : decode cX4_burnAll 34 = .ok (.dup2, 1) := by decide +kernel
theorem dX4_burnAll_35 : decode cX4_burnAll 35 = .ok (.iaload, 1) := by decide +kernel
theorem dX4_burnAll_36 : decode cX4_burnAll 36 = .ok (.iload_n 2, 1) := by decide +kernel
theorem dX4_burnAll_37 : decode cX4_burnAll 37 = .ok (.isub, 1) := by decide +kernel
theorem dX4_burnAll_38 : decode cX4_burnAll 38 = .ok (.iastore, 1) := by decide +kernel
theorem dX4_burnAll_39 : decode cX4_burnAll 39 = .ok (.aload_n 0, 1) := by decide +kernel
theorem dX4_burnAll_40 : decode cX4_burnAll 40 = .ok (.getfield 7, 3) := by decide +kernel
theorem dX4_burnAll_43 : decode cX4_burnAll 43 = .ok (.bipush 35, 2) := by decide +kernel
theorem dX4_burnAll_45 : decode cX4_burnAll 45 = .ok (.iload_n 1, 1) := by decide +kernel
theorem dX4_burnAll_46 : decode cX4_burnAll 46 = .ok (.iadd, 1) := by decide +kernel
theorem dX4_burnAll_47 : decode cX4_burnAll 47 = .ok (.dup2, 1) := by decide +kernel
theorem dX4_burnAll_48 : decode cX4_burnAll 48 = .ok (.iaload, 1) := by decide +kernel
theorem dX4_burnAll_49 : decode cX4_burnAll 49 = .ok (.iload_n 2, 1) := by decide +kernel
theorem dX4_burnAll_50 : decode cX4_burnAll 50 = .ok (.iadd, 1) := by decide +kernel
theorem dX4_burnAll_51 : decode cX4_burnAll 51 = .ok (.iastore, 1) := by decide +kernel
theorem dX4_burnAll_52 : decode cX4_burnAll 52 = .ok (.aload_n 0, 1) := by decide +kernel
theorem dX4_burnAll_53 : decode cX4_burnAll 53 = .ok (.getfield 7, 3) := by decide +kernel
theorem dX4_burnAll_56 : decode cX4_burnAll 56 = .ok (.bipush 40, 2) := by decide +kernel
theorem dX4_burnAll_58 : decode cX4_burnAll 58 = .ok (.iload_n 1, 1) := by decide +kernel
theorem dX4_burnAll_59 : decode cX4_burnAll 59 = .ok (.iadd, 1) := by decide +kernel
theorem dX4_burnAll_60 : decode cX4_burnAll 60 = .ok (.dup2, 1) := by decide +kernel
theorem dX4_burnAll_61 : decode cX4_burnAll 61 = .ok (.iaload, 1) := by decide +kernel
theorem dX4_burnAll_62 : decode cX4_burnAll 62 = .ok (.aload_n 0, 1) := by decide +kernel
theorem dX4_burnAll_63 : decode cX4_burnAll 63 = .ok (.getfield 7, 3) := by decide +kernel
theorem dX4_burnAll_66 : decode cX4_burnAll 66 = .ok (.iconst 4, 1) := by decide +kernel
theorem dX4_burnAll_67 : decode cX4_burnAll 67 = .ok (.iaload, 1) := by decide +kernel
theorem dX4_burnAll_68 : decode cX4_burnAll 68 = .ok (.iload_n 2, 1) := by decide +kernel
theorem dX4_burnAll_69 : decode cX4_burnAll 69 = .ok (.isub, 1) := by decide +kernel
theorem dX4_burnAll_70 : decode cX4_burnAll 70 = .ok (.iadd, 1) := by decide +kernel
theorem dX4_burnAll_71 : decode cX4_burnAll 71 = .ok (.iastore, 1) := by decide +kernel
theorem dX4_burnAll_72 : decode cX4_burnAll 72 = .ok (.iinc 1 1, 3) := by decide +kernel
theorem dX4_burnAll_75 : decode cX4_burnAll 75 = .ok (.goto (-73), 3) := by decide +kernel
theorem dX4_burnAll_78 : decode cX4_burnAll 78 = .ok (.return_, 1) := by decide +kernel
set_option maxRecDepth 20000 in
theorem ggX4_passOne_X4_rainOf : GoodIn wsX4_passOne wsX4_rainOf := goodIn_r _ [6, 7, 1, 8, 40, 41, 42, 43, 44, 45, 46, 47, 48, 49, 50, 51, 52, 53, 54] (by decide +kernel) (by decide +kernel)
set_option maxRecDepth 20000 in
theorem gX4_passOne_X4_rainOf : GoodIn wsX4_passOne (wsV RX4 63 RX4 yX4_rainOf wsX4_rainOf) := goodIn_app (goodIn_of _ (by decide +kernel)) ggX4_passOne_X4_rainOf
set_option maxRecDepth 20000 in
theorem ggX4_passOne_X4_cutAll : GoodIn wsX4_passOne wsX4_cutAll := goodIn_r _ [12, 1, 13, 14, 5, 15, 40, 41, 42, 43, 44, 45, 46, 47, 48, 49, 50, 51, 52, 53, 54] (by decide +kernel) (by decide +kernel)
set_option maxRecDepth 20000 in
theorem gX4_passOne_X4_cutAll : GoodIn wsX4_passOne (wsV RX4 66 RX4 yX4_cutAll wsX4_cutAll) := goodIn_app (goodIn_of _ (by decide +kernel)) ggX4_passOne_X4_cutAll
set_option maxRecDepth 20000 in
theorem ggX4_passOne_X4_soak : GoodIn wsX4_passOne wsX4_soak := goodIn_r _ [19, 1, 40, 41, 42, 43, 44, 45, 46, 47, 48, 49, 50, 51, 52, 53, 54] (by decide +kernel) (by decide +kernel)
set_option maxRecDepth 20000 in
theorem gX4_passOne_X4_soak : GoodIn wsX4_passOne (wsV RX4 69 RX4 yX4_soak wsX4_soak) := goodIn_app (goodIn_of _ (by decide +kernel)) ggX4_passOne_X4_soak
set_option maxRecDepth 20000 in
theorem ggX4_passOne_X4_dry : GoodIn wsX4_passOne wsX4_dry := goodIn_r _ [23, 1, 13, 14, 5, 15, 40, 41, 42, 43, 44, 45, 46, 47, 48, 49, 50, 51, 52, 53, 54] (by decide +kernel) (by decide +kernel)
set_option maxRecDepth 20000 in
theorem gX4_passOne_X4_dry : GoodIn wsX4_passOne (wsV RX4 73 RX4 yX4_dry wsX4_dry) := goodIn_app (goodIn_of _ (by decide +kernel)) ggX4_passOne_X4_dry
set_option maxRecDepth 20000 in
theorem ggX4_passOne_X4_burnAll : GoodIn wsX4_passOne wsX4_burnAll := goodIn_r _ [27, 1, 13, 14, 5, 15, 40, 41, 42, 43, 44, 45, 46, 47, 48, 49, 50, 51, 52, 53, 54] (by decide +kernel) (by decide +kernel)
set_option maxRecDepth 20000 in
theorem gX4_passOne_X4_burnAll : GoodIn wsX4_passOne (wsV RX4 76 RX4 yX4_burnAll wsX4_burnAll) := goodIn_app (goodIn_of _ (by decide +kernel)) ggX4_passOne_X4_burnAll
set_option maxRecDepth 20000 in
theorem ggX4_passOne_X4_cart : GoodIn wsX4_passOne wsX4_cart := goodIn_r _ [31, 1, 13, 14, 5, 15, 32, 33, 34, 35, 36, 37, 38, 39, 40, 41, 42, 43, 44, 45, 46, 47, 48, 49, 50, 51, 52, 53, 54] (by decide +kernel) (by decide +kernel)
set_option maxRecDepth 20000 in
theorem gX4_passOne_X4_cart : GoodIn wsX4_passOne (wsV RX4 79 RX4 yX4_cart wsX4_cart) := goodIn_app (goodIn_of _ (by decide +kernel)) ggX4_passOne_X4_cart
theorem dX4_passOne_0 : decode cX4_passOne 0 = .ok (.aload_n 0, 1) := by decide +kernel
theorem dX4_passOne_1 : decode cX4_passOne 1 = .ok (.getfield 7, 3) := by decide +kernel
theorem dX4_passOne_4 : decode cX4_passOne 4 = .ok (.iconst 0, 1) := by decide +kernel
theorem dX4_passOne_5 : decode cX4_passOne 5 = .ok (.dup2, 1) := by decide +kernel
theorem dX4_passOne_6 : decode cX4_passOne 6 = .ok (.iaload, 1) := by decide +kernel
theorem dX4_passOne_7 : decode cX4_passOne 7 = .ok (.iconst 1, 1) := by decide +kernel
theorem dX4_passOne_8 : decode cX4_passOne 8 = .ok (.iadd, 1) := by decide +kernel
theorem dX4_passOne_9 : decode cX4_passOne 9 = .ok (.iastore, 1) := by decide +kernel
theorem dX4_passOne_10 : decode cX4_passOne 10 = .ok (.aload_n 0, 1) := by decide +kernel
theorem dX4_passOne_11 : decode cX4_passOne 11 = .ok (.getfield 7, 3) := by decide +kernel
theorem dX4_passOne_14 : decode cX4_passOne 14 = .ok (.iconst 1, 1) := by decide +kernel
theorem dX4_passOne_15 : decode cX4_passOne 15 = .ok (.iaload, 1) := by decide +kernel
theorem dX4_passOne_16 : decode cX4_passOne 16 = .ok (.iconst 1, 1) := by decide +kernel
theorem dX4_passOne_17 : decode cX4_passOne 17 = .ok (.if_icmp .ne 7, 3) := by decide +kernel
theorem dX4_passOne_20 : decode cX4_passOne 20 = .ok (.iconst 1, 1) := by decide +kernel
theorem dX4_passOne_21 : decode cX4_passOne 21 = .ok (.goto 4, 3) := by decide +kernel
theorem dX4_passOne_24 : decode cX4_passOne 24 = .ok (.iconst 0, 1) := by decide +kernel
theorem dX4_passOne_25 : decode cX4_passOne 25 = .ok (.istore_n 1, 1) := by decide +kernel
theorem dX4_passOne_26 : decode cX4_passOne 26 = .ok (.iload_n 1, 1) := by decide +kernel
theorem dX4_passOne_27 : decode cX4_passOne 27 = .ok (.ifCond .eq 7, 3) := by decide +kernel
theorem dX4_passOne_30 : decode cX4_passOne 30 = .ok (.iconst 0, 1) := by decide +kernel
theorem dX4_passOne_31 : decode cX4_passOne 31 = .ok (.goto 13, 3) := by decide +kernel
theorem dX4_passOne_34 : decode cX4_passOne 34 = .ok (.aload_n 0, 1) := by decide +kernel
theorem dX4_passOne_35 : decode cX4_passOne 35 = .ok (.aload_n 0, 1) := by decide +kernel
theorem dX4_passOne_36 : decode cX4_passOne 36 = .ok (.getfield 7, 3) := by decide +kernel
theorem dX4_passOne_39 : decode cX4_passOne 39 = .ok (.iconst 0, 1) := by decide +kernel
theorem dX4_passOne_40 : decode cX4_passOne 40 = .ok (.iaload, 1) := by decide +kernel
theorem dX4_passOne_41 : decode cX4_passOne 41 = .ok (.invokevirtual 63, 3) := by decide +kernel
theorem dX4_passOne_44 : decode cX4_passOne 44 = .ok (.istore_n 2, 1) := by decide +kernel
theorem dX4_passOne_45 : decode cX4_passOne 45 = .ok (.iload_n 1, 1) := by decide +kernel
theorem dX4_passOne_46 : decode cX4_passOne 46 = .ok (.ifCond .ne 7, 3) := by decide +kernel
theorem dX4_passOne_49 : decode cX4_passOne 49 = .ok (.aload_n 0, 1) := by decide +kernel
theorem dX4_passOne_50 : decode cX4_passOne 50 = .ok (.invokevirtual 66, 3) := by decide +kernel
theorem dX4_passOne_53 : decode cX4_passOne 53 = .ok (.iconst 0, 1) := by decide +kernel
theorem dX4_passOne_54 : decode cX4_passOne 54 = .ok (.istore_n 3, 1) := by decide +kernel
theorem dX4_passOne_55 : decode cX4_passOne 55 = .ok (.iload_n 3, 1) := by decide +kernel
theorem dX4_passOne_56 : decode cX4_passOne 56 = .ok (.bipush 20, 2) := by decide +kernel
theorem dX4_passOne_58 : decode cX4_passOne 58 = .ok (.if_icmp .ge 33, 3) := by decide +kernel
theorem dX4_passOne_61 : decode cX4_passOne 61 = .ok (.iload_n 2, 1) := by decide +kernel
theorem dX4_passOne_62 : decode cX4_passOne 62 = .ok (.bipush 6, 2) := by decide +kernel
theorem dX4_passOne_64 : decode cX4_passOne 64 = .ok (.if_icmp .le 11, 3) := by decide +kernel
theorem dX4_passOne_67 : decode cX4_passOne 67 = .ok (.aload_n 0, 1) := by decide +kernel
theorem dX4_passOne_68 : decode cX4_passOne 68 = .ok (.iload_n 3, 1) := by decide +kernel
theorem dX4_passOne_69 : decode cX4_passOne 69 = .ok (.invokevirtual 69, 3) := by decide +kernel
theorem dX4_passOne_72 : decode cX4_passOne 72 = .ok (.goto 13, 3) := by decide +kernel
theorem dX4_passOne_75 : decode cX4_passOne 75 = .ok (.iload_n 2, 1) := by decide +kernel
theorem dX4_passOne_76 : decode cX4_passOne 76 = .ok (.iconst 4, 1) := by decide +kernel
theorem dX4_passOne_77 : decode cX4_passOne 77 = .ok (.if_icmp .ge 8, 3) := by decide +kernel
theorem dX4_passOne_80 : decode cX4_passOne 80 = .ok (.aload_n 0, 1) := by decide +kernel
theorem dX4_passOne_81 : decode cX4_passOne 81 = .ok (.iload_n 3, 1) := by decide +kernel
theorem dX4_passOne_82 : decode cX4_passOne 82 = .ok (.invokevirtual 73, 3) := by decide +kernel
theorem dX4_passOne_85 : decode cX4_passOne 85 = .ok (.iinc 3 1, 3) := by decide +kernel
theorem dX4_passOne_88 : decode cX4_passOne 88 = .ok (.goto (-33), 3) := by decide +kernel
theorem dX4_passOne_91 : decode cX4_passOne 91 = .ok (.iload_n 1, 1) := by decide +kernel
theorem dX4_passOne_92 : decode cX4_passOne 92 = .ok (.ifCond .eq 9, 3) := by decide +kernel
theorem dX4_passOne_95 : decode cX4_passOne 95 = .ok (.aload_n 0, 1) := by decide +kernel
theorem dX4_passOne_96 : decode cX4_passOne 96 = .ok (.invokevirtual 76, 3) := by decide +kernel
theorem dX4_passOne_99 : decode cX4_passOne 99 = .ok (.iconst 0, 1) := by decide +kernel
theorem dX4_passOne_100 : decode cX4_passOne 100 = .ok (.ireturn, 1) := by decide +kernel
theorem dX4_passOne_101 : decode cX4_passOne 101 = .ok (.iconst 0, 1) := by decide +kernel
theorem dX4_passOne_102 : decode cX4_passOne 102 = .ok (.istore_n 3, 1) := by decide +kernel
theorem dX4_passOne_103 : decode cX4_passOne 103 = .ok (.iconst 0, 1) := by decide +kernel
theorem dX4_passOne_104 : decode cX4_passOne 104 = .ok (.istore 4, 2) := by decide +kernel
theorem dX4_passOne_106 : decode cX4_passOne 106 = .ok (.iload 4, 2) := by decide +kernel
theorem dX4_passOne_108 : decode cX4_passOne 108 = .ok (.iconst 4, 1) := by decide +kernel
theorem dX4_passOne_109 : decode cX4_passOne 109 = .ok (.if_icmp .ge 18, 3) := by decide +kernel
theorem dX4_passOne_112 : decode cX4_passOne 112 = .ok (.iload_n 3, 1) := by decide +kernel
theorem dX4_passOne_113 : decode cX4_passOne 113 = .ok (.aload_n 0, 1) := by decide +kernel
theorem dX4_passOne_114 : decode cX4_passOne 114 = .ok (.iload 4, 2) := by decide +kernel
theorem dX4_passOne_116 : decode cX4_passOne 116 = .ok (.invokevirtual 79, 3) := by decide +kernel
theorem dX4_passOne_119 : decode cX4_passOne 119 = .ok (.iadd, 1) := by decide +kernel
theorem dX4_passOne_120 : decode cX4_passOne 120 = .ok (.istore_n 3, 1) := by decide +kernel
theorem dX4_passOne_121 : decode cX4_passOne 121 = .ok (.iinc 4 1, 3) := by decide +kernel
theorem dX4_passOne_124 : decode cX4_passOne 124 = .ok (.goto (-18), 3) := by decide +kernel
theorem dX4_passOne_127 : decode cX4_passOne 127 = .ok (.iload_n 3, 1) := by decide +kernel
theorem dX4_passOne_128 : decode cX4_passOne 128 = .ok (.ireturn, 1) := by decide +kernel
set_option maxRecDepth 20000 in
theorem ggX4_passes_X4_passOne : GoodIn wsX4_passes wsX4_passOne := goodIn_r _ [5, 6, 7, 8, 9, 4, 10, 11, 12, 13, 14, 15, 16, 17, 18, 19, 20, 21, 22, 23, 24, 25, 26, 27, 28, 29, 30, 31, 32, 33, 34, 35, 36, 37, 38, 39, 40, 41, 42, 43, 44, 45, 46, 47, 48, 49, 50, 51, 52, 53, 54, 55, 56, 57, 58] (by decide +kernel) (by decide +kernel)
set_option maxRecDepth 20000 in
theorem gX4_passes_X4_passOne : GoodIn wsX4_passes (wsV RX4 82 RX4 yX4_passOne wsX4_passOne) := goodIn_app (goodIn_of _ (by decide +kernel)) ggX4_passes_X4_passOne
theorem dX4_passes_0 : decode cX4_passes 0 = .ok (.iconst 0, 1) := by decide +kernel
theorem dX4_passes_1 : decode cX4_passes 1 = .ok (.istore_n 2, 1) := by decide +kernel
theorem dX4_passes_2 : decode cX4_passes 2 = .ok (.iconst 0, 1) := by decide +kernel
theorem dX4_passes_3 : decode cX4_passes 3 = .ok (.istore_n 3, 1) := by decide +kernel
theorem dX4_passes_4 : decode cX4_passes 4 = .ok (.iload_n 3, 1) := by decide +kernel
theorem dX4_passes_5 : decode cX4_passes 5 = .ok (.iload_n 1, 1) := by decide +kernel
theorem dX4_passes_6 : decode cX4_passes 6 = .ok (.if_icmp .ge 16, 3) := by decide +kernel
theorem dX4_passes_9 : decode cX4_passes 9 = .ok (.iload_n 2, 1) := by decide +kernel
theorem dX4_passes_10 : decode cX4_passes 10 = .ok (.aload_n 0, 1) := by decide +kernel
theorem dX4_passes_11 : decode cX4_passes 11 = .ok (.invokevirtual 82, 3) := by decide +kernel
theorem dX4_passes_14 : decode cX4_passes 14 = .ok (.iadd, 1) := by decide +kernel
theorem dX4_passes_15 : decode cX4_passes 15 = .ok (.istore_n 2, 1) := by decide +kernel
theorem dX4_passes_16 : decode cX4_passes 16 = .ok (.iinc 3 1, 3) := by decide +kernel
theorem dX4_passes_19 : decode cX4_passes 19 = .ok (.goto (-15), 3) := by decide +kernel
theorem dX4_passes_22 : decode cX4_passes 22 = .ok (.iload_n 2, 1) := by decide +kernel
theorem dX4_passes_23 : decode cX4_passes 23 = .ok (.ireturn, 1) := by decide +kernel
theorem dX4_commons_0 : decode cX4_commons 0 = .ok (.bipush 12, 2) := by decide +kernel
theorem dX4_commons_2 : decode cX4_commons 2 = .ok (.istore_n 2, 1) := by decide +kernel
theorem dX4_commons_3 : decode cX4_commons 3 = .ok (.iconst 0, 1) := by decide +kernel
theorem dX4_commons_4 : decode cX4_commons 4 = .ok (.istore_n 3, 1) := by decide +kernel
theorem dX4_commons_5 : decode cX4_commons 5 = .ok (.iload_n 3, 1) := by decide +kernel
theorem dX4_commons_6 : decode cX4_commons 6 = .ok (.iconst 5, 1) := by decide +kernel
theorem dX4_commons_7 : decode cX4_commons 7 = .ok (.if_icmp .ge 25, 3) := by decide +kernel
theorem dX4_commons_10 : decode cX4_commons 10 = .ok (.iload_n 2, 1) := by decide +kernel
theorem dX4_commons_11 : decode cX4_commons 11 = .ok (.aload_n 0, 1) := by decide +kernel
theorem dX4_commons_12 : decode cX4_commons 12 = .ok (.getfield 7, 3) := by decide +kernel
theorem dX4_commons_15 : decode cX4_commons 15 = .ok (.bipush 53, 2) := by decide +kernel
theorem dX4_commons_17 : decode cX4_commons 17 = .ok (.iconst 4, 1) := by decide +kernel
theorem dX4_commons_18 : decode cX4_commons 18 = .ok (.iload_n 3, 1) := by decide +kernel
theorem dX4_commons_19 : decode cX4_commons 19 = .ok (.imul, 1) := by decide +kernel
theorem dX4_commons_20 : decode cX4_commons 20 = .ok (.iadd, 1) := by decide +kernel
theorem dX4_commons_21 : decode cX4_commons 21 = .ok (.iload_n 1, 1) := by decide +kernel
theorem dX4_commons_22 : decode cX4_commons 22 = .ok (.iadd, 1) := by decide +kernel
theorem dX4_commons_23 : decode cX4_commons 23 = .ok (.iaload, 1) := by decide +kernel
theorem dX4_commons_24 : decode cX4_commons 24 = .ok (.isub, 1) := by decide +kernel
theorem dX4_commons_25 : decode cX4_commons 25 = .ok (.istore_n 2, 1) := by decide +kernel
theorem dX4_commons_26 : decode cX4_commons 26 = .ok (.iinc 3 1, 3) := by decide +kernel
theorem dX4_commons_29 : decode cX4_commons 29 = .ok (.goto (-24), 3) := by decide +kernel
theorem dX4_commons_32 : decode cX4_commons 32 = .ok (.iload_n 2, 1) := by decide +kernel
theorem dX4_commons_33 : decode cX4_commons 33 = .ok (.ireturn, 1) := by decide +kernel
set_option maxRecDepth 20000 in
theorem ggX4_sharesOf_X4_commons : GoodIn wsX4_sharesOf wsX4_commons := goodIn_r _ [6, 1, 7, 8, 9, 10, 11, 12, 13, 14, 15, 16, 17, 18, 19, 20, 21] (by decide +kernel) (by decide +kernel)
set_option maxRecDepth 20000 in
theorem gX4_sharesOf_X4_commons : GoodIn wsX4_sharesOf (wsV RX4 85 RX4 yX4_commons wsX4_commons) := goodIn_app (goodIn_of _ (by decide +kernel)) ggX4_sharesOf_X4_commons
theorem dX4_sharesOf_0 : decode cX4_sharesOf 0 = .ok (.iload_n 1, 1) := by decide +kernel
theorem dX4_sharesOf_1 : decode cX4_sharesOf 1 = .ok (.iconst (-1), 1) := by decide +kernel
theorem dX4_sharesOf_2 : decode cX4_sharesOf 2 = .ok (.if_icmp .ne 11, 3) := by decide +kernel
theorem dX4_sharesOf_5 : decode cX4_sharesOf 5 = .ok (.aload_n 0, 1) := by decide +kernel
theorem dX4_sharesOf_6 : decode cX4_sharesOf 6 = .ok (.iload_n 2, 1) := by decide +kernel
theorem dX4_sharesOf_7 : decode cX4_sharesOf 7 = .ok (.invokevirtual 85, 3) := by decide +kernel
theorem dX4_sharesOf_10 : decode cX4_sharesOf 10 = .ok (.goto 16, 3) := by decide +kernel
theorem dX4_sharesOf_13 : decode cX4_sharesOf 13 = .ok (.aload_n 0, 1) := by decide +kernel
theorem dX4_sharesOf_14 : decode cX4_sharesOf 14 = .ok (.getfield 7, 3) := by decide +kernel
theorem dX4_sharesOf_17 : decode cX4_sharesOf 17 = .ok (.bipush 53, 2) := by decide +kernel
theorem dX4_sharesOf_19 : decode cX4_sharesOf 19 = .ok (.iconst 4, 1) := by decide +kernel
theorem dX4_sharesOf_20 : decode cX4_sharesOf 20 = .ok (.iload_n 1, 1) := by decide +kernel
theorem dX4_sharesOf_21 : decode cX4_sharesOf 21 = .ok (.imul, 1) := by decide +kernel
theorem dX4_sharesOf_22 : decode cX4_sharesOf 22 = .ok (.iadd, 1) := by decide +kernel
theorem dX4_sharesOf_23 : decode cX4_sharesOf 23 = .ok (.iload_n 2, 1) := by decide +kernel
theorem dX4_sharesOf_24 : decode cX4_sharesOf 24 = .ok (.iadd, 1) := by decide +kernel
theorem dX4_sharesOf_25 : decode cX4_sharesOf 25 = .ok (.iaload, 1) := by decide +kernel
theorem dX4_sharesOf_26 : decode cX4_sharesOf 26 = .ok (.ireturn, 1) := by decide +kernel
theorem dX4_workers_0 : decode cX4_workers 0 = .ok (.iconst 0, 1) := by decide +kernel
theorem dX4_workers_1 : decode cX4_workers 1 = .ok (.istore_n 3, 1) := by decide +kernel
theorem dX4_workers_2 : decode cX4_workers 2 = .ok (.iconst 0, 1) := by decide +kernel
theorem dX4_workers_3 : decode cX4_workers 3 = .ok (.istore 4, 2) := by decide +kernel
theorem dX4_workers_5 : decode cX4_workers 5 = .ok (.iload 4, 2) := by decide +kernel
theorem dX4_workers_7 : decode cX4_workers 7 = .ok (.bipush 6, 2) := by decide +kernel
theorem dX4_workers_9 : decode cX4_workers 9 = .ok (.if_icmp .ge 47, 3) := by decide +kernel
theorem dX4_workers_12 : decode cX4_workers 12 = .ok (.iload_n 3, 1) := by decide +kernel
theorem dX4_workers_13 : decode cX4_workers 13 = .ok (.aload_n 0, 1) := by decide +kernel
theorem dX4_workers_14 : decode cX4_workers 14 = .ok (.getfield 7, 3) := by decide +kernel
theorem dX4_workers_17 : decode cX4_workers 17 = .ok (.sipush 139, 3) := by decide +kernel
theorem dX4_workers_20 : decode cX4_workers 20 = .ok (.iload 4, 2) := by decide +kernel
theorem dX4_workers_22 : decode cX4_workers 22 = .ok (.iadd, 1) := by decide +kernel
theorem dX4_workers_23 : decode cX4_workers 23 = .ok (.iaload, 1) := by decide +kernel
theorem dX4_workers_24 : decode cX4_workers 24 = .ok (.iload_n 1, 1) := by decide +kernel
theorem dX4_workers_25 : decode cX4_workers 25 = .ok (.if_icmp .ne 22, 3) := by decide +kernel
theorem dX4_workers_28 : decode cX4_workers 28 = .ok (.aload_n 0, 1) := by decide +kernel
theorem dX4_workers_29 : decode cX4_workers 29 = .ok (.getfield 7, 3) := by decide +kernel
theorem dX4_workers_32 : decode cX4_workers 32 = .ok (.sipush 145, 3) := by decide +kernel
theorem dX4_workers_35 : decode cX4_workers 35 = .ok (.iload 4, 2) := by decide +kernel
theorem dX4_workers_37 : decode cX4_workers 37 = .ok (.iadd, 1) := by decide +kernel
theorem dX4_workers_38 : decode cX4_workers 38 = .ok (.iaload, 1) := by decide +kernel
theorem dX4_workers_39 : decode cX4_workers 39 = .ok (.iload_n 2, 1) := by decide +kernel
theorem dX4_workers_40 : decode cX4_workers 40 = .ok (.if_icmp .ne 7, 3) := by decide +kernel
theorem dX4_workers_43 : decode cX4_workers 43 = .ok (.iconst 1, 1) := by decide +kernel
theorem dX4_workers_44 : decode cX4_workers 44 = .ok (.goto 4, 3) := by decide +kernel
theorem dX4_workers_47 : decode cX4_workers 47 = .ok (.iconst 0, 1) := by decide +kernel
theorem dX4_workers_48 : decode cX4_workers 48 = .ok (.iadd, 1) := by decide +kernel
theorem dX4_workers_49 : decode cX4_workers 49 = .ok (.istore_n 3, 1) := by decide +kernel
theorem dX4_workers_50 : decode cX4_workers 50 = .ok (.iinc 4 1, 3) := by decide +kernel
theorem dX4_workers_53 : decode cX4_workers 53 = .ok (.goto (-48), 3) := by decide +kernel
theorem dX4_workers_56 : decode cX4_workers 56 = .ok (.iload_n 3, 1) := by decide +kernel
theorem dX4_workers_57 : decode cX4_workers 57 = .ok (.ireturn, 1) := by decide +kernel
set_option maxRecDepth 20000 in
theorem ggX4_workersOn_X4_workers : GoodIn wsX4_workersOn wsX4_workers := goodIn_r _ [5, 6, 7, 8, 9, 10, 11, 12, 13, 14, 15, 16, 17, 18, 19, 20, 21] (by decide +kernel) (by decide +kernel)
set_option maxRecDepth 20000 in
theorem gX4_workersOn_X4_workers : GoodIn wsX4_workersOn (wsV RX4 88 RX4 yX4_workers wsX4_workers) := goodIn_app (goodIn_of _ (by decide +kernel)) ggX4_workersOn_X4_workers
theorem dX4_workersOn_0 : decode cX4_workersOn 0 = .ok (.iconst 0, 1) := by decide +kernel
theorem dX4_workersOn_1 : decode cX4_workersOn 1 = .ok (.istore_n 2, 1) := by decide +kernel
theorem dX4_workersOn_2 : decode cX4_workersOn 2 = .ok (.iconst 0, 1) := by decide +kernel
theorem dX4_workersOn_3 : decode cX4_workersOn 3 = .ok (.istore_n 3, 1) := by decide +kernel
theorem dX4_workersOn_4 : decode cX4_workersOn 4 = .ok (.iload_n 3, 1) := by decide +kernel
theorem dX4_workersOn_5 : decode cX4_workersOn 5 = .ok (.iconst 5, 1) := by decide +kernel
theorem dX4_workersOn_6 : decode cX4_workersOn 6 = .ok (.if_icmp .ge 18, 3) := by decide +kernel
theorem dX4_workersOn_9 : decode cX4_workersOn 9 = .ok (.iload_n 2, 1) := by decide +kernel
theorem dX4_workersOn_10 : decode cX4_workersOn 10 = .ok (.aload_n 0, 1) := by decide +kernel
theorem dX4_workersOn_11 : decode cX4_workersOn 11 = .ok (.iload_n 3, 1) := by decide +kernel
theorem dX4_workersOn_12 : decode cX4_workersOn 12 = .ok (.iload_n 1, 1) := by decide +kernel
theorem dX4_workersOn_13 : decode cX4_workersOn 13 = .ok (.invokevirtual 88, 3) := by decide +kernel
theorem dX4_workersOn_16 : decode cX4_workersOn 16 = .ok (.iadd, 1) := by decide +kernel
theorem dX4_workersOn_17 : decode cX4_workersOn 17 = .ok (.istore_n 2, 1) := by decide +kernel
theorem dX4_workersOn_18 : decode cX4_workersOn 18 = .ok (.iinc 3 1, 3) := by decide +kernel
theorem dX4_workersOn_21 : decode cX4_workersOn 21 = .ok (.goto (-17), 3) := by decide +kernel
theorem dX4_workersOn_24 : decode cX4_workersOn 24 = .ok (.iload_n 2, 1) := by decide +kernel
theorem dX4_workersOn_25 : decode cX4_workersOn 25 = .ok (.ireturn, 1) := by decide +kernel
set_option maxRecDepth 20000 in
theorem ggX4_allWorkers_X4_workersOn : GoodIn wsX4_allWorkers wsX4_workersOn := goodIn_r _ [5, 6, 7, 8, 4, 9, 10, 11, 12, 13, 14, 15, 16, 17, 18, 19, 20, 21, 22, 23, 24, 25] (by decide +kernel) (by decide +kernel)
set_option maxRecDepth 20000 in
theorem gX4_allWorkers_X4_workersOn : GoodIn wsX4_allWorkers (wsV RX4 91 RX4 yX4_workersOn wsX4_workersOn) := goodIn_app (goodIn_of _ (by decide +kernel)) ggX4_allWorkers_X4_workersOn
theorem dX4_allWorkers_0 : decode cX4_allWorkers 0 = .ok (.iconst 0, 1) := by decide +kernel
theorem dX4_allWorkers_1 : decode cX4_allWorkers 1 = .ok (.istore_n 1, 1) := by decide +kernel
theorem dX4_allWorkers_2 : decode cX4_allWorkers 2 = .ok (.iconst 0, 1) := by decide +kernel
theorem dX4_allWorkers_3 : decode cX4_allWorkers 3 = .ok (.istore_n 2, 1) := by decide +kernel
theorem dX4_allWorkers_4 : decode cX4_allWorkers 4 = .ok (.iload_n 2, 1) := by decide +kernel
theorem dX4_allWorkers_5 : decode cX4_allWorkers 5 = .ok (.iconst 4, 1) := by decide +kernel
theorem dX4_allWorkers_6 : decode cX4_allWorkers 6 = .ok (.if_icmp .ge 17, 3) := by decide +kernel
theorem dX4_allWorkers_9 : decode cX4_allWorkers 9 = .ok (.iload_n 1, 1) := by decide +kernel
theorem dX4_allWorkers_10 : decode cX4_allWorkers 10 = .ok (.aload_n 0, 1) := by decide +kernel
theorem dX4_allWorkers_11 : decode cX4_allWorkers 11 = .ok (.iload_n 2, 1) := by decide +kernel
theorem dX4_allWorkers_12 : decode cX4_allWorkers 12 = .ok (.invokevirtual 91, 3) := by decide +kernel
theorem dX4_allWorkers_15 : decode cX4_allWorkers 15 = .ok (.iadd, 1) := by decide +kernel
theorem dX4_allWorkers_16 : decode cX4_allWorkers 16 = .ok (.istore_n 1, 1) := by decide +kernel
theorem dX4_allWorkers_17 : decode cX4_allWorkers 17 = .ok (.iinc 2 1, 3) := by decide +kernel
theorem dX4_allWorkers_20 : decode cX4_allWorkers 20 = .ok (.goto (-16), 3) := by decide +kernel
theorem dX4_allWorkers_23 : decode cX4_allWorkers 23 = .ok (.iload_n 1, 1) := by decide +kernel
theorem dX4_allWorkers_24 : decode cX4_allWorkers 24 = .ok (.ireturn, 1) := by decide +kernel
theorem dX4_turvesOn_0 : decode cX4_turvesOn 0 = .ok (.iconst 4, 1) := by decide +kernel
theorem dX4_turvesOn_1 : decode cX4_turvesOn 1 = .ok (.iload_n 1, 1) := by decide +kernel
theorem dX4_turvesOn_2 : decode cX4_turvesOn 2 = .ok (.imul, 1) := by decide +kernel
theorem dX4_turvesOn_3 : decode cX4_turvesOn 3 = .ok (.iload_n 2, 1) := by decide +kernel
theorem dX4_turvesOn_4 : decode cX4_turvesOn 4 = .ok (.iadd, 1) := by decide +kernel
theorem dX4_turvesOn_5 : decode cX4_turvesOn 5 = .ok (.istore_n 3, 1) := by decide +kernel
theorem dX4_turvesOn_6 : decode cX4_turvesOn 6 = .ok (.aload_n 0, 1) := by decide +kernel
theorem dX4_turvesOn_7 : decode cX4_turvesOn 7 = .ok (.getfield 7, 3) := by decide +kernel
theorem dX4_turvesOn_10 : decode cX4_turvesOn 10 = .ok (.bipush 73, 2) := by decide +kernel
theorem dX4_turvesOn_12 : decode cX4_turvesOn 12 = .ok (.iload_n 3, 1) := by decide +kernel
theorem dX4_turvesOn_13 : decode cX4_turvesOn 13 = .ok (.iadd, 1) := by decide +kernel
theorem dX4_turvesOn_14 : decode cX4_turvesOn 14 = .ok (.iaload, 1) := by decide +kernel
theorem dX4_turvesOn_15 : decode cX4_turvesOn 15 = .ok (.aload_n 0, 1) := by decide +kernel
theorem dX4_turvesOn_16 : decode cX4_turvesOn 16 = .ok (.getfield 7, 3) := by decide +kernel
theorem dX4_turvesOn_19 : decode cX4_turvesOn 19 = .ok (.bipush 93, 2) := by decide +kernel
theorem dX4_turvesOn_21 : decode cX4_turvesOn 21 = .ok (.iload_n 3, 1) := by decide +kernel
theorem dX4_turvesOn_22 : decode cX4_turvesOn 22 = .ok (.iadd, 1) := by decide +kernel
theorem dX4_turvesOn_23 : decode cX4_turvesOn 23 = .ok (.iaload, 1) := by decide +kernel
theorem dX4_turvesOn_24 : decode cX4_turvesOn 24 = .ok (.iadd, 1) := by decide +kernel
theorem dX4_turvesOn_25 : decode cX4_turvesOn 25 = .ok (.aload_n 0, 1) := by decide +kernel
theorem dX4_turvesOn_26 : decode cX4_turvesOn 26 = .ok (.getfield 7, 3) := by decide +kernel
theorem dX4_turvesOn_29 : decode cX4_turvesOn 29 = .ok (.bipush 113, 2) := by decide +kernel
theorem dX4_turvesOn_31 : decode cX4_turvesOn 31 = .ok (.iload_n 3, 1) := by decide +kernel
theorem dX4_turvesOn_32 : decode cX4_turvesOn 32 = .ok (.iadd, 1) := by decide +kernel
theorem dX4_turvesOn_33 : decode cX4_turvesOn 33 = .ok (.iaload, 1) := by decide +kernel
theorem dX4_turvesOn_34 : decode cX4_turvesOn 34 = .ok (.iadd, 1) := by decide +kernel
theorem dX4_turvesOn_35 : decode cX4_turvesOn 35 = .ok (.ireturn, 1) := by decide +kernel
set_option maxRecDepth 20000 in
theorem ggX4_ofHearth_X4_turvesOn : GoodIn wsX4_ofHearth wsX4_turvesOn := goodIn_r _ [5, 6, 7, 8, 9, 10, 11, 12, 13, 14, 15, 16, 17, 18, 19, 20, 21] (by decide +kernel) (by decide +kernel)
set_option maxRecDepth 20000 in
theorem gX4_ofHearth_X4_turvesOn : GoodIn wsX4_ofHearth (wsV RX4 94 RX4 yX4_turvesOn wsX4_turvesOn) := goodIn_app (goodIn_of _ (by decide +kernel)) ggX4_ofHearth_X4_turvesOn
theorem dX4_ofHearth_0 : decode cX4_ofHearth 0 = .ok (.iconst 0, 1) := by decide +kernel
theorem dX4_ofHearth_1 : decode cX4_ofHearth 1 = .ok (.istore_n 2, 1) := by decide +kernel
theorem dX4_ofHearth_2 : decode cX4_ofHearth 2 = .ok (.iconst 0, 1) := by decide +kernel
theorem dX4_ofHearth_3 : decode cX4_ofHearth 3 = .ok (.istore_n 3, 1) := by decide +kernel
theorem dX4_ofHearth_4 : decode cX4_ofHearth 4 = .ok (.iload_n 3, 1) := by decide +kernel
theorem dX4_ofHearth_5 : decode cX4_ofHearth 5 = .ok (.iconst 4, 1) := by decide +kernel
theorem dX4_ofHearth_6 : decode cX4_ofHearth 6 = .ok (.if_icmp .ge 18, 3) := by decide +kernel
theorem dX4_ofHearth_9 : decode cX4_ofHearth 9 = .ok (.iload_n 2, 1) := by decide +kernel
theorem dX4_ofHearth_10 : decode cX4_ofHearth 10 = .ok (.aload_n 0, 1) := by decide +kernel
theorem dX4_ofHearth_11 : decode cX4_ofHearth 11 = .ok (.iload_n 1, 1) := by decide +kernel
theorem dX4_ofHearth_12 : decode cX4_ofHearth 12 = .ok (.iload_n 3, 1) := by decide +kernel
theorem dX4_ofHearth_13 : decode cX4_ofHearth 13 = .ok (.invokevirtual 94, 3) := by decide +kernel
theorem dX4_ofHearth_16 : decode cX4_ofHearth 16 = .ok (.iadd, 1) := by decide +kernel
theorem dX4_ofHearth_17 : decode cX4_ofHearth 17 = .ok (.istore_n 2, 1) := by decide +kernel
theorem dX4_ofHearth_18 : decode cX4_ofHearth 18 = .ok (.iinc 3 1, 3) := by decide +kernel
theorem dX4_ofHearth_21 : decode cX4_ofHearth 21 = .ok (.goto (-17), 3) := by decide +kernel
theorem dX4_ofHearth_24 : decode cX4_ofHearth 24 = .ok (.iload_n 2, 1) := by decide +kernel
theorem dX4_ofHearth_25 : decode cX4_ofHearth 25 = .ok (.ireturn, 1) := by decide +kernel
set_option maxRecDepth 20000 in
theorem ggX4_lieOn_X4_turvesOn : GoodIn wsX4_lieOn wsX4_turvesOn := goodIn_r _ [5, 6, 7, 8, 9, 10, 11, 12, 13, 14, 15, 16, 17, 18, 19, 20, 21] (by decide +kernel) (by decide +kernel)
set_option maxRecDepth 20000 in
theorem gX4_lieOn_X4_turvesOn : GoodIn wsX4_lieOn (wsV RX4 94 RX4 yX4_turvesOn wsX4_turvesOn) := goodIn_app (goodIn_of _ (by decide +kernel)) ggX4_lieOn_X4_turvesOn
theorem dX4_lieOn_0 : decode cX4_lieOn 0 = .ok (.iconst 0, 1) := by decide +kernel
theorem dX4_lieOn_1 : decode cX4_lieOn 1 = .ok (.istore_n 2, 1) := by decide +kernel
theorem dX4_lieOn_2 : decode cX4_lieOn 2 = .ok (.iconst 0, 1) := by decide +kernel
theorem dX4_lieOn_3 : decode cX4_lieOn 3 = .ok (.istore_n 3, 1) := by decide +kernel
theorem dX4_lieOn_4 : decode cX4_lieOn 4 = .ok (.iload_n 3, 1) := by decide +kernel
theorem dX4_lieOn_5 : decode cX4_lieOn 5 = .ok (.iconst 5, 1) := by decide +kernel
theorem dX4_lieOn_6 : decode cX4_lieOn 6 = .ok (.if_icmp .ge 18, 3) := by decide +kernel
theorem dX4_lieOn_9 : decode cX4_lieOn 9 = .ok (.iload_n 2, 1) := by decide +kernel
theorem dX4_lieOn_10 : decode cX4_lieOn 10 = .ok (.aload_n 0, 1) := by decide +kernel
theorem dX4_lieOn_11 : decode cX4_lieOn 11 = .ok (.iload_n 3, 1) := by decide +kernel
theorem dX4_lieOn_12 : decode cX4_lieOn 12 = .ok (.iload_n 1, 1) := by decide +kernel
theorem dX4_lieOn_13 : decode cX4_lieOn 13 = .ok (.invokevirtual 94, 3) := by decide +kernel
theorem dX4_lieOn_16 : decode cX4_lieOn 16 = .ok (.iadd, 1) := by decide +kernel
theorem dX4_lieOn_17 : decode cX4_lieOn 17 = .ok (.istore_n 2, 1) := by decide +kernel
theorem dX4_lieOn_18 : decode cX4_lieOn 18 = .ok (.iinc 3 1, 3) := by decide +kernel
theorem dX4_lieOn_21 : decode cX4_lieOn 21 = .ok (.goto (-17), 3) := by decide +kernel
theorem dX4_lieOn_24 : decode cX4_lieOn 24 = .ok (.iload_n 2, 1) := by decide +kernel
theorem dX4_lieOn_25 : decode cX4_lieOn 25 = .ok (.ireturn, 1) := by decide +kernel
theorem dX4_atLeastNone_0 : decode cX4_atLeastNone 0 = .ok (.iload_n 0, 1) := by decide +kernel
theorem dX4_atLeastNone_1 : decode cX4_atLeastNone 1 = .ok (.ifCond .ge 7, 3) := by decide +kernel
theorem dX4_atLeastNone_4 : decode cX4_atLeastNone 4 = .ok (.iconst 0, 1) := by decide +kernel
theorem dX4_atLeastNone_5 : decode cX4_atLeastNone 5 = .ok (.goto 4, 3) := by decide +kernel
theorem dX4_atLeastNone_8 : decode cX4_atLeastNone 8 = .ok (.iload_n 0, 1) := by decide +kernel
theorem dX4_atLeastNone_9 : decode cX4_atLeastNone 9 = .ok (.ireturn, 1) := by decide +kernel
set_option maxRecDepth 20000 in
theorem ggX4_shortNow_X4_atLeastNone : GoodIn wsX4_shortNow wsX4_atLeastNone := goodIn_r _ [5] (by decide +kernel) (by decide +kernel)
set_option maxRecDepth 20000 in
theorem gX4_shortNow_X4_atLeastNone : GoodIn wsX4_shortNow (va_wsS RX4 97 yX4_atLeastNone wsX4_atLeastNone) := goodIn_app (goodIn_of _ (by decide +kernel)) ggX4_shortNow_X4_atLeastNone
theorem dX4_shortNow_0 : decode cX4_shortNow 0 = .ok (.aload_n 0, 1) := by decide +kernel
theorem dX4_shortNow_1 : decode cX4_shortNow 1 = .ok (.getfield 7, 3) := by decide +kernel
theorem dX4_shortNow_4 : decode cX4_shortNow 4 = .ok (.bipush 10, 2) := by decide +kernel
theorem dX4_shortNow_6 : decode cX4_shortNow 6 = .ok (.iload_n 1, 1) := by decide +kernel
theorem dX4_shortNow_7 : decode cX4_shortNow 7 = .ok (.iadd, 1) := by decide +kernel
theorem dX4_shortNow_8 : decode cX4_shortNow 8 = .ok (.iaload, 1) := by decide +kernel
theorem dX4_shortNow_9 : decode cX4_shortNow 9 = .ok (.aload_n 0, 1) := by decide +kernel
theorem dX4_shortNow_10 : decode cX4_shortNow 10 = .ok (.getfield 7, 3) := by decide +kernel
theorem dX4_shortNow_13 : decode cX4_shortNow 13 = .ok (.bipush 15, 2) := by decide +kernel
theorem dX4_shortNow_15 : decode cX4_shortNow 15 = .ok (.iload_n 1, 1) := by decide +kernel
theorem dX4_shortNow_16 : decode cX4_shortNow 16 = .ok (.iadd, 1) := by decide +kernel
theorem dX4_shortNow_17 : decode cX4_shortNow 17 = .ok (.iaload, 1) := by decide +kernel
theorem dX4_shortNow_18 : decode cX4_shortNow 18 = .ok (.isub, 1) := by decide +kernel
theorem dX4_shortNow_19 : decode cX4_shortNow 19 = .ok (.invokestatic 97, 3) := by decide +kernel
theorem dX4_shortNow_22 : decode cX4_shortNow 22 = .ok (.ireturn, 1) := by decide +kernel
set_option maxRecDepth 20000 in
theorem ggX4_shortThen_X4_ofHearth : GoodIn wsX4_shortThen wsX4_ofHearth := goodIn_r _ [6, 7, 8, 9, 5, 10, 1, 14, 15, 16, 17, 18, 19, 20, 21, 22, 23, 24, 25, 26, 27, 28] (by decide +kernel) (by decide +kernel)
set_option maxRecDepth 20000 in
theorem gX4_shortThen_X4_ofHearth : GoodIn wsX4_shortThen (wsV RX4 100 RX4 yX4_ofHearth wsX4_ofHearth) := goodIn_app (goodIn_of _ (by decide +kernel)) ggX4_shortThen_X4_ofHearth
set_option maxRecDepth 20000 in
theorem ggX4_shortThen_X4_atLeastNone : GoodIn wsX4_shortThen wsX4_atLeastNone := goodIn_r _ [13] (by decide +kernel) (by decide +kernel)
set_option maxRecDepth 20000 in
theorem gX4_shortThen_X4_atLeastNone : GoodIn wsX4_shortThen (va_wsS RX4 97 yX4_atLeastNone wsX4_atLeastNone) := goodIn_app (goodIn_of _ (by decide +kernel)) ggX4_shortThen_X4_atLeastNone
theorem dX4_shortThen_0 : decode cX4_shortThen 0 = .ok (.aload_n 0, 1) := by decide +kernel
theorem dX4_shortThen_1 : decode cX4_shortThen 1 = .ok (.getfield 7, 3) := by decide +kernel
theorem dX4_shortThen_4 : decode cX4_shortThen 4 = .ok (.bipush 10, 2) := by decide +kernel
theorem dX4_shortThen_6 : decode cX4_shortThen 6 = .ok (.iload_n 1, 1) := by decide +kernel
theorem dX4_shortThen_7 : decode cX4_shortThen 7 = .ok (.iadd, 1) := by decide +kernel
theorem dX4_shortThen_8 : decode cX4_shortThen 8 = .ok (.iaload, 1) := by decide +kernel
theorem dX4_shortThen_9 : decode cX4_shortThen 9 = .ok (.aload_n 0, 1) := by decide +kernel
theorem dX4_shortThen_10 : decode cX4_shortThen 10 = .ok (.getfield 7, 3) := by decide +kernel
theorem dX4_shortThen_13 : decode cX4_shortThen 13 = .ok (.bipush 15, 2) := by decide +kernel
theorem dX4_shortThen_15 : decode cX4_shortThen 15 = .ok (.iload_n 1, 1) := by decide +kernel
theorem dX4_shortThen_16 : decode cX4_shortThen 16 = .ok (.iadd, 1) := by decide +kernel
theorem dX4_shortThen_17 : decode cX4_shortThen 17 = .ok (.iaload, 1) := by decide +kernel
theorem dX4_shortThen_18 : decode cX4_shortThen 18 = .ok (.isub, 1) := by decide +kernel
theorem dX4_shortThen_19 : decode cX4_shortThen 19 = .ok (.aload_n 0, 1) := by decide +kernel
theorem dX4_shortThen_20 : decode cX4_shortThen 20 = .ok (.iload_n 1, 1) := by decide +kernel
theorem dX4_shortThen_21 : decode cX4_shortThen 21 = .ok (.invokevirtual 100, 3) := by decide +kernel
theorem dX4_shortThen_24 : decode cX4_shortThen 24 = .ok (.isub, 1) := by decide +kernel
theorem dX4_shortThen_25 : decode cX4_shortThen 25 = .ok (.invokestatic 97, 3) := by decide +kernel
theorem dX4_shortThen_28 : decode cX4_shortThen 28 = .ok (.ireturn, 1) := by decide +kernel
set_option maxRecDepth 20000 in
theorem ggX4_shortByBook_X4_atLeastNone : GoodIn wsX4_shortByBook wsX4_atLeastNone := goodIn_r _ [5] (by decide +kernel) (by decide +kernel)
set_option maxRecDepth 20000 in
theorem gX4_shortByBook_X4_atLeastNone : GoodIn wsX4_shortByBook (va_wsS RX4 97 yX4_atLeastNone wsX4_atLeastNone) := goodIn_app (goodIn_of _ (by decide +kernel)) ggX4_shortByBook_X4_atLeastNone
theorem dX4_shortByBook_0 : decode cX4_shortByBook 0 = .ok (.aload_n 0, 1) := by decide +kernel
theorem dX4_shortByBook_1 : decode cX4_shortByBook 1 = .ok (.getfield 7, 3) := by decide +kernel
theorem dX4_shortByBook_4 : decode cX4_shortByBook 4 = .ok (.bipush 20, 2) := by decide +kernel
theorem dX4_shortByBook_6 : decode cX4_shortByBook 6 = .ok (.iload_n 1, 1) := by decide +kernel
theorem dX4_shortByBook_7 : decode cX4_shortByBook 7 = .ok (.iadd, 1) := by decide +kernel
theorem dX4_shortByBook_8 : decode cX4_shortByBook 8 = .ok (.iaload, 1) := by decide +kernel
theorem dX4_shortByBook_9 : decode cX4_shortByBook 9 = .ok (.aload_n 0, 1) := by decide +kernel
theorem dX4_shortByBook_10 : decode cX4_shortByBook 10 = .ok (.getfield 7, 3) := by decide +kernel
theorem dX4_shortByBook_13 : decode cX4_shortByBook 13 = .ok (.bipush 25, 2) := by decide +kernel
theorem dX4_shortByBook_15 : decode cX4_shortByBook 15 = .ok (.iload_n 1, 1) := by decide +kernel
theorem dX4_shortByBook_16 : decode cX4_shortByBook 16 = .ok (.iadd, 1) := by decide +kernel
theorem dX4_shortByBook_17 : decode cX4_shortByBook 17 = .ok (.iaload, 1) := by decide +kernel
theorem dX4_shortByBook_18 : decode cX4_shortByBook 18 = .ok (.iadd, 1) := by decide +kernel
theorem dX4_shortByBook_19 : decode cX4_shortByBook 19 = .ok (.aload_n 0, 1) := by decide +kernel
theorem dX4_shortByBook_20 : decode cX4_shortByBook 20 = .ok (.getfield 7, 3) := by decide +kernel
theorem dX4_shortByBook_23 : decode cX4_shortByBook 23 = .ok (.bipush 30, 2) := by decide +kernel
theorem dX4_shortByBook_25 : decode cX4_shortByBook 25 = .ok (.iload_n 1, 1) := by decide +kernel
theorem dX4_shortByBook_26 : decode cX4_shortByBook 26 = .ok (.iadd, 1) := by decide +kernel
theorem dX4_shortByBook_27 : decode cX4_shortByBook 27 = .ok (.iaload, 1) := by decide +kernel
theorem dX4_shortByBook_28 : decode cX4_shortByBook 28 = .ok (.isub, 1) := by decide +kernel
theorem dX4_shortByBook_29 : decode cX4_shortByBook 29 = .ok (.aload_n 0, 1) := by decide +kernel
theorem dX4_shortByBook_30 : decode cX4_shortByBook 30 = .ok (.getfield 7, 3) := by decide +kernel
theorem dX4_shortByBook_33 : decode cX4_shortByBook 33 = .ok (.bipush 35, 2) := by decide +kernel
theorem dX4_shortByBook_35 : decode cX4_shortByBook 35 = .ok (.iload_n 1, 1) := by decide +kernel
theorem dX4_shortByBook_36 : decode cX4_shortByBook 36 = .ok (.iadd, 1) := by decide +kernel
theorem dX4_shortByBook_37 : decode cX4_shortByBook 37 = .ok (.iaload, 1) := by decide +kernel
theorem dX4_shortByBook_38 : decode cX4_shortByBook 38 = .ok (.isub, 1) := by decide +kernel
theorem dX4_shortByBook_39 : decode cX4_shortByBook 39 = .ok (.istore_n 2, 1) := by decide +kernel
theorem dX4_shortByBook_40 : decode cX4_shortByBook 40 = .ok (.aload_n 0, 1) := by decide +kernel
theorem dX4_shortByBook_41 : decode cX4_shortByBook 41 = .ok (.getfield 7, 3) := by decide +kernel
theorem dX4_shortByBook_44 : decode cX4_shortByBook 44 = .ok (.bipush 10, 2) := by decide +kernel
theorem dX4_shortByBook_46 : decode cX4_shortByBook 46 = .ok (.iload_n 1, 1) := by decide +kernel
theorem dX4_shortByBook_47 : decode cX4_shortByBook 47 = .ok (.iadd, 1) := by decide +kernel
theorem dX4_shortByBook_48 : decode cX4_shortByBook 48 = .ok (.iaload, 1) := by decide +kernel
theorem dX4_shortByBook_49 : decode cX4_shortByBook 49 = .ok (.iload_n 2, 1) := by decide +kernel
theorem dX4_shortByBook_50 : decode cX4_shortByBook 50 = .ok (.isub, 1) := by decide +kernel
theorem dX4_shortByBook_51 : decode cX4_shortByBook 51 = .ok (.invokestatic 97, 3) := by decide +kernel
theorem dX4_shortByBook_54 : decode cX4_shortByBook 54 = .ok (.ireturn, 1) := by decide +kernel
set_option maxRecDepth 20000 in
theorem ggX4_reason_X4_sharesOf : GoodIn wsX4_reason wsX4_sharesOf := goodIn_r _ [6, 1, 7, 8, 9, 5, 10, 15, 16, 17, 18, 19, 20, 21, 22, 23, 24, 25, 26, 27, 28, 29] (by decide +kernel) (by decide +kernel)
set_option maxRecDepth 20000 in
theorem gX4_reason_X4_sharesOf : GoodIn wsX4_reason (wsV RX4 103 RX4 yX4_sharesOf wsX4_sharesOf) := goodIn_app (goodIn_of _ (by decide +kernel)) ggX4_reason_X4_sharesOf
set_option maxRecDepth 20000 in
theorem ggX4_reason_X4_workers : GoodIn wsX4_reason wsX4_workers := goodIn_r _ [14, 1, 15, 16, 17, 18, 19, 20, 21, 22, 23, 24, 25, 26, 27, 28, 29] (by decide +kernel) (by decide +kernel)
set_option maxRecDepth 20000 in
theorem gX4_reason_X4_workers : GoodIn wsX4_reason (wsV RX4 88 RX4 yX4_workers wsX4_workers) := goodIn_app (goodIn_of _ (by decide +kernel)) ggX4_reason_X4_workers
theorem dX4_reason_0 : decode cX4_reason 0 = .ok (.aload_n 0, 1) := by decide +kernel
theorem dX4_reason_1 : decode cX4_reason 1 = .ok (.iload_n 1, 1) := by decide +kernel
theorem dX4_reason_2 : decode cX4_reason 2 = .ok (.iload_n 2, 1) := by decide +kernel
theorem dX4_reason_3 : decode cX4_reason 3 = .ok (.invokevirtual 103, 3) := by decide +kernel
theorem dX4_reason_6 : decode cX4_reason 6 = .ok (.istore_n 3, 1) := by decide +kernel
theorem dX4_reason_7 : decode cX4_reason 7 = .ok (.iload_n 3, 1) := by decide +kernel
theorem dX4_reason_8 : decode cX4_reason 8 = .ok (.ifCond .ne 5, 3) := by decide +kernel
theorem dX4_reason_11 : decode cX4_reason 11 = .ok (.iconst 1, 1) := by decide +kernel
theorem dX4_reason_12 : decode cX4_reason 12 = .ok (.ireturn, 1) := by decide +kernel
theorem dX4_reason_13 : decode cX4_reason 13 = .ok (.aload_n 0, 1) := by decide +kernel
theorem dX4_reason_14 : decode cX4_reason 14 = .ok (.iload_n 1, 1) := by decide +kernel
theorem dX4_reason_15 : decode cX4_reason 15 = .ok (.iload_n 2, 1) := by decide +kernel
theorem dX4_reason_16 : decode cX4_reason 16 = .ok (.invokevirtual 88, 3) := by decide +kernel
theorem dX4_reason_19 : decode cX4_reason 19 = .ok (.iload_n 3, 1) := by decide +kernel
theorem dX4_reason_20 : decode cX4_reason 20 = .ok (.if_icmp .lt 5, 3) := by decide +kernel
theorem dX4_reason_23 : decode cX4_reason 23 = .ok (.iconst 2, 1) := by decide +kernel
theorem dX4_reason_24 : decode cX4_reason 24 = .ok (.ireturn, 1) := by decide +kernel
theorem dX4_reason_25 : decode cX4_reason 25 = .ok (.aload_n 0, 1) := by decide +kernel
theorem dX4_reason_26 : decode cX4_reason 26 = .ok (.getfield 7, 3) := by decide +kernel
theorem dX4_reason_29 : decode cX4_reason 29 = .ok (.bipush 45, 2) := by decide +kernel
theorem dX4_reason_31 : decode cX4_reason 31 = .ok (.iload_n 2, 1) := by decide +kernel
theorem dX4_reason_32 : decode cX4_reason 32 = .ok (.iadd, 1) := by decide +kernel
theorem dX4_reason_33 : decode cX4_reason 33 = .ok (.iaload, 1) := by decide +kernel
theorem dX4_reason_34 : decode cX4_reason 34 = .ok (.ifCond .ne 7, 3) := by decide +kernel
theorem dX4_reason_37 : decode cX4_reason 37 = .ok (.iconst 3, 1) := by decide +kernel
theorem dX4_reason_38 : decode cX4_reason 38 = .ok (.goto 18, 3) := by decide +kernel
theorem dX4_reason_41 : decode cX4_reason 41 = .ok (.aload_n 0, 1) := by decide +kernel
theorem dX4_reason_42 : decode cX4_reason 42 = .ok (.getfield 7, 3) := by decide +kernel
theorem dX4_reason_45 : decode cX4_reason 45 = .ok (.iconst 1, 1) := by decide +kernel
theorem dX4_reason_46 : decode cX4_reason 46 = .ok (.iaload, 1) := by decide +kernel
theorem dX4_reason_47 : decode cX4_reason 47 = .ok (.iconst 1, 1) := by decide +kernel
theorem dX4_reason_48 : decode cX4_reason 48 = .ok (.if_icmp .ne 7, 3) := by decide +kernel
theorem dX4_reason_51 : decode cX4_reason 51 = .ok (.iconst 4, 1) := by decide +kernel
theorem dX4_reason_52 : decode cX4_reason 52 = .ok (.goto 4, 3) := by decide +kernel
theorem dX4_reason_55 : decode cX4_reason 55 = .ok (.iconst 0, 1) := by decide +kernel
theorem dX4_reason_56 : decode cX4_reason 56 = .ok (.ireturn, 1) := by decide +kernel
theorem dX4_setToWork_0 : decode cX4_setToWork 0 = .ok (.aload_n 0, 1) := by decide +kernel
theorem dX4_setToWork_1 : decode cX4_setToWork 1 = .ok (.getfield 7, 3) := by decide +kernel
theorem dX4_setToWork_4 : decode cX4_setToWork 4 = .ok (.sipush 139, 3) := by decide +kernel
theorem dX4_setToWork_7 : decode cX4_setToWork 7 = .ok (.iload_n 1, 1) := by decide +kernel
theorem dX4_setToWork_8 : decode cX4_setToWork 8 = .ok (.iadd, 1) := by decide +kernel
theorem dX4_setToWork_9 : decode cX4_setToWork 9 = .ok (.iload_n 2, 1) := by decide +kernel
theorem dX4_setToWork_10 : decode cX4_setToWork 10 = .ok (.iastore, 1) := by decide +kernel
theorem dX4_setToWork_11 : decode cX4_setToWork 11 = .ok (.aload_n 0, 1) := by decide +kernel
theorem dX4_setToWork_12 : decode cX4_setToWork 12 = .ok (.getfield 7, 3) := by decide +kernel
theorem dX4_setToWork_15 : decode cX4_setToWork 15 = .ok (.sipush 145, 3) := by decide +kernel
theorem dX4_setToWork_18 : decode cX4_setToWork 18 = .ok (.iload_n 1, 1) := by decide +kernel
theorem dX4_setToWork_19 : decode cX4_setToWork 19 = .ok (.iadd, 1) := by decide +kernel
theorem dX4_setToWork_20 : decode cX4_setToWork 20 = .ok (.iload_n 3, 1) := by decide +kernel
theorem dX4_setToWork_21 : decode cX4_setToWork 21 = .ok (.iastore, 1) := by decide +kernel
theorem dX4_setToWork_22 : decode cX4_setToWork 22 = .ok (.return_, 1) := by decide +kernel
set_option maxRecDepth 20000 in
theorem ggX4_turnSnow_X4_setToWork : GoodIn wsX4_turnSnow wsX4_setToWork := goodIn_r _ [6, 1, 7, 8, 9, 10, 11, 12, 13, 14, 15, 16, 17, 18, 19, 20, 21] (by decide +kernel) (by decide +kernel)
set_option maxRecDepth 20000 in
theorem gX4_turnSnow_X4_setToWork : GoodIn wsX4_turnSnow (wsV RX4 106 RX4 yX4_setToWork wsX4_setToWork) := goodIn_app (goodIn_of _ (by decide +kernel)) ggX4_turnSnow_X4_setToWork
theorem dX4_turnSnow_0 : decode cX4_turnSnow 0 = .ok (.aload_n 0, 1) := by decide +kernel
theorem dX4_turnSnow_1 : decode cX4_turnSnow 1 = .ok (.getfield 7, 3) := by decide +kernel
theorem dX4_turnSnow_4 : decode cX4_turnSnow 4 = .ok (.iconst 1, 1) := by decide +kernel
theorem dX4_turnSnow_5 : decode cX4_turnSnow 5 = .ok (.iconst 1, 1) := by decide +kernel
theorem dX4_turnSnow_6 : decode cX4_turnSnow 6 = .ok (.aload_n 0, 1) := by decide +kernel
theorem dX4_turnSnow_7 : decode cX4_turnSnow 7 = .ok (.getfield 7, 3) := by decide +kernel
theorem dX4_turnSnow_10 : decode cX4_turnSnow 10 = .ok (.iconst 1, 1) := by decide +kernel
theorem dX4_turnSnow_11 : decode cX4_turnSnow 11 = .ok (.iaload, 1) := by decide +kernel
theorem dX4_turnSnow_12 : decode cX4_turnSnow 12 = .ok (.isub, 1) := by decide +kernel
theorem dX4_turnSnow_13 : decode cX4_turnSnow 13 = .ok (.iastore, 1) := by decide +kernel
theorem dX4_turnSnow_14 : decode cX4_turnSnow 14 = .ok (.iconst 0, 1) := by decide +kernel
theorem dX4_turnSnow_15 : decode cX4_turnSnow 15 = .ok (.istore_n 1, 1) := by decide +kernel
theorem dX4_turnSnow_16 : decode cX4_turnSnow 16 = .ok (.iload_n 1, 1) := by decide +kernel
theorem dX4_turnSnow_17 : decode cX4_turnSnow 17 = .ok (.bipush 6, 2) := by decide +kernel
theorem dX4_turnSnow_19 : decode cX4_turnSnow 19 = .ok (.if_icmp .ge 26, 3) := by decide +kernel
theorem dX4_turnSnow_22 : decode cX4_turnSnow 22 = .ok (.aload_n 0, 1) := by decide +kernel
theorem dX4_turnSnow_23 : decode cX4_turnSnow 23 = .ok (.getfield 7, 3) := by decide +kernel
theorem dX4_turnSnow_26 : decode cX4_turnSnow 26 = .ok (.iconst 1, 1) := by decide +kernel
theorem dX4_turnSnow_27 : decode cX4_turnSnow 27 = .ok (.iaload, 1) := by decide +kernel
theorem dX4_turnSnow_28 : decode cX4_turnSnow 28 = .ok (.iconst 1, 1) := by decide +kernel
theorem dX4_turnSnow_29 : decode cX4_turnSnow 29 = .ok (.if_icmp .ne 16, 3) := by decide +kernel
theorem dX4_turnSnow_32 : decode cX4_turnSnow 32 = .ok (.aload_n 0, 1) := by decide +kernel
theorem dX4_turnSnow_33 : decode cX4_turnSnow 33 = .ok (.iload_n 1, 1) := by decide +kernel
theorem dX4_turnSnow_34 : decode cX4_turnSnow 34 = .ok (.iconst (-1), 1) := by decide +kernel
theorem dX4_turnSnow_35 : decode cX4_turnSnow 35 = .ok (.iconst (-1), 1) := by decide +kernel
theorem dX4_turnSnow_36 : decode cX4_turnSnow 36 = .ok (.invokevirtual 106, 3) := by decide +kernel
theorem dX4_turnSnow_39 : decode cX4_turnSnow 39 = .ok (.iinc 1 1, 3) := by decide +kernel
theorem dX4_turnSnow_42 : decode cX4_turnSnow 42 = .ok (.goto (-26), 3) := by decide +kernel
theorem dX4_turnSnow_45 : decode cX4_turnSnow 45 = .ok (.aload_n 0, 1) := by decide +kernel
theorem dX4_turnSnow_46 : decode cX4_turnSnow 46 = .ok (.getfield 7, 3) := by decide +kernel
theorem dX4_turnSnow_49 : decode cX4_turnSnow 49 = .ok (.iconst 1, 1) := by decide +kernel
theorem dX4_turnSnow_50 : decode cX4_turnSnow 50 = .ok (.iaload, 1) := by decide +kernel
theorem dX4_turnSnow_51 : decode cX4_turnSnow 51 = .ok (.ireturn, 1) := by decide +kernel
set_option maxRecDepth 20000 in
theorem ggX4_hearth_X4_isHearth : GoodIn wsX4_hearth wsX4_isHearth := goodIn_r _ [6, 7, 8, 5, 9] (by decide +kernel) (by decide +kernel)
set_option maxRecDepth 20000 in
theorem gX4_hearth_X4_isHearth : GoodIn wsX4_hearth (va_wsS RX4 109 yX4_isHearth wsX4_isHearth) := goodIn_app (goodIn_of _ (by decide +kernel)) ggX4_hearth_X4_isHearth
set_option maxRecDepth 20000 in
theorem ggX4_hearth_X4_fails : GoodIn wsX4_hearth wsX4_fails := goodIn_r _ [13, 1, 20, 21, 22, 23, 24, 25, 26, 27, 28, 29, 30, 31, 32, 33, 34] (by decide +kernel) (by decide +kernel)
set_option maxRecDepth 20000 in
theorem gX4_hearth_X4_fails : GoodIn wsX4_hearth (wsV RX4 36 RX4 yX4_fails wsX4_fails) := goodIn_app (goodIn_of _ (by decide +kernel)) ggX4_hearth_X4_fails
set_option maxRecDepth 20000 in
theorem ggX4_hearth_X4_within : GoodIn wsX4_hearth wsX4_within := goodIn_r _ [9] (by decide +kernel) (by decide +kernel)
set_option maxRecDepth 20000 in
theorem gX4_hearth_X4_within : GoodIn wsX4_hearth (va_wsS RX4 29 yX4_within wsX4_within) := goodIn_app (goodIn_of _ (by decide +kernel)) ggX4_hearth_X4_within
set_option maxRecDepth 20000 in
theorem ggX4_hearth_X4_save : GoodIn wsX4_hearth wsX4_save := goodIn_r _ [17, 18, 19, 2, 20, 21, 22, 23, 24, 25, 26, 27, 28, 29, 30, 31, 32, 33, 34] (by decide +kernel) (by decide +kernel)
set_option maxRecDepth 20000 in
theorem gX4_hearth_X4_save : GoodIn wsX4_hearth (wsV RX4 44 RX4 yX4_save wsX4_save) := goodIn_app (goodIn_of _ (by decide +kernel)) ggX4_hearth_X4_save
theorem dX4_hearth_0 : decode cX4_hearth 0 = .ok (.aload_n 0, 1) := by decide +kernel
theorem dX4_hearth_1 : decode cX4_hearth 1 = .ok (.iconst 0, 1) := by decide +kernel
theorem dX4_hearth_2 : decode cX4_hearth 2 = .ok (.putfield 25, 3) := by decide +kernel
theorem dX4_hearth_5 : decode cX4_hearth 5 = .ok (.iload_n 1, 1) := by decide +kernel
theorem dX4_hearth_6 : decode cX4_hearth 6 = .ok (.invokestatic 109, 3) := by decide +kernel
theorem dX4_hearth_9 : decode cX4_hearth 9 = .ok (.ifCond .ne 9, 3) := by decide +kernel
theorem dX4_hearth_12 : decode cX4_hearth 12 = .ok (.aload_n 0, 1) := by decide +kernel
theorem dX4_hearth_13 : decode cX4_hearth 13 = .ok (.iconst 1, 1) := by decide +kernel
theorem dX4_hearth_14 : decode cX4_hearth 14 = .ok (.invokevirtual 36, 3) := by decide +kernel
theorem dX4_hearth_17 : decode cX4_hearth 17 = .ok (.ireturn, 1) := by decide +kernel
theorem dX4_hearth_18 : decode cX4_hearth 18 = .ok (.iload_n 3, 1) := by decide +kernel
theorem dX4_hearth_19 : decode cX4_hearth 19 = .ok (.bipush 50, 2) := by decide +kernel
theorem dX4_hearth_21 : decode cX4_hearth 21 = .ok (.sipush 900, 3) := by decide +kernel
theorem dX4_hearth_24 : decode cX4_hearth 24 = .ok (.invokestatic 29, 3) := by decide +kernel
theorem dX4_hearth_27 : decode cX4_hearth 27 = .ok (.ifCond .ne 9, 3) := by decide +kernel
theorem dX4_hearth_30 : decode cX4_hearth 30 = .ok (.aload_n 0, 1) := by decide +kernel
theorem dX4_hearth_31 : decode cX4_hearth 31 = .ok (.iconst 2, 1) := by decide +kernel
theorem dX4_hearth_32 : decode cX4_hearth 32 = .ok (.invokevirtual 36, 3) := by decide +kernel
theorem dX4_hearth_35 : decode cX4_hearth 35 = .ok (.ireturn, 1) := by decide +kernel
theorem dX4_hearth_36 : decode cX4_hearth 36 = .ok (.aload_n 0, 1) := by decide +kernel
theorem dX4_hearth_37 : decode cX4_hearth 37 = .ok (.invokevirtual 44, 3) := by decide +kernel
theorem dX4_hearth_40 : decode cX4_hearth 40 = .ok (.aload_n 0, 1) := by decide +kernel
theorem dX4_hearth_41 : decode cX4_hearth 41 = .ok (.getfield 7, 3) := by decide +kernel
theorem dX4_hearth_44 : decode cX4_hearth 44 = .ok (.bipush 10, 2) := by decide +kernel
theorem dX4_hearth_46 : decode cX4_hearth 46 = .ok (.iload_n 1, 1) := by decide +kernel
theorem dX4_hearth_47 : decode cX4_hearth 47 = .ok (.iadd, 1) := by decide +kernel
theorem dX4_hearth_48 : decode cX4_hearth 48 = .ok (.iaload, 1) := by decide +kernel
theorem dX4_hearth_49 : decode cX4_hearth 49 = .ok (.istore 4, 2) := by decide +kernel
theorem dX4_hearth_51 : decode cX4_hearth 51 = .ok (.aload_n 0, 1) := by decide +kernel
theorem dX4_hearth_52 : decode cX4_hearth 52 = .ok (.getfield 7, 3) := by decide +kernel
theorem dX4_hearth_55 : decode cX4_hearth 55 = .ok (.bipush 10, 2) := by decide +kernel
theorem dX4_hearth_57 : decode cX4_hearth 57 = .ok (.iload_n 1, 1) := by decide +kernel
theorem dX4_hearth_58 : decode cX4_hearth 58 = .ok (.iadd, 1) := by decide +kernel
theorem dX4_hearth_59 : decode cX4_hearth 59 = .ok (.iload_n 3, 1) := by decide +kernel
theorem dX4_hearth_60 : decode cX4_hearth 60 = .ok (.iastore, 1) := by decide +kernel
theorem dX4_hearth_61 : decode cX4_hearth 61 = .ok (.aload_n 0, 1) := by decide +kernel
theorem dX4_hearth_62 : decode cX4_hearth 62 = .ok (.getfield 7, 3) := by decide +kernel
theorem dX4_hearth_65 : decode cX4_hearth 65 = .ok (.iconst 5, 1) := by decide +kernel
theorem dX4_hearth_66 : decode cX4_hearth 66 = .ok (.iload_n 1, 1) := by decide +kernel
theorem dX4_hearth_67 : decode cX4_hearth 67 = .ok (.iadd, 1) := by decide +kernel
theorem dX4_hearth_68 : decode cX4_hearth 68 = .ok (.iload_n 2, 1) := by decide +kernel
theorem dX4_hearth_69 : decode cX4_hearth 69 = .ok (.ifCond .eq 7, 3) := by decide +kernel
theorem dX4_hearth_72 : decode cX4_hearth 72 = .ok (.iconst 1, 1) := by decide +kernel
theorem dX4_hearth_73 : decode cX4_hearth 73 = .ok (.goto 4, 3) := by decide +kernel
theorem dX4_hearth_76 : decode cX4_hearth 76 = .ok (.iconst 0, 1) := by decide +kernel
theorem dX4_hearth_77 : decode cX4_hearth 77 = .ok (.iastore, 1) := by decide +kernel
theorem dX4_hearth_78 : decode cX4_hearth 78 = .ok (.iload 4, 2) := by decide +kernel
theorem dX4_hearth_80 : decode cX4_hearth 80 = .ok (.ireturn, 1) := by decide +kernel
set_option maxRecDepth 20000 in
theorem ggX4_track_X4_isBank : GoodIn wsX4_track wsX4_isBank := goodIn_r _ [6, 7, 8, 5, 9] (by decide +kernel) (by decide +kernel)
set_option maxRecDepth 20000 in
theorem gX4_track_X4_isBank : GoodIn wsX4_track (va_wsS RX4 113 yX4_isBank wsX4_isBank) := goodIn_app (goodIn_of _ (by decide +kernel)) ggX4_track_X4_isBank
set_option maxRecDepth 20000 in
theorem ggX4_track_X4_fails : GoodIn wsX4_track wsX4_fails := goodIn_r _ [13, 1, 20, 21, 22, 23, 24, 25, 26, 27, 28, 29, 30, 31, 32, 33, 34] (by decide +kernel) (by decide +kernel)
set_option maxRecDepth 20000 in
theorem gX4_track_X4_fails : GoodIn wsX4_track (wsV RX4 36 RX4 yX4_fails wsX4_fails) := goodIn_app (goodIn_of _ (by decide +kernel)) ggX4_track_X4_fails
set_option maxRecDepth 20000 in
theorem ggX4_track_X4_within : GoodIn wsX4_track wsX4_within := goodIn_r _ [9] (by decide +kernel) (by decide +kernel)
set_option maxRecDepth 20000 in
theorem gX4_track_X4_within : GoodIn wsX4_track (va_wsS RX4 29 yX4_within wsX4_within) := goodIn_app (goodIn_of _ (by decide +kernel)) ggX4_track_X4_within
set_option maxRecDepth 20000 in
theorem ggX4_track_X4_save : GoodIn wsX4_track wsX4_save := goodIn_r _ [17, 18, 19, 2, 20, 21, 22, 23, 24, 25, 26, 27, 28, 29, 30, 31, 32, 33, 34] (by decide +kernel) (by decide +kernel)
set_option maxRecDepth 20000 in
theorem gX4_track_X4_save : GoodIn wsX4_track (wsV RX4 44 RX4 yX4_save wsX4_save) := goodIn_app (goodIn_of _ (by decide +kernel)) ggX4_track_X4_save
theorem dX4_track_0 : decode cX4_track 0 = .ok (.aload_n 0, 1) := by decide +kernel
theorem dX4_track_1 : decode cX4_track 1 = .ok (.iconst 0, 1) := by decide +kernel
theorem dX4_track_2 : decode cX4_track 2 = .ok (.putfield 25, 3) := by decide +kernel
theorem dX4_track_5 : decode cX4_track 5 = .ok (.iload_n 1, 1) := by decide +kernel
theorem dX4_track_6 : decode cX4_track 6 = .ok (.invokestatic 113, 3) := by decide +kernel
theorem dX4_track_9 : decode cX4_track 9 = .ok (.ifCond .ne 9, 3) := by decide +kernel
theorem dX4_track_12 : decode cX4_track 12 = .ok (.aload_n 0, 1) := by decide +kernel
theorem dX4_track_13 : decode cX4_track 13 = .ok (.iconst 1, 1) := by decide +kernel
theorem dX4_track_14 : decode cX4_track 14 = .ok (.invokevirtual 36, 3) := by decide +kernel
theorem dX4_track_17 : decode cX4_track 17 = .ok (.ireturn, 1) := by decide +kernel
theorem dX4_track_18 : decode cX4_track 18 = .ok (.iload_n 2, 1) := by decide +kernel
theorem dX4_track_19 : decode cX4_track 19 = .ok (.bipush 10, 2) := by decide +kernel
theorem dX4_track_21 : decode cX4_track 21 = .ok (.bipush 90, 2) := by decide +kernel
theorem dX4_track_23 : decode cX4_track 23 = .ok (.invokestatic 29, 3) := by decide +kernel
theorem dX4_track_26 : decode cX4_track 26 = .ok (.ifCond .ne 9, 3) := by decide +kernel
theorem dX4_track_29 : decode cX4_track 29 = .ok (.aload_n 0, 1) := by decide +kernel
theorem dX4_track_30 : decode cX4_track 30 = .ok (.iconst 2, 1) := by decide +kernel
theorem dX4_track_31 : decode cX4_track 31 = .ok (.invokevirtual 36, 3) := by decide +kernel
theorem dX4_track_34 : decode cX4_track 34 = .ok (.ireturn, 1) := by decide +kernel
theorem dX4_track_35 : decode cX4_track 35 = .ok (.aload_n 0, 1) := by decide +kernel
theorem dX4_track_36 : decode cX4_track 36 = .ok (.invokevirtual 44, 3) := by decide +kernel
theorem dX4_track_39 : decode cX4_track 39 = .ok (.aload_n 0, 1) := by decide +kernel
theorem dX4_track_40 : decode cX4_track 40 = .ok (.getfield 7, 3) := by decide +kernel
theorem dX4_track_43 : decode cX4_track 43 = .ok (.bipush 49, 2) := by decide +kernel
theorem dX4_track_45 : decode cX4_track 45 = .ok (.iload_n 1, 1) := by decide +kernel
theorem dX4_track_46 : decode cX4_track 46 = .ok (.iadd, 1) := by decide +kernel
theorem dX4_track_47 : decode cX4_track 47 = .ok (.iaload, 1) := by decide +kernel
theorem dX4_track_48 : decode cX4_track 48 = .ok (.istore_n 3, 1) := by decide +kernel
theorem dX4_track_49 : decode cX4_track 49 = .ok (.aload_n 0, 1) := by decide +kernel
theorem dX4_track_50 : decode cX4_track 50 = .ok (.getfield 7, 3) := by decide +kernel
theorem dX4_track_53 : decode cX4_track 53 = .ok (.bipush 49, 2) := by decide +kernel
theorem dX4_track_55 : decode cX4_track 55 = .ok (.iload_n 1, 1) := by decide +kernel
theorem dX4_track_56 : decode cX4_track 56 = .ok (.iadd, 1) := by decide +kernel
theorem dX4_track_57 : decode cX4_track 57 = .ok (.iload_n 2, 1) := by decide +kernel
theorem dX4_track_58 : decode cX4_track 58 = .ok (.iastore, 1) := by decide +kernel
theorem dX4_track_59 : decode cX4_track 59 = .ok (.iload_n 3, 1) := by decide +kernel
theorem dX4_track_60 : decode cX4_track 60 = .ok (.ireturn, 1) := by decide +kernel
set_option maxRecDepth 20000 in
theorem ggX4_strength_X4_isCutter : GoodIn wsX4_strength wsX4_isCutter := goodIn_r _ [6, 7, 8, 5, 9] (by decide +kernel) (by decide +kernel)
set_option maxRecDepth 20000 in
theorem gX4_strength_X4_isCutter : GoodIn wsX4_strength (va_wsS RX4 116 yX4_isCutter wsX4_isCutter) := goodIn_app (goodIn_of _ (by decide +kernel)) ggX4_strength_X4_isCutter
set_option maxRecDepth 20000 in
theorem ggX4_strength_X4_fails : GoodIn wsX4_strength wsX4_fails := goodIn_r _ [13, 1, 20, 21, 22, 23, 24, 25, 26, 27, 28, 29, 30, 31, 32, 33, 34] (by decide +kernel) (by decide +kernel)
set_option maxRecDepth 20000 in
theorem gX4_strength_X4_fails : GoodIn wsX4_strength (wsV RX4 36 RX4 yX4_fails wsX4_fails) := goodIn_app (goodIn_of _ (by decide +kernel)) ggX4_strength_X4_fails
set_option maxRecDepth 20000 in
theorem ggX4_strength_X4_within : GoodIn wsX4_strength wsX4_within := goodIn_r _ [9] (by decide +kernel) (by decide +kernel)
set_option maxRecDepth 20000 in
theorem gX4_strength_X4_within : GoodIn wsX4_strength (va_wsS RX4 29 yX4_within wsX4_within) := goodIn_app (goodIn_of _ (by decide +kernel)) ggX4_strength_X4_within
set_option maxRecDepth 20000 in
theorem ggX4_strength_X4_save : GoodIn wsX4_strength wsX4_save := goodIn_r _ [17, 18, 19, 2, 20, 21, 22, 23, 24, 25, 26, 27, 28, 29, 30, 31, 32, 33, 34] (by decide +kernel) (by decide +kernel)
set_option maxRecDepth 20000 in
theorem gX4_strength_X4_save : GoodIn wsX4_strength (wsV RX4 44 RX4 yX4_save wsX4_save) := goodIn_app (goodIn_of _ (by decide +kernel)) ggX4_strength_X4_save
theorem dX4_strength_0 : decode cX4_strength 0 = .ok (.aload_n 0, 1) := by decide +kernel
theorem dX4_strength_1 : decode cX4_strength 1 = .ok (.iconst 0, 1) := by decide +kernel
theorem dX4_strength_2 : decode cX4_strength 2 = .ok (.putfield 25, 3) := by decide +kernel
theorem dX4_strength_5 : decode cX4_strength 5 = .ok (.iload_n 1, 1) := by decide +kernel
theorem dX4_strength_6 : decode cX4_strength 6 = .ok (.invokestatic 116, 3) := by decide +kernel
theorem dX4_strength_9 : decode cX4_strength 9 = .ok (.ifCond .ne 9, 3) := by decide +kernel
theorem dX4_strength_12 : decode cX4_strength 12 = .ok (.aload_n 0, 1) := by decide +kernel
theorem dX4_strength_13 : decode cX4_strength 13 = .ok (.iconst 1, 1) := by decide +kernel
theorem dX4_strength_14 : decode cX4_strength 14 = .ok (.invokevirtual 36, 3) := by decide +kernel
theorem dX4_strength_17 : decode cX4_strength 17 = .ok (.ireturn, 1) := by decide +kernel
theorem dX4_strength_18 : decode cX4_strength 18 = .ok (.iload_n 2, 1) := by decide +kernel
theorem dX4_strength_19 : decode cX4_strength 19 = .ok (.iconst 5, 1) := by decide +kernel
theorem dX4_strength_20 : decode cX4_strength 20 = .ok (.bipush 40, 2) := by decide +kernel
theorem dX4_strength_22 : decode cX4_strength 22 = .ok (.invokestatic 29, 3) := by decide +kernel
theorem dX4_strength_25 : decode cX4_strength 25 = .ok (.ifCond .ne 9, 3) := by decide +kernel
theorem dX4_strength_28 : decode cX4_strength 28 = .ok (.aload_n 0, 1) := by decide +kernel
theorem dX4_strength_29 : decode cX4_strength 29 = .ok (.iconst 2, 1) := by decide +kernel
theorem dX4_strength_30 : decode cX4_strength 30 = .ok (.invokevirtual 36, 3) := by decide +kernel
theorem dX4_strength_33 : decode cX4_strength 33 = .ok (.ireturn, 1) := by decide +kernel
theorem dX4_strength_34 : decode cX4_strength 34 = .ok (.aload_n 0, 1) := by decide +kernel
theorem dX4_strength_35 : decode cX4_strength 35 = .ok (.invokevirtual 44, 3) := by decide +kernel
theorem dX4_strength_38 : decode cX4_strength 38 = .ok (.aload_n 0, 1) := by decide +kernel
theorem dX4_strength_39 : decode cX4_strength 39 = .ok (.getfield 7, 3) := by decide +kernel
theorem dX4_strength_42 : decode cX4_strength 42 = .ok (.sipush 133, 3) := by decide +kernel
theorem dX4_strength_45 : decode cX4_strength 45 = .ok (.iload_n 1, 1) := by decide +kernel
theorem dX4_strength_46 : decode cX4_strength 46 = .ok (.iadd, 1) := by decide +kernel
theorem dX4_strength_47 : decode cX4_strength 47 = .ok (.iaload, 1) := by decide +kernel
theorem dX4_strength_48 : decode cX4_strength 48 = .ok (.istore_n 3, 1) := by decide +kernel
theorem dX4_strength_49 : decode cX4_strength 49 = .ok (.aload_n 0, 1) := by decide +kernel
theorem dX4_strength_50 : decode cX4_strength 50 = .ok (.getfield 7, 3) := by decide +kernel
theorem dX4_strength_53 : decode cX4_strength 53 = .ok (.sipush 133, 3) := by decide +kernel
theorem dX4_strength_56 : decode cX4_strength 56 = .ok (.iload_n 1, 1) := by decide +kernel
theorem dX4_strength_57 : decode cX4_strength 57 = .ok (.iadd, 1) := by decide +kernel
theorem dX4_strength_58 : decode cX4_strength 58 = .ok (.iload_n 2, 1) := by decide +kernel
theorem dX4_strength_59 : decode cX4_strength 59 = .ok (.iastore, 1) := by decide +kernel
theorem dX4_strength_60 : decode cX4_strength 60 = .ok (.iload_n 3, 1) := by decide +kernel
theorem dX4_strength_61 : decode cX4_strength 61 = .ok (.ireturn, 1) := by decide +kernel
set_option maxRecDepth 20000 in
theorem ggX4_work_X4_isCutter : GoodIn wsX4_work wsX4_isCutter := goodIn_r _ [5, 6, 7, 4, 8] (by decide +kernel) (by decide +kernel)
set_option maxRecDepth 20000 in
theorem gX4_work_X4_isCutter : GoodIn wsX4_work (va_wsS RX4 116 yX4_isCutter wsX4_isCutter) := goodIn_app (goodIn_of _ (by decide +kernel)) ggX4_work_X4_isCutter
set_option maxRecDepth 20000 in
theorem ggX4_work_X4_isHearth : GoodIn wsX4_work wsX4_isHearth := goodIn_r _ [11, 6, 7, 4, 8] (by decide +kernel) (by decide +kernel)
set_option maxRecDepth 20000 in
theorem gX4_work_X4_isHearth : GoodIn wsX4_work (va_wsS RX4 109 yX4_isHearth wsX4_isHearth) := goodIn_app (goodIn_of _ (by decide +kernel)) ggX4_work_X4_isHearth
set_option maxRecDepth 20000 in
theorem ggX4_work_X4_isBank : GoodIn wsX4_work wsX4_isBank := goodIn_r _ [14, 6, 7, 4, 8] (by decide +kernel) (by decide +kernel)
set_option maxRecDepth 20000 in
theorem gX4_work_X4_isBank : GoodIn wsX4_work (va_wsS RX4 113 yX4_isBank wsX4_isBank) := goodIn_app (goodIn_of _ (by decide +kernel)) ggX4_work_X4_isBank
set_option maxRecDepth 20000 in
theorem ggX4_work_X4_fails : GoodIn wsX4_work wsX4_fails := goodIn_r _ [18, 1, 46, 47, 48, 49, 50, 51, 52, 53, 54, 55, 56, 57, 58, 59, 60] (by decide +kernel) (by decide +kernel)
set_option maxRecDepth 20000 in
theorem gX4_work_X4_fails : GoodIn wsX4_work (wsV RX4 36 RX4 yX4_fails wsX4_fails) := goodIn_app (goodIn_of _ (by decide +kernel)) ggX4_work_X4_fails
set_option maxRecDepth 20000 in
theorem ggX4_work_X4_reason : GoodIn wsX4_work wsX4_reason := goodIn_r _ [22, 23, 24, 25, 26, 4, 27, 28, 29, 30, 31, 32, 33, 34, 35, 46, 47, 48, 49, 50, 51, 52, 53, 54, 55, 56, 57, 58, 59, 60] (by decide +kernel) (by decide +kernel)
set_option maxRecDepth 20000 in
theorem gX4_work_X4_reason : GoodIn wsX4_work (wsV RX4 119 RX4 yX4_reason wsX4_reason) := goodIn_app (goodIn_of _ (by decide +kernel)) ggX4_work_X4_reason
set_option maxRecDepth 20000 in
theorem ggX4_work_X4_save : GoodIn wsX4_work wsX4_save := goodIn_r _ [39, 40, 41, 23, 46, 47, 48, 49, 50, 51, 52, 53, 54, 55, 56, 57, 58, 59, 60] (by decide +kernel) (by decide +kernel)
set_option maxRecDepth 20000 in
theorem gX4_work_X4_save : GoodIn wsX4_work (wsV RX4 44 RX4 yX4_save wsX4_save) := goodIn_app (goodIn_of _ (by decide +kernel)) ggX4_work_X4_save
set_option maxRecDepth 20000 in
theorem ggX4_work_X4_setToWork : GoodIn wsX4_work wsX4_setToWork := goodIn_r _ [45, 23, 46, 47, 48, 49, 50, 51, 52, 53, 54, 55, 56, 57, 58, 59, 60] (by decide +kernel) (by decide +kernel)
set_option maxRecDepth 20000 in
theorem gX4_work_X4_setToWork : GoodIn wsX4_work (wsV RX4 106 RX4 yX4_setToWork wsX4_setToWork) := goodIn_app (goodIn_of _ (by decide +kernel)) ggX4_work_X4_setToWork
set_option maxRecDepth 20000 in
theorem ggX4_work_X4_workers : GoodIn wsX4_work wsX4_workers := goodIn_r _ [35, 23, 46, 47, 48, 49, 50, 51, 52, 53, 54, 55, 56, 57, 58, 59, 60] (by decide +kernel) (by decide +kernel)
set_option maxRecDepth 20000 in
theorem gX4_work_X4_workers : GoodIn wsX4_work (wsV RX4 88 RX4 yX4_workers wsX4_workers) := goodIn_app (goodIn_of _ (by decide +kernel)) ggX4_work_X4_workers
theorem dX4_work_0 : decode cX4_work 0 = .ok (.aload_n 0, 1) := by decide +kernel
theorem dX4_work_1 : decode cX4_work 1 = .ok (.iconst 0, 1) := by decide +kernel
theorem dX4_work_2 : decode cX4_work 2 = .ok (.putfield 25, 3) := by decide +kernel
theorem dX4_work_5 : decode cX4_work 5 = .ok (.iload_n 1, 1) := by decide +kernel
theorem dX4_work_6 : decode cX4_work 6 = .ok (.invokestatic 116, 3) := by decide +kernel
theorem dX4_work_9 : decode cX4_work 9 = .ok (.ifCond .eq 17, 3) := by decide +kernel
theorem dX4_work_12 : decode cX4_work 12 = .ok (.iload_n 2, 1) := by decide +kernel
theorem dX4_work_13 : decode cX4_work 13 = .ok (.invokestatic 109, 3) := by decide +kernel
theorem dX4_work_16 : decode cX4_work 16 = .ok (.ifCond .eq 10, 3) := by decide +kernel
theorem dX4_work_19 : decode cX4_work 19 = .ok (.iload_n 3, 1) := by decide +kernel
theorem dX4_work_20 : decode cX4_work 20 = .ok (.invokestatic 113, 3) := by decide +kernel
theorem dX4_work_23 : decode cX4_work 23 = .ok (.ifCond .ne 9, 3) := by decide +kernel
theorem dX4_work_26 : decode cX4_work 26 = .ok (.aload_n 0, 1) := by decide +kernel
theorem dX4_work_27 : decode cX4_work 27 = .ok (.iconst 1, 1) := by decide +kernel
theorem dX4_work_28 : decode cX4_work 28 = .ok (.invokevirtual 36, 3) := by decide +kernel
theorem dX4_work_31 : decode cX4_work 31 = .ok (.ireturn, 1) := by decide +kernel
theorem dX4_work_32 : decode cX4_work 32 = .ok (.aload_n 0, 1) := by decide +kernel
theorem dX4_work_33 : decode cX4_work 33 = .ok (.iload_n 2, 1) := by decide +kernel
theorem dX4_work_34 : decode cX4_work 34 = .ok (.iload_n 3, 1) := by decide +kernel
theorem dX4_work_35 : decode cX4_work 35 = .ok (.invokevirtual 119, 3) := by decide +kernel
theorem dX4_work_38 : decode cX4_work 38 = .ok (.ifCond .eq 9, 3) := by decide +kernel
theorem dX4_work_41 : decode cX4_work 41 = .ok (.aload_n 0, 1) := by decide +kernel
theorem dX4_work_42 : decode cX4_work 42 = .ok (.iconst 2, 1) := by decide +kernel
theorem dX4_work_43 : decode cX4_work 43 = .ok (.invokevirtual 36, 3) := by decide +kernel
theorem dX4_work_46 : decode cX4_work 46 = .ok (.ireturn, 1) := by decide +kernel
theorem dX4_work_47 : decode cX4_work 47 = .ok (.aload_n 0, 1) := by decide +kernel
theorem dX4_work_48 : decode cX4_work 48 = .ok (.invokevirtual 44, 3) := by decide +kernel
theorem dX4_work_51 : decode cX4_work 51 = .ok (.aload_n 0, 1) := by decide +kernel
theorem dX4_work_52 : decode cX4_work 52 = .ok (.iload_n 1, 1) := by decide +kernel
theorem dX4_work_53 : decode cX4_work 53 = .ok (.iload_n 2, 1) := by decide +kernel
theorem dX4_work_54 : decode cX4_work 54 = .ok (.iload_n 3, 1) := by decide +kernel
theorem dX4_work_55 : decode cX4_work 55 = .ok (.invokevirtual 106, 3) := by decide +kernel
theorem dX4_work_58 : decode cX4_work 58 = .ok (.aload_n 0, 1) := by decide +kernel
theorem dX4_work_59 : decode cX4_work 59 = .ok (.iload_n 2, 1) := by decide +kernel
theorem dX4_work_60 : decode cX4_work 60 = .ok (.iload_n 3, 1) := by decide +kernel
theorem dX4_work_61 : decode cX4_work 61 = .ok (.invokevirtual 88, 3) := by decide +kernel
theorem dX4_work_64 : decode cX4_work 64 = .ok (.ireturn, 1) := by decide +kernel
set_option maxRecDepth 20000 in
theorem ggX4_rest_X4_isCutter : GoodIn wsX4_rest wsX4_isCutter := goodIn_r _ [5, 6, 7, 4, 8] (by decide +kernel) (by decide +kernel)
set_option maxRecDepth 20000 in
theorem gX4_rest_X4_isCutter : GoodIn wsX4_rest (va_wsS RX4 116 yX4_isCutter wsX4_isCutter) := goodIn_app (goodIn_of _ (by decide +kernel)) ggX4_rest_X4_isCutter
set_option maxRecDepth 20000 in
theorem ggX4_rest_X4_fails : GoodIn wsX4_rest wsX4_fails := goodIn_r _ [12, 1, 36, 37, 38, 39, 40, 41, 42, 43, 44, 45, 46, 47, 48, 49, 50] (by decide +kernel) (by decide +kernel)
set_option maxRecDepth 20000 in
theorem gX4_rest_X4_fails : GoodIn wsX4_rest (wsV RX4 36 RX4 yX4_fails wsX4_fails) := goodIn_app (goodIn_of _ (by decide +kernel)) ggX4_rest_X4_fails
set_option maxRecDepth 20000 in
theorem ggX4_rest_X4_save : GoodIn wsX4_rest wsX4_save := goodIn_r _ [16, 17, 18, 19, 36, 37, 38, 39, 40, 41, 42, 43, 44, 45, 46, 47, 48, 49, 50] (by decide +kernel) (by decide +kernel)
set_option maxRecDepth 20000 in
theorem gX4_rest_X4_save : GoodIn wsX4_rest (wsV RX4 44 RX4 yX4_save wsX4_save) := goodIn_app (goodIn_of _ (by decide +kernel)) ggX4_rest_X4_save
set_option maxRecDepth 20000 in
theorem ggX4_rest_X4_setToWork : GoodIn wsX4_rest wsX4_setToWork := goodIn_r _ [23, 19, 36, 37, 38, 39, 40, 41, 42, 43, 44, 45, 46, 47, 48, 49, 50] (by decide +kernel) (by decide +kernel)
set_option maxRecDepth 20000 in
theorem gX4_rest_X4_setToWork : GoodIn wsX4_rest (wsV RX4 106 RX4 yX4_setToWork wsX4_setToWork) := goodIn_app (goodIn_of _ (by decide +kernel)) ggX4_rest_X4_setToWork
set_option maxRecDepth 20000 in
theorem ggX4_rest_X4_allWorkers : GoodIn wsX4_rest wsX4_allWorkers := goodIn_r _ [27, 28, 29, 30, 4, 31, 32, 33, 34, 35, 19, 36, 37, 38, 39, 40, 41, 42, 43, 44, 45, 46, 47, 48, 49, 50] (by decide +kernel) (by decide +kernel)
set_option maxRecDepth 20000 in
theorem gX4_rest_X4_allWorkers : GoodIn wsX4_rest (wsV RX4 122 RX4 yX4_allWorkers wsX4_allWorkers) := goodIn_app (goodIn_of _ (by decide +kernel)) ggX4_rest_X4_allWorkers
theorem dX4_rest_0 : decode cX4_rest 0 = .ok (.aload_n 0, 1) := by decide +kernel
theorem dX4_rest_1 : decode cX4_rest 1 = .ok (.iconst 0, 1) := by decide +kernel
theorem dX4_rest_2 : decode cX4_rest 2 = .ok (.putfield 25, 3) := by decide +kernel
theorem dX4_rest_5 : decode cX4_rest 5 = .ok (.iload_n 1, 1) := by decide +kernel
theorem dX4_rest_6 : decode cX4_rest 6 = .ok (.invokestatic 116, 3) := by decide +kernel
theorem dX4_rest_9 : decode cX4_rest 9 = .ok (.ifCond .ne 9, 3) := by decide +kernel
theorem dX4_rest_12 : decode cX4_rest 12 = .ok (.aload_n 0, 1) := by decide +kernel
theorem dX4_rest_13 : decode cX4_rest 13 = .ok (.iconst 1, 1) := by decide +kernel
theorem dX4_rest_14 : decode cX4_rest 14 = .ok (.invokevirtual 36, 3) := by decide +kernel
theorem dX4_rest_17 : decode cX4_rest 17 = .ok (.ireturn, 1) := by decide +kernel
theorem dX4_rest_18 : decode cX4_rest 18 = .ok (.aload_n 0, 1) := by decide +kernel
theorem dX4_rest_19 : decode cX4_rest 19 = .ok (.invokevirtual 44, 3) := by decide +kernel
theorem dX4_rest_22 : decode cX4_rest 22 = .ok (.aload_n 0, 1) := by decide +kernel
theorem dX4_rest_23 : decode cX4_rest 23 = .ok (.iload_n 1, 1) := by decide +kernel
theorem dX4_rest_24 : decode cX4_rest 24 = .ok (.iconst (-1), 1) := by decide +kernel
theorem dX4_rest_25 : decode cX4_rest 25 = .ok (.iconst (-1), 1) := by decide +kernel
theorem dX4_rest_26 : decode cX4_rest 26 = .ok (.invokevirtual 106, 3) := by decide +kernel
theorem dX4_rest_29 : decode cX4_rest 29 = .ok (.aload_n 0, 1) := by decide +kernel
theorem dX4_rest_30 : decode cX4_rest 30 = .ok (.invokevirtual 122, 3) := by decide +kernel
theorem dX4_rest_33 : decode cX4_rest 33 = .ok (.ireturn, 1) := by decide +kernel
set_option maxRecDepth 20000 in
theorem ggX4_give_X4_within : GoodIn wsX4_give wsX4_within := goodIn_r _ [6] (by decide +kernel) (by decide +kernel)
set_option maxRecDepth 20000 in
theorem gX4_give_X4_within : GoodIn wsX4_give (va_wsS RX4 29 yX4_within wsX4_within) := goodIn_app (goodIn_of _ (by decide +kernel)) ggX4_give_X4_within
set_option maxRecDepth 20000 in
theorem ggX4_give_X4_isBank : GoodIn wsX4_give wsX4_isBank := goodIn_r _ [9, 3, 4, 5, 6] (by decide +kernel) (by decide +kernel)
set_option maxRecDepth 20000 in
theorem gX4_give_X4_isBank : GoodIn wsX4_give (va_wsS RX4 113 yX4_isBank wsX4_isBank) := goodIn_app (goodIn_of _ (by decide +kernel)) ggX4_give_X4_isBank
set_option maxRecDepth 20000 in
theorem ggX4_give_X4_fails : GoodIn wsX4_give wsX4_fails := goodIn_r _ [13, 1, 28, 29, 30, 31, 32, 33, 34, 35, 36, 37, 38, 39, 40, 41, 42] (by decide +kernel) (by decide +kernel)
set_option maxRecDepth 20000 in
theorem gX4_give_X4_fails : GoodIn wsX4_give (wsV RX4 36 RX4 yX4_fails wsX4_fails) := goodIn_app (goodIn_of _ (by decide +kernel)) ggX4_give_X4_fails
set_option maxRecDepth 20000 in
theorem ggX4_give_X4_sharesOf : GoodIn wsX4_give wsX4_sharesOf := goodIn_r _ [17, 2, 18, 19, 20, 5, 21, 28, 29, 30, 31, 32, 33, 34, 35, 36, 37, 38, 39, 40, 41, 42] (by decide +kernel) (by decide +kernel)
set_option maxRecDepth 20000 in
theorem gX4_give_X4_sharesOf : GoodIn wsX4_give (wsV RX4 103 RX4 yX4_sharesOf wsX4_sharesOf) := goodIn_app (goodIn_of _ (by decide +kernel)) ggX4_give_X4_sharesOf
set_option maxRecDepth 20000 in
theorem ggX4_give_X4_save : GoodIn wsX4_give wsX4_save := goodIn_r _ [25, 26, 27, 2, 28, 29, 30, 31, 32, 33, 34, 35, 36, 37, 38, 39, 40, 41, 42] (by decide +kernel) (by decide +kernel)
set_option maxRecDepth 20000 in
theorem gX4_give_X4_save : GoodIn wsX4_give (wsV RX4 44 RX4 yX4_save wsX4_save) := goodIn_app (goodIn_of _ (by decide +kernel)) ggX4_give_X4_save
theorem dX4_give_0 : decode cX4_give 0 = .ok (.aload_n 0, 1) := by decide +kernel
theorem dX4_give_1 : decode cX4_give 1 = .ok (.iconst 0, 1) := by decide +kernel
theorem dX4_give_2 : decode cX4_give 2 = .ok (.putfield 25, 3) := by decide +kernel
theorem dX4_give_5 : decode cX4_give 5 = .ok (.iload_n 1, 1) := by decide +kernel
theorem dX4_give_6 : decode cX4_give 6 = .ok (.iconst (-1), 1) := by decide +kernel
theorem dX4_give_7 : decode cX4_give 7 = .ok (.iconst 4, 1) := by decide +kernel
theorem dX4_give_8 : decode cX4_give 8 = .ok (.invokestatic 29, 3) := by decide +kernel
theorem dX4_give_11 : decode cX4_give 11 = .ok (.ifCond .eq 19, 3) := by decide +kernel
theorem dX4_give_14 : decode cX4_give 14 = .ok (.iload_n 2, 1) := by decide +kernel
theorem dX4_give_15 : decode cX4_give 15 = .ok (.iconst (-1), 1) := by decide +kernel
theorem dX4_give_16 : decode cX4_give 16 = .ok (.iconst 4, 1) := by decide +kernel
theorem dX4_give_17 : decode cX4_give 17 = .ok (.invokestatic 29, 3) := by decide +kernel
theorem dX4_give_20 : decode cX4_give 20 = .ok (.ifCond .eq 10, 3) := by decide +kernel
theorem dX4_give_23 : decode cX4_give 23 = .ok (.iload_n 3, 1) := by decide +kernel
theorem dX4_give_24 : decode cX4_give 24 = .ok (.invokestatic 113, 3) := by decide +kernel
theorem dX4_give_27 : decode cX4_give 27 = .ok (.ifCond .ne 9, 3) := by decide +kernel
theorem dX4_give_30 : decode cX4_give 30 = .ok (.aload_n 0, 1) := by decide +kernel
theorem dX4_give_31 : decode cX4_give 31 = .ok (.iconst 1, 1) := by decide +kernel
theorem dX4_give_32 : decode cX4_give 32 = .ok (.invokevirtual 36, 3) := by decide +kernel
theorem dX4_give_35 : decode cX4_give 35 = .ok (.ireturn, 1) := by decide +kernel
theorem dX4_give_36 : decode cX4_give 36 = .ok (.iload_n 1, 1) := by decide +kernel
theorem dX4_give_37 : decode cX4_give 37 = .ok (.iload_n 2, 1) := by decide +kernel
theorem dX4_give_38 : decode cX4_give 38 = .ok (.if_icmp .eq 14, 3) := by decide +kernel
theorem dX4_give_41 : decode cX4_give 41 = .ok (.iload 4, 2) := by decide +kernel
theorem dX4_give_43 : decode cX4_give 43 = .ok (.iconst 1, 1) := by decide +kernel
theorem dX4_give_44 : decode cX4_give 44 = .ok (.bipush 12, 2) := by decide +kernel
theorem dX4_give_46 : decode cX4_give 46 = .ok (.invokestatic 29, 3) := by decide +kernel
theorem dX4_give_49 : decode cX4_give 49 = .ok (.ifCond .ne 9, 3) := by decide +kernel
theorem dX4_give_52 : decode cX4_give 52 = .ok (.aload_n 0, 1) := by decide +kernel
theorem dX4_give_53 : decode cX4_give 53 = .ok (.iconst 2, 1) := by decide +kernel
theorem dX4_give_54 : decode cX4_give 54 = .ok (.invokevirtual 36, 3) := by decide +kernel
theorem dX4_give_57 : decode cX4_give 57 = .ok (.ireturn, 1) := by decide +kernel
theorem dX4_give_58 : decode cX4_give 58 = .ok (.aload_n 0, 1) := by decide +kernel
theorem dX4_give_59 : decode cX4_give 59 = .ok (.iload_n 1, 1) := by decide +kernel
theorem dX4_give_60 : decode cX4_give 60 = .ok (.iload_n 3, 1) := by decide +kernel
theorem dX4_give_61 : decode cX4_give 61 = .ok (.invokevirtual 103, 3) := by decide +kernel
theorem dX4_give_64 : decode cX4_give 64 = .ok (.iload 4, 2) := by decide +kernel
theorem dX4_give_66 : decode cX4_give 66 = .ok (.if_icmp .ge 9, 3) := by decide +kernel
theorem dX4_give_69 : decode cX4_give 69 = .ok (.aload_n 0, 1) := by decide +kernel
theorem dX4_give_70 : decode cX4_give 70 = .ok (.iconst 3, 1) := by decide +kernel
theorem dX4_give_71 : decode cX4_give 71 = .ok (.invokevirtual 36, 3) := by decide +kernel
theorem dX4_give_74 : decode cX4_give 74 = .ok (.ireturn, 1) := by decide +kernel
theorem dX4_give_75 : decode cX4_give 75 = .ok (.aload_n 0, 1) := by decide +kernel
theorem dX4_give_76 : decode cX4_give 76 = .ok (.invokevirtual 44, 3) := by decide +kernel
theorem dX4_give_79 : decode cX4_give 79 = .ok (.iload_n 1, 1) := by decide +kernel
theorem dX4_give_80 : decode cX4_give 80 = .ok (.iconst (-1), 1) := by decide +kernel
theorem dX4_give_81 : decode cX4_give 81 = .ok (.if_icmp .eq 21, 3) := by decide +kernel
theorem dX4_give_84 : decode cX4_give 84 = .ok (.aload_n 0, 1) := by decide +kernel
theorem dX4_give_85 : decode cX4_give 85 = .ok (.getfield 7, 3) := by decide +kernel
theorem dX4_give_88 : decode cX4_give 88 = .ok (.bipush 53, 2) := by decide +kernel
theorem dX4_give_90 : decode cX4_give 90 = .ok (.iconst 4, 1) := by decide +kernel
theorem dX4_give_91 : decode cX4_give 91 = .ok (.iload_n 1, 1) := by decide +kernel
theorem dX4_give_92 : decode cX4_give 92 = .ok (.imul, 1) := by decide +kernel
theorem dX4_give_93 : decode cX4_give 93 = .ok (.iadd, 1) := by decide +kernel
theorem dX4_give_94 : decode cX4_give 94 = .ok (.iload_n 3, 1) := by decide +kernel
theorem dX4_give_95 : decode cX4_give 95 = .ok (.iadd, 1) := by decide +kernel
theorem dX4_give_96 : decode cX4_give 96 = .ok (.dup2, 1) := by decide +kernel
theorem dX4_give_97 : decode cX4_give 97 = .ok (.iaload, 1) := by decide +kernel
theorem dX4_give_98 : decode cX4_give 98 = .ok (.iload 4, 2) := by decide +kernel
theorem dX4_give_100 : decode cX4_give 100 = .ok (.isub, 1) := by decide +kernel
theorem dX4_give_101 : decode cX4_give 101 = .ok (.iastore, 1) := by decide +kernel
theorem dX4_give_102 : decode cX4_give 102 = .ok (.iload_n 2, 1) := by decide +kernel
theorem dX4_give_103 : decode cX4_give 103 = .ok (.iconst (-1), 1) := by decide +kernel
theorem dX4_give_104 : decode cX4_give 104 = .ok (.if_icmp .eq 21, 3) := by decide +kernel
theorem dX4_give_107 : decode cX4_give 107 = .ok (.aload_n 0, 1) := by decide +kernel
theorem dX4_give_108 : decode cX4_give 108 = .ok (.getfield 7, 3) := by decide +kernel
theorem dX4_give_111 : decode cX4_give 111 = .ok (.bipush 53, 2) := by decide +kernel
theorem dX4_give_113 : decode cX4_give 113 = .ok (.iconst 4, 1) := by decide +kernel
theorem dX4_give_114 : decode cX4_give 114 = .ok (.iload_n 2, 1) := by decide +kernel
theorem dX4_give_115 : decode cX4_give 115 = .ok (.imul, 1) := by decide +kernel
theorem dX4_give_116 : decode cX4_give 116 = .ok (.iadd, 1) := by decide +kernel
theorem dX4_give_117 : decode cX4_give 117 = .ok (.iload_n 3, 1) := by decide +kernel
theorem dX4_give_118 : decode cX4_give 118 = .ok (.iadd, 1) := by decide +kernel
theorem dX4_give_119 : decode cX4_give 119 = .ok (.dup2, 1) := by decide +kernel
theorem dX4_give_120 : decode cX4_give 120 = .ok (.iaload, 1) := by decide +kernel
theorem dX4_give_121 : decode cX4_give 121 = .ok (.iload 4, 2) := by decide +kernel
theorem dX4_give_123 : decode cX4_give 123 = .ok (.iadd, 1) := by decide +kernel
theorem dX4_give_124 : decode cX4_give 124 = .ok (.iastore, 1) := by decide +kernel
theorem dX4_give_125 : decode cX4_give 125 = .ok (.aload_n 0, 1) := by decide +kernel
theorem dX4_give_126 : decode cX4_give 126 = .ok (.iload_n 2, 1) := by decide +kernel
theorem dX4_give_127 : decode cX4_give 127 = .ok (.iload_n 3, 1) := by decide +kernel
theorem dX4_give_128 : decode cX4_give 128 = .ok (.invokevirtual 103, 3) := by decide +kernel
theorem dX4_give_131 : decode cX4_give 131 = .ok (.ireturn, 1) := by decide +kernel
set_option maxRecDepth 20000 in
theorem ggX4_snow_X4_save : GoodIn wsX4_snow wsX4_save := goodIn_r _ [6, 7, 8, 9, 18, 19, 20, 21, 22, 23, 24, 25, 26, 27, 28, 29, 30, 31, 32] (by decide +kernel) (by decide +kernel)
set_option maxRecDepth 20000 in
theorem gX4_snow_X4_save : GoodIn wsX4_snow (wsV RX4 44 RX4 yX4_save wsX4_save) := goodIn_app (goodIn_of _ (by decide +kernel)) ggX4_snow_X4_save
set_option maxRecDepth 20000 in
theorem ggX4_snow_X4_turnSnow : GoodIn wsX4_snow wsX4_turnSnow := goodIn_r _ [13, 9, 14, 15, 16, 5, 17, 18, 19, 20, 21, 22, 23, 24, 25, 26, 27, 28, 29, 30, 31, 32] (by decide +kernel) (by decide +kernel)
set_option maxRecDepth 20000 in
theorem gX4_snow_X4_turnSnow : GoodIn wsX4_snow (wsV RX4 125 RX4 yX4_turnSnow wsX4_turnSnow) := goodIn_app (goodIn_of _ (by decide +kernel)) ggX4_snow_X4_turnSnow
theorem dX4_snow_0 : decode cX4_snow 0 = .ok (.aload_n 0, 1) := by decide +kernel
theorem dX4_snow_1 : decode cX4_snow 1 = .ok (.iconst 0, 1) := by decide +kernel
theorem dX4_snow_2 : decode cX4_snow 2 = .ok (.putfield 25, 3) := by decide +kernel
theorem dX4_snow_5 : decode cX4_snow 5 = .ok (.aload_n 0, 1) := by decide +kernel
theorem dX4_snow_6 : decode cX4_snow 6 = .ok (.invokevirtual 44, 3) := by decide +kernel
theorem dX4_snow_9 : decode cX4_snow 9 = .ok (.aload_n 0, 1) := by decide +kernel
theorem dX4_snow_10 : decode cX4_snow 10 = .ok (.invokevirtual 125, 3) := by decide +kernel
theorem dX4_snow_13 : decode cX4_snow 13 = .ok (.ireturn, 1) := by decide +kernel
set_option maxRecDepth 20000 in
theorem ggX4_pass_X4_within : GoodIn wsX4_pass wsX4_within := goodIn_r _ [5] (by decide +kernel) (by decide +kernel)
set_option maxRecDepth 20000 in
theorem gX4_pass_X4_within : GoodIn wsX4_pass (va_wsS RX4 29 yX4_within wsX4_within) := goodIn_app (goodIn_of _ (by decide +kernel)) ggX4_pass_X4_within
set_option maxRecDepth 20000 in
theorem ggX4_pass_X4_fails : GoodIn wsX4_pass wsX4_fails := goodIn_r _ [9, 1, 62, 63, 64, 65, 66, 67, 68, 69, 70, 71, 72, 73, 74, 75, 76] (by decide +kernel) (by decide +kernel)
set_option maxRecDepth 20000 in
theorem gX4_pass_X4_fails : GoodIn wsX4_pass (wsV RX4 36 RX4 yX4_fails wsX4_fails) := goodIn_app (goodIn_of _ (by decide +kernel)) ggX4_pass_X4_fails
set_option maxRecDepth 20000 in
theorem ggX4_pass_X4_save : GoodIn wsX4_pass wsX4_save := goodIn_r _ [13, 14, 15, 16, 62, 63, 64, 65, 66, 67, 68, 69, 70, 71, 72, 73, 74, 75, 76] (by decide +kernel) (by decide +kernel)
set_option maxRecDepth 20000 in
theorem gX4_pass_X4_save : GoodIn wsX4_pass (wsV RX4 44 RX4 yX4_save wsX4_save) := goodIn_app (goodIn_of _ (by decide +kernel)) ggX4_pass_X4_save
set_option maxRecDepth 20000 in
theorem ggX4_pass_X4_passes : GoodIn wsX4_pass wsX4_passes := goodIn_r _ [20, 21, 22, 23, 4, 24, 16, 25, 26, 27, 28, 29, 30, 31, 32, 33, 34, 35, 36, 37, 38, 39, 40, 41, 42, 43, 44, 45, 46, 47, 48, 49, 50, 51, 52, 53, 54, 55, 56, 57, 58, 59, 60, 61, 62, 63, 64, 65, 66, 67, 68, 69, 70, 71, 72, 73, 74, 75, 76] (by decide +kernel) (by decide +kernel)
set_option maxRecDepth 20000 in
theorem gX4_pass_X4_passes : GoodIn wsX4_pass (wsV RX4 128 RX4 yX4_passes wsX4_passes) := goodIn_app (goodIn_of _ (by decide +kernel)) ggX4_pass_X4_passes
theorem dX4_pass_0 : decode cX4_pass 0 = .ok (.aload_n 0, 1) := by decide +kernel
theorem dX4_pass_1 : decode cX4_pass 1 = .ok (.iconst 0, 1) := by decide +kernel
theorem dX4_pass_2 : decode cX4_pass 2 = .ok (.putfield 25, 3) := by decide +kernel
theorem dX4_pass_5 : decode cX4_pass 5 = .ok (.iload_n 1, 1) := by decide +kernel
theorem dX4_pass_6 : decode cX4_pass 6 = .ok (.iconst 1, 1) := by decide +kernel
theorem dX4_pass_7 : decode cX4_pass 7 = .ok (.bipush 60, 2) := by decide +kernel
theorem dX4_pass_9 : decode cX4_pass 9 = .ok (.invokestatic 29, 3) := by decide +kernel
theorem dX4_pass_12 : decode cX4_pass 12 = .ok (.ifCond .ne 9, 3) := by decide +kernel
theorem dX4_pass_15 : decode cX4_pass 15 = .ok (.aload_n 0, 1) := by decide +kernel
