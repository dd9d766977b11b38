set_option maxRecDepth 20000 in
theorem ggX0_init_X0_put : GoodIn wsX0_init wsX0_put := goodIn_r _ [10, 5, 30] (by decide +kernel) (by decide +kernel)
set_option maxRecDepth 20000 in
theorem gX0_init_X0_put : GoodIn wsX0_init (wsV RX0 15 RX0 yX0_put wsX0_put) := goodIn_app (goodIn_of _ (by decide +kernel)) ggX0_init_X0_put
set_option maxRecDepth 20000 in
theorem ggX0_init_X0_plotOf : GoodIn wsX0_init wsX0_plotOf := goodIn_r _ [13] (by decide +kernel) (by decide +kernel)
set_option maxRecDepth 20000 in
theorem gX0_init_X0_plotOf : GoodIn wsX0_init (va_wsS RX0 19 yX0_plotOf wsX0_plotOf) := goodIn_app (goodIn_of _ (by decide +kernel)) ggX0_init_X0_plotOf
set_option maxRecDepth 20000 in
theorem ggX0_init_X0_add : GoodIn wsX0_init wsX0_add := goodIn_r _ [17, 18, 19, 20, 9, 21, 5, 6, 7, 8, 10, 30] (by decide +kernel) (by decide +kernel)
set_option maxRecDepth 20000 in
theorem gX0_init_X0_add : GoodIn wsX0_init (wsV RX0 23 RX0 yX0_add wsX0_add) := goodIn_app (goodIn_of _ (by decide +kernel)) ggX0_init_X0_add
set_option maxRecDepth 20000 in
theorem ggX0_init_X0_letRest : GoodIn wsX0_init wsX0_letRest := goodIn_r _ [25, 26, 27, 28, 9, 29, 6, 7, 8, 10, 5, 30] (by decide +kernel) (by decide +kernel)
set_option maxRecDepth 20000 in
theorem gX0_init_X0_letRest : GoodIn wsX0_init (wsV RX0 26 RX0 yX0_letRest wsX0_letRest) := goodIn_app (goodIn_of _ (by decide +kernel)) ggX0_init_X0_letRest
theorem dX0_init_0 : decode cX0_init 0 = .ok (.aload_n 0, 1) := by decide +kernel
theorem dX0_init_1 : decode cX0_init 1 = .ok (.invokespecial 5, 3) := by decide +kernel
theorem dX0_init_4 : decode cX0_init 4 = .ok (.aload_n 0, 1) := by decide +kernel
theorem dX0_init_5 : decode cX0_init 5 = .ok (.sipush 161, 3) := by decide +kernel
theorem dX0_init_8 : decode cX0_init 8 = .ok (.newarray .int, 2) := by decide +kernel
theorem dX0_init_10 : decode cX0_init 10 = .ok (.putfield 11, 3) := by decide +kernel
theorem dX0_init_13 : decode cX0_init 13 = .ok (.aload_n 0, 1) := by decide +kernel
theorem dX0_init_14 : decode cX0_init 14 = .ok (.iconst 2, 1) := by decide +kernel
theorem dX0_init_15 : decode cX0_init 15 = .ok (.iconst 3, 1) := by decide +kernel
theorem dX0_init_16 : decode cX0_init 16 = .ok (.invokevirtual 15, 3) := by decide +kernel
theorem dX0_init_19 : decode cX0_init 19 = .ok (.aload_n 0, 1) := by decide +kernel
theorem dX0_init_20 : decode cX0_init 20 = .ok (.iconst 3, 1) := by decide +kernel
theorem dX0_init_21 : decode cX0_init 21 = .ok (.bipush 10, 2) := by decide +kernel
theorem dX0_init_23 : decode cX0_init 23 = .ok (.invokevirtual 15, 3) := by decide +kernel
theorem dX0_init_26 : decode cX0_init 26 = .ok (.aload_n 0, 1) := by decide +kernel
theorem dX0_init_27 : decode cX0_init 27 = .ok (.iconst 4, 1) := by decide +kernel
theorem dX0_init_28 : decode cX0_init 28 = .ok (.bipush 8, 2) := by decide +kernel
theorem dX0_init_30 : decode cX0_init 30 = .ok (.invokevirtual 15, 3) := by decide +kernel
theorem dX0_init_33 : decode cX0_init 33 = .ok (.iconst 0, 1) := by decide +kernel
theorem dX0_init_34 : decode cX0_init 34 = .ok (.istore_n 1, 1) := by decide +kernel
theorem dX0_init_35 : decode cX0_init 35 = .ok (.iload_n 1, 1) := by decide +kernel
theorem dX0_init_36 : decode cX0_init 36 = .ok (.iconst 5, 1) := by decide +kernel
theorem dX0_init_37 : decode cX0_init 37 = .ok (.if_icmp .ge 20, 3) := by decide +kernel
theorem dX0_init_40 : decode cX0_init 40 = .ok (.aload_n 0, 1) := by decide +kernel
theorem dX0_init_41 : decode cX0_init 41 = .ok (.bipush 10, 2) := by decide +kernel
theorem dX0_init_43 : decode cX0_init 43 = .ok (.iload_n 1, 1) := by decide +kernel
theorem dX0_init_44 : decode cX0_init 44 = .ok (.iadd, 1) := by decide +kernel
theorem dX0_init_45 : decode cX0_init 45 = .ok (.sipush 300, 3) := by decide +kernel
theorem dX0_init_48 : decode cX0_init 48 = .ok (.invokevirtual 15, 3) := by decide +kernel
theorem dX0_init_51 : decode cX0_init 51 = .ok (.iinc 1 1, 3) := by decide +kernel
theorem dX0_init_54 : decode cX0_init 54 = .ok (.goto (-19), 3) := by decide +kernel
theorem dX0_init_57 : decode cX0_init 57 = .ok (.aload_n 0, 1) := by decide +kernel
theorem dX0_init_58 : decode cX0_init 58 = .ok (.bipush 9, 2) := by decide +kernel
theorem dX0_init_60 : decode cX0_init 60 = .ok (.iconst 1, 1) := by decide +kernel
theorem dX0_init_61 : decode cX0_init 61 = .ok (.invokevirtual 15, 3) := by decide +kernel
theorem dX0_init_64 : decode cX0_init 64 = .ok (.iconst 0, 1) := by decide +kernel
theorem dX0_init_65 : decode cX0_init 65 = .ok (.istore_n 1, 1) := by decide +kernel
theorem dX0_init_66 : decode cX0_init 66 = .ok (.iload_n 1, 1) := by decide +kernel
theorem dX0_init_67 : decode cX0_init 67 = .ok (.iconst 4, 1) := by decide +kernel
theorem dX0_init_68 : decode cX0_init 68 = .ok (.if_icmp .ge 81, 3) := by decide +kernel
theorem dX0_init_71 : decode cX0_init 71 = .ok (.aload_n 0, 1) := by decide +kernel
theorem dX0_init_72 : decode cX0_init 72 = .ok (.bipush 45, 2) := by decide +kernel
theorem dX0_init_74 : decode cX0_init 74 = .ok (.iload_n 1, 1) := by decide +kernel
theorem dX0_init_75 : decode cX0_init 75 = .ok (.iadd, 1) := by decide +kernel
theorem dX0_init_76 : decode cX0_init 76 = .ok (.sipush 2000, 3) := by decide +kernel
theorem dX0_init_79 : decode cX0_init 79 = .ok (.invokevirtual 15, 3) := by decide +kernel
theorem dX0_init_82 : decode cX0_init 82 = .ok (.aload_n 0, 1) := by decide +kernel
theorem dX0_init_83 : decode cX0_init 83 = .ok (.bipush 49, 2) := by decide +kernel
theorem dX0_init_85 : decode cX0_init 85 = .ok (.iload_n 1, 1) := by decide +kernel
theorem dX0_init_86 : decode cX0_init 86 = .ok (.iadd, 1) := by decide +kernel
theorem dX0_init_87 : decode cX0_init 87 = .ok (.bipush 40, 2) := by decide +kernel
theorem dX0_init_89 : decode cX0_init 89 = .ok (.invokevirtual 15, 3) := by decide +kernel
theorem dX0_init_92 : decode cX0_init 92 = .ok (.aload_n 0, 1) := by decide +kernel
theorem dX0_init_93 : decode cX0_init 93 = .ok (.bipush 53, 2) := by decide +kernel
theorem dX0_init_95 : decode cX0_init 95 = .ok (.iload_n 1, 1) := by decide +kernel
theorem dX0_init_96 : decode cX0_init 96 = .ok (.iadd, 1) := by decide +kernel
theorem dX0_init_97 : decode cX0_init 97 = .ok (.bipush 12, 2) := by decide +kernel
theorem dX0_init_99 : decode cX0_init 99 = .ok (.invokevirtual 15, 3) := by decide +kernel
theorem dX0_init_102 : decode cX0_init 102 = .ok (.iconst 0, 1) := by decide +kernel
theorem dX0_init_103 : decode cX0_init 103 = .ok (.istore_n 2, 1) := by decide +kernel
theorem dX0_init_104 : decode cX0_init 104 = .ok (.iload_n 2, 1) := by decide +kernel
theorem dX0_init_105 : decode cX0_init 105 = .ok (.iconst 4, 1) := by decide +kernel
theorem dX0_init_106 : decode cX0_init 106 = .ok (.if_icmp .ge 37, 3) := by decide +kernel
theorem dX0_init_109 : decode cX0_init 109 = .ok (.iload_n 2, 1) := by decide +kernel
theorem dX0_init_110 : decode cX0_init 110 = .ok (.iload_n 1, 1) := by decide +kernel
theorem dX0_init_111 : decode cX0_init 111 = .ok (.if_icmp .eq 26, 3) := by decide +kernel
theorem dX0_init_114 : decode cX0_init 114 = .ok (.aload_n 0, 1) := by decide +kernel
theorem dX0_init_115 : decode cX0_init 115 = .ok (.bipush 57, 2) := by decide +kernel
theorem dX0_init_117 : decode cX0_init 117 = .ok (.iload_n 2, 1) := by decide +kernel
theorem dX0_init_118 : decode cX0_init 118 = .ok (.iload_n 1, 1) := by decide +kernel
theorem dX0_init_119 : decode cX0_init 119 = .ok (.invokestatic 19, 3) := by decide +kernel
theorem dX0_init_122 : decode cX0_init 122 = .ok (.iadd, 1) := by decide +kernel
theorem dX0_init_123 : decode cX0_init 123 = .ok (.iconst 3, 1) := by decide +kernel
theorem dX0_init_124 : decode cX0_init 124 = .ok (.invokevirtual 15, 3) := by decide +kernel
theorem dX0_init_127 : decode cX0_init 127 = .ok (.aload_n 0, 1) := by decide +kernel
theorem dX0_init_128 : decode cX0_init 128 = .ok (.bipush 53, 2) := by decide +kernel
theorem dX0_init_130 : decode cX0_init 130 = .ok (.iload_n 1, 1) := by decide +kernel
theorem dX0_init_131 : decode cX0_init 131 = .ok (.iadd, 1) := by decide +kernel
theorem dX0_init_132 : decode cX0_init 132 = .ok (.bipush (-3), 2) := by decide +kernel
theorem dX0_init_134 : decode cX0_init 134 = .ok (.invokevirtual 23, 3) := by decide +kernel
theorem dX0_init_137 : decode cX0_init 137 = .ok (.iinc 2 1, 3) := by decide +kernel
theorem dX0_init_140 : decode cX0_init 140 = .ok (.goto (-36), 3) := by decide +kernel
theorem dX0_init_143 : decode cX0_init 143 = .ok (.iinc 1 1, 3) := by decide +kernel
theorem dX0_init_146 : decode cX0_init 146 = .ok (.goto (-80), 3) := by decide +kernel
theorem dX0_init_149 : decode cX0_init 149 = .ok (.iconst 0, 1) := by decide +kernel
theorem dX0_init_150 : decode cX0_init 150 = .ok (.istore_n 1, 1) := by decide +kernel
theorem dX0_init_151 : decode cX0_init 151 = .ok (.iload_n 1, 1) := by decide +kernel
theorem dX0_init_152 : decode cX0_init 152 = .ok (.bipush 6, 2) := by decide +kernel
theorem dX0_init_154 : decode cX0_init 154 = .ok (.if_icmp .ge 29, 3) := by decide +kernel
theorem dX0_init_157 : decode cX0_init 157 = .ok (.aload_n 0, 1) := by decide +kernel
theorem dX0_init_158 : decode cX0_init 158 = .ok (.sipush 137, 3) := by decide +kernel
theorem dX0_init_161 : decode cX0_init 161 = .ok (.iload_n 1, 1) := by decide +kernel
theorem dX0_init_162 : decode cX0_init 162 = .ok (.iadd, 1) := by decide +kernel
theorem dX0_init_163 : decode cX0_init 163 = .ok (.bipush 10, 2) := by decide +kernel
theorem dX0_init_165 : decode cX0_init 165 = .ok (.iconst 2, 1) := by decide +kernel
theorem dX0_init_166 : decode cX0_init 166 = .ok (.iload_n 1, 1) := by decide +kernel
theorem dX0_init_167 : decode cX0_init 167 = .ok (.imul, 1) := by decide +kernel
theorem dX0_init_168 : decode cX0_init 168 = .ok (.iadd, 1) := by decide +kernel
theorem dX0_init_169 : decode cX0_init 169 = .ok (.invokevirtual 15, 3) := by decide +kernel
theorem dX0_init_172 : decode cX0_init 172 = .ok (.aload_n 0, 1) := by decide +kernel
theorem dX0_init_173 : decode cX0_init 173 = .ok (.iload_n 1, 1) := by decide +kernel
theorem dX0_init_174 : decode cX0_init 174 = .ok (.invokevirtual 26, 3) := by decide +kernel
theorem dX0_init_177 : decode cX0_init 177 = .ok (.iinc 1 1, 3) := by decide +kernel
theorem dX0_init_180 : decode cX0_init 180 = .ok (.goto (-29), 3) := by decide +kernel
theorem dX0_init_183 : decode cX0_init 183 = .ok (.return_, 1) := by decide +kernel
theorem dX0_at_0 : decode cX0_at 0 = .ok (.iload_n 1, 1) := by decide +kernel
theorem dX0_at_1 : decode cX0_at 1 = .ok (.ifCond .lt 21, 3) := by decide +kernel
theorem dX0_at_4 : decode cX0_at 4 = .ok (.iload_n 1, 1) := by decide +kernel
theorem dX0_at_5 : decode cX0_at 5 = .ok (.aload_n 0, 1) := by decide +kernel
theorem dX0_at_6 : decode cX0_at 6 = .ok (.getfield 11, 3) := by decide +kernel
theorem dX0_at_9 : decode cX0_at 9 = .ok (.arraylength, 1) := by decide +kernel
theorem dX0_at_10 : decode cX0_at 10 = .ok (.if_icmp .ge 12, 3) := by decide +kernel
theorem dX0_at_13 : decode cX0_at 13 = .ok (.aload_n 0, 1) := by decide +kernel
theorem dX0_at_14 : decode cX0_at 14 = .ok (.getfield 11, 3) := by decide +kernel
theorem dX0_at_17 : decode cX0_at 17 = .ok (.iload_n 1, 1) := by decide +kernel
theorem dX0_at_18 : decode cX0_at 18 = .ok (.iaload, 1) := by decide +kernel
theorem dX0_at_19 : decode cX0_at 19 = .ok (.goto 4, 3) := by decide +kernel
theorem dX0_at_22 : decode cX0_at 22 = .ok (.iconst 0, 1) := by decide +kernel
theorem dX0_at_23 : decode cX0_at 23 = .ok (.ireturn, 1) := by decide +kernel
theorem dX0_put_0 : decode cX0_put 0 = .ok (.iload_n 1, 1) := by decide +kernel
theorem dX0_put_1 : decode cX0_put 1 = .ok (.ifCond .lt 19, 3) := by decide +kernel
theorem dX0_put_4 : decode cX0_put 4 = .ok (.iload_n 1, 1) := by decide +kernel
theorem dX0_put_5 : decode cX0_put 5 = .ok (.aload_n 0, 1) := by decide +kernel
theorem dX0_put_6 : decode cX0_put 6 = .ok (.getfield 11, 3) := by decide +kernel
theorem dX0_put_9 : decode cX0_put 9 = .ok (.arraylength, 1) := by decide +kernel
theorem dX0_put_10 : decode cX0_put 10 = .ok (.if_icmp .ge 10, 3) := by decide +kernel
theorem dX0_put_13 : decode cX0_put 13 = .ok (.aload_n 0, 1) := by decide +kernel
theorem dX0_put_14 : decode cX0_put 14 = .ok (.getfield 11, 3) := by decide +kernel
theorem dX0_put_17 : decode cX0_put 17 = .ok (.iload_n 1, 1) := by decide +kernel
theorem dX0_put_18 : decode cX0_put 18 = .ok (.iload_n 2, 1) := by decide +kernel
theorem dX0_put_19 : decode cX0_put 19 = .ok (.iastore, 1) := by decide +kernel
theorem dX0_put_20 : decode cX0_put 20 = .ok (.return_, 1) := by decide +kernel
set_option maxRecDepth 20000 in
theorem ggX0_add_X0_at : GoodIn wsX0_add wsX0_at := goodIn_r _ [5, 6, 11] (by decide +kernel) (by decide +kernel)
set_option maxRecDepth 20000 in
theorem gX0_add_X0_at : GoodIn wsX0_add (wsV RX0 30 RX0 yX0_at wsX0_at) := goodIn_app (goodIn_of _ (by decide +kernel)) ggX0_add_X0_at
set_option maxRecDepth 20000 in
theorem ggX0_add_X0_put : GoodIn wsX0_add wsX0_put := goodIn_r _ [10, 6, 11] (by decide +kernel) (by decide +kernel)
set_option maxRecDepth 20000 in
theorem gX0_add_X0_put : GoodIn wsX0_add (wsV RX0 15 RX0 yX0_put wsX0_put) := goodIn_app (goodIn_of _ (by decide +kernel)) ggX0_add_X0_put
theorem dX0_add_0 : decode cX0_add 0 = .ok (.aload_n 0, 1) := by decide +kernel
theorem dX0_add_1 : decode cX0_add 1 = .ok (.iload_n 1, 1) := by decide +kernel
theorem dX0_add_2 : decode cX0_add 2 = .ok (.aload_n 0, 1) := by decide +kernel
theorem dX0_add_3 : decode cX0_add 3 = .ok (.iload_n 1, 1) := by decide +kernel
theorem dX0_add_4 : decode cX0_add 4 = .ok (.invokevirtual 30, 3) := by decide +kernel
theorem dX0_add_7 : decode cX0_add 7 = .ok (.iload_n 2, 1) := by decide +kernel
theorem dX0_add_8 : decode cX0_add 8 = .ok (.iadd, 1) := by decide +kernel
theorem dX0_add_9 : decode cX0_add 9 = .ok (.invokevirtual 15, 3) := by decide +kernel
theorem dX0_add_12 : decode cX0_add 12 = .ok (.return_, 1) := by decide +kernel
set_option maxRecDepth 20000 in
theorem ggX0_swap_X0_at : GoodIn wsX0_swap wsX0_at := goodIn_r _ [5, 6, 11] (by decide +kernel) (by decide +kernel)
set_option maxRecDepth 20000 in
theorem gX0_swap_X0_at : GoodIn wsX0_swap (wsV RX0 30 RX0 yX0_at wsX0_at) := goodIn_app (goodIn_of _ (by decide +kernel)) ggX0_swap_X0_at
set_option maxRecDepth 20000 in
theorem ggX0_swap_X0_put : GoodIn wsX0_swap wsX0_put := goodIn_r _ [10, 6, 11] (by decide +kernel) (by decide +kernel)
set_option maxRecDepth 20000 in
theorem gX0_swap_X0_put : GoodIn wsX0_swap (wsV RX0 15 RX0 yX0_put wsX0_put) := goodIn_app (goodIn_of _ (by decide +kernel)) ggX0_swap_X0_put
theorem dX0_swap_0 : decode cX0_swap 0 = .ok (.aload_n 0, 1) := by decide +kernel
theorem dX0_swap_1 : decode cX0_swap 1 = .ok (.iload_n 1, 1) := by decide +kernel
theorem dX0_swap_2 : decode cX0_swap 2 = .ok (.invokevirtual 30, 3) := by decide +kernel
theorem dX0_swap_5 : decode cX0_swap 5 = .ok (.istore_n 3, 1) := by decide +kernel
theorem dX0_swap_6 : decode cX0_swap 6 = .ok (.aload_n 0, 1) := by decide +kernel
theorem dX0_swap_7 : decode cX0_swap 7 = .ok (.iload_n 1, 1) := by decide +kernel
theorem dX0_swap_8 : decode cX0_swap 8 = .ok (.iload_n 2, 1) := by decide +kernel
theorem dX0_swap_9 : decode cX0_swap 9 = .ok (.invokevirtual 15, 3) := by decide +kernel
theorem dX0_swap_12 : decode cX0_swap 12 = .ok (.iload_n 3, 1) := by decide +kernel
theorem dX0_swap_13 : decode cX0_swap 13 = .ok (.ireturn, 1) := by decide +kernel
set_option maxRecDepth 20000 in
theorem ggX0_sum_X0_at : GoodIn wsX0_sum wsX0_at := goodIn_r _ [5, 6, 7] (by decide +kernel) (by decide +kernel)
set_option maxRecDepth 20000 in
theorem gX0_sum_X0_at : GoodIn wsX0_sum (wsV RX0 30 RX0 yX0_at wsX0_at) := goodIn_app (goodIn_of _ (by decide +kernel)) ggX0_sum_X0_at
theorem dX0_sum_0 : decode cX0_sum 0 = .ok (.iconst 0, 1) := by decide +kernel
theorem dX0_sum_1 : decode cX0_sum 1 = .ok (.istore_n 3, 1) := by decide +kernel
theorem dX0_sum_2 : decode cX0_sum 2 = .ok (.iconst 0, 1) := by decide +kernel
theorem dX0_sum_3 : decode cX0_sum 3 = .ok (.istore 4, 2) := by decide +kernel
theorem dX0_sum_5 : decode cX0_sum 5 = .ok (.iload 4, 2) := by decide +kernel
theorem dX0_sum_7 : decode cX0_sum 7 = .ok (.iload_n 2, 1) := by decide +kernel
theorem dX0_sum_8 : decode cX0_sum 8 = .ok (.if_icmp .ge 20, 3) := by decide +kernel
theorem dX0_sum_11 : decode cX0_sum 11 = .ok (.iload_n 3, 1) := by decide +kernel
theorem dX0_sum_12 : decode cX0_sum 12 = .ok (.aload_n 0, 1) := by decide +kernel
theorem dX0_sum_13 : decode cX0_sum 13 = .ok (.iload_n 1, 1) := by decide +kernel
theorem dX0_sum_14 : decode cX0_sum 14 = .ok (.iload 4, 2) := by decide +kernel
theorem dX0_sum_16 : decode cX0_sum 16 = .ok (.iadd, 1) := by decide +kernel
theorem dX0_sum_17 : decode cX0_sum 17 = .ok (.invokevirtual 30, 3) := by decide +kernel
theorem dX0_sum_20 : decode cX0_sum 20 = .ok (.iadd, 1) := by decide +kernel
theorem dX0_sum_21 : decode cX0_sum 21 = .ok (.istore_n 3, 1) := by decide +kernel
theorem dX0_sum_22 : decode cX0_sum 22 = .ok (.iinc 4 1, 3) := by decide +kernel
theorem dX0_sum_25 : decode cX0_sum 25 = .ok (.goto (-20), 3) := by decide +kernel
theorem dX0_sum_28 : decode cX0_sum 28 = .ok (.iload_n 3, 1) := by decide +kernel
theorem dX0_sum_29 : decode cX0_sum 29 = .ok (.ireturn, 1) := by decide +kernel
theorem dX0_plotOf_0 : decode cX0_plotOf 0 = .ok (.iload_n 0, 1) := by decide +kernel
theorem dX0_plotOf_1 : decode cX0_plotOf 1 = .ok (.iconst 4, 1) := by decide +kernel
theorem dX0_plotOf_2 : decode cX0_plotOf 2 = .ok (.imul, 1) := by decide +kernel
theorem dX0_plotOf_3 : decode cX0_plotOf 3 = .ok (.iload_n 1, 1) := by decide +kernel
theorem dX0_plotOf_4 : decode cX0_plotOf 4 = .ok (.iadd, 1) := by decide +kernel
theorem dX0_plotOf_5 : decode cX0_plotOf 5 = .ok (.ireturn, 1) := by decide +kernel
set_option maxRecDepth 20000 in
theorem ggX0_sharesPlace_X0_plotOf : GoodIn wsX0_sharesPlace wsX0_plotOf := goodIn_r _ [4] (by decide +kernel) (by decide +kernel)
set_option maxRecDepth 20000 in
theorem gX0_sharesPlace_X0_plotOf : GoodIn wsX0_sharesPlace (va_wsS RX0 19 yX0_plotOf wsX0_plotOf) := goodIn_app (goodIn_of _ (by decide +kernel)) ggX0_sharesPlace_X0_plotOf
theorem dX0_sharesPlace_0 : decode cX0_sharesPlace 0 = .ok (.iload_n 0, 1) := by decide +kernel
theorem dX0_sharesPlace_1 : decode cX0_sharesPlace 1 = .ok (.iconst (-1), 1) := by decide +kernel
theorem dX0_sharesPlace_2 : decode cX0_sharesPlace 2 = .ok (.if_icmp .ne 10, 3) := by decide +kernel
theorem dX0_sharesPlace_5 : decode cX0_sharesPlace 5 = .ok (.bipush 53, 2) := by decide +kernel
theorem dX0_sharesPlace_7 : decode cX0_sharesPlace 7 = .ok (.iload_n 1, 1) := by decide +kernel
theorem dX0_sharesPlace_8 : decode cX0_sharesPlace 8 = .ok (.iadd, 1) := by decide +kernel
theorem dX0_sharesPlace_9 : decode cX0_sharesPlace 9 = .ok (.goto 11, 3) := by decide +kernel
theorem dX0_sharesPlace_12 : decode cX0_sharesPlace 12 = .ok (.bipush 57, 2) := by decide +kernel
theorem dX0_sharesPlace_14 : decode cX0_sharesPlace 14 = .ok (.iload_n 0, 1) := by decide +kernel
theorem dX0_sharesPlace_15 : decode cX0_sharesPlace 15 = .ok (.iload_n 1, 1) := by decide +kernel
theorem dX0_sharesPlace_16 : decode cX0_sharesPlace 16 = .ok (.invokestatic 19, 3) := by decide +kernel
theorem dX0_sharesPlace_19 : decode cX0_sharesPlace 19 = .ok (.iadd, 1) := by decide +kernel
theorem dX0_sharesPlace_20 : decode cX0_sharesPlace 20 = .ok (.ireturn, 1) := by decide +kernel
set_option maxRecDepth 20000 in
theorem ggX0_cuttersAt_X0_at : GoodIn wsX0_cuttersAt wsX0_at := goodIn_r _ [5, 6, 7] (by decide +kernel) (by decide +kernel)
set_option maxRecDepth 20000 in
theorem gX0_cuttersAt_X0_at : GoodIn wsX0_cuttersAt (wsV RX0 30 RX0 yX0_at wsX0_at) := goodIn_app (goodIn_of _ (by decide +kernel)) ggX0_cuttersAt_X0_at
theorem dX0_cuttersAt_0 : decode cX0_cuttersAt 0 = .ok (.iconst 0, 1) := by decide +kernel
theorem dX0_cuttersAt_1 : decode cX0_cuttersAt 1 = .ok (.istore_n 3, 1) := by decide +kernel
theorem dX0_cuttersAt_2 : decode cX0_cuttersAt 2 = .ok (.iconst 0, 1) := by decide +kernel
theorem dX0_cuttersAt_3 : decode cX0_cuttersAt 3 = .ok (.istore 4, 2) := by decide +kernel
theorem dX0_cuttersAt_5 : decode cX0_cuttersAt 5 = .ok (.iload 4, 2) := by decide +kernel
theorem dX0_cuttersAt_7 : decode cX0_cuttersAt 7 = .ok (.bipush 6, 2) := by decide +kernel
theorem dX0_cuttersAt_9 : decode cX0_cuttersAt 9 = .ok (.if_icmp .ge 40, 3) := by decide +kernel
theorem dX0_cuttersAt_12 : decode cX0_cuttersAt 12 = .ok (.aload_n 0, 1) := by decide +kernel
theorem dX0_cuttersAt_13 : decode cX0_cuttersAt 13 = .ok (.sipush 143, 3) := by decide +kernel
theorem dX0_cuttersAt_16 : decode cX0_cuttersAt 16 = .ok (.iload 4, 2) := by decide +kernel
theorem dX0_cuttersAt_18 : decode cX0_cuttersAt 18 = .ok (.iadd, 1) := by decide +kernel
theorem dX0_cuttersAt_19 : decode cX0_cuttersAt 19 = .ok (.invokevirtual 30, 3) := by decide +kernel
theorem dX0_cuttersAt_22 : decode cX0_cuttersAt 22 = .ok (.iload_n 1, 1) := by decide +kernel
theorem dX0_cuttersAt_23 : decode cX0_cuttersAt 23 = .ok (.if_icmp .ne 20, 3) := by decide +kernel
theorem dX0_cuttersAt_26 : decode cX0_cuttersAt 26 = .ok (.aload_n 0, 1) := by decide +kernel
theorem dX0_cuttersAt_27 : decode cX0_cuttersAt 27 = .ok (.sipush 149, 3) := by decide +kernel
theorem dX0_cuttersAt_30 : decode cX0_cuttersAt 30 = .ok (.iload 4, 2) := by decide +kernel
theorem dX0_cuttersAt_32 : decode cX0_cuttersAt 32 = .ok (.iadd, 1) := by decide +kernel
theorem dX0_cuttersAt_33 : decode cX0_cuttersAt 33 = .ok (.invokevirtual 30, 3) := by decide +kernel
theorem dX0_cuttersAt_36 : decode cX0_cuttersAt 36 = .ok (.iload_n 2, 1) := by decide +kernel
theorem dX0_cuttersAt_37 : decode cX0_cuttersAt 37 = .ok (.if_icmp .ne 6, 3) := by decide +kernel
theorem dX0_cuttersAt_40 : decode cX0_cuttersAt 40 = .ok (.iinc 3 1, 3) := by decide +kernel
theorem dX0_cuttersAt_43 : decode cX0_cuttersAt 43 = .ok (.iinc 4 1, 3) := by decide +kernel
theorem dX0_cuttersAt_46 : decode cX0_cuttersAt 46 = .ok (.goto (-41), 3) := by decide +kernel
theorem dX0_cuttersAt_49 : decode cX0_cuttersAt 49 = .ok (.iload_n 3, 1) := by decide +kernel
theorem dX0_cuttersAt_50 : decode cX0_cuttersAt 50 = .ok (.ireturn, 1) := by decide +kernel
set_option maxRecDepth 20000 in
theorem ggX0_cuttersOnBank_X0_cuttersAt : GoodIn wsX0_cuttersOnBank wsX0_cuttersAt := goodIn_r _ [5, 6, 7, 8, 4, 9, 10, 11] (by decide +kernel) (by decide +kernel)
set_option maxRecDepth 20000 in
theorem gX0_cuttersOnBank_X0_cuttersAt : GoodIn wsX0_cuttersOnBank (wsV RX0 34 RX0 yX0_cuttersAt wsX0_cuttersAt) := goodIn_app (goodIn_of _ (by decide +kernel)) ggX0_cuttersOnBank_X0_cuttersAt
theorem dX0_cuttersOnBank_0 : decode cX0_cuttersOnBank 0 = .ok (.iconst 0, 1) := by decide +kernel
theorem dX0_cuttersOnBank_1 : decode cX0_cuttersOnBank 1 = .ok (.istore_n 2, 1) := by decide +kernel
theorem dX0_cuttersOnBank_2 : decode cX0_cuttersOnBank 2 = .ok (.iconst 0, 1) := by decide +kernel
theorem dX0_cuttersOnBank_3 : decode cX0_cuttersOnBank 3 = .ok (.istore_n 3, 1) := by decide +kernel
theorem dX0_cuttersOnBank_4 : decode cX0_cuttersOnBank 4 = .ok (.iload_n 3, 1) := by decide +kernel
theorem dX0_cuttersOnBank_5 : decode cX0_cuttersOnBank 5 = .ok (.iconst 5, 1) := by decide +kernel
theorem dX0_cuttersOnBank_6 : decode cX0_cuttersOnBank 6 = .ok (.if_icmp .ge 18, 3) := by decide +kernel
theorem dX0_cuttersOnBank_9 : decode cX0_cuttersOnBank 9 = .ok (.iload_n 2, 1) := by decide +kernel
theorem dX0_cuttersOnBank_10 : decode cX0_cuttersOnBank 10 = .ok (.aload_n 0, 1) := by decide +kernel
theorem dX0_cuttersOnBank_11 : decode cX0_cuttersOnBank 11 = .ok (.iload_n 3, 1) := by decide +kernel
theorem dX0_cuttersOnBank_12 : decode cX0_cuttersOnBank 12 = .ok (.iload_n 1, 1) := by decide +kernel
theorem dX0_cuttersOnBank_13 : decode cX0_cuttersOnBank 13 = .ok (.invokevirtual 34, 3) := by decide +kernel
theorem dX0_cuttersOnBank_16 : decode cX0_cuttersOnBank 16 = .ok (.iadd, 1) := by decide +kernel
theorem dX0_cuttersOnBank_17 : decode cX0_cuttersOnBank 17 = .ok (.istore_n 2, 1) := by decide +kernel
theorem dX0_cuttersOnBank_18 : decode cX0_cuttersOnBank 18 = .ok (.iinc 3 1, 3) := by decide +kernel
theorem dX0_cuttersOnBank_21 : decode cX0_cuttersOnBank 21 = .ok (.goto (-17), 3) := by decide +kernel
theorem dX0_cuttersOnBank_24 : decode cX0_cuttersOnBank 24 = .ok (.iload_n 2, 1) := by decide +kernel
theorem dX0_cuttersOnBank_25 : decode cX0_cuttersOnBank 25 = .ok (.ireturn, 1) := by decide +kernel
set_option maxRecDepth 20000 in
theorem ggX0_cuttersAtWork_X0_cuttersOnBank : GoodIn wsX0_cuttersAtWork wsX0_cuttersOnBank := goodIn_r _ [5, 6, 7, 8, 4, 9, 10, 11, 12, 13, 14, 15] (by decide +kernel) (by decide +kernel)
set_option maxRecDepth 20000 in
theorem gX0_cuttersAtWork_X0_cuttersOnBank : GoodIn wsX0_cuttersAtWork (wsV RX0 37 RX0 yX0_cuttersOnBank wsX0_cuttersOnBank) := goodIn_app (goodIn_of _ (by decide +kernel)) ggX0_cuttersAtWork_X0_cuttersOnBank
theorem dX0_cuttersAtWork_0 : decode cX0_cuttersAtWork 0 = .ok (.iconst 0, 1) := by decide +kernel
theorem dX0_cuttersAtWork_1 : decode cX0_cuttersAtWork 1 = .ok (.istore_n 1, 1) := by decide +kernel
theorem dX0_cuttersAtWork_2 : decode cX0_cuttersAtWork 2 = .ok (.iconst 0, 1) := by decide +kernel
theorem dX0_cuttersAtWork_3 : decode cX0_cuttersAtWork 3 = .ok (.istore_n 2, 1) := by decide +kernel
theorem dX0_cuttersAtWork_4 : decode cX0_cuttersAtWork 4 = .ok (.iload_n 2, 1) := by decide +kernel
theorem dX0_cuttersAtWork_5 : decode cX0_cuttersAtWork 5 = .ok (.iconst 4, 1) := by decide +kernel
theorem dX0_cuttersAtWork_6 : decode cX0_cuttersAtWork 6 = .ok (.if_icmp .ge 17, 3) := by decide +kernel
theorem dX0_cuttersAtWork_9 : decode cX0_cuttersAtWork 9 = .ok (.iload_n 1, 1) := by decide +kernel
theorem dX0_cuttersAtWork_10 : decode cX0_cuttersAtWork 10 = .ok (.aload_n 0, 1) := by decide +kernel
theorem dX0_cuttersAtWork_11 : decode cX0_cuttersAtWork 11 = .ok (.iload_n 2, 1) := by decide +kernel
theorem dX0_cuttersAtWork_12 : decode cX0_cuttersAtWork 12 = .ok (.invokevirtual 37, 3) := by decide +kernel
theorem dX0_cuttersAtWork_15 : decode cX0_cuttersAtWork 15 = .ok (.iadd, 1) := by decide +kernel
theorem dX0_cuttersAtWork_16 : decode cX0_cuttersAtWork 16 = .ok (.istore_n 1, 1) := by decide +kernel
theorem dX0_cuttersAtWork_17 : decode cX0_cuttersAtWork 17 = .ok (.iinc 2 1, 3) := by decide +kernel
theorem dX0_cuttersAtWork_20 : decode cX0_cuttersAtWork 20 = .ok (.goto (-16), 3) := by decide +kernel
theorem dX0_cuttersAtWork_23 : decode cX0_cuttersAtWork 23 = .ok (.iload_n 1, 1) := by decide +kernel
theorem dX0_cuttersAtWork_24 : decode cX0_cuttersAtWork 24 = .ok (.ireturn, 1) := by decide +kernel
set_option maxRecDepth 20000 in
theorem ggX0_reasonAgainst_X0_plotOf : GoodIn wsX0_reasonAgainst wsX0_plotOf := goodIn_r _ [4] (by decide +kernel) (by decide +kernel)
set_option maxRecDepth 20000 in
theorem gX0_reasonAgainst_X0_plotOf : GoodIn wsX0_reasonAgainst (va_wsS RX0 19 yX0_plotOf wsX0_plotOf) := goodIn_app (goodIn_of _ (by decide +kernel)) ggX0_reasonAgainst_X0_plotOf
set_option maxRecDepth 20000 in
theorem ggX0_reasonAgainst_X0_at : GoodIn wsX0_reasonAgainst wsX0_at := goodIn_r _ [8, 9, 14] (by decide +kernel) (by decide +kernel)
set_option maxRecDepth 20000 in
theorem gX0_reasonAgainst_X0_at : GoodIn wsX0_reasonAgainst (wsV RX0 30 RX0 yX0_at wsX0_at) := goodIn_app (goodIn_of _ (by decide +kernel)) ggX0_reasonAgainst_X0_at
set_option maxRecDepth 20000 in
theorem ggX0_reasonAgainst_X0_cuttersAt : GoodIn wsX0_reasonAgainst wsX0_cuttersAt := goodIn_r _ [13, 5, 6, 7, 3, 8, 9, 14] (by decide +kernel) (by decide +kernel)
set_option maxRecDepth 20000 in
theorem gX0_reasonAgainst_X0_cuttersAt : GoodIn wsX0_reasonAgainst (wsV RX0 34 RX0 yX0_cuttersAt wsX0_cuttersAt) := goodIn_app (goodIn_of _ (by decide +kernel)) ggX0_reasonAgainst_X0_cuttersAt
theorem dX0_reasonAgainst_0 : decode cX0_reasonAgainst 0 = .ok (.aload_n 0, 1) := by decide +kernel
theorem dX0_reasonAgainst_1 : decode cX0_reasonAgainst 1 = .ok (.bipush 57, 2) := by decide +kernel
theorem dX0_reasonAgainst_3 : decode cX0_reasonAgainst 3 = .ok (.iload_n 1, 1) := by decide +kernel
theorem dX0_reasonAgainst_4 : decode cX0_reasonAgainst 4 = .ok (.iload_n 2, 1) := by decide +kernel
theorem dX0_reasonAgainst_5 : decode cX0_reasonAgainst 5 = .ok (.invokestatic 19, 3) := by decide +kernel
theorem dX0_reasonAgainst_8 : decode cX0_reasonAgainst 8 = .ok (.iadd, 1) := by decide +kernel
theorem dX0_reasonAgainst_9 : decode cX0_reasonAgainst 9 = .ok (.invokevirtual 30, 3) := by decide +kernel
theorem dX0_reasonAgainst_12 : decode cX0_reasonAgainst 12 = .ok (.istore_n 3, 1) := by decide +kernel
theorem dX0_reasonAgainst_13 : decode cX0_reasonAgainst 13 = .ok (.iload_n 3, 1) := by decide +kernel
theorem dX0_reasonAgainst_14 : decode cX0_reasonAgainst 14 = .ok (.ifCond .ne 5, 3) := by decide +kernel
theorem dX0_reasonAgainst_17 : decode cX0_reasonAgainst 17 = .ok (.iconst 1, 1) := by decide +kernel
theorem dX0_reasonAgainst_18 : decode cX0_reasonAgainst 18 = .ok (.ireturn, 1) := by decide +kernel
theorem dX0_reasonAgainst_19 : decode cX0_reasonAgainst 19 = .ok (.aload_n 0, 1) := by decide +kernel
theorem dX0_reasonAgainst_20 : decode cX0_reasonAgainst 20 = .ok (.iload_n 1, 1) := by decide +kernel
theorem dX0_reasonAgainst_21 : decode cX0_reasonAgainst 21 = .ok (.iload_n 2, 1) := by decide +kernel
theorem dX0_reasonAgainst_22 : decode cX0_reasonAgainst 22 = .ok (.invokevirtual 34, 3) := by decide +kernel
theorem dX0_reasonAgainst_25 : decode cX0_reasonAgainst 25 = .ok (.iload_n 3, 1) := by decide +kernel
theorem dX0_reasonAgainst_26 : decode cX0_reasonAgainst 26 = .ok (.if_icmp .lt 5, 3) := by decide +kernel
theorem dX0_reasonAgainst_29 : decode cX0_reasonAgainst 29 = .ok (.iconst 2, 1) := by decide +kernel
theorem dX0_reasonAgainst_30 : decode cX0_reasonAgainst 30 = .ok (.ireturn, 1) := by decide +kernel
theorem dX0_reasonAgainst_31 : decode cX0_reasonAgainst 31 = .ok (.aload_n 0, 1) := by decide +kernel
theorem dX0_reasonAgainst_32 : decode cX0_reasonAgainst 32 = .ok (.bipush 45, 2) := by decide +kernel
theorem dX0_reasonAgainst_34 : decode cX0_reasonAgainst 34 = .ok (.iload_n 2, 1) := by decide +kernel
theorem dX0_reasonAgainst_35 : decode cX0_reasonAgainst 35 = .ok (.iadd, 1) := by decide +kernel
theorem dX0_reasonAgainst_36 : decode cX0_reasonAgainst 36 = .ok (.invokevirtual 30, 3) := by decide +kernel
theorem dX0_reasonAgainst_39 : decode cX0_reasonAgainst 39 = .ok (.ifCond .ne 5, 3) := by decide +kernel
theorem dX0_reasonAgainst_42 : decode cX0_reasonAgainst 42 = .ok (.iconst 3, 1) := by decide +kernel
theorem dX0_reasonAgainst_43 : decode cX0_reasonAgainst 43 = .ok (.ireturn, 1) := by decide +kernel
theorem dX0_reasonAgainst_44 : decode cX0_reasonAgainst 44 = .ok (.aload_n 0, 1) := by decide +kernel
theorem dX0_reasonAgainst_45 : decode cX0_reasonAgainst 45 = .ok (.iconst 1, 1) := by decide +kernel
theorem dX0_reasonAgainst_46 : decode cX0_reasonAgainst 46 = .ok (.invokevirtual 30, 3) := by decide +kernel
theorem dX0_reasonAgainst_49 : decode cX0_reasonAgainst 49 = .ok (.iconst 1, 1) := by decide +kernel
theorem dX0_reasonAgainst_50 : decode cX0_reasonAgainst 50 = .ok (.if_icmp .ne 7, 3) := by decide +kernel
theorem dX0_reasonAgainst_53 : decode cX0_reasonAgainst 53 = .ok (.iconst 4, 1) := by decide +kernel
theorem dX0_reasonAgainst_54 : decode cX0_reasonAgainst 54 = .ok (.goto 4, 3) := by decide +kernel
theorem dX0_reasonAgainst_57 : decode cX0_reasonAgainst 57 = .ok (.iconst 0, 1) := by decide +kernel
theorem dX0_reasonAgainst_58 : decode cX0_reasonAgainst 58 = .ok (.ireturn, 1) := by decide +kernel
set_option maxRecDepth 20000 in
theorem ggX0_setToWork_X0_put : GoodIn wsX0_setToWork wsX0_put := goodIn_r _ [5, 6, 7] (by decide +kernel) (by decide +kernel)
set_option maxRecDepth 20000 in
theorem gX0_setToWork_X0_put : GoodIn wsX0_setToWork (wsV RX0 15 RX0 yX0_put wsX0_put) := goodIn_app (goodIn_of _ (by decide +kernel)) ggX0_setToWork_X0_put
theorem dX0_setToWork_0 : decode cX0_setToWork 0 = .ok (.aload_n 0, 1) := by decide +kernel
theorem dX0_setToWork_1 : decode cX0_setToWork 1 = .ok (.sipush 143, 3) := by decide +kernel
theorem dX0_setToWork_4 : decode cX0_setToWork 4 = .ok (.iload_n 1, 1) := by decide +kernel
theorem dX0_setToWork_5 : decode cX0_setToWork 5 = .ok (.iadd, 1) := by decide +kernel
theorem dX0_setToWork_6 : decode cX0_setToWork 6 = .ok (.iload_n 2, 1) := by decide +kernel
theorem dX0_setToWork_7 : decode cX0_setToWork 7 = .ok (.invokevirtual 15, 3) := by decide +kernel
theorem dX0_setToWork_10 : decode cX0_setToWork 10 = .ok (.aload_n 0, 1) := by decide +kernel
theorem dX0_setToWork_11 : decode cX0_setToWork 11 = .ok (.sipush 149, 3) := by decide +kernel
theorem dX0_setToWork_14 : decode cX0_setToWork 14 = .ok (.iload_n 1, 1) := by decide +kernel
theorem dX0_setToWork_15 : decode cX0_setToWork 15 = .ok (.iadd, 1) := by decide +kernel
theorem dX0_setToWork_16 : decode cX0_setToWork 16 = .ok (.iload_n 3, 1) := by decide +kernel
theorem dX0_setToWork_17 : decode cX0_setToWork 17 = .ok (.invokevirtual 15, 3) := by decide +kernel
theorem dX0_setToWork_20 : decode cX0_setToWork 20 = .ok (.return_, 1) := by decide +kernel
set_option maxRecDepth 20000 in
theorem ggX0_letRest_X0_setToWork : GoodIn wsX0_letRest wsX0_setToWork := goodIn_r _ [5, 6, 7, 8, 4, 9, 10, 11] (by decide +kernel) (by decide +kernel)
set_option maxRecDepth 20000 in
theorem gX0_letRest_X0_setToWork : GoodIn wsX0_letRest (wsV RX0 40 RX0 yX0_setToWork wsX0_setToWork) := goodIn_app (goodIn_of _ (by decide +kernel)) ggX0_letRest_X0_setToWork
theorem dX0_letRest_0 : decode cX0_letRest 0 = .ok (.aload_n 0, 1) := by decide +kernel
theorem dX0_letRest_1 : decode cX0_letRest 1 = .ok (.iload_n 1, 1) := by decide +kernel
theorem dX0_letRest_2 : decode cX0_letRest 2 = .ok (.iconst (-1), 1) := by decide +kernel
theorem dX0_letRest_3 : decode cX0_letRest 3 = .ok (.iconst (-1), 1) := by decide +kernel
theorem dX0_letRest_4 : decode cX0_letRest 4 = .ok (.invokevirtual 40, 3) := by decide +kernel
theorem dX0_letRest_7 : decode cX0_letRest 7 = .ok (.return_, 1) := by decide +kernel
set_option maxRecDepth 20000 in
theorem ggX0_turnSnow_X0_at : GoodIn wsX0_turnSnow wsX0_at := goodIn_r _ [5, 6, 19] (by decide +kernel) (by decide +kernel)
set_option maxRecDepth 20000 in
theorem gX0_turnSnow_X0_at : GoodIn wsX0_turnSnow (wsV RX0 30 RX0 yX0_at wsX0_at) := goodIn_app (goodIn_of _ (by decide +kernel)) ggX0_turnSnow_X0_at
set_option maxRecDepth 20000 in
theorem ggX0_turnSnow_X0_put : GoodIn wsX0_turnSnow wsX0_put := goodIn_r _ [10, 6, 19] (by decide +kernel) (by decide +kernel)
set_option maxRecDepth 20000 in
theorem gX0_turnSnow_X0_put : GoodIn wsX0_turnSnow (wsV RX0 15 RX0 yX0_put wsX0_put) := goodIn_app (goodIn_of _ (by decide +kernel)) ggX0_turnSnow_X0_put
set_option maxRecDepth 20000 in
theorem ggX0_turnSnow_X0_letRest : GoodIn wsX0_turnSnow wsX0_letRest := goodIn_r _ [14, 15, 16, 17, 4, 18, 7, 8, 9, 10, 6, 19] (by decide +kernel) (by decide +kernel)
set_option maxRecDepth 20000 in
theorem gX0_turnSnow_X0_letRest : GoodIn wsX0_turnSnow (wsV RX0 26 RX0 yX0_letRest wsX0_letRest) := goodIn_app (goodIn_of _ (by decide +kernel)) ggX0_turnSnow_X0_letRest
theorem dX0_turnSnow_0 : decode cX0_turnSnow 0 = .ok (.aload_n 0, 1) := by decide +kernel
theorem dX0_turnSnow_1 : decode cX0_turnSnow 1 = .ok (.iconst 1, 1) := by decide +kernel
theorem dX0_turnSnow_2 : decode cX0_turnSnow 2 = .ok (.iconst 1, 1) := by decide +kernel
theorem dX0_turnSnow_3 : decode cX0_turnSnow 3 = .ok (.aload_n 0, 1) := by decide +kernel
theorem dX0_turnSnow_4 : decode cX0_turnSnow 4 = .ok (.iconst 1, 1) := by decide +kernel
theorem dX0_turnSnow_5 : decode cX0_turnSnow 5 = .ok (.invokevirtual 30, 3) := by decide +kernel
theorem dX0_turnSnow_8 : decode cX0_turnSnow 8 = .ok (.isub, 1) := by decide +kernel
theorem dX0_turnSnow_9 : decode cX0_turnSnow 9 = .ok (.invokevirtual 15, 3) := by decide +kernel
theorem dX0_turnSnow_12 : decode cX0_turnSnow 12 = .ok (.aload_n 0, 1) := by decide +kernel
theorem dX0_turnSnow_13 : decode cX0_turnSnow 13 = .ok (.iconst 1, 1) := by decide +kernel
theorem dX0_turnSnow_14 : decode cX0_turnSnow 14 = .ok (.invokevirtual 30, 3) := by decide +kernel
theorem dX0_turnSnow_17 : decode cX0_turnSnow 17 = .ok (.iconst 1, 1) := by decide +kernel
theorem dX0_turnSnow_18 : decode cX0_turnSnow 18 = .ok (.if_icmp .ne 22, 3) := by decide +kernel
theorem dX0_turnSnow_21 : decode cX0_turnSnow 21 = .ok (.iconst 0, 1) := by decide +kernel
theorem dX0_turnSnow_22 : decode cX0_turnSnow 22 = .ok (.istore_n 1, 1) := by decide +kernel
theorem dX0_turnSnow_23 : decode cX0_turnSnow 23 = .ok (.iload_n 1, 1) := by decide +kernel
theorem dX0_turnSnow_24 : decode cX0_turnSnow 24 = .ok (.bipush 6, 2) := by decide +kernel
theorem dX0_turnSnow_26 : decode cX0_turnSnow 26 = .ok (.if_icmp .ge 14, 3) := by decide +kernel
theorem dX0_turnSnow_29 : decode cX0_turnSnow 29 = .ok (.aload_n 0, 1) := by decide +kernel
theorem dX0_turnSnow_30 : decode cX0_turnSnow 30 = .ok (.iload_n 1, 1) := by decide +kernel
theorem dX0_turnSnow_31 : decode cX0_turnSnow 31 = .ok (.invokevirtual 26, 3) := by decide +kernel
theorem dX0_turnSnow_34 : decode cX0_turnSnow 34 = .ok (.iinc 1 1, 3) := by decide +kernel
theorem dX0_turnSnow_37 : decode cX0_turnSnow 37 = .ok (.goto (-14), 3) := by decide +kernel
theorem dX0_turnSnow_40 : decode cX0_turnSnow 40 = .ok (.return_, 1) := by decide +kernel
set_option maxRecDepth 20000 in
theorem ggX0_rainOf_J9_floorMod_7cf53 : GoodIn wsX0_rainOf wsJ9_floorMod_7cf53 := goodIn_r _ [4] (by decide +kernel) (by decide +kernel)
set_option maxRecDepth 20000 in
theorem gX0_rainOf_J9_floorMod_7cf53 : GoodIn wsX0_rainOf (va_wsS RX0 44 yJ9_floorMod_7cf53 wsJ9_floorMod_7cf53) := goodIn_app (goodIn_of _ (by decide +kernel)) ggX0_rainOf_J9_floorMod_7cf53
set_option maxRecDepth 20000 in
theorem ggX0_rainOf_X0_at : GoodIn wsX0_rainOf wsX0_at := goodIn_r _ [9, 10, 11] (by decide +kernel) (by decide +kernel)
set_option maxRecDepth 20000 in
theorem gX0_rainOf_X0_at : GoodIn wsX0_rainOf (wsV RX0 30 RX0 yX0_at wsX0_at) := goodIn_app (goodIn_of _ (by decide +kernel)) ggX0_rainOf_X0_at
theorem dX0_rainOf_0 : decode cX0_rainOf 0 = .ok (.bipush 7, 2) := by decide +kernel
theorem dX0_rainOf_2 : decode cX0_rainOf 2 = .ok (.iload_n 1, 1) := by decide +kernel
theorem dX0_rainOf_3 : decode cX0_rainOf 3 = .ok (.bipush 10, 2) := by decide +kernel
theorem dX0_rainOf_5 : decode cX0_rainOf 5 = .ok (.invokestatic 44, 3) := by decide +kernel
theorem dX0_rainOf_8 : decode cX0_rainOf 8 = .ok (.imul, 1) := by decide +kernel
theorem dX0_rainOf_9 : decode cX0_rainOf 9 = .ok (.aload_n 0, 1) := by decide +kernel
theorem dX0_rainOf_10 : decode cX0_rainOf 10 = .ok (.iconst 2, 1) := by decide +kernel
theorem dX0_rainOf_11 : decode cX0_rainOf 11 = .ok (.invokevirtual 30, 3) := by decide +kernel
theorem dX0_rainOf_14 : decode cX0_rainOf 14 = .ok (.iadd, 1) := by decide +kernel
theorem dX0_rainOf_15 : decode cX0_rainOf 15 = .ok (.bipush 10, 2) := by decide +kernel
theorem dX0_rainOf_17 : decode cX0_rainOf 17 = .ok (.invokestatic 44, 3) := by decide +kernel
theorem dX0_rainOf_20 : decode cX0_rainOf 20 = .ok (.ireturn, 1) := by decide +kernel
set_option maxRecDepth 20000 in
theorem ggX0_passDays_X0_add : GoodIn wsX0_passDays wsX0_add := goodIn_r _ [5, 6, 7, 8, 4, 9, 10, 11, 12, 13, 14, 69] (by decide +kernel) (by decide +kernel)
set_option maxRecDepth 20000 in
theorem gX0_passDays_X0_add : GoodIn wsX0_passDays (wsV RX0 23 RX0 yX0_add wsX0_add) := goodIn_app (goodIn_of _ (by decide +kernel)) ggX0_passDays_X0_add
set_option maxRecDepth 20000 in
theorem ggX0_passDays_X0_at : GoodIn wsX0_passDays wsX0_at := goodIn_r _ [9, 10, 69] (by decide +kernel) (by decide +kernel)
set_option maxRecDepth 20000 in
theorem gX0_passDays_X0_at : GoodIn wsX0_passDays (wsV RX0 30 RX0 yX0_at wsX0_at) := goodIn_app (goodIn_of _ (by decide +kernel)) ggX0_passDays_X0_at
set_option maxRecDepth 20000 in
theorem ggX0_passDays_X0_weather : GoodIn wsX0_passDays wsX0_weather := goodIn_r _ [18, 19, 20, 21, 4, 22, 6, 7, 8, 9, 10, 23, 24, 25, 26, 27, 28, 29, 1, 2, 3, 5, 11, 12, 13, 14, 30, 31, 32, 33, 34, 35, 36, 37, 69] (by decide +kernel) (by decide +kernel)
set_option maxRecDepth 20000 in
theorem gX0_passDays_X0_weather : GoodIn wsX0_passDays (wsV RX0 49 RX0 yX0_weather wsX0_weather) := goodIn_app (goodIn_of _ (by decide +kernel)) ggX0_passDays_X0_weather
set_option maxRecDepth 20000 in
theorem ggX0_passDays_X0_burn : GoodIn wsX0_passDays wsX0_burn := goodIn_r _ [41, 34, 35, 36, 37, 6, 7, 8, 4, 9, 10, 1, 2, 3, 5, 11, 12, 13, 14, 69] (by decide +kernel) (by decide +kernel)
set_option maxRecDepth 20000 in
theorem gX0_passDays_X0_burn : GoodIn wsX0_passDays (wsV RX0 52 RX0 yX0_burn wsX0_burn) := goodIn_app (goodIn_of _ (by decide +kernel)) ggX0_passDays_X0_burn
set_option maxRecDepth 20000 in
theorem ggX0_passDays_X0_cutTurves : GoodIn wsX0_passDays wsX0_cutTurves := goodIn_r _ [45, 34, 35, 36, 37, 6, 7, 8, 4, 9, 10, 1, 2, 3, 5, 11, 12, 13, 14, 46, 47, 48, 69] (by decide +kernel) (by decide +kernel)
set_option maxRecDepth 20000 in
theorem gX0_passDays_X0_cutTurves : GoodIn wsX0_passDays (wsV RX0 55 RX0 yX0_cutTurves wsX0_cutTurves) := goodIn_app (goodIn_of _ (by decide +kernel)) ggX0_passDays_X0_cutTurves
set_option maxRecDepth 20000 in
theorem ggX0_passDays_X0_rainOf : GoodIn wsX0_passDays wsX0_rainOf := goodIn_r _ [52, 53, 54, 55, 56, 6, 7, 8, 4, 9, 10, 69] (by decide +kernel) (by decide +kernel)
set_option maxRecDepth 20000 in
theorem gX0_passDays_X0_rainOf : GoodIn wsX0_passDays (wsV RX0 58 RX0 yX0_rainOf wsX0_rainOf) := goodIn_app (goodIn_of _ (by decide +kernel)) ggX0_passDays_X0_rainOf
set_option maxRecDepth 20000 in
theorem ggX0_passDays_X0_goCarts : GoodIn wsX0_passDays wsX0_goCarts := goodIn_r _ [60, 6, 7, 8, 4, 9, 10, 53, 54, 55, 56, 61, 62, 63, 64, 34, 35, 36, 37, 46, 47, 48, 1, 2, 3, 5, 11, 12, 13, 14, 65, 66, 67, 68, 69] (by decide +kernel) (by decide +kernel)
set_option maxRecDepth 20000 in
theorem gX0_passDays_X0_goCarts : GoodIn wsX0_passDays (wsV RX0 61 RX0 yX0_goCarts wsX0_goCarts) := goodIn_app (goodIn_of _ (by decide +kernel)) ggX0_passDays_X0_goCarts
theorem dX0_passDays_0 : decode cX0_passDays 0 = .ok (.iconst 0, 1) := by decide +kernel
theorem dX0_passDays_1 : decode cX0_passDays 1 = .ok (.istore_n 2, 1) := by decide +kernel
theorem dX0_passDays_2 : decode cX0_passDays 2 = .ok (.iconst 0, 1) := by decide +kernel
theorem dX0_passDays_3 : decode cX0_passDays 3 = .ok (.istore_n 3, 1) := by decide +kernel
theorem dX0_passDays_4 : decode cX0_passDays 4 = .ok (.iload_n 3, 1) := by decide +kernel
theorem dX0_passDays_5 : decode cX0_passDays 5 = .ok (.iload_n 1, 1) := by decide +kernel
theorem dX0_passDays_6 : decode cX0_passDays 6 = .ok (.if_icmp .ge 60, 3) := by decide +kernel
theorem dX0_passDays_9 : decode cX0_passDays 9 = .ok (.aload_n 0, 1) := by decide +kernel
theorem dX0_passDays_10 : decode cX0_passDays 10 = .ok (.iconst 0, 1) := by decide +kernel
theorem dX0_passDays_11 : decode cX0_passDays 11 = .ok (.iconst 1, 1) := by decide +kernel
theorem dX0_passDays_12 : decode cX0_passDays 12 = .ok (.invokevirtual 23, 3) := by decide +kernel
theorem dX0_passDays_15 : decode cX0_passDays 15 = .ok (.aload_n 0, 1) := by decide +kernel
theorem dX0_passDays_16 : decode cX0_passDays 16 = .ok (.iconst 1, 1) := by decide +kernel
theorem dX0_passDays_17 : decode cX0_passDays 17 = .ok (.invokevirtual 30, 3) := by decide +kernel
theorem dX0_passDays_20 : decode cX0_passDays 20 = .ok (.iconst 1, 1) := by decide +kernel
theorem dX0_passDays_21 : decode cX0_passDays 21 = .ok (.if_icmp .ne 15, 3) := by decide +kernel
theorem dX0_passDays_24 : decode cX0_passDays 24 = .ok (.aload_n 0, 1) := by decide +kernel
theorem dX0_passDays_25 : decode cX0_passDays 25 = .ok (.iconst 0, 1) := by decide +kernel
theorem dX0_passDays_26 : decode cX0_passDays 26 = .ok (.invokevirtual 49, 3) := by decide +kernel
theorem dX0_passDays_29 : decode cX0_passDays 29 = .ok (.aload_n 0, 1) := by decide +kernel
theorem dX0_passDays_30 : decode cX0_passDays 30 = .ok (.invokevirtual 52, 3) := by decide +kernel
theorem dX0_passDays_33 : decode cX0_passDays 33 = .ok (.goto 27, 3) := by decide +kernel
theorem dX0_passDays_36 : decode cX0_passDays 36 = .ok (.aload_n 0, 1) := by decide +kernel
theorem dX0_passDays_37 : decode cX0_passDays 37 = .ok (.invokevirtual 55, 3) := by decide +kernel
theorem dX0_passDays_40 : decode cX0_passDays 40 = .ok (.aload_n 0, 1) := by decide +kernel
theorem dX0_passDays_41 : decode cX0_passDays 41 = .ok (.aload_n 0, 1) := by decide +kernel
theorem dX0_passDays_42 : decode cX0_passDays 42 = .ok (.aload_n 0, 1) := by decide +kernel
theorem dX0_passDays_43 : decode cX0_passDays 43 = .ok (.iconst 0, 1) := by decide +kernel
theorem dX0_passDays_44 : decode cX0_passDays 44 = .ok (.invokevirtual 30, 3) := by decide +kernel
theorem dX0_passDays_47 : decode cX0_passDays 47 = .ok (.invokevirtual 58, 3) := by decide +kernel
theorem dX0_passDays_50 : decode cX0_passDays 50 = .ok (.invokevirtual 49, 3) := by decide +kernel
theorem dX0_passDays_53 : decode cX0_passDays 53 = .ok (.iload_n 2, 1) := by decide +kernel
theorem dX0_passDays_54 : decode cX0_passDays 54 = .ok (.aload_n 0, 1) := by decide +kernel
theorem dX0_passDays_55 : decode cX0_passDays 55 = .ok (.invokevirtual 61, 3) := by decide +kernel
theorem dX0_passDays_58 : decode cX0_passDays 58 = .ok (.iadd, 1) := by decide +kernel
theorem dX0_passDays_59 : decode cX0_passDays 59 = .ok (.istore_n 2, 1) := by decide +kernel
theorem dX0_passDays_60 : decode cX0_passDays 60 = .ok (.iinc 3 1, 3) := by decide +kernel
theorem dX0_passDays_63 : decode cX0_passDays 63 = .ok (.goto (-59), 3) := by decide +kernel
theorem dX0_passDays_66 : decode cX0_passDays 66 = .ok (.iload_n 2, 1) := by decide +kernel
theorem dX0_passDays_67 : decode cX0_passDays 67 = .ok (.ireturn, 1) := by decide +kernel
set_option maxRecDepth 20000 in
theorem ggX0_cutTurves_X0_at : GoodIn wsX0_cutTurves wsX0_at := goodIn_r _ [9, 10, 22] (by decide +kernel) (by decide +kernel)
set_option maxRecDepth 20000 in
theorem gX0_cutTurves_X0_at : GoodIn wsX0_cutTurves (wsV RX0 30 RX0 yX0_at wsX0_at) := goodIn_app (goodIn_of _ (by decide +kernel)) ggX0_cutTurves_X0_at
set_option maxRecDepth 20000 in
theorem ggX0_cutTurves_X0_add : GoodIn wsX0_cutTurves wsX0_add := goodIn_r _ [14, 5, 6, 7, 8, 9, 10, 15, 16, 17, 18, 22] (by decide +kernel) (by decide +kernel)
set_option maxRecDepth 20000 in
theorem gX0_cutTurves_X0_add : GoodIn wsX0_cutTurves (wsV RX0 23 RX0 yX0_add wsX0_add) := goodIn_app (goodIn_of _ (by decide +kernel)) ggX0_cutTurves_X0_add
set_option maxRecDepth 20000 in
theorem ggX0_cutTurves_X0_plotOf : GoodIn wsX0_cutTurves wsX0_plotOf := goodIn_r _ [21] (by decide +kernel) (by decide +kernel)
set_option maxRecDepth 20000 in
theorem gX0_cutTurves_X0_plotOf : GoodIn wsX0_cutTurves (va_wsS RX0 19 yX0_plotOf wsX0_plotOf) := goodIn_app (goodIn_of _ (by decide +kernel)) ggX0_cutTurves_X0_plotOf
theorem dX0_cutTurves_0 : decode cX0_cutTurves 0 = .ok (.iconst 0, 1) := by decide +kernel
theorem dX0_cutTurves_1 : decode cX0_cutTurves 1 = .ok (.istore_n 1, 1) := by decide +kernel
theorem dX0_cutTurves_2 : decode cX0_cutTurves 2 = .ok (.iload_n 1, 1) := by decide +kernel
theorem dX0_cutTurves_3 : decode cX0_cutTurves 3 = .ok (.bipush 6, 2) := by decide +kernel
theorem dX0_cutTurves_5 : decode cX0_cutTurves 5 = .ok (.if_icmp .ge 107, 3) := by decide +kernel
theorem dX0_cutTurves_8 : decode cX0_cutTurves 8 = .ok (.aload_n 0, 1) := by decide +kernel
theorem dX0_cutTurves_9 : decode cX0_cutTurves 9 = .ok (.sipush 143, 3) := by decide +kernel
theorem dX0_cutTurves_12 : decode cX0_cutTurves 12 = .ok (.iload_n 1, 1) := by decide +kernel
theorem dX0_cutTurves_13 : decode cX0_cutTurves 13 = .ok (.iadd, 1) := by decide +kernel
theorem dX0_cutTurves_14 : decode cX0_cutTurves 14 = .ok (.invokevirtual 30, 3) := by decide +kernel
theorem dX0_cutTurves_17 : decode cX0_cutTurves 17 = .ok (.istore_n 2, 1) := by decide +kernel
theorem dX0_cutTurves_18 : decode cX0_cutTurves 18 = .ok (.aload_n 0, 1) := by decide +kernel
theorem dX0_cutTurves_19 : decode cX0_cutTurves 19 = .ok (.sipush 149, 3) := by decide +kernel
theorem dX0_cutTurves_22 : decode cX0_cutTurves 22 = .ok (.iload_n 1, 1) := by decide +kernel
theorem dX0_cutTurves_23 : decode cX0_cutTurves 23 = .ok (.iadd, 1) := by decide +kernel
theorem dX0_cutTurves_24 : decode cX0_cutTurves 24 = .ok (.invokevirtual 30, 3) := by decide +kernel
theorem dX0_cutTurves_27 : decode cX0_cutTurves 27 = .ok (.istore_n 3, 1) := by decide +kernel
theorem dX0_cutTurves_28 : decode cX0_cutTurves 28 = .ok (.iload_n 2, 1) := by decide +kernel
theorem dX0_cutTurves_29 : decode cX0_cutTurves 29 = .ok (.iconst (-1), 1) := by decide +kernel
theorem dX0_cutTurves_30 : decode cX0_cutTurves 30 = .ok (.if_icmp .eq 76, 3) := by decide +kernel
theorem dX0_cutTurves_33 : decode cX0_cutTurves 33 = .ok (.iload_n 3, 1) := by decide +kernel
theorem dX0_cutTurves_34 : decode cX0_cutTurves 34 = .ok (.iconst (-1), 1) := by decide +kernel
theorem dX0_cutTurves_35 : decode cX0_cutTurves 35 = .ok (.if_icmp .eq 71, 3) := by decide +kernel
theorem dX0_cutTurves_38 : decode cX0_cutTurves 38 = .ok (.aload_n 0, 1) := by decide +kernel
theorem dX0_cutTurves_39 : decode cX0_cutTurves 39 = .ok (.sipush 137, 3) := by decide +kernel
theorem dX0_cutTurves_42 : decode cX0_cutTurves 42 = .ok (.iload_n 1, 1) := by decide +kernel
theorem dX0_cutTurves_43 : decode cX0_cutTurves 43 = .ok (.iadd, 1) := by decide +kernel
theorem dX0_cutTurves_44 : decode cX0_cutTurves 44 = .ok (.invokevirtual 30, 3) := by decide +kernel
theorem dX0_cutTurves_47 : decode cX0_cutTurves 47 = .ok (.aload_n 0, 1) := by decide +kernel
theorem dX0_cutTurves_48 : decode cX0_cutTurves 48 = .ok (.bipush 45, 2) := by decide +kernel
theorem dX0_cutTurves_50 : decode cX0_cutTurves 50 = .ok (.iload_n 3, 1) := by decide +kernel
theorem dX0_cutTurves_51 : decode cX0_cutTurves 51 = .ok (.iadd, 1) := by decide +kernel
theorem dX0_cutTurves_52 : decode cX0_cutTurves 52 = .ok (.invokevirtual 30, 3) := by decide +kernel
theorem dX0_cutTurves_55 : decode cX0_cutTurves 55 = .ok (.invokestatic 65, 3) := by decide +kernel
theorem dX0_cutTurves_58 : decode cX0_cutTurves 58 = .ok (.istore 4, 2) := by decide +kernel
theorem dX0_cutTurves_60 : decode cX0_cutTurves 60 = .ok (.aload_n 0, 1) := by decide +kernel
theorem dX0_cutTurves_61 : decode cX0_cutTurves 61 = .ok (.bipush 45, 2) := by decide +kernel
theorem dX0_cutTurves_63 : decode cX0_cutTurves 63 = .ok (.iload_n 3, 1) := by decide +kernel
theorem dX0_cutTurves_64 : decode cX0_cutTurves 64 = .ok (.iadd, 1) := by decide +kernel
theorem dX0_cutTurves_65 : decode cX0_cutTurves 65 = .ok (.iload 4, 2) := by decide +kernel
theorem dX0_cutTurves_67 : decode cX0_cutTurves 67 = .ok (.ineg, 1) := by decide +kernel
theorem dX0_cutTurves_68 : decode cX0_cutTurves 68 = .ok (.invokevirtual 23, 3) := by decide +kernel
theorem dX0_cutTurves_71 : decode cX0_cutTurves 71 = .ok (.aload_n 0, 1) := by decide +kernel
theorem dX0_cutTurves_72 : decode cX0_cutTurves 72 = .ok (.bipush 77, 2) := by decide +kernel
theorem dX0_cutTurves_74 : decode cX0_cutTurves 74 = .ok (.iload_n 2, 1) := by decide +kernel
theorem dX0_cutTurves_75 : decode cX0_cutTurves 75 = .ok (.iload_n 3, 1) := by decide +kernel
theorem dX0_cutTurves_76 : decode cX0_cutTurves 76 = .ok (.invokestatic 19, 3) := by decide +kernel
theorem dX0_cutTurves_79 : decode cX0_cutTurves 79 = .ok (.iadd, 1) := by decide +kernel
theorem dX0_cutTurves_80 : decode cX0_cutTurves 80 = .ok (.iload 4, 2) := by decide +kernel
theorem dX0_cutTurves_82 : decode cX0_cutTurves 82 = .ok (.invokevirtual 23, 3) := by decide +kernel
theorem dX0_cutTurves_85 : decode cX0_cutTurves 85 = .ok (.aload_n 0, 1) := by decide +kernel
theorem dX0_cutTurves_86 : decode cX0_cutTurves 86 = .ok (.bipush 20, 2) := by decide +kernel
theorem dX0_cutTurves_88 : decode cX0_cutTurves 88 = .ok (.iload_n 2, 1) := by decide +kernel
theorem dX0_cutTurves_89 : decode cX0_cutTurves 89 = .ok (.iadd, 1) := by decide +kernel
theorem dX0_cutTurves_90 : decode cX0_cutTurves 90 = .ok (.iload 4, 2) := by decide +kernel
theorem dX0_cutTurves_92 : decode cX0_cutTurves 92 = .ok (.invokevirtual 23, 3) := by decide +kernel
theorem dX0_cutTurves_95 : decode cX0_cutTurves 95 = .ok (.aload_n 0, 1) := by decide +kernel
theorem dX0_cutTurves_96 : decode cX0_cutTurves 96 = .ok (.sipush 155, 3) := by decide +kernel
theorem dX0_cutTurves_99 : decode cX0_cutTurves 99 = .ok (.iload_n 1, 1) := by decide +kernel
theorem dX0_cutTurves_100 : decode cX0_cutTurves 100 = .ok (.iadd, 1) := by decide +kernel
theorem dX0_cutTurves_101 : decode cX0_cutTurves 101 = .ok (.iload 4, 2) := by decide +kernel
theorem dX0_cutTurves_103 : decode cX0_cutTurves 103 = .ok (.invokevirtual 23, 3) := by decide +kernel
theorem dX0_cutTurves_106 : decode cX0_cutTurves 106 = .ok (.iinc 1 1, 3) := by decide +kernel
theorem dX0_cutTurves_109 : decode cX0_cutTurves 109 = .ok (.goto (-107), 3) := by decide +kernel
theorem dX0_cutTurves_112 : decode cX0_cutTurves 112 = .ok (.return_, 1) := by decide +kernel
set_option maxRecDepth 20000 in
theorem ggX0_weather_X0_turvesOn : GoodIn wsX0_weather wsX0_turvesOn := goodIn_r _ [5, 6, 7, 8, 4, 9, 10, 34] (by decide +kernel) (by decide +kernel)
set_option maxRecDepth 20000 in
theorem gX0_weather_X0_turvesOn : GoodIn wsX0_weather (wsV RX0 68 RX0 yX0_turvesOn wsX0_turvesOn) := goodIn_app (goodIn_of _ (by decide +kernel)) ggX0_weather_X0_turvesOn
set_option maxRecDepth 20000 in
theorem ggX0_weather_X0_wetAgain : GoodIn wsX0_weather wsX0_wetAgain := goodIn_r _ [14, 6, 7, 8, 4, 9, 10, 15, 16, 17, 18, 19, 20, 21, 22, 23, 24, 25, 34] (by decide +kernel) (by decide +kernel)
set_option maxRecDepth 20000 in
theorem gX0_weather_X0_wetAgain : GoodIn wsX0_weather (wsV RX0 72 RX0 yX0_wetAgain wsX0_wetAgain) := goodIn_app (goodIn_of _ (by decide +kernel)) ggX0_weather_X0_wetAgain
set_option maxRecDepth 20000 in
theorem ggX0_weather_X0_dryOut : GoodIn wsX0_weather wsX0_dryOut := goodIn_r _ [29, 30, 31, 32, 33, 6, 7, 8, 4, 9, 10, 15, 16, 17, 18, 19, 20, 21, 22, 23, 24, 25, 34] (by decide +kernel) (by decide +kernel)
set_option maxRecDepth 20000 in
theorem gX0_weather_X0_dryOut : GoodIn wsX0_weather (wsV RX0 75 RX0 yX0_dryOut wsX0_dryOut) := goodIn_app (goodIn_of _ (by decide +kernel)) ggX0_weather_X0_dryOut
theorem dX0_weather_0 : decode cX0_weather 0 = .ok (.iload_n 1, 1) := by decide +kernel
theorem dX0_weather_1 : decode cX0_weather 1 = .ok (.iconst 3, 1) := by decide +kernel
theorem dX0_weather_2 : decode cX0_weather 2 = .ok (.if_icmp .le 10, 3) := by decide +kernel
theorem dX0_weather_5 : decode cX0_weather 5 = .ok (.iload_n 1, 1) := by decide +kernel
theorem dX0_weather_6 : decode cX0_weather 6 = .ok (.bipush 6, 2) := by decide +kernel
theorem dX0_weather_8 : decode cX0_weather 8 = .ok (.if_icmp .gt 4, 3) := by decide +kernel
theorem dX0_weather_11 : decode cX0_weather 11 = .ok (.return_, 1) := by decide +kernel
theorem dX0_weather_12 : decode cX0_weather 12 = .ok (.iconst 0, 1) := by decide +kernel
theorem dX0_weather_13 : decode cX0_weather 13 = .ok (.istore_n 2, 1) := by decide +kernel
theorem dX0_weather_14 : decode cX0_weather 14 = .ok (.iload_n 2, 1) := by decide +kernel
theorem dX0_weather_15 : decode cX0_weather 15 = .ok (.bipush 20, 2) := by decide +kernel
theorem dX0_weather_17 : decode cX0_weather 17 = .ok (.if_icmp .ge 41, 3) := by decide +kernel
theorem dX0_weather_20 : decode cX0_weather 20 = .ok (.aload_n 0, 1) := by decide +kernel
theorem dX0_weather_21 : decode cX0_weather 21 = .ok (.iload_n 2, 1) := by decide +kernel
theorem dX0_weather_22 : decode cX0_weather 22 = .ok (.iconst 1, 1) := by decide +kernel
theorem dX0_weather_23 : decode cX0_weather 23 = .ok (.iconst 1, 1) := by decide +kernel
theorem dX0_weather_24 : decode cX0_weather 24 = .ok (.invokevirtual 68, 3) := by decide +kernel
theorem dX0_weather_27 : decode cX0_weather 27 = .ok (.ifCond .ne 6, 3) := by decide +kernel
theorem dX0_weather_30 : decode cX0_weather 30 = .ok (.goto 22, 3) := by decide +kernel
theorem dX0_weather_33 : decode cX0_weather 33 = .ok (.iload_n 1, 1) := by decide +kernel
theorem dX0_weather_34 : decode cX0_weather 34 = .ok (.bipush 6, 2) := by decide +kernel
theorem dX0_weather_36 : decode cX0_weather 36 = .ok (.if_icmp .le 11, 3) := by decide +kernel
theorem dX0_weather_39 : decode cX0_weather 39 = .ok (.aload_n 0, 1) := by decide +kernel
theorem dX0_weather_40 : decode cX0_weather 40 = .ok (.iload_n 2, 1) := by decide +kernel
theorem dX0_weather_41 : decode cX0_weather 41 = .ok (.invokevirtual 72, 3) := by decide +kernel
theorem dX0_weather_44 : decode cX0_weather 44 = .ok (.goto 8, 3) := by decide +kernel
theorem dX0_weather_47 : decode cX0_weather 47 = .ok (.aload_n 0, 1) := by decide +kernel
theorem dX0_weather_48 : decode cX0_weather 48 = .ok (.iload_n 2, 1) := by decide +kernel
theorem dX0_weather_49 : decode cX0_weather 49 = .ok (.invokevirtual 75, 3) := by decide +kernel
theorem dX0_weather_52 : decode cX0_weather 52 = .ok (.iinc 2 1, 3) := by decide +kernel
theorem dX0_weather_55 : decode cX0_weather 55 = .ok (.goto (-41), 3) := by decide +kernel
theorem dX0_weather_58 : decode cX0_weather 58 = .ok (.return_, 1) := by decide +kernel
set_option maxRecDepth 20000 in
theorem ggX0_wetAgain_X0_at : GoodIn wsX0_wetAgain wsX0_at := goodIn_r _ [5, 6, 18] (by decide +kernel) (by decide +kernel)
set_option maxRecDepth 20000 in
theorem gX0_wetAgain_X0_at : GoodIn wsX0_wetAgain (wsV RX0 30 RX0 yX0_at wsX0_at) := goodIn_app (goodIn_of _ (by decide +kernel)) ggX0_wetAgain_X0_at
set_option maxRecDepth 20000 in
theorem ggX0_wetAgain_X0_halfRoundedUp : GoodIn wsX0_wetAgain wsX0_halfRoundedUp := goodIn_r _ [9] (by decide +kernel) (by decide +kernel)
set_option maxRecDepth 20000 in
theorem gX0_wetAgain_X0_halfRoundedUp : GoodIn wsX0_wetAgain (va_wsS RX0 78 yX0_halfRoundedUp wsX0_halfRoundedUp) := goodIn_app (goodIn_of _ (by decide +kernel)) ggX0_wetAgain_X0_halfRoundedUp
set_option maxRecDepth 20000 in
theorem ggX0_wetAgain_X0_add : GoodIn wsX0_wetAgain wsX0_add := goodIn_r _ [13, 1, 2, 3, 4, 5, 6, 14, 15, 16, 17, 18] (by decide +kernel) (by decide +kernel)
set_option maxRecDepth 20000 in
theorem gX0_wetAgain_X0_add : GoodIn wsX0_wetAgain (wsV RX0 23 RX0 yX0_add wsX0_add) := goodIn_app (goodIn_of _ (by decide +kernel)) ggX0_wetAgain_X0_add
theorem dX0_wetAgain_0 : decode cX0_wetAgain 0 = .ok (.aload_n 0, 1) := by decide +kernel
theorem dX0_wetAgain_1 : decode cX0_wetAgain 1 = .ok (.bipush 97, 2) := by decide +kernel
theorem dX0_wetAgain_3 : decode cX0_wetAgain 3 = .ok (.iload_n 1, 1) := by decide +kernel
theorem dX0_wetAgain_4 : decode cX0_wetAgain 4 = .ok (.iadd, 1) := by decide +kernel
theorem dX0_wetAgain_5 : decode cX0_wetAgain 5 = .ok (.invokevirtual 30, 3) := by decide +kernel
theorem dX0_wetAgain_8 : decode cX0_wetAgain 8 = .ok (.invokestatic 78, 3) := by decide +kernel
theorem dX0_wetAgain_11 : decode cX0_wetAgain 11 = .ok (.istore_n 2, 1) := by decide +kernel
theorem dX0_wetAgain_12 : decode cX0_wetAgain 12 = .ok (.aload_n 0, 1) := by decide +kernel
theorem dX0_wetAgain_13 : decode cX0_wetAgain 13 = .ok (.bipush 117, 2) := by decide +kernel
theorem dX0_wetAgain_15 : decode cX0_wetAgain 15 = .ok (.iload_n 1, 1) := by decide +kernel
theorem dX0_wetAgain_16 : decode cX0_wetAgain 16 = .ok (.iadd, 1) := by decide +kernel
theorem dX0_wetAgain_17 : decode cX0_wetAgain 17 = .ok (.invokevirtual 30, 3) := by decide +kernel
theorem dX0_wetAgain_20 : decode cX0_wetAgain 20 = .ok (.invokestatic 78, 3) := by decide +kernel
theorem dX0_wetAgain_23 : decode cX0_wetAgain 23 = .ok (.istore_n 3, 1) := by decide +kernel
theorem dX0_wetAgain_24 : decode cX0_wetAgain 24 = .ok (.aload_n 0, 1) := by decide +kernel
theorem dX0_wetAgain_25 : decode cX0_wetAgain 25 = .ok (.bipush 97, 2) := by decide +kernel
theorem dX0_wetAgain_27 : decode cX0_wetAgain 27 = .ok (.iload_n 1, 1) := by decide +kernel
theorem dX0_wetAgain_28 : decode cX0_wetAgain 28 = .ok (.iadd, 1) := by decide +kernel
theorem dX0_wetAgain_29 : decode cX0_wetAgain 29 = .ok (.iload_n 2, 1) := by decide +kernel
theorem dX0_wetAgain_30 : decode cX0_wetAgain 30 = .ok (.ineg, 1) := by decide +kernel
theorem dX0_wetAgain_31 : decode cX0_wetAgain 31 = .ok (.invokevirtual 23, 3) := by decide +kernel
theorem dX0_wetAgain_34 : decode cX0_wetAgain 34 = .ok (.aload_n 0, 1) := by decide +kernel
theorem dX0_wetAgain_35 : decode cX0_wetAgain 35 = .ok (.bipush 117, 2) := by decide +kernel
theorem dX0_wetAgain_37 : decode cX0_wetAgain 37 = .ok (.iload_n 1, 1) := by decide +kernel
theorem dX0_wetAgain_38 : decode cX0_wetAgain 38 = .ok (.iadd, 1) := by decide +kernel
theorem dX0_wetAgain_39 : decode cX0_wetAgain 39 = .ok (.iload_n 3, 1) := by decide +kernel
theorem dX0_wetAgain_40 : decode cX0_wetAgain 40 = .ok (.ineg, 1) := by decide +kernel
theorem dX0_wetAgain_41 : decode cX0_wetAgain 41 = .ok (.invokevirtual 23, 3) := by decide +kernel
theorem dX0_wetAgain_44 : decode cX0_wetAgain 44 = .ok (.aload_n 0, 1) := by decide +kernel
theorem dX0_wetAgain_45 : decode cX0_wetAgain 45 = .ok (.bipush 77, 2) := by decide +kernel
theorem dX0_wetAgain_47 : decode cX0_wetAgain 47 = .ok (.iload_n 1, 1) := by decide +kernel
theorem dX0_wetAgain_48 : decode cX0_wetAgain 48 = .ok (.iadd, 1) := by decide +kernel
theorem dX0_wetAgain_49 : decode cX0_wetAgain 49 = .ok (.iload_n 2, 1) := by decide +kernel
theorem dX0_wetAgain_50 : decode cX0_wetAgain 50 = .ok (.iload_n 3, 1) := by decide +kernel
theorem dX0_wetAgain_51 : decode cX0_wetAgain 51 = .ok (.iadd, 1) := by decide +kernel
theorem dX0_wetAgain_52 : decode cX0_wetAgain 52 = .ok (.invokevirtual 23, 3) := by decide +kernel
theorem dX0_wetAgain_55 : decode cX0_wetAgain 55 = .ok (.return_, 1) := by decide +kernel
set_option maxRecDepth 20000 in
theorem ggX0_dryOut_X0_at : GoodIn wsX0_dryOut wsX0_at := goodIn_r _ [9, 10, 22] (by decide +kernel) (by decide +kernel)
set_option maxRecDepth 20000 in
theorem gX0_dryOut_X0_at : GoodIn wsX0_dryOut (wsV RX0 30 RX0 yX0_at wsX0_at) := goodIn_app (goodIn_of _ (by decide +kernel)) ggX0_dryOut_X0_at
set_option maxRecDepth 20000 in
theorem ggX0_dryOut_X0_halfRoundedUp : GoodIn wsX0_dryOut wsX0_halfRoundedUp := goodIn_r _ [13] (by decide +kernel) (by decide +kernel)
set_option maxRecDepth 20000 in
theorem gX0_dryOut_X0_halfRoundedUp : GoodIn wsX0_dryOut (va_wsS RX0 78 yX0_halfRoundedUp wsX0_halfRoundedUp) := goodIn_app (goodIn_of _ (by decide +kernel)) ggX0_dryOut_X0_halfRoundedUp
set_option maxRecDepth 20000 in
theorem ggX0_dryOut_X0_add : GoodIn wsX0_dryOut wsX0_add := goodIn_r _ [17, 5, 6, 7, 8, 9, 10, 18, 19, 20, 21, 22] (by decide +kernel) (by decide +kernel)
set_option maxRecDepth 20000 in
theorem gX0_dryOut_X0_add : GoodIn wsX0_dryOut (wsV RX0 23 RX0 yX0_add wsX0_add) := goodIn_app (goodIn_of _ (by decide +kernel)) ggX0_dryOut_X0_add
theorem dX0_dryOut_0 : decode cX0_dryOut 0 = .ok (.aload_n 0, 1) := by decide +kernel
theorem dX0_dryOut_1 : decode cX0_dryOut 1 = .ok (.bipush 97, 2) := by decide +kernel
theorem dX0_dryOut_3 : decode cX0_dryOut 3 = .ok (.iload_n 1, 1) := by decide +kernel
theorem dX0_dryOut_4 : decode cX0_dryOut 4 = .ok (.iadd, 1) := by decide +kernel
theorem dX0_dryOut_5 : decode cX0_dryOut 5 = .ok (.invokevirtual 30, 3) := by decide +kernel
theorem dX0_dryOut_8 : decode cX0_dryOut 8 = .ok (.istore_n 2, 1) := by decide +kernel
theorem dX0_dryOut_9 : decode cX0_dryOut 9 = .ok (.iload_n 2, 1) := by decide +kernel
theorem dX0_dryOut_10 : decode cX0_dryOut 10 = .ok (.iconst 3, 1) := by decide +kernel
theorem dX0_dryOut_11 : decode cX0_dryOut 11 = .ok (.idiv, 1) := by decide +kernel
theorem dX0_dryOut_12 : decode cX0_dryOut 12 = .ok (.iconst 1, 1) := by decide +kernel
theorem dX0_dryOut_13 : decode cX0_dryOut 13 = .ok (.iadd, 1) := by decide +kernel
theorem dX0_dryOut_14 : decode cX0_dryOut 14 = .ok (.iload_n 2, 1) := by decide +kernel
theorem dX0_dryOut_15 : decode cX0_dryOut 15 = .ok (.invokestatic 65, 3) := by decide +kernel
theorem dX0_dryOut_18 : decode cX0_dryOut 18 = .ok (.istore_n 3, 1) := by decide +kernel
theorem dX0_dryOut_19 : decode cX0_dryOut 19 = .ok (.aload_n 0, 1) := by decide +kernel
theorem dX0_dryOut_20 : decode cX0_dryOut 20 = .ok (.bipush 77, 2) := by decide +kernel
theorem dX0_dryOut_22 : decode cX0_dryOut 22 = .ok (.iload_n 1, 1) := by decide +kernel
theorem dX0_dryOut_23 : decode cX0_dryOut 23 = .ok (.iadd, 1) := by decide +kernel
theorem dX0_dryOut_24 : decode cX0_dryOut 24 = .ok (.invokevirtual 30, 3) := by decide +kernel
theorem dX0_dryOut_27 : decode cX0_dryOut 27 = .ok (.invokestatic 78, 3) := by decide +kernel
theorem dX0_dryOut_30 : decode cX0_dryOut 30 = .ok (.istore 4, 2) := by decide +kernel
theorem dX0_dryOut_32 : decode cX0_dryOut 32 = .ok (.aload_n 0, 1) := by decide +kernel
theorem dX0_dryOut_33 : decode cX0_dryOut 33 = .ok (.bipush 77, 2) := by decide +kernel
theorem dX0_dryOut_35 : decode cX0_dryOut 35 = .ok (.iload_n 1, 1) := by decide +kernel
theorem dX0_dryOut_36 : decode cX0_dryOut 36 = .ok (.iadd, 1) := by decide +kernel
theorem dX0_dryOut_37 : decode cX0_dryOut 37 = .ok (.iload 4, 2) := by decide +kernel
theorem dX0_dryOut_39 : decode cX0_dryOut 39 = .ok (.ineg, 1) := by decide +kernel
theorem dX0_dryOut_40 : decode cX0_dryOut 40 = .ok (.invokevirtual 23, 3) := by decide +kernel
theorem dX0_dryOut_43 : decode cX0_dryOut 43 = .ok (.aload_n 0, 1) := by decide +kernel
theorem dX0_dryOut_44 : decode cX0_dryOut 44 = .ok (.bipush 97, 2) := by decide +kernel
theorem dX0_dryOut_46 : decode cX0_dryOut 46 = .ok (.iload_n 1, 1) := by decide +kernel
theorem dX0_dryOut_47 : decode cX0_dryOut 47 = .ok (.iadd, 1) := by decide +kernel
theorem dX0_dryOut_48 : decode cX0_dryOut 48 = .ok (.iload 4, 2) := by decide +kernel
theorem dX0_dryOut_50 : decode cX0_dryOut 50 = .ok (.iload_n 3, 1) := by decide +kernel
theorem dX0_dryOut_51 : decode cX0_dryOut 51 = .ok (.isub, 1) := by decide +kernel
theorem dX0_dryOut_52 : decode cX0_dryOut 52 = .ok (.invokevirtual 23, 3) := by decide +kernel
theorem dX0_dryOut_55 : decode cX0_dryOut 55 = .ok (.aload_n 0, 1) := by decide +kernel
theorem dX0_dryOut_56 : decode cX0_dryOut 56 = .ok (.bipush 117, 2) := by decide +kernel
theorem dX0_dryOut_58 : decode cX0_dryOut 58 = .ok (.iload_n 1, 1) := by decide +kernel
theorem dX0_dryOut_59 : decode cX0_dryOut 59 = .ok (.iadd, 1) := by decide +kernel
theorem dX0_dryOut_60 : decode cX0_dryOut 60 = .ok (.iload_n 3, 1) := by decide +kernel
theorem dX0_dryOut_61 : decode cX0_dryOut 61 = .ok (.invokevirtual 23, 3) := by decide +kernel
theorem dX0_dryOut_64 : decode cX0_dryOut 64 = .ok (.return_, 1) := by decide +kernel
theorem dX0_halfRoundedUp_0 : decode cX0_halfRoundedUp 0 = .ok (.iload_n 0, 1) := by decide +kernel
theorem dX0_halfRoundedUp_1 : decode cX0_halfRoundedUp 1 = .ok (.iconst 1, 1) := by decide +kernel
theorem dX0_halfRoundedUp_2 : decode cX0_halfRoundedUp 2 = .ok (.iadd, 1) := by decide +kernel
theorem dX0_halfRoundedUp_3 : decode cX0_halfRoundedUp 3 = .ok (.iconst 2, 1) := by decide +kernel
theorem dX0_halfRoundedUp_4 : decode cX0_halfRoundedUp 4 = .ok (.idiv, 1) := by decide +kernel
theorem dX0_halfRoundedUp_5 : decode cX0_halfRoundedUp 5 = .ok (.ireturn, 1) := by decide +kernel
set_option maxRecDepth 20000 in
theorem ggX0_goCarts_X0_at : GoodIn wsX0_goCarts wsX0_at := goodIn_r _ [5, 6, 34] (by decide +kernel) (by decide +kernel)
set_option maxRecDepth 20000 in
theorem gX0_goCarts_X0_at : GoodIn wsX0_goCarts (wsV RX0 30 RX0 yX0_at wsX0_at) := goodIn_app (goodIn_of _ (by decide +kernel)) ggX0_goCarts_X0_at
set_option maxRecDepth 20000 in
theorem ggX0_goCarts_J9_floorMod_7cf53 : GoodIn wsX0_goCarts wsJ9_floorMod_7cf53 := goodIn_r _ [10] (by decide +kernel) (by decide +kernel)
set_option maxRecDepth 20000 in
theorem gX0_goCarts_J9_floorMod_7cf53 : GoodIn wsX0_goCarts (va_wsS RX0 44 yJ9_floorMod_7cf53 wsJ9_floorMod_7cf53) := goodIn_app (goodIn_of _ (by decide +kernel)) ggX0_goCarts_J9_floorMod_7cf53
set_option maxRecDepth 20000 in
theorem ggX0_goCarts_X0_cartHome : GoodIn wsX0_goCarts wsX0_cartHome := goodIn_r _ [14, 15, 16, 17, 18, 19, 20, 4, 21, 1, 2, 3, 5, 6, 22, 23, 24, 25, 26, 27, 28, 29, 30, 31, 32, 33, 34] (by decide +kernel) (by decide +kernel)
set_option maxRecDepth 20000 in
theorem gX0_goCarts_X0_cartHome : GoodIn wsX0_goCarts (wsV RX0 81 RX0 yX0_cartHome wsX0_cartHome) := goodIn_app (goodIn_of _ (by decide +kernel)) ggX0_goCarts_X0_cartHome
theorem dX0_goCarts_0 : decode cX0_goCarts 0 = .ok (.aload_n 0, 1) := by decide +kernel
theorem dX0_goCarts_1 : decode cX0_goCarts 1 = .ok (.iconst 0, 1) := by decide +kernel
theorem dX0_goCarts_2 : decode cX0_goCarts 2 = .ok (.invokevirtual 30, 3) := by decide +kernel
theorem dX0_goCarts_5 : decode cX0_goCarts 5 = .ok (.iconst 5, 1) := by decide +kernel
theorem dX0_goCarts_6 : decode cX0_goCarts 6 = .ok (.invokestatic 44, 3) := by decide +kernel
theorem dX0_goCarts_9 : decode cX0_goCarts 9 = .ok (.istore_n 1, 1) := by decide +kernel
theorem dX0_goCarts_10 : decode cX0_goCarts 10 = .ok (.iconst 0, 1) := by decide +kernel
theorem dX0_goCarts_11 : decode cX0_goCarts 11 = .ok (.istore_n 2, 1) := by decide +kernel
theorem dX0_goCarts_12 : decode cX0_goCarts 12 = .ok (.iconst 0, 1) := by decide +kernel
theorem dX0_goCarts_13 : decode cX0_goCarts 13 = .ok (.istore_n 3, 1) := by decide +kernel
theorem dX0_goCarts_14 : decode cX0_goCarts 14 = .ok (.iload_n 3, 1) := by decide +kernel
theorem dX0_goCarts_15 : decode cX0_goCarts 15 = .ok (.iconst 4, 1) := by decide +kernel
theorem dX0_goCarts_16 : decode cX0_goCarts 16 = .ok (.if_icmp .ge 61, 3) := by decide +kernel
theorem dX0_goCarts_19 : decode cX0_goCarts 19 = .ok (.aload_n 0, 1) := by decide +kernel
theorem dX0_goCarts_20 : decode cX0_goCarts 20 = .ok (.bipush 49, 2) := by decide +kernel
theorem dX0_goCarts_22 : decode cX0_goCarts 22 = .ok (.iload_n 3, 1) := by decide +kernel
theorem dX0_goCarts_23 : decode cX0_goCarts 23 = .ok (.iadd, 1) := by decide +kernel
theorem dX0_goCarts_24 : decode cX0_goCarts 24 = .ok (.invokevirtual 30, 3) := by decide +kernel
theorem dX0_goCarts_27 : decode cX0_goCarts 27 = .ok (.istore 4, 2) := by decide +kernel
theorem dX0_goCarts_29 : decode cX0_goCarts 29 = .ok (.iconst 0, 1) := by decide +kernel
theorem dX0_goCarts_30 : decode cX0_goCarts 30 = .ok (.istore 5, 2) := by decide +kernel
theorem dX0_goCarts_32 : decode cX0_goCarts 32 = .ok (.iload 5, 2) := by decide +kernel
theorem dX0_goCarts_34 : decode cX0_goCarts 34 = .ok (.iconst 5, 1) := by decide +kernel
theorem dX0_goCarts_35 : decode cX0_goCarts 35 = .ok (.if_icmp .ge 36, 3) := by decide +kernel
theorem dX0_goCarts_38 : decode cX0_goCarts 38 = .ok (.aload_n 0, 1) := by decide +kernel
theorem dX0_goCarts_39 : decode cX0_goCarts 39 = .ok (.iload_n 1, 1) := by decide +kernel
theorem dX0_goCarts_40 : decode cX0_goCarts 40 = .ok (.iload 5, 2) := by decide +kernel
theorem dX0_goCarts_42 : decode cX0_goCarts 42 = .ok (.iadd, 1) := by decide +kernel
theorem dX0_goCarts_43 : decode cX0_goCarts 43 = .ok (.iconst 5, 1) := by decide +kernel
theorem dX0_goCarts_44 : decode cX0_goCarts 44 = .ok (.irem, 1) := by decide +kernel
theorem dX0_goCarts_45 : decode cX0_goCarts 45 = .ok (.iload_n 3, 1) := by decide +kernel
theorem dX0_goCarts_46 : decode cX0_goCarts 46 = .ok (.iload 4, 2) := by decide +kernel
theorem dX0_goCarts_48 : decode cX0_goCarts 48 = .ok (.invokevirtual 81, 3) := by decide +kernel
theorem dX0_goCarts_51 : decode cX0_goCarts 51 = .ok (.istore 6, 2) := by decide +kernel
theorem dX0_goCarts_53 : decode cX0_goCarts 53 = .ok (.iload 4, 2) := by decide +kernel
theorem dX0_goCarts_55 : decode cX0_goCarts 55 = .ok (.iload 6, 2) := by decide +kernel
theorem dX0_goCarts_57 : decode cX0_goCarts 57 = .ok (.isub, 1) := by decide +kernel
theorem dX0_goCarts_58 : decode cX0_goCarts 58 = .ok (.istore 4, 2) := by decide +kernel
theorem dX0_goCarts_60 : decode cX0_goCarts 60 = .ok (.iload_n 2, 1) := by decide +kernel
theorem dX0_goCarts_61 : decode cX0_goCarts 61 = .ok (.iload 6, 2) := by decide +kernel
theorem dX0_goCarts_63 : decode cX0_goCarts 63 = .ok (.iadd, 1) := by decide +kernel
theorem dX0_goCarts_64 : decode cX0_goCarts 64 = .ok (.istore_n 2, 1) := by decide +kernel
theorem dX0_goCarts_65 : decode cX0_goCarts 65 = .ok (.iinc 5 1, 3) := by decide +kernel
theorem dX0_goCarts_68 : decode cX0_goCarts 68 = .ok (.goto (-36), 3) := by decide +kernel
theorem dX0_goCarts_71 : decode cX0_goCarts 71 = .ok (.iinc 3 1, 3) := by decide +kernel
theorem dX0_goCarts_74 : decode cX0_goCarts 74 = .ok (.goto (-60), 3) := by decide +kernel
theorem dX0_goCarts_77 : decode cX0_goCarts 77 = .ok (.iload_n 2, 1) := by decide +kernel
theorem dX0_goCarts_78 : decode cX0_goCarts 78 = .ok (.ireturn, 1) := by decide +kernel
set_option maxRecDepth 20000 in
theorem ggX0_cartHome_X0_plotOf : GoodIn wsX0_cartHome wsX0_plotOf := goodIn_r _ [8] (by decide +kernel) (by decide +kernel)
set_option maxRecDepth 20000 in
theorem gX0_cartHome_X0_plotOf : GoodIn wsX0_cartHome (va_wsS RX0 19 yX0_plotOf wsX0_plotOf) := goodIn_app (goodIn_of _ (by decide +kernel)) ggX0_cartHome_X0_plotOf
set_option maxRecDepth 20000 in
theorem ggX0_cartHome_X0_at : GoodIn wsX0_cartHome wsX0_at := goodIn_r _ [12, 13, 26] (by decide +kernel) (by decide +kernel)
set_option maxRecDepth 20000 in
theorem gX0_cartHome_X0_at : GoodIn wsX0_cartHome (wsV RX0 30 RX0 yX0_at wsX0_at) := goodIn_app (goodIn_of _ (by decide +kernel)) ggX0_cartHome_X0_at
set_option maxRecDepth 20000 in
theorem ggX0_cartHome_X0_add : GoodIn wsX0_cartHome wsX0_add := goodIn_r _ [17, 9, 10, 11, 7, 12, 13, 18, 19, 20, 21, 26] (by decide +kernel) (by decide +kernel)
set_option maxRecDepth 20000 in
theorem gX0_cartHome_X0_add : GoodIn wsX0_cartHome (wsV RX0 23 RX0 yX0_add wsX0_add) := goodIn_app (goodIn_of _ (by decide +kernel)) ggX0_cartHome_X0_add
set_option maxRecDepth 20000 in
theorem ggX0_cartHome_X0_poorestWidow : GoodIn wsX0_cartHome wsX0_poorestWidow := goodIn_r _ [25, 9, 10, 11, 7, 12, 13, 26] (by decide +kernel) (by decide +kernel)
set_option maxRecDepth 20000 in
theorem gX0_cartHome_X0_poorestWidow : GoodIn wsX0_cartHome (wsV RX0 84 RX0 yX0_poorestWidow wsX0_poorestWidow) := goodIn_app (goodIn_of _ (by decide +kernel)) ggX0_cartHome_X0_poorestWidow
theorem dX0_cartHome_0 : decode cX0_cartHome 0 = .ok (.aload_n 0, 1) := by decide +kernel
theorem dX0_cartHome_1 : decode cX0_cartHome 1 = .ok (.bipush 117, 2) := by decide +kernel
theorem dX0_cartHome_3 : decode cX0_cartHome 3 = .ok (.iload_n 1, 1) := by decide +kernel
theorem dX0_cartHome_4 : decode cX0_cartHome 4 = .ok (.iload_n 2, 1) := by decide +kernel
theorem dX0_cartHome_5 : decode cX0_cartHome 5 = .ok (.invokestatic 19, 3) := by decide +kernel
theorem dX0_cartHome_8 : decode cX0_cartHome 8 = .ok (.iadd, 1) := by decide +kernel
theorem dX0_cartHome_9 : decode cX0_cartHome 9 = .ok (.invokevirtual 30, 3) := by decide +kernel
theorem dX0_cartHome_12 : decode cX0_cartHome 12 = .ok (.iload_n 3, 1) := by decide +kernel
theorem dX0_cartHome_13 : decode cX0_cartHome 13 = .ok (.invokestatic 65, 3) := by decide +kernel
theorem dX0_cartHome_16 : decode cX0_cartHome 16 = .ok (.istore 4, 2) := by decide +kernel
theorem dX0_cartHome_18 : decode cX0_cartHome 18 = .ok (.iload 4, 2) := by decide +kernel
theorem dX0_cartHome_20 : decode cX0_cartHome 20 = .ok (.ifCond .ne 5, 3) := by decide +kernel
theorem dX0_cartHome_23 : decode cX0_cartHome 23 = .ok (.iconst 0, 1) := by decide +kernel
theorem dX0_cartHome_24 : decode cX0_cartHome 24 = .ok (.ireturn, 1) := by decide +kernel
theorem dX0_cartHome_25 : decode cX0_cartHome 25 = .ok (.aload_n 0, 1) := by decide +kernel
theorem dX0_cartHome_26 : decode cX0_cartHome 26 = .ok (.bipush 117, 2) := by decide +kernel
theorem dX0_cartHome_28 : decode cX0_cartHome 28 = .ok (.iload_n 1, 1) := by decide +kernel
theorem dX0_cartHome_29 : decode cX0_cartHome 29 = .ok (.iload_n 2, 1) := by decide +kernel
theorem dX0_cartHome_30 : decode cX0_cartHome 30 = .ok (.invokestatic 19, 3) := by decide +kernel
theorem dX0_cartHome_33 : decode cX0_cartHome 33 = .ok (.iadd, 1) := by decide +kernel
theorem dX0_cartHome_34 : decode cX0_cartHome 34 = .ok (.iload 4, 2) := by decide +kernel
theorem dX0_cartHome_36 : decode cX0_cartHome 36 = .ok (.ineg, 1) := by decide +kernel
theorem dX0_cartHome_37 : decode cX0_cartHome 37 = .ok (.invokevirtual 23, 3) := by decide +kernel
theorem dX0_cartHome_40 : decode cX0_cartHome 40 = .ok (.aload_n 0, 1) := by decide +kernel
theorem dX0_cartHome_41 : decode cX0_cartHome 41 = .ok (.bipush 15, 2) := by decide +kernel
theorem dX0_cartHome_43 : decode cX0_cartHome 43 = .ok (.iload_n 1, 1) := by decide +kernel
theorem dX0_cartHome_44 : decode cX0_cartHome 44 = .ok (.iadd, 1) := by decide +kernel
theorem dX0_cartHome_45 : decode cX0_cartHome 45 = .ok (.iload 4, 2) := by decide +kernel
theorem dX0_cartHome_47 : decode cX0_cartHome 47 = .ok (.invokevirtual 23, 3) := by decide +kernel
theorem dX0_cartHome_50 : decode cX0_cartHome 50 = .ok (.aload_n 0, 1) := by decide +kernel
theorem dX0_cartHome_51 : decode cX0_cartHome 51 = .ok (.iconst 5, 1) := by decide +kernel
theorem dX0_cartHome_52 : decode cX0_cartHome 52 = .ok (.iload_n 1, 1) := by decide +kernel
theorem dX0_cartHome_53 : decode cX0_cartHome 53 = .ok (.iadd, 1) := by decide +kernel
theorem dX0_cartHome_54 : decode cX0_cartHome 54 = .ok (.invokevirtual 30, 3) := by decide +kernel
theorem dX0_cartHome_57 : decode cX0_cartHome 57 = .ok (.iconst 1, 1) := by decide +kernel
theorem dX0_cartHome_58 : decode cX0_cartHome 58 = .ok (.if_icmp .ne 7, 3) := by decide +kernel
theorem dX0_cartHome_61 : decode cX0_cartHome 61 = .ok (.iconst (-1), 1) := by decide +kernel
theorem dX0_cartHome_62 : decode cX0_cartHome 62 = .ok (.goto 7, 3) := by decide +kernel
theorem dX0_cartHome_65 : decode cX0_cartHome 65 = .ok (.aload_n 0, 1) := by decide +kernel
theorem dX0_cartHome_66 : decode cX0_cartHome 66 = .ok (.invokevirtual 84, 3) := by decide +kernel
theorem dX0_cartHome_69 : decode cX0_cartHome 69 = .ok (.istore 5, 2) := by decide +kernel
theorem dX0_cartHome_71 : decode cX0_cartHome 71 = .ok (.iload 5, 2) := by decide +kernel
theorem dX0_cartHome_73 : decode cX0_cartHome 73 = .ok (.iconst (-1), 1) := by decide +kernel
theorem dX0_cartHome_74 : decode cX0_cartHome 74 = .ok (.if_icmp .eq 59, 3) := by decide +kernel
theorem dX0_cartHome_77 : decode cX0_cartHome 77 = .ok (.iload 4, 2) := by decide +kernel
theorem dX0_cartHome_79 : decode cX0_cartHome 79 = .ok (.aload_n 0, 1) := by decide +kernel
theorem dX0_cartHome_80 : decode cX0_cartHome 80 = .ok (.iconst 3, 1) := by decide +kernel
theorem dX0_cartHome_81 : decode cX0_cartHome 81 = .ok (.invokevirtual 30, 3) := by decide +kernel
theorem dX0_cartHome_84 : decode cX0_cartHome 84 = .ok (.imul, 1) := by decide +kernel
theorem dX0_cartHome_85 : decode cX0_cartHome 85 = .ok (.bipush 100, 2) := by decide +kernel
theorem dX0_cartHome_87 : decode cX0_cartHome 87 = .ok (.idiv, 1) := by decide +kernel
theorem dX0_cartHome_88 : decode cX0_cartHome 88 = .ok (.istore 6, 2) := by decide +kernel
theorem dX0_cartHome_90 : decode cX0_cartHome 90 = .ok (.aload_n 0, 1) := by decide +kernel
theorem dX0_cartHome_91 : decode cX0_cartHome 91 = .ok (.bipush 15, 2) := by decide +kernel
theorem dX0_cartHome_93 : decode cX0_cartHome 93 = .ok (.iload_n 1, 1) := by decide +kernel
theorem dX0_cartHome_94 : decode cX0_cartHome 94 = .ok (.iadd, 1) := by decide +kernel
theorem dX0_cartHome_95 : decode cX0_cartHome 95 = .ok (.iload 6, 2) := by decide +kernel
theorem dX0_cartHome_97 : decode cX0_cartHome 97 = .ok (.ineg, 1) := by decide +kernel
theorem dX0_cartHome_98 : decode cX0_cartHome 98 = .ok (.invokevirtual 23, 3) := by decide +kernel
theorem dX0_cartHome_101 : decode cX0_cartHome 101 = .ok (.aload_n 0, 1) := by decide +kernel
theorem dX0_cartHome_102 : decode cX0_cartHome 102 = .ok (.bipush 30, 2) := by decide +kernel
theorem dX0_cartHome_104 : decode cX0_cartHome 104 = .ok (.iload_n 1, 1) := by decide +kernel
theorem dX0_cartHome_105 : decode cX0_cartHome 105 = .ok (.iadd, 1) := by decide +kernel
theorem dX0_cartHome_106 : decode cX0_cartHome 106 = .ok (.iload 6, 2) := by decide +kernel
theorem dX0_cartHome_108 : decode cX0_cartHome 108 = .ok (.invokevirtual 23, 3) := by decide +kernel
theorem dX0_cartHome_111 : decode cX0_cartHome 111 = .ok (.aload_n 0, 1) := by decide +kernel
theorem dX0_cartHome_112 : decode cX0_cartHome 112 = .ok (.bipush 15, 2) := by decide +kernel
theorem dX0_cartHome_114 : decode cX0_cartHome 114 = .ok (.iload 5, 2) := by decide +kernel
theorem dX0_cartHome_116 : decode cX0_cartHome 116 = .ok (.iadd, 1) := by decide +kernel
theorem dX0_cartHome_117 : decode cX0_cartHome 117 = .ok (.iload 6, 2) := by decide +kernel
theorem dX0_cartHome_119 : decode cX0_cartHome 119 = .ok (.invokevirtual 23, 3) := by decide +kernel
theorem dX0_cartHome_122 : decode cX0_cartHome 122 = .ok (.aload_n 0, 1) := by decide +kernel
theorem dX0_cartHome_123 : decode cX0_cartHome 123 = .ok (.bipush 25, 2) := by decide +kernel
theorem dX0_cartHome_125 : decode cX0_cartHome 125 = .ok (.iload 5, 2) := by decide +kernel
theorem dX0_cartHome_127 : decode cX0_cartHome 127 = .ok (.iadd, 1) := by decide +kernel
theorem dX0_cartHome_128 : decode cX0_cartHome 128 = .ok (.iload 6, 2) := by decide +kernel
theorem dX0_cartHome_130 : decode cX0_cartHome 130 = .ok (.invokevirtual 23, 3) := by decide +kernel
theorem dX0_cartHome_133 : decode cX0_cartHome 133 = .ok (.iload 4, 2) := by decide +kernel
theorem dX0_cartHome_135 : decode cX0_cartHome 135 = .ok (.ireturn, 1) := by decide +kernel
set_option maxRecDepth 20000 in
theorem ggX0_poorestWidow_X0_at : GoodIn wsX0_poorestWidow wsX0_at := goodIn_r _ [5, 6, 7] (by decide +kernel) (by decide +kernel)
set_option maxRecDepth 20000 in
theorem gX0_poorestWidow_X0_at : GoodIn wsX0_poorestWidow (wsV RX0 30 RX0 yX0_at wsX0_at) := goodIn_app (goodIn_of _ (by decide +kernel)) ggX0_poorestWidow_X0_at
theorem dX0_poorestWidow_0 : decode cX0_poorestWidow 0 = .ok (.iconst (-1), 1) := by decide +kernel
theorem dX0_poorestWidow_1 : decode cX0_poorestWidow 1 = .ok (.istore_n 1, 1) := by decide +kernel
theorem dX0_poorestWidow_2 : decode cX0_poorestWidow 2 = .ok (.iconst 0, 1) := by decide +kernel
theorem dX0_poorestWidow_3 : decode cX0_poorestWidow 3 = .ok (.istore_n 2, 1) := by decide +kernel
theorem dX0_poorestWidow_4 : decode cX0_poorestWidow 4 = .ok (.iload_n 2, 1) := by decide +kernel
theorem dX0_poorestWidow_5 : decode cX0_poorestWidow 5 = .ok (.iconst 5, 1) := by decide +kernel
theorem dX0_poorestWidow_6 : decode cX0_poorestWidow 6 = .ok (.if_icmp .ge 46, 3) := by decide +kernel
theorem dX0_poorestWidow_9 : decode cX0_poorestWidow 9 = .ok (.aload_n 0, 1) := by decide +kernel
theorem dX0_poorestWidow_10 : decode cX0_poorestWidow 10 = .ok (.iconst 5, 1) := by decide +kernel
theorem dX0_poorestWidow_11 : decode cX0_poorestWidow 11 = .ok (.iload_n 2, 1) := by decide +kernel
theorem dX0_poorestWidow_12 : decode cX0_poorestWidow 12 = .ok (.iadd, 1) := by decide +kernel
theorem dX0_poorestWidow_13 : decode cX0_poorestWidow 13 = .ok (.invokevirtual 30, 3) := by decide +kernel
theorem dX0_poorestWidow_16 : decode cX0_poorestWidow 16 = .ok (.iconst 1, 1) := by decide +kernel
theorem dX0_poorestWidow_17 : decode cX0_poorestWidow 17 = .ok (.if_icmp .ne 29, 3) := by decide +kernel
theorem dX0_poorestWidow_20 : decode cX0_poorestWidow 20 = .ok (.iload_n 1, 1) := by decide +kernel
theorem dX0_poorestWidow_21 : decode cX0_poorestWidow 21 = .ok (.iconst (-1), 1) := by decide +kernel
theorem dX0_poorestWidow_22 : decode cX0_poorestWidow 22 = .ok (.if_icmp .eq 22, 3) := by decide +kernel
theorem dX0_poorestWidow_25 : decode cX0_poorestWidow 25 = .ok (.aload_n 0, 1) := by decide +kernel
theorem dX0_poorestWidow_26 : decode cX0_poorestWidow 26 = .ok (.bipush 15, 2) := by decide +kernel
theorem dX0_poorestWidow_28 : decode cX0_poorestWidow 28 = .ok (.iload_n 2, 1) := by decide +kernel
theorem dX0_poorestWidow_29 : decode cX0_poorestWidow 29 = .ok (.iadd, 1) := by decide +kernel
theorem dX0_poorestWidow_30 : decode cX0_poorestWidow 30 = .ok (.invokevirtual 30, 3) := by decide +kernel
theorem dX0_poorestWidow_33 : decode cX0_poorestWidow 33 = .ok (.aload_n 0, 1) := by decide +kernel
theorem dX0_poorestWidow_34 : decode cX0_poorestWidow 34 = .ok (.bipush 15, 2) := by decide +kernel
theorem dX0_poorestWidow_36 : decode cX0_poorestWidow 36 = .ok (.iload_n 1, 1) := by decide +kernel
theorem dX0_poorestWidow_37 : decode cX0_poorestWidow 37 = .ok (.iadd, 1) := by decide +kernel
theorem dX0_poorestWidow_38 : decode cX0_poorestWidow 38 = .ok (.invokevirtual 30, 3) := by decide +kernel
theorem dX0_poorestWidow_41 : decode cX0_poorestWidow 41 = .ok (.if_icmp .ge 5, 3) := by decide +kernel
theorem dX0_poorestWidow_44 : decode cX0_poorestWidow 44 = .ok (.iload_n 2, 1) := by decide +kernel
theorem dX0_poorestWidow_45 : decode cX0_poorestWidow 45 = .ok (.istore_n 1, 1) := by decide +kernel
theorem dX0_poorestWidow_46 : decode cX0_poorestWidow 46 = .ok (.iinc 2 1, 3) := by decide +kernel
theorem dX0_poorestWidow_49 : decode cX0_poorestWidow 49 = .ok (.goto (-45), 3) := by decide +kernel
theorem dX0_poorestWidow_52 : decode cX0_poorestWidow 52 = .ok (.iload_n 1, 1) := by decide +kernel
theorem dX0_poorestWidow_53 : decode cX0_poorestWidow 53 = .ok (.ireturn, 1) := by decide +kernel
set_option maxRecDepth 20000 in
theorem ggX0_burn_X0_at : GoodIn wsX0_burn wsX0_at := goodIn_r _ [9, 10, 19] (by decide +kernel) (by decide +kernel)
set_option maxRecDepth 20000 in
theorem gX0_burn_X0_at : GoodIn wsX0_burn (wsV RX0 30 RX0 yX0_at wsX0_at) := goodIn_app (goodIn_of _ (by decide +kernel)) ggX0_burn_X0_at
set_option maxRecDepth 20000 in
theorem ggX0_burn_X0_add : GoodIn wsX0_burn wsX0_add := goodIn_r _ [14, 5, 6, 7, 8, 9, 10, 15, 16, 17, 18, 19] (by decide +kernel) (by decide +kernel)
set_option maxRecDepth 20000 in
theorem gX0_burn_X0_add : GoodIn wsX0_burn (wsV RX0 23 RX0 yX0_add wsX0_add) := goodIn_app (goodIn_of _ (by decide +kernel)) ggX0_burn_X0_add
theorem dX0_burn_0 : decode cX0_burn 0 = .ok (.iconst 0, 1) := by decide +kernel
theorem dX0_burn_1 : decode cX0_burn 1 = .ok (.istore_n 1, 1) := by decide +kernel
theorem dX0_burn_2 : decode cX0_burn 2 = .ok (.iload_n 1, 1) := by decide +kernel
theorem dX0_burn_3 : decode cX0_burn 3 = .ok (.iconst 5, 1) := by decide +kernel
theorem dX0_burn_4 : decode cX0_burn 4 = .ok (.if_icmp .ge 58, 3) := by decide +kernel
theorem dX0_burn_7 : decode cX0_burn 7 = .ok (.aload_n 0, 1) := by decide +kernel
theorem dX0_burn_8 : decode cX0_burn 8 = .ok (.iconst 4, 1) := by decide +kernel
theorem dX0_burn_9 : decode cX0_burn 9 = .ok (.invokevirtual 30, 3) := by decide +kernel
theorem dX0_burn_12 : decode cX0_burn 12 = .ok (.istore_n 2, 1) := by decide +kernel
theorem dX0_burn_13 : decode cX0_burn 13 = .ok (.iload_n 2, 1) := by decide +kernel
theorem dX0_burn_14 : decode cX0_burn 14 = .ok (.aload_n 0, 1) := by decide +kernel
theorem dX0_burn_15 : decode cX0_burn 15 = .ok (.bipush 15, 2) := by decide +kernel
theorem dX0_burn_17 : decode cX0_burn 17 = .ok (.iload_n 1, 1) := by decide +kernel
theorem dX0_burn_18 : decode cX0_burn 18 = .ok (.iadd, 1) := by decide +kernel
theorem dX0_burn_19 : decode cX0_burn 19 = .ok (.invokevirtual 30, 3) := by decide +kernel
theorem dX0_burn_22 : decode cX0_burn 22 = .ok (.invokestatic 65, 3) := by decide +kernel
theorem dX0_burn_25 : decode cX0_burn 25 = .ok (.istore_n 3, 1) := by decide +kernel
theorem dX0_burn_26 : decode cX0_burn 26 = .ok (.aload_n 0, 1) := by decide +kernel
theorem dX0_burn_27 : decode cX0_burn 27 = .ok (.bipush 15, 2) := by decide +kernel
theorem dX0_burn_29 : decode cX0_burn 29 = .ok (.iload_n 1, 1) := by decide +kernel
theorem dX0_burn_30 : decode cX0_burn 30 = .ok (.iadd, 1) := by decide +kernel
theorem dX0_burn_31 : decode cX0_burn 31 = .ok (.iload_n 3, 1) := by decide +kernel
theorem dX0_burn_32 : decode cX0_burn 32 = .ok (.ineg, 1) := by decide +kernel
theorem dX0_burn_33 : decode cX0_burn 33 = .ok (.invokevirtual 23, 3) := by decide +kernel
theorem dX0_burn_36 : decode cX0_burn 36 = .ok (.aload_n 0, 1) := by decide +kernel
theorem dX0_burn_37 : decode cX0_burn 37 = .ok (.bipush 35, 2) := by decide +kernel
theorem dX0_burn_39 : decode cX0_burn 39 = .ok (.iload_n 1, 1) := by decide +kernel
theorem dX0_burn_40 : decode cX0_burn 40 = .ok (.iadd, 1) := by decide +kernel
theorem dX0_burn_41 : decode cX0_burn 41 = .ok (.iload_n 3, 1) := by decide +kernel
theorem dX0_burn_42 : decode cX0_burn 42 = .ok (.invokevirtual 23, 3) := by decide +kernel
theorem dX0_burn_45 : decode cX0_burn 45 = .ok (.aload_n 0, 1) := by decide +kernel
theorem dX0_burn_46 : decode cX0_burn 46 = .ok (.bipush 40, 2) := by decide +kernel
theorem dX0_burn_48 : decode cX0_burn 48 = .ok (.iload_n 1, 1) := by decide +kernel
theorem dX0_burn_49 : decode cX0_burn 49 = .ok (.iadd, 1) := by decide +kernel
theorem dX0_burn_50 : decode cX0_burn 50 = .ok (.iload_n 2, 1) := by decide +kernel
theorem dX0_burn_51 : decode cX0_burn 51 = .ok (.iload_n 3, 1) := by decide +kernel
theorem dX0_burn_52 : decode cX0_burn 52 = .ok (.isub, 1) := by decide +kernel
theorem dX0_burn_53 : decode cX0_burn 53 = .ok (.invokevirtual 23, 3) := by decide +kernel
theorem dX0_burn_56 : decode cX0_burn 56 = .ok (.iinc 1 1, 3) := by decide +kernel
theorem dX0_burn_59 : decode cX0_burn 59 = .ok (.goto (-57), 3) := by decide +kernel
theorem dX0_burn_62 : decode cX0_burn 62 = .ok (.return_, 1) := by decide +kernel
set_option maxRecDepth 20000 in
theorem ggX0_turvesOn_X0_at : GoodIn wsX0_turvesOn wsX0_at := goodIn_r _ [5, 6, 7] (by decide +kernel) (by decide +kernel)
set_option maxRecDepth 20000 in
theorem gX0_turvesOn_X0_at : GoodIn wsX0_turvesOn (wsV RX0 30 RX0 yX0_at wsX0_at) := goodIn_app (goodIn_of _ (by decide +kernel)) ggX0_turvesOn_X0_at
theorem dX0_turvesOn_0 : decode cX0_turvesOn 0 = .ok (.iconst 0, 1) := by decide +kernel
theorem dX0_turvesOn_1 : decode cX0_turvesOn 1 = .ok (.istore 4, 2) := by decide +kernel
theorem dX0_turvesOn_3 : decode cX0_turvesOn 3 = .ok (.iconst 0, 1) := by decide +kernel
theorem dX0_turvesOn_4 : decode cX0_turvesOn 4 = .ok (.istore 5, 2) := by decide +kernel
theorem dX0_turvesOn_6 : decode cX0_turvesOn 6 = .ok (.iload 5, 2) := by decide +kernel
theorem dX0_turvesOn_8 : decode cX0_turvesOn 8 = .ok (.iload_n 3, 1) := by decide +kernel
theorem dX0_turvesOn_9 : decode cX0_turvesOn 9 = .ok (.if_icmp .ge 51, 3) := by decide +kernel
theorem dX0_turvesOn_12 : decode cX0_turvesOn 12 = .ok (.iload_n 1, 1) := by decide +kernel
theorem dX0_turvesOn_13 : decode cX0_turvesOn 13 = .ok (.iload 5, 2) := by decide +kernel
theorem dX0_turvesOn_15 : decode cX0_turvesOn 15 = .ok (.iload_n 2, 1) := by decide +kernel
theorem dX0_turvesOn_16 : decode cX0_turvesOn 16 = .ok (.imul, 1) := by decide +kernel
theorem dX0_turvesOn_17 : decode cX0_turvesOn 17 = .ok (.iadd, 1) := by decide +kernel
theorem dX0_turvesOn_18 : decode cX0_turvesOn 18 = .ok (.istore 6, 2) := by decide +kernel
theorem dX0_turvesOn_20 : decode cX0_turvesOn 20 = .ok (.iload 4, 2) := by decide +kernel
theorem dX0_turvesOn_22 : decode cX0_turvesOn 22 = .ok (.aload_n 0, 1) := by decide +kernel
theorem dX0_turvesOn_23 : decode cX0_turvesOn 23 = .ok (.bipush 77, 2) := by decide +kernel
theorem dX0_turvesOn_25 : decode cX0_turvesOn 25 = .ok (.iload 6, 2) := by decide +kernel
theorem dX0_turvesOn_27 : decode cX0_turvesOn 27 = .ok (.iadd, 1) := by decide +kernel
theorem dX0_turvesOn_28 : decode cX0_turvesOn 28 = .ok (.invokevirtual 30, 3) := by decide +kernel
theorem dX0_turvesOn_31 : decode cX0_turvesOn 31 = .ok (.aload_n 0, 1) := by decide +kernel
theorem dX0_turvesOn_32 : decode cX0_turvesOn 32 = .ok (.bipush 97, 2) := by decide +kernel
theorem dX0_turvesOn_34 : decode cX0_turvesOn 34 = .ok (.iload 6, 2) := by decide +kernel
theorem dX0_turvesOn_36 : decode cX0_turvesOn 36 = .ok (.iadd, 1) := by decide +kernel
theorem dX0_turvesOn_37 : decode cX0_turvesOn 37 = .ok (.invokevirtual 30, 3) := by decide +kernel
theorem dX0_turvesOn_40 : decode cX0_turvesOn 40 = .ok (.iadd, 1) := by decide +kernel
theorem dX0_turvesOn_41 : decode cX0_turvesOn 41 = .ok (.aload_n 0, 1) := by decide +kernel
theorem dX0_turvesOn_42 : decode cX0_turvesOn 42 = .ok (.bipush 117, 2) := by decide +kernel
theorem dX0_turvesOn_44 : decode cX0_turvesOn 44 = .ok (.iload 6, 2) := by decide +kernel
theorem dX0_turvesOn_46 : decode cX0_turvesOn 46 = .ok (.iadd, 1) := by decide +kernel
theorem dX0_turvesOn_47 : decode cX0_turvesOn 47 = .ok (.invokevirtual 30, 3) := by decide +kernel
theorem dX0_turvesOn_50 : decode cX0_turvesOn 50 = .ok (.iadd, 1) := by decide +kernel
theorem dX0_turvesOn_51 : decode cX0_turvesOn 51 = .ok (.iadd, 1) := by decide +kernel
theorem dX0_turvesOn_52 : decode cX0_turvesOn 52 = .ok (.istore 4, 2) := by decide +kernel
theorem dX0_turvesOn_54 : decode cX0_turvesOn 54 = .ok (.iinc 5 1, 3) := by decide +kernel
theorem dX0_turvesOn_57 : decode cX0_turvesOn 57 = .ok (.goto (-51), 3) := by decide +kernel
theorem dX0_turvesOn_60 : decode cX0_turvesOn 60 = .ok (.iload 4, 2) := by decide +kernel
theorem dX0_turvesOn_62 : decode cX0_turvesOn 62 = .ok (.ireturn, 1) := by decide +kernel
set_option maxRecDepth 20000 in
theorem ggX0_turvesOnBanks_X0_turvesOn : GoodIn wsX0_turvesOnBanks wsX0_turvesOn := goodIn_r _ [5, 6, 7, 8, 4, 9, 10, 11] (by decide +kernel) (by decide +kernel)
set_option maxRecDepth 20000 in
theorem gX0_turvesOnBanks_X0_turvesOn : GoodIn wsX0_turvesOnBanks (wsV RX0 68 RX0 yX0_turvesOn wsX0_turvesOn) := goodIn_app (goodIn_of _ (by decide +kernel)) ggX0_turvesOnBanks_X0_turvesOn
theorem dX0_turvesOnBanks_0 : decode cX0_turvesOnBanks 0 = .ok (.aload_n 0, 1) := by decide +kernel
theorem dX0_turvesOnBanks_1 : decode cX0_turvesOnBanks 1 = .ok (.iconst 0, 1) := by decide +kernel
theorem dX0_turvesOnBanks_2 : decode cX0_turvesOnBanks 2 = .ok (.iconst 1, 1) := by decide +kernel
theorem dX0_turvesOnBanks_3 : decode cX0_turvesOnBanks 3 = .ok (.bipush 20, 2) := by decide +kernel
theorem dX0_turvesOnBanks_5 : decode cX0_turvesOnBanks 5 = .ok (.invokevirtual 68, 3) := by decide +kernel
theorem dX0_turvesOnBanks_8 : decode cX0_turvesOnBanks 8 = .ok (.ireturn, 1) := by decide +kernel
set_option maxRecDepth 20000 in
theorem ggX0_shortBy_X0_at : GoodIn wsX0_shortBy wsX0_at := goodIn_r _ [9, 10, 11] (by decide +kernel) (by decide +kernel)
set_option maxRecDepth 20000 in
theorem gX0_shortBy_X0_at : GoodIn wsX0_shortBy (wsV RX0 30 RX0 yX0_at wsX0_at) := goodIn_app (goodIn_of _ (by decide +kernel)) ggX0_shortBy_X0_at
theorem dX0_shortBy_0 : decode cX0_shortBy 0 = .ok (.iconst 0, 1) := by decide +kernel
theorem dX0_shortBy_1 : decode cX0_shortBy 1 = .ok (.aload_n 0, 1) := by decide +kernel
theorem dX0_shortBy_2 : decode cX0_shortBy 2 = .ok (.bipush 10, 2) := by decide +kernel
theorem dX0_shortBy_4 : decode cX0_shortBy 4 = .ok (.iload_n 1, 1) := by decide +kernel
theorem dX0_shortBy_5 : decode cX0_shortBy 5 = .ok (.iadd, 1) := by decide +kernel
theorem dX0_shortBy_6 : decode cX0_shortBy 6 = .ok (.invokevirtual 30, 3) := by decide +kernel
theorem dX0_shortBy_9 : decode cX0_shortBy 9 = .ok (.aload_n 0, 1) := by decide +kernel
theorem dX0_shortBy_10 : decode cX0_shortBy 10 = .ok (.bipush 15, 2) := by decide +kernel
theorem dX0_shortBy_12 : decode cX0_shortBy 12 = .ok (.iload_n 1, 1) := by decide +kernel
theorem dX0_shortBy_13 : decode cX0_shortBy 13 = .ok (.iadd, 1) := by decide +kernel
theorem dX0_shortBy_14 : decode cX0_shortBy 14 = .ok (.invokevirtual 30, 3) := by decide +kernel
theorem dX0_shortBy_17 : decode cX0_shortBy 17 = .ok (.isub, 1) := by decide +kernel
theorem dX0_shortBy_18 : decode cX0_shortBy 18 = .ok (.invokestatic 87, 3) := by decide +kernel
theorem dX0_shortBy_21 : decode cX0_shortBy 21 = .ok (.ireturn, 1) := by decide +kernel
set_option maxRecDepth 20000 in
theorem ggX0_willBeShortBy_X0_at : GoodIn wsX0_willBeShortBy wsX0_at := goodIn_r _ [9, 10, 18] (by decide +kernel) (by decide +kernel)
set_option maxRecDepth 20000 in
theorem gX0_willBeShortBy_X0_at : GoodIn wsX0_willBeShortBy (wsV RX0 30 RX0 yX0_at wsX0_at) := goodIn_app (goodIn_of _ (by decide +kernel)) ggX0_willBeShortBy_X0_at
set_option maxRecDepth 20000 in
theorem ggX0_willBeShortBy_X0_plotOf : GoodIn wsX0_willBeShortBy wsX0_plotOf := goodIn_r _ [13] (by decide +kernel) (by decide +kernel)
set_option maxRecDepth 20000 in
theorem gX0_willBeShortBy_X0_plotOf : GoodIn wsX0_willBeShortBy (va_wsS RX0 19 yX0_plotOf wsX0_plotOf) := goodIn_app (goodIn_of _ (by decide +kernel)) ggX0_willBeShortBy_X0_plotOf
set_option maxRecDepth 20000 in
theorem ggX0_willBeShortBy_X0_turvesOn : GoodIn wsX0_willBeShortBy wsX0_turvesOn := goodIn_r _ [17, 5, 6, 7, 8, 9, 10, 18] (by decide +kernel) (by decide +kernel)
set_option maxRecDepth 20000 in
theorem gX0_willBeShortBy_X0_turvesOn : GoodIn wsX0_willBeShortBy (wsV RX0 68 RX0 yX0_turvesOn wsX0_turvesOn) := goodIn_app (goodIn_of _ (by decide +kernel)) ggX0_willBeShortBy_X0_turvesOn
theorem dX0_willBeShortBy_0 : decode cX0_willBeShortBy 0 = .ok (.iconst 0, 1) := by decide +kernel
theorem dX0_willBeShortBy_1 : decode cX0_willBeShortBy 1 = .ok (.aload_n 0, 1) := by decide +kernel
theorem dX0_willBeShortBy_2 : decode cX0_willBeShortBy 2 = .ok (.bipush 10, 2) := by decide +kernel
theorem dX0_willBeShortBy_4 : decode cX0_willBeShortBy 4 = .ok (.iload_n 1, 1) := by decide +kernel
theorem dX0_willBeShortBy_5 : decode cX0_willBeShortBy 5 = .ok (.iadd, 1) := by decide +kernel
theorem dX0_willBeShortBy_6 : decode cX0_willBeShortBy 6 = .ok (.invokevirtual 30, 3) := by decide +kernel
theorem dX0_willBeShortBy_9 : decode cX0_willBeShortBy 9 = .ok (.aload_n 0, 1) := by decide +kernel
theorem dX0_willBeShortBy_10 : decode cX0_willBeShortBy 10 = .ok (.bipush 15, 2) := by decide +kernel
theorem dX0_willBeShortBy_12 : decode cX0_willBeShortBy 12 = .ok (.iload_n 1, 1) := by decide +kernel
theorem dX0_willBeShortBy_13 : decode cX0_willBeShortBy 13 = .ok (.iadd, 1) := by decide +kernel
theorem dX0_willBeShortBy_14 : decode cX0_willBeShortBy 14 = .ok (.invokevirtual 30, 3) := by decide +kernel
theorem dX0_willBeShortBy_17 : decode cX0_willBeShortBy 17 = .ok (.isub, 1) := by decide +kernel
theorem dX0_willBeShortBy_18 : decode cX0_willBeShortBy 18 = .ok (.aload_n 0, 1) := by decide +kernel
theorem dX0_willBeShortBy_19 : decode cX0_willBeShortBy 19 = .ok (.iload_n 1, 1) := by decide +kernel
theorem dX0_willBeShortBy_20 : decode cX0_willBeShortBy 20 = .ok (.iconst 0, 1) := by decide +kernel
theorem dX0_willBeShortBy_21 : decode cX0_willBeShortBy 21 = .ok (.invokestatic 19, 3) := by decide +kernel
theorem dX0_willBeShortBy_24 : decode cX0_willBeShortBy 24 = .ok (.iconst 1, 1) := by decide +kernel
theorem dX0_willBeShortBy_25 : decode cX0_willBeShortBy 25 = .ok (.iconst 4, 1) := by decide +kernel
theorem dX0_willBeShortBy_26 : decode cX0_willBeShortBy 26 = .ok (.invokevirtual 68, 3) := by decide +kernel
theorem dX0_willBeShortBy_29 : decode cX0_willBeShortBy 29 = .ok (.isub, 1) := by decide +kernel
theorem dX0_willBeShortBy_30 : decode cX0_willBeShortBy 30 = .ok (.invokestatic 87, 3) := by decide +kernel
theorem dX0_willBeShortBy_33 : decode cX0_willBeShortBy 33 = .ok (.ireturn, 1) := by decide +kernel
set_option maxRecDepth 20000 in
theorem ggX0_willBeShortByTheBook_X0_at : GoodIn wsX0_willBeShortByTheBook wsX0_at := goodIn_r _ [9, 10, 11] (by decide +kernel) (by decide +kernel)
set_option maxRecDepth 20000 in
theorem gX0_willBeShortByTheBook_X0_at : GoodIn wsX0_willBeShortByTheBook (wsV RX0 30 RX0 yX0_at wsX0_at) := goodIn_app (goodIn_of _ (by decide +kernel)) ggX0_willBeShortByTheBook_X0_at
theorem dX0_willBeShortByTheBook_0 : decode cX0_willBeShortByTheBook 0 = .ok (.aload_n 0, 1) := by decide +kernel
theorem dX0_willBeShortByTheBook_1 : decode cX0_willBeShortByTheBook 1 = .ok (.bipush 20, 2) := by decide +kernel
theorem dX0_willBeShortByTheBook_3 : decode cX0_willBeShortByTheBook 3 = .ok (.iload_n 1, 1) := by decide +kernel
theorem dX0_willBeShortByTheBook_4 : decode cX0_willBeShortByTheBook 4 = .ok (.iadd, 1) := by decide +kernel
theorem dX0_willBeShortByTheBook_5 : decode cX0_willBeShortByTheBook 5 = .ok (.invokevirtual 30, 3) := by decide +kernel
theorem dX0_willBeShortByTheBook_8 : decode cX0_willBeShortByTheBook 8 = .ok (.aload_n 0, 1) := by decide +kernel
theorem dX0_willBeShortByTheBook_9 : decode cX0_willBeShortByTheBook 9 = .ok (.bipush 25, 2) := by decide +kernel
theorem dX0_willBeShortByTheBook_11 : decode cX0_willBeShortByTheBook 11 = .ok (.iload_n 1, 1) := by decide +kernel
theorem dX0_willBeShortByTheBook_12 : decode cX0_willBeShortByTheBook 12 = .ok (.iadd, 1) := by decide +kernel
theorem dX0_willBeShortByTheBook_13 : decode cX0_willBeShortByTheBook 13 = .ok (.invokevirtual 30, 3) := by decide +kernel
theorem dX0_willBeShortByTheBook_16 : decode cX0_willBeShortByTheBook 16 = .ok (.iadd, 1) := by decide +kernel
theorem dX0_willBeShortByTheBook_17 : decode cX0_willBeShortByTheBook 17 = .ok (.istore_n 2, 1) := by decide +kernel
theorem dX0_willBeShortByTheBook_18 : decode cX0_willBeShortByTheBook 18 = .ok (.aload_n 0, 1) := by decide +kernel
theorem dX0_willBeShortByTheBook_19 : decode cX0_willBeShortByTheBook 19 = .ok (.bipush 30, 2) := by decide +kernel
theorem dX0_willBeShortByTheBook_21 : decode cX0_willBeShortByTheBook 21 = .ok (.iload_n 1, 1) := by decide +kernel
theorem dX0_willBeShortByTheBook_22 : decode cX0_willBeShortByTheBook 22 = .ok (.iadd, 1) := by decide +kernel
theorem dX0_willBeShortByTheBook_23 : decode cX0_willBeShortByTheBook 23 = .ok (.invokevirtual 30, 3) := by decide +kernel
theorem dX0_willBeShortByTheBook_26 : decode cX0_willBeShortByTheBook 26 = .ok (.aload_n 0, 1) := by decide +kernel
theorem dX0_willBeShortByTheBook_27 : decode cX0_willBeShortByTheBook 27 = .ok (.bipush 35, 2) := by decide +kernel
theorem dX0_willBeShortByTheBook_29 : decode cX0_willBeShortByTheBook 29 = .ok (.iload_n 1, 1) := by decide +kernel
theorem dX0_willBeShortByTheBook_30 : decode cX0_willBeShortByTheBook 30 = .ok (.iadd, 1) := by decide +kernel
theorem dX0_willBeShortByTheBook_31 : decode cX0_willBeShortByTheBook 31 = .ok (.invokevirtual 30, 3) := by decide +kernel
theorem dX0_willBeShortByTheBook_34 : decode cX0_willBeShortByTheBook 34 = .ok (.iadd, 1) := by decide +kernel
theorem dX0_willBeShortByTheBook_35 : decode cX0_willBeShortByTheBook 35 = .ok (.istore_n 3, 1) := by decide +kernel
theorem dX0_willBeShortByTheBook_36 : decode cX0_willBeShortByTheBook 36 = .ok (.iconst 0, 1) := by decide +kernel
theorem dX0_willBeShortByTheBook_37 : decode cX0_willBeShortByTheBook 37 = .ok (.aload_n 0, 1) := by decide +kernel
theorem dX0_willBeShortByTheBook_38 : decode cX0_willBeShortByTheBook 38 = .ok (.bipush 10, 2) := by decide +kernel
theorem dX0_willBeShortByTheBook_40 : decode cX0_willBeShortByTheBook 40 = .ok (.iload_n 1, 1) := by decide +kernel
theorem dX0_willBeShortByTheBook_41 : decode cX0_willBeShortByTheBook 41 = .ok (.iadd, 1) := by decide +kernel
theorem dX0_willBeShortByTheBook_42 : decode cX0_willBeShortByTheBook 42 = .ok (.invokevirtual 30, 3) := by decide +kernel
theorem dX0_willBeShortByTheBook_45 : decode cX0_willBeShortByTheBook 45 = .ok (.iload_n 2, 1) := by decide +kernel
theorem dX0_willBeShortByTheBook_46 : decode cX0_willBeShortByTheBook 46 = .ok (.iload_n 3, 1) := by decide +kernel
theorem dX0_willBeShortByTheBook_47 : decode cX0_willBeShortByTheBook 47 = .ok (.isub, 1) := by decide +kernel
theorem dX0_willBeShortByTheBook_48 : decode cX0_willBeShortByTheBook 48 = .ok (.isub, 1) := by decide +kernel
theorem dX0_willBeShortByTheBook_49 : decode cX0_willBeShortByTheBook 49 = .ok (.invokestatic 87, 3) := by decide +kernel
theorem dX0_willBeShortByTheBook_52 : decode cX0_willBeShortByTheBook 52 = .ok (.ireturn, 1) := by decide +kernel
set_option maxRecDepth 20000 in
theorem ggX0_hearthsShort_X0_shortBy : GoodIn wsX0_hearthsShort wsX0_shortBy := goodIn_r _ [5, 6, 7, 8, 9, 10, 11, 12, 4, 13, 14, 15] (by decide +kernel) (by decide +kernel)
set_option maxRecDepth 20000 in
theorem gX0_hearthsShort_X0_shortBy : GoodIn wsX0_hearthsShort (wsV RX0 90 RX0 yX0_shortBy wsX0_shortBy) := goodIn_app (goodIn_of _ (by decide +kernel)) ggX0_hearthsShort_X0_shortBy
theorem dX0_hearthsShort_0 : decode cX0_hearthsShort 0 = .ok (.iconst 0, 1) := by decide +kernel
theorem dX0_hearthsShort_1 : decode cX0_hearthsShort 1 = .ok (.istore_n 1, 1) := by decide +kernel
theorem dX0_hearthsShort_2 : decode cX0_hearthsShort 2 = .ok (.iconst 0, 1) := by decide +kernel
theorem dX0_hearthsShort_3 : decode cX0_hearthsShort 3 = .ok (.istore_n 2, 1) := by decide +kernel
theorem dX0_hearthsShort_4 : decode cX0_hearthsShort 4 = .ok (.iload_n 2, 1) := by decide +kernel
theorem dX0_hearthsShort_5 : decode cX0_hearthsShort 5 = .ok (.iconst 5, 1) := by decide +kernel
theorem dX0_hearthsShort_6 : decode cX0_hearthsShort 6 = .ok (.if_icmp .ge 25, 3) := by decide +kernel
theorem dX0_hearthsShort_9 : decode cX0_hearthsShort 9 = .ok (.iload_n 1, 1) := by decide +kernel
theorem dX0_hearthsShort_10 : decode cX0_hearthsShort 10 = .ok (.aload_n 0, 1) := by decide +kernel
theorem dX0_hearthsShort_11 : decode cX0_hearthsShort 11 = .ok (.iload_n 2, 1) := by decide +kernel
theorem dX0_hearthsShort_12 : decode cX0_hearthsShort 12 = .ok (.invokevirtual 90, 3) := by decide +kernel
theorem dX0_hearthsShort_15 : decode cX0_hearthsShort 15 = .ok (.ifCond .le 7, 3) := by decide +kernel
theorem dX0_hearthsShort_18 : decode cX0_hearthsShort 18 = .ok (.iconst 1, 1) := by decide +kernel
theorem dX0_hearthsShort_19 : decode cX0_hearthsShort 19 = .ok (.goto 4, 3) := by decide +kernel
theorem dX0_hearthsShort_22 : decode cX0_hearthsShort 22 = .ok (.iconst 0, 1) := by decide +kernel
theorem dX0_hearthsShort_23 : decode cX0_hearthsShort 23 = .ok (.iadd, 1) := by decide +kernel
theorem dX0_hearthsShort_24 : decode cX0_hearthsShort 24 = .ok (.istore_n 1, 1) := by decide +kernel
theorem dX0_hearthsShort_25 : decode cX0_hearthsShort 25 = .ok (.iinc 2 1, 3) := by decide +kernel
theorem dX0_hearthsShort_28 : decode cX0_hearthsShort 28 = .ok (.goto (-24), 3) := by decide +kernel
theorem dX0_hearthsShort_31 : decode cX0_hearthsShort 31 = .ok (.iload_n 1, 1) := by decide +kernel
theorem dX0_hearthsShort_32 : decode cX0_hearthsShort 32 = .ok (.ireturn, 1) := by decide +kernel
set_option maxRecDepth 20000 in
theorem ggX0_hearthsThatWillBeShort_X0_willBeShortBy : GoodIn wsX0_hearthsThatWillBeShort wsX0_willBeShortBy := goodIn_r _ [5, 6, 7, 8, 9, 10, 11, 12, 4, 13, 14, 15, 16, 17, 18, 19, 20, 21, 22] (by decide +kernel) (by decide +kernel)
set_option maxRecDepth 20000 in
theorem gX0_hearthsThatWillBeShort_X0_willBeShortBy : GoodIn wsX0_hearthsThatWillBeShort (wsV RX0 93 RX0 yX0_willBeShortBy wsX0_willBeShortBy) := goodIn_app (goodIn_of _ (by decide +kernel)) ggX0_hearthsThatWillBeShort_X0_willBeShortBy
theorem dX0_hearthsThatWillBeShort_0 : decode cX0_hearthsThatWillBeShort 0 = .ok (.iconst 0, 1) := by decide +kernel
theorem dX0_hearthsThatWillBeShort_1 : decode cX0_hearthsThatWillBeShort 1 = .ok (.istore_n 1, 1) := by decide +kernel
theorem dX0_hearthsThatWillBeShort_2 : decode cX0_hearthsThatWillBeShort 2 = .ok (.iconst 0, 1) := by decide +kernel
theorem dX0_hearthsThatWillBeShort_3 : decode cX0_hearthsThatWillBeShort 3 = .ok (.istore_n 2, 1) := by decide +kernel
theorem dX0_hearthsThatWillBeShort_4 : decode cX0_hearthsThatWillBeShort 4 = .ok (.iload_n 2, 1) := by decide +kernel
theorem dX0_hearthsThatWillBeShort_5 : decode cX0_hearthsThatWillBeShort 5 = .ok (.iconst 5, 1) := by decide +kernel
theorem dX0_hearthsThatWillBeShort_6 : decode cX0_hearthsThatWillBeShort 6 = .ok (.if_icmp .ge 25, 3) := by decide +kernel
theorem dX0_hearthsThatWillBeShort_9 : decode cX0_hearthsThatWillBeShort 9 = .ok (.iload_n 1, 1) := by decide +kernel
theorem dX0_hearthsThatWillBeShort_10 : decode cX0_hearthsThatWillBeShort 10 = .ok (.aload_n 0, 1) := by decide +kernel
theorem dX0_hearthsThatWillBeShort_11 : decode cX0_hearthsThatWillBeShort 11 = .ok (.iload_n 2, 1) := by decide +kernel
theorem dX0_hearthsThatWillBeShort_12 : decode cX0_hearthsThatWillBeShort 12 = .ok (.invokevirtual 93, 3) := by decide +kernel
theorem dX0_hearthsThatWillBeShort_15 : decode cX0_hearthsThatWillBeShort 15 = .ok (.ifCond .le 7, 3) := by decide +kernel
theorem dX0_hearthsThatWillBeShort_18 : decode cX0_hearthsThatWillBeShort 18 = .ok (.iconst 1, 1) := by decide +kernel
theorem dX0_hearthsThatWillBeShort_19 : decode cX0_hearthsThatWillBeShort 19 = .ok (.goto 4, 3) := by decide +kernel
theorem dX0_hearthsThatWillBeShort_22 : decode cX0_hearthsThatWillBeShort 22 = .ok (.iconst 0, 1) := by decide +kernel
theorem dX0_hearthsThatWillBeShort_23 : decode cX0_hearthsThatWillBeShort 23 = .ok (.iadd, 1) := by decide +kernel
theorem dX0_hearthsThatWillBeShort_24 : decode cX0_hearthsThatWillBeShort 24 = .ok (.istore_n 1, 1) := by decide +kernel
theorem dX0_hearthsThatWillBeShort_25 : decode cX0_hearthsThatWillBeShort 25 = .ok (.iinc 2 1, 3) := by decide +kernel
theorem dX0_hearthsThatWillBeShort_28 : decode cX0_hearthsThatWillBeShort 28 = .ok (.goto (-24), 3) := by decide +kernel
theorem dX0_hearthsThatWillBeShort_31 : decode cX0_hearthsThatWillBeShort 31 = .ok (.iload_n 1, 1) := by decide +kernel
theorem dX0_hearthsThatWillBeShort_32 : decode cX0_hearthsThatWillBeShort 32 = .ok (.ireturn, 1) := by decide +kernel
set_option maxRecDepth 20000 in
theorem ggX0_ofHearth_X0_at : GoodIn wsX0_ofHearth wsX0_at := goodIn_r _ [5, 6, 30] (by decide +kernel) (by decide +kernel)
set_option maxRecDepth 20000 in
theorem gX0_ofHearth_X0_at : GoodIn wsX0_ofHearth (wsV RX0 30 RX0 yX0_at wsX0_at) := goodIn_app (goodIn_of _ (by decide +kernel)) ggX0_ofHearth_X0_at
set_option maxRecDepth 20000 in
theorem ggX0_ofHearth_X0_plotOf : GoodIn wsX0_ofHearth wsX0_plotOf := goodIn_r _ [9] (by decide +kernel) (by decide +kernel)
set_option maxRecDepth 20000 in
theorem gX0_ofHearth_X0_plotOf : GoodIn wsX0_ofHearth (va_wsS RX0 19 yX0_plotOf wsX0_plotOf) := goodIn_app (goodIn_of _ (by decide +kernel)) ggX0_ofHearth_X0_plotOf
set_option maxRecDepth 20000 in
theorem ggX0_ofHearth_X0_turvesOn : GoodIn wsX0_ofHearth wsX0_turvesOn := goodIn_r _ [13, 1, 2, 3, 4, 5, 6, 30] (by decide +kernel) (by decide +kernel)
set_option maxRecDepth 20000 in
theorem gX0_ofHearth_X0_turvesOn : GoodIn wsX0_ofHearth (wsV RX0 68 RX0 yX0_turvesOn wsX0_turvesOn) := goodIn_app (goodIn_of _ (by decide +kernel)) ggX0_ofHearth_X0_turvesOn
set_option maxRecDepth 20000 in
theorem ggX0_ofHearth_X0_shortBy : GoodIn wsX0_ofHearth wsX0_shortBy := goodIn_r _ [17, 18, 19, 20, 21, 1, 2, 3, 4, 5, 6, 30] (by decide +kernel) (by decide +kernel)
set_option maxRecDepth 20000 in
theorem gX0_ofHearth_X0_shortBy : GoodIn wsX0_ofHearth (wsV RX0 90 RX0 yX0_shortBy wsX0_shortBy) := goodIn_app (goodIn_of _ (by decide +kernel)) ggX0_ofHearth_X0_shortBy
set_option maxRecDepth 20000 in
theorem ggX0_ofHearth_X0_willBeShortBy : GoodIn wsX0_ofHearth wsX0_willBeShortBy := goodIn_r _ [25, 18, 19, 20, 21, 1, 2, 3, 4, 5, 6, 7, 8, 9, 10, 11, 12, 13, 30] (by decide +kernel) (by decide +kernel)
set_option maxRecDepth 20000 in
theorem gX0_ofHearth_X0_willBeShortBy : GoodIn wsX0_ofHearth (wsV RX0 93 RX0 yX0_willBeShortBy wsX0_willBeShortBy) := goodIn_app (goodIn_of _ (by decide +kernel)) ggX0_ofHearth_X0_willBeShortBy
set_option maxRecDepth 20000 in
theorem ggX0_ofHearth_X0_willBeShortByTheBook : GoodIn wsX0_ofHearth wsX0_willBeShortByTheBook := goodIn_r _ [29, 18, 19, 20, 21, 1, 2, 3, 4, 5, 6, 30] (by decide +kernel) (by decide +kernel)
set_option maxRecDepth 20000 in
theorem gX0_ofHearth_X0_willBeShortByTheBook : GoodIn wsX0_ofHearth (wsV RX0 96 RX0 yX0_willBeShortByTheBook wsX0_willBeShortByTheBook) := goodIn_app (goodIn_of _ (by decide +kernel)) ggX0_ofHearth_X0_willBeShortByTheBook
theorem dX0_ofHearth_0 : decode cX0_ofHearth 0 = .ok (.iload_n 2, 1) := by decide +kernel
theorem dX0_ofHearth_1 : decode cX0_ofHearth 1 = .ok (.tableswitch 151 0 10 #[59, 67, 76, 85, 97, 103, 109, 115, 124, 133, 142], 59) := by decide +kernel
theorem dX0_ofHearth_60 : decode cX0_ofHearth 60 = .ok (.aload_n 0, 1) := by decide +kernel
theorem dX0_ofHearth_61 : decode cX0_ofHearth 61 = .ok (.iconst 5, 1) := by decide +kernel
theorem dX0_ofHearth_62 : decode cX0_ofHearth 62 = .ok (.iload_n 1, 1) := by decide +kernel
theorem dX0_ofHearth_63 : decode cX0_ofHearth 63 = .ok (.iadd, 1) := by decide +kernel
theorem dX0_ofHearth_64 : decode cX0_ofHearth 64 = .ok (.invokevirtual 30, 3) := by decide +kernel
theorem dX0_ofHearth_67 : decode cX0_ofHearth 67 = .ok (.ireturn, 1) := by decide +kernel
theorem dX0_ofHearth_68 : decode cX0_ofHearth 68 = .ok (.aload_n 0, 1) := by decide +kernel
theorem dX0_ofHearth_69 : decode cX0_ofHearth 69 = .ok (.bipush 10, 2) := by decide +kernel
theorem dX0_ofHearth_71 : decode cX0_ofHearth 71 = .ok (.iload_n 1, 1) := by decide +kernel
theorem dX0_ofHearth_72 : decode cX0_ofHearth 72 = .ok (.iadd, 1) := by decide +kernel
theorem dX0_ofHearth_73 : decode cX0_ofHearth 73 = .ok (.invokevirtual 30, 3) := by decide +kernel
theorem dX0_ofHearth_76 : decode cX0_ofHearth 76 = .ok (.ireturn, 1) := by decide +kernel
theorem dX0_ofHearth_77 : decode cX0_ofHearth 77 = .ok (.aload_n 0, 1) := by decide +kernel
theorem dX0_ofHearth_78 : decode cX0_ofHearth 78 = .ok (.bipush 15, 2) := by decide +kernel
theorem dX0_ofHearth_80 : decode cX0_ofHearth 80 = .ok (.iload_n 1, 1) := by decide +kernel
theorem dX0_ofHearth_81 : decode cX0_ofHearth 81 = .ok (.iadd, 1) := by decide +kernel
theorem dX0_ofHearth_82 : decode cX0_ofHearth 82 = .ok (.invokevirtual 30, 3) := by decide +kernel
theorem dX0_ofHearth_85 : decode cX0_ofHearth 85 = .ok (.ireturn, 1) := by decide +kernel
theorem dX0_ofHearth_86 : decode cX0_ofHearth 86 = .ok (.aload_n 0, 1) := by decide +kernel
theorem dX0_ofHearth_87 : decode cX0_ofHearth 87 = .ok (.iload_n 1, 1) := by decide +kernel
theorem dX0_ofHearth_88 : decode cX0_ofHearth 88 = .ok (.iconst 0, 1) := by decide +kernel
theorem dX0_ofHearth_89 : decode cX0_ofHearth 89 = .ok (.invokestatic 19, 3) := by decide +kernel
theorem dX0_ofHearth_92 : decode cX0_ofHearth 92 = .ok (.iconst 1, 1) := by decide +kernel
theorem dX0_ofHearth_93 : decode cX0_ofHearth 93 = .ok (.iconst 4, 1) := by decide +kernel
theorem dX0_ofHearth_94 : decode cX0_ofHearth 94 = .ok (.invokevirtual 68, 3) := by decide +kernel
theorem dX0_ofHearth_97 : decode cX0_ofHearth 97 = .ok (.ireturn, 1) := by decide +kernel
theorem dX0_ofHearth_98 : decode cX0_ofHearth 98 = .ok (.aload_n 0, 1) := by decide +kernel
theorem dX0_ofHearth_99 : decode cX0_ofHearth 99 = .ok (.iload_n 1, 1) := by decide +kernel
theorem dX0_ofHearth_100 : decode cX0_ofHearth 100 = .ok (.invokevirtual 90, 3) := by decide +kernel
theorem dX0_ofHearth_103 : decode cX0_ofHearth 103 = .ok (.ireturn, 1) := by decide +kernel
theorem dX0_ofHearth_104 : decode cX0_ofHearth 104 = .ok (.aload_n 0, 1) := by decide +kernel
theorem dX0_ofHearth_105 : decode cX0_ofHearth 105 = .ok (.iload_n 1, 1) := by decide +kernel
theorem dX0_ofHearth_106 : decode cX0_ofHearth 106 = .ok (.invokevirtual 93, 3) := by decide +kernel
theorem dX0_ofHearth_109 : decode cX0_ofHearth 109 = .ok (.ireturn, 1) := by decide +kernel
theorem dX0_ofHearth_110 : decode cX0_ofHearth 110 = .ok (.aload_n 0, 1) := by decide +kernel
theorem dX0_ofHearth_111 : decode cX0_ofHearth 111 = .ok (.iload_n 1, 1) := by decide +kernel
theorem dX0_ofHearth_112 : decode cX0_ofHearth 112 = .ok (.invokevirtual 96, 3) := by decide +kernel
theorem dX0_ofHearth_115 : decode cX0_ofHearth 115 = .ok (.ireturn, 1) := by decide +kernel
theorem dX0_ofHearth_116 : decode cX0_ofHearth 116 = .ok (.aload_n 0, 1) := by decide +kernel
theorem dX0_ofHearth_117 : decode cX0_ofHearth 117 = .ok (.bipush 20, 2) := by decide +kernel
theorem dX0_ofHearth_119 : decode cX0_ofHearth 119 = .ok (.iload_n 1, 1) := by decide +kernel
theorem dX0_ofHearth_120 : decode cX0_ofHearth 120 = .ok (.iadd, 1) := by decide +kernel
theorem dX0_ofHearth_121 : decode cX0_ofHearth 121 = .ok (.invokevirtual 30, 3) := by decide +kernel
theorem dX0_ofHearth_124 : decode cX0_ofHearth 124 = .ok (.ireturn, 1) := by decide +kernel
theorem dX0_ofHearth_125 : decode cX0_ofHearth 125 = .ok (.aload_n 0, 1) := by decide +kernel
theorem dX0_ofHearth_126 : decode cX0_ofHearth 126 = .ok (.bipush 25, 2) := by decide +kernel
theorem dX0_ofHearth_128 : decode cX0_ofHearth 128 = .ok (.iload_n 1, 1) := by decide +kernel
theorem dX0_ofHearth_129 : decode cX0_ofHearth 129 = .ok (.iadd, 1) := by decide +kernel
theorem dX0_ofHearth_130 : decode cX0_ofHearth 130 = .ok (.invokevirtual 30, 3) := by decide +kernel
theorem dX0_ofHearth_133 : decode cX0_ofHearth 133 = .ok (.ireturn, 1) := by decide +kernel
theorem dX0_ofHearth_134 : decode cX0_ofHearth 134 = .ok (.aload_n 0, 1) := by decide +kernel
theorem dX0_ofHearth_135 : decode cX0_ofHearth 135 = .ok (.bipush 30, 2) := by decide +kernel
theorem dX0_ofHearth_137 : decode cX0_ofHearth 137 = .ok (.iload_n 1, 1) := by decide +kernel
theorem dX0_ofHearth_138 : decode cX0_ofHearth 138 = .ok (.iadd, 1) := by decide +kernel
theorem dX0_ofHearth_139 : decode cX0_ofHearth 139 = .ok (.invokevirtual 30, 3) := by decide +kernel
theorem dX0_ofHearth_142 : decode cX0_ofHearth 142 = .ok (.ireturn, 1) := by decide +kernel
theorem dX0_ofHearth_143 : decode cX0_ofHearth 143 = .ok (.aload_n 0, 1) := by decide +kernel
theorem dX0_ofHearth_144 : decode cX0_ofHearth 144 = .ok (.bipush 35, 2) := by decide +kernel
theorem dX0_ofHearth_146 : decode cX0_ofHearth 146 = .ok (.iload_n 1, 1) := by decide +kernel
theorem dX0_ofHearth_147 : decode cX0_ofHearth 147 = .ok (.iadd, 1) := by decide +kernel
theorem dX0_ofHearth_148 : decode cX0_ofHearth 148 = .ok (.invokevirtual 30, 3) := by decide +kernel
theorem dX0_ofHearth_151 : decode cX0_ofHearth 151 = .ok (.ireturn, 1) := by decide +kernel
theorem dX0_ofHearth_152 : decode cX0_ofHearth 152 = .ok (.aload_n 0, 1) := by decide +kernel
theorem dX0_ofHearth_153 : decode cX0_ofHearth 153 = .ok (.bipush 40, 2) := by decide +kernel
theorem dX0_ofHearth_155 : decode cX0_ofHearth 155 = .ok (.iload_n 1, 1) := by decide +kernel
theorem dX0_ofHearth_156 : decode cX0_ofHearth 156 = .ok (.iadd, 1) := by decide +kernel
theorem dX0_ofHearth_157 : decode cX0_ofHearth 157 = .ok (.invokevirtual 30, 3) := by decide +kernel
theorem dX0_ofHearth_160 : decode cX0_ofHearth 160 = .ok (.ireturn, 1) := by decide +kernel
set_option maxRecDepth 20000 in
theorem ggX0_ofBank_X0_at : GoodIn wsX0_ofBank wsX0_at := goodIn_r _ [5, 6, 22] (by decide +kernel) (by decide +kernel)
set_option maxRecDepth 20000 in
theorem gX0_ofBank_X0_at : GoodIn wsX0_ofBank (wsV RX0 30 RX0 yX0_at wsX0_at) := goodIn_app (goodIn_of _ (by decide +kernel)) ggX0_ofBank_X0_at
set_option maxRecDepth 20000 in
theorem ggX0_ofBank_X0_cuttersOnBank : GoodIn wsX0_ofBank wsX0_cuttersOnBank := goodIn_r _ [10, 11, 12, 13, 4, 14, 1, 2, 3, 5, 6, 22] (by decide +kernel) (by decide +kernel)
set_option maxRecDepth 20000 in
theorem gX0_ofBank_X0_cuttersOnBank : GoodIn wsX0_ofBank (wsV RX0 37 RX0 yX0_cuttersOnBank wsX0_cuttersOnBank) := goodIn_app (goodIn_of _ (by decide +kernel)) ggX0_ofBank_X0_cuttersOnBank
set_option maxRecDepth 20000 in
theorem ggX0_ofBank_X0_plotOf : GoodIn wsX0_ofBank wsX0_plotOf := goodIn_r _ [17] (by decide +kernel) (by decide +kernel)
set_option maxRecDepth 20000 in
theorem gX0_ofBank_X0_plotOf : GoodIn wsX0_ofBank (va_wsS RX0 19 yX0_plotOf wsX0_plotOf) := goodIn_app (goodIn_of _ (by decide +kernel)) ggX0_ofBank_X0_plotOf
set_option maxRecDepth 20000 in
theorem ggX0_ofBank_X0_turvesOn : GoodIn wsX0_ofBank wsX0_turvesOn := goodIn_r _ [21, 1, 2, 3, 4, 5, 6, 22] (by decide +kernel) (by decide +kernel)
set_option maxRecDepth 20000 in
theorem gX0_ofBank_X0_turvesOn : GoodIn wsX0_ofBank (wsV RX0 68 RX0 yX0_turvesOn wsX0_turvesOn) := goodIn_app (goodIn_of _ (by decide +kernel)) ggX0_ofBank_X0_turvesOn
theorem dX0_ofBank_0 : decode cX0_ofBank 0 = .ok (.iload_n 2, 1) := by decide +kernel
theorem dX0_ofBank_1 : decode cX0_ofBank 1 = .ok (.tableswitch 64 0 3 #[31, 40, 49, 58], 31) := by decide +kernel
theorem dX0_ofBank_32 : decode cX0_ofBank 32 = .ok (.aload_n 0, 1) := by decide +kernel
theorem dX0_ofBank_33 : decode cX0_ofBank 33 = .ok (.bipush 45, 2) := by decide +kernel
theorem dX0_ofBank_35 : decode cX0_ofBank 35 = .ok (.iload_n 1, 1) := by decide +kernel
theorem dX0_ofBank_36 : decode cX0_ofBank 36 = .ok (.iadd, 1) := by decide +kernel
theorem dX0_ofBank_37 : decode cX0_ofBank 37 = .ok (.invokevirtual 30, 3) := by decide +kernel
theorem dX0_ofBank_40 : decode cX0_ofBank 40 = .ok (.ireturn, 1) := by decide +kernel
theorem dX0_ofBank_41 : decode cX0_ofBank 41 = .ok (.aload_n 0, 1) := by decide +kernel
theorem dX0_ofBank_42 : decode cX0_ofBank 42 = .ok (.bipush 49, 2) := by decide +kernel
theorem dX0_ofBank_44 : decode cX0_ofBank 44 = .ok (.iload_n 1, 1) := by decide +kernel
theorem dX0_ofBank_45 : decode cX0_ofBank 45 = .ok (.iadd, 1) := by decide +kernel
theorem dX0_ofBank_46 : decode cX0_ofBank 46 = .ok (.invokevirtual 30, 3) := by decide +kernel
theorem dX0_ofBank_49 : decode cX0_ofBank 49 = .ok (.ireturn, 1) := by decide +kernel
theorem dX0_ofBank_50 : decode cX0_ofBank 50 = .ok (.aload_n 0, 1) := by decide +kernel
theorem dX0_ofBank_51 : decode cX0_ofBank 51 = .ok (.bipush 53, 2) := by decide +kernel
theorem dX0_ofBank_53 : decode cX0_ofBank 53 = .ok (.iload_n 1, 1) := by decide +kernel
theorem dX0_ofBank_54 : decode cX0_ofBank 54 = .ok (.iadd, 1) := by decide +kernel
theorem dX0_ofBank_55 : decode cX0_ofBank 55 = .ok (.invokevirtual 30, 3) := by decide +kernel
theorem dX0_ofBank_58 : decode cX0_ofBank 58 = .ok (.ireturn, 1) := by decide +kernel
theorem dX0_ofBank_59 : decode cX0_ofBank 59 = .ok (.aload_n 0, 1) := by decide +kernel
theorem dX0_ofBank_60 : decode cX0_ofBank 60 = .ok (.iload_n 1, 1) := by decide +kernel
theorem dX0_ofBank_61 : decode cX0_ofBank 61 = .ok (.invokevirtual 37, 3) := by decide +kernel
theorem dX0_ofBank_64 : decode cX0_ofBank 64 = .ok (.ireturn, 1) := by decide +kernel
theorem dX0_ofBank_65 : decode cX0_ofBank 65 = .ok (.aload_n 0, 1) := by decide +kernel
theorem dX0_ofBank_66 : decode cX0_ofBank 66 = .ok (.iconst 0, 1) := by decide +kernel
theorem dX0_ofBank_67 : decode cX0_ofBank 67 = .ok (.iload_n 1, 1) := by decide +kernel
theorem dX0_ofBank_68 : decode cX0_ofBank 68 = .ok (.invokestatic 19, 3) := by decide +kernel
theorem dX0_ofBank_71 : decode cX0_ofBank 71 = .ok (.iconst 4, 1) := by decide +kernel
theorem dX0_ofBank_72 : decode cX0_ofBank 72 = .ok (.iconst 5, 1) := by decide +kernel
theorem dX0_ofBank_73 : decode cX0_ofBank 73 = .ok (.invokevirtual 68, 3) := by decide +kernel
theorem dX0_ofBank_76 : decode cX0_ofBank 76 = .ok (.ireturn, 1) := by decide +kernel
set_option maxRecDepth 20000 in
theorem ggX0_ofPlot_X0_plotOf : GoodIn wsX0_ofPlot wsX0_plotOf := goodIn_r _ [4] (by decide +kernel) (by decide +kernel)
set_option maxRecDepth 20000 in
theorem gX0_ofPlot_X0_plotOf : GoodIn wsX0_ofPlot (va_wsS RX0 19 yX0_plotOf wsX0_plotOf) := goodIn_app (goodIn_of _ (by decide +kernel)) ggX0_ofPlot_X0_plotOf
set_option maxRecDepth 20000 in
theorem ggX0_ofPlot_X0_at : GoodIn wsX0_ofPlot wsX0_at := goodIn_r _ [8, 9, 14] (by decide +kernel) (by decide +kernel)
set_option maxRecDepth 20000 in
theorem gX0_ofPlot_X0_at : GoodIn wsX0_ofPlot (wsV RX0 30 RX0 yX0_at wsX0_at) := goodIn_app (goodIn_of _ (by decide +kernel)) ggX0_ofPlot_X0_at
set_option maxRecDepth 20000 in
theorem ggX0_ofPlot_X0_cuttersAt : GoodIn wsX0_ofPlot wsX0_cuttersAt := goodIn_r _ [13, 5, 6, 7, 3, 8, 9, 14] (by decide +kernel) (by decide +kernel)
set_option maxRecDepth 20000 in
theorem gX0_ofPlot_X0_cuttersAt : GoodIn wsX0_ofPlot (wsV RX0 34 RX0 yX0_cuttersAt wsX0_cuttersAt) := goodIn_app (goodIn_of _ (by decide +kernel)) ggX0_ofPlot_X0_cuttersAt
theorem dX0_ofPlot_0 : decode cX0_ofPlot 0 = .ok (.iload_n 1, 1) := by decide +kernel
theorem dX0_ofPlot_1 : decode cX0_ofPlot 1 = .ok (.iload_n 2, 1) := by decide +kernel
theorem dX0_ofPlot_2 : decode cX0_ofPlot 2 = .ok (.invokestatic 19, 3) := by decide +kernel
theorem dX0_ofPlot_5 : decode cX0_ofPlot 5 = .ok (.istore 4, 2) := by decide +kernel
theorem dX0_ofPlot_7 : decode cX0_ofPlot 7 = .ok (.iload_n 3, 1) := by decide +kernel
theorem dX0_ofPlot_8 : decode cX0_ofPlot 8 = .ok (.tableswitch 72 0 3 #[32, 42, 52, 62], 32) := by decide +kernel
theorem dX0_ofPlot_40 : decode cX0_ofPlot 40 = .ok (.aload_n 0, 1) := by decide +kernel
theorem dX0_ofPlot_41 : decode cX0_ofPlot 41 = .ok (.bipush 57, 2) := by decide +kernel
theorem dX0_ofPlot_43 : decode cX0_ofPlot 43 = .ok (.iload 4, 2) := by decide +kernel
theorem dX0_ofPlot_45 : decode cX0_ofPlot 45 = .ok (.iadd, 1) := by decide +kernel
theorem dX0_ofPlot_46 : decode cX0_ofPlot 46 = .ok (.invokevirtual 30, 3) := by decide +kernel
theorem dX0_ofPlot_49 : decode cX0_ofPlot 49 = .ok (.ireturn, 1) := by decide +kernel
theorem dX0_ofPlot_50 : decode cX0_ofPlot 50 = .ok (.aload_n 0, 1) := by decide +kernel
theorem dX0_ofPlot_51 : decode cX0_ofPlot 51 = .ok (.bipush 77, 2) := by decide +kernel
theorem dX0_ofPlot_53 : decode cX0_ofPlot 53 = .ok (.iload 4, 2) := by decide +kernel
theorem dX0_ofPlot_55 : decode cX0_ofPlot 55 = .ok (.iadd, 1) := by decide +kernel
theorem dX0_ofPlot_56 : decode cX0_ofPlot 56 = .ok (.invokevirtual 30, 3) := by decide +kernel
theorem dX0_ofPlot_59 : decode cX0_ofPlot 59 = .ok (.ireturn, 1) := by decide +kernel
theorem dX0_ofPlot_60 : decode cX0_ofPlot 60 = .ok (.aload_n 0, 1) := by decide +kernel
theorem dX0_ofPlot_61 : decode cX0_ofPlot 61 = .ok (.bipush 97, 2) := by decide +kernel
theorem dX0_ofPlot_63 : decode cX0_ofPlot 63 = .ok (.iload 4, 2) := by decide +kernel
theorem dX0_ofPlot_65 : decode cX0_ofPlot 65 = .ok (.iadd, 1) := by decide +kernel
theorem dX0_ofPlot_66 : decode cX0_ofPlot 66 = .ok (.invokevirtual 30, 3) := by decide +kernel
theorem dX0_ofPlot_69 : decode cX0_ofPlot 69 = .ok (.ireturn, 1) := by decide +kernel
theorem dX0_ofPlot_70 : decode cX0_ofPlot 70 = .ok (.aload_n 0, 1) := by decide +kernel
theorem dX0_ofPlot_71 : decode cX0_ofPlot 71 = .ok (.bipush 117, 2) := by decide +kernel
theorem dX0_ofPlot_73 : decode cX0_ofPlot 73 = .ok (.iload 4, 2) := by decide +kernel
theorem dX0_ofPlot_75 : decode cX0_ofPlot 75 = .ok (.iadd, 1) := by decide +kernel
theorem dX0_ofPlot_76 : decode cX0_ofPlot 76 = .ok (.invokevirtual 30, 3) := by decide +kernel
theorem dX0_ofPlot_79 : decode cX0_ofPlot 79 = .ok (.ireturn, 1) := by decide +kernel
theorem dX0_ofPlot_80 : decode cX0_ofPlot 80 = .ok (.aload_n 0, 1) := by decide +kernel
theorem dX0_ofPlot_81 : decode cX0_ofPlot 81 = .ok (.iload_n 1, 1) := by decide +kernel
theorem dX0_ofPlot_82 : decode cX0_ofPlot 82 = .ok (.iload_n 2, 1) := by decide +kernel
theorem dX0_ofPlot_83 : decode cX0_ofPlot 83 = .ok (.invokevirtual 34, 3) := by decide +kernel
theorem dX0_ofPlot_86 : decode cX0_ofPlot 86 = .ok (.ireturn, 1) := by decide +kernel
set_option maxRecDepth 20000 in
theorem ggX0_ofCutter_X0_at : GoodIn wsX0_ofCutter wsX0_at := goodIn_r _ [5, 6, 7] (by decide +kernel) (by decide +kernel)
set_option maxRecDepth 20000 in
theorem gX0_ofCutter_X0_at : GoodIn wsX0_ofCutter (wsV RX0 30 RX0 yX0_at wsX0_at) := goodIn_app (goodIn_of _ (by decide +kernel)) ggX0_ofCutter_X0_at
theorem dX0_ofCutter_0 : decode cX0_ofCutter 0 = .ok (.iload_n 2, 1) := by decide +kernel
theorem dX0_ofCutter_1 : decode cX0_ofCutter 1 = .ok (.tableswitch 57 0 2 #[27, 37, 47], 27) := by decide +kernel
theorem dX0_ofCutter_28 : decode cX0_ofCutter 28 = .ok (.aload_n 0, 1) := by decide +kernel
theorem dX0_ofCutter_29 : decode cX0_ofCutter 29 = .ok (.sipush 137, 3) := by decide +kernel
theorem dX0_ofCutter_32 : decode cX0_ofCutter 32 = .ok (.iload_n 1, 1) := by decide +kernel
theorem dX0_ofCutter_33 : decode cX0_ofCutter 33 = .ok (.iadd, 1) := by decide +kernel
theorem dX0_ofCutter_34 : decode cX0_ofCutter 34 = .ok (.invokevirtual 30, 3) := by decide +kernel
theorem dX0_ofCutter_37 : decode cX0_ofCutter 37 = .ok (.ireturn, 1) := by decide +kernel
theorem dX0_ofCutter_38 : decode cX0_ofCutter 38 = .ok (.aload_n 0, 1) := by decide +kernel
theorem dX0_ofCutter_39 : decode cX0_ofCutter 39 = .ok (.sipush 143, 3) := by decide +kernel
theorem dX0_ofCutter_42 : decode cX0_ofCutter 42 = .ok (.iload_n 1, 1) := by decide +kernel
theorem dX0_ofCutter_43 : decode cX0_ofCutter 43 = .ok (.iadd, 1) := by decide +kernel
theorem dX0_ofCutter_44 : decode cX0_ofCutter 44 = .ok (.invokevirtual 30, 3) := by decide +kernel
theorem dX0_ofCutter_47 : decode cX0_ofCutter 47 = .ok (.ireturn, 1) := by decide +kernel
theorem dX0_ofCutter_48 : decode cX0_ofCutter 48 = .ok (.aload_n 0, 1) := by decide +kernel
theorem dX0_ofCutter_49 : decode cX0_ofCutter 49 = .ok (.sipush 149, 3) := by decide +kernel
theorem dX0_ofCutter_52 : decode cX0_ofCutter 52 = .ok (.iload_n 1, 1) := by decide +kernel
theorem dX0_ofCutter_53 : decode cX0_ofCutter 53 = .ok (.iadd, 1) := by decide +kernel
theorem dX0_ofCutter_54 : decode cX0_ofCutter 54 = .ok (.invokevirtual 30, 3) := by decide +kernel
theorem dX0_ofCutter_57 : decode cX0_ofCutter 57 = .ok (.ireturn, 1) := by decide +kernel
theorem dX0_ofCutter_58 : decode cX0_ofCutter 58 = .ok (.aload_n 0, 1) := by decide +kernel
theorem dX0_ofCutter_59 : decode cX0_ofCutter 59 = .ok (.sipush 155, 3) := by decide +kernel
theorem dX0_ofCutter_62 : decode cX0_ofCutter 62 = .ok (.iload_n 1, 1) := by decide +kernel
theorem dX0_ofCutter_63 : decode cX0_ofCutter 63 = .ok (.iadd, 1) := by decide +kernel
theorem dX0_ofCutter_64 : decode cX0_ofCutter 64 = .ok (.invokevirtual 30, 3) := by decide +kernel
theorem dX0_ofCutter_67 : decode cX0_ofCutter 67 = .ok (.ireturn, 1) := by decide +kernel
set_option maxRecDepth 20000 in
theorem ggX0_ofAll_X0_at : GoodIn wsX0_ofAll wsX0_at := goodIn_r _ [5, 6, 54] (by decide +kernel) (by decide +kernel)
set_option maxRecDepth 20000 in
theorem gX0_ofAll_X0_at : GoodIn wsX0_ofAll (wsV RX0 30 RX0 yX0_at wsX0_at) := goodIn_app (goodIn_of _ (by decide +kernel)) ggX0_ofAll_X0_at
set_option maxRecDepth 20000 in
theorem ggX0_ofAll_X0_cuttersAtWork : GoodIn wsX0_ofAll wsX0_cuttersAtWork := goodIn_r _ [10, 11, 12, 13, 4, 14, 15, 16, 17, 18, 1, 2, 3, 5, 6, 54] (by decide +kernel) (by decide +kernel)
set_option maxRecDepth 20000 in
theorem gX0_ofAll_X0_cuttersAtWork : GoodIn wsX0_ofAll (wsV RX0 99 RX0 yX0_cuttersAtWork wsX0_cuttersAtWork) := goodIn_app (goodIn_of _ (by decide +kernel)) ggX0_ofAll_X0_cuttersAtWork
set_option maxRecDepth 20000 in
theorem ggX0_ofAll_X0_sum : GoodIn wsX0_ofAll wsX0_sum := goodIn_r _ [22, 1, 2, 3, 4, 5, 6, 54] (by decide +kernel) (by decide +kernel)
set_option maxRecDepth 20000 in
theorem gX0_ofAll_X0_sum : GoodIn wsX0_ofAll (wsV RX0 102 RX0 yX0_sum wsX0_sum) := goodIn_app (goodIn_of _ (by decide +kernel)) ggX0_ofAll_X0_sum
set_option maxRecDepth 20000 in
theorem ggX0_ofAll_X0_turvesOnBanks : GoodIn wsX0_ofAll wsX0_turvesOnBanks := goodIn_r _ [26, 27, 28, 29, 4, 30, 1, 2, 3, 5, 6, 54] (by decide +kernel) (by decide +kernel)
set_option maxRecDepth 20000 in
theorem gX0_ofAll_X0_turvesOnBanks : GoodIn wsX0_ofAll (wsV RX0 105 RX0 yX0_turvesOnBanks wsX0_turvesOnBanks) := goodIn_app (goodIn_of _ (by decide +kernel)) ggX0_ofAll_X0_turvesOnBanks
set_option maxRecDepth 20000 in
theorem ggX0_ofAll_X0_hearthsShort : GoodIn wsX0_ofAll wsX0_hearthsShort := goodIn_r _ [34, 35, 36, 37, 4, 38, 39, 40, 41, 42, 1, 2, 3, 5, 6, 54] (by decide +kernel) (by decide +kernel)
set_option maxRecDepth 20000 in
theorem gX0_ofAll_X0_hearthsShort : GoodIn wsX0_ofAll (wsV RX0 108 RX0 yX0_hearthsShort wsX0_hearthsShort) := goodIn_app (goodIn_of _ (by decide +kernel)) ggX0_ofAll_X0_hearthsShort
set_option maxRecDepth 20000 in
theorem ggX0_ofAll_X0_hearthsThatWillBeShort : GoodIn wsX0_ofAll wsX0_hearthsThatWillBeShort := goodIn_r _ [46, 47, 48, 49, 4, 50, 39, 40, 41, 42, 1, 2, 3, 5, 6, 51, 52, 53, 27, 28, 29, 30, 54] (by decide +kernel) (by decide +kernel)
set_option maxRecDepth 20000 in
theorem gX0_ofAll_X0_hearthsThatWillBeShort : GoodIn wsX0_ofAll (wsV RX0 111 RX0 yX0_hearthsThatWillBeShort wsX0_hearthsThatWillBeShort) := goodIn_app (goodIn_of _ (by decide +kernel)) ggX0_ofAll_X0_hearthsThatWillBeShort
theorem dX0_ofAll_0 : decode cX0_ofAll 0 = .ok (.iload_n 1, 1) := by decide +kernel
theorem dX0_ofAll_1 : decode cX0_ofAll 1 = .ok (.tableswitch 127 0 10 #[59, 65, 71, 76, 84, 89, 97, 105, 110, 115, 121], 59) := by decide +kernel
theorem dX0_ofAll_60 : decode cX0_ofAll 60 = .ok (.aload_n 0, 1) := by decide +kernel
theorem dX0_ofAll_61 : decode cX0_ofAll 61 = .ok (.iconst 0, 1) := by decide +kernel
theorem dX0_ofAll_62 : decode cX0_ofAll 62 = .ok (.invokevirtual 30, 3) := by decide +kernel
theorem dX0_ofAll_65 : decode cX0_ofAll 65 = .ok (.ireturn, 1) := by decide +kernel
theorem dX0_ofAll_66 : decode cX0_ofAll 66 = .ok (.aload_n 0, 1) := by decide +kernel
theorem dX0_ofAll_67 : decode cX0_ofAll 67 = .ok (.iconst 1, 1) := by decide +kernel
theorem dX0_ofAll_68 : decode cX0_ofAll 68 = .ok (.invokevirtual 30, 3) := by decide +kernel
theorem dX0_ofAll_71 : decode cX0_ofAll 71 = .ok (.ireturn, 1) := by decide +kernel
theorem dX0_ofAll_72 : decode cX0_ofAll 72 = .ok (.aload_n 0, 1) := by decide +kernel
theorem dX0_ofAll_73 : decode cX0_ofAll 73 = .ok (.invokevirtual 99, 3) := by decide +kernel
theorem dX0_ofAll_76 : decode cX0_ofAll 76 = .ok (.ireturn, 1) := by decide +kernel
theorem dX0_ofAll_77 : decode cX0_ofAll 77 = .ok (.aload_n 0, 1) := by decide +kernel
theorem dX0_ofAll_78 : decode cX0_ofAll 78 = .ok (.bipush 45, 2) := by decide +kernel
theorem dX0_ofAll_80 : decode cX0_ofAll 80 = .ok (.iconst 4, 1) := by decide +kernel
theorem dX0_ofAll_81 : decode cX0_ofAll 81 = .ok (.invokevirtual 102, 3) := by decide +kernel
theorem dX0_ofAll_84 : decode cX0_ofAll 84 = .ok (.ireturn, 1) := by decide +kernel
theorem dX0_ofAll_85 : decode cX0_ofAll 85 = .ok (.aload_n 0, 1) := by decide +kernel
theorem dX0_ofAll_86 : decode cX0_ofAll 86 = .ok (.invokevirtual 105, 3) := by decide +kernel
theorem dX0_ofAll_89 : decode cX0_ofAll 89 = .ok (.ireturn, 1) := by decide +kernel
theorem dX0_ofAll_90 : decode cX0_ofAll 90 = .ok (.aload_n 0, 1) := by decide +kernel
theorem dX0_ofAll_91 : decode cX0_ofAll 91 = .ok (.bipush 15, 2) := by decide +kernel
theorem dX0_ofAll_93 : decode cX0_ofAll 93 = .ok (.iconst 5, 1) := by decide +kernel
theorem dX0_ofAll_94 : decode cX0_ofAll 94 = .ok (.invokevirtual 102, 3) := by decide +kernel
theorem dX0_ofAll_97 : decode cX0_ofAll 97 = .ok (.ireturn, 1) := by decide +kernel
theorem dX0_ofAll_98 : decode cX0_ofAll 98 = .ok (.aload_n 0, 1) := by decide +kernel
theorem dX0_ofAll_99 : decode cX0_ofAll 99 = .ok (.bipush 35, 2) := by decide +kernel
theorem dX0_ofAll_101 : decode cX0_ofAll 101 = .ok (.iconst 5, 1) := by decide +kernel
theorem dX0_ofAll_102 : decode cX0_ofAll 102 = .ok (.invokevirtual 102, 3) := by decide +kernel
theorem dX0_ofAll_105 : decode cX0_ofAll 105 = .ok (.ireturn, 1) := by decide +kernel
theorem dX0_ofAll_106 : decode cX0_ofAll 106 = .ok (.aload_n 0, 1) := by decide +kernel
theorem dX0_ofAll_107 : decode cX0_ofAll 107 = .ok (.invokevirtual 108, 3) := by decide +kernel
theorem dX0_ofAll_110 : decode cX0_ofAll 110 = .ok (.ireturn, 1) := by decide +kernel
theorem dX0_ofAll_111 : decode cX0_ofAll 111 = .ok (.aload_n 0, 1) := by decide +kernel
theorem dX0_ofAll_112 : decode cX0_ofAll 112 = .ok (.invokevirtual 111, 3) := by decide +kernel
theorem dX0_ofAll_115 : decode cX0_ofAll 115 = .ok (.ireturn, 1) := by decide +kernel
theorem dX0_ofAll_116 : decode cX0_ofAll 116 = .ok (.aload_n 0, 1) := by decide +kernel
theorem dX0_ofAll_117 : decode cX0_ofAll 117 = .ok (.iconst 2, 1) := by decide +kernel
theorem dX0_ofAll_118 : decode cX0_ofAll 118 = .ok (.invokevirtual 30, 3) := by decide +kernel
theorem dX0_ofAll_121 : decode cX0_ofAll 121 = .ok (.ireturn, 1) := by decide +kernel
theorem dX0_ofAll_122 : decode cX0_ofAll 122 = .ok (.aload_n 0, 1) := by decide +kernel
theorem dX0_ofAll_123 : decode cX0_ofAll 123 = .ok (.iconst 3, 1) := by decide +kernel
theorem dX0_ofAll_124 : decode cX0_ofAll 124 = .ok (.invokevirtual 30, 3) := by decide +kernel
theorem dX0_ofAll_127 : decode cX0_ofAll 127 = .ok (.ireturn, 1) := by decide +kernel
theorem dX0_ofAll_128 : decode cX0_ofAll 128 = .ok (.aload_n 0, 1) := by decide +kernel
theorem dX0_ofAll_129 : decode cX0_ofAll 129 = .ok (.iconst 4, 1) := by decide +kernel
theorem dX0_ofAll_130 : decode cX0_ofAll 130 = .ok (.invokevirtual 30, 3) := by decide +kernel
theorem dX0_ofAll_133 : decode cX0_ofAll 133 = .ok (.ireturn, 1) := by decide +kernel
