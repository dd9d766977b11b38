theorem dL_half_0 : decode cL_half 0 = .ok (.iload_n 0, 1) := by decide +kernel
theorem dL_half_1 : decode cL_half 1 = .ok (.iload_n 0, 1) := by decide +kernel
theorem dL_half_2 : decode cL_half 2 = .ok (.iconst 2, 1) := by decide +kernel
theorem dL_half_3 : decode cL_half 3 = .ok (.idiv, 1) := by decide +kernel
theorem dL_half_4 : decode cL_half 4 = .ok (.isub, 1) := by decide +kernel
theorem dL_half_5 : decode cL_half 5 = .ok (.ireturn, 1) := by decide +kernel
theorem dL_cuts_0 : decode cL_cuts 0 = .ok (.iconst 0, 1) := by decide +kernel
theorem dL_cuts_1 : decode cL_cuts 1 = .ok (.istore 4, 2) := by decide +kernel
theorem dL_cuts_3 : decode cL_cuts 3 = .ok (.iload 4, 2) := by decide +kernel
theorem dL_cuts_5 : decode cL_cuts 5 = .ok (.bipush 6, 2) := by decide +kernel
theorem dL_cuts_7 : decode cL_cuts 7 = .ok (.if_icmp .ge 118, 3) := by decide +kernel
theorem dL_cuts_10 : decode cL_cuts 10 = .ok (.aload_n 3, 1) := by decide +kernel
theorem dL_cuts_11 : decode cL_cuts 11 = .ok (.iconst 4, 1) := by decide +kernel
theorem dL_cuts_12 : decode cL_cuts 12 = .ok (.iload 4, 2) := by decide +kernel
theorem dL_cuts_14 : decode cL_cuts 14 = .ok (.imul, 1) := by decide +kernel
theorem dL_cuts_15 : decode cL_cuts 15 = .ok (.iconst 1, 1) := by decide +kernel
theorem dL_cuts_16 : decode cL_cuts 16 = .ok (.iadd, 1) := by decide +kernel
theorem dL_cuts_17 : decode cL_cuts 17 = .ok (.iaload, 1) := by decide +kernel
theorem dL_cuts_18 : decode cL_cuts 18 = .ok (.istore 5, 2) := by decide +kernel
theorem dL_cuts_20 : decode cL_cuts 20 = .ok (.aload_n 3, 1) := by decide +kernel
theorem dL_cuts_21 : decode cL_cuts 21 = .ok (.iconst 4, 1) := by decide +kernel
theorem dL_cuts_22 : decode cL_cuts 22 = .ok (.iload 4, 2) := by decide +kernel
theorem dL_cuts_24 : decode cL_cuts 24 = .ok (.imul, 1) := by decide +kernel
theorem dL_cuts_25 : decode cL_cuts 25 = .ok (.iconst 2, 1) := by decide +kernel
theorem dL_cuts_26 : decode cL_cuts 26 = .ok (.iadd, 1) := by decide +kernel
theorem dL_cuts_27 : decode cL_cuts 27 = .ok (.iaload, 1) := by decide +kernel
theorem dL_cuts_28 : decode cL_cuts 28 = .ok (.istore 6, 2) := by decide +kernel
theorem dL_cuts_30 : decode cL_cuts 30 = .ok (.iload 5, 2) := by decide +kernel
theorem dL_cuts_32 : decode cL_cuts 32 = .ok (.ifCond .lt 87, 3) := by decide +kernel
theorem dL_cuts_35 : decode cL_cuts 35 = .ok (.aload_n 3, 1) := by decide +kernel
theorem dL_cuts_36 : decode cL_cuts 36 = .ok (.iconst 4, 1) := by decide +kernel
theorem dL_cuts_37 : decode cL_cuts 37 = .ok (.iload 4, 2) := by decide +kernel
theorem dL_cuts_39 : decode cL_cuts 39 = .ok (.imul, 1) := by decide +kernel
theorem dL_cuts_40 : decode cL_cuts 40 = .ok (.iaload, 1) := by decide +kernel
theorem dL_cuts_41 : decode cL_cuts 41 = .ok (.aload_n 0, 1) := by decide +kernel
theorem dL_cuts_42 : decode cL_cuts 42 = .ok (.iconst 5, 1) := by decide +kernel
theorem dL_cuts_43 : decode cL_cuts 43 = .ok (.iload 6, 2) := by decide +kernel
theorem dL_cuts_45 : decode cL_cuts 45 = .ok (.iadd, 1) := by decide +kernel
theorem dL_cuts_46 : decode cL_cuts 46 = .ok (.iaload, 1) := by decide +kernel
theorem dL_cuts_47 : decode cL_cuts 47 = .ok (.if_icmp .le 12, 3) := by decide +kernel
theorem dL_cuts_50 : decode cL_cuts 50 = .ok (.aload_n 0, 1) := by decide +kernel
theorem dL_cuts_51 : decode cL_cuts 51 = .ok (.iconst 5, 1) := by decide +kernel
theorem dL_cuts_52 : decode cL_cuts 52 = .ok (.iload 6, 2) := by decide +kernel
theorem dL_cuts_54 : decode cL_cuts 54 = .ok (.iadd, 1) := by decide +kernel
theorem dL_cuts_55 : decode cL_cuts 55 = .ok (.iaload, 1) := by decide +kernel
theorem dL_cuts_56 : decode cL_cuts 56 = .ok (.goto 9, 3) := by decide +kernel
theorem dL_cuts_59 : decode cL_cuts 59 = .ok (.aload_n 3, 1) := by decide +kernel
theorem dL_cuts_60 : decode cL_cuts 60 = .ok (.iconst 4, 1) := by decide +kernel
theorem dL_cuts_61 : decode cL_cuts 61 = .ok (.iload 4, 2) := by decide +kernel
theorem dL_cuts_63 : decode cL_cuts 63 = .ok (.imul, 1) := by decide +kernel
theorem dL_cuts_64 : decode cL_cuts 64 = .ok (.iaload, 1) := by decide +kernel
theorem dL_cuts_65 : decode cL_cuts 65 = .ok (.istore 7, 2) := by decide +kernel
theorem dL_cuts_67 : decode cL_cuts 67 = .ok (.aload_n 0, 1) := by decide +kernel
theorem dL_cuts_68 : decode cL_cuts 68 = .ok (.iconst 5, 1) := by decide +kernel
theorem dL_cuts_69 : decode cL_cuts 69 = .ok (.iload 6, 2) := by decide +kernel
theorem dL_cuts_71 : decode cL_cuts 71 = .ok (.iadd, 1) := by decide +kernel
theorem dL_cuts_72 : decode cL_cuts 72 = .ok (.dup2, 1) := by decide +kernel
theorem dL_cuts_73 : decode cL_cuts 73 = .ok (.iaload, 1) := by decide +kernel
theorem dL_cuts_74 : decode cL_cuts 74 = .ok (.iload 7, 2) := by decide +kernel
theorem dL_cuts_76 : decode cL_cuts 76 = .ok (.isub, 1) := by decide +kernel
theorem dL_cuts_77 : decode cL_cuts 77 = .ok (.iastore, 1) := by decide +kernel
theorem dL_cuts_78 : decode cL_cuts 78 = .ok (.aload_n 2, 1) := by decide +kernel
theorem dL_cuts_79 : decode cL_cuts 79 = .ok (.iconst 4, 1) := by decide +kernel
theorem dL_cuts_80 : decode cL_cuts 80 = .ok (.iload 5, 2) := by decide +kernel
theorem dL_cuts_82 : decode cL_cuts 82 = .ok (.imul, 1) := by decide +kernel
theorem dL_cuts_83 : decode cL_cuts 83 = .ok (.iload 6, 2) := by decide +kernel
theorem dL_cuts_85 : decode cL_cuts 85 = .ok (.iadd, 1) := by decide +kernel
theorem dL_cuts_86 : decode cL_cuts 86 = .ok (.dup2, 1) := by decide +kernel
theorem dL_cuts_87 : decode cL_cuts 87 = .ok (.iaload, 1) := by decide +kernel
theorem dL_cuts_88 : decode cL_cuts 88 = .ok (.iload 7, 2) := by decide +kernel
theorem dL_cuts_90 : decode cL_cuts 90 = .ok (.iadd, 1) := by decide +kernel
theorem dL_cuts_91 : decode cL_cuts 91 = .ok (.iastore, 1) := by decide +kernel
theorem dL_cuts_92 : decode cL_cuts 92 = .ok (.aload_n 1, 1) := by decide +kernel
theorem dL_cuts_93 : decode cL_cuts 93 = .ok (.bipush 8, 2) := by decide +kernel
theorem dL_cuts_95 : decode cL_cuts 95 = .ok (.iload 5, 2) := by decide +kernel
theorem dL_cuts_97 : decode cL_cuts 97 = .ok (.imul, 1) := by decide +kernel
theorem dL_cuts_98 : decode cL_cuts 98 = .ok (.iconst 3, 1) := by decide +kernel
theorem dL_cuts_99 : decode cL_cuts 99 = .ok (.iadd, 1) := by decide +kernel
theorem dL_cuts_100 : decode cL_cuts 100 = .ok (.dup2, 1) := by decide +kernel
theorem dL_cuts_101 : decode cL_cuts 101 = .ok (.iaload, 1) := by decide +kernel
theorem dL_cuts_102 : decode cL_cuts 102 = .ok (.iload 7, 2) := by decide +kernel
theorem dL_cuts_104 : decode cL_cuts 104 = .ok (.iadd, 1) := by decide +kernel
theorem dL_cuts_105 : decode cL_cuts 105 = .ok (.iastore, 1) := by decide +kernel
theorem dL_cuts_106 : decode cL_cuts 106 = .ok (.aload_n 3, 1) := by decide +kernel
theorem dL_cuts_107 : decode cL_cuts 107 = .ok (.iconst 4, 1) := by decide +kernel
theorem dL_cuts_108 : decode cL_cuts 108 = .ok (.iload 4, 2) := by decide +kernel
theorem dL_cuts_110 : decode cL_cuts 110 = .ok (.imul, 1) := by decide +kernel
theorem dL_cuts_111 : decode cL_cuts 111 = .ok (.iconst 3, 1) := by decide +kernel
theorem dL_cuts_112 : decode cL_cuts 112 = .ok (.iadd, 1) := by decide +kernel
theorem dL_cuts_113 : decode cL_cuts 113 = .ok (.dup2, 1) := by decide +kernel
theorem dL_cuts_114 : decode cL_cuts 114 = .ok (.iaload, 1) := by decide +kernel
theorem dL_cuts_115 : decode cL_cuts 115 = .ok (.iload 7, 2) := by decide +kernel
theorem dL_cuts_117 : decode cL_cuts 117 = .ok (.iadd, 1) := by decide +kernel
theorem dL_cuts_118 : decode cL_cuts 118 = .ok (.iastore, 1) := by decide +kernel
theorem dL_cuts_119 : decode cL_cuts 119 = .ok (.iinc 4 1, 3) := by decide +kernel
theorem dL_cuts_122 : decode cL_cuts 122 = .ok (.goto (-119), 3) := by decide +kernel
theorem dL_cuts_125 : decode cL_cuts 125 = .ok (.return_, 1) := by decide +kernel
set_option maxRecDepth 20000 in
theorem ggL_weather_L_half : GoodIn wsL_weather wsL_half := goodIn_r _ [4] (by decide +kernel) (by decide +kernel)
set_option maxRecDepth 20000 in
theorem gL_weather_L_half : GoodIn wsL_weather (va_wsS RL 72 yL_half wsL_half) := goodIn_app (goodIn_of _ (by decide +kernel)) ggL_weather_L_half
theorem dL_weather_0 : decode cL_weather 0 = .ok (.iconst 0, 1) := by decide +kernel
theorem dL_weather_1 : decode cL_weather 1 = .ok (.istore 4, 2) := by decide +kernel
theorem dL_weather_3 : decode cL_weather 3 = .ok (.iload 4, 2) := by decide +kernel
theorem dL_weather_5 : decode cL_weather 5 = .ok (.bipush 20, 2) := by decide +kernel
theorem dL_weather_7 : decode cL_weather 7 = .ok (.if_icmp .ge 142, 3) := by decide +kernel
theorem dL_weather_10 : decode cL_weather 10 = .ok (.iload_n 0, 1) := by decide +kernel
theorem dL_weather_11 : decode cL_weather 11 = .ok (.bipush 7, 2) := by decide +kernel
theorem dL_weather_13 : decode cL_weather 13 = .ok (.if_icmp .lt 53, 3) := by decide +kernel
theorem dL_weather_16 : decode cL_weather 16 = .ok (.aload_n 1, 1) := by decide +kernel
theorem dL_weather_17 : decode cL_weather 17 = .ok (.iload 4, 2) := by decide +kernel
theorem dL_weather_19 : decode cL_weather 19 = .ok (.dup2, 1) := by decide +kernel
theorem dL_weather_20 : decode cL_weather 20 = .ok (.iaload, 1) := by decide +kernel
theorem dL_weather_21 : decode cL_weather 21 = .ok (.aload_n 3, 1) := by decide +kernel
theorem dL_weather_22 : decode cL_weather 22 = .ok (.iload 4, 2) := by decide +kernel
theorem dL_weather_24 : decode cL_weather 24 = .ok (.iaload, 1) := by decide +kernel
theorem dL_weather_25 : decode cL_weather 25 = .ok (.invokestatic 72, 3) := by decide +kernel
theorem dL_weather_28 : decode cL_weather 28 = .ok (.aload_n 2, 1) := by decide +kernel
theorem dL_weather_29 : decode cL_weather 29 = .ok (.iload 4, 2) := by decide +kernel
theorem dL_weather_31 : decode cL_weather 31 = .ok (.iaload, 1) := by decide +kernel
theorem dL_weather_32 : decode cL_weather 32 = .ok (.invokestatic 72, 3) := by decide +kernel
theorem dL_weather_35 : decode cL_weather 35 = .ok (.iadd, 1) := by decide +kernel
theorem dL_weather_36 : decode cL_weather 36 = .ok (.iadd, 1) := by decide +kernel
theorem dL_weather_37 : decode cL_weather 37 = .ok (.iastore, 1) := by decide +kernel
theorem dL_weather_38 : decode cL_weather 38 = .ok (.aload_n 3, 1) := by decide +kernel
theorem dL_weather_39 : decode cL_weather 39 = .ok (.iload 4, 2) := by decide +kernel
theorem dL_weather_41 : decode cL_weather 41 = .ok (.dup2, 1) := by decide +kernel
theorem dL_weather_42 : decode cL_weather 42 = .ok (.iaload, 1) := by decide +kernel
theorem dL_weather_43 : decode cL_weather 43 = .ok (.aload_n 3, 1) := by decide +kernel
theorem dL_weather_44 : decode cL_weather 44 = .ok (.iload 4, 2) := by decide +kernel
theorem dL_weather_46 : decode cL_weather 46 = .ok (.iaload, 1) := by decide +kernel
theorem dL_weather_47 : decode cL_weather 47 = .ok (.invokestatic 72, 3) := by decide +kernel
theorem dL_weather_50 : decode cL_weather 50 = .ok (.isub, 1) := by decide +kernel
theorem dL_weather_51 : decode cL_weather 51 = .ok (.iastore, 1) := by decide +kernel
theorem dL_weather_52 : decode cL_weather 52 = .ok (.aload_n 2, 1) := by decide +kernel
theorem dL_weather_53 : decode cL_weather 53 = .ok (.iload 4, 2) := by decide +kernel
theorem dL_weather_55 : decode cL_weather 55 = .ok (.dup2, 1) := by decide +kernel
theorem dL_weather_56 : decode cL_weather 56 = .ok (.iaload, 1) := by decide +kernel
theorem dL_weather_57 : decode cL_weather 57 = .ok (.aload_n 2, 1) := by decide +kernel
theorem dL_weather_58 : decode cL_weather 58 = .ok (.iload 4, 2) := by decide +kernel
theorem dL_weather_60 : decode cL_weather 60 = .ok (.iaload, 1) := by decide +kernel
theorem dL_weather_61 : decode cL_weather 61 = .ok (.invokestatic 72, 3) := by decide +kernel
theorem dL_weather_64 : decode cL_weather 64 = .ok (.isub, 1) := by decide +kernel
theorem dL_weather_65 : decode cL_weather 65 = .ok (.iastore, 1) := by decide +kernel
theorem dL_weather_66 : decode cL_weather 66 = .ok (.iload_n 0, 1) := by decide +kernel
theorem dL_weather_67 : decode cL_weather 67 = .ok (.iconst 3, 1) := by decide +kernel
theorem dL_weather_68 : decode cL_weather 68 = .ok (.if_icmp .gt 75, 3) := by decide +kernel
theorem dL_weather_71 : decode cL_weather 71 = .ok (.aload_n 2, 1) := by decide +kernel
theorem dL_weather_72 : decode cL_weather 72 = .ok (.iload 4, 2) := by decide +kernel
theorem dL_weather_74 : decode cL_weather 74 = .ok (.iaload, 1) := by decide +kernel
theorem dL_weather_75 : decode cL_weather 75 = .ok (.iconst 3, 1) := by decide +kernel
theorem dL_weather_76 : decode cL_weather 76 = .ok (.idiv, 1) := by decide +kernel
theorem dL_weather_77 : decode cL_weather 77 = .ok (.iconst 1, 1) := by decide +kernel
theorem dL_weather_78 : decode cL_weather 78 = .ok (.iadd, 1) := by decide +kernel
theorem dL_weather_79 : decode cL_weather 79 = .ok (.aload_n 2, 1) := by decide +kernel
theorem dL_weather_80 : decode cL_weather 80 = .ok (.iload 4, 2) := by decide +kernel
theorem dL_weather_82 : decode cL_weather 82 = .ok (.iaload, 1) := by decide +kernel
theorem dL_weather_83 : decode cL_weather 83 = .ok (.if_icmp .le 10, 3) := by decide +kernel
theorem dL_weather_86 : decode cL_weather 86 = .ok (.aload_n 2, 1) := by decide +kernel
theorem dL_weather_87 : decode cL_weather 87 = .ok (.iload 4, 2) := by decide +kernel
theorem dL_weather_89 : decode cL_weather 89 = .ok (.iaload, 1) := by decide +kernel
theorem dL_weather_90 : decode cL_weather 90 = .ok (.goto 11, 3) := by decide +kernel
theorem dL_weather_93 : decode cL_weather 93 = .ok (.aload_n 2, 1) := by decide +kernel
theorem dL_weather_94 : decode cL_weather 94 = .ok (.iload 4, 2) := by decide +kernel
theorem dL_weather_96 : decode cL_weather 96 = .ok (.iaload, 1) := by decide +kernel
theorem dL_weather_97 : decode cL_weather 97 = .ok (.iconst 3, 1) := by decide +kernel
theorem dL_weather_98 : decode cL_weather 98 = .ok (.idiv, 1) := by decide +kernel
theorem dL_weather_99 : decode cL_weather 99 = .ok (.iconst 1, 1) := by decide +kernel
theorem dL_weather_100 : decode cL_weather 100 = .ok (.iadd, 1) := by decide +kernel
theorem dL_weather_101 : decode cL_weather 101 = .ok (.istore 5, 2) := by decide +kernel
theorem dL_weather_103 : decode cL_weather 103 = .ok (.aload_n 3, 1) := by decide +kernel
theorem dL_weather_104 : decode cL_weather 104 = .ok (.iload 4, 2) := by decide +kernel
theorem dL_weather_106 : decode cL_weather 106 = .ok (.dup2, 1) := by decide +kernel
theorem dL_weather_107 : decode cL_weather 107 = .ok (.iaload, 1) := by decide +kernel
theorem dL_weather_108 : decode cL_weather 108 = .ok (.iload 5, 2) := by decide +kernel
theorem dL_weather_110 : decode cL_weather 110 = .ok (.iadd, 1) := by decide +kernel
theorem dL_weather_111 : decode cL_weather 111 = .ok (.iastore, 1) := by decide +kernel
theorem dL_weather_112 : decode cL_weather 112 = .ok (.aload_n 2, 1) := by decide +kernel
theorem dL_weather_113 : decode cL_weather 113 = .ok (.iload 4, 2) := by decide +kernel
theorem dL_weather_115 : decode cL_weather 115 = .ok (.dup2, 1) := by decide +kernel
theorem dL_weather_116 : decode cL_weather 116 = .ok (.iaload, 1) := by decide +kernel
theorem dL_weather_117 : decode cL_weather 117 = .ok (.aload_n 1, 1) := by decide +kernel
theorem dL_weather_118 : decode cL_weather 118 = .ok (.iload 4, 2) := by decide +kernel
theorem dL_weather_120 : decode cL_weather 120 = .ok (.iaload, 1) := by decide +kernel
theorem dL_weather_121 : decode cL_weather 121 = .ok (.invokestatic 72, 3) := by decide +kernel
theorem dL_weather_124 : decode cL_weather 124 = .ok (.iload 5, 2) := by decide +kernel
theorem dL_weather_126 : decode cL_weather 126 = .ok (.isub, 1) := by decide +kernel
theorem dL_weather_127 : decode cL_weather 127 = .ok (.iadd, 1) := by decide +kernel
theorem dL_weather_128 : decode cL_weather 128 = .ok (.iastore, 1) := by decide +kernel
theorem dL_weather_129 : decode cL_weather 129 = .ok (.aload_n 1, 1) := by decide +kernel
theorem dL_weather_130 : decode cL_weather 130 = .ok (.iload 4, 2) := by decide +kernel
theorem dL_weather_132 : decode cL_weather 132 = .ok (.dup2, 1) := by decide +kernel
theorem dL_weather_133 : decode cL_weather 133 = .ok (.iaload, 1) := by decide +kernel
theorem dL_weather_134 : decode cL_weather 134 = .ok (.aload_n 1, 1) := by decide +kernel
theorem dL_weather_135 : decode cL_weather 135 = .ok (.iload 4, 2) := by decide +kernel
theorem dL_weather_137 : decode cL_weather 137 = .ok (.iaload, 1) := by decide +kernel
theorem dL_weather_138 : decode cL_weather 138 = .ok (.invokestatic 72, 3) := by decide +kernel
theorem dL_weather_141 : decode cL_weather 141 = .ok (.isub, 1) := by decide +kernel
theorem dL_weather_142 : decode cL_weather 142 = .ok (.iastore, 1) := by decide +kernel
theorem dL_weather_143 : decode cL_weather 143 = .ok (.iinc 4 1, 3) := by decide +kernel
theorem dL_weather_146 : decode cL_weather 146 = .ok (.goto (-143), 3) := by decide +kernel
theorem dL_weather_149 : decode cL_weather 149 = .ok (.return_, 1) := by decide +kernel
theorem dL_carts_0 : decode cL_carts 0 = .ok (.iconst 0, 1) := by decide +kernel
theorem dL_carts_1 : decode cL_carts 1 = .ok (.istore_n 3, 1) := by decide +kernel
theorem dL_carts_2 : decode cL_carts 2 = .ok (.iconst 0, 1) := by decide +kernel
theorem dL_carts_3 : decode cL_carts 3 = .ok (.istore 4, 2) := by decide +kernel
theorem dL_carts_5 : decode cL_carts 5 = .ok (.iload 4, 2) := by decide +kernel
theorem dL_carts_7 : decode cL_carts 7 = .ok (.iconst 4, 1) := by decide +kernel
theorem dL_carts_8 : decode cL_carts 8 = .ok (.if_icmp .ge 269, 3) := by decide +kernel
theorem dL_carts_11 : decode cL_carts 11 = .ok (.aload_n 0, 1) := by decide +kernel
theorem dL_carts_12 : decode cL_carts 12 = .ok (.bipush 9, 2) := by decide +kernel
theorem dL_carts_14 : decode cL_carts 14 = .ok (.iload 4, 2) := by decide +kernel
theorem dL_carts_16 : decode cL_carts 16 = .ok (.iadd, 1) := by decide +kernel
theorem dL_carts_17 : decode cL_carts 17 = .ok (.iaload, 1) := by decide +kernel
theorem dL_carts_18 : decode cL_carts 18 = .ok (.istore 5, 2) := by decide +kernel
theorem dL_carts_20 : decode cL_carts 20 = .ok (.aload_n 0, 1) := by decide +kernel
theorem dL_carts_21 : decode cL_carts 21 = .ok (.iconst 0, 1) := by decide +kernel
theorem dL_carts_22 : decode cL_carts 22 = .ok (.iaload, 1) := by decide +kernel
theorem dL_carts_23 : decode cL_carts 23 = .ok (.iconst 5, 1) := by decide +kernel
theorem dL_carts_24 : decode cL_carts 24 = .ok (.irem, 1) := by decide +kernel
theorem dL_carts_25 : decode cL_carts 25 = .ok (.istore 6, 2) := by decide +kernel
theorem dL_carts_27 : decode cL_carts 27 = .ok (.iconst 0, 1) := by decide +kernel
theorem dL_carts_28 : decode cL_carts 28 = .ok (.istore 7, 2) := by decide +kernel
theorem dL_carts_30 : decode cL_carts 30 = .ok (.iload 7, 2) := by decide +kernel
theorem dL_carts_32 : decode cL_carts 32 = .ok (.iconst 5, 1) := by decide +kernel
theorem dL_carts_33 : decode cL_carts 33 = .ok (.if_icmp .ge 238, 3) := by decide +kernel
theorem dL_carts_36 : decode cL_carts 36 = .ok (.aload_n 2, 1) := by decide +kernel
theorem dL_carts_37 : decode cL_carts 37 = .ok (.iconst 4, 1) := by decide +kernel
theorem dL_carts_38 : decode cL_carts 38 = .ok (.iload 6, 2) := by decide +kernel
theorem dL_carts_40 : decode cL_carts 40 = .ok (.imul, 1) := by decide +kernel
theorem dL_carts_41 : decode cL_carts 41 = .ok (.iload 4, 2) := by decide +kernel
theorem dL_carts_43 : decode cL_carts 43 = .ok (.iadd, 1) := by decide +kernel
theorem dL_carts_44 : decode cL_carts 44 = .ok (.iaload, 1) := by decide +kernel
theorem dL_carts_45 : decode cL_carts 45 = .ok (.iload 5, 2) := by decide +kernel
theorem dL_carts_47 : decode cL_carts 47 = .ok (.if_icmp .le 8, 3) := by decide +kernel
theorem dL_carts_50 : decode cL_carts 50 = .ok (.iload 5, 2) := by decide +kernel
theorem dL_carts_52 : decode cL_carts 52 = .ok (.goto 12, 3) := by decide +kernel
theorem dL_carts_55 : decode cL_carts 55 = .ok (.aload_n 2, 1) := by decide +kernel
theorem dL_carts_56 : decode cL_carts 56 = .ok (.iconst 4, 1) := by decide +kernel
theorem dL_carts_57 : decode cL_carts 57 = .ok (.iload 6, 2) := by decide +kernel
theorem dL_carts_59 : decode cL_carts 59 = .ok (.imul, 1) := by decide +kernel
theorem dL_carts_60 : decode cL_carts 60 = .ok (.iload 4, 2) := by decide +kernel
theorem dL_carts_62 : decode cL_carts 62 = .ok (.iadd, 1) := by decide +kernel
theorem dL_carts_63 : decode cL_carts 63 = .ok (.iaload, 1) := by decide +kernel
theorem dL_carts_64 : decode cL_carts 64 = .ok (.istore 8, 2) := by decide +kernel
theorem dL_carts_66 : decode cL_carts 66 = .ok (.iconst (-1), 1) := by decide +kernel
theorem dL_carts_67 : decode cL_carts 67 = .ok (.istore 9, 2) := by decide +kernel
theorem dL_carts_69 : decode cL_carts 69 = .ok (.iload 5, 2) := by decide +kernel
theorem dL_carts_71 : decode cL_carts 71 = .ok (.iload 8, 2) := by decide +kernel
theorem dL_carts_73 : decode cL_carts 73 = .ok (.isub, 1) := by decide +kernel
theorem dL_carts_74 : decode cL_carts 74 = .ok (.istore 5, 2) := by decide +kernel
theorem dL_carts_76 : decode cL_carts 76 = .ok (.iload_n 3, 1) := by decide +kernel
theorem dL_carts_77 : decode cL_carts 77 = .ok (.iload 8, 2) := by decide +kernel
theorem dL_carts_79 : decode cL_carts 79 = .ok (.iadd, 1) := by decide +kernel
theorem dL_carts_80 : decode cL_carts 80 = .ok (.istore_n 3, 1) := by decide +kernel
theorem dL_carts_81 : decode cL_carts 81 = .ok (.aload_n 2, 1) := by decide +kernel
theorem dL_carts_82 : decode cL_carts 82 = .ok (.iconst 4, 1) := by decide +kernel
theorem dL_carts_83 : decode cL_carts 83 = .ok (.iload 6, 2) := by decide +kernel
theorem dL_carts_85 : decode cL_carts 85 = .ok (.imul, 1) := by decide +kernel
theorem dL_carts_86 : decode cL_carts 86 = .ok (.iload 4, 2) := by decide +kernel
theorem dL_carts_88 : decode cL_carts 88 = .ok (.iadd, 1) := by decide +kernel
theorem dL_carts_89 : decode cL_carts 89 = .ok (.dup2, 1) := by decide +kernel
theorem dL_carts_90 : decode cL_carts 90 = .ok (.iaload, 1) := by decide +kernel
theorem dL_carts_91 : decode cL_carts 91 = .ok (.iload 8, 2) := by decide +kernel
theorem dL_carts_93 : decode cL_carts 93 = .ok (.isub, 1) := by decide +kernel
theorem dL_carts_94 : decode cL_carts 94 = .ok (.iastore, 1) := by decide +kernel
theorem dL_carts_95 : decode cL_carts 95 = .ok (.iconst 4, 1) := by decide +kernel
theorem dL_carts_96 : decode cL_carts 96 = .ok (.istore 10, 2) := by decide +kernel
theorem dL_carts_98 : decode cL_carts 98 = .ok (.iload 10, 2) := by decide +kernel
theorem dL_carts_100 : decode cL_carts 100 = .ok (.ifCond .lt 55, 3) := by decide +kernel
theorem dL_carts_103 : decode cL_carts 103 = .ok (.aload_n 1, 1) := by decide +kernel
theorem dL_carts_104 : decode cL_carts 104 = .ok (.bipush 8, 2) := by decide +kernel
theorem dL_carts_106 : decode cL_carts 106 = .ok (.iload 10, 2) := by decide +kernel
theorem dL_carts_108 : decode cL_carts 108 = .ok (.imul, 1) := by decide +kernel
theorem dL_carts_109 : decode cL_carts 109 = .ok (.iaload, 1) := by decide +kernel
theorem dL_carts_110 : decode cL_carts 110 = .ok (.iconst 1, 1) := by decide +kernel
theorem dL_carts_111 : decode cL_carts 111 = .ok (.if_icmp .ne 34, 3) := by decide +kernel
theorem dL_carts_114 : decode cL_carts 114 = .ok (.iload 9, 2) := by decide +kernel
theorem dL_carts_116 : decode cL_carts 116 = .ok (.ifCond .lt 24, 3) := by decide +kernel
theorem dL_carts_119 : decode cL_carts 119 = .ok (.aload_n 1, 1) := by decide +kernel
theorem dL_carts_120 : decode cL_carts 120 = .ok (.bipush 8, 2) := by decide +kernel
theorem dL_carts_122 : decode cL_carts 122 = .ok (.iload 10, 2) := by decide +kernel
theorem dL_carts_124 : decode cL_carts 124 = .ok (.imul, 1) := by decide +kernel
theorem dL_carts_125 : decode cL_carts 125 = .ok (.iconst 2, 1) := by decide +kernel
theorem dL_carts_126 : decode cL_carts 126 = .ok (.iadd, 1) := by decide +kernel
theorem dL_carts_127 : decode cL_carts 127 = .ok (.iaload, 1) := by decide +kernel
theorem dL_carts_128 : decode cL_carts 128 = .ok (.aload_n 1, 1) := by decide +kernel
theorem dL_carts_129 : decode cL_carts 129 = .ok (.bipush 8, 2) := by decide +kernel
theorem dL_carts_131 : decode cL_carts 131 = .ok (.iload 9, 2) := by decide +kernel
theorem dL_carts_133 : decode cL_carts 133 = .ok (.imul, 1) := by decide +kernel
theorem dL_carts_134 : decode cL_carts 134 = .ok (.iconst 2, 1) := by decide +kernel
theorem dL_carts_135 : decode cL_carts 135 = .ok (.iadd, 1) := by decide +kernel
theorem dL_carts_136 : decode cL_carts 136 = .ok (.iaload, 1) := by decide +kernel
theorem dL_carts_137 : decode cL_carts 137 = .ok (.if_icmp .gt 8, 3) := by decide +kernel
theorem dL_carts_140 : decode cL_carts 140 = .ok (.iload 10, 2) := by decide +kernel
theorem dL_carts_142 : decode cL_carts 142 = .ok (.goto 5, 3) := by decide +kernel
theorem dL_carts_145 : decode cL_carts 145 = .ok (.iload 9, 2) := by decide +kernel
theorem dL_carts_147 : decode cL_carts 147 = .ok (.istore 9, 2) := by decide +kernel
theorem dL_carts_149 : decode cL_carts 149 = .ok (.iinc 10 (-1), 3) := by decide +kernel
theorem dL_carts_152 : decode cL_carts 152 = .ok (.goto (-54), 3) := by decide +kernel
theorem dL_carts_155 : decode cL_carts 155 = .ok (.aload_n 1, 1) := by decide +kernel
theorem dL_carts_156 : decode cL_carts 156 = .ok (.bipush 8, 2) := by decide +kernel
theorem dL_carts_158 : decode cL_carts 158 = .ok (.iload 6, 2) := by decide +kernel
theorem dL_carts_160 : decode cL_carts 160 = .ok (.imul, 1) := by decide +kernel
theorem dL_carts_161 : decode cL_carts 161 = .ok (.iaload, 1) := by decide +kernel
theorem dL_carts_162 : decode cL_carts 162 = .ok (.ifCond .ne 20, 3) := by decide +kernel
theorem dL_carts_165 : decode cL_carts 165 = .ok (.iload 9, 2) := by decide +kernel
theorem dL_carts_167 : decode cL_carts 167 = .ok (.ifCond .lt 15, 3) := by decide +kernel
theorem dL_carts_170 : decode cL_carts 170 = .ok (.iload 8, 2) := by decide +kernel
theorem dL_carts_172 : decode cL_carts 172 = .ok (.aload_n 0, 1) := by decide +kernel
theorem dL_carts_173 : decode cL_carts 173 = .ok (.iconst 3, 1) := by decide +kernel
theorem dL_carts_174 : decode cL_carts 174 = .ok (.iaload, 1) := by decide +kernel
theorem dL_carts_175 : decode cL_carts 175 = .ok (.imul, 1) := by decide +kernel
theorem dL_carts_176 : decode cL_carts 176 = .ok (.bipush 100, 2) := by decide +kernel
theorem dL_carts_178 : decode cL_carts 178 = .ok (.idiv, 1) := by decide +kernel
theorem dL_carts_179 : decode cL_carts 179 = .ok (.goto 4, 3) := by decide +kernel
theorem dL_carts_182 : decode cL_carts 182 = .ok (.iconst 0, 1) := by decide +kernel
theorem dL_carts_183 : decode cL_carts 183 = .ok (.istore 10, 2) := by decide +kernel
theorem dL_carts_185 : decode cL_carts 185 = .ok (.aload_n 1, 1) := by decide +kernel
theorem dL_carts_186 : decode cL_carts 186 = .ok (.bipush 8, 2) := by decide +kernel
theorem dL_carts_188 : decode cL_carts 188 = .ok (.iload 6, 2) := by decide +kernel
theorem dL_carts_190 : decode cL_carts 190 = .ok (.imul, 1) := by decide +kernel
theorem dL_carts_191 : decode cL_carts 191 = .ok (.iconst 2, 1) := by decide +kernel
theorem dL_carts_192 : decode cL_carts 192 = .ok (.iadd, 1) := by decide +kernel
theorem dL_carts_193 : decode cL_carts 193 = .ok (.dup2, 1) := by decide +kernel
theorem dL_carts_194 : decode cL_carts 194 = .ok (.iaload, 1) := by decide +kernel
theorem dL_carts_195 : decode cL_carts 195 = .ok (.iload 8, 2) := by decide +kernel
theorem dL_carts_197 : decode cL_carts 197 = .ok (.iload 10, 2) := by decide +kernel
theorem dL_carts_199 : decode cL_carts 199 = .ok (.isub, 1) := by decide +kernel
theorem dL_carts_200 : decode cL_carts 200 = .ok (.iadd, 1) := by decide +kernel
theorem dL_carts_201 : decode cL_carts 201 = .ok (.iastore, 1) := by decide +kernel
theorem dL_carts_202 : decode cL_carts 202 = .ok (.aload_n 1, 1) := by decide +kernel
theorem dL_carts_203 : decode cL_carts 203 = .ok (.bipush 8, 2) := by decide +kernel
theorem dL_carts_205 : decode cL_carts 205 = .ok (.iload 6, 2) := by decide +kernel
theorem dL_carts_207 : decode cL_carts 207 = .ok (.imul, 1) := by decide +kernel
theorem dL_carts_208 : decode cL_carts 208 = .ok (.iconst 5, 1) := by decide +kernel
theorem dL_carts_209 : decode cL_carts 209 = .ok (.iadd, 1) := by decide +kernel
theorem dL_carts_210 : decode cL_carts 210 = .ok (.dup2, 1) := by decide +kernel
theorem dL_carts_211 : decode cL_carts 211 = .ok (.iaload, 1) := by decide +kernel
theorem dL_carts_212 : decode cL_carts 212 = .ok (.iload 10, 2) := by decide +kernel
theorem dL_carts_214 : decode cL_carts 214 = .ok (.iadd, 1) := by decide +kernel
theorem dL_carts_215 : decode cL_carts 215 = .ok (.iastore, 1) := by decide +kernel
theorem dL_carts_216 : decode cL_carts 216 = .ok (.iload 10, 2) := by decide +kernel
theorem dL_carts_218 : decode cL_carts 218 = .ok (.ifCond .le 31, 3) := by decide +kernel
theorem dL_carts_221 : decode cL_carts 221 = .ok (.aload_n 1, 1) := by decide +kernel
theorem dL_carts_222 : decode cL_carts 222 = .ok (.bipush 8, 2) := by decide +kernel
theorem dL_carts_224 : decode cL_carts 224 = .ok (.iload 9, 2) := by decide +kernel
theorem dL_carts_226 : decode cL_carts 226 = .ok (.imul, 1) := by decide +kernel
theorem dL_carts_227 : decode cL_carts 227 = .ok (.iconst 2, 1) := by decide +kernel
theorem dL_carts_228 : decode cL_carts 228 = .ok (.iadd, 1) := by decide +kernel
theorem dL_carts_229 : decode cL_carts 229 = .ok (.dup2, 1) := by decide +kernel
theorem dL_carts_230 : decode cL_carts 230 = .ok (.iaload, 1) := by decide +kernel
theorem dL_carts_231 : decode cL_carts 231 = .ok (.iload 10, 2) := by decide +kernel
theorem dL_carts_233 : decode cL_carts 233 = .ok (.iadd, 1) := by decide +kernel
theorem dL_carts_234 : decode cL_carts 234 = .ok (.iastore, 1) := by decide +kernel
theorem dL_carts_235 : decode cL_carts 235 = .ok (.aload_n 1, 1) := by decide +kernel
theorem dL_carts_236 : decode cL_carts 236 = .ok (.bipush 8, 2) := by decide +kernel
theorem dL_carts_238 : decode cL_carts 238 = .ok (.iload 9, 2) := by decide +kernel
theorem dL_carts_240 : decode cL_carts 240 = .ok (.imul, 1) := by decide +kernel
theorem dL_carts_241 : decode cL_carts 241 = .ok (.iconst 4, 1) := by decide +kernel
theorem dL_carts_242 : decode cL_carts 242 = .ok (.iadd, 1) := by decide +kernel
theorem dL_carts_243 : decode cL_carts 243 = .ok (.dup2, 1) := by decide +kernel
theorem dL_carts_244 : decode cL_carts 244 = .ok (.iaload, 1) := by decide +kernel
theorem dL_carts_245 : decode cL_carts 245 = .ok (.iload 10, 2) := by decide +kernel
theorem dL_carts_247 : decode cL_carts 247 = .ok (.iadd, 1) := by decide +kernel
theorem dL_carts_248 : decode cL_carts 248 = .ok (.iastore, 1) := by decide +kernel
theorem dL_carts_249 : decode cL_carts 249 = .ok (.iload 6, 2) := by decide +kernel
theorem dL_carts_251 : decode cL_carts 251 = .ok (.iconst 4, 1) := by decide +kernel
theorem dL_carts_252 : decode cL_carts 252 = .ok (.if_icmp .ne 7, 3) := by decide +kernel
theorem dL_carts_255 : decode cL_carts 255 = .ok (.iconst 0, 1) := by decide +kernel
theorem dL_carts_256 : decode cL_carts 256 = .ok (.goto 7, 3) := by decide +kernel
theorem dL_carts_259 : decode cL_carts 259 = .ok (.iload 6, 2) := by decide +kernel
theorem dL_carts_261 : decode cL_carts 261 = .ok (.iconst 1, 1) := by decide +kernel
theorem dL_carts_262 : decode cL_carts 262 = .ok (.iadd, 1) := by decide +kernel
theorem dL_carts_263 : decode cL_carts 263 = .ok (.istore 6, 2) := by decide +kernel
theorem dL_carts_265 : decode cL_carts 265 = .ok (.iinc 7 1, 3) := by decide +kernel
theorem dL_carts_268 : decode cL_carts 268 = .ok (.goto (-238), 3) := by decide +kernel
theorem dL_carts_271 : decode cL_carts 271 = .ok (.iinc 4 1, 3) := by decide +kernel
theorem dL_carts_274 : decode cL_carts 274 = .ok (.goto (-269), 3) := by decide +kernel
theorem dL_carts_277 : decode cL_carts 277 = .ok (.iload_n 3, 1) := by decide +kernel
theorem dL_carts_278 : decode cL_carts 278 = .ok (.ireturn, 1) := by decide +kernel
set_option maxRecDepth 20000 in
theorem ggL_days_L_weather : GoodIn wsL_days wsL_weather := goodIn_r _ [4, 5, 6, 3, 7] (by decide +kernel) (by decide +kernel)
set_option maxRecDepth 20000 in
theorem gL_days_L_weather : GoodIn wsL_days (va_wsS RL 77 yL_weather wsL_weather) := goodIn_app (goodIn_of _ (by decide +kernel)) ggL_days_L_weather
set_option maxRecDepth 20000 in
theorem ggL_days_L_cuts : GoodIn wsL_days wsL_cuts := goodIn_r _ [10] (by decide +kernel) (by decide +kernel)
set_option maxRecDepth 20000 in
theorem gL_days_L_cuts : GoodIn wsL_days (va_wsS RL 81 yL_cuts wsL_cuts) := goodIn_app (goodIn_of _ (by decide +kernel)) ggL_days_L_cuts
set_option maxRecDepth 20000 in
theorem ggL_days_L_carts : GoodIn wsL_days wsL_carts := goodIn_r _ [13] (by decide +kernel) (by decide +kernel)
set_option maxRecDepth 20000 in
theorem gL_days_L_carts : GoodIn wsL_days (va_wsS RL 85 yL_carts wsL_carts) := goodIn_app (goodIn_of _ (by decide +kernel)) ggL_days_L_carts
theorem dL_days_0 : decode cL_days 0 = .ok (.iconst 0, 1) := by decide +kernel
theorem dL_days_1 : decode cL_days 1 = .ok (.istore 7, 2) := by decide +kernel
theorem dL_days_3 : decode cL_days 3 = .ok (.iconst 0, 1) := by decide +kernel
theorem dL_days_4 : decode cL_days 4 = .ok (.istore 8, 2) := by decide +kernel
theorem dL_days_6 : decode cL_days 6 = .ok (.iload 8, 2) := by decide +kernel
theorem dL_days_8 : decode cL_days 8 = .ok (.iload_n 0, 1) := by decide +kernel
theorem dL_days_9 : decode cL_days 9 = .ok (.if_icmp .ge 171, 3) := by decide +kernel
theorem dL_days_12 : decode cL_days 12 = .ok (.aload_n 1, 1) := by decide +kernel
theorem dL_days_13 : decode cL_days 13 = .ok (.iconst 0, 1) := by decide +kernel
theorem dL_days_14 : decode cL_days 14 = .ok (.dup2, 1) := by decide +kernel
theorem dL_days_15 : decode cL_days 15 = .ok (.iaload, 1) := by decide +kernel
theorem dL_days_16 : decode cL_days 16 = .ok (.iconst 1, 1) := by decide +kernel
theorem dL_days_17 : decode cL_days 17 = .ok (.iadd, 1) := by decide +kernel
theorem dL_days_18 : decode cL_days 18 = .ok (.iastore, 1) := by decide +kernel
theorem dL_days_19 : decode cL_days 19 = .ok (.aload_n 1, 1) := by decide +kernel
theorem dL_days_20 : decode cL_days 20 = .ok (.iconst 1, 1) := by decide +kernel
theorem dL_days_21 : decode cL_days 21 = .ok (.iaload, 1) := by decide +kernel
theorem dL_days_22 : decode cL_days 22 = .ok (.iconst 1, 1) := by decide +kernel
theorem dL_days_23 : decode cL_days 23 = .ok (.if_icmp .ne 110, 3) := by decide +kernel
theorem dL_days_26 : decode cL_days 26 = .ok (.iconst 0, 1) := by decide +kernel
theorem dL_days_27 : decode cL_days 27 = .ok (.aload_n 3, 1) := by decide +kernel
theorem dL_days_28 : decode cL_days 28 = .ok (.aload 4, 2) := by decide +kernel
theorem dL_days_30 : decode cL_days 30 = .ok (.aload 5, 2) := by decide +kernel
theorem dL_days_32 : decode cL_days 32 = .ok (.invokestatic 77, 3) := by decide +kernel
theorem dL_days_35 : decode cL_days 35 = .ok (.iconst 0, 1) := by decide +kernel
theorem dL_days_36 : decode cL_days 36 = .ok (.istore 9, 2) := by decide +kernel
theorem dL_days_38 : decode cL_days 38 = .ok (.iload 9, 2) := by decide +kernel
theorem dL_days_40 : decode cL_days 40 = .ok (.iconst 5, 1) := by decide +kernel
theorem dL_days_41 : decode cL_days 41 = .ok (.if_icmp .ge 89, 3) := by decide +kernel
theorem dL_days_44 : decode cL_days 44 = .ok (.aload_n 2, 1) := by decide +kernel
theorem dL_days_45 : decode cL_days 45 = .ok (.bipush 8, 2) := by decide +kernel
theorem dL_days_47 : decode cL_days 47 = .ok (.iload 9, 2) := by decide +kernel
theorem dL_days_49 : decode cL_days 49 = .ok (.imul, 1) := by decide +kernel
theorem dL_days_50 : decode cL_days 50 = .ok (.iconst 2, 1) := by decide +kernel
theorem dL_days_51 : decode cL_days 51 = .ok (.iadd, 1) := by decide +kernel
theorem dL_days_52 : decode cL_days 52 = .ok (.iaload, 1) := by decide +kernel
theorem dL_days_53 : decode cL_days 53 = .ok (.aload_n 1, 1) := by decide +kernel
theorem dL_days_54 : decode cL_days 54 = .ok (.iconst 4, 1) := by decide +kernel
theorem dL_days_55 : decode cL_days 55 = .ok (.iaload, 1) := by decide +kernel
theorem dL_days_56 : decode cL_days 56 = .ok (.if_icmp .ge 15, 3) := by decide +kernel
theorem dL_days_59 : decode cL_days 59 = .ok (.aload_n 2, 1) := by decide +kernel
theorem dL_days_60 : decode cL_days 60 = .ok (.bipush 8, 2) := by decide +kernel
theorem dL_days_62 : decode cL_days 62 = .ok (.iload 9, 2) := by decide +kernel
theorem dL_days_64 : decode cL_days 64 = .ok (.imul, 1) := by decide +kernel
theorem dL_days_65 : decode cL_days 65 = .ok (.iconst 2, 1) := by decide +kernel
theorem dL_days_66 : decode cL_days 66 = .ok (.iadd, 1) := by decide +kernel
theorem dL_days_67 : decode cL_days 67 = .ok (.iaload, 1) := by decide +kernel
theorem dL_days_68 : decode cL_days 68 = .ok (.goto 6, 3) := by decide +kernel
theorem dL_days_71 : decode cL_days 71 = .ok (.aload_n 1, 1) := by decide +kernel
theorem dL_days_72 : decode cL_days 72 = .ok (.iconst 4, 1) := by decide +kernel
theorem dL_days_73 : decode cL_days 73 = .ok (.iaload, 1) := by decide +kernel
theorem dL_days_74 : decode cL_days 74 = .ok (.istore 10, 2) := by decide +kernel
theorem dL_days_76 : decode cL_days 76 = .ok (.aload_n 2, 1) := by decide +kernel
theorem dL_days_77 : decode cL_days 77 = .ok (.bipush 8, 2) := by decide +kernel
theorem dL_days_79 : decode cL_days 79 = .ok (.iload 9, 2) := by decide +kernel
theorem dL_days_81 : decode cL_days 81 = .ok (.imul, 1) := by decide +kernel
theorem dL_days_82 : decode cL_days 82 = .ok (.iconst 2, 1) := by decide +kernel
theorem dL_days_83 : decode cL_days 83 = .ok (.iadd, 1) := by decide +kernel
theorem dL_days_84 : decode cL_days 84 = .ok (.dup2, 1) := by decide +kernel
theorem dL_days_85 : decode cL_days 85 = .ok (.iaload, 1) := by decide +kernel
theorem dL_days_86 : decode cL_days 86 = .ok (.iload 10, 2) := by decide +kernel
theorem dL_days_88 : decode cL_days 88 = .ok (.isub, 1) := by decide +kernel
theorem dL_days_89 : decode cL_days 89 = .ok (.iastore, 1) := by decide +kernel
theorem dL_days_90 : decode cL_days 90 = .ok (.aload_n 2, 1) := by decide +kernel
theorem dL_days_91 : decode cL_days 91 = .ok (.bipush 8, 2) := by decide +kernel
theorem dL_days_93 : decode cL_days 93 = .ok (.iload 9, 2) := by decide +kernel
theorem dL_days_95 : decode cL_days 95 = .ok (.imul, 1) := by decide +kernel
theorem dL_days_96 : decode cL_days 96 = .ok (.bipush 6, 2) := by decide +kernel
theorem dL_days_98 : decode cL_days 98 = .ok (.iadd, 1) := by decide +kernel
theorem dL_days_99 : decode cL_days 99 = .ok (.dup2, 1) := by decide +kernel
theorem dL_days_100 : decode cL_days 100 = .ok (.iaload, 1) := by decide +kernel
theorem dL_days_101 : decode cL_days 101 = .ok (.iload 10, 2) := by decide +kernel
theorem dL_days_103 : decode cL_days 103 = .ok (.iadd, 1) := by decide +kernel
theorem dL_days_104 : decode cL_days 104 = .ok (.iastore, 1) := by decide +kernel
theorem dL_days_105 : decode cL_days 105 = .ok (.aload_n 2, 1) := by decide +kernel
theorem dL_days_106 : decode cL_days 106 = .ok (.bipush 8, 2) := by decide +kernel
theorem dL_days_108 : decode cL_days 108 = .ok (.iload 9, 2) := by decide +kernel
theorem dL_days_110 : decode cL_days 110 = .ok (.imul, 1) := by decide +kernel
theorem dL_days_111 : decode cL_days 111 = .ok (.bipush 7, 2) := by decide +kernel
theorem dL_days_113 : decode cL_days 113 = .ok (.iadd, 1) := by decide +kernel
theorem dL_days_114 : decode cL_days 114 = .ok (.dup2, 1) := by decide +kernel
theorem dL_days_115 : decode cL_days 115 = .ok (.iaload, 1) := by decide +kernel
theorem dL_days_116 : decode cL_days 116 = .ok (.aload_n 1, 1) := by decide +kernel
theorem dL_days_117 : decode cL_days 117 = .ok (.iconst 4, 1) := by decide +kernel
theorem dL_days_118 : decode cL_days 118 = .ok (.iaload, 1) := by decide +kernel
theorem dL_days_119 : decode cL_days 119 = .ok (.iload 10, 2) := by decide +kernel
theorem dL_days_121 : decode cL_days 121 = .ok (.isub, 1) := by decide +kernel
theorem dL_days_122 : decode cL_days 122 = .ok (.iadd, 1) := by decide +kernel
theorem dL_days_123 : decode cL_days 123 = .ok (.iastore, 1) := by decide +kernel
theorem dL_days_124 : decode cL_days 124 = .ok (.iinc 9 1, 3) := by decide +kernel
theorem dL_days_127 : decode cL_days 127 = .ok (.goto (-89), 3) := by decide +kernel
theorem dL_days_130 : decode cL_days 130 = .ok (.goto 44, 3) := by decide +kernel
theorem dL_days_133 : decode cL_days 133 = .ok (.aload_n 1, 1) := by decide +kernel
theorem dL_days_134 : decode cL_days 134 = .ok (.aload_n 2, 1) := by decide +kernel
theorem dL_days_135 : decode cL_days 135 = .ok (.aload_n 3, 1) := by decide +kernel
theorem dL_days_136 : decode cL_days 136 = .ok (.aload 6, 2) := by decide +kernel
theorem dL_days_138 : decode cL_days 138 = .ok (.invokestatic 81, 3) := by decide +kernel
theorem dL_days_141 : decode cL_days 141 = .ok (.bipush 7, 2) := by decide +kernel
theorem dL_days_143 : decode cL_days 143 = .ok (.aload_n 1, 1) := by decide +kernel
theorem dL_days_144 : decode cL_days 144 = .ok (.iconst 0, 1) := by decide +kernel
theorem dL_days_145 : decode cL_days 145 = .ok (.iaload, 1) := by decide +kernel
theorem dL_days_146 : decode cL_days 146 = .ok (.imul, 1) := by decide +kernel
theorem dL_days_147 : decode cL_days 147 = .ok (.aload_n 1, 1) := by decide +kernel
theorem dL_days_148 : decode cL_days 148 = .ok (.iconst 2, 1) := by decide +kernel
theorem dL_days_149 : decode cL_days 149 = .ok (.iaload, 1) := by decide +kernel
theorem dL_days_150 : decode cL_days 150 = .ok (.iadd, 1) := by decide +kernel
theorem dL_days_151 : decode cL_days 151 = .ok (.bipush 10, 2) := by decide +kernel
theorem dL_days_153 : decode cL_days 153 = .ok (.irem, 1) := by decide +kernel
theorem dL_days_154 : decode cL_days 154 = .ok (.aload_n 3, 1) := by decide +kernel
theorem dL_days_155 : decode cL_days 155 = .ok (.aload 4, 2) := by decide +kernel
theorem dL_days_157 : decode cL_days 157 = .ok (.aload 5, 2) := by decide +kernel
theorem dL_days_159 : decode cL_days 159 = .ok (.invokestatic 77, 3) := by decide +kernel
theorem dL_days_162 : decode cL_days 162 = .ok (.iload 7, 2) := by decide +kernel
theorem dL_days_164 : decode cL_days 164 = .ok (.aload_n 1, 1) := by decide +kernel
theorem dL_days_165 : decode cL_days 165 = .ok (.aload_n 2, 1) := by decide +kernel
theorem dL_days_166 : decode cL_days 166 = .ok (.aload 5, 2) := by decide +kernel
theorem dL_days_168 : decode cL_days 168 = .ok (.invokestatic 85, 3) := by decide +kernel
theorem dL_days_171 : decode cL_days 171 = .ok (.iadd, 1) := by decide +kernel
theorem dL_days_172 : decode cL_days 172 = .ok (.istore 7, 2) := by decide +kernel
theorem dL_days_174 : decode cL_days 174 = .ok (.iinc 8 1, 3) := by decide +kernel
theorem dL_days_177 : decode cL_days 177 = .ok (.goto (-171), 3) := by decide +kernel
theorem dL_days_180 : decode cL_days 180 = .ok (.iload 7, 2) := by decide +kernel
theorem dL_days_182 : decode cL_days 182 = .ok (.ireturn, 1) := by decide +kernel
theorem dL_workers_0 : decode cL_workers 0 = .ok (.iconst 0, 1) := by decide +kernel
theorem dL_workers_1 : decode cL_workers 1 = .ok (.istore_n 3, 1) := by decide +kernel
theorem dL_workers_2 : decode cL_workers 2 = .ok (.iconst 0, 1) := by decide +kernel
theorem dL_workers_3 : decode cL_workers 3 = .ok (.istore 4, 2) := by decide +kernel
theorem dL_workers_5 : decode cL_workers 5 = .ok (.iload 4, 2) := by decide +kernel
theorem dL_workers_7 : decode cL_workers 7 = .ok (.bipush 6, 2) := by decide +kernel
theorem dL_workers_9 : decode cL_workers 9 = .ok (.if_icmp .ge 60, 3) := by decide +kernel
theorem dL_workers_12 : decode cL_workers 12 = .ok (.iload_n 3, 1) := by decide +kernel
theorem dL_workers_13 : decode cL_workers 13 = .ok (.aload_n 2, 1) := by decide +kernel
theorem dL_workers_14 : decode cL_workers 14 = .ok (.iconst 4, 1) := by decide +kernel
theorem dL_workers_15 : decode cL_workers 15 = .ok (.iload 4, 2) := by decide +kernel
theorem dL_workers_17 : decode cL_workers 17 = .ok (.imul, 1) := by decide +kernel
theorem dL_workers_18 : decode cL_workers 18 = .ok (.iconst 1, 1) := by decide +kernel
theorem dL_workers_19 : decode cL_workers 19 = .ok (.iadd, 1) := by decide +kernel
theorem dL_workers_20 : decode cL_workers 20 = .ok (.iaload, 1) := by decide +kernel
theorem dL_workers_21 : decode cL_workers 21 = .ok (.ifCond .lt 39, 3) := by decide +kernel
theorem dL_workers_24 : decode cL_workers 24 = .ok (.iload_n 0, 1) := by decide +kernel
theorem dL_workers_25 : decode cL_workers 25 = .ok (.ifCond .lt 15, 3) := by decide +kernel
theorem dL_workers_28 : decode cL_workers 28 = .ok (.aload_n 2, 1) := by decide +kernel
theorem dL_workers_29 : decode cL_workers 29 = .ok (.iconst 4, 1) := by decide +kernel
theorem dL_workers_30 : decode cL_workers 30 = .ok (.iload 4, 2) := by decide +kernel
theorem dL_workers_32 : decode cL_workers 32 = .ok (.imul, 1) := by decide +kernel
theorem dL_workers_33 : decode cL_workers 33 = .ok (.iconst 1, 1) := by decide +kernel
theorem dL_workers_34 : decode cL_workers 34 = .ok (.iadd, 1) := by decide +kernel
theorem dL_workers_35 : decode cL_workers 35 = .ok (.iaload, 1) := by decide +kernel
theorem dL_workers_36 : decode cL_workers 36 = .ok (.iload_n 0, 1) := by decide +kernel
theorem dL_workers_37 : decode cL_workers 37 = .ok (.if_icmp .ne 23, 3) := by decide +kernel
theorem dL_workers_40 : decode cL_workers 40 = .ok (.iload_n 1, 1) := by decide +kernel
theorem dL_workers_41 : decode cL_workers 41 = .ok (.ifCond .lt 15, 3) := by decide +kernel
theorem dL_workers_44 : decode cL_workers 44 = .ok (.aload_n 2, 1) := by decide +kernel
theorem dL_workers_45 : decode cL_workers 45 = .ok (.iconst 4, 1) := by decide +kernel
theorem dL_workers_46 : decode cL_workers 46 = .ok (.iload 4, 2) := by decide +kernel
theorem dL_workers_48 : decode cL_workers 48 = .ok (.imul, 1) := by decide +kernel
theorem dL_workers_49 : decode cL_workers 49 = .ok (.iconst 2, 1) := by decide +kernel
theorem dL_workers_50 : decode cL_workers 50 = .ok (.iadd, 1) := by decide +kernel
theorem dL_workers_51 : decode cL_workers 51 = .ok (.iaload, 1) := by decide +kernel
theorem dL_workers_52 : decode cL_workers 52 = .ok (.iload_n 1, 1) := by decide +kernel
theorem dL_workers_53 : decode cL_workers 53 = .ok (.if_icmp .ne 7, 3) := by decide +kernel
theorem dL_workers_56 : decode cL_workers 56 = .ok (.iconst 1, 1) := by decide +kernel
theorem dL_workers_57 : decode cL_workers 57 = .ok (.goto 4, 3) := by decide +kernel
theorem dL_workers_60 : decode cL_workers 60 = .ok (.iconst 0, 1) := by decide +kernel
theorem dL_workers_61 : decode cL_workers 61 = .ok (.iadd, 1) := by decide +kernel
theorem dL_workers_62 : decode cL_workers 62 = .ok (.istore_n 3, 1) := by decide +kernel
theorem dL_workers_63 : decode cL_workers 63 = .ok (.iinc 4 1, 3) := by decide +kernel
theorem dL_workers_66 : decode cL_workers 66 = .ok (.goto (-61), 3) := by decide +kernel
theorem dL_workers_69 : decode cL_workers 69 = .ok (.iload_n 3, 1) := by decide +kernel
theorem dL_workers_70 : decode cL_workers 70 = .ok (.ireturn, 1) := by decide +kernel
set_option maxRecDepth 20000 in
theorem ggL_why_L_workers : GoodIn wsL_why wsL_workers := goodIn_r _ [4] (by decide +kernel) (by decide +kernel)
set_option maxRecDepth 20000 in
theorem gL_why_L_workers : GoodIn wsL_why (va_wsS RL 89 yL_workers wsL_workers) := goodIn_app (goodIn_of _ (by decide +kernel)) ggL_why_L_workers
theorem dL_why_0 : decode cL_why 0 = .ok (.aload_n 3, 1) := by decide +kernel
theorem dL_why_1 : decode cL_why 1 = .ok (.iconst 4, 1) := by decide +kernel
theorem dL_why_2 : decode cL_why 2 = .ok (.iload_n 0, 1) := by decide +kernel
theorem dL_why_3 : decode cL_why 3 = .ok (.imul, 1) := by decide +kernel
theorem dL_why_4 : decode cL_why 4 = .ok (.iload_n 1, 1) := by decide +kernel
theorem dL_why_5 : decode cL_why 5 = .ok (.iadd, 1) := by decide +kernel
theorem dL_why_6 : decode cL_why 6 = .ok (.iaload, 1) := by decide +kernel
theorem dL_why_7 : decode cL_why 7 = .ok (.istore 5, 2) := by decide +kernel
theorem dL_why_9 : decode cL_why 9 = .ok (.iload 5, 2) := by decide +kernel
theorem dL_why_11 : decode cL_why 11 = .ok (.ifCond .ne 7, 3) := by decide +kernel
theorem dL_why_14 : decode cL_why 14 = .ok (.iconst 1, 1) := by decide +kernel
theorem dL_why_15 : decode cL_why 15 = .ok (.goto 43, 3) := by decide +kernel
theorem dL_why_18 : decode cL_why 18 = .ok (.iload_n 0, 1) := by decide +kernel
theorem dL_why_19 : decode cL_why 19 = .ok (.iload_n 1, 1) := by decide +kernel
theorem dL_why_20 : decode cL_why 20 = .ok (.aload 4, 2) := by decide +kernel
theorem dL_why_22 : decode cL_why 22 = .ok (.invokestatic 89, 3) := by decide +kernel
theorem dL_why_25 : decode cL_why 25 = .ok (.iload 5, 2) := by decide +kernel
theorem dL_why_27 : decode cL_why 27 = .ok (.if_icmp .lt 7, 3) := by decide +kernel
theorem dL_why_30 : decode cL_why 30 = .ok (.iconst 2, 1) := by decide +kernel
theorem dL_why_31 : decode cL_why 31 = .ok (.goto 27, 3) := by decide +kernel
theorem dL_why_34 : decode cL_why 34 = .ok (.aload_n 2, 1) := by decide +kernel
theorem dL_why_35 : decode cL_why 35 = .ok (.iconst 5, 1) := by decide +kernel
theorem dL_why_36 : decode cL_why 36 = .ok (.iload_n 1, 1) := by decide +kernel
theorem dL_why_37 : decode cL_why 37 = .ok (.iadd, 1) := by decide +kernel
theorem dL_why_38 : decode cL_why 38 = .ok (.iaload, 1) := by decide +kernel
theorem dL_why_39 : decode cL_why 39 = .ok (.ifCond .ne 7, 3) := by decide +kernel
theorem dL_why_42 : decode cL_why 42 = .ok (.iconst 3, 1) := by decide +kernel
theorem dL_why_43 : decode cL_why 43 = .ok (.goto 15, 3) := by decide +kernel
theorem dL_why_46 : decode cL_why 46 = .ok (.aload_n 2, 1) := by decide +kernel
theorem dL_why_47 : decode cL_why 47 = .ok (.iconst 1, 1) := by decide +kernel
theorem dL_why_48 : decode cL_why 48 = .ok (.iaload, 1) := by decide +kernel
theorem dL_why_49 : decode cL_why 49 = .ok (.iconst 1, 1) := by decide +kernel
theorem dL_why_50 : decode cL_why 50 = .ok (.if_icmp .ne 7, 3) := by decide +kernel
theorem dL_why_53 : decode cL_why 53 = .ok (.iconst 4, 1) := by decide +kernel
theorem dL_why_54 : decode cL_why 54 = .ok (.goto 4, 3) := by decide +kernel
theorem dL_why_57 : decode cL_why 57 = .ok (.iconst 0, 1) := by decide +kernel
theorem dL_why_58 : decode cL_why 58 = .ok (.ireturn, 1) := by decide +kernel
theorem dL_commons_0 : decode cL_commons 0 = .ok (.bipush 12, 2) := by decide +kernel
theorem dL_commons_2 : decode cL_commons 2 = .ok (.aload_n 1, 1) := by decide +kernel
theorem dL_commons_3 : decode cL_commons 3 = .ok (.iload_n 0, 1) := by decide +kernel
theorem dL_commons_4 : decode cL_commons 4 = .ok (.iaload, 1) := by decide +kernel
theorem dL_commons_5 : decode cL_commons 5 = .ok (.isub, 1) := by decide +kernel
theorem dL_commons_6 : decode cL_commons 6 = .ok (.aload_n 1, 1) := by decide +kernel
theorem dL_commons_7 : decode cL_commons 7 = .ok (.iconst 4, 1) := by decide +kernel
theorem dL_commons_8 : decode cL_commons 8 = .ok (.iload_n 0, 1) := by decide +kernel
theorem dL_commons_9 : decode cL_commons 9 = .ok (.iadd, 1) := by decide +kernel
theorem dL_commons_10 : decode cL_commons 10 = .ok (.iaload, 1) := by decide +kernel
theorem dL_commons_11 : decode cL_commons 11 = .ok (.isub, 1) := by decide +kernel
theorem dL_commons_12 : decode cL_commons 12 = .ok (.aload_n 1, 1) := by decide +kernel
theorem dL_commons_13 : decode cL_commons 13 = .ok (.bipush 8, 2) := by decide +kernel
theorem dL_commons_15 : decode cL_commons 15 = .ok (.iload_n 0, 1) := by decide +kernel
theorem dL_commons_16 : decode cL_commons 16 = .ok (.iadd, 1) := by decide +kernel
theorem dL_commons_17 : decode cL_commons 17 = .ok (.iaload, 1) := by decide +kernel
theorem dL_commons_18 : decode cL_commons 18 = .ok (.isub, 1) := by decide +kernel
theorem dL_commons_19 : decode cL_commons 19 = .ok (.aload_n 1, 1) := by decide +kernel
theorem dL_commons_20 : decode cL_commons 20 = .ok (.bipush 12, 2) := by decide +kernel
theorem dL_commons_22 : decode cL_commons 22 = .ok (.iload_n 0, 1) := by decide +kernel
theorem dL_commons_23 : decode cL_commons 23 = .ok (.iadd, 1) := by decide +kernel
theorem dL_commons_24 : decode cL_commons 24 = .ok (.iaload, 1) := by decide +kernel
theorem dL_commons_25 : decode cL_commons 25 = .ok (.isub, 1) := by decide +kernel
theorem dL_commons_26 : decode cL_commons 26 = .ok (.aload_n 1, 1) := by decide +kernel
theorem dL_commons_27 : decode cL_commons 27 = .ok (.bipush 16, 2) := by decide +kernel
theorem dL_commons_29 : decode cL_commons 29 = .ok (.iload_n 0, 1) := by decide +kernel
theorem dL_commons_30 : decode cL_commons 30 = .ok (.iadd, 1) := by decide +kernel
theorem dL_commons_31 : decode cL_commons 31 = .ok (.iaload, 1) := by decide +kernel
theorem dL_commons_32 : decode cL_commons 32 = .ok (.isub, 1) := by decide +kernel
theorem dL_commons_33 : decode cL_commons 33 = .ok (.ireturn, 1) := by decide +kernel
set_option maxRecDepth 20000 in
theorem ggL_gives_L_commons : GoodIn wsL_gives wsL_commons := goodIn_r _ [4] (by decide +kernel) (by decide +kernel)
set_option maxRecDepth 20000 in
theorem gL_gives_L_commons : GoodIn wsL_gives (va_wsS RL 93 yL_commons wsL_commons) := goodIn_app (goodIn_of _ (by decide +kernel)) ggL_gives_L_commons
theorem dL_gives_0 : decode cL_gives 0 = .ok (.iload_n 0, 1) := by decide +kernel
theorem dL_gives_1 : decode cL_gives 1 = .ok (.iload_n 1, 1) := by decide +kernel
theorem dL_gives_2 : decode cL_gives 2 = .ok (.if_icmp .ne 6, 3) := by decide +kernel
theorem dL_gives_5 : decode cL_gives 5 = .ok (.bipush (-102), 2) := by decide +kernel
theorem dL_gives_7 : decode cL_gives 7 = .ok (.ireturn, 1) := by decide +kernel
theorem dL_gives_8 : decode cL_gives 8 = .ok (.iload_n 0, 1) := by decide +kernel
theorem dL_gives_9 : decode cL_gives 9 = .ok (.ifCond .ge 12, 3) := by decide +kernel
theorem dL_gives_12 : decode cL_gives 12 = .ok (.iload_n 2, 1) := by decide +kernel
theorem dL_gives_13 : decode cL_gives 13 = .ok (.aload 4, 2) := by decide +kernel
theorem dL_gives_15 : decode cL_gives 15 = .ok (.invokestatic 93, 3) := by decide +kernel
theorem dL_gives_18 : decode cL_gives 18 = .ok (.goto 11, 3) := by decide +kernel
theorem dL_gives_21 : decode cL_gives 21 = .ok (.aload 4, 2) := by decide +kernel
theorem dL_gives_23 : decode cL_gives 23 = .ok (.iconst 4, 1) := by decide +kernel
theorem dL_gives_24 : decode cL_gives 24 = .ok (.iload_n 0, 1) := by decide +kernel
theorem dL_gives_25 : decode cL_gives 25 = .ok (.imul, 1) := by decide +kernel
theorem dL_gives_26 : decode cL_gives 26 = .ok (.iload_n 2, 1) := by decide +kernel
theorem dL_gives_27 : decode cL_gives 27 = .ok (.iadd, 1) := by decide +kernel
theorem dL_gives_28 : decode cL_gives 28 = .ok (.iaload, 1) := by decide +kernel
theorem dL_gives_29 : decode cL_gives 29 = .ok (.istore 5, 2) := by decide +kernel
theorem dL_gives_31 : decode cL_gives 31 = .ok (.iload 5, 2) := by decide +kernel
theorem dL_gives_33 : decode cL_gives 33 = .ok (.iload_n 3, 1) := by decide +kernel
theorem dL_gives_34 : decode cL_gives 34 = .ok (.if_icmp .ge 6, 3) := by decide +kernel
theorem dL_gives_37 : decode cL_gives 37 = .ok (.bipush (-103), 2) := by decide +kernel
theorem dL_gives_39 : decode cL_gives 39 = .ok (.ireturn, 1) := by decide +kernel
theorem dL_gives_40 : decode cL_gives 40 = .ok (.iload_n 0, 1) := by decide +kernel
theorem dL_gives_41 : decode cL_gives 41 = .ok (.ifCond .lt 15, 3) := by decide +kernel
theorem dL_gives_44 : decode cL_gives 44 = .ok (.aload 4, 2) := by decide +kernel
theorem dL_gives_46 : decode cL_gives 46 = .ok (.iconst 4, 1) := by decide +kernel
theorem dL_gives_47 : decode cL_gives 47 = .ok (.iload_n 0, 1) := by decide +kernel
theorem dL_gives_48 : decode cL_gives 48 = .ok (.imul, 1) := by decide +kernel
theorem dL_gives_49 : decode cL_gives 49 = .ok (.iload_n 2, 1) := by decide +kernel
theorem dL_gives_50 : decode cL_gives 50 = .ok (.iadd, 1) := by decide +kernel
theorem dL_gives_51 : decode cL_gives 51 = .ok (.dup2, 1) := by decide +kernel
theorem dL_gives_52 : decode cL_gives 52 = .ok (.iaload, 1) := by decide +kernel
theorem dL_gives_53 : decode cL_gives 53 = .ok (.iload_n 3, 1) := by decide +kernel
theorem dL_gives_54 : decode cL_gives 54 = .ok (.isub, 1) := by decide +kernel
theorem dL_gives_55 : decode cL_gives 55 = .ok (.iastore, 1) := by decide +kernel
theorem dL_gives_56 : decode cL_gives 56 = .ok (.iload_n 1, 1) := by decide +kernel
theorem dL_gives_57 : decode cL_gives 57 = .ok (.ifCond .lt 15, 3) := by decide +kernel
theorem dL_gives_60 : decode cL_gives 60 = .ok (.aload 4, 2) := by decide +kernel
theorem dL_gives_62 : decode cL_gives 62 = .ok (.iconst 4, 1) := by decide +kernel
theorem dL_gives_63 : decode cL_gives 63 = .ok (.iload_n 1, 1) := by decide +kernel
theorem dL_gives_64 : decode cL_gives 64 = .ok (.imul, 1) := by decide +kernel
theorem dL_gives_65 : decode cL_gives 65 = .ok (.iload_n 2, 1) := by decide +kernel
theorem dL_gives_66 : decode cL_gives 66 = .ok (.iadd, 1) := by decide +kernel
theorem dL_gives_67 : decode cL_gives 67 = .ok (.dup2, 1) := by decide +kernel
theorem dL_gives_68 : decode cL_gives 68 = .ok (.iaload, 1) := by decide +kernel
theorem dL_gives_69 : decode cL_gives 69 = .ok (.iload_n 3, 1) := by decide +kernel
theorem dL_gives_70 : decode cL_gives 70 = .ok (.iadd, 1) := by decide +kernel
theorem dL_gives_71 : decode cL_gives 71 = .ok (.iastore, 1) := by decide +kernel
theorem dL_gives_72 : decode cL_gives 72 = .ok (.iload_n 1, 1) := by decide +kernel
theorem dL_gives_73 : decode cL_gives 73 = .ok (.ifCond .ge 12, 3) := by decide +kernel
theorem dL_gives_76 : decode cL_gives 76 = .ok (.iload_n 2, 1) := by decide +kernel
theorem dL_gives_77 : decode cL_gives 77 = .ok (.aload 4, 2) := by decide +kernel
theorem dL_gives_79 : decode cL_gives 79 = .ok (.invokestatic 93, 3) := by decide +kernel
theorem dL_gives_82 : decode cL_gives 82 = .ok (.goto 11, 3) := by decide +kernel
theorem dL_gives_85 : decode cL_gives 85 = .ok (.aload 4, 2) := by decide +kernel
theorem dL_gives_87 : decode cL_gives 87 = .ok (.iconst 4, 1) := by decide +kernel
theorem dL_gives_88 : decode cL_gives 88 = .ok (.iload_n 1, 1) := by decide +kernel
theorem dL_gives_89 : decode cL_gives 89 = .ok (.imul, 1) := by decide +kernel
theorem dL_gives_90 : decode cL_gives 90 = .ok (.iload_n 2, 1) := by decide +kernel
theorem dL_gives_91 : decode cL_gives 91 = .ok (.iadd, 1) := by decide +kernel
theorem dL_gives_92 : decode cL_gives 92 = .ok (.iaload, 1) := by decide +kernel
theorem dL_gives_93 : decode cL_gives 93 = .ok (.ireturn, 1) := by decide +kernel
