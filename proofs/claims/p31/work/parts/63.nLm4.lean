theorem dL_begins_0 : decode cL_begins 0 = .ok (.aload_n 0, 1) := by decide +kernel
theorem dL_begins_1 : decode cL_begins 1 = .ok (.iconst 2, 1) := by decide +kernel
theorem dL_begins_2 : decode cL_begins 2 = .ok (.iconst 3, 1) := by decide +kernel
theorem dL_begins_3 : decode cL_begins 3 = .ok (.iastore, 1) := by decide +kernel
theorem dL_begins_4 : decode cL_begins 4 = .ok (.aload_n 0, 1) := by decide +kernel
theorem dL_begins_5 : decode cL_begins 5 = .ok (.iconst 3, 1) := by decide +kernel
theorem dL_begins_6 : decode cL_begins 6 = .ok (.bipush 10, 2) := by decide +kernel
theorem dL_begins_8 : decode cL_begins 8 = .ok (.iastore, 1) := by decide +kernel
theorem dL_begins_9 : decode cL_begins 9 = .ok (.aload_n 0, 1) := by decide +kernel
theorem dL_begins_10 : decode cL_begins 10 = .ok (.iconst 4, 1) := by decide +kernel
theorem dL_begins_11 : decode cL_begins 11 = .ok (.bipush 8, 2) := by decide +kernel
theorem dL_begins_13 : decode cL_begins 13 = .ok (.iastore, 1) := by decide +kernel
theorem dL_begins_14 : decode cL_begins 14 = .ok (.aload_n 1, 1) := by decide +kernel
theorem dL_begins_15 : decode cL_begins 15 = .ok (.bipush 32, 2) := by decide +kernel
theorem dL_begins_17 : decode cL_begins 17 = .ok (.iconst 1, 1) := by decide +kernel
theorem dL_begins_18 : decode cL_begins 18 = .ok (.iastore, 1) := by decide +kernel
theorem dL_begins_19 : decode cL_begins 19 = .ok (.iconst 0, 1) := by decide +kernel
theorem dL_begins_20 : decode cL_begins 20 = .ok (.istore 4, 2) := by decide +kernel
theorem dL_begins_22 : decode cL_begins 22 = .ok (.iload 4, 2) := by decide +kernel
theorem dL_begins_24 : decode cL_begins 24 = .ok (.iconst 5, 1) := by decide +kernel
theorem dL_begins_25 : decode cL_begins 25 = .ok (.if_icmp .ge 21, 3) := by decide +kernel
theorem dL_begins_28 : decode cL_begins 28 = .ok (.aload_n 1, 1) := by decide +kernel
theorem dL_begins_29 : decode cL_begins 29 = .ok (.bipush 8, 2) := by decide +kernel
theorem dL_begins_31 : decode cL_begins 31 = .ok (.iload 4, 2) := by decide +kernel
theorem dL_begins_33 : decode cL_begins 33 = .ok (.imul, 1) := by decide +kernel
theorem dL_begins_34 : decode cL_begins 34 = .ok (.iconst 1, 1) := by decide +kernel
theorem dL_begins_35 : decode cL_begins 35 = .ok (.iadd, 1) := by decide +kernel
theorem dL_begins_36 : decode cL_begins 36 = .ok (.sipush 300, 3) := by decide +kernel
theorem dL_begins_39 : decode cL_begins 39 = .ok (.iastore, 1) := by decide +kernel
theorem dL_begins_40 : decode cL_begins 40 = .ok (.iinc 4 1, 3) := by decide +kernel
theorem dL_begins_43 : decode cL_begins 43 = .ok (.goto (-21), 3) := by decide +kernel
theorem dL_begins_46 : decode cL_begins 46 = .ok (.iconst 0, 1) := by decide +kernel
theorem dL_begins_47 : decode cL_begins 47 = .ok (.istore 4, 2) := by decide +kernel
theorem dL_begins_49 : decode cL_begins 49 = .ok (.iload 4, 2) := by decide +kernel
theorem dL_begins_51 : decode cL_begins 51 = .ok (.iconst 4, 1) := by decide +kernel
theorem dL_begins_52 : decode cL_begins 52 = .ok (.if_icmp .ge 27, 3) := by decide +kernel
theorem dL_begins_55 : decode cL_begins 55 = .ok (.aload_n 0, 1) := by decide +kernel
theorem dL_begins_56 : decode cL_begins 56 = .ok (.iconst 5, 1) := by decide +kernel
theorem dL_begins_57 : decode cL_begins 57 = .ok (.iload 4, 2) := by decide +kernel
theorem dL_begins_59 : decode cL_begins 59 = .ok (.iadd, 1) := by decide +kernel
theorem dL_begins_60 : decode cL_begins 60 = .ok (.sipush 2000, 3) := by decide +kernel
theorem dL_begins_63 : decode cL_begins 63 = .ok (.iastore, 1) := by decide +kernel
theorem dL_begins_64 : decode cL_begins 64 = .ok (.aload_n 0, 1) := by decide +kernel
theorem dL_begins_65 : decode cL_begins 65 = .ok (.bipush 9, 2) := by decide +kernel
theorem dL_begins_67 : decode cL_begins 67 = .ok (.iload 4, 2) := by decide +kernel
theorem dL_begins_69 : decode cL_begins 69 = .ok (.iadd, 1) := by decide +kernel
theorem dL_begins_70 : decode cL_begins 70 = .ok (.bipush 40, 2) := by decide +kernel
theorem dL_begins_72 : decode cL_begins 72 = .ok (.iastore, 1) := by decide +kernel
theorem dL_begins_73 : decode cL_begins 73 = .ok (.iinc 4 1, 3) := by decide +kernel
theorem dL_begins_76 : decode cL_begins 76 = .ok (.goto (-27), 3) := by decide +kernel
theorem dL_begins_79 : decode cL_begins 79 = .ok (.iconst 0, 1) := by decide +kernel
theorem dL_begins_80 : decode cL_begins 80 = .ok (.istore 4, 2) := by decide +kernel
theorem dL_begins_82 : decode cL_begins 82 = .ok (.iload 4, 2) := by decide +kernel
theorem dL_begins_84 : decode cL_begins 84 = .ok (.bipush 16, 2) := by decide +kernel
theorem dL_begins_86 : decode cL_begins 86 = .ok (.if_icmp .ge 25, 3) := by decide +kernel
theorem dL_begins_89 : decode cL_begins 89 = .ok (.aload_n 2, 1) := by decide +kernel
theorem dL_begins_90 : decode cL_begins 90 = .ok (.iload 4, 2) := by decide +kernel
theorem dL_begins_92 : decode cL_begins 92 = .ok (.iload 4, 2) := by decide +kernel
theorem dL_begins_94 : decode cL_begins 94 = .ok (.iconst 5, 1) := by decide +kernel
theorem dL_begins_95 : decode cL_begins 95 = .ok (.irem, 1) := by decide +kernel
theorem dL_begins_96 : decode cL_begins 96 = .ok (.ifCond .ne 7, 3) := by decide +kernel
theorem dL_begins_99 : decode cL_begins 99 = .ok (.iconst 0, 1) := by decide +kernel
theorem dL_begins_100 : decode cL_begins 100 = .ok (.goto 4, 3) := by decide +kernel
theorem dL_begins_103 : decode cL_begins 103 = .ok (.iconst 3, 1) := by decide +kernel
theorem dL_begins_104 : decode cL_begins 104 = .ok (.iastore, 1) := by decide +kernel
theorem dL_begins_105 : decode cL_begins 105 = .ok (.iinc 4 1, 3) := by decide +kernel
theorem dL_begins_108 : decode cL_begins 108 = .ok (.goto (-26), 3) := by decide +kernel
theorem dL_begins_111 : decode cL_begins 111 = .ok (.iconst 0, 1) := by decide +kernel
theorem dL_begins_112 : decode cL_begins 112 = .ok (.istore 4, 2) := by decide +kernel
theorem dL_begins_114 : decode cL_begins 114 = .ok (.iload 4, 2) := by decide +kernel
theorem dL_begins_116 : decode cL_begins 116 = .ok (.bipush 6, 2) := by decide +kernel
theorem dL_begins_118 : decode cL_begins 118 = .ok (.if_icmp .ge 40, 3) := by decide +kernel
theorem dL_begins_121 : decode cL_begins 121 = .ok (.aload_n 3, 1) := by decide +kernel
theorem dL_begins_122 : decode cL_begins 122 = .ok (.iconst 4, 1) := by decide +kernel
theorem dL_begins_123 : decode cL_begins 123 = .ok (.iload 4, 2) := by decide +kernel
theorem dL_begins_125 : decode cL_begins 125 = .ok (.imul, 1) := by decide +kernel
theorem dL_begins_126 : decode cL_begins 126 = .ok (.bipush 10, 2) := by decide +kernel
theorem dL_begins_128 : decode cL_begins 128 = .ok (.iconst 2, 1) := by decide +kernel
theorem dL_begins_129 : decode cL_begins 129 = .ok (.iload 4, 2) := by decide +kernel
theorem dL_begins_131 : decode cL_begins 131 = .ok (.imul, 1) := by decide +kernel
theorem dL_begins_132 : decode cL_begins 132 = .ok (.iadd, 1) := by decide +kernel
theorem dL_begins_133 : decode cL_begins 133 = .ok (.iastore, 1) := by decide +kernel
theorem dL_begins_134 : decode cL_begins 134 = .ok (.aload_n 3, 1) := by decide +kernel
theorem dL_begins_135 : decode cL_begins 135 = .ok (.iconst 4, 1) := by decide +kernel
theorem dL_begins_136 : decode cL_begins 136 = .ok (.iload 4, 2) := by decide +kernel
theorem dL_begins_138 : decode cL_begins 138 = .ok (.imul, 1) := by decide +kernel
theorem dL_begins_139 : decode cL_begins 139 = .ok (.iconst 1, 1) := by decide +kernel
theorem dL_begins_140 : decode cL_begins 140 = .ok (.iadd, 1) := by decide +kernel
theorem dL_begins_141 : decode cL_begins 141 = .ok (.iconst (-1), 1) := by decide +kernel
theorem dL_begins_142 : decode cL_begins 142 = .ok (.iastore, 1) := by decide +kernel
theorem dL_begins_143 : decode cL_begins 143 = .ok (.aload_n 3, 1) := by decide +kernel
theorem dL_begins_144 : decode cL_begins 144 = .ok (.iconst 4, 1) := by decide +kernel
theorem dL_begins_145 : decode cL_begins 145 = .ok (.iload 4, 2) := by decide +kernel
theorem dL_begins_147 : decode cL_begins 147 = .ok (.imul, 1) := by decide +kernel
theorem dL_begins_148 : decode cL_begins 148 = .ok (.iconst 2, 1) := by decide +kernel
theorem dL_begins_149 : decode cL_begins 149 = .ok (.iadd, 1) := by decide +kernel
theorem dL_begins_150 : decode cL_begins 150 = .ok (.iconst (-1), 1) := by decide +kernel
theorem dL_begins_151 : decode cL_begins 151 = .ok (.iastore, 1) := by decide +kernel
theorem dL_begins_152 : decode cL_begins 152 = .ok (.iinc 4 1, 3) := by decide +kernel
theorem dL_begins_155 : decode cL_begins 155 = .ok (.goto (-41), 3) := by decide +kernel
theorem dL_begins_158 : decode cL_begins 158 = .ok (.return_, 1) := by decide +kernel
