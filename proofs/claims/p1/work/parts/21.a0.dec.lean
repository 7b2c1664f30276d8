theorem dX10_begins_0 : decode cX10_begins 0 = .ok (.iconst 0, 1) := by decide +kernel
theorem dX10_begins_1 : decode cX10_begins 1 = .ok (.istore_n 1, 1) := by decide +kernel
theorem dX10_begins_2 : decode cX10_begins 2 = .ok (.iload_n 1, 1) := by decide +kernel
theorem dX10_begins_3 : decode cX10_begins 3 = .ok (.sipush 1140, 3) := by decide +kernel
theorem dX10_begins_6 : decode cX10_begins 6 = .ok (.if_icmp .ge 16, 3) := by decide +kernel
theorem dX10_begins_9 : decode cX10_begins 9 = .ok (.aload_n 0, 1) := by decide +kernel
theorem dX10_begins_10 : decode cX10_begins 10 = .ok (.getfield 7, 3) := by decide +kernel
theorem dX10_begins_13 : decode cX10_begins 13 = .ok (.iload_n 1, 1) := by decide +kernel
theorem dX10_begins_14 : decode cX10_begins 14 = .ok (.iconst 0, 1) := by decide +kernel
theorem dX10_begins_15 : decode cX10_begins 15 = .ok (.iastore, 1) := by decide +kernel
theorem dX10_begins_16 : decode cX10_begins 16 = .ok (.iinc 1 1, 3) := by decide +kernel
theorem dX10_begins_19 : decode cX10_begins 19 = .ok (.goto (-17), 3) := by decide +kernel
theorem dX10_begins_22 : decode cX10_begins 22 = .ok (.aload_n 0, 1) := by decide +kernel
theorem dX10_begins_23 : decode cX10_begins 23 = .ok (.getfield 7, 3) := by decide +kernel
theorem dX10_begins_26 : decode cX10_begins 26 = .ok (.iconst 2, 1) := by decide +kernel
theorem dX10_begins_27 : decode cX10_begins 27 = .ok (.iconst 2, 1) := by decide +kernel
theorem dX10_begins_28 : decode cX10_begins 28 = .ok (.iastore, 1) := by decide +kernel
theorem dX10_begins_29 : decode cX10_begins 29 = .ok (.iconst 0, 1) := by decide +kernel
theorem dX10_begins_30 : decode cX10_begins 30 = .ok (.istore_n 1, 1) := by decide +kernel
theorem dX10_begins_31 : decode cX10_begins 31 = .ok (.iload_n 1, 1) := by decide +kernel
theorem dX10_begins_32 : decode cX10_begins 32 = .ok (.bipush 8, 2) := by decide +kernel
theorem dX10_begins_34 : decode cX10_begins 34 = .ok (.if_icmp .ge 20, 3) := by decide +kernel
theorem dX10_begins_37 : decode cX10_begins 37 = .ok (.aload_n 0, 1) := by decide +kernel
theorem dX10_begins_38 : decode cX10_begins 38 = .ok (.getfield 7, 3) := by decide +kernel
theorem dX10_begins_41 : decode cX10_begins 41 = .ok (.bipush 6, 2) := by decide +kernel
theorem dX10_begins_43 : decode cX10_begins 43 = .ok (.iload_n 1, 1) := by decide +kernel
theorem dX10_begins_44 : decode cX10_begins 44 = .ok (.iadd, 1) := by decide +kernel
theorem dX10_begins_45 : decode cX10_begins 45 = .ok (.bipush 100, 2) := by decide +kernel
theorem dX10_begins_47 : decode cX10_begins 47 = .ok (.iastore, 1) := by decide +kernel
theorem dX10_begins_48 : decode cX10_begins 48 = .ok (.iinc 1 1, 3) := by decide +kernel
theorem dX10_begins_51 : decode cX10_begins 51 = .ok (.goto (-20), 3) := by decide +kernel
theorem dX10_begins_54 : decode cX10_begins 54 = .ok (.return_, 1) := by decide +kernel
theorem dX10_clears_0 : decode cX10_clears 0 = .ok (.iconst 0, 1) := by decide +kernel
theorem dX10_clears_1 : decode cX10_clears 1 = .ok (.istore_n 2, 1) := by decide +kernel
theorem dX10_clears_2 : decode cX10_clears 2 = .ok (.iload_n 2, 1) := by decide +kernel
theorem dX10_clears_3 : decode cX10_clears 3 = .ok (.bipush 6, 2) := by decide +kernel
theorem dX10_clears_5 : decode cX10_clears 5 = .ok (.if_icmp .ge 18, 3) := by decide +kernel
theorem dX10_clears_8 : decode cX10_clears 8 = .ok (.aload_n 0, 1) := by decide +kernel
theorem dX10_clears_9 : decode cX10_clears 9 = .ok (.getfield 7, 3) := by decide +kernel
theorem dX10_clears_12 : decode cX10_clears 12 = .ok (.iload_n 1, 1) := by decide +kernel
theorem dX10_clears_13 : decode cX10_clears 13 = .ok (.iload_n 2, 1) := by decide +kernel
theorem dX10_clears_14 : decode cX10_clears 14 = .ok (.iadd, 1) := by decide +kernel
theorem dX10_clears_15 : decode cX10_clears 15 = .ok (.iconst 0, 1) := by decide +kernel
theorem dX10_clears_16 : decode cX10_clears 16 = .ok (.iastore, 1) := by decide +kernel
theorem dX10_clears_17 : decode cX10_clears 17 = .ok (.iinc 2 1, 3) := by decide +kernel
theorem dX10_clears_20 : decode cX10_clears 20 = .ok (.goto (-18), 3) := by decide +kernel
theorem dX10_clears_23 : decode cX10_clears 23 = .ok (.aload_n 0, 1) := by decide +kernel
theorem dX10_clears_24 : decode cX10_clears 24 = .ok (.getfield 7, 3) := by decide +kernel
theorem dX10_clears_27 : decode cX10_clears 27 = .ok (.iload_n 1, 1) := by decide +kernel
theorem dX10_clears_28 : decode cX10_clears 28 = .ok (.iconst 0, 1) := by decide +kernel
theorem dX10_clears_29 : decode cX10_clears 29 = .ok (.iadd, 1) := by decide +kernel
theorem dX10_clears_30 : decode cX10_clears 30 = .ok (.iconst (-1), 1) := by decide +kernel
theorem dX10_clears_31 : decode cX10_clears 31 = .ok (.iastore, 1) := by decide +kernel
theorem dX10_clears_32 : decode cX10_clears 32 = .ok (.return_, 1) := by decide +kernel
theorem dX10_startsChain_0 : decode cX10_startsChain 0 = .ok (.aload_n 0, 1) := by decide +kernel
theorem dX10_startsChain_1 : decode cX10_startsChain 1 = .ok (.getfield 7, 3) := by decide +kernel
theorem dX10_startsChain_4 : decode cX10_startsChain 4 = .ok (.iload_n 1, 1) := by decide +kernel
theorem dX10_startsChain_5 : decode cX10_startsChain 5 = .ok (.bipush 19, 2) := by decide +kernel
theorem dX10_startsChain_7 : decode cX10_startsChain 7 = .ok (.iadd, 1) := by decide +kernel
theorem dX10_startsChain_8 : decode cX10_startsChain 8 = .ok (.iaload, 1) := by decide +kernel
theorem dX10_startsChain_9 : decode cX10_startsChain 9 = .ok (.iconst (-1), 1) := by decide +kernel
theorem dX10_startsChain_10 : decode cX10_startsChain 10 = .ok (.if_icmp .eq 7, 3) := by decide +kernel
theorem dX10_startsChain_17 : decode cX10_startsChain 17 = .ok (.iconst 0, 1) := by decide +kernel
theorem dX10_startsChain_18 : decode cX10_startsChain 18 = .ok (.istore_n 2, 1) := by decide +kernel
theorem dX10_startsChain_19 : decode cX10_startsChain 19 = .ok (.iload_n 2, 1) := by decide +kernel
theorem dX10_startsChain_20 : decode cX10_startsChain 20 = .ok (.ifCond .eq 15, 3) := by decide +kernel
theorem dX10_startsChain_35 : decode cX10_startsChain 35 = .ok (.aload_n 0, 1) := by decide +kernel
theorem dX10_startsChain_36 : decode cX10_startsChain 36 = .ok (.getfield 7, 3) := by decide +kernel
theorem dX10_startsChain_39 : decode cX10_startsChain 39 = .ok (.iload_n 1, 1) := by decide +kernel
theorem dX10_startsChain_40 : decode cX10_startsChain 40 = .ok (.iconst 2, 1) := by decide +kernel
theorem dX10_startsChain_41 : decode cX10_startsChain 41 = .ok (.iadd, 1) := by decide +kernel
theorem dX10_startsChain_42 : decode cX10_startsChain 42 = .ok (.iaload, 1) := by decide +kernel
theorem dX10_startsChain_43 : decode cX10_startsChain 43 = .ok (.istore_n 3, 1) := by decide +kernel
theorem dX10_startsChain_44 : decode cX10_startsChain 44 = .ok (.aload_n 0, 1) := by decide +kernel
theorem dX10_startsChain_45 : decode cX10_startsChain 45 = .ok (.getfield 7, 3) := by decide +kernel
theorem dX10_startsChain_48 : decode cX10_startsChain 48 = .ok (.iload_n 1, 1) := by decide +kernel
theorem dX10_startsChain_49 : decode cX10_startsChain 49 = .ok (.bipush 11, 2) := by decide +kernel
theorem dX10_startsChain_51 : decode cX10_startsChain 51 = .ok (.iadd, 1) := by decide +kernel
theorem dX10_startsChain_52 : decode cX10_startsChain 52 = .ok (.iload_n 2, 1) := by decide +kernel
theorem dX10_startsChain_53 : decode cX10_startsChain 53 = .ok (.ifCond .ne 19, 3) := by decide +kernel
theorem dX10_startsChain_56 : decode cX10_startsChain 56 = .ok (.aload_n 0, 1) := by decide +kernel
theorem dX10_startsChain_57 : decode cX10_startsChain 57 = .ok (.getfield 7, 3) := by decide +kernel
theorem dX10_startsChain_60 : decode cX10_startsChain 60 = .ok (.iload_n 1, 1) := by decide +kernel
theorem dX10_startsChain_61 : decode cX10_startsChain 61 = .ok (.iconst 5, 1) := by decide +kernel
theorem dX10_startsChain_62 : decode cX10_startsChain 62 = .ok (.iadd, 1) := by decide +kernel
theorem dX10_startsChain_63 : decode cX10_startsChain 63 = .ok (.iaload, 1) := by decide +kernel
theorem dX10_startsChain_64 : decode cX10_startsChain 64 = .ok (.iconst 1, 1) := by decide +kernel
theorem dX10_startsChain_65 : decode cX10_startsChain 65 = .ok (.if_icmp .ne 7, 3) := by decide +kernel
theorem dX10_startsChain_68 : decode cX10_startsChain 68 = .ok (.iconst 1, 1) := by decide +kernel
theorem dX10_startsChain_69 : decode cX10_startsChain 69 = .ok (.goto 4, 3) := by decide +kernel
theorem dX10_startsChain_72 : decode cX10_startsChain 72 = .ok (.iconst 0, 1) := by decide +kernel
theorem dX10_startsChain_73 : decode cX10_startsChain 73 = .ok (.iastore, 1) := by decide +kernel
theorem dX10_startsChain_74 : decode cX10_startsChain 74 = .ok (.aload_n 0, 1) := by decide +kernel
theorem dX10_startsChain_75 : decode cX10_startsChain 75 = .ok (.getfield 7, 3) := by decide +kernel
theorem dX10_startsChain_78 : decode cX10_startsChain 78 = .ok (.iload_n 1, 1) := by decide +kernel
theorem dX10_startsChain_79 : decode cX10_startsChain 79 = .ok (.bipush 12, 2) := by decide +kernel
theorem dX10_startsChain_81 : decode cX10_startsChain 81 = .ok (.iadd, 1) := by decide +kernel
theorem dX10_startsChain_82 : decode cX10_startsChain 82 = .ok (.aload_n 0, 1) := by decide +kernel
theorem dX10_startsChain_83 : decode cX10_startsChain 83 = .ok (.getfield 7, 3) := by decide +kernel
theorem dX10_startsChain_86 : decode cX10_startsChain 86 = .ok (.iload_n 1, 1) := by decide +kernel
theorem dX10_startsChain_87 : decode cX10_startsChain 87 = .ok (.bipush 11, 2) := by decide +kernel
theorem dX10_startsChain_89 : decode cX10_startsChain 89 = .ok (.iadd, 1) := by decide +kernel
theorem dX10_startsChain_90 : decode cX10_startsChain 90 = .ok (.iaload, 1) := by decide +kernel
theorem dX10_startsChain_91 : decode cX10_startsChain 91 = .ok (.iconst 1, 1) := by decide +kernel
theorem dX10_startsChain_92 : decode cX10_startsChain 92 = .ok (.if_icmp .ne 7, 3) := by decide +kernel
theorem dX10_startsChain_95 : decode cX10_startsChain 95 = .ok (.iconst (-1), 1) := by decide +kernel
theorem dX10_startsChain_96 : decode cX10_startsChain 96 = .ok (.goto 4, 3) := by decide +kernel
theorem dX10_startsChain_99 : decode cX10_startsChain 99 = .ok (.iload_n 3, 1) := by decide +kernel
theorem dX10_startsChain_100 : decode cX10_startsChain 100 = .ok (.iastore, 1) := by decide +kernel
theorem dX10_startsChain_101 : decode cX10_startsChain 101 = .ok (.aload_n 0, 1) := by decide +kernel
theorem dX10_startsChain_102 : decode cX10_startsChain 102 = .ok (.getfield 7, 3) := by decide +kernel
theorem dX10_startsChain_105 : decode cX10_startsChain 105 = .ok (.iload_n 1, 1) := by decide +kernel
theorem dX10_startsChain_106 : decode cX10_startsChain 106 = .ok (.bipush 15, 2) := by decide +kernel
theorem dX10_startsChain_108 : decode cX10_startsChain 108 = .ok (.iadd, 1) := by decide +kernel
theorem dX10_startsChain_109 : decode cX10_startsChain 109 = .ok (.iconst 0, 1) := by decide +kernel
theorem dX10_startsChain_110 : decode cX10_startsChain 110 = .ok (.iastore, 1) := by decide +kernel
theorem dX10_startsChain_111 : decode cX10_startsChain 111 = .ok (.aload_n 0, 1) := by decide +kernel
theorem dX10_startsChain_112 : decode cX10_startsChain 112 = .ok (.getfield 7, 3) := by decide +kernel
theorem dX10_startsChain_115 : decode cX10_startsChain 115 = .ok (.iload_n 1, 1) := by decide +kernel
theorem dX10_startsChain_116 : decode cX10_startsChain 116 = .ok (.bipush 16, 2) := by decide +kernel
theorem dX10_startsChain_118 : decode cX10_startsChain 118 = .ok (.iadd, 1) := by decide +kernel
theorem dX10_startsChain_119 : decode cX10_startsChain 119 = .ok (.iconst (-1), 1) := by decide +kernel
theorem dX10_startsChain_120 : decode cX10_startsChain 120 = .ok (.iastore, 1) := by decide +kernel
theorem dX10_startsChain_121 : decode cX10_startsChain 121 = .ok (.aload_n 0, 1) := by decide +kernel
theorem dX10_startsChain_122 : decode cX10_startsChain 122 = .ok (.getfield 7, 3) := by decide +kernel
theorem dX10_startsChain_125 : decode cX10_startsChain 125 = .ok (.iload_n 1, 1) := by decide +kernel
theorem dX10_startsChain_126 : decode cX10_startsChain 126 = .ok (.bipush 17, 2) := by decide +kernel
theorem dX10_startsChain_128 : decode cX10_startsChain 128 = .ok (.iadd, 1) := by decide +kernel
theorem dX10_startsChain_129 : decode cX10_startsChain 129 = .ok (.iconst 0, 1) := by decide +kernel
theorem dX10_startsChain_130 : decode cX10_startsChain 130 = .ok (.iastore, 1) := by decide +kernel
theorem dX10_startsChain_131 : decode cX10_startsChain 131 = .ok (.aload_n 0, 1) := by decide +kernel
theorem dX10_startsChain_132 : decode cX10_startsChain 132 = .ok (.getfield 7, 3) := by decide +kernel
theorem dX10_startsChain_135 : decode cX10_startsChain 135 = .ok (.iload_n 1, 1) := by decide +kernel
theorem dX10_startsChain_136 : decode cX10_startsChain 136 = .ok (.bipush 13, 2) := by decide +kernel
theorem dX10_startsChain_138 : decode cX10_startsChain 138 = .ok (.iadd, 1) := by decide +kernel
theorem dX10_startsChain_139 : decode cX10_startsChain 139 = .ok (.iload_n 3, 1) := by decide +kernel
theorem dX10_startsChain_140 : decode cX10_startsChain 140 = .ok (.iastore, 1) := by decide +kernel
theorem dX10_startsChain_141 : decode cX10_startsChain 141 = .ok (.aload_n 0, 1) := by decide +kernel
theorem dX10_startsChain_142 : decode cX10_startsChain 142 = .ok (.getfield 7, 3) := by decide +kernel
theorem dX10_startsChain_145 : decode cX10_startsChain 145 = .ok (.iload_n 1, 1) := by decide +kernel
theorem dX10_startsChain_146 : decode cX10_startsChain 146 = .ok (.bipush 20, 2) := by decide +kernel
theorem dX10_startsChain_148 : decode cX10_startsChain 148 = .ok (.iadd, 1) := by decide +kernel
theorem dX10_startsChain_149 : decode cX10_startsChain 149 = .ok (.iload_n 3, 1) := by decide +kernel
theorem dX10_startsChain_150 : decode cX10_startsChain 150 = .ok (.iadd, 1) := by decide +kernel
theorem dX10_startsChain_151 : decode cX10_startsChain 151 = .ok (.aload_n 0, 1) := by decide +kernel
theorem dX10_startsChain_152 : decode cX10_startsChain 152 = .ok (.getfield 7, 3) := by decide +kernel
theorem dX10_startsChain_155 : decode cX10_startsChain 155 = .ok (.iload_n 1, 1) := by decide +kernel
theorem dX10_startsChain_156 : decode cX10_startsChain 156 = .ok (.bipush 20, 2) := by decide +kernel
theorem dX10_startsChain_158 : decode cX10_startsChain 158 = .ok (.iadd, 1) := by decide +kernel
theorem dX10_startsChain_159 : decode cX10_startsChain 159 = .ok (.iload_n 3, 1) := by decide +kernel
theorem dX10_startsChain_160 : decode cX10_startsChain 160 = .ok (.iadd, 1) := by decide +kernel
theorem dX10_startsChain_161 : decode cX10_startsChain 161 = .ok (.iaload, 1) := by decide +kernel
theorem dX10_startsChain_162 : decode cX10_startsChain 162 = .ok (.ifCond .ne 7, 3) := by decide +kernel
theorem dX10_startsChain_165 : decode cX10_startsChain 165 = .ok (.iconst 1, 1) := by decide +kernel
theorem dX10_startsChain_166 : decode cX10_startsChain 166 = .ok (.goto 14, 3) := by decide +kernel
theorem dX10_startsChain_169 : decode cX10_startsChain 169 = .ok (.aload_n 0, 1) := by decide +kernel
theorem dX10_startsChain_170 : decode cX10_startsChain 170 = .ok (.getfield 7, 3) := by decide +kernel
theorem dX10_startsChain_173 : decode cX10_startsChain 173 = .ok (.iload_n 1, 1) := by decide +kernel
theorem dX10_startsChain_174 : decode cX10_startsChain 174 = .ok (.bipush 20, 2) := by decide +kernel
theorem dX10_startsChain_176 : decode cX10_startsChain 176 = .ok (.iadd, 1) := by decide +kernel
theorem dX10_startsChain_177 : decode cX10_startsChain 177 = .ok (.iload_n 3, 1) := by decide +kernel
theorem dX10_startsChain_178 : decode cX10_startsChain 178 = .ok (.iadd, 1) := by decide +kernel
theorem dX10_startsChain_179 : decode cX10_startsChain 179 = .ok (.iaload, 1) := by decide +kernel
theorem dX10_startsChain_180 : decode cX10_startsChain 180 = .ok (.iastore, 1) := by decide +kernel
theorem dX10_startsChain_181 : decode cX10_startsChain 181 = .ok (.aload_n 0, 1) := by decide +kernel
theorem dX10_startsChain_182 : decode cX10_startsChain 182 = .ok (.getfield 7, 3) := by decide +kernel
theorem dX10_startsChain_185 : decode cX10_startsChain 185 = .ok (.iload_n 1, 1) := by decide +kernel
theorem dX10_startsChain_186 : decode cX10_startsChain 186 = .ok (.bipush 14, 2) := by decide +kernel
theorem dX10_startsChain_188 : decode cX10_startsChain 188 = .ok (.iadd, 1) := by decide +kernel
theorem dX10_startsChain_189 : decode cX10_startsChain 189 = .ok (.aload_n 0, 1) := by decide +kernel
theorem dX10_startsChain_190 : decode cX10_startsChain 190 = .ok (.getfield 7, 3) := by decide +kernel
theorem dX10_startsChain_193 : decode cX10_startsChain 193 = .ok (.iload_n 1, 1) := by decide +kernel
theorem dX10_startsChain_194 : decode cX10_startsChain 194 = .ok (.bipush 20, 2) := by decide +kernel
theorem dX10_startsChain_196 : decode cX10_startsChain 196 = .ok (.iadd, 1) := by decide +kernel
theorem dX10_startsChain_197 : decode cX10_startsChain 197 = .ok (.iload_n 3, 1) := by decide +kernel
theorem dX10_startsChain_198 : decode cX10_startsChain 198 = .ok (.iadd, 1) := by decide +kernel
theorem dX10_startsChain_199 : decode cX10_startsChain 199 = .ok (.iaload, 1) := by decide +kernel
theorem dX10_startsChain_200 : decode cX10_startsChain 200 = .ok (.iastore, 1) := by decide +kernel
theorem dX10_startsChain_201 : decode cX10_startsChain 201 = .ok (.return_, 1) := by decide +kernel
