theorem dX10_pays_0 : decode cX10_pays 0 = .ok (.aload_n 0, 1) := by decide +kernel
theorem dX10_pays_1 : decode cX10_pays 1 = .ok (.iload_n 1, 1) := by decide +kernel
theorem dX10_pays_2 : decode cX10_pays 2 = .ok (.iload_n 2, 1) := by decide +kernel
theorem dX10_pays_3 : decode cX10_pays 3 = .ok (.iload_n 3, 1) := by decide +kernel
theorem dX10_pays_4 : decode cX10_pays 4 = .ok (.invokevirtual 81, 3) := by decide +kernel
theorem dX10_pays_7 : decode cX10_pays 7 = .ok (.istore 4, 2) := by decide +kernel
theorem dX10_pays_9 : decode cX10_pays 9 = .ok (.iload 4, 2) := by decide +kernel
theorem dX10_pays_11 : decode cX10_pays 11 = .ok (.ifCond .le 6, 3) := by decide +kernel
theorem dX10_pays_14 : decode cX10_pays 14 = .ok (.iload 4, 2) := by decide +kernel
theorem dX10_pays_16 : decode cX10_pays 16 = .ok (.ireturn, 1) := by decide +kernel
theorem dX10_pays_17 : decode cX10_pays 17 = .ok (.aload_n 0, 1) := by decide +kernel
theorem dX10_pays_18 : decode cX10_pays 18 = .ok (.iload_n 1, 1) := by decide +kernel
theorem dX10_pays_19 : decode cX10_pays 19 = .ok (.iload_n 2, 1) := by decide +kernel
theorem dX10_pays_20 : decode cX10_pays 20 = .ok (.iload_n 3, 1) := by decide +kernel
theorem dX10_pays_21 : decode cX10_pays 21 = .ok (.invokevirtual 85, 3) := by decide +kernel
theorem dX10_pays_24 : decode cX10_pays 24 = .ok (.ifCond .ne 6, 3) := by decide +kernel
theorem dX10_pays_27 : decode cX10_pays 27 = .ok (.bipush 32, 2) := by decide +kernel
theorem dX10_pays_29 : decode cX10_pays 29 = .ok (.ireturn, 1) := by decide +kernel
theorem dX10_pays_30 : decode cX10_pays 30 = .ok (.aload_n 0, 1) := by decide +kernel
theorem dX10_pays_31 : decode cX10_pays 31 = .ok (.iload_n 2, 1) := by decide +kernel
theorem dX10_pays_32 : decode cX10_pays 32 = .ok (.iload_n 3, 1) := by decide +kernel
theorem dX10_pays_33 : decode cX10_pays 33 = .ok (.invokevirtual 41, 3) := by decide +kernel
theorem dX10_pays_36 : decode cX10_pays 36 = .ok (.istore 5, 2) := by decide +kernel
theorem dX10_pays_38 : decode cX10_pays 38 = .ok (.aload_n 0, 1) := by decide +kernel
theorem dX10_pays_39 : decode cX10_pays 39 = .ok (.getfield 7, 3) := by decide +kernel
theorem dX10_pays_42 : decode cX10_pays 42 = .ok (.iload_n 2, 1) := by decide +kernel
theorem dX10_pays_43 : decode cX10_pays 43 = .ok (.bipush 7, 2) := by decide +kernel
theorem dX10_pays_45 : decode cX10_pays 45 = .ok (.iadd, 1) := by decide +kernel
theorem dX10_pays_46 : decode cX10_pays 46 = .ok (.iaload, 1) := by decide +kernel
theorem dX10_pays_47 : decode cX10_pays 47 = .ok (.istore 6, 2) := by decide +kernel
theorem dX10_pays_49 : decode cX10_pays 49 = .ok (.aload_n 0, 1) := by decide +kernel
theorem dX10_pays_50 : decode cX10_pays 50 = .ok (.getfield 7, 3) := by decide +kernel
theorem dX10_pays_53 : decode cX10_pays 53 = .ok (.iload_n 1, 1) := by decide +kernel
theorem dX10_pays_54 : decode cX10_pays 54 = .ok (.bipush 6, 2) := by decide +kernel
theorem dX10_pays_56 : decode cX10_pays 56 = .ok (.iadd, 1) := by decide +kernel
theorem dX10_pays_57 : decode cX10_pays 57 = .ok (.iload 5, 2) := by decide +kernel
theorem dX10_pays_59 : decode cX10_pays 59 = .ok (.iadd, 1) := by decide +kernel
theorem dX10_pays_60 : decode cX10_pays 60 = .ok (.dup2, 1) := by decide +kernel
theorem dX10_pays_61 : decode cX10_pays 61 = .ok (.iaload, 1) := by decide +kernel
theorem dX10_pays_62 : decode cX10_pays 62 = .ok (.aload_n 0, 1) := by decide +kernel
theorem dX10_pays_63 : decode cX10_pays 63 = .ok (.getfield 7, 3) := by decide +kernel
theorem dX10_pays_66 : decode cX10_pays 66 = .ok (.iload_n 2, 1) := by decide +kernel
theorem dX10_pays_67 : decode cX10_pays 67 = .ok (.iconst 3, 1) := by decide +kernel
theorem dX10_pays_68 : decode cX10_pays 68 = .ok (.iadd, 1) := by decide +kernel
theorem dX10_pays_69 : decode cX10_pays 69 = .ok (.iaload, 1) := by decide +kernel
theorem dX10_pays_70 : decode cX10_pays 70 = .ok (.isub, 1) := by decide +kernel
theorem dX10_pays_71 : decode cX10_pays 71 = .ok (.iastore, 1) := by decide +kernel
theorem dX10_pays_72 : decode cX10_pays 72 = .ok (.aload_n 0, 1) := by decide +kernel
theorem dX10_pays_73 : decode cX10_pays 73 = .ok (.getfield 7, 3) := by decide +kernel
theorem dX10_pays_76 : decode cX10_pays 76 = .ok (.iload_n 1, 1) := by decide +kernel
theorem dX10_pays_77 : decode cX10_pays 77 = .ok (.bipush 6, 2) := by decide +kernel
theorem dX10_pays_79 : decode cX10_pays 79 = .ok (.iadd, 1) := by decide +kernel
theorem dX10_pays_80 : decode cX10_pays 80 = .ok (.iload 6, 2) := by decide +kernel
theorem dX10_pays_82 : decode cX10_pays 82 = .ok (.iadd, 1) := by decide +kernel
theorem dX10_pays_83 : decode cX10_pays 83 = .ok (.iaload, 1) := by decide +kernel
theorem dX10_pays_84 : decode cX10_pays 84 = .ok (.aload_n 0, 1) := by decide +kernel
theorem dX10_pays_85 : decode cX10_pays 85 = .ok (.getfield 7, 3) := by decide +kernel
theorem dX10_pays_88 : decode cX10_pays 88 = .ok (.iload_n 2, 1) := by decide +kernel
theorem dX10_pays_89 : decode cX10_pays 89 = .ok (.iconst 3, 1) := by decide +kernel
theorem dX10_pays_90 : decode cX10_pays 90 = .ok (.iadd, 1) := by decide +kernel
theorem dX10_pays_91 : decode cX10_pays 91 = .ok (.iaload, 1) := by decide +kernel
theorem dX10_pays_92 : decode cX10_pays 92 = .ok (.iadd, 1) := by decide +kernel
theorem dX10_pays_93 : decode cX10_pays 93 = .ok (.istore 7, 2) := by decide +kernel
theorem dX10_pays_95 : decode cX10_pays 95 = .ok (.aload_n 0, 1) := by decide +kernel
theorem dX10_pays_96 : decode cX10_pays 96 = .ok (.getfield 7, 3) := by decide +kernel
theorem dX10_pays_99 : decode cX10_pays 99 = .ok (.iload_n 1, 1) := by decide +kernel
theorem dX10_pays_100 : decode cX10_pays 100 = .ok (.bipush 6, 2) := by decide +kernel
theorem dX10_pays_102 : decode cX10_pays 102 = .ok (.iadd, 1) := by decide +kernel
theorem dX10_pays_103 : decode cX10_pays 103 = .ok (.iload 6, 2) := by decide +kernel
theorem dX10_pays_105 : decode cX10_pays 105 = .ok (.iadd, 1) := by decide +kernel
theorem dX10_pays_106 : decode cX10_pays 106 = .ok (.iload 7, 2) := by decide +kernel
theorem dX10_pays_108 : decode cX10_pays 108 = .ok (.sipush 9999, 3) := by decide +kernel
theorem dX10_pays_111 : decode cX10_pays 111 = .ok (.if_icmp .le 9, 3) := by decide +kernel
theorem dX10_pays_114 : decode cX10_pays 114 = .ok (.sipush 9999, 3) := by decide +kernel
theorem dX10_pays_117 : decode cX10_pays 117 = .ok (.goto 5, 3) := by decide +kernel
theorem dX10_pays_120 : decode cX10_pays 120 = .ok (.iload 7, 2) := by decide +kernel
theorem dX10_pays_122 : decode cX10_pays 122 = .ok (.iastore, 1) := by decide +kernel
theorem dX10_pays_123 : decode cX10_pays 123 = .ok (.aload_n 0, 1) := by decide +kernel
theorem dX10_pays_124 : decode cX10_pays 124 = .ok (.getfield 7, 3) := by decide +kernel
theorem dX10_pays_127 : decode cX10_pays 127 = .ok (.iload_n 1, 1) := by decide +kernel
theorem dX10_pays_128 : decode cX10_pays 128 = .ok (.iconst 3, 1) := by decide +kernel
theorem dX10_pays_129 : decode cX10_pays 129 = .ok (.iadd, 1) := by decide +kernel
theorem dX10_pays_130 : decode cX10_pays 130 = .ok (.dup2, 1) := by decide +kernel
theorem dX10_pays_131 : decode cX10_pays 131 = .ok (.iaload, 1) := by decide +kernel
theorem dX10_pays_132 : decode cX10_pays 132 = .ok (.iconst 1, 1) := by decide +kernel
theorem dX10_pays_133 : decode cX10_pays 133 = .ok (.iadd, 1) := by decide +kernel
theorem dX10_pays_134 : decode cX10_pays 134 = .ok (.iastore, 1) := by decide +kernel
theorem dX10_pays_135 : decode cX10_pays 135 = .ok (.iload_n 3, 1) := by decide +kernel
theorem dX10_pays_136 : decode cX10_pays 136 = .ok (.ifCond .ne 15, 3) := by decide +kernel
theorem dX10_pays_139 : decode cX10_pays 139 = .ok (.aload_n 0, 1) := by decide +kernel
theorem dX10_pays_140 : decode cX10_pays 140 = .ok (.getfield 7, 3) := by decide +kernel
theorem dX10_pays_143 : decode cX10_pays 143 = .ok (.iload_n 2, 1) := by decide +kernel
theorem dX10_pays_144 : decode cX10_pays 144 = .ok (.bipush 10, 2) := by decide +kernel
theorem dX10_pays_146 : decode cX10_pays 146 = .ok (.iadd, 1) := by decide +kernel
theorem dX10_pays_147 : decode cX10_pays 147 = .ok (.iconst 1, 1) := by decide +kernel
theorem dX10_pays_148 : decode cX10_pays 148 = .ok (.iastore, 1) := by decide +kernel
theorem dX10_pays_149 : decode cX10_pays 149 = .ok (.iconst 0, 1) := by decide +kernel
theorem dX10_pays_150 : decode cX10_pays 150 = .ok (.ireturn, 1) := by decide +kernel
theorem dX10_pays_151 : decode cX10_pays 151 = .ok (.aload_n 0, 1) := by decide +kernel
theorem dX10_pays_152 : decode cX10_pays 152 = .ok (.iload_n 2, 1) := by decide +kernel
theorem dX10_pays_153 : decode cX10_pays 153 = .ok (.iload_n 3, 1) := by decide +kernel
theorem dX10_pays_154 : decode cX10_pays 154 = .ok (.bipush 16, 2) := by decide +kernel
theorem dX10_pays_156 : decode cX10_pays 156 = .ok (.invokevirtual 88, 3) := by decide +kernel
theorem dX10_pays_159 : decode cX10_pays 159 = .ok (.aload_n 0, 1) := by decide +kernel
theorem dX10_pays_160 : decode cX10_pays 160 = .ok (.getfield 7, 3) := by decide +kernel
theorem dX10_pays_163 : decode cX10_pays 163 = .ok (.iload_n 2, 1) := by decide +kernel
theorem dX10_pays_164 : decode cX10_pays 164 = .ok (.bipush 7, 2) := by decide +kernel
theorem dX10_pays_166 : decode cX10_pays 166 = .ok (.iadd, 1) := by decide +kernel
theorem dX10_pays_167 : decode cX10_pays 167 = .ok (.iload 5, 2) := by decide +kernel
theorem dX10_pays_169 : decode cX10_pays 169 = .ok (.iastore, 1) := by decide +kernel
theorem dX10_pays_170 : decode cX10_pays 170 = .ok (.aload_n 0, 1) := by decide +kernel
theorem dX10_pays_171 : decode cX10_pays 171 = .ok (.getfield 7, 3) := by decide +kernel
theorem dX10_pays_174 : decode cX10_pays 174 = .ok (.iload_n 2, 1) := by decide +kernel
theorem dX10_pays_175 : decode cX10_pays 175 = .ok (.bipush 18, 2) := by decide +kernel
theorem dX10_pays_177 : decode cX10_pays 177 = .ok (.iadd, 1) := by decide +kernel
theorem dX10_pays_178 : decode cX10_pays 178 = .ok (.aload_n 0, 1) := by decide +kernel
theorem dX10_pays_179 : decode cX10_pays 179 = .ok (.getfield 7, 3) := by decide +kernel
theorem dX10_pays_182 : decode cX10_pays 182 = .ok (.iload_n 2, 1) := by decide +kernel
theorem dX10_pays_183 : decode cX10_pays 183 = .ok (.bipush 8, 2) := by decide +kernel
theorem dX10_pays_185 : decode cX10_pays 185 = .ok (.iadd, 1) := by decide +kernel
theorem dX10_pays_186 : decode cX10_pays 186 = .ok (.iaload, 1) := by decide +kernel
theorem dX10_pays_187 : decode cX10_pays 187 = .ok (.iastore, 1) := by decide +kernel
theorem dX10_pays_188 : decode cX10_pays 188 = .ok (.aload_n 0, 1) := by decide +kernel
theorem dX10_pays_189 : decode cX10_pays 189 = .ok (.getfield 7, 3) := by decide +kernel
theorem dX10_pays_192 : decode cX10_pays 192 = .ok (.iload_n 2, 1) := by decide +kernel
theorem dX10_pays_193 : decode cX10_pays 193 = .ok (.bipush 19, 2) := by decide +kernel
theorem dX10_pays_195 : decode cX10_pays 195 = .ok (.iadd, 1) := by decide +kernel
theorem dX10_pays_196 : decode cX10_pays 196 = .ok (.iload 5, 2) := by decide +kernel
theorem dX10_pays_198 : decode cX10_pays 198 = .ok (.iastore, 1) := by decide +kernel
theorem dX10_pays_199 : decode cX10_pays 199 = .ok (.aload_n 0, 1) := by decide +kernel
theorem dX10_pays_200 : decode cX10_pays 200 = .ok (.iload_n 2, 1) := by decide +kernel
theorem dX10_pays_201 : decode cX10_pays 201 = .ok (.invokevirtual 91, 3) := by decide +kernel
theorem dX10_pays_204 : decode cX10_pays 204 = .ok (.iconst 0, 1) := by decide +kernel
theorem dX10_pays_205 : decode cX10_pays 205 = .ok (.ireturn, 1) := by decide +kernel
