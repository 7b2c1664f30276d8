theorem dX10_clears_0 : decode cX10_clears 0 = .ok (.iconst 0, 1) := by decide +kernel
theorem dX10_clears_1 : decode cX10_clears 1 = .ok (.istore_n 2, 1) := by decide +kernel
theorem dX10_clears_2 : decode cX10_clears 2 = .ok (.iload_n 2, 1) := by decide +kernel
theorem dX10_clears_3 : decode cX10_clears 3 = .ok (.bipush 6, 2) := by decide +kernel
theorem dX10_clears_5 : decode cX10_clears 5 = .ok (.if_icmp .ge 18, 3) := by decide +kernel
theorem dX10_clears_8 : decode cX10_clears 8 = .ok (.aload_n 0, 1) := by decide +kernel
theorem dX10_clears_9 : decode cX10_clears 9 = .ok (.getfield 7, 3) := by decide +kernel
theorem dX10_clears_12 : decode cX10_clears 12 = .ok (.iload_n 1, 1) := by decide +kernel
theorem dX10_clears_13 : decode cX10_clears 13 = .ok (.iload_n 2, 1) := by decide +kernel
theorem dX10_clears_14 : decode cX10_clears 14 = .ok (.iadd, 1) := by decide +kernel
theorem dX10_clears_15 : decode cX10_clears 15 = .ok (.iconst 0, 1) := by decide +kernel
theorem dX10_clears_16 : decode cX10_clears 16 = .ok (.iastore, 1) := by decide +kernel
theorem dX10_clears_17 : decode cX10_clears 17 = .ok (.iinc 2 1, 3) := by decide +kernel
theorem dX10_clears_20 : decode cX10_clears 20 = .ok (.goto (-18), 3) := by decide +kernel
theorem dX10_clears_23 : decode cX10_clears 23 = .ok (.aload_n 0, 1) := by decide +kernel
theorem dX10_clears_24 : decode cX10_clears 24 = .ok (.getfield 7, 3) := by decide +kernel
theorem dX10_clears_27 : decode cX10_clears 27 = .ok (.iload_n 1, 1) := by decide +kernel
theorem dX10_clears_28 : decode cX10_clears 28 = .ok (.iconst 0, 1) := by decide +kernel
theorem dX10_clears_29 : decode cX10_clears 29 = .ok (.iadd, 1) := by decide +kernel
theorem dX10_clears_30 : decode cX10_clears 30 = .ok (.iconst (-1), 1) := by decide +kernel
theorem dX10_clears_31 : decode cX10_clears 31 = .ok (.iastore, 1) := by decide +kernel
theorem dX10_clears_32 : decode cX10_clears 32 = .ok (.return_, 1) := by decide +kernel
theorem dX10_frees_0 : decode cX10_frees 0 = .ok (.iload_n 2, 1) := by decide +kernel
theorem dX10_frees_1 : decode cX10_frees 1 = .ok (.istore 4, 2) := by decide +kernel
theorem dX10_frees_3 : decode cX10_frees 3 = .ok (.iload 4, 2) := by decide +kernel
theorem dX10_frees_5 : decode cX10_frees 5 = .ok (.iconst 1, 1) := by decide +kernel
theorem dX10_frees_6 : decode cX10_frees 6 = .ok (.aload_n 0, 1) := by decide +kernel
theorem dX10_frees_7 : decode cX10_frees 7 = .ok (.getfield 7, 3) := by decide +kernel
theorem dX10_frees_10 : decode cX10_frees 10 = .ok (.iload_n 1, 1) := by decide +kernel
theorem dX10_frees_11 : decode cX10_frees 11 = .ok (.bipush 8, 2) := by decide +kernel
theorem dX10_frees_13 : decode cX10_frees 13 = .ok (.iadd, 1) := by decide +kernel
theorem dX10_frees_14 : decode cX10_frees 14 = .ok (.iaload, 1) := by decide +kernel
theorem dX10_frees_15 : decode cX10_frees 15 = .ok (.iadd, 1) := by decide +kernel
theorem dX10_frees_16 : decode cX10_frees 16 = .ok (.if_icmp .gt 56, 3) := by decide +kernel
theorem dX10_frees_19 : decode cX10_frees 19 = .ok (.aload_n 0, 1) := by decide +kernel
theorem dX10_frees_20 : decode cX10_frees 20 = .ok (.getfield 7, 3) := by decide +kernel
theorem dX10_frees_23 : decode cX10_frees 23 = .ok (.iload_n 1, 1) := by decide +kernel
theorem dX10_frees_24 : decode cX10_frees 24 = .ok (.iload 4, 2) := by decide +kernel
theorem dX10_frees_26 : decode cX10_frees 26 = .ok (.invokestatic 56, 3) := by decide +kernel
theorem dX10_frees_29 : decode cX10_frees 29 = .ok (.iconst 1, 1) := by decide +kernel
theorem dX10_frees_30 : decode cX10_frees 30 = .ok (.iadd, 1) := by decide +kernel
theorem dX10_frees_31 : decode cX10_frees 31 = .ok (.iaload, 1) := by decide +kernel
theorem dX10_frees_32 : decode cX10_frees 32 = .ok (.ifCond .le 6, 3) := by decide +kernel
theorem dX10_frees_35 : decode cX10_frees 35 = .ok (.goto 31, 3) := by decide +kernel
theorem dX10_frees_38 : decode cX10_frees 38 = .ok (.aload_n 0, 1) := by decide +kernel
theorem dX10_frees_39 : decode cX10_frees 39 = .ok (.getfield 7, 3) := by decide +kernel
theorem dX10_frees_42 : decode cX10_frees 42 = .ok (.iload_n 1, 1) := by decide +kernel
theorem dX10_frees_43 : decode cX10_frees 43 = .ok (.iload 4, 2) := by decide +kernel
theorem dX10_frees_45 : decode cX10_frees 45 = .ok (.invokestatic 56, 3) := by decide +kernel
theorem dX10_frees_48 : decode cX10_frees 48 = .ok (.iconst 1, 1) := by decide +kernel
theorem dX10_frees_49 : decode cX10_frees 49 = .ok (.iadd, 1) := by decide +kernel
theorem dX10_frees_50 : decode cX10_frees 50 = .ok (.iload_n 3, 1) := by decide +kernel
theorem dX10_frees_51 : decode cX10_frees 51 = .ok (.iastore, 1) := by decide +kernel
theorem dX10_frees_52 : decode cX10_frees 52 = .ok (.aload_n 0, 1) := by decide +kernel
theorem dX10_frees_53 : decode cX10_frees 53 = .ok (.getfield 7, 3) := by decide +kernel
theorem dX10_frees_56 : decode cX10_frees 56 = .ok (.iload_n 1, 1) := by decide +kernel
theorem dX10_frees_57 : decode cX10_frees 57 = .ok (.iload 4, 2) := by decide +kernel
theorem dX10_frees_59 : decode cX10_frees 59 = .ok (.invokestatic 56, 3) := by decide +kernel
theorem dX10_frees_62 : decode cX10_frees 62 = .ok (.iconst 2, 1) := by decide +kernel
theorem dX10_frees_63 : decode cX10_frees 63 = .ok (.iadd, 1) := by decide +kernel
theorem dX10_frees_64 : decode cX10_frees 64 = .ok (.iload_n 2, 1) := by decide +kernel
theorem dX10_frees_65 : decode cX10_frees 65 = .ok (.iastore, 1) := by decide +kernel
theorem dX10_frees_66 : decode cX10_frees 66 = .ok (.iinc 4 1, 3) := by decide +kernel
theorem dX10_frees_69 : decode cX10_frees 69 = .ok (.goto (-66), 3) := by decide +kernel
theorem dX10_frees_72 : decode cX10_frees 72 = .ok (.return_, 1) := by decide +kernel
theorem dX10_steps_0 : decode cX10_steps 0 = .ok (.aload_n 0, 1) := by decide +kernel
theorem dX10_steps_1 : decode cX10_steps 1 = .ok (.getfield 7, 3) := by decide +kernel
theorem dX10_steps_4 : decode cX10_steps 4 = .ok (.iload_n 2, 1) := by decide +kernel
theorem dX10_steps_5 : decode cX10_steps 5 = .ok (.bipush 8, 2) := by decide +kernel
theorem dX10_steps_7 : decode cX10_steps 7 = .ok (.iadd, 1) := by decide +kernel
theorem dX10_steps_8 : decode cX10_steps 8 = .ok (.iaload, 1) := by decide +kernel
theorem dX10_steps_9 : decode cX10_steps 9 = .ok (.istore 10, 2) := by decide +kernel
theorem dX10_steps_11 : decode cX10_steps 11 = .ok (.iload_n 2, 1) := by decide +kernel
theorem dX10_steps_12 : decode cX10_steps 12 = .ok (.iload 10, 2) := by decide +kernel
theorem dX10_steps_14 : decode cX10_steps 14 = .ok (.invokestatic 37, 3) := by decide +kernel
theorem dX10_steps_17 : decode cX10_steps 17 = .ok (.istore 11, 2) := by decide +kernel
theorem dX10_steps_19 : decode cX10_steps 19 = .ok (.aload_n 0, 1) := by decide +kernel
theorem dX10_steps_20 : decode cX10_steps 20 = .ok (.getfield 7, 3) := by decide +kernel
theorem dX10_steps_23 : decode cX10_steps 23 = .ok (.iload 11, 2) := by decide +kernel
theorem dX10_steps_25 : decode cX10_steps 25 = .ok (.iconst 0, 1) := by decide +kernel
theorem dX10_steps_26 : decode cX10_steps 26 = .ok (.iadd, 1) := by decide +kernel
theorem dX10_steps_27 : decode cX10_steps 27 = .ok (.iload_n 3, 1) := by decide +kernel
theorem dX10_steps_28 : decode cX10_steps 28 = .ok (.iastore, 1) := by decide +kernel
theorem dX10_steps_29 : decode cX10_steps 29 = .ok (.aload_n 0, 1) := by decide +kernel
theorem dX10_steps_30 : decode cX10_steps 30 = .ok (.getfield 7, 3) := by decide +kernel
theorem dX10_steps_33 : decode cX10_steps 33 = .ok (.iload 11, 2) := by decide +kernel
theorem dX10_steps_35 : decode cX10_steps 35 = .ok (.iconst 1, 1) := by decide +kernel
theorem dX10_steps_36 : decode cX10_steps 36 = .ok (.iadd, 1) := by decide +kernel
theorem dX10_steps_37 : decode cX10_steps 37 = .ok (.iload 4, 2) := by decide +kernel
theorem dX10_steps_39 : decode cX10_steps 39 = .ok (.iastore, 1) := by decide +kernel
theorem dX10_steps_40 : decode cX10_steps 40 = .ok (.aload_n 0, 1) := by decide +kernel
theorem dX10_steps_41 : decode cX10_steps 41 = .ok (.getfield 7, 3) := by decide +kernel
theorem dX10_steps_44 : decode cX10_steps 44 = .ok (.iload 11, 2) := by decide +kernel
theorem dX10_steps_46 : decode cX10_steps 46 = .ok (.iconst 2, 1) := by decide +kernel
theorem dX10_steps_47 : decode cX10_steps 47 = .ok (.iadd, 1) := by decide +kernel
theorem dX10_steps_48 : decode cX10_steps 48 = .ok (.iload 5, 2) := by decide +kernel
theorem dX10_steps_50 : decode cX10_steps 50 = .ok (.iastore, 1) := by decide +kernel
theorem dX10_steps_51 : decode cX10_steps 51 = .ok (.aload_n 0, 1) := by decide +kernel
theorem dX10_steps_52 : decode cX10_steps 52 = .ok (.getfield 7, 3) := by decide +kernel
theorem dX10_steps_55 : decode cX10_steps 55 = .ok (.iload 11, 2) := by decide +kernel
theorem dX10_steps_57 : decode cX10_steps 57 = .ok (.iconst 3, 1) := by decide +kernel
theorem dX10_steps_58 : decode cX10_steps 58 = .ok (.iadd, 1) := by decide +kernel
theorem dX10_steps_59 : decode cX10_steps 59 = .ok (.iload 6, 2) := by decide +kernel
theorem dX10_steps_61 : decode cX10_steps 61 = .ok (.iastore, 1) := by decide +kernel
theorem dX10_steps_62 : decode cX10_steps 62 = .ok (.aload_n 0, 1) := by decide +kernel
theorem dX10_steps_63 : decode cX10_steps 63 = .ok (.getfield 7, 3) := by decide +kernel
theorem dX10_steps_66 : decode cX10_steps 66 = .ok (.iload 11, 2) := by decide +kernel
theorem dX10_steps_68 : decode cX10_steps 68 = .ok (.iconst 4, 1) := by decide +kernel
theorem dX10_steps_69 : decode cX10_steps 69 = .ok (.iadd, 1) := by decide +kernel
theorem dX10_steps_70 : decode cX10_steps 70 = .ok (.iload 7, 2) := by decide +kernel
theorem dX10_steps_72 : decode cX10_steps 72 = .ok (.iastore, 1) := by decide +kernel
theorem dX10_steps_73 : decode cX10_steps 73 = .ok (.aload_n 0, 1) := by decide +kernel
theorem dX10_steps_74 : decode cX10_steps 74 = .ok (.getfield 7, 3) := by decide +kernel
theorem dX10_steps_77 : decode cX10_steps 77 = .ok (.iload 11, 2) := by decide +kernel
theorem dX10_steps_79 : decode cX10_steps 79 = .ok (.iconst 5, 1) := by decide +kernel
theorem dX10_steps_80 : decode cX10_steps 80 = .ok (.iadd, 1) := by decide +kernel
theorem dX10_steps_81 : decode cX10_steps 81 = .ok (.iload 8, 2) := by decide +kernel
theorem dX10_steps_83 : decode cX10_steps 83 = .ok (.ifCond .eq 7, 3) := by decide +kernel
theorem dX10_steps_86 : decode cX10_steps 86 = .ok (.iconst 1, 1) := by decide +kernel
theorem dX10_steps_87 : decode cX10_steps 87 = .ok (.goto 4, 3) := by decide +kernel
theorem dX10_steps_90 : decode cX10_steps 90 = .ok (.iconst 0, 1) := by decide +kernel
theorem dX10_steps_91 : decode cX10_steps 91 = .ok (.iastore, 1) := by decide +kernel
theorem dX10_steps_92 : decode cX10_steps 92 = .ok (.aload_n 0, 1) := by decide +kernel
theorem dX10_steps_93 : decode cX10_steps 93 = .ok (.getfield 7, 3) := by decide +kernel
theorem dX10_steps_96 : decode cX10_steps 96 = .ok (.iload 11, 2) := by decide +kernel
theorem dX10_steps_98 : decode cX10_steps 98 = .ok (.bipush 6, 2) := by decide +kernel
theorem dX10_steps_100 : decode cX10_steps 100 = .ok (.iadd, 1) := by decide +kernel
theorem dX10_steps_101 : decode cX10_steps 101 = .ok (.iload 9, 2) := by decide +kernel
theorem dX10_steps_103 : decode cX10_steps 103 = .ok (.ifCond .eq 7, 3) := by decide +kernel
theorem dX10_steps_106 : decode cX10_steps 106 = .ok (.iconst 1, 1) := by decide +kernel
theorem dX10_steps_107 : decode cX10_steps 107 = .ok (.goto 4, 3) := by decide +kernel
theorem dX10_steps_110 : decode cX10_steps 110 = .ok (.iconst 0, 1) := by decide +kernel
theorem dX10_steps_111 : decode cX10_steps 111 = .ok (.iastore, 1) := by decide +kernel
theorem dX10_steps_112 : decode cX10_steps 112 = .ok (.aload_n 0, 1) := by decide +kernel
theorem dX10_steps_113 : decode cX10_steps 113 = .ok (.getfield 7, 3) := by decide +kernel
theorem dX10_steps_116 : decode cX10_steps 116 = .ok (.iload 11, 2) := by decide +kernel
theorem dX10_steps_118 : decode cX10_steps 118 = .ok (.bipush 7, 2) := by decide +kernel
theorem dX10_steps_120 : decode cX10_steps 120 = .ok (.iadd, 1) := by decide +kernel
theorem dX10_steps_121 : decode cX10_steps 121 = .ok (.aload_n 0, 1) := by decide +kernel
theorem dX10_steps_122 : decode cX10_steps 122 = .ok (.getfield 7, 3) := by decide +kernel
theorem dX10_steps_125 : decode cX10_steps 125 = .ok (.iload_n 1, 1) := by decide +kernel
theorem dX10_steps_126 : decode cX10_steps 126 = .ok (.iconst 0, 1) := by decide +kernel
theorem dX10_steps_127 : decode cX10_steps 127 = .ok (.iadd, 1) := by decide +kernel
theorem dX10_steps_128 : decode cX10_steps 128 = .ok (.iaload, 1) := by decide +kernel
theorem dX10_steps_129 : decode cX10_steps 129 = .ok (.iastore, 1) := by decide +kernel
theorem dX10_steps_130 : decode cX10_steps 130 = .ok (.aload_n 0, 1) := by decide +kernel
theorem dX10_steps_131 : decode cX10_steps 131 = .ok (.getfield 7, 3) := by decide +kernel
theorem dX10_steps_134 : decode cX10_steps 134 = .ok (.iload 11, 2) := by decide +kernel
theorem dX10_steps_136 : decode cX10_steps 136 = .ok (.bipush 10, 2) := by decide +kernel
theorem dX10_steps_138 : decode cX10_steps 138 = .ok (.iadd, 1) := by decide +kernel
theorem dX10_steps_139 : decode cX10_steps 139 = .ok (.iload 7, 2) := by decide +kernel
theorem dX10_steps_141 : decode cX10_steps 141 = .ok (.ifCond .le 44, 3) := by decide +kernel
theorem dX10_steps_144 : decode cX10_steps 144 = .ok (.iload 8, 2) := by decide +kernel
theorem dX10_steps_146 : decode cX10_steps 146 = .ok (.ifCond .ne 39, 3) := by decide +kernel
theorem dX10_steps_149 : decode cX10_steps 149 = .ok (.aload_n 0, 1) := by decide +kernel
theorem dX10_steps_150 : decode cX10_steps 150 = .ok (.getfield 7, 3) := by decide +kernel
theorem dX10_steps_153 : decode cX10_steps 153 = .ok (.iload_n 1, 1) := by decide +kernel
theorem dX10_steps_154 : decode cX10_steps 154 = .ok (.iconst 0, 1) := by decide +kernel
theorem dX10_steps_155 : decode cX10_steps 155 = .ok (.iadd, 1) := by decide +kernel
theorem dX10_steps_156 : decode cX10_steps 156 = .ok (.iaload, 1) := by decide +kernel
theorem dX10_steps_157 : decode cX10_steps 157 = .ok (.aload_n 0, 1) := by decide +kernel
theorem dX10_steps_158 : decode cX10_steps 158 = .ok (.getfield 7, 3) := by decide +kernel
theorem dX10_steps_161 : decode cX10_steps 161 = .ok (.iload_n 2, 1) := by decide +kernel
theorem dX10_steps_162 : decode cX10_steps 162 = .ok (.iconst 4, 1) := by decide +kernel
theorem dX10_steps_163 : decode cX10_steps 163 = .ok (.iadd, 1) := by decide +kernel
theorem dX10_steps_164 : decode cX10_steps 164 = .ok (.iaload, 1) := by decide +kernel
theorem dX10_steps_165 : decode cX10_steps 165 = .ok (.if_icmp .gt 20, 3) := by decide +kernel
theorem dX10_steps_168 : decode cX10_steps 168 = .ok (.aload_n 0, 1) := by decide +kernel
theorem dX10_steps_169 : decode cX10_steps 169 = .ok (.getfield 7, 3) := by decide +kernel
theorem dX10_steps_172 : decode cX10_steps 172 = .ok (.iload_n 2, 1) := by decide +kernel
theorem dX10_steps_173 : decode cX10_steps 173 = .ok (.bipush 9, 2) := by decide +kernel
theorem dX10_steps_175 : decode cX10_steps 175 = .ok (.iadd, 1) := by decide +kernel
theorem dX10_steps_176 : decode cX10_steps 176 = .ok (.iaload, 1) := by decide +kernel
theorem dX10_steps_177 : decode cX10_steps 177 = .ok (.iconst (-1), 1) := by decide +kernel
theorem dX10_steps_178 : decode cX10_steps 178 = .ok (.if_icmp .ne 7, 3) := by decide +kernel
theorem dX10_steps_181 : decode cX10_steps 181 = .ok (.iconst 1, 1) := by decide +kernel
theorem dX10_steps_182 : decode cX10_steps 182 = .ok (.goto 4, 3) := by decide +kernel
theorem dX10_steps_185 : decode cX10_steps 185 = .ok (.iconst 0, 1) := by decide +kernel
theorem dX10_steps_186 : decode cX10_steps 186 = .ok (.iastore, 1) := by decide +kernel
theorem dX10_steps_187 : decode cX10_steps 187 = .ok (.aload_n 0, 1) := by decide +kernel
theorem dX10_steps_188 : decode cX10_steps 188 = .ok (.getfield 7, 3) := by decide +kernel
theorem dX10_steps_191 : decode cX10_steps 191 = .ok (.iload 11, 2) := by decide +kernel
theorem dX10_steps_193 : decode cX10_steps 193 = .ok (.bipush 11, 2) := by decide +kernel
theorem dX10_steps_195 : decode cX10_steps 195 = .ok (.iadd, 1) := by decide +kernel
theorem dX10_steps_196 : decode cX10_steps 196 = .ok (.iload_n 3, 1) := by decide +kernel
theorem dX10_steps_197 : decode cX10_steps 197 = .ok (.iconst 3, 1) := by decide +kernel
theorem dX10_steps_198 : decode cX10_steps 198 = .ok (.if_icmp .ge 14, 3) := by decide +kernel
theorem dX10_steps_201 : decode cX10_steps 201 = .ok (.iload 4, 2) := by decide +kernel
theorem dX10_steps_203 : decode cX10_steps 203 = .ok (.iload 5, 2) := by decide +kernel
theorem dX10_steps_205 : decode cX10_steps 205 = .ok (.if_icmp .eq 7, 3) := by decide +kernel
theorem dX10_steps_208 : decode cX10_steps 208 = .ok (.iconst 1, 1) := by decide +kernel
theorem dX10_steps_209 : decode cX10_steps 209 = .ok (.goto 4, 3) := by decide +kernel
theorem dX10_steps_212 : decode cX10_steps 212 = .ok (.iconst 0, 1) := by decide +kernel
theorem dX10_steps_213 : decode cX10_steps 213 = .ok (.iastore, 1) := by decide +kernel
theorem dX10_steps_214 : decode cX10_steps 214 = .ok (.aload_n 0, 1) := by decide +kernel
theorem dX10_steps_215 : decode cX10_steps 215 = .ok (.getfield 7, 3) := by decide +kernel
theorem dX10_steps_218 : decode cX10_steps 218 = .ok (.iload_n 2, 1) := by decide +kernel
theorem dX10_steps_219 : decode cX10_steps 219 = .ok (.bipush 8, 2) := by decide +kernel
theorem dX10_steps_221 : decode cX10_steps 221 = .ok (.iadd, 1) := by decide +kernel
theorem dX10_steps_222 : decode cX10_steps 222 = .ok (.dup2, 1) := by decide +kernel
theorem dX10_steps_223 : decode cX10_steps 223 = .ok (.iaload, 1) := by decide +kernel
theorem dX10_steps_224 : decode cX10_steps 224 = .ok (.iconst 1, 1) := by decide +kernel
theorem dX10_steps_225 : decode cX10_steps 225 = .ok (.iadd, 1) := by decide +kernel
theorem dX10_steps_226 : decode cX10_steps 226 = .ok (.iastore, 1) := by decide +kernel
theorem dX10_steps_227 : decode cX10_steps 227 = .ok (.aload_n 0, 1) := by decide +kernel
theorem dX10_steps_228 : decode cX10_steps 228 = .ok (.getfield 7, 3) := by decide +kernel
theorem dX10_steps_231 : decode cX10_steps 231 = .ok (.iload_n 2, 1) := by decide +kernel
theorem dX10_steps_232 : decode cX10_steps 232 = .ok (.bipush 7, 2) := by decide +kernel
theorem dX10_steps_234 : decode cX10_steps 234 = .ok (.iadd, 1) := by decide +kernel
theorem dX10_steps_235 : decode cX10_steps 235 = .ok (.iload 6, 2) := by decide +kernel
theorem dX10_steps_237 : decode cX10_steps 237 = .ok (.iastore, 1) := by decide +kernel
theorem dX10_steps_238 : decode cX10_steps 238 = .ok (.aload_n 0, 1) := by decide +kernel
theorem dX10_steps_239 : decode cX10_steps 239 = .ok (.iload_n 2, 1) := by decide +kernel
theorem dX10_steps_240 : decode cX10_steps 240 = .ok (.iload 10, 2) := by decide +kernel
theorem dX10_steps_242 : decode cX10_steps 242 = .ok (.iconst 2, 1) := by decide +kernel
theorem dX10_steps_243 : decode cX10_steps 243 = .ok (.iadd, 1) := by decide +kernel
theorem dX10_steps_244 : decode cX10_steps 244 = .ok (.invokestatic 56, 3) := by decide +kernel
theorem dX10_steps_247 : decode cX10_steps 247 = .ok (.invokevirtual 59, 3) := by decide +kernel
theorem dX10_steps_250 : decode cX10_steps 250 = .ok (.aload_n 0, 1) := by decide +kernel
theorem dX10_steps_251 : decode cX10_steps 251 = .ok (.iload_n 2, 1) := by decide +kernel
theorem dX10_steps_252 : decode cX10_steps 252 = .ok (.iload 10, 2) := by decide +kernel
theorem dX10_steps_254 : decode cX10_steps 254 = .ok (.iconst 0, 1) := by decide +kernel
theorem dX10_steps_255 : decode cX10_steps 255 = .ok (.invokevirtual 63, 3) := by decide +kernel
theorem dX10_steps_258 : decode cX10_steps 258 = .ok (.aload_n 0, 1) := by decide +kernel
theorem dX10_steps_259 : decode cX10_steps 259 = .ok (.getfield 7, 3) := by decide +kernel
theorem dX10_steps_262 : decode cX10_steps 262 = .ok (.iload 11, 2) := by decide +kernel
theorem dX10_steps_264 : decode cX10_steps 264 = .ok (.bipush 8, 2) := by decide +kernel
theorem dX10_steps_266 : decode cX10_steps 266 = .ok (.iadd, 1) := by decide +kernel
theorem dX10_steps_267 : decode cX10_steps 267 = .ok (.aload_n 0, 1) := by decide +kernel
theorem dX10_steps_268 : decode cX10_steps 268 = .ok (.getfield 7, 3) := by decide +kernel
theorem dX10_steps_271 : decode cX10_steps 271 = .ok (.iload_n 2, 1) := by decide +kernel
theorem dX10_steps_272 : decode cX10_steps 272 = .ok (.bipush 13, 2) := by decide +kernel
theorem dX10_steps_274 : decode cX10_steps 274 = .ok (.iadd, 1) := by decide +kernel
theorem dX10_steps_275 : decode cX10_steps 275 = .ok (.iaload, 1) := by decide +kernel
theorem dX10_steps_276 : decode cX10_steps 276 = .ok (.iastore, 1) := by decide +kernel
theorem dX10_steps_277 : decode cX10_steps 277 = .ok (.aload_n 0, 1) := by decide +kernel
theorem dX10_steps_278 : decode cX10_steps 278 = .ok (.getfield 7, 3) := by decide +kernel
theorem dX10_steps_281 : decode cX10_steps 281 = .ok (.iload 11, 2) := by decide +kernel
theorem dX10_steps_283 : decode cX10_steps 283 = .ok (.bipush 9, 2) := by decide +kernel
theorem dX10_steps_285 : decode cX10_steps 285 = .ok (.iadd, 1) := by decide +kernel
theorem dX10_steps_286 : decode cX10_steps 286 = .ok (.aload_n 0, 1) := by decide +kernel
theorem dX10_steps_287 : decode cX10_steps 287 = .ok (.getfield 7, 3) := by decide +kernel
theorem dX10_steps_290 : decode cX10_steps 290 = .ok (.iload_n 2, 1) := by decide +kernel
theorem dX10_steps_291 : decode cX10_steps 291 = .ok (.bipush 14, 2) := by decide +kernel
theorem dX10_steps_293 : decode cX10_steps 293 = .ok (.iadd, 1) := by decide +kernel
theorem dX10_steps_294 : decode cX10_steps 294 = .ok (.iaload, 1) := by decide +kernel
theorem dX10_steps_295 : decode cX10_steps 295 = .ok (.iastore, 1) := by decide +kernel
theorem dX10_steps_296 : decode cX10_steps 296 = .ok (.iconst 0, 1) := by decide +kernel
theorem dX10_steps_297 : decode cX10_steps 297 = .ok (.ireturn, 1) := by decide +kernel
