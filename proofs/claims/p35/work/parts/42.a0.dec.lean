theorem dX10_byteAt_0 : decode cX10_byteAt 0 = .ok (.iload_n 1, 1) := by decide +kernel
theorem dX10_byteAt_1 : decode cX10_byteAt 1 = .ok (.aload_n 0, 1) := by decide +kernel
theorem dX10_byteAt_2 : decode cX10_byteAt 2 = .ok (.getfield 201, 3) := by decide +kernel
theorem dX10_byteAt_5 : decode cX10_byteAt 5 = .ok (.if_icmp .ge 12, 3) := by decide +kernel
theorem dX10_byteAt_8 : decode cX10_byteAt 8 = .ok (.aload_n 0, 1) := by decide +kernel
theorem dX10_byteAt_9 : decode cX10_byteAt 9 = .ok (.getfield 13, 3) := by decide +kernel
theorem dX10_byteAt_12 : decode cX10_byteAt 12 = .ok (.iload_n 1, 1) := by decide +kernel
theorem dX10_byteAt_13 : decode cX10_byteAt 13 = .ok (.iaload, 1) := by decide +kernel
theorem dX10_byteAt_14 : decode cX10_byteAt 14 = .ok (.goto 4, 3) := by decide +kernel
theorem dX10_byteAt_17 : decode cX10_byteAt 17 = .ok (.iconst (-1), 1) := by decide +kernel
theorem dX10_byteAt_18 : decode cX10_byteAt 18 = .ok (.ireturn, 1) := by decide +kernel
theorem dX10_isDigit_0 : decode cX10_isDigit 0 = .ok (.iload_n 0, 1) := by decide +kernel
theorem dX10_isDigit_1 : decode cX10_isDigit 1 = .ok (.bipush 48, 2) := by decide +kernel
theorem dX10_isDigit_3 : decode cX10_isDigit 3 = .ok (.if_icmp .lt 13, 3) := by decide +kernel
theorem dX10_isDigit_6 : decode cX10_isDigit 6 = .ok (.iload_n 0, 1) := by decide +kernel
theorem dX10_isDigit_7 : decode cX10_isDigit 7 = .ok (.bipush 57, 2) := by decide +kernel
theorem dX10_isDigit_9 : decode cX10_isDigit 9 = .ok (.if_icmp .gt 7, 3) := by decide +kernel
theorem dX10_isDigit_12 : decode cX10_isDigit 12 = .ok (.iconst 1, 1) := by decide +kernel
theorem dX10_isDigit_13 : decode cX10_isDigit 13 = .ok (.goto 4, 3) := by decide +kernel
theorem dX10_isDigit_16 : decode cX10_isDigit 16 = .ok (.iconst 0, 1) := by decide +kernel
theorem dX10_isDigit_17 : decode cX10_isDigit 17 = .ok (.ireturn, 1) := by decide +kernel
theorem dX10_isLetter_0 : decode cX10_isLetter 0 = .ok (.iload_n 0, 1) := by decide +kernel
theorem dX10_isLetter_1 : decode cX10_isLetter 1 = .ok (.bipush 97, 2) := by decide +kernel
theorem dX10_isLetter_3 : decode cX10_isLetter 3 = .ok (.if_icmp .lt 13, 3) := by decide +kernel
theorem dX10_isLetter_6 : decode cX10_isLetter 6 = .ok (.iload_n 0, 1) := by decide +kernel
theorem dX10_isLetter_7 : decode cX10_isLetter 7 = .ok (.bipush 122, 2) := by decide +kernel
theorem dX10_isLetter_9 : decode cX10_isLetter 9 = .ok (.if_icmp .gt 7, 3) := by decide +kernel
theorem dX10_isLetter_12 : decode cX10_isLetter 12 = .ok (.iconst 1, 1) := by decide +kernel
theorem dX10_isLetter_13 : decode cX10_isLetter 13 = .ok (.goto 4, 3) := by decide +kernel
theorem dX10_isLetter_16 : decode cX10_isLetter 16 = .ok (.iconst 0, 1) := by decide +kernel
theorem dX10_isLetter_17 : decode cX10_isLetter 17 = .ok (.ireturn, 1) := by decide +kernel
theorem dX10_takes_0 : decode cX10_takes 0 = .ok (.aload_n 0, 1) := by decide +kernel
theorem dX10_takes_1 : decode cX10_takes 1 = .ok (.aload_n 0, 1) := by decide +kernel
theorem dX10_takes_2 : decode cX10_takes 2 = .ok (.getfield 204, 3) := by decide +kernel
theorem dX10_takes_5 : decode cX10_takes 5 = .ok (.invokevirtual 207, 3) := by decide +kernel
theorem dX10_takes_8 : decode cX10_takes 8 = .ok (.bipush 32, 2) := by decide +kernel
theorem dX10_takes_10 : decode cX10_takes 10 = .ok (.if_icmp .eq 16, 3) := by decide +kernel
theorem dX10_takes_13 : decode cX10_takes 13 = .ok (.aload_n 0, 1) := by decide +kernel
theorem dX10_takes_14 : decode cX10_takes 14 = .ok (.aload_n 0, 1) := by decide +kernel
theorem dX10_takes_15 : decode cX10_takes 15 = .ok (.getfield 204, 3) := by decide +kernel
theorem dX10_takes_18 : decode cX10_takes 18 = .ok (.invokevirtual 207, 3) := by decide +kernel
theorem dX10_takes_21 : decode cX10_takes 21 = .ok (.bipush 10, 2) := by decide +kernel
theorem dX10_takes_23 : decode cX10_takes 23 = .ok (.if_icmp .ne 16, 3) := by decide +kernel
theorem dX10_takes_26 : decode cX10_takes 26 = .ok (.aload_n 0, 1) := by decide +kernel
theorem dX10_takes_27 : decode cX10_takes 27 = .ok (.dup, 1) := by decide +kernel
theorem dX10_takes_28 : decode cX10_takes 28 = .ok (.getfield 204, 3) := by decide +kernel
theorem dX10_takes_31 : decode cX10_takes 31 = .ok (.iconst 1, 1) := by decide +kernel
theorem dX10_takes_32 : decode cX10_takes 32 = .ok (.iadd, 1) := by decide +kernel
theorem dX10_takes_33 : decode cX10_takes 33 = .ok (.putfield 204, 3) := by decide +kernel
theorem dX10_takes_36 : decode cX10_takes 36 = .ok (.goto (-36), 3) := by decide +kernel
theorem dX10_takes_39 : decode cX10_takes 39 = .ok (.aload_n 0, 1) := by decide +kernel
theorem dX10_takes_40 : decode cX10_takes 40 = .ok (.aload_n 0, 1) := by decide +kernel
theorem dX10_takes_41 : decode cX10_takes 41 = .ok (.getfield 204, 3) := by decide +kernel
theorem dX10_takes_44 : decode cX10_takes 44 = .ok (.putfield 210, 3) := by decide +kernel
theorem dX10_takes_47 : decode cX10_takes 47 = .ok (.aload_n 0, 1) := by decide +kernel
theorem dX10_takes_48 : decode cX10_takes 48 = .ok (.aload_n 0, 1) := by decide +kernel
theorem dX10_takes_49 : decode cX10_takes 49 = .ok (.getfield 204, 3) := by decide +kernel
theorem dX10_takes_52 : decode cX10_takes 52 = .ok (.invokevirtual 207, 3) := by decide +kernel
theorem dX10_takes_55 : decode cX10_takes 55 = .ok (.istore_n 1, 1) := by decide +kernel
theorem dX10_takes_56 : decode cX10_takes 56 = .ok (.aload_n 0, 1) := by decide +kernel
theorem dX10_takes_57 : decode cX10_takes 57 = .ok (.lconst 0, 1) := by decide +kernel
theorem dX10_takes_58 : decode cX10_takes 58 = .ok (.putfield 213, 3) := by decide +kernel
theorem dX10_takes_61 : decode cX10_takes 61 = .ok (.iload_n 1, 1) := by decide +kernel
theorem dX10_takes_62 : decode cX10_takes 62 = .ok (.ifCond .ge 11, 3) := by decide +kernel
theorem dX10_takes_65 : decode cX10_takes 65 = .ok (.aload_n 0, 1) := by decide +kernel
theorem dX10_takes_66 : decode cX10_takes 66 = .ok (.iconst 0, 1) := by decide +kernel
theorem dX10_takes_67 : decode cX10_takes 67 = .ok (.putfield 217, 3) := by decide +kernel
theorem dX10_takes_70 : decode cX10_takes 70 = .ok (.goto 221, 3) := by decide +kernel
theorem dX10_takes_73 : decode cX10_takes 73 = .ok (.iload_n 1, 1) := by decide +kernel
theorem dX10_takes_74 : decode cX10_takes 74 = .ok (.invokestatic 220, 3) := by decide +kernel
theorem dX10_takes_77 : decode cX10_takes 77 = .ok (.ifCond .eq 84, 3) := by decide +kernel
theorem dX10_takes_80 : decode cX10_takes 80 = .ok (.aload_n 0, 1) := by decide +kernel
theorem dX10_takes_81 : decode cX10_takes 81 = .ok (.iconst 1, 1) := by decide +kernel
theorem dX10_takes_82 : decode cX10_takes 82 = .ok (.putfield 217, 3) := by decide +kernel
theorem dX10_takes_85 : decode cX10_takes 85 = .ok (.aload_n 0, 1) := by decide +kernel
theorem dX10_takes_86 : decode cX10_takes 86 = .ok (.aload_n 0, 1) := by decide +kernel
theorem dX10_takes_87 : decode cX10_takes 87 = .ok (.getfield 204, 3) := by decide +kernel
theorem dX10_takes_90 : decode cX10_takes 90 = .ok (.invokevirtual 207, 3) := by decide +kernel
theorem dX10_takes_93 : decode cX10_takes 93 = .ok (.invokestatic 220, 3) := by decide +kernel
theorem dX10_takes_96 : decode cX10_takes 96 = .ok (.ifCond .eq 195, 3) := by decide +kernel
theorem dX10_takes_99 : decode cX10_takes 99 = .ok (.aload_n 0, 1) := by decide +kernel
theorem dX10_takes_100 : decode cX10_takes 100 = .ok (.aload_n 0, 1) := by decide +kernel
theorem dX10_takes_101 : decode cX10_takes 101 = .ok (.getfield 204, 3) := by decide +kernel
theorem dX10_takes_104 : decode cX10_takes 104 = .ok (.aload_n 0, 1) := by decide +kernel
theorem dX10_takes_105 : decode cX10_takes 105 = .ok (.getfield 210, 3) := by decide +kernel
theorem dX10_takes_108 : decode cX10_takes 108 = .ok (.isub, 1) := by decide +kernel
theorem dX10_takes_109 : decode cX10_takes 109 = .ok (.bipush 9, 2) := by decide +kernel
theorem dX10_takes_111 : decode cX10_takes 111 = .ok (.if_icmp .ge 30, 3) := by decide +kernel
theorem dX10_takes_114 : decode cX10_takes 114 = .ok (.ldc2_w 223, 3) := by decide +kernel
theorem dX10_takes_117 : decode cX10_takes 117 = .ok (.aload_n 0, 1) := by decide +kernel
theorem dX10_takes_118 : decode cX10_takes 118 = .ok (.getfield 213, 3) := by decide +kernel
theorem dX10_takes_121 : decode cX10_takes 121 = .ok (.lmul, 1) := by decide +kernel
theorem dX10_takes_122 : decode cX10_takes 122 = .ok (.aload_n 0, 1) := by decide +kernel
theorem dX10_takes_123 : decode cX10_takes 123 = .ok (.aload_n 0, 1) := by decide +kernel
theorem dX10_takes_124 : decode cX10_takes 124 = .ok (.getfield 204, 3) := by decide +kernel
theorem dX10_takes_127 : decode cX10_takes 127 = .ok (.invokevirtual 207, 3) := by decide +kernel
theorem dX10_takes_130 : decode cX10_takes 130 = .ok (.i2l, 1) := by decide +kernel
theorem dX10_takes_131 : decode cX10_takes 131 = .ok (.ladd, 1) := by decide +kernel
theorem dX10_takes_132 : decode cX10_takes 132 = .ok (.ldc2_w 225, 3) := by decide +kernel
theorem dX10_takes_135 : decode cX10_takes 135 = .ok (.lsub, 1) := by decide +kernel
theorem dX10_takes_136 : decode cX10_takes 136 = .ok (.lconst 1, 1) := by decide +kernel
theorem dX10_takes_137 : decode cX10_takes 137 = .ok (.ladd, 1) := by decide +kernel
theorem dX10_takes_138 : decode cX10_takes 138 = .ok (.goto 7, 3) := by decide +kernel
theorem dX10_takes_141 : decode cX10_takes 141 = .ok (.aload_n 0, 1) := by decide +kernel
theorem dX10_takes_142 : decode cX10_takes 142 = .ok (.getfield 213, 3) := by decide +kernel
theorem dX10_takes_145 : decode cX10_takes 145 = .ok (.putfield 213, 3) := by decide +kernel
theorem dX10_takes_148 : decode cX10_takes 148 = .ok (.aload_n 0, 1) := by decide +kernel
theorem dX10_takes_149 : decode cX10_takes 149 = .ok (.dup, 1) := by decide +kernel
theorem dX10_takes_150 : decode cX10_takes 150 = .ok (.getfield 204, 3) := by decide +kernel
theorem dX10_takes_153 : decode cX10_takes 153 = .ok (.iconst 1, 1) := by decide +kernel
theorem dX10_takes_154 : decode cX10_takes 154 = .ok (.iadd, 1) := by decide +kernel
theorem dX10_takes_155 : decode cX10_takes 155 = .ok (.putfield 204, 3) := by decide +kernel
theorem dX10_takes_158 : decode cX10_takes 158 = .ok (.goto (-73), 3) := by decide +kernel
theorem dX10_takes_161 : decode cX10_takes 161 = .ok (.iload_n 1, 1) := by decide +kernel
theorem dX10_takes_162 : decode cX10_takes 162 = .ok (.invokestatic 227, 3) := by decide +kernel
theorem dX10_takes_165 : decode cX10_takes 165 = .ok (.ifCond .eq 101, 3) := by decide +kernel
theorem dX10_takes_168 : decode cX10_takes 168 = .ok (.aload_n 0, 1) := by decide +kernel
theorem dX10_takes_169 : decode cX10_takes 169 = .ok (.aload_n 0, 1) := by decide +kernel
theorem dX10_takes_170 : decode cX10_takes 170 = .ok (.getfield 204, 3) := by decide +kernel
theorem dX10_takes_173 : decode cX10_takes 173 = .ok (.invokevirtual 207, 3) := by decide +kernel
theorem dX10_takes_176 : decode cX10_takes 176 = .ok (.invokestatic 227, 3) := by decide +kernel
theorem dX10_takes_179 : decode cX10_takes 179 = .ok (.ifCond .eq 62, 3) := by decide +kernel
theorem dX10_takes_182 : decode cX10_takes 182 = .ok (.aload_n 0, 1) := by decide +kernel
theorem dX10_takes_183 : decode cX10_takes 183 = .ok (.aload_n 0, 1) := by decide +kernel
theorem dX10_takes_184 : decode cX10_takes 184 = .ok (.getfield 204, 3) := by decide +kernel
theorem dX10_takes_187 : decode cX10_takes 187 = .ok (.aload_n 0, 1) := by decide +kernel
theorem dX10_takes_188 : decode cX10_takes 188 = .ok (.getfield 210, 3) := by decide +kernel
theorem dX10_takes_191 : decode cX10_takes 191 = .ok (.isub, 1) := by decide +kernel
theorem dX10_takes_192 : decode cX10_takes 192 = .ok (.iconst 4, 1) := by decide +kernel
theorem dX10_takes_193 : decode cX10_takes 193 = .ok (.if_icmp .ge 28, 3) := by decide +kernel
theorem dX10_takes_196 : decode cX10_takes 196 = .ok (.ldc2_w 230, 3) := by decide +kernel
theorem dX10_takes_199 : decode cX10_takes 199 = .ok (.aload_n 0, 1) := by decide +kernel
theorem dX10_takes_200 : decode cX10_takes 200 = .ok (.getfield 213, 3) := by decide +kernel
theorem dX10_takes_203 : decode cX10_takes 203 = .ok (.lmul, 1) := by decide +kernel
theorem dX10_takes_204 : decode cX10_takes 204 = .ok (.aload_n 0, 1) := by decide +kernel
theorem dX10_takes_205 : decode cX10_takes 205 = .ok (.aload_n 0, 1) := by decide +kernel
theorem dX10_takes_206 : decode cX10_takes 206 = .ok (.getfield 204, 3) := by decide +kernel
theorem dX10_takes_209 : decode cX10_takes 209 = .ok (.invokevirtual 207, 3) := by decide +kernel
theorem dX10_takes_212 : decode cX10_takes 212 = .ok (.i2l, 1) := by decide +kernel
theorem dX10_takes_213 : decode cX10_takes 213 = .ok (.ladd, 1) := by decide +kernel
theorem dX10_takes_214 : decode cX10_takes 214 = .ok (.ldc2_w 232, 3) := by decide +kernel
theorem dX10_takes_217 : decode cX10_takes 217 = .ok (.lsub, 1) := by decide +kernel
theorem dX10_takes_218 : decode cX10_takes 218 = .ok (.goto 7, 3) := by decide +kernel
theorem dX10_takes_221 : decode cX10_takes 221 = .ok (.aload_n 0, 1) := by decide +kernel
theorem dX10_takes_222 : decode cX10_takes 222 = .ok (.getfield 213, 3) := by decide +kernel
theorem dX10_takes_225 : decode cX10_takes 225 = .ok (.putfield 213, 3) := by decide +kernel
theorem dX10_takes_228 : decode cX10_takes 228 = .ok (.aload_n 0, 1) := by decide +kernel
theorem dX10_takes_229 : decode cX10_takes 229 = .ok (.dup, 1) := by decide +kernel
theorem dX10_takes_230 : decode cX10_takes 230 = .ok (.getfield 204, 3) := by decide +kernel
theorem dX10_takes_233 : decode cX10_takes 233 = .ok (.iconst 1, 1) := by decide +kernel
theorem dX10_takes_234 : decode cX10_takes 234 = .ok (.iadd, 1) := by decide +kernel
theorem dX10_takes_235 : decode cX10_takes 235 = .ok (.putfield 204, 3) := by decide +kernel
theorem dX10_takes_238 : decode cX10_takes 238 = .ok (.goto (-70), 3) := by decide +kernel
theorem dX10_takes_241 : decode cX10_takes 241 = .ok (.aload_n 0, 1) := by decide +kernel
theorem dX10_takes_242 : decode cX10_takes 242 = .ok (.aload_n 0, 1) := by decide +kernel
theorem dX10_takes_243 : decode cX10_takes 243 = .ok (.getfield 204, 3) := by decide +kernel
theorem dX10_takes_246 : decode cX10_takes 246 = .ok (.aload_n 0, 1) := by decide +kernel
theorem dX10_takes_247 : decode cX10_takes 247 = .ok (.getfield 210, 3) := by decide +kernel
theorem dX10_takes_250 : decode cX10_takes 250 = .ok (.isub, 1) := by decide +kernel
theorem dX10_takes_251 : decode cX10_takes 251 = .ok (.iconst 4, 1) := by decide +kernel
theorem dX10_takes_252 : decode cX10_takes 252 = .ok (.if_icmp .le 7, 3) := by decide +kernel
theorem dX10_takes_255 : decode cX10_takes 255 = .ok (.iconst 4, 1) := by decide +kernel
theorem dX10_takes_256 : decode cX10_takes 256 = .ok (.goto 4, 3) := by decide +kernel
theorem dX10_takes_259 : decode cX10_takes 259 = .ok (.iconst 2, 1) := by decide +kernel
theorem dX10_takes_260 : decode cX10_takes 260 = .ok (.putfield 217, 3) := by decide +kernel
theorem dX10_takes_263 : decode cX10_takes 263 = .ok (.goto 28, 3) := by decide +kernel
theorem dX10_takes_266 : decode cX10_takes 266 = .ok (.aload_n 0, 1) := by decide +kernel
theorem dX10_takes_267 : decode cX10_takes 267 = .ok (.dup, 1) := by decide +kernel
theorem dX10_takes_268 : decode cX10_takes 268 = .ok (.getfield 204, 3) := by decide +kernel
theorem dX10_takes_271 : decode cX10_takes 271 = .ok (.iconst 1, 1) := by decide +kernel
theorem dX10_takes_272 : decode cX10_takes 272 = .ok (.iadd, 1) := by decide +kernel
theorem dX10_takes_273 : decode cX10_takes 273 = .ok (.putfield 204, 3) := by decide +kernel
theorem dX10_takes_276 : decode cX10_takes 276 = .ok (.aload_n 0, 1) := by decide +kernel
theorem dX10_takes_277 : decode cX10_takes 277 = .ok (.iload_n 1, 1) := by decide +kernel
theorem dX10_takes_278 : decode cX10_takes 278 = .ok (.bipush 59, 2) := by decide +kernel
theorem dX10_takes_280 : decode cX10_takes 280 = .ok (.if_icmp .ne 7, 3) := by decide +kernel
theorem dX10_takes_283 : decode cX10_takes 283 = .ok (.iconst 3, 1) := by decide +kernel
theorem dX10_takes_284 : decode cX10_takes 284 = .ok (.goto 4, 3) := by decide +kernel
theorem dX10_takes_287 : decode cX10_takes 287 = .ok (.iconst 4, 1) := by decide +kernel
theorem dX10_takes_288 : decode cX10_takes 288 = .ok (.putfield 217, 3) := by decide +kernel
theorem dX10_takes_291 : decode cX10_takes 291 = .ok (.return_, 1) := by decide +kernel
