theorem dX10_byteAt_0 : decode cX10_byteAt 0 = .ok (.iload_n 1, 1) := by decide +kernel
theorem dX10_byteAt_1 : decode cX10_byteAt 1 = .ok (.aload_n 0, 1) := by decide +kernel
theorem dX10_byteAt_2 : decode cX10_byteAt 2 = .ok (.getfield 201, 3) := by decide +kernel
theorem dX10_byteAt_5 : decode cX10_byteAt 5 = .ok (.if_icmp .ge 12, 3) := by decide +kernel
theorem dX10_byteAt_17 : decode cX10_byteAt 17 = .ok (.iconst (-1), 1) := by decide +kernel
theorem dX10_byteAt_18 : decode cX10_byteAt 18 = .ok (.ireturn, 1) := by decide +kernel
theorem dX10_copies_0 : decode cX10_copies 0 = .ok (.iconst 0, 1) := by decide +kernel
theorem dX10_copies_1 : decode cX10_copies 1 = .ok (.istore_n 3, 1) := by decide +kernel
theorem dX10_copies_2 : decode cX10_copies 2 = .ok (.iload_n 3, 1) := by decide +kernel
theorem dX10_copies_3 : decode cX10_copies 3 = .ok (.sipush 1140, 3) := by decide +kernel
theorem dX10_copies_6 : decode cX10_copies 6 = .ok (.if_icmp .ge 25, 3) := by decide +kernel
theorem dX10_copies_9 : decode cX10_copies 9 = .ok (.aload_n 0, 1) := by decide +kernel
theorem dX10_copies_10 : decode cX10_copies 10 = .ok (.getfield 7, 3) := by decide +kernel
theorem dX10_copies_13 : decode cX10_copies 13 = .ok (.iload_n 2, 1) := by decide +kernel
theorem dX10_copies_14 : decode cX10_copies 14 = .ok (.iload_n 3, 1) := by decide +kernel
theorem dX10_copies_15 : decode cX10_copies 15 = .ok (.iadd, 1) := by decide +kernel
theorem dX10_copies_16 : decode cX10_copies 16 = .ok (.aload_n 0, 1) := by decide +kernel
theorem dX10_copies_17 : decode cX10_copies 17 = .ok (.getfield 7, 3) := by decide +kernel
theorem dX10_copies_20 : decode cX10_copies 20 = .ok (.iload_n 1, 1) := by decide +kernel
theorem dX10_copies_21 : decode cX10_copies 21 = .ok (.iload_n 3, 1) := by decide +kernel
theorem dX10_copies_22 : decode cX10_copies 22 = .ok (.iadd, 1) := by decide +kernel
theorem dX10_copies_23 : decode cX10_copies 23 = .ok (.iaload, 1) := by decide +kernel
theorem dX10_copies_24 : decode cX10_copies 24 = .ok (.iastore, 1) := by decide +kernel
theorem dX10_copies_25 : decode cX10_copies 25 = .ok (.iinc 3 1, 3) := by decide +kernel
theorem dX10_copies_28 : decode cX10_copies 28 = .ok (.goto (-26), 3) := by decide +kernel
theorem dX10_copies_31 : decode cX10_copies 31 = .ok (.return_, 1) := by decide +kernel
theorem dX10_draw_0 : decode cX10_draw 0 = .ok (.iload_n 3, 1) := by decide +kernel
theorem dX10_draw_1 : decode cX10_draw 1 = .ok (.bipush 9, 2) := by decide +kernel
theorem dX10_draw_3 : decode cX10_draw 3 = .ok (.if_icmp .le 7, 3) := by decide +kernel
theorem dX10_draw_6 : decode cX10_draw 6 = .ok (.iconst 1, 1) := by decide +kernel
theorem dX10_draw_7 : decode cX10_draw 7 = .ok (.goto 4, 3) := by decide +kernel
theorem dX10_draw_10 : decode cX10_draw 10 = .ok (.iconst 0, 1) := by decide +kernel
theorem dX10_draw_11 : decode cX10_draw 11 = .ok (.istore 6, 2) := by decide +kernel
theorem dX10_draw_13 : decode cX10_draw 13 = .ok (.aload_n 0, 1) := by decide +kernel
theorem dX10_draw_14 : decode cX10_draw 14 = .ok (.aload_n 0, 1) := by decide +kernel
theorem dX10_draw_15 : decode cX10_draw 15 = .ok (.iload_n 1, 1) := by decide +kernel
theorem dX10_draw_16 : decode cX10_draw 16 = .ok (.iload_n 2, 1) := by decide +kernel
theorem dX10_draw_17 : decode cX10_draw 17 = .ok (.iload 6, 2) := by decide +kernel
theorem dX10_draw_19 : decode cX10_draw 19 = .ok (.ifCond .eq 10, 3) := by decide +kernel
theorem dX10_draw_22 : decode cX10_draw 22 = .ok (.iload_n 3, 1) := by decide +kernel
theorem dX10_draw_23 : decode cX10_draw 23 = .ok (.bipush 10, 2) := by decide +kernel
theorem dX10_draw_25 : decode cX10_draw 25 = .ok (.isub, 1) := by decide +kernel
theorem dX10_draw_26 : decode cX10_draw 26 = .ok (.goto 4, 3) := by decide +kernel
theorem dX10_draw_29 : decode cX10_draw 29 = .ok (.iload_n 3, 1) := by decide +kernel
theorem dX10_draw_30 : decode cX10_draw 30 = .ok (.iload 6, 2) := by decide +kernel
theorem dX10_draw_32 : decode cX10_draw 32 = .ok (.iload 4, 2) := by decide +kernel
theorem dX10_draw_34 : decode cX10_draw 34 = .ok (.iload 5, 2) := by decide +kernel
theorem dX10_draw_36 : decode cX10_draw 36 = .ok (.invokevirtual 112, 3) := by decide +kernel
theorem dX10_draw_39 : decode cX10_draw 39 = .ok (.invokevirtual 97, 3) := by decide +kernel
theorem dX10_draw_42 : decode cX10_draw 42 = .ok (.istore 7, 2) := by decide +kernel
theorem dX10_draw_44 : decode cX10_draw 44 = .ok (.iload 7, 2) := by decide +kernel
theorem dX10_draw_46 : decode cX10_draw 46 = .ok (.ifCond .le 9, 3) := by decide +kernel
theorem dX10_draw_49 : decode cX10_draw 49 = .ok (.iload 7, 2) := by decide +kernel
theorem dX10_draw_51 : decode cX10_draw 51 = .ok (.ineg, 1) := by decide +kernel
theorem dX10_draw_52 : decode cX10_draw 52 = .ok (.goto 11, 3) := by decide +kernel
theorem dX10_draw_55 : decode cX10_draw 55 = .ok (.aload_n 0, 1) := by decide +kernel
theorem dX10_draw_56 : decode cX10_draw 56 = .ok (.getfield 7, 3) := by decide +kernel
theorem dX10_draw_59 : decode cX10_draw 59 = .ok (.iconst 1, 1) := by decide +kernel
theorem dX10_draw_60 : decode cX10_draw 60 = .ok (.iaload, 1) := by decide +kernel
theorem dX10_draw_61 : decode cX10_draw 61 = .ok (.iconst 1, 1) := by decide +kernel
theorem dX10_draw_62 : decode cX10_draw 62 = .ok (.isub, 1) := by decide +kernel
theorem dX10_draw_63 : decode cX10_draw 63 = .ok (.ireturn, 1) := by decide +kernel
theorem dX10_draws_0 : decode cX10_draws 0 = .ok (.iload_n 1, 1) := by decide +kernel
theorem dX10_draws_1 : decode cX10_draws 1 = .ok (.invokestatic 100, 3) := by decide +kernel
theorem dX10_draws_4 : decode cX10_draws 4 = .ok (.ifCond .eq 50, 3) := by decide +kernel
theorem dX10_draws_7 : decode cX10_draws 7 = .ok (.iload_n 2, 1) := by decide +kernel
theorem dX10_draws_8 : decode cX10_draws 8 = .ok (.invokestatic 100, 3) := by decide +kernel
theorem dX10_draws_11 : decode cX10_draws 11 = .ok (.ifCond .eq 43, 3) := by decide +kernel
theorem dX10_draws_14 : decode cX10_draws 14 = .ok (.iload_n 3, 1) := by decide +kernel
theorem dX10_draws_15 : decode cX10_draws 15 = .ok (.invokestatic 100, 3) := by decide +kernel
theorem dX10_draws_18 : decode cX10_draws 18 = .ok (.ifCond .eq 36, 3) := by decide +kernel
theorem dX10_draws_21 : decode cX10_draws 21 = .ok (.iload 5, 2) := by decide +kernel
theorem dX10_draws_23 : decode cX10_draws 23 = .ok (.iconst 1, 1) := by decide +kernel
theorem dX10_draws_24 : decode cX10_draws 24 = .ok (.sipush 999, 3) := by decide +kernel
theorem dX10_draws_27 : decode cX10_draws 27 = .ok (.invokestatic 33, 3) := by decide +kernel
theorem dX10_draws_30 : decode cX10_draws 30 = .ok (.ifCond .eq 24, 3) := by decide +kernel
theorem dX10_draws_33 : decode cX10_draws 33 = .ok (.iload 6, 2) := by decide +kernel
theorem dX10_draws_35 : decode cX10_draws 35 = .ok (.iconst 0, 1) := by decide +kernel
theorem dX10_draws_36 : decode cX10_draws 36 = .ok (.bipush 99, 2) := by decide +kernel
theorem dX10_draws_38 : decode cX10_draws 38 = .ok (.invokestatic 33, 3) := by decide +kernel
theorem dX10_draws_41 : decode cX10_draws 41 = .ok (.ifCond .eq 13, 3) := by decide +kernel
theorem dX10_draws_44 : decode cX10_draws 44 = .ok (.aload_n 0, 1) := by decide +kernel
theorem dX10_draws_45 : decode cX10_draws 45 = .ok (.getfield 7, 3) := by decide +kernel
theorem dX10_draws_48 : decode cX10_draws 48 = .ok (.iconst 1, 1) := by decide +kernel
theorem dX10_draws_49 : decode cX10_draws 49 = .ok (.iaload, 1) := by decide +kernel
theorem dX10_draws_50 : decode cX10_draws 50 = .ok (.iconst 4, 1) := by decide +kernel
theorem dX10_draws_51 : decode cX10_draws 51 = .ok (.if_icmp .ne 6, 3) := by decide +kernel
theorem dX10_draws_54 : decode cX10_draws 54 = .ok (.bipush 30, 2) := by decide +kernel
theorem dX10_draws_56 : decode cX10_draws 56 = .ok (.ireturn, 1) := by decide +kernel
theorem dX10_draws_57 : decode cX10_draws 57 = .ok (.iconst 0, 1) := by decide +kernel
theorem dX10_draws_58 : decode cX10_draws 58 = .ok (.aload_n 0, 1) := by decide +kernel
theorem dX10_draws_59 : decode cX10_draws 59 = .ok (.getfield 7, 3) := by decide +kernel
theorem dX10_draws_62 : decode cX10_draws 62 = .ok (.iconst 1, 1) := by decide +kernel
theorem dX10_draws_63 : decode cX10_draws 63 = .ok (.iaload, 1) := by decide +kernel
theorem dX10_draws_64 : decode cX10_draws 64 = .ok (.invokestatic 109, 3) := by decide +kernel
theorem dX10_draws_67 : decode cX10_draws 67 = .ok (.istore 7, 2) := by decide +kernel
theorem dX10_draws_69 : decode cX10_draws 69 = .ok (.iconst 0, 1) := by decide +kernel
theorem dX10_draws_70 : decode cX10_draws 70 = .ok (.istore 8, 2) := by decide +kernel
theorem dX10_draws_72 : decode cX10_draws 72 = .ok (.iload 8, 2) := by decide +kernel
theorem dX10_draws_74 : decode cX10_draws 74 = .ok (.sipush 280, 3) := by decide +kernel
theorem dX10_draws_77 : decode cX10_draws 77 = .ok (.if_icmp .ge 20, 3) := by decide +kernel
theorem dX10_draws_80 : decode cX10_draws 80 = .ok (.aload_n 0, 1) := by decide +kernel
theorem dX10_draws_81 : decode cX10_draws 81 = .ok (.getfield 7, 3) := by decide +kernel
theorem dX10_draws_84 : decode cX10_draws 84 = .ok (.iload 7, 2) := by decide +kernel
theorem dX10_draws_86 : decode cX10_draws 86 = .ok (.iload 8, 2) := by decide +kernel
theorem dX10_draws_88 : decode cX10_draws 88 = .ok (.iadd, 1) := by decide +kernel
theorem dX10_draws_89 : decode cX10_draws 89 = .ok (.iconst 0, 1) := by decide +kernel
theorem dX10_draws_90 : decode cX10_draws 90 = .ok (.iastore, 1) := by decide +kernel
theorem dX10_draws_91 : decode cX10_draws 91 = .ok (.iinc 8 1, 3) := by decide +kernel
theorem dX10_draws_94 : decode cX10_draws 94 = .ok (.goto (-22), 3) := by decide +kernel
theorem dX10_draws_97 : decode cX10_draws 97 = .ok (.aload_n 0, 1) := by decide +kernel
theorem dX10_draws_98 : decode cX10_draws 98 = .ok (.getfield 7, 3) := by decide +kernel
theorem dX10_draws_101 : decode cX10_draws 101 = .ok (.iload 7, 2) := by decide +kernel
theorem dX10_draws_103 : decode cX10_draws 103 = .ok (.iconst 0, 1) := by decide +kernel
theorem dX10_draws_104 : decode cX10_draws 104 = .ok (.iadd, 1) := by decide +kernel
theorem dX10_draws_105 : decode cX10_draws 105 = .ok (.iload_n 1, 1) := by decide +kernel
theorem dX10_draws_106 : decode cX10_draws 106 = .ok (.iastore, 1) := by decide +kernel
theorem dX10_draws_107 : decode cX10_draws 107 = .ok (.aload_n 0, 1) := by decide +kernel
theorem dX10_draws_108 : decode cX10_draws 108 = .ok (.getfield 7, 3) := by decide +kernel
theorem dX10_draws_111 : decode cX10_draws 111 = .ok (.iload 7, 2) := by decide +kernel
theorem dX10_draws_113 : decode cX10_draws 113 = .ok (.iconst 1, 1) := by decide +kernel
theorem dX10_draws_114 : decode cX10_draws 114 = .ok (.iadd, 1) := by decide +kernel
theorem dX10_draws_115 : decode cX10_draws 115 = .ok (.iload_n 2, 1) := by decide +kernel
theorem dX10_draws_116 : decode cX10_draws 116 = .ok (.iastore, 1) := by decide +kernel
theorem dX10_draws_117 : decode cX10_draws 117 = .ok (.aload_n 0, 1) := by decide +kernel
theorem dX10_draws_118 : decode cX10_draws 118 = .ok (.getfield 7, 3) := by decide +kernel
theorem dX10_draws_121 : decode cX10_draws 121 = .ok (.iload 7, 2) := by decide +kernel
theorem dX10_draws_123 : decode cX10_draws 123 = .ok (.iconst 2, 1) := by decide +kernel
theorem dX10_draws_124 : decode cX10_draws 124 = .ok (.iadd, 1) := by decide +kernel
theorem dX10_draws_125 : decode cX10_draws 125 = .ok (.iload_n 3, 1) := by decide +kernel
theorem dX10_draws_126 : decode cX10_draws 126 = .ok (.iastore, 1) := by decide +kernel
theorem dX10_draws_127 : decode cX10_draws 127 = .ok (.aload_n 0, 1) := by decide +kernel
theorem dX10_draws_128 : decode cX10_draws 128 = .ok (.getfield 7, 3) := by decide +kernel
theorem dX10_draws_131 : decode cX10_draws 131 = .ok (.iload 7, 2) := by decide +kernel
theorem dX10_draws_133 : decode cX10_draws 133 = .ok (.iconst 3, 1) := by decide +kernel
theorem dX10_draws_134 : decode cX10_draws 134 = .ok (.iadd, 1) := by decide +kernel
theorem dX10_draws_135 : decode cX10_draws 135 = .ok (.iload 5, 2) := by decide +kernel
theorem dX10_draws_137 : decode cX10_draws 137 = .ok (.iastore, 1) := by decide +kernel
theorem dX10_draws_138 : decode cX10_draws 138 = .ok (.aload_n 0, 1) := by decide +kernel
theorem dX10_draws_139 : decode cX10_draws 139 = .ok (.getfield 7, 3) := by decide +kernel
theorem dX10_draws_142 : decode cX10_draws 142 = .ok (.iload 7, 2) := by decide +kernel
theorem dX10_draws_144 : decode cX10_draws 144 = .ok (.iconst 4, 1) := by decide +kernel
theorem dX10_draws_145 : decode cX10_draws 145 = .ok (.iadd, 1) := by decide +kernel
theorem dX10_draws_146 : decode cX10_draws 146 = .ok (.aload_n 0, 1) := by decide +kernel
theorem dX10_draws_147 : decode cX10_draws 147 = .ok (.getfield 7, 3) := by decide +kernel
theorem dX10_draws_150 : decode cX10_draws 150 = .ok (.iconst 0, 1) := by decide +kernel
theorem dX10_draws_151 : decode cX10_draws 151 = .ok (.iaload, 1) := by decide +kernel
theorem dX10_draws_152 : decode cX10_draws 152 = .ok (.iload 6, 2) := by decide +kernel
theorem dX10_draws_154 : decode cX10_draws 154 = .ok (.iadd, 1) := by decide +kernel
theorem dX10_draws_155 : decode cX10_draws 155 = .ok (.iastore, 1) := by decide +kernel
theorem dX10_draws_156 : decode cX10_draws 156 = .ok (.aload_n 0, 1) := by decide +kernel
theorem dX10_draws_157 : decode cX10_draws 157 = .ok (.getfield 7, 3) := by decide +kernel
theorem dX10_draws_160 : decode cX10_draws 160 = .ok (.iload 7, 2) := by decide +kernel
theorem dX10_draws_162 : decode cX10_draws 162 = .ok (.iconst 5, 1) := by decide +kernel
theorem dX10_draws_163 : decode cX10_draws 163 = .ok (.iadd, 1) := by decide +kernel
theorem dX10_draws_164 : decode cX10_draws 164 = .ok (.iload 4, 2) := by decide +kernel
theorem dX10_draws_166 : decode cX10_draws 166 = .ok (.ifCond .eq 7, 3) := by decide +kernel
theorem dX10_draws_169 : decode cX10_draws 169 = .ok (.iconst 1, 1) := by decide +kernel
theorem dX10_draws_170 : decode cX10_draws 170 = .ok (.goto 4, 3) := by decide +kernel
theorem dX10_draws_173 : decode cX10_draws 173 = .ok (.iconst 0, 1) := by decide +kernel
theorem dX10_draws_174 : decode cX10_draws 174 = .ok (.iastore, 1) := by decide +kernel
theorem dX10_draws_175 : decode cX10_draws 175 = .ok (.aload_n 0, 1) := by decide +kernel
theorem dX10_draws_176 : decode cX10_draws 176 = .ok (.getfield 7, 3) := by decide +kernel
theorem dX10_draws_179 : decode cX10_draws 179 = .ok (.iload 7, 2) := by decide +kernel
theorem dX10_draws_181 : decode cX10_draws 181 = .ok (.bipush 7, 2) := by decide +kernel
theorem dX10_draws_183 : decode cX10_draws 183 = .ok (.iadd, 1) := by decide +kernel
theorem dX10_draws_184 : decode cX10_draws 184 = .ok (.iload_n 3, 1) := by decide +kernel
theorem dX10_draws_185 : decode cX10_draws 185 = .ok (.iastore, 1) := by decide +kernel
theorem dX10_draws_186 : decode cX10_draws 186 = .ok (.aload_n 0, 1) := by decide +kernel
theorem dX10_draws_187 : decode cX10_draws 187 = .ok (.getfield 7, 3) := by decide +kernel
theorem dX10_draws_190 : decode cX10_draws 190 = .ok (.iload 7, 2) := by decide +kernel
theorem dX10_draws_192 : decode cX10_draws 192 = .ok (.bipush 9, 2) := by decide +kernel
theorem dX10_draws_194 : decode cX10_draws 194 = .ok (.iadd, 1) := by decide +kernel
theorem dX10_draws_195 : decode cX10_draws 195 = .ok (.iconst (-1), 1) := by decide +kernel
theorem dX10_draws_196 : decode cX10_draws 196 = .ok (.iastore, 1) := by decide +kernel
theorem dX10_draws_197 : decode cX10_draws 197 = .ok (.aload_n 0, 1) := by decide +kernel
theorem dX10_draws_198 : decode cX10_draws 198 = .ok (.getfield 7, 3) := by decide +kernel
theorem dX10_draws_201 : decode cX10_draws 201 = .ok (.iload 7, 2) := by decide +kernel
theorem dX10_draws_203 : decode cX10_draws 203 = .ok (.bipush 19, 2) := by decide +kernel
theorem dX10_draws_205 : decode cX10_draws 205 = .ok (.iadd, 1) := by decide +kernel
theorem dX10_draws_206 : decode cX10_draws 206 = .ok (.iconst (-1), 1) := by decide +kernel
theorem dX10_draws_207 : decode cX10_draws 207 = .ok (.iastore, 1) := by decide +kernel
theorem dX10_draws_208 : decode cX10_draws 208 = .ok (.aload_n 0, 1) := by decide +kernel
theorem dX10_draws_209 : decode cX10_draws 209 = .ok (.iload 7, 2) := by decide +kernel
theorem dX10_draws_211 : decode cX10_draws 211 = .ok (.iconst 0, 1) := by decide +kernel
theorem dX10_draws_212 : decode cX10_draws 212 = .ok (.invokestatic 56, 3) := by decide +kernel
theorem dX10_draws_215 : decode cX10_draws 215 = .ok (.invokevirtual 59, 3) := by decide +kernel
theorem dX10_draws_218 : decode cX10_draws 218 = .ok (.aload_n 0, 1) := by decide +kernel
theorem dX10_draws_219 : decode cX10_draws 219 = .ok (.iload 7, 2) := by decide +kernel
theorem dX10_draws_221 : decode cX10_draws 221 = .ok (.iconst 1, 1) := by decide +kernel
theorem dX10_draws_222 : decode cX10_draws 222 = .ok (.invokestatic 56, 3) := by decide +kernel
theorem dX10_draws_225 : decode cX10_draws 225 = .ok (.invokevirtual 59, 3) := by decide +kernel
theorem dX10_draws_228 : decode cX10_draws 228 = .ok (.aload_n 0, 1) := by decide +kernel
theorem dX10_draws_229 : decode cX10_draws 229 = .ok (.iload 7, 2) := by decide +kernel
theorem dX10_draws_231 : decode cX10_draws 231 = .ok (.invokevirtual 91, 3) := by decide +kernel
theorem dX10_draws_234 : decode cX10_draws 234 = .ok (.aload_n 0, 1) := by decide +kernel
theorem dX10_draws_235 : decode cX10_draws 235 = .ok (.getfield 7, 3) := by decide +kernel
theorem dX10_draws_238 : decode cX10_draws 238 = .ok (.iconst 1, 1) := by decide +kernel
theorem dX10_draws_239 : decode cX10_draws 239 = .ok (.dup2, 1) := by decide +kernel
theorem dX10_draws_240 : decode cX10_draws 240 = .ok (.iaload, 1) := by decide +kernel
theorem dX10_draws_241 : decode cX10_draws 241 = .ok (.iconst 1, 1) := by decide +kernel
theorem dX10_draws_242 : decode cX10_draws 242 = .ok (.iadd, 1) := by decide +kernel
theorem dX10_draws_243 : decode cX10_draws 243 = .ok (.iastore, 1) := by decide +kernel
theorem dX10_draws_244 : decode cX10_draws 244 = .ok (.iconst 0, 1) := by decide +kernel
theorem dX10_draws_245 : decode cX10_draws 245 = .ok (.ireturn, 1) := by decide +kernel
theorem dX10_feed_0 : decode cX10_feed 0 = .ok (.aload_n 0, 1) := by decide +kernel
theorem dX10_feed_1 : decode cX10_feed 1 = .ok (.getfield 180, 3) := by decide +kernel
theorem dX10_feed_4 : decode cX10_feed 4 = .ok (.bipush 20, 2) := by decide +kernel
theorem dX10_feed_6 : decode cX10_feed 6 = .ok (.iadd, 1) := by decide +kernel
theorem dX10_feed_7 : decode cX10_feed 7 = .ok (.sipush 600, 3) := by decide +kernel
theorem dX10_feed_10 : decode cX10_feed 10 = .ok (.if_icmp .le 5, 3) := by decide +kernel
theorem dX10_feed_15 : decode cX10_feed 15 = .ok (.iconst 0, 1) := by decide +kernel
theorem dX10_feed_16 : decode cX10_feed 16 = .ok (.istore 6, 2) := by decide +kernel
theorem dX10_feed_18 : decode cX10_feed 18 = .ok (.iload 6, 2) := by decide +kernel
theorem dX10_feed_20 : decode cX10_feed 20 = .ok (.bipush 20, 2) := by decide +kernel
theorem dX10_feed_22 : decode cX10_feed 22 = .ok (.if_icmp .ge 86, 3) := by decide +kernel
theorem dX10_feed_25 : decode cX10_feed 25 = .ok (.iload 6, 2) := by decide +kernel
theorem dX10_feed_27 : decode cX10_feed 27 = .ok (.iconst 4, 1) := by decide +kernel
theorem dX10_feed_28 : decode cX10_feed 28 = .ok (.if_icmp .ge 7, 3) := by decide +kernel
theorem dX10_feed_31 : decode cX10_feed 31 = .ok (.iload_n 1, 1) := by decide +kernel
theorem dX10_feed_32 : decode cX10_feed 32 = .ok (.goto 39, 3) := by decide +kernel
theorem dX10_feed_35 : decode cX10_feed 35 = .ok (.iload 6, 2) := by decide +kernel
theorem dX10_feed_37 : decode cX10_feed 37 = .ok (.bipush 8, 2) := by decide +kernel
theorem dX10_feed_39 : decode cX10_feed 39 = .ok (.if_icmp .ge 7, 3) := by decide +kernel
theorem dX10_feed_42 : decode cX10_feed 42 = .ok (.iload_n 2, 1) := by decide +kernel
theorem dX10_feed_43 : decode cX10_feed 43 = .ok (.goto 28, 3) := by decide +kernel
theorem dX10_feed_46 : decode cX10_feed 46 = .ok (.iload 6, 2) := by decide +kernel
theorem dX10_feed_48 : decode cX10_feed 48 = .ok (.bipush 12, 2) := by decide +kernel
theorem dX10_feed_50 : decode cX10_feed 50 = .ok (.if_icmp .ge 7, 3) := by decide +kernel
theorem dX10_feed_53 : decode cX10_feed 53 = .ok (.iload_n 3, 1) := by decide +kernel
theorem dX10_feed_54 : decode cX10_feed 54 = .ok (.goto 17, 3) := by decide +kernel
theorem dX10_feed_57 : decode cX10_feed 57 = .ok (.iload 6, 2) := by decide +kernel
theorem dX10_feed_59 : decode cX10_feed 59 = .ok (.bipush 16, 2) := by decide +kernel
theorem dX10_feed_61 : decode cX10_feed 61 = .ok (.if_icmp .ge 8, 3) := by decide +kernel
theorem dX10_feed_64 : decode cX10_feed 64 = .ok (.iload 4, 2) := by decide +kernel
theorem dX10_feed_66 : decode cX10_feed 66 = .ok (.goto 5, 3) := by decide +kernel
theorem dX10_feed_69 : decode cX10_feed 69 = .ok (.iload 5, 2) := by decide +kernel
theorem dX10_feed_71 : decode cX10_feed 71 = .ok (.istore 7, 2) := by decide +kernel
theorem dX10_feed_73 : decode cX10_feed 73 = .ok (.aload_n 0, 1) := by decide +kernel
theorem dX10_feed_74 : decode cX10_feed 74 = .ok (.getfield 13, 3) := by decide +kernel
theorem dX10_feed_77 : decode cX10_feed 77 = .ok (.aload_n 0, 1) := by decide +kernel
theorem dX10_feed_78 : decode cX10_feed 78 = .ok (.getfield 180, 3) := by decide +kernel
theorem dX10_feed_81 : decode cX10_feed 81 = .ok (.iload 6, 2) := by decide +kernel
theorem dX10_feed_83 : decode cX10_feed 83 = .ok (.iadd, 1) := by decide +kernel
theorem dX10_feed_84 : decode cX10_feed 84 = .ok (.iload 7, 2) := by decide +kernel
theorem dX10_feed_86 : decode cX10_feed 86 = .ok (.bipush 24, 2) := by decide +kernel
theorem dX10_feed_88 : decode cX10_feed 88 = .ok (.bipush 8, 2) := by decide +kernel
theorem dX10_feed_90 : decode cX10_feed 90 = .ok (.iload 6, 2) := by decide +kernel
theorem dX10_feed_92 : decode cX10_feed 92 = .ok (.iconst 3, 1) := by decide +kernel
theorem dX10_feed_93 : decode cX10_feed 93 = .ok (.iand, 1) := by decide +kernel
theorem dX10_feed_94 : decode cX10_feed 94 = .ok (.imul, 1) := by decide +kernel
theorem dX10_feed_95 : decode cX10_feed 95 = .ok (.isub, 1) := by decide +kernel
theorem dX10_feed_96 : decode cX10_feed 96 = .ok (.ishr, 1) := by decide +kernel
theorem dX10_feed_97 : decode cX10_feed 97 = .ok (.sipush 255, 3) := by decide +kernel
theorem dX10_feed_100 : decode cX10_feed 100 = .ok (.iand, 1) := by decide +kernel
theorem dX10_feed_101 : decode cX10_feed 101 = .ok (.iastore, 1) := by decide +kernel
theorem dX10_feed_102 : decode cX10_feed 102 = .ok (.iinc 6 1, 3) := by decide +kernel
theorem dX10_feed_105 : decode cX10_feed 105 = .ok (.goto (-87), 3) := by decide +kernel
theorem dX10_feed_108 : decode cX10_feed 108 = .ok (.aload_n 0, 1) := by decide +kernel
theorem dX10_feed_109 : decode cX10_feed 109 = .ok (.dup, 1) := by decide +kernel
theorem dX10_feed_110 : decode cX10_feed 110 = .ok (.getfield 180, 3) := by decide +kernel
theorem dX10_feed_113 : decode cX10_feed 113 = .ok (.bipush 20, 2) := by decide +kernel
theorem dX10_feed_115 : decode cX10_feed 115 = .ok (.iadd, 1) := by decide +kernel
theorem dX10_feed_116 : decode cX10_feed 116 = .ok (.putfield 180, 3) := by decide +kernel
theorem dX10_feed_119 : decode cX10_feed 119 = .ok (.aload_n 0, 1) := by decide +kernel
theorem dX10_feed_120 : decode cX10_feed 120 = .ok (.getfield 180, 3) := by decide +kernel
theorem dX10_feed_123 : decode cX10_feed 123 = .ok (.ireturn, 1) := by decide +kernel
theorem dX10_image_0 : decode cX10_image 0 = .ok (.iload_n 1, 1) := by decide +kernel
theorem dX10_image_1 : decode cX10_image 1 = .ok (.iconst 0, 1) := by decide +kernel
theorem dX10_image_2 : decode cX10_image 2 = .ok (.iconst 2, 1) := by decide +kernel
theorem dX10_image_3 : decode cX10_image 3 = .ok (.invokestatic 33, 3) := by decide +kernel
theorem dX10_image_6 : decode cX10_image 6 = .ok (.ifCond .ne 5, 3) := by decide +kernel
theorem dX10_image_9 : decode cX10_image 9 = .ok (.iconst 0, 1) := by decide +kernel
theorem dX10_image_10 : decode cX10_image 10 = .ok (.ireturn, 1) := by decide +kernel
theorem dX10_image_11 : decode cX10_image 11 = .ok (.sipush 2280, 3) := by decide +kernel
theorem dX10_image_14 : decode cX10_image 14 = .ok (.sipush 1742, 3) := by decide +kernel
theorem dX10_image_17 : decode cX10_image 17 = .ok (.iload_n 1, 1) := by decide +kernel
theorem dX10_image_18 : decode cX10_image 18 = .ok (.imul, 1) := by decide +kernel
theorem dX10_image_19 : decode cX10_image 19 = .ok (.iadd, 1) := by decide +kernel
theorem dX10_image_20 : decode cX10_image 20 = .ok (.istore_n 2, 1) := by decide +kernel
theorem dX10_image_21 : decode cX10_image 21 = .ok (.aload_n 0, 1) := by decide +kernel
theorem dX10_image_22 : decode cX10_image 22 = .ok (.iconst 0, 1) := by decide +kernel
theorem dX10_image_23 : decode cX10_image 23 = .ok (.iload_n 2, 1) := by decide +kernel
theorem dX10_image_24 : decode cX10_image 24 = .ok (.invokevirtual 165, 3) := by decide +kernel
theorem dX10_image_27 : decode cX10_image 27 = .ok (.iconst 0, 1) := by decide +kernel
theorem dX10_image_28 : decode cX10_image 28 = .ok (.istore_n 3, 1) := by decide +kernel
theorem dX10_image_29 : decode cX10_image 29 = .ok (.iload_n 3, 1) := by decide +kernel
theorem dX10_image_30 : decode cX10_image 30 = .ok (.sipush 600, 3) := by decide +kernel
theorem dX10_image_33 : decode cX10_image 33 = .ok (.if_icmp .ge 27, 3) := by decide +kernel
theorem dX10_image_36 : decode cX10_image 36 = .ok (.aload_n 0, 1) := by decide +kernel
theorem dX10_image_37 : decode cX10_image 37 = .ok (.getfield 7, 3) := by decide +kernel
theorem dX10_image_40 : decode cX10_image 40 = .ok (.iload_n 2, 1) := by decide +kernel
theorem dX10_image_41 : decode cX10_image 41 = .ok (.sipush 1140, 3) := by decide +kernel
theorem dX10_image_44 : decode cX10_image 44 = .ok (.iadd, 1) := by decide +kernel
theorem dX10_image_45 : decode cX10_image 45 = .ok (.iload_n 3, 1) := by decide +kernel
theorem dX10_image_46 : decode cX10_image 46 = .ok (.iadd, 1) := by decide +kernel
theorem dX10_image_47 : decode cX10_image 47 = .ok (.aload_n 0, 1) := by decide +kernel
theorem dX10_image_48 : decode cX10_image 48 = .ok (.getfield 13, 3) := by decide +kernel
theorem dX10_image_51 : decode cX10_image 51 = .ok (.iload_n 3, 1) := by decide +kernel
theorem dX10_image_52 : decode cX10_image 52 = .ok (.iaload, 1) := by decide +kernel
theorem dX10_image_53 : decode cX10_image 53 = .ok (.iastore, 1) := by decide +kernel
theorem dX10_image_54 : decode cX10_image 54 = .ok (.iinc 3 1, 3) := by decide +kernel
theorem dX10_image_57 : decode cX10_image 57 = .ok (.goto (-28), 3) := by decide +kernel
theorem dX10_image_60 : decode cX10_image 60 = .ok (.aload_n 0, 1) := by decide +kernel
theorem dX10_image_61 : decode cX10_image 61 = .ok (.getfield 7, 3) := by decide +kernel
theorem dX10_image_64 : decode cX10_image 64 = .ok (.iload_n 2, 1) := by decide +kernel
theorem dX10_image_65 : decode cX10_image 65 = .ok (.sipush 1140, 3) := by decide +kernel
theorem dX10_image_68 : decode cX10_image 68 = .ok (.iadd, 1) := by decide +kernel
theorem dX10_image_69 : decode cX10_image 69 = .ok (.sipush 600, 3) := by decide +kernel
theorem dX10_image_72 : decode cX10_image 72 = .ok (.iadd, 1) := by decide +kernel
theorem dX10_image_73 : decode cX10_image 73 = .ok (.aload_n 0, 1) := by decide +kernel
theorem dX10_image_74 : decode cX10_image 74 = .ok (.getfield 180, 3) := by decide +kernel
theorem dX10_image_77 : decode cX10_image 77 = .ok (.iastore, 1) := by decide +kernel
theorem dX10_image_78 : decode cX10_image 78 = .ok (.aload_n 0, 1) := by decide +kernel
theorem dX10_image_79 : decode cX10_image 79 = .ok (.getfield 7, 3) := by decide +kernel
theorem dX10_image_82 : decode cX10_image 82 = .ok (.iload_n 2, 1) := by decide +kernel
theorem dX10_image_83 : decode cX10_image 83 = .ok (.sipush 1140, 3) := by decide +kernel
theorem dX10_image_86 : decode cX10_image 86 = .ok (.iadd, 1) := by decide +kernel
theorem dX10_image_87 : decode cX10_image 87 = .ok (.sipush 600, 3) := by decide +kernel
theorem dX10_image_90 : decode cX10_image 90 = .ok (.iadd, 1) := by decide +kernel
theorem dX10_image_91 : decode cX10_image 91 = .ok (.iconst 1, 1) := by decide +kernel
theorem dX10_image_92 : decode cX10_image 92 = .ok (.iadd, 1) := by decide +kernel
theorem dX10_image_93 : decode cX10_image 93 = .ok (.aload_n 0, 1) := by decide +kernel
theorem dX10_image_94 : decode cX10_image 94 = .ok (.getfield 20, 3) := by decide +kernel
theorem dX10_image_97 : decode cX10_image 97 = .ok (.iastore, 1) := by decide +kernel
theorem dX10_image_98 : decode cX10_image 98 = .ok (.aload_n 0, 1) := by decide +kernel
theorem dX10_image_99 : decode cX10_image 99 = .ok (.getfield 16, 3) := by decide +kernel
theorem dX10_image_102 : decode cX10_image 102 = .ok (.iload_n 1, 1) := by decide +kernel
theorem dX10_image_103 : decode cX10_image 103 = .ok (.iconst 1, 1) := by decide +kernel
theorem dX10_image_104 : decode cX10_image 104 = .ok (.bastore, 1) := by decide +kernel
theorem dX10_image_105 : decode cX10_image 105 = .ok (.iconst 1, 1) := by decide +kernel
theorem dX10_image_106 : decode cX10_image 106 = .ok (.ireturn, 1) := by decide +kernel
theorem dX10_takes_0 : decode cX10_takes 0 = .ok (.aload_n 0, 1) := by decide +kernel
theorem dX10_takes_1 : decode cX10_takes 1 = .ok (.aload_n 0, 1) := by decide +kernel
theorem dX10_takes_2 : decode cX10_takes 2 = .ok (.getfield 204, 3) := by decide +kernel
theorem dX10_takes_5 : decode cX10_takes 5 = .ok (.invokevirtual 207, 3) := by decide +kernel
theorem dX10_takes_8 : decode cX10_takes 8 = .ok (.bipush 32, 2) := by decide +kernel
theorem dX10_takes_10 : decode cX10_takes 10 = .ok (.if_icmp .eq 16, 3) := by decide +kernel
theorem dX10_takes_13 : decode cX10_takes 13 = .ok (.aload_n 0, 1) := by decide +kernel
theorem dX10_takes_14 : decode cX10_takes 14 = .ok (.aload_n 0, 1) := by decide +kernel
theorem dX10_takes_15 : decode cX10_takes 15 = .ok (.getfield 204, 3) := by decide +kernel
theorem dX10_takes_18 : decode cX10_takes 18 = .ok (.invokevirtual 207, 3) := by decide +kernel
theorem dX10_takes_21 : decode cX10_takes 21 = .ok (.bipush 10, 2) := by decide +kernel
theorem dX10_takes_23 : decode cX10_takes 23 = .ok (.if_icmp .ne 16, 3) := by decide +kernel
theorem dX10_takes_39 : decode cX10_takes 39 = .ok (.aload_n 0, 1) := by decide +kernel
theorem dX10_takes_40 : decode cX10_takes 40 = .ok (.aload_n 0, 1) := by decide +kernel
theorem dX10_takes_41 : decode cX10_takes 41 = .ok (.getfield 204, 3) := by decide +kernel
theorem dX10_takes_44 : decode cX10_takes 44 = .ok (.putfield 210, 3) := by decide +kernel
theorem dX10_takes_47 : decode cX10_takes 47 = .ok (.aload_n 0, 1) := by decide +kernel
theorem dX10_takes_48 : decode cX10_takes 48 = .ok (.aload_n 0, 1) := by decide +kernel
theorem dX10_takes_49 : decode cX10_takes 49 = .ok (.getfield 204, 3) := by decide +kernel
theorem dX10_takes_52 : decode cX10_takes 52 = .ok (.invokevirtual 207, 3) := by decide +kernel
theorem dX10_takes_55 : decode cX10_takes 55 = .ok (.istore_n 1, 1) := by decide +kernel
theorem dX10_takes_56 : decode cX10_takes 56 = .ok (.aload_n 0, 1) := by decide +kernel
theorem dX10_takes_57 : decode cX10_takes 57 = .ok (.lconst 0, 1) := by decide +kernel
theorem dX10_takes_58 : decode cX10_takes 58 = .ok (.putfield 213, 3) := by decide +kernel
theorem dX10_takes_61 : decode cX10_takes 61 = .ok (.iload_n 1, 1) := by decide +kernel
theorem dX10_takes_62 : decode cX10_takes 62 = .ok (.ifCond .ge 11, 3) := by decide +kernel
theorem dX10_takes_65 : decode cX10_takes 65 = .ok (.aload_n 0, 1) := by decide +kernel
theorem dX10_takes_66 : decode cX10_takes 66 = .ok (.iconst 0, 1) := by decide +kernel
theorem dX10_takes_67 : decode cX10_takes 67 = .ok (.putfield 217, 3) := by decide +kernel
theorem dX10_takes_70 : decode cX10_takes 70 = .ok (.goto 221, 3) := by decide +kernel
theorem dX10_takes_291 : decode cX10_takes 291 = .ok (.return_, 1) := by decide +kernel
theorem dX10_text_0 : decode cX10_text 0 = .ok (.aload_n 0, 1) := by decide +kernel
theorem dX10_text_1 : decode cX10_text 1 = .ok (.aload_n 0, 1) := by decide +kernel
theorem dX10_text_2 : decode cX10_text 2 = .ok (.getfield 180, 3) := by decide +kernel
theorem dX10_text_5 : decode cX10_text 5 = .ok (.putfield 201, 3) := by decide +kernel
theorem dX10_text_8 : decode cX10_text 8 = .ok (.aload_n 0, 1) := by decide +kernel
theorem dX10_text_9 : decode cX10_text 9 = .ok (.iconst 0, 1) := by decide +kernel
theorem dX10_text_10 : decode cX10_text 10 = .ok (.putfield 180, 3) := by decide +kernel
theorem dX10_text_13 : decode cX10_text 13 = .ok (.aload_n 0, 1) := by decide +kernel
theorem dX10_text_14 : decode cX10_text 14 = .ok (.iconst (-1), 1) := by decide +kernel
theorem dX10_text_15 : decode cX10_text 15 = .ok (.putfield 20, 3) := by decide +kernel
theorem dX10_text_18 : decode cX10_text 18 = .ok (.aload_n 0, 1) := by decide +kernel
theorem dX10_text_19 : decode cX10_text 19 = .ok (.iconst 0, 1) := by decide +kernel
theorem dX10_text_20 : decode cX10_text 20 = .ok (.putfield 234, 3) := by decide +kernel
theorem dX10_text_23 : decode cX10_text 23 = .ok (.aload_n 0, 1) := by decide +kernel
theorem dX10_text_24 : decode cX10_text 24 = .ok (.iconst 0, 1) := by decide +kernel
theorem dX10_text_25 : decode cX10_text 25 = .ok (.putfield 204, 3) := by decide +kernel
theorem dX10_text_28 : decode cX10_text 28 = .ok (.aload_n 0, 1) := by decide +kernel
theorem dX10_text_29 : decode cX10_text 29 = .ok (.iconst 0, 1) := by decide +kernel
theorem dX10_text_30 : decode cX10_text 30 = .ok (.putfield 245, 3) := by decide +kernel
theorem dX10_text_33 : decode cX10_text 33 = .ok (.aload_n 0, 1) := by decide +kernel
theorem dX10_text_34 : decode cX10_text 34 = .ok (.invokevirtual 238, 3) := by decide +kernel
theorem dX10_text_37 : decode cX10_text 37 = .ok (.aload_n 0, 1) := by decide +kernel
theorem dX10_text_38 : decode cX10_text 38 = .ok (.getfield 234, 3) := by decide +kernel
theorem dX10_text_41 : decode cX10_text 41 = .ok (.ifCond .ne 17, 3) := by decide +kernel
theorem dX10_text_44 : decode cX10_text 44 = .ok (.aload_n 0, 1) := by decide +kernel
theorem dX10_text_45 : decode cX10_text 45 = .ok (.getfield 217, 3) := by decide +kernel
theorem dX10_text_48 : decode cX10_text 48 = .ok (.ifCond .eq 10, 3) := by decide +kernel
theorem dX10_text_58 : decode cX10_text 58 = .ok (.aload_n 0, 1) := by decide +kernel
theorem dX10_text_59 : decode cX10_text 59 = .ok (.getfield 234, 3) := by decide +kernel
theorem dX10_text_62 : decode cX10_text 62 = .ok (.ifCond .eq 5, 3) := by decide +kernel
theorem dX10_text_67 : decode cX10_text 67 = .ok (.iload_n 1, 1) := by decide +kernel
theorem dX10_text_68 : decode cX10_text 68 = .ok (.ifCond .eq 7, 3) := by decide +kernel
theorem dX10_text_71 : decode cX10_text 71 = .ok (.aload_n 0, 1) := by decide +kernel
theorem dX10_text_72 : decode cX10_text 72 = .ok (.invokevirtual 30, 3) := by decide +kernel
theorem dX10_text_75 : decode cX10_text 75 = .ok (.iconst 0, 1) := by decide +kernel
theorem dX10_text_76 : decode cX10_text 76 = .ok (.istore_n 2, 1) := by decide +kernel
theorem dX10_text_77 : decode cX10_text 77 = .ok (.iload_n 2, 1) := by decide +kernel
theorem dX10_text_78 : decode cX10_text 78 = .ok (.aload_n 0, 1) := by decide +kernel
theorem dX10_text_79 : decode cX10_text 79 = .ok (.getfield 245, 3) := by decide +kernel
theorem dX10_text_82 : decode cX10_text 82 = .ok (.if_icmp .ge 24, 3) := by decide +kernel
theorem dX10_text_106 : decode cX10_text 106 = .ok (.iload_n 2, 1) := by decide +kernel
theorem dX10_text_107 : decode cX10_text 107 = .ok (.ireturn, 1) := by decide +kernel
