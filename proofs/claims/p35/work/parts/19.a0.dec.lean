theorem dX3_fewest_0 : decode cX3_fewest 0 = .ok (.aload_n 0, 1) := by decide +kernel
theorem dX3_fewest_1 : decode cX3_fewest 1 = .ok (.getfield 11, 3) := by decide +kernel
theorem dX3_fewest_4 : decode cX3_fewest 4 = .ok (.aload_n 1, 1) := by decide +kernel
theorem dX3_fewest_5 : decode cX3_fewest 5 = .ok (.getfield 18, 3) := by decide +kernel
theorem dX3_fewest_8 : decode cX3_fewest 8 = .ok (.aaload, 1) := by decide +kernel
theorem dX3_fewest_9 : decode cX3_fewest 9 = .ok (.aload_n 1, 1) := by decide +kernel
theorem dX3_fewest_10 : decode cX3_fewest 10 = .ok (.getfield 24, 3) := by decide +kernel
theorem dX3_fewest_13 : decode cX3_fewest 13 = .ok (.invokevirtual 28, 3) := by decide +kernel
theorem dX3_fewest_16 : decode cX3_fewest 16 = .ok (.aload_n 1, 1) := by decide +kernel
theorem dX3_fewest_17 : decode cX3_fewest 17 = .ok (.aload_n 0, 1) := by decide +kernel
theorem dX3_fewest_18 : decode cX3_fewest 18 = .ok (.getfield 11, 3) := by decide +kernel
theorem dX3_fewest_21 : decode cX3_fewest 21 = .ok (.aload_n 1, 1) := by decide +kernel
theorem dX3_fewest_22 : decode cX3_fewest 22 = .ok (.getfield 18, 3) := by decide +kernel
theorem dX3_fewest_25 : decode cX3_fewest 25 = .ok (.invokestatic 32, 3) := by decide +kernel
theorem dX3_fewest_28 : decode cX3_fewest 28 = .ok (.istore_n 2, 1) := by decide +kernel
theorem dX3_fewest_29 : decode cX3_fewest 29 = .ok (.iload_n 2, 1) := by decide +kernel
theorem dX3_fewest_30 : decode cX3_fewest 30 = .ok (.bipush 99, 2) := by decide +kernel
theorem dX3_fewest_32 : decode cX3_fewest 32 = .ok (.if_icmp .ge 7, 3) := by decide +kernel
theorem dX3_fewest_35 : decode cX3_fewest 35 = .ok (.iload_n 2, 1) := by decide +kernel
theorem dX3_fewest_36 : decode cX3_fewest 36 = .ok (.goto 4, 3) := by decide +kernel
theorem dX3_fewest_39 : decode cX3_fewest 39 = .ok (.iconst (-1), 1) := by decide +kernel
theorem dX3_fewest_40 : decode cX3_fewest 40 = .ok (.ireturn, 1) := by decide +kernel
theorem dX9_bill_0 : decode cX9_bill 0 = .ok (.aload_n 0, 1) := by decide +kernel
theorem dX9_bill_1 : decode cX9_bill 1 = .ok (.getfield 12, 3) := by decide +kernel
theorem dX9_bill_4 : decode cX9_bill 4 = .ok (.iload_n 1, 1) := by decide +kernel
theorem dX9_bill_5 : decode cX9_bill 5 = .ok (.invokevirtual 163, 3) := by decide +kernel
theorem dX9_bill_8 : decode cX9_bill 8 = .ok (.ifCond .ne 6, 3) := by decide +kernel
theorem dX9_bill_11 : decode cX9_bill 11 = .ok (.bipush (-2), 2) := by decide +kernel
theorem dX9_bill_13 : decode cX9_bill 13 = .ok (.ireturn, 1) := by decide +kernel
theorem dX9_bill_14 : decode cX9_bill 14 = .ok (.aload_n 0, 1) := by decide +kernel
theorem dX9_bill_15 : decode cX9_bill 15 = .ok (.getfield 12, 3) := by decide +kernel
theorem dX9_bill_18 : decode cX9_bill 18 = .ok (.getfield 166, 3) := by decide +kernel
theorem dX9_bill_21 : decode cX9_bill 21 = .ok (.iload_n 1, 1) := by decide +kernel
theorem dX9_bill_22 : decode cX9_bill 22 = .ok (.aaload, 1) := by decide +kernel
theorem dX9_bill_23 : decode cX9_bill 23 = .ok (.astore_n 3, 1) := by decide +kernel
theorem dX9_bill_24 : decode cX9_bill 24 = .ok (.iload_n 2, 1) := by decide +kernel
theorem dX9_bill_25 : decode cX9_bill 25 = .ok (.tableswitch 232 0 19 #[95, 100, 105, 110, 115, 120, 128, 136, 141, 146, 151, 159, 167, 175, 183, 191, 202, 210, 218, 223], 95) := by decide +kernel
theorem dX9_bill_120 : decode cX9_bill 120 = .ok (.aload_n 3, 1) := by decide +kernel
theorem dX9_bill_121 : decode cX9_bill 121 = .ok (.getfield 170, 3) := by decide +kernel
theorem dX9_bill_124 : decode cX9_bill 124 = .ok (.ireturn, 1) := by decide +kernel
theorem dX9_bill_125 : decode cX9_bill 125 = .ok (.aload_n 3, 1) := by decide +kernel
theorem dX9_bill_126 : decode cX9_bill 126 = .ok (.getfield 175, 3) := by decide +kernel
theorem dX9_bill_129 : decode cX9_bill 129 = .ok (.ireturn, 1) := by decide +kernel
theorem dX9_bill_130 : decode cX9_bill 130 = .ok (.aload_n 3, 1) := by decide +kernel
theorem dX9_bill_131 : decode cX9_bill 131 = .ok (.getfield 178, 3) := by decide +kernel
theorem dX9_bill_134 : decode cX9_bill 134 = .ok (.ireturn, 1) := by decide +kernel
theorem dX9_bill_135 : decode cX9_bill 135 = .ok (.aload_n 3, 1) := by decide +kernel
theorem dX9_bill_136 : decode cX9_bill 136 = .ok (.getfield 181, 3) := by decide +kernel
theorem dX9_bill_139 : decode cX9_bill 139 = .ok (.ireturn, 1) := by decide +kernel
theorem dX9_bill_140 : decode cX9_bill 140 = .ok (.aload_n 3, 1) := by decide +kernel
theorem dX9_bill_141 : decode cX9_bill 141 = .ok (.getfield 184, 3) := by decide +kernel
theorem dX9_bill_144 : decode cX9_bill 144 = .ok (.ireturn, 1) := by decide +kernel
theorem dX9_bill_145 : decode cX9_bill 145 = .ok (.aload_n 3, 1) := by decide +kernel
theorem dX9_bill_146 : decode cX9_bill 146 = .ok (.getfield 187, 3) := by decide +kernel
theorem dX9_bill_149 : decode cX9_bill 149 = .ok (.invokestatic 190, 3) := by decide +kernel
theorem dX9_bill_152 : decode cX9_bill 152 = .ok (.ireturn, 1) := by decide +kernel
theorem dX9_bill_153 : decode cX9_bill 153 = .ok (.aload_n 3, 1) := by decide +kernel
theorem dX9_bill_154 : decode cX9_bill 154 = .ok (.getfield 194, 3) := by decide +kernel
theorem dX9_bill_157 : decode cX9_bill 157 = .ok (.invokestatic 190, 3) := by decide +kernel
theorem dX9_bill_160 : decode cX9_bill 160 = .ok (.ireturn, 1) := by decide +kernel
theorem dX9_bill_161 : decode cX9_bill 161 = .ok (.aload_n 3, 1) := by decide +kernel
theorem dX9_bill_162 : decode cX9_bill 162 = .ok (.getfield 197, 3) := by decide +kernel
theorem dX9_bill_165 : decode cX9_bill 165 = .ok (.ireturn, 1) := by decide +kernel
theorem dX9_bill_166 : decode cX9_bill 166 = .ok (.aload_n 3, 1) := by decide +kernel
theorem dX9_bill_167 : decode cX9_bill 167 = .ok (.getfield 200, 3) := by decide +kernel
theorem dX9_bill_170 : decode cX9_bill 170 = .ok (.ireturn, 1) := by decide +kernel
theorem dX9_bill_171 : decode cX9_bill 171 = .ok (.aload_n 3, 1) := by decide +kernel
theorem dX9_bill_172 : decode cX9_bill 172 = .ok (.getfield 203, 3) := by decide +kernel
theorem dX9_bill_175 : decode cX9_bill 175 = .ok (.ireturn, 1) := by decide +kernel
theorem dX9_bill_176 : decode cX9_bill 176 = .ok (.aload_n 3, 1) := by decide +kernel
theorem dX9_bill_177 : decode cX9_bill 177 = .ok (.getfield 206, 3) := by decide +kernel
theorem dX9_bill_180 : decode cX9_bill 180 = .ok (.invokestatic 190, 3) := by decide +kernel
theorem dX9_bill_183 : decode cX9_bill 183 = .ok (.ireturn, 1) := by decide +kernel
theorem dX9_bill_184 : decode cX9_bill 184 = .ok (.aload_n 3, 1) := by decide +kernel
theorem dX9_bill_185 : decode cX9_bill 185 = .ok (.getfield 209, 3) := by decide +kernel
theorem dX9_bill_188 : decode cX9_bill 188 = .ok (.getfield 213, 3) := by decide +kernel
theorem dX9_bill_191 : decode cX9_bill 191 = .ok (.ireturn, 1) := by decide +kernel
theorem dX9_bill_192 : decode cX9_bill 192 = .ok (.aload_n 3, 1) := by decide +kernel
theorem dX9_bill_193 : decode cX9_bill 193 = .ok (.getfield 209, 3) := by decide +kernel
theorem dX9_bill_196 : decode cX9_bill 196 = .ok (.getfield 218, 3) := by decide +kernel
theorem dX9_bill_199 : decode cX9_bill 199 = .ok (.ireturn, 1) := by decide +kernel
theorem dX9_bill_200 : decode cX9_bill 200 = .ok (.aload_n 3, 1) := by decide +kernel
theorem dX9_bill_201 : decode cX9_bill 201 = .ok (.getfield 209, 3) := by decide +kernel
theorem dX9_bill_204 : decode cX9_bill 204 = .ok (.getfield 221, 3) := by decide +kernel
theorem dX9_bill_207 : decode cX9_bill 207 = .ok (.ireturn, 1) := by decide +kernel
theorem dX9_bill_208 : decode cX9_bill 208 = .ok (.aload_n 3, 1) := by decide +kernel
theorem dX9_bill_209 : decode cX9_bill 209 = .ok (.getfield 209, 3) := by decide +kernel
theorem dX9_bill_212 : decode cX9_bill 212 = .ok (.getfield 224, 3) := by decide +kernel
theorem dX9_bill_215 : decode cX9_bill 215 = .ok (.ireturn, 1) := by decide +kernel
theorem dX9_bill_216 : decode cX9_bill 216 = .ok (.aload_n 3, 1) := by decide +kernel
theorem dX9_bill_217 : decode cX9_bill 217 = .ok (.getfield 209, 3) := by decide +kernel
theorem dX9_bill_220 : decode cX9_bill 220 = .ok (.getfield 227, 3) := by decide +kernel
theorem dX9_bill_223 : decode cX9_bill 223 = .ok (.invokestatic 190, 3) := by decide +kernel
theorem dX9_bill_226 : decode cX9_bill 226 = .ok (.ireturn, 1) := by decide +kernel
theorem dX9_bill_227 : decode cX9_bill 227 = .ok (.aload_n 3, 1) := by decide +kernel
theorem dX9_bill_228 : decode cX9_bill 228 = .ok (.getfield 209, 3) := by decide +kernel
theorem dX9_bill_231 : decode cX9_bill 231 = .ok (.getfield 230, 3) := by decide +kernel
theorem dX9_bill_234 : decode cX9_bill 234 = .ok (.ireturn, 1) := by decide +kernel
theorem dX9_bill_235 : decode cX9_bill 235 = .ok (.aload_n 3, 1) := by decide +kernel
theorem dX9_bill_236 : decode cX9_bill 236 = .ok (.invokevirtual 233, 3) := by decide +kernel
theorem dX9_bill_239 : decode cX9_bill 239 = .ok (.invokestatic 190, 3) := by decide +kernel
theorem dX9_bill_242 : decode cX9_bill 242 = .ok (.ireturn, 1) := by decide +kernel
theorem dX9_bill_243 : decode cX9_bill 243 = .ok (.aload_n 3, 1) := by decide +kernel
theorem dX9_bill_244 : decode cX9_bill 244 = .ok (.invokevirtual 236, 3) := by decide +kernel
theorem dX9_bill_247 : decode cX9_bill 247 = .ok (.ireturn, 1) := by decide +kernel
theorem dX9_bill_248 : decode cX9_bill 248 = .ok (.aload_n 0, 1) := by decide +kernel
theorem dX9_bill_249 : decode cX9_bill 249 = .ok (.getfield 37, 3) := by decide +kernel
theorem dX9_bill_252 : decode cX9_bill 252 = .ok (.aload_n 3, 1) := by decide +kernel
theorem dX9_bill_253 : decode cX9_bill 253 = .ok (.invokevirtual 239, 3) := by decide +kernel
theorem dX9_bill_256 : decode cX9_bill 256 = .ok (.ireturn, 1) := by decide +kernel
theorem dX9_bill_257 : decode cX9_bill 257 = .ok (.bipush (-2), 2) := by decide +kernel
theorem dX9_bill_259 : decode cX9_bill 259 = .ok (.ireturn, 1) := by decide +kernel
theorem dX9_ends_0 : decode cX9_ends 0 = .ok (.aload_n 0, 1) := by decide +kernel
theorem dX9_ends_1 : decode cX9_ends 1 = .ok (.getfield 12, 3) := by decide +kernel
theorem dX9_ends_4 : decode cX9_ends 4 = .ok (.iload_n 1, 1) := by decide +kernel
theorem dX9_ends_5 : decode cX9_ends 5 = .ok (.invokevirtual 163, 3) := by decide +kernel
theorem dX9_ends_8 : decode cX9_ends 8 = .ok (.ifCond .ne 5, 3) := by decide +kernel
theorem dX9_ends_11 : decode cX9_ends 11 = .ok (.iconst (-1), 1) := by decide +kernel
theorem dX9_ends_12 : decode cX9_ends 12 = .ok (.ireturn, 1) := by decide +kernel
theorem dX9_ends_13 : decode cX9_ends 13 = .ok (.aload_n 0, 1) := by decide +kernel
theorem dX9_ends_14 : decode cX9_ends 14 = .ok (.getfield 30, 3) := by decide +kernel
theorem dX9_ends_17 : decode cX9_ends 17 = .ok (.aload_n 0, 1) := by decide +kernel
theorem dX9_ends_18 : decode cX9_ends 18 = .ok (.getfield 12, 3) := by decide +kernel
theorem dX9_ends_21 : decode cX9_ends 21 = .ok (.getfield 166, 3) := by decide +kernel
theorem dX9_ends_24 : decode cX9_ends 24 = .ok (.iload_n 1, 1) := by decide +kernel
theorem dX9_ends_25 : decode cX9_ends 25 = .ok (.aaload, 1) := by decide +kernel
theorem dX9_ends_26 : decode cX9_ends 26 = .ok (.aload_n 0, 1) := by decide +kernel
theorem dX9_ends_27 : decode cX9_ends 27 = .ok (.getfield 12, 3) := by decide +kernel
theorem dX9_ends_30 : decode cX9_ends 30 = .ok (.getfield 159, 3) := by decide +kernel
theorem dX9_ends_33 : decode cX9_ends 33 = .ok (.aload_n 0, 1) := by decide +kernel
theorem dX9_ends_34 : decode cX9_ends 34 = .ok (.getfield 12, 3) := by decide +kernel
theorem dX9_ends_37 : decode cX9_ends 37 = .ok (.getfield 134, 3) := by decide +kernel
theorem dX9_ends_40 : decode cX9_ends 40 = .ok (.invokevirtual 317, 3) := by decide +kernel
theorem dX9_ends_43 : decode cX9_ends 43 = .ok (.aload_n 0, 1) := by decide +kernel
theorem dX9_ends_44 : decode cX9_ends 44 = .ok (.getfield 30, 3) := by decide +kernel
theorem dX9_ends_47 : decode cX9_ends 47 = .ok (.getfield 326, 3) := by decide +kernel
theorem dX9_ends_50 : decode cX9_ends 50 = .ok (.getfield 197, 3) := by decide +kernel
theorem dX9_ends_53 : decode cX9_ends 53 = .ok (.ireturn, 1) := by decide +kernel
theorem dX9_gains_0 : decode cX9_gains 0 = .ok (.aload_n 0, 1) := by decide +kernel
theorem dX9_gains_1 : decode cX9_gains 1 = .ok (.getfield 12, 3) := by decide +kernel
theorem dX9_gains_4 : decode cX9_gains 4 = .ok (.iload_n 1, 1) := by decide +kernel
theorem dX9_gains_5 : decode cX9_gains 5 = .ok (.invokevirtual 163, 3) := by decide +kernel
theorem dX9_gains_8 : decode cX9_gains 8 = .ok (.ifCond .eq 10, 3) := by decide +kernel
theorem dX9_gains_11 : decode cX9_gains 11 = .ok (.iload_n 2, 1) := by decide +kernel
theorem dX9_gains_12 : decode cX9_gains 12 = .ok (.invokestatic 155, 3) := by decide +kernel
theorem dX9_gains_15 : decode cX9_gains 15 = .ok (.ifCond .ne 5, 3) := by decide +kernel
theorem dX9_gains_18 : decode cX9_gains 18 = .ok (.iconst 0, 1) := by decide +kernel
theorem dX9_gains_19 : decode cX9_gains 19 = .ok (.ireturn, 1) := by decide +kernel
theorem dX9_gains_20 : decode cX9_gains 20 = .ok (.aload_n 0, 1) := by decide +kernel
theorem dX9_gains_21 : decode cX9_gains 21 = .ok (.getfield 30, 3) := by decide +kernel
theorem dX9_gains_24 : decode cX9_gains 24 = .ok (.aload_n 0, 1) := by decide +kernel
theorem dX9_gains_25 : decode cX9_gains 25 = .ok (.getfield 12, 3) := by decide +kernel
theorem dX9_gains_28 : decode cX9_gains 28 = .ok (.getfield 166, 3) := by decide +kernel
theorem dX9_gains_31 : decode cX9_gains 31 = .ok (.iload_n 1, 1) := by decide +kernel
theorem dX9_gains_32 : decode cX9_gains 32 = .ok (.aaload, 1) := by decide +kernel
theorem dX9_gains_33 : decode cX9_gains 33 = .ok (.aload_n 0, 1) := by decide +kernel
theorem dX9_gains_34 : decode cX9_gains 34 = .ok (.getfield 12, 3) := by decide +kernel
theorem dX9_gains_37 : decode cX9_gains 37 = .ok (.getfield 159, 3) := by decide +kernel
theorem dX9_gains_40 : decode cX9_gains 40 = .ok (.aload_n 0, 1) := by decide +kernel
theorem dX9_gains_41 : decode cX9_gains 41 = .ok (.getfield 12, 3) := by decide +kernel
theorem dX9_gains_44 : decode cX9_gains 44 = .ok (.getfield 134, 3) := by decide +kernel
theorem dX9_gains_47 : decode cX9_gains 47 = .ok (.invokevirtual 317, 3) := by decide +kernel
theorem dX9_gains_50 : decode cX9_gains 50 = .ok (.aload_n 0, 1) := by decide +kernel
theorem dX9_gains_51 : decode cX9_gains 51 = .ok (.getfield 30, 3) := by decide +kernel
theorem dX9_gains_54 : decode cX9_gains 54 = .ok (.getfield 325, 3) := by decide +kernel
theorem dX9_gains_57 : decode cX9_gains 57 = .ok (.iload_n 2, 1) := by decide +kernel
theorem dX9_gains_58 : decode cX9_gains 58 = .ok (.iaload, 1) := by decide +kernel
theorem dX9_gains_59 : decode cX9_gains 59 = .ok (.aload_n 0, 1) := by decide +kernel
theorem dX9_gains_60 : decode cX9_gains 60 = .ok (.getfield 12, 3) := by decide +kernel
theorem dX9_gains_63 : decode cX9_gains 63 = .ok (.getfield 159, 3) := by decide +kernel
theorem dX9_gains_66 : decode cX9_gains 66 = .ok (.iload_n 2, 1) := by decide +kernel
theorem dX9_gains_67 : decode cX9_gains 67 = .ok (.iaload, 1) := by decide +kernel
theorem dX9_gains_68 : decode cX9_gains 68 = .ok (.isub, 1) := by decide +kernel
theorem dX9_gains_69 : decode cX9_gains 69 = .ok (.ireturn, 1) := by decide +kernel
theorem dX9_liable_0 : decode cX9_liable 0 = .ok (.aload_n 0, 1) := by decide +kernel
theorem dX9_liable_1 : decode cX9_liable 1 = .ok (.getfield 12, 3) := by decide +kernel
theorem dX9_liable_4 : decode cX9_liable 4 = .ok (.iload_n 1, 1) := by decide +kernel
theorem dX9_liable_5 : decode cX9_liable 5 = .ok (.invokevirtual 163, 3) := by decide +kernel
theorem dX9_liable_8 : decode cX9_liable 8 = .ok (.ifCond .ne 6, 3) := by decide +kernel
theorem dX9_liable_11 : decode cX9_liable 11 = .ok (.bipush (-2), 2) := by decide +kernel
theorem dX9_liable_13 : decode cX9_liable 13 = .ok (.ireturn, 1) := by decide +kernel
theorem dX9_liable_14 : decode cX9_liable 14 = .ok (.aload_n 0, 1) := by decide +kernel
theorem dX9_liable_15 : decode cX9_liable 15 = .ok (.getfield 12, 3) := by decide +kernel
theorem dX9_liable_18 : decode cX9_liable 18 = .ok (.getfield 166, 3) := by decide +kernel
theorem dX9_liable_21 : decode cX9_liable 21 = .ok (.iload_n 1, 1) := by decide +kernel
theorem dX9_liable_22 : decode cX9_liable 22 = .ok (.aaload, 1) := by decide +kernel
theorem dX9_liable_23 : decode cX9_liable 23 = .ok (.astore_n 2, 1) := by decide +kernel
theorem dX9_liable_24 : decode cX9_liable 24 = .ok (.iconst 0, 1) := by decide +kernel
theorem dX9_liable_25 : decode cX9_liable 25 = .ok (.istore_n 3, 1) := by decide +kernel
theorem dX9_liable_26 : decode cX9_liable 26 = .ok (.iconst 0, 1) := by decide +kernel
theorem dX9_liable_27 : decode cX9_liable 27 = .ok (.istore 4, 2) := by decide +kernel
theorem dX9_liable_29 : decode cX9_liable 29 = .ok (.iload 4, 2) := by decide +kernel
theorem dX9_liable_31 : decode cX9_liable 31 = .ok (.aload_n 2, 1) := by decide +kernel
theorem dX9_liable_32 : decode cX9_liable 32 = .ok (.invokevirtual 310, 3) := by decide +kernel
theorem dX9_liable_35 : decode cX9_liable 35 = .ok (.if_icmp .ge 32, 3) := by decide +kernel
theorem dX9_liable_38 : decode cX9_liable 38 = .ok (.aload_n 2, 1) := by decide +kernel
theorem dX9_liable_39 : decode cX9_liable 39 = .ok (.iload 4, 2) := by decide +kernel
theorem dX9_liable_41 : decode cX9_liable 41 = .ok (.aload_n 0, 1) := by decide +kernel
theorem dX9_liable_42 : decode cX9_liable 42 = .ok (.getfield 12, 3) := by decide +kernel
theorem dX9_liable_45 : decode cX9_liable 45 = .ok (.getfield 134, 3) := by decide +kernel
theorem dX9_liable_48 : decode cX9_liable 48 = .ok (.invokevirtual 297, 3) := by decide +kernel
theorem dX9_liable_51 : decode cX9_liable 51 = .ok (.ifCond .ne 10, 3) := by decide +kernel
theorem dX9_liable_54 : decode cX9_liable 54 = .ok (.iload_n 3, 1) := by decide +kernel
theorem dX9_liable_55 : decode cX9_liable 55 = .ok (.iconst 1, 1) := by decide +kernel
theorem dX9_liable_56 : decode cX9_liable 56 = .ok (.iload 4, 2) := by decide +kernel
theorem dX9_liable_58 : decode cX9_liable 58 = .ok (.ishl, 1) := by decide +kernel
theorem dX9_liable_59 : decode cX9_liable 59 = .ok (.ior, 1) := by decide +kernel
theorem dX9_liable_60 : decode cX9_liable 60 = .ok (.istore_n 3, 1) := by decide +kernel
theorem dX9_liable_61 : decode cX9_liable 61 = .ok (.iinc 4 1, 3) := by decide +kernel
theorem dX9_liable_64 : decode cX9_liable 64 = .ok (.goto (-35), 3) := by decide +kernel
theorem dX9_liable_67 : decode cX9_liable 67 = .ok (.iload_n 3, 1) := by decide +kernel
theorem dX9_liable_68 : decode cX9_liable 68 = .ok (.ireturn, 1) := by decide +kernel
theorem dX9_owes_0 : decode cX9_owes 0 = .ok (.iload_n 1, 1) := by decide +kernel
theorem dX9_owes_1 : decode cX9_owes 1 = .ok (.invokestatic 155, 3) := by decide +kernel
theorem dX9_owes_4 : decode cX9_owes 4 = .ok (.ifCond .ne 5, 3) := by decide +kernel
theorem dX9_owes_7 : decode cX9_owes 7 = .ok (.iconst (-1), 1) := by decide +kernel
theorem dX9_owes_8 : decode cX9_owes 8 = .ok (.ireturn, 1) := by decide +kernel
theorem dX9_owes_9 : decode cX9_owes 9 = .ok (.iconst 0, 1) := by decide +kernel
theorem dX9_owes_10 : decode cX9_owes 10 = .ok (.istore_n 2, 1) := by decide +kernel
theorem dX9_owes_11 : decode cX9_owes 11 = .ok (.iconst 0, 1) := by decide +kernel
theorem dX9_owes_12 : decode cX9_owes 12 = .ok (.istore_n 3, 1) := by decide +kernel
theorem dX9_owes_13 : decode cX9_owes 13 = .ok (.iload_n 3, 1) := by decide +kernel
theorem dX9_owes_14 : decode cX9_owes 14 = .ok (.aload_n 0, 1) := by decide +kernel
theorem dX9_owes_15 : decode cX9_owes 15 = .ok (.getfield 12, 3) := by decide +kernel
theorem dX9_owes_18 : decode cX9_owes 18 = .ok (.getfield 97, 3) := by decide +kernel
theorem dX9_owes_21 : decode cX9_owes 21 = .ok (.if_icmp .ge 47, 3) := by decide +kernel
theorem dX9_owes_24 : decode cX9_owes 24 = .ok (.aload_n 0, 1) := by decide +kernel
theorem dX9_owes_25 : decode cX9_owes 25 = .ok (.getfield 12, 3) := by decide +kernel
theorem dX9_owes_28 : decode cX9_owes 28 = .ok (.getfield 166, 3) := by decide +kernel
theorem dX9_owes_31 : decode cX9_owes 31 = .ok (.iload_n 3, 1) := by decide +kernel
theorem dX9_owes_32 : decode cX9_owes 32 = .ok (.aaload, 1) := by decide +kernel
theorem dX9_owes_33 : decode cX9_owes 33 = .ok (.iload_n 1, 1) := by decide +kernel
theorem dX9_owes_34 : decode cX9_owes 34 = .ok (.aload_n 0, 1) := by decide +kernel
theorem dX9_owes_35 : decode cX9_owes 35 = .ok (.getfield 12, 3) := by decide +kernel
theorem dX9_owes_38 : decode cX9_owes 38 = .ok (.getfield 134, 3) := by decide +kernel
theorem dX9_owes_41 : decode cX9_owes 41 = .ok (.invokevirtual 330, 3) := by decide +kernel
theorem dX9_owes_44 : decode cX9_owes 44 = .ok (.ifCond .eq 18, 3) := by decide +kernel
theorem dX9_owes_47 : decode cX9_owes 47 = .ok (.iload_n 2, 1) := by decide +kernel
theorem dX9_owes_48 : decode cX9_owes 48 = .ok (.aload_n 0, 1) := by decide +kernel
theorem dX9_owes_49 : decode cX9_owes 49 = .ok (.getfield 12, 3) := by decide +kernel
theorem dX9_owes_52 : decode cX9_owes 52 = .ok (.getfield 166, 3) := by decide +kernel
theorem dX9_owes_55 : decode cX9_owes 55 = .ok (.iload_n 3, 1) := by decide +kernel
theorem dX9_owes_56 : decode cX9_owes 56 = .ok (.aaload, 1) := by decide +kernel
theorem dX9_owes_57 : decode cX9_owes 57 = .ok (.getfield 181, 3) := by decide +kernel
theorem dX9_owes_60 : decode cX9_owes 60 = .ok (.iadd, 1) := by decide +kernel
theorem dX9_owes_61 : decode cX9_owes 61 = .ok (.istore_n 2, 1) := by decide +kernel
theorem dX9_owes_62 : decode cX9_owes 62 = .ok (.iinc 3 1, 3) := by decide +kernel
theorem dX9_owes_65 : decode cX9_owes 65 = .ok (.goto (-52), 3) := by decide +kernel
theorem dX9_owes_68 : decode cX9_owes 68 = .ok (.iload_n 2, 1) := by decide +kernel
theorem dX9_owes_69 : decode cX9_owes 69 = .ok (.ireturn, 1) := by decide +kernel
theorem dX9_party_0 : decode cX9_party 0 = .ok (.aload_n 0, 1) := by decide +kernel
theorem dX9_party_1 : decode cX9_party 1 = .ok (.getfield 12, 3) := by decide +kernel
theorem dX9_party_4 : decode cX9_party 4 = .ok (.iload_n 1, 1) := by decide +kernel
theorem dX9_party_5 : decode cX9_party 5 = .ok (.iload_n 2, 1) := by decide +kernel
theorem dX9_party_6 : decode cX9_party 6 = .ok (.invokevirtual 278, 3) := by decide +kernel
theorem dX9_party_9 : decode cX9_party 9 = .ok (.ifCond .ne 6, 3) := by decide +kernel
theorem dX9_party_12 : decode cX9_party 12 = .ok (.bipush (-2), 2) := by decide +kernel
theorem dX9_party_14 : decode cX9_party 14 = .ok (.ireturn, 1) := by decide +kernel
theorem dX9_party_15 : decode cX9_party 15 = .ok (.aload_n 0, 1) := by decide +kernel
theorem dX9_party_16 : decode cX9_party 16 = .ok (.getfield 12, 3) := by decide +kernel
theorem dX9_party_19 : decode cX9_party 19 = .ok (.getfield 166, 3) := by decide +kernel
theorem dX9_party_22 : decode cX9_party 22 = .ok (.iload_n 1, 1) := by decide +kernel
theorem dX9_party_23 : decode cX9_party 23 = .ok (.aaload, 1) := by decide +kernel
theorem dX9_party_24 : decode cX9_party 24 = .ok (.astore 4, 2) := by decide +kernel
theorem dX9_party_26 : decode cX9_party 26 = .ok (.iload_n 3, 1) := by decide +kernel
theorem dX9_party_27 : decode cX9_party 27 = .ok (.tableswitch 103 0 5 #[37, 44, 54, 62, 81, 89], 37) := by decide +kernel
theorem dX9_party_64 : decode cX9_party 64 = .ok (.aload 4, 2) := by decide +kernel
theorem dX9_party_66 : decode cX9_party 66 = .ok (.iload_n 2, 1) := by decide +kernel
theorem dX9_party_67 : decode cX9_party 67 = .ok (.invokevirtual 282, 3) := by decide +kernel
theorem dX9_party_70 : decode cX9_party 70 = .ok (.ireturn, 1) := by decide +kernel
theorem dX9_party_71 : decode cX9_party 71 = .ok (.aload 4, 2) := by decide +kernel
theorem dX9_party_73 : decode cX9_party 73 = .ok (.iload_n 2, 1) := by decide +kernel
theorem dX9_party_74 : decode cX9_party 74 = .ok (.invokevirtual 285, 3) := by decide +kernel
theorem dX9_party_77 : decode cX9_party 77 = .ok (.invokestatic 190, 3) := by decide +kernel
theorem dX9_party_80 : decode cX9_party 80 = .ok (.ireturn, 1) := by decide +kernel
theorem dX9_party_81 : decode cX9_party 81 = .ok (.aload 4, 2) := by decide +kernel
theorem dX9_party_83 : decode cX9_party 83 = .ok (.getfield 288, 3) := by decide +kernel
theorem dX9_party_86 : decode cX9_party 86 = .ok (.iload_n 2, 1) := by decide +kernel
theorem dX9_party_87 : decode cX9_party 87 = .ok (.iaload, 1) := by decide +kernel
theorem dX9_party_88 : decode cX9_party 88 = .ok (.ireturn, 1) := by decide +kernel
theorem dX9_party_89 : decode cX9_party 89 = .ok (.aload 4, 2) := by decide +kernel
theorem dX9_party_91 : decode cX9_party 91 = .ok (.getfield 291, 3) := by decide +kernel
theorem dX9_party_94 : decode cX9_party 94 = .ok (.iload_n 2, 1) := by decide +kernel
theorem dX9_party_95 : decode cX9_party 95 = .ok (.iaload, 1) := by decide +kernel
theorem dX9_party_96 : decode cX9_party 96 = .ok (.ifCond .eq 7, 3) := by decide +kernel
theorem dX9_party_99 : decode cX9_party 99 = .ok (.iconst 1, 1) := by decide +kernel
theorem dX9_party_100 : decode cX9_party 100 = .ok (.goto 4, 3) := by decide +kernel
theorem dX9_party_103 : decode cX9_party 103 = .ok (.iconst 0, 1) := by decide +kernel
theorem dX9_party_104 : decode cX9_party 104 = .ok (.invokestatic 190, 3) := by decide +kernel
theorem dX9_party_107 : decode cX9_party 107 = .ok (.ireturn, 1) := by decide +kernel
theorem dX9_party_108 : decode cX9_party 108 = .ok (.aload 4, 2) := by decide +kernel
theorem dX9_party_110 : decode cX9_party 110 = .ok (.getfield 294, 3) := by decide +kernel
theorem dX9_party_113 : decode cX9_party 113 = .ok (.iload_n 2, 1) := by decide +kernel
theorem dX9_party_114 : decode cX9_party 114 = .ok (.iaload, 1) := by decide +kernel
theorem dX9_party_115 : decode cX9_party 115 = .ok (.ireturn, 1) := by decide +kernel
theorem dX9_party_116 : decode cX9_party 116 = .ok (.aload 4, 2) := by decide +kernel
theorem dX9_party_118 : decode cX9_party 118 = .ok (.iload_n 2, 1) := by decide +kernel
theorem dX9_party_119 : decode cX9_party 119 = .ok (.aload_n 0, 1) := by decide +kernel
theorem dX9_party_120 : decode cX9_party 120 = .ok (.getfield 12, 3) := by decide +kernel
theorem dX9_party_123 : decode cX9_party 123 = .ok (.getfield 134, 3) := by decide +kernel
theorem dX9_party_126 : decode cX9_party 126 = .ok (.invokevirtual 297, 3) := by decide +kernel
theorem dX9_party_129 : decode cX9_party 129 = .ok (.ireturn, 1) := by decide +kernel
theorem dX9_party_130 : decode cX9_party 130 = .ok (.bipush (-2), 2) := by decide +kernel
theorem dX9_party_132 : decode cX9_party 132 = .ok (.ireturn, 1) := by decide +kernel
theorem dX9_reach_0 : decode cX9_reach 0 = .ok (.aload_n 0, 1) := by decide +kernel
theorem dX9_reach_1 : decode cX9_reach 1 = .ok (.getfield 12, 3) := by decide +kernel
theorem dX9_reach_4 : decode cX9_reach 4 = .ok (.iload_n 1, 1) := by decide +kernel
theorem dX9_reach_5 : decode cX9_reach 5 = .ok (.invokevirtual 163, 3) := by decide +kernel
theorem dX9_reach_8 : decode cX9_reach 8 = .ok (.ifCond .ne 6, 3) := by decide +kernel
theorem dX9_reach_11 : decode cX9_reach 11 = .ok (.bipush (-2), 2) := by decide +kernel
theorem dX9_reach_13 : decode cX9_reach 13 = .ok (.ireturn, 1) := by decide +kernel
theorem dX9_reach_14 : decode cX9_reach 14 = .ok (.aload_n 0, 1) := by decide +kernel
theorem dX9_reach_15 : decode cX9_reach 15 = .ok (.getfield 12, 3) := by decide +kernel
theorem dX9_reach_18 : decode cX9_reach 18 = .ok (.getfield 166, 3) := by decide +kernel
theorem dX9_reach_21 : decode cX9_reach 21 = .ok (.iload_n 1, 1) := by decide +kernel
theorem dX9_reach_22 : decode cX9_reach 22 = .ok (.aaload, 1) := by decide +kernel
theorem dX9_reach_23 : decode cX9_reach 23 = .ok (.astore_n 2, 1) := by decide +kernel
theorem dX9_reach_24 : decode cX9_reach 24 = .ok (.iconst 0, 1) := by decide +kernel
theorem dX9_reach_25 : decode cX9_reach 25 = .ok (.istore_n 3, 1) := by decide +kernel
theorem dX9_reach_26 : decode cX9_reach 26 = .ok (.iconst 1, 1) := by decide +kernel
theorem dX9_reach_27 : decode cX9_reach 27 = .ok (.istore 4, 2) := by decide +kernel
theorem dX9_reach_29 : decode cX9_reach 29 = .ok (.iload 4, 2) := by decide +kernel
theorem dX9_reach_31 : decode cX9_reach 31 = .ok (.aload_n 2, 1) := by decide +kernel
theorem dX9_reach_32 : decode cX9_reach 32 = .ok (.invokevirtual 310, 3) := by decide +kernel
theorem dX9_reach_35 : decode cX9_reach 35 = .ok (.if_icmp .ge 39, 3) := by decide +kernel
theorem dX9_reach_38 : decode cX9_reach 38 = .ok (.aload_n 2, 1) := by decide +kernel
theorem dX9_reach_39 : decode cX9_reach 39 = .ok (.iload 4, 2) := by decide +kernel
theorem dX9_reach_41 : decode cX9_reach 41 = .ok (.aload_n 0, 1) := by decide +kernel
theorem dX9_reach_42 : decode cX9_reach 42 = .ok (.getfield 12, 3) := by decide +kernel
theorem dX9_reach_45 : decode cX9_reach 45 = .ok (.getfield 134, 3) := by decide +kernel
theorem dX9_reach_48 : decode cX9_reach 48 = .ok (.aload_n 0, 1) := by decide +kernel
theorem dX9_reach_49 : decode cX9_reach 49 = .ok (.getfield 12, 3) := by decide +kernel
theorem dX9_reach_52 : decode cX9_reach 52 = .ok (.getfield 137, 3) := by decide +kernel
theorem dX9_reach_55 : decode cX9_reach 55 = .ok (.invokevirtual 313, 3) := by decide +kernel
theorem dX9_reach_58 : decode cX9_reach 58 = .ok (.ifCond .eq 10, 3) := by decide +kernel
theorem dX9_reach_61 : decode cX9_reach 61 = .ok (.iload_n 3, 1) := by decide +kernel
theorem dX9_reach_62 : decode cX9_reach 62 = .ok (.iconst 1, 1) := by decide +kernel
theorem dX9_reach_63 : decode cX9_reach 63 = .ok (.iload 4, 2) := by decide +kernel
theorem dX9_reach_65 : decode cX9_reach 65 = .ok (.ishl, 1) := by decide +kernel
theorem dX9_reach_66 : decode cX9_reach 66 = .ok (.ior, 1) := by decide +kernel
theorem dX9_reach_67 : decode cX9_reach 67 = .ok (.istore_n 3, 1) := by decide +kernel
theorem dX9_reach_68 : decode cX9_reach 68 = .ok (.iinc 4 1, 3) := by decide +kernel
theorem dX9_reach_71 : decode cX9_reach 71 = .ok (.goto (-42), 3) := by decide +kernel
theorem dX9_reach_74 : decode cX9_reach 74 = .ok (.iload_n 3, 1) := by decide +kernel
theorem dX9_reach_75 : decode cX9_reach 75 = .ok (.ireturn, 1) := by decide +kernel
theorem dX9_run_0 : decode cX9_run 0 = .ok (.aload_n 0, 1) := by decide +kernel
theorem dX9_run_1 : decode cX9_run 1 = .ok (.getfield 12, 3) := by decide +kernel
theorem dX9_run_4 : decode cX9_run 4 = .ok (.iload_n 1, 1) := by decide +kernel
theorem dX9_run_5 : decode cX9_run 5 = .ok (.invokevirtual 163, 3) := by decide +kernel
theorem dX9_run_8 : decode cX9_run 8 = .ok (.ifCond .ne 6, 3) := by decide +kernel
theorem dX9_run_11 : decode cX9_run 11 = .ok (.bipush (-2), 2) := by decide +kernel
theorem dX9_run_13 : decode cX9_run 13 = .ok (.ireturn, 1) := by decide +kernel
theorem dX9_run_14 : decode cX9_run 14 = .ok (.aload_n 0, 1) := by decide +kernel
theorem dX9_run_15 : decode cX9_run 15 = .ok (.getfield 30, 3) := by decide +kernel
theorem dX9_run_18 : decode cX9_run 18 = .ok (.aload_n 0, 1) := by decide +kernel
theorem dX9_run_19 : decode cX9_run 19 = .ok (.getfield 12, 3) := by decide +kernel
theorem dX9_run_22 : decode cX9_run 22 = .ok (.getfield 166, 3) := by decide +kernel
theorem dX9_run_25 : decode cX9_run 25 = .ok (.iload_n 1, 1) := by decide +kernel
theorem dX9_run_26 : decode cX9_run 26 = .ok (.aaload, 1) := by decide +kernel
theorem dX9_run_27 : decode cX9_run 27 = .ok (.aload_n 0, 1) := by decide +kernel
theorem dX9_run_28 : decode cX9_run 28 = .ok (.getfield 12, 3) := by decide +kernel
theorem dX9_run_31 : decode cX9_run 31 = .ok (.getfield 159, 3) := by decide +kernel
theorem dX9_run_34 : decode cX9_run 34 = .ok (.aload_n 0, 1) := by decide +kernel
theorem dX9_run_35 : decode cX9_run 35 = .ok (.getfield 12, 3) := by decide +kernel
theorem dX9_run_38 : decode cX9_run 38 = .ok (.getfield 134, 3) := by decide +kernel
theorem dX9_run_41 : decode cX9_run 41 = .ok (.invokevirtual 317, 3) := by decide +kernel
theorem dX9_run_44 : decode cX9_run 44 = .ok (.iload_n 2, 1) := by decide +kernel
theorem dX9_run_45 : decode cX9_run 45 = .ok (.iconst (-1), 1) := by decide +kernel
theorem dX9_run_46 : decode cX9_run 46 = .ok (.if_icmp .ne 11, 3) := by decide +kernel
theorem dX9_run_49 : decode cX9_run 49 = .ok (.aload_n 0, 1) := by decide +kernel
theorem dX9_run_50 : decode cX9_run 50 = .ok (.getfield 30, 3) := by decide +kernel
theorem dX9_run_53 : decode cX9_run 53 = .ok (.getfield 321, 3) := by decide +kernel
theorem dX9_run_56 : decode cX9_run 56 = .ok (.ireturn, 1) := by decide +kernel
theorem dX9_run_57 : decode cX9_run 57 = .ok (.iload_n 2, 1) := by decide +kernel
theorem dX9_run_58 : decode cX9_run 58 = .ok (.ifCond .lt 26, 3) := by decide +kernel
theorem dX9_run_61 : decode cX9_run 61 = .ok (.iload_n 2, 1) := by decide +kernel
theorem dX9_run_62 : decode cX9_run 62 = .ok (.aload_n 0, 1) := by decide +kernel
theorem dX9_run_63 : decode cX9_run 63 = .ok (.getfield 30, 3) := by decide +kernel
theorem dX9_run_66 : decode cX9_run 66 = .ok (.getfield 321, 3) := by decide +kernel
theorem dX9_run_69 : decode cX9_run 69 = .ok (.if_icmp .ge 15, 3) := by decide +kernel
theorem dX9_run_72 : decode cX9_run 72 = .ok (.aload_n 0, 1) := by decide +kernel
theorem dX9_run_73 : decode cX9_run 73 = .ok (.getfield 30, 3) := by decide +kernel
theorem dX9_run_76 : decode cX9_run 76 = .ok (.getfield 322, 3) := by decide +kernel
theorem dX9_run_79 : decode cX9_run 79 = .ok (.iload_n 2, 1) := by decide +kernel
theorem dX9_run_80 : decode cX9_run 80 = .ok (.iaload, 1) := by decide +kernel
theorem dX9_run_81 : decode cX9_run 81 = .ok (.goto 5, 3) := by decide +kernel
theorem dX9_run_84 : decode cX9_run 84 = .ok (.bipush (-2), 2) := by decide +kernel
theorem dX9_run_86 : decode cX9_run 86 = .ok (.ireturn, 1) := by decide +kernel
theorem dX9_sorts_0 : decode cX9_sorts 0 = .ok (.aload_n 0, 1) := by decide +kernel
theorem dX9_sorts_1 : decode cX9_sorts 1 = .ok (.getfield 12, 3) := by decide +kernel
theorem dX9_sorts_4 : decode cX9_sorts 4 = .ok (.iload_n 1, 1) := by decide +kernel
theorem dX9_sorts_5 : decode cX9_sorts 5 = .ok (.invokevirtual 163, 3) := by decide +kernel
theorem dX9_sorts_8 : decode cX9_sorts 8 = .ok (.ifCond .eq 12, 3) := by decide +kernel
theorem dX9_sorts_11 : decode cX9_sorts 11 = .ok (.iload_n 2, 1) := by decide +kernel
theorem dX9_sorts_12 : decode cX9_sorts 12 = .ok (.ifCond .lt 8, 3) := by decide +kernel
theorem dX9_sorts_15 : decode cX9_sorts 15 = .ok (.iload_n 2, 1) := by decide +kernel
theorem dX9_sorts_16 : decode cX9_sorts 16 = .ok (.iconst 5, 1) := by decide +kernel
theorem dX9_sorts_17 : decode cX9_sorts 17 = .ok (.if_icmp .le 6, 3) := by decide +kernel
theorem dX9_sorts_20 : decode cX9_sorts 20 = .ok (.bipush (-2), 2) := by decide +kernel
theorem dX9_sorts_22 : decode cX9_sorts 22 = .ok (.ireturn, 1) := by decide +kernel
theorem dX9_sorts_23 : decode cX9_sorts 23 = .ok (.aload_n 0, 1) := by decide +kernel
theorem dX9_sorts_24 : decode cX9_sorts 24 = .ok (.getfield 12, 3) := by decide +kernel
theorem dX9_sorts_27 : decode cX9_sorts 27 = .ok (.getfield 166, 3) := by decide +kernel
theorem dX9_sorts_30 : decode cX9_sorts 30 = .ok (.iload_n 1, 1) := by decide +kernel
theorem dX9_sorts_31 : decode cX9_sorts 31 = .ok (.aaload, 1) := by decide +kernel
theorem dX9_sorts_32 : decode cX9_sorts 32 = .ok (.astore_n 3, 1) := by decide +kernel
theorem dX9_sorts_33 : decode cX9_sorts 33 = .ok (.iconst 0, 1) := by decide +kernel
theorem dX9_sorts_34 : decode cX9_sorts 34 = .ok (.istore 4, 2) := by decide +kernel
theorem dX9_sorts_36 : decode cX9_sorts 36 = .ok (.iconst 0, 1) := by decide +kernel
theorem dX9_sorts_37 : decode cX9_sorts 37 = .ok (.istore 5, 2) := by decide +kernel
theorem dX9_sorts_39 : decode cX9_sorts 39 = .ok (.iload 5, 2) := by decide +kernel
theorem dX9_sorts_41 : decode cX9_sorts 41 = .ok (.aload_n 3, 1) := by decide +kernel
theorem dX9_sorts_42 : decode cX9_sorts 42 = .ok (.getfield 200, 3) := by decide +kernel
theorem dX9_sorts_45 : decode cX9_sorts 45 = .ok (.if_icmp .ge 46, 3) := by decide +kernel
theorem dX9_sorts_48 : decode cX9_sorts 48 = .ok (.aload_n 3, 1) := by decide +kernel
theorem dX9_sorts_49 : decode cX9_sorts 49 = .ok (.getfield 246, 3) := by decide +kernel
theorem dX9_sorts_52 : decode cX9_sorts 52 = .ok (.iload 5, 2) := by decide +kernel
theorem dX9_sorts_54 : decode cX9_sorts 54 = .ok (.aaload, 1) := by decide +kernel
theorem dX9_sorts_55 : decode cX9_sorts 55 = .ok (.astore 6, 2) := by decide +kernel
theorem dX9_sorts_57 : decode cX9_sorts 57 = .ok (.iload_n 2, 1) := by decide +kernel
theorem dX9_sorts_58 : decode cX9_sorts 58 = .ok (.iconst 5, 1) := by decide +kernel
theorem dX9_sorts_59 : decode cX9_sorts 59 = .ok (.if_icmp .ne 14, 3) := by decide +kernel
theorem dX9_sorts_62 : decode cX9_sorts 62 = .ok (.aload 6, 2) := by decide +kernel
theorem dX9_sorts_64 : decode cX9_sorts 64 = .ok (.invokevirtual 340, 3) := by decide +kernel
theorem dX9_sorts_67 : decode cX9_sorts 67 = .ok (.ifCond .eq 18, 3) := by decide +kernel
theorem dX9_sorts_70 : decode cX9_sorts 70 = .ok (.goto 12, 3) := by decide +kernel
theorem dX9_sorts_73 : decode cX9_sorts 73 = .ok (.aload 6, 2) := by decide +kernel
theorem dX9_sorts_75 : decode cX9_sorts 75 = .ok (.getfield 250, 3) := by decide +kernel
theorem dX9_sorts_78 : decode cX9_sorts 78 = .ok (.iload_n 2, 1) := by decide +kernel
theorem dX9_sorts_79 : decode cX9_sorts 79 = .ok (.if_icmp .ne 6, 3) := by decide +kernel
theorem dX9_sorts_82 : decode cX9_sorts 82 = .ok (.iinc 4 1, 3) := by decide +kernel
theorem dX9_sorts_85 : decode cX9_sorts 85 = .ok (.iinc 5 1, 3) := by decide +kernel
theorem dX9_sorts_88 : decode cX9_sorts 88 = .ok (.goto (-49), 3) := by decide +kernel
theorem dX9_sorts_91 : decode cX9_sorts 91 = .ok (.iload 4, 2) := by decide +kernel
theorem dX9_sorts_93 : decode cX9_sorts 93 = .ok (.ireturn, 1) := by decide +kernel
theorem dX9_step_0 : decode cX9_step 0 = .ok (.aload_n 0, 1) := by decide +kernel
theorem dX9_step_1 : decode cX9_step 1 = .ok (.getfield 12, 3) := by decide +kernel
theorem dX9_step_4 : decode cX9_step 4 = .ok (.iload_n 1, 1) := by decide +kernel
theorem dX9_step_5 : decode cX9_step 5 = .ok (.invokevirtual 163, 3) := by decide +kernel
theorem dX9_step_8 : decode cX9_step 8 = .ok (.ifCond .eq 19, 3) := by decide +kernel
theorem dX9_step_11 : decode cX9_step 11 = .ok (.aload_n 0, 1) := by decide +kernel
theorem dX9_step_12 : decode cX9_step 12 = .ok (.getfield 12, 3) := by decide +kernel
theorem dX9_step_15 : decode cX9_step 15 = .ok (.getfield 166, 3) := by decide +kernel
theorem dX9_step_18 : decode cX9_step 18 = .ok (.iload_n 1, 1) := by decide +kernel
theorem dX9_step_19 : decode cX9_step 19 = .ok (.aaload, 1) := by decide +kernel
theorem dX9_step_20 : decode cX9_step 20 = .ok (.iload_n 2, 1) := by decide +kernel
theorem dX9_step_21 : decode cX9_step 21 = .ok (.invokevirtual 243, 3) := by decide +kernel
theorem dX9_step_24 : decode cX9_step 24 = .ok (.ifCond .ne 6, 3) := by decide +kernel
theorem dX9_step_27 : decode cX9_step 27 = .ok (.bipush (-2), 2) := by decide +kernel
theorem dX9_step_29 : decode cX9_step 29 = .ok (.ireturn, 1) := by decide +kernel
theorem dX9_step_30 : decode cX9_step 30 = .ok (.aload_n 0, 1) := by decide +kernel
theorem dX9_step_31 : decode cX9_step 31 = .ok (.getfield 12, 3) := by decide +kernel
theorem dX9_step_34 : decode cX9_step 34 = .ok (.getfield 166, 3) := by decide +kernel
theorem dX9_step_37 : decode cX9_step 37 = .ok (.iload_n 1, 1) := by decide +kernel
theorem dX9_step_38 : decode cX9_step 38 = .ok (.aaload, 1) := by decide +kernel
theorem dX9_step_39 : decode cX9_step 39 = .ok (.getfield 246, 3) := by decide +kernel
theorem dX9_step_42 : decode cX9_step 42 = .ok (.iload_n 2, 1) := by decide +kernel
theorem dX9_step_43 : decode cX9_step 43 = .ok (.aaload, 1) := by decide +kernel
theorem dX9_step_44 : decode cX9_step 44 = .ok (.astore 4, 2) := by decide +kernel
theorem dX9_step_46 : decode cX9_step 46 = .ok (.iload_n 3, 1) := by decide +kernel
theorem dX9_step_47 : decode cX9_step 47 = .ok (.tableswitch 119 0 9 #[53, 59, 65, 71, 77, 83, 92, 101, 107, 113], 53) := by decide +kernel
theorem dX9_step_100 : decode cX9_step 100 = .ok (.aload 4, 2) := by decide +kernel
theorem dX9_step_102 : decode cX9_step 102 = .ok (.getfield 250, 3) := by decide +kernel
theorem dX9_step_105 : decode cX9_step 105 = .ok (.ireturn, 1) := by decide +kernel
theorem dX9_step_106 : decode cX9_step 106 = .ok (.aload 4, 2) := by decide +kernel
theorem dX9_step_108 : decode cX9_step 108 = .ok (.getfield 255, 3) := by decide +kernel
theorem dX9_step_111 : decode cX9_step 111 = .ok (.ireturn, 1) := by decide +kernel
theorem dX9_step_112 : decode cX9_step 112 = .ok (.aload 4, 2) := by decide +kernel
theorem dX9_step_114 : decode cX9_step 114 = .ok (.getfield 258, 3) := by decide +kernel
theorem dX9_step_117 : decode cX9_step 117 = .ok (.ireturn, 1) := by decide +kernel
theorem dX9_step_118 : decode cX9_step 118 = .ok (.aload 4, 2) := by decide +kernel
theorem dX9_step_120 : decode cX9_step 120 = .ok (.getfield 261, 3) := by decide +kernel
theorem dX9_step_123 : decode cX9_step 123 = .ok (.ireturn, 1) := by decide +kernel
theorem dX9_step_124 : decode cX9_step 124 = .ok (.aload 4, 2) := by decide +kernel
theorem dX9_step_126 : decode cX9_step 126 = .ok (.getfield 264, 3) := by decide +kernel
theorem dX9_step_129 : decode cX9_step 129 = .ok (.ireturn, 1) := by decide +kernel
theorem dX9_step_130 : decode cX9_step 130 = .ok (.aload 4, 2) := by decide +kernel
theorem dX9_step_132 : decode cX9_step 132 = .ok (.getfield 267, 3) := by decide +kernel
theorem dX9_step_135 : decode cX9_step 135 = .ok (.invokestatic 190, 3) := by decide +kernel
theorem dX9_step_138 : decode cX9_step 138 = .ok (.ireturn, 1) := by decide +kernel
theorem dX9_step_139 : decode cX9_step 139 = .ok (.aload 4, 2) := by decide +kernel
theorem dX9_step_141 : decode cX9_step 141 = .ok (.getfield 270, 3) := by decide +kernel
theorem dX9_step_144 : decode cX9_step 144 = .ok (.invokestatic 190, 3) := by decide +kernel
theorem dX9_step_147 : decode cX9_step 147 = .ok (.ireturn, 1) := by decide +kernel
theorem dX9_step_148 : decode cX9_step 148 = .ok (.aload 4, 2) := by decide +kernel
theorem dX9_step_150 : decode cX9_step 150 = .ok (.getfield 273, 3) := by decide +kernel
theorem dX9_step_153 : decode cX9_step 153 = .ok (.ireturn, 1) := by decide +kernel
theorem dX9_step_154 : decode cX9_step 154 = .ok (.aload 4, 2) := by decide +kernel
theorem dX9_step_156 : decode cX9_step 156 = .ok (.getfield 276, 3) := by decide +kernel
theorem dX9_step_159 : decode cX9_step 159 = .ok (.ireturn, 1) := by decide +kernel
theorem dX9_step_160 : decode cX9_step 160 = .ok (.aload 4, 2) := by decide +kernel
theorem dX9_step_162 : decode cX9_step 162 = .ok (.getfield 277, 3) := by decide +kernel
theorem dX9_step_165 : decode cX9_step 165 = .ok (.ireturn, 1) := by decide +kernel
theorem dX9_step_166 : decode cX9_step 166 = .ok (.bipush (-2), 2) := by decide +kernel
theorem dX9_step_168 : decode cX9_step 168 = .ok (.ireturn, 1) := by decide +kernel
theorem dX9_until_0 : decode cX9_until 0 = .ok (.aload_n 0, 1) := by decide +kernel
theorem dX9_until_1 : decode cX9_until 1 = .ok (.getfield 12, 3) := by decide +kernel
theorem dX9_until_4 : decode cX9_until 4 = .ok (.iload_n 1, 1) := by decide +kernel
theorem dX9_until_5 : decode cX9_until 5 = .ok (.iload_n 2, 1) := by decide +kernel
theorem dX9_until_6 : decode cX9_until 6 = .ok (.invokevirtual 278, 3) := by decide +kernel
