theorem dJx29ce0_ordinal_8abf5_0 : decode cJx29ce0_ordinal_8abf5 0 = .ok (.aload_n 0, 1) := by decide +kernel
theorem dJx29ce0_ordinal_8abf5_1 : decode cJx29ce0_ordinal_8abf5 1 = .ok (.getfield 7, 3) := by decide +kernel
theorem dJx29ce0_ordinal_8abf5_4 : decode cJx29ce0_ordinal_8abf5 4 = .ok (.ireturn, 1) := by decide +kernel
theorem dX9_reasonOfLine_0 : decode cX9_reasonOfLine 0 = .ok (.aload_n 0, 1) := by decide +kernel
theorem dX9_reasonOfLine_1 : decode cX9_reasonOfLine 1 = .ok (.getfield 23, 3) := by decide +kernel
theorem dX9_reasonOfLine_4 : decode cX9_reasonOfLine 4 = .ok (.getfield 347, 3) := by decide +kernel
theorem dX9_reasonOfLine_7 : decode cX9_reasonOfLine 7 = .ok (.astore_n 1, 1) := by decide +kernel
theorem dX9_reasonOfLine_8 : decode cX9_reasonOfLine 8 = .ok (.aload_n 0, 1) := by decide +kernel
theorem dX9_reasonOfLine_9 : decode cX9_reasonOfLine 9 = .ok (.getfield 23, 3) := by decide +kernel
theorem dX9_reasonOfLine_12 : decode cX9_reasonOfLine 12 = .ok (.getfield 350, 3) := by decide +kernel
theorem dX9_reasonOfLine_15 : decode cX9_reasonOfLine 15 = .ok (.istore_n 2, 1) := by decide +kernel
theorem dX9_reasonOfLine_16 : decode cX9_reasonOfLine 16 = .ok (.getstatic 351, 3) := by decide +kernel
theorem dX9_reasonOfLine_19 : decode cX9_reasonOfLine 19 = .ok (.aload_n 0, 1) := by decide +kernel
theorem dX9_reasonOfLine_20 : decode cX9_reasonOfLine 20 = .ok (.getfield 23, 3) := by decide +kernel
theorem dX9_reasonOfLine_23 : decode cX9_reasonOfLine 23 = .ok (.getfield 356, 3) := by decide +kernel
theorem dX9_reasonOfLine_26 : decode cX9_reasonOfLine 26 = .ok (.invokevirtual 360, 3) := by decide +kernel
theorem dX9_reasonOfLine_29 : decode cX9_reasonOfLine 29 = .ok (.iaload, 1) := by decide +kernel
theorem dX9_reasonOfLine_30 : decode cX9_reasonOfLine 30 = .ok (.tableswitch 428 1 19 #[90, 101, 115, 126, 150, 174, 185, 211, 237, 263, 289, 310, 324, 339, 354, 368, 383, 400, 414], 90) := by decide +kernel
theorem dX9_reasonOfLine_120 : decode cX9_reasonOfLine 120 = .ok (.aload_n 0, 1) := by decide +kernel
theorem dX9_reasonOfLine_121 : decode cX9_reasonOfLine 121 = .ok (.getfield 12, 3) := by decide +kernel
theorem dX9_reasonOfLine_124 : decode cX9_reasonOfLine 124 = .ok (.aload_n 1, 1) := by decide +kernel
theorem dX9_reasonOfLine_125 : decode cX9_reasonOfLine 125 = .ok (.iconst 0, 1) := by decide +kernel
theorem dX9_reasonOfLine_126 : decode cX9_reasonOfLine 126 = .ok (.iaload, 1) := by decide +kernel
theorem dX9_reasonOfLine_127 : decode cX9_reasonOfLine 127 = .ok (.invokevirtual 83, 3) := by decide +kernel
theorem dX9_reasonOfLine_130 : decode cX9_reasonOfLine 130 = .ok (.ireturn, 1) := by decide +kernel
theorem dX9_reasonOfLine_131 : decode cX9_reasonOfLine 131 = .ok (.aload_n 0, 1) := by decide +kernel
theorem dX9_reasonOfLine_132 : decode cX9_reasonOfLine 132 = .ok (.getfield 12, 3) := by decide +kernel
theorem dX9_reasonOfLine_135 : decode cX9_reasonOfLine 135 = .ok (.aload_n 1, 1) := by decide +kernel
theorem dX9_reasonOfLine_136 : decode cX9_reasonOfLine 136 = .ok (.iconst 0, 1) := by decide +kernel
theorem dX9_reasonOfLine_137 : decode cX9_reasonOfLine 137 = .ok (.iaload, 1) := by decide +kernel
theorem dX9_reasonOfLine_138 : decode cX9_reasonOfLine 138 = .ok (.aload_n 1, 1) := by decide +kernel
theorem dX9_reasonOfLine_139 : decode cX9_reasonOfLine 139 = .ok (.iconst 1, 1) := by decide +kernel
theorem dX9_reasonOfLine_140 : decode cX9_reasonOfLine 140 = .ok (.iaload, 1) := by decide +kernel
theorem dX9_reasonOfLine_141 : decode cX9_reasonOfLine 141 = .ok (.invokevirtual 86, 3) := by decide +kernel
theorem dX9_reasonOfLine_144 : decode cX9_reasonOfLine 144 = .ok (.ireturn, 1) := by decide +kernel
theorem dX9_reasonOfLine_145 : decode cX9_reasonOfLine 145 = .ok (.aload_n 0, 1) := by decide +kernel
theorem dX9_reasonOfLine_146 : decode cX9_reasonOfLine 146 = .ok (.getfield 12, 3) := by decide +kernel
theorem dX9_reasonOfLine_149 : decode cX9_reasonOfLine 149 = .ok (.aload_n 1, 1) := by decide +kernel
theorem dX9_reasonOfLine_150 : decode cX9_reasonOfLine 150 = .ok (.iconst 0, 1) := by decide +kernel
theorem dX9_reasonOfLine_151 : decode cX9_reasonOfLine 151 = .ok (.iaload, 1) := by decide +kernel
theorem dX9_reasonOfLine_152 : decode cX9_reasonOfLine 152 = .ok (.invokevirtual 90, 3) := by decide +kernel
theorem dX9_reasonOfLine_155 : decode cX9_reasonOfLine 155 = .ok (.ireturn, 1) := by decide +kernel
theorem dX9_reasonOfLine_156 : decode cX9_reasonOfLine 156 = .ok (.aload_n 0, 1) := by decide +kernel
theorem dX9_reasonOfLine_157 : decode cX9_reasonOfLine 157 = .ok (.getfield 12, 3) := by decide +kernel
theorem dX9_reasonOfLine_160 : decode cX9_reasonOfLine 160 = .ok (.aload_n 1, 1) := by decide +kernel
theorem dX9_reasonOfLine_161 : decode cX9_reasonOfLine 161 = .ok (.iconst 0, 1) := by decide +kernel
theorem dX9_reasonOfLine_162 : decode cX9_reasonOfLine 162 = .ok (.iaload, 1) := by decide +kernel
theorem dX9_reasonOfLine_163 : decode cX9_reasonOfLine 163 = .ok (.aload_n 1, 1) := by decide +kernel
theorem dX9_reasonOfLine_164 : decode cX9_reasonOfLine 164 = .ok (.iconst 1, 1) := by decide +kernel
theorem dX9_reasonOfLine_165 : decode cX9_reasonOfLine 165 = .ok (.iaload, 1) := by decide +kernel
theorem dX9_reasonOfLine_166 : decode cX9_reasonOfLine 166 = .ok (.aload_n 1, 1) := by decide +kernel
theorem dX9_reasonOfLine_167 : decode cX9_reasonOfLine 167 = .ok (.iconst 2, 1) := by decide +kernel
theorem dX9_reasonOfLine_168 : decode cX9_reasonOfLine 168 = .ok (.iaload, 1) := by decide +kernel
theorem dX9_reasonOfLine_169 : decode cX9_reasonOfLine 169 = .ok (.aload_n 1, 1) := by decide +kernel
theorem dX9_reasonOfLine_170 : decode cX9_reasonOfLine 170 = .ok (.iconst 3, 1) := by decide +kernel
theorem dX9_reasonOfLine_171 : decode cX9_reasonOfLine 171 = .ok (.iaload, 1) := by decide +kernel
theorem dX9_reasonOfLine_172 : decode cX9_reasonOfLine 172 = .ok (.aload_n 1, 1) := by decide +kernel
theorem dX9_reasonOfLine_173 : decode cX9_reasonOfLine 173 = .ok (.iconst 4, 1) := by decide +kernel
theorem dX9_reasonOfLine_174 : decode cX9_reasonOfLine 174 = .ok (.iaload, 1) := by decide +kernel
theorem dX9_reasonOfLine_175 : decode cX9_reasonOfLine 175 = .ok (.iconst 0, 1) := by decide +kernel
theorem dX9_reasonOfLine_176 : decode cX9_reasonOfLine 176 = .ok (.invokevirtual 93, 3) := by decide +kernel
theorem dX9_reasonOfLine_179 : decode cX9_reasonOfLine 179 = .ok (.ireturn, 1) := by decide +kernel
theorem dX9_reasonOfLine_180 : decode cX9_reasonOfLine 180 = .ok (.aload_n 0, 1) := by decide +kernel
theorem dX9_reasonOfLine_181 : decode cX9_reasonOfLine 181 = .ok (.getfield 12, 3) := by decide +kernel
theorem dX9_reasonOfLine_184 : decode cX9_reasonOfLine 184 = .ok (.aload_n 1, 1) := by decide +kernel
theorem dX9_reasonOfLine_185 : decode cX9_reasonOfLine 185 = .ok (.iconst 0, 1) := by decide +kernel
theorem dX9_reasonOfLine_186 : decode cX9_reasonOfLine 186 = .ok (.iaload, 1) := by decide +kernel
theorem dX9_reasonOfLine_187 : decode cX9_reasonOfLine 187 = .ok (.aload_n 1, 1) := by decide +kernel
theorem dX9_reasonOfLine_188 : decode cX9_reasonOfLine 188 = .ok (.iconst 1, 1) := by decide +kernel
theorem dX9_reasonOfLine_189 : decode cX9_reasonOfLine 189 = .ok (.iaload, 1) := by decide +kernel
theorem dX9_reasonOfLine_190 : decode cX9_reasonOfLine 190 = .ok (.aload_n 1, 1) := by decide +kernel
theorem dX9_reasonOfLine_191 : decode cX9_reasonOfLine 191 = .ok (.iconst 2, 1) := by decide +kernel
theorem dX9_reasonOfLine_192 : decode cX9_reasonOfLine 192 = .ok (.iaload, 1) := by decide +kernel
theorem dX9_reasonOfLine_193 : decode cX9_reasonOfLine 193 = .ok (.aload_n 1, 1) := by decide +kernel
theorem dX9_reasonOfLine_194 : decode cX9_reasonOfLine 194 = .ok (.iconst 3, 1) := by decide +kernel
theorem dX9_reasonOfLine_195 : decode cX9_reasonOfLine 195 = .ok (.iaload, 1) := by decide +kernel
theorem dX9_reasonOfLine_196 : decode cX9_reasonOfLine 196 = .ok (.aload_n 1, 1) := by decide +kernel
theorem dX9_reasonOfLine_197 : decode cX9_reasonOfLine 197 = .ok (.iconst 4, 1) := by decide +kernel
theorem dX9_reasonOfLine_198 : decode cX9_reasonOfLine 198 = .ok (.iaload, 1) := by decide +kernel
theorem dX9_reasonOfLine_199 : decode cX9_reasonOfLine 199 = .ok (.iconst 1, 1) := by decide +kernel
theorem dX9_reasonOfLine_200 : decode cX9_reasonOfLine 200 = .ok (.invokevirtual 93, 3) := by decide +kernel
theorem dX9_reasonOfLine_203 : decode cX9_reasonOfLine 203 = .ok (.ireturn, 1) := by decide +kernel
theorem dX9_reasonOfLine_204 : decode cX9_reasonOfLine 204 = .ok (.aload_n 0, 1) := by decide +kernel
theorem dX9_reasonOfLine_205 : decode cX9_reasonOfLine 205 = .ok (.getfield 12, 3) := by decide +kernel
theorem dX9_reasonOfLine_208 : decode cX9_reasonOfLine 208 = .ok (.aload_n 1, 1) := by decide +kernel
theorem dX9_reasonOfLine_209 : decode cX9_reasonOfLine 209 = .ok (.iconst 0, 1) := by decide +kernel
theorem dX9_reasonOfLine_210 : decode cX9_reasonOfLine 210 = .ok (.iaload, 1) := by decide +kernel
theorem dX9_reasonOfLine_211 : decode cX9_reasonOfLine 211 = .ok (.invokevirtual 100, 3) := by decide +kernel
theorem dX9_reasonOfLine_214 : decode cX9_reasonOfLine 214 = .ok (.ireturn, 1) := by decide +kernel
theorem dX9_reasonOfLine_215 : decode cX9_reasonOfLine 215 = .ok (.aload_n 0, 1) := by decide +kernel
theorem dX9_reasonOfLine_216 : decode cX9_reasonOfLine 216 = .ok (.getfield 12, 3) := by decide +kernel
theorem dX9_reasonOfLine_219 : decode cX9_reasonOfLine 219 = .ok (.aload_n 1, 1) := by decide +kernel
theorem dX9_reasonOfLine_220 : decode cX9_reasonOfLine 220 = .ok (.iconst 0, 1) := by decide +kernel
theorem dX9_reasonOfLine_221 : decode cX9_reasonOfLine 221 = .ok (.iaload, 1) := by decide +kernel
theorem dX9_reasonOfLine_222 : decode cX9_reasonOfLine 222 = .ok (.iconst 0, 1) := by decide +kernel
theorem dX9_reasonOfLine_223 : decode cX9_reasonOfLine 223 = .ok (.aload_n 1, 1) := by decide +kernel
theorem dX9_reasonOfLine_224 : decode cX9_reasonOfLine 224 = .ok (.iconst 1, 1) := by decide +kernel
theorem dX9_reasonOfLine_225 : decode cX9_reasonOfLine 225 = .ok (.iaload, 1) := by decide +kernel
theorem dX9_reasonOfLine_226 : decode cX9_reasonOfLine 226 = .ok (.aload_n 1, 1) := by decide +kernel
theorem dX9_reasonOfLine_227 : decode cX9_reasonOfLine 227 = .ok (.iconst 2, 1) := by decide +kernel
theorem dX9_reasonOfLine_228 : decode cX9_reasonOfLine 228 = .ok (.iaload, 1) := by decide +kernel
theorem dX9_reasonOfLine_229 : decode cX9_reasonOfLine 229 = .ok (.iload_n 2, 1) := by decide +kernel
theorem dX9_reasonOfLine_230 : decode cX9_reasonOfLine 230 = .ok (.aload_n 0, 1) := by decide +kernel
theorem dX9_reasonOfLine_231 : decode cX9_reasonOfLine 231 = .ok (.getfield 23, 3) := by decide +kernel
theorem dX9_reasonOfLine_234 : decode cX9_reasonOfLine 234 = .ok (.getfield 365, 3) := by decide +kernel
theorem dX9_reasonOfLine_237 : decode cX9_reasonOfLine 237 = .ok (.invokevirtual 103, 3) := by decide +kernel
theorem dX9_reasonOfLine_240 : decode cX9_reasonOfLine 240 = .ok (.ireturn, 1) := by decide +kernel
theorem dX9_reasonOfLine_241 : decode cX9_reasonOfLine 241 = .ok (.aload_n 0, 1) := by decide +kernel
theorem dX9_reasonOfLine_242 : decode cX9_reasonOfLine 242 = .ok (.getfield 12, 3) := by decide +kernel
theorem dX9_reasonOfLine_245 : decode cX9_reasonOfLine 245 = .ok (.aload_n 1, 1) := by decide +kernel
theorem dX9_reasonOfLine_246 : decode cX9_reasonOfLine 246 = .ok (.iconst 0, 1) := by decide +kernel
theorem dX9_reasonOfLine_247 : decode cX9_reasonOfLine 247 = .ok (.iaload, 1) := by decide +kernel
theorem dX9_reasonOfLine_248 : decode cX9_reasonOfLine 248 = .ok (.iconst 1, 1) := by decide +kernel
theorem dX9_reasonOfLine_249 : decode cX9_reasonOfLine 249 = .ok (.aload_n 1, 1) := by decide +kernel
theorem dX9_reasonOfLine_250 : decode cX9_reasonOfLine 250 = .ok (.iconst 1, 1) := by decide +kernel
theorem dX9_reasonOfLine_251 : decode cX9_reasonOfLine 251 = .ok (.iaload, 1) := by decide +kernel
theorem dX9_reasonOfLine_252 : decode cX9_reasonOfLine 252 = .ok (.aload_n 1, 1) := by decide +kernel
theorem dX9_reasonOfLine_253 : decode cX9_reasonOfLine 253 = .ok (.iconst 2, 1) := by decide +kernel
theorem dX9_reasonOfLine_254 : decode cX9_reasonOfLine 254 = .ok (.iaload, 1) := by decide +kernel
theorem dX9_reasonOfLine_255 : decode cX9_reasonOfLine 255 = .ok (.iload_n 2, 1) := by decide +kernel
theorem dX9_reasonOfLine_256 : decode cX9_reasonOfLine 256 = .ok (.aload_n 0, 1) := by decide +kernel
theorem dX9_reasonOfLine_257 : decode cX9_reasonOfLine 257 = .ok (.getfield 23, 3) := by decide +kernel
theorem dX9_reasonOfLine_260 : decode cX9_reasonOfLine 260 = .ok (.getfield 365, 3) := by decide +kernel
theorem dX9_reasonOfLine_263 : decode cX9_reasonOfLine 263 = .ok (.invokevirtual 103, 3) := by decide +kernel
theorem dX9_reasonOfLine_266 : decode cX9_reasonOfLine 266 = .ok (.ireturn, 1) := by decide +kernel
theorem dX9_reasonOfLine_267 : decode cX9_reasonOfLine 267 = .ok (.aload_n 0, 1) := by decide +kernel
theorem dX9_reasonOfLine_268 : decode cX9_reasonOfLine 268 = .ok (.getfield 12, 3) := by decide +kernel
theorem dX9_reasonOfLine_271 : decode cX9_reasonOfLine 271 = .ok (.aload_n 1, 1) := by decide +kernel
theorem dX9_reasonOfLine_272 : decode cX9_reasonOfLine 272 = .ok (.iconst 0, 1) := by decide +kernel
theorem dX9_reasonOfLine_273 : decode cX9_reasonOfLine 273 = .ok (.iaload, 1) := by decide +kernel
theorem dX9_reasonOfLine_274 : decode cX9_reasonOfLine 274 = .ok (.iconst 2, 1) := by decide +kernel
theorem dX9_reasonOfLine_275 : decode cX9_reasonOfLine 275 = .ok (.aload_n 1, 1) := by decide +kernel
theorem dX9_reasonOfLine_276 : decode cX9_reasonOfLine 276 = .ok (.iconst 1, 1) := by decide +kernel
theorem dX9_reasonOfLine_277 : decode cX9_reasonOfLine 277 = .ok (.iaload, 1) := by decide +kernel
theorem dX9_reasonOfLine_278 : decode cX9_reasonOfLine 278 = .ok (.aload_n 1, 1) := by decide +kernel
theorem dX9_reasonOfLine_279 : decode cX9_reasonOfLine 279 = .ok (.iconst 2, 1) := by decide +kernel
theorem dX9_reasonOfLine_280 : decode cX9_reasonOfLine 280 = .ok (.iaload, 1) := by decide +kernel
theorem dX9_reasonOfLine_281 : decode cX9_reasonOfLine 281 = .ok (.iload_n 2, 1) := by decide +kernel
theorem dX9_reasonOfLine_282 : decode cX9_reasonOfLine 282 = .ok (.aload_n 0, 1) := by decide +kernel
theorem dX9_reasonOfLine_283 : decode cX9_reasonOfLine 283 = .ok (.getfield 23, 3) := by decide +kernel
theorem dX9_reasonOfLine_286 : decode cX9_reasonOfLine 286 = .ok (.getfield 365, 3) := by decide +kernel
theorem dX9_reasonOfLine_289 : decode cX9_reasonOfLine 289 = .ok (.invokevirtual 103, 3) := by decide +kernel
theorem dX9_reasonOfLine_292 : decode cX9_reasonOfLine 292 = .ok (.ireturn, 1) := by decide +kernel
theorem dX9_reasonOfLine_293 : decode cX9_reasonOfLine 293 = .ok (.aload_n 0, 1) := by decide +kernel
theorem dX9_reasonOfLine_294 : decode cX9_reasonOfLine 294 = .ok (.getfield 12, 3) := by decide +kernel
theorem dX9_reasonOfLine_297 : decode cX9_reasonOfLine 297 = .ok (.aload_n 1, 1) := by decide +kernel
theorem dX9_reasonOfLine_298 : decode cX9_reasonOfLine 298 = .ok (.iconst 0, 1) := by decide +kernel
theorem dX9_reasonOfLine_299 : decode cX9_reasonOfLine 299 = .ok (.iaload, 1) := by decide +kernel
theorem dX9_reasonOfLine_300 : decode cX9_reasonOfLine 300 = .ok (.iconst 3, 1) := by decide +kernel
theorem dX9_reasonOfLine_301 : decode cX9_reasonOfLine 301 = .ok (.aload_n 1, 1) := by decide +kernel
theorem dX9_reasonOfLine_302 : decode cX9_reasonOfLine 302 = .ok (.iconst 1, 1) := by decide +kernel
theorem dX9_reasonOfLine_303 : decode cX9_reasonOfLine 303 = .ok (.iaload, 1) := by decide +kernel
theorem dX9_reasonOfLine_304 : decode cX9_reasonOfLine 304 = .ok (.aload_n 1, 1) := by decide +kernel
theorem dX9_reasonOfLine_305 : decode cX9_reasonOfLine 305 = .ok (.iconst 2, 1) := by decide +kernel
theorem dX9_reasonOfLine_306 : decode cX9_reasonOfLine 306 = .ok (.iaload, 1) := by decide +kernel
theorem dX9_reasonOfLine_307 : decode cX9_reasonOfLine 307 = .ok (.iload_n 2, 1) := by decide +kernel
theorem dX9_reasonOfLine_308 : decode cX9_reasonOfLine 308 = .ok (.aload_n 0, 1) := by decide +kernel
theorem dX9_reasonOfLine_309 : decode cX9_reasonOfLine 309 = .ok (.getfield 23, 3) := by decide +kernel
theorem dX9_reasonOfLine_312 : decode cX9_reasonOfLine 312 = .ok (.getfield 365, 3) := by decide +kernel
theorem dX9_reasonOfLine_315 : decode cX9_reasonOfLine 315 = .ok (.invokevirtual 103, 3) := by decide +kernel
theorem dX9_reasonOfLine_318 : decode cX9_reasonOfLine 318 = .ok (.ireturn, 1) := by decide +kernel
theorem dX9_reasonOfLine_319 : decode cX9_reasonOfLine 319 = .ok (.aload_n 0, 1) := by decide +kernel
theorem dX9_reasonOfLine_320 : decode cX9_reasonOfLine 320 = .ok (.getfield 12, 3) := by decide +kernel
theorem dX9_reasonOfLine_323 : decode cX9_reasonOfLine 323 = .ok (.aload_n 1, 1) := by decide +kernel
theorem dX9_reasonOfLine_324 : decode cX9_reasonOfLine 324 = .ok (.iconst 0, 1) := by decide +kernel
theorem dX9_reasonOfLine_325 : decode cX9_reasonOfLine 325 = .ok (.iaload, 1) := by decide +kernel
theorem dX9_reasonOfLine_326 : decode cX9_reasonOfLine 326 = .ok (.aload_n 1, 1) := by decide +kernel
theorem dX9_reasonOfLine_327 : decode cX9_reasonOfLine 327 = .ok (.iconst 1, 1) := by decide +kernel
theorem dX9_reasonOfLine_328 : decode cX9_reasonOfLine 328 = .ok (.iaload, 1) := by decide +kernel
theorem dX9_reasonOfLine_329 : decode cX9_reasonOfLine 329 = .ok (.aload_n 1, 1) := by decide +kernel
theorem dX9_reasonOfLine_330 : decode cX9_reasonOfLine 330 = .ok (.iconst 2, 1) := by decide +kernel
theorem dX9_reasonOfLine_331 : decode cX9_reasonOfLine 331 = .ok (.iaload, 1) := by decide +kernel
theorem dX9_reasonOfLine_332 : decode cX9_reasonOfLine 332 = .ok (.aload_n 1, 1) := by decide +kernel
theorem dX9_reasonOfLine_333 : decode cX9_reasonOfLine 333 = .ok (.iconst 3, 1) := by decide +kernel
theorem dX9_reasonOfLine_334 : decode cX9_reasonOfLine 334 = .ok (.iaload, 1) := by decide +kernel
theorem dX9_reasonOfLine_335 : decode cX9_reasonOfLine 335 = .ok (.iload_n 2, 1) := by decide +kernel
theorem dX9_reasonOfLine_336 : decode cX9_reasonOfLine 336 = .ok (.invokevirtual 107, 3) := by decide +kernel
theorem dX9_reasonOfLine_339 : decode cX9_reasonOfLine 339 = .ok (.ireturn, 1) := by decide +kernel
theorem dX9_reasonOfLine_340 : decode cX9_reasonOfLine 340 = .ok (.aload_n 0, 1) := by decide +kernel
theorem dX9_reasonOfLine_341 : decode cX9_reasonOfLine 341 = .ok (.getfield 12, 3) := by decide +kernel
theorem dX9_reasonOfLine_344 : decode cX9_reasonOfLine 344 = .ok (.aload_n 1, 1) := by decide +kernel
theorem dX9_reasonOfLine_345 : decode cX9_reasonOfLine 345 = .ok (.iconst 0, 1) := by decide +kernel
theorem dX9_reasonOfLine_346 : decode cX9_reasonOfLine 346 = .ok (.iaload, 1) := by decide +kernel
theorem dX9_reasonOfLine_347 : decode cX9_reasonOfLine 347 = .ok (.aload_n 1, 1) := by decide +kernel
theorem dX9_reasonOfLine_348 : decode cX9_reasonOfLine 348 = .ok (.iconst 1, 1) := by decide +kernel
theorem dX9_reasonOfLine_349 : decode cX9_reasonOfLine 349 = .ok (.iaload, 1) := by decide +kernel
theorem dX9_reasonOfLine_350 : decode cX9_reasonOfLine 350 = .ok (.invokevirtual 111, 3) := by decide +kernel
theorem dX9_reasonOfLine_353 : decode cX9_reasonOfLine 353 = .ok (.ireturn, 1) := by decide +kernel
theorem dX9_reasonOfLine_354 : decode cX9_reasonOfLine 354 = .ok (.aload_n 0, 1) := by decide +kernel
theorem dX9_reasonOfLine_355 : decode cX9_reasonOfLine 355 = .ok (.getfield 12, 3) := by decide +kernel
theorem dX9_reasonOfLine_358 : decode cX9_reasonOfLine 358 = .ok (.aload_n 1, 1) := by decide +kernel
theorem dX9_reasonOfLine_359 : decode cX9_reasonOfLine 359 = .ok (.iconst 0, 1) := by decide +kernel
theorem dX9_reasonOfLine_360 : decode cX9_reasonOfLine 360 = .ok (.iaload, 1) := by decide +kernel
theorem dX9_reasonOfLine_361 : decode cX9_reasonOfLine 361 = .ok (.aload_n 1, 1) := by decide +kernel
theorem dX9_reasonOfLine_362 : decode cX9_reasonOfLine 362 = .ok (.iconst 1, 1) := by decide +kernel
theorem dX9_reasonOfLine_363 : decode cX9_reasonOfLine 363 = .ok (.iaload, 1) := by decide +kernel
theorem dX9_reasonOfLine_364 : decode cX9_reasonOfLine 364 = .ok (.iconst 1, 1) := by decide +kernel
theorem dX9_reasonOfLine_365 : decode cX9_reasonOfLine 365 = .ok (.invokevirtual 114, 3) := by decide +kernel
theorem dX9_reasonOfLine_368 : decode cX9_reasonOfLine 368 = .ok (.ireturn, 1) := by decide +kernel
theorem dX9_reasonOfLine_369 : decode cX9_reasonOfLine 369 = .ok (.aload_n 0, 1) := by decide +kernel
theorem dX9_reasonOfLine_370 : decode cX9_reasonOfLine 370 = .ok (.getfield 12, 3) := by decide +kernel
theorem dX9_reasonOfLine_373 : decode cX9_reasonOfLine 373 = .ok (.aload_n 1, 1) := by decide +kernel
theorem dX9_reasonOfLine_374 : decode cX9_reasonOfLine 374 = .ok (.iconst 0, 1) := by decide +kernel
theorem dX9_reasonOfLine_375 : decode cX9_reasonOfLine 375 = .ok (.iaload, 1) := by decide +kernel
theorem dX9_reasonOfLine_376 : decode cX9_reasonOfLine 376 = .ok (.aload_n 1, 1) := by decide +kernel
theorem dX9_reasonOfLine_377 : decode cX9_reasonOfLine 377 = .ok (.iconst 1, 1) := by decide +kernel
theorem dX9_reasonOfLine_378 : decode cX9_reasonOfLine 378 = .ok (.iaload, 1) := by decide +kernel
theorem dX9_reasonOfLine_379 : decode cX9_reasonOfLine 379 = .ok (.iconst 0, 1) := by decide +kernel
theorem dX9_reasonOfLine_380 : decode cX9_reasonOfLine 380 = .ok (.invokevirtual 114, 3) := by decide +kernel
theorem dX9_reasonOfLine_383 : decode cX9_reasonOfLine 383 = .ok (.ireturn, 1) := by decide +kernel
theorem dX9_reasonOfLine_384 : decode cX9_reasonOfLine 384 = .ok (.aload_n 0, 1) := by decide +kernel
theorem dX9_reasonOfLine_385 : decode cX9_reasonOfLine 385 = .ok (.getfield 12, 3) := by decide +kernel
theorem dX9_reasonOfLine_388 : decode cX9_reasonOfLine 388 = .ok (.aload_n 1, 1) := by decide +kernel
theorem dX9_reasonOfLine_389 : decode cX9_reasonOfLine 389 = .ok (.iconst 0, 1) := by decide +kernel
theorem dX9_reasonOfLine_390 : decode cX9_reasonOfLine 390 = .ok (.iaload, 1) := by decide +kernel
theorem dX9_reasonOfLine_391 : decode cX9_reasonOfLine 391 = .ok (.invokevirtual 118, 3) := by decide +kernel
theorem dX9_reasonOfLine_394 : decode cX9_reasonOfLine 394 = .ok (.invokestatic 121, 3) := by decide +kernel
theorem dX9_reasonOfLine_397 : decode cX9_reasonOfLine 397 = .ok (.ireturn, 1) := by decide +kernel
theorem dX9_reasonOfLine_398 : decode cX9_reasonOfLine 398 = .ok (.aload_n 0, 1) := by decide +kernel
theorem dX9_reasonOfLine_399 : decode cX9_reasonOfLine 399 = .ok (.getfield 12, 3) := by decide +kernel
theorem dX9_reasonOfLine_402 : decode cX9_reasonOfLine 402 = .ok (.aload_n 1, 1) := by decide +kernel
theorem dX9_reasonOfLine_403 : decode cX9_reasonOfLine 403 = .ok (.iconst 0, 1) := by decide +kernel
theorem dX9_reasonOfLine_404 : decode cX9_reasonOfLine 404 = .ok (.iaload, 1) := by decide +kernel
theorem dX9_reasonOfLine_405 : decode cX9_reasonOfLine 405 = .ok (.iconst (-1), 1) := by decide +kernel
theorem dX9_reasonOfLine_406 : decode cX9_reasonOfLine 406 = .ok (.aload_n 1, 1) := by decide +kernel
theorem dX9_reasonOfLine_407 : decode cX9_reasonOfLine 407 = .ok (.iconst 1, 1) := by decide +kernel
theorem dX9_reasonOfLine_408 : decode cX9_reasonOfLine 408 = .ok (.iaload, 1) := by decide +kernel
theorem dX9_reasonOfLine_409 : decode cX9_reasonOfLine 409 = .ok (.invokevirtual 124, 3) := by decide +kernel
theorem dX9_reasonOfLine_412 : decode cX9_reasonOfLine 412 = .ok (.ireturn, 1) := by decide +kernel
theorem dX9_reasonOfLine_413 : decode cX9_reasonOfLine 413 = .ok (.aload_n 0, 1) := by decide +kernel
theorem dX9_reasonOfLine_414 : decode cX9_reasonOfLine 414 = .ok (.getfield 12, 3) := by decide +kernel
theorem dX9_reasonOfLine_417 : decode cX9_reasonOfLine 417 = .ok (.aload_n 1, 1) := by decide +kernel
theorem dX9_reasonOfLine_418 : decode cX9_reasonOfLine 418 = .ok (.iconst 0, 1) := by decide +kernel
theorem dX9_reasonOfLine_419 : decode cX9_reasonOfLine 419 = .ok (.iaload, 1) := by decide +kernel
theorem dX9_reasonOfLine_420 : decode cX9_reasonOfLine 420 = .ok (.aload_n 1, 1) := by decide +kernel
theorem dX9_reasonOfLine_421 : decode cX9_reasonOfLine 421 = .ok (.iconst 1, 1) := by decide +kernel
theorem dX9_reasonOfLine_422 : decode cX9_reasonOfLine 422 = .ok (.iaload, 1) := by decide +kernel
theorem dX9_reasonOfLine_423 : decode cX9_reasonOfLine 423 = .ok (.aload_n 1, 1) := by decide +kernel
theorem dX9_reasonOfLine_424 : decode cX9_reasonOfLine 424 = .ok (.iconst 2, 1) := by decide +kernel
theorem dX9_reasonOfLine_425 : decode cX9_reasonOfLine 425 = .ok (.iaload, 1) := by decide +kernel
theorem dX9_reasonOfLine_426 : decode cX9_reasonOfLine 426 = .ok (.invokevirtual 124, 3) := by decide +kernel
theorem dX9_reasonOfLine_429 : decode cX9_reasonOfLine 429 = .ok (.ireturn, 1) := by decide +kernel
theorem dX9_reasonOfLine_430 : decode cX9_reasonOfLine 430 = .ok (.aload_n 0, 1) := by decide +kernel
theorem dX9_reasonOfLine_431 : decode cX9_reasonOfLine 431 = .ok (.getfield 12, 3) := by decide +kernel
theorem dX9_reasonOfLine_434 : decode cX9_reasonOfLine 434 = .ok (.aload_n 1, 1) := by decide +kernel
theorem dX9_reasonOfLine_435 : decode cX9_reasonOfLine 435 = .ok (.iconst 0, 1) := by decide +kernel
theorem dX9_reasonOfLine_436 : decode cX9_reasonOfLine 436 = .ok (.iaload, 1) := by decide +kernel
theorem dX9_reasonOfLine_437 : decode cX9_reasonOfLine 437 = .ok (.aload_n 1, 1) := by decide +kernel
theorem dX9_reasonOfLine_438 : decode cX9_reasonOfLine 438 = .ok (.iconst 1, 1) := by decide +kernel
theorem dX9_reasonOfLine_439 : decode cX9_reasonOfLine 439 = .ok (.iaload, 1) := by decide +kernel
theorem dX9_reasonOfLine_440 : decode cX9_reasonOfLine 440 = .ok (.invokevirtual 128, 3) := by decide +kernel
theorem dX9_reasonOfLine_443 : decode cX9_reasonOfLine 443 = .ok (.ireturn, 1) := by decide +kernel
theorem dX9_reasonOfLine_444 : decode cX9_reasonOfLine 444 = .ok (.aload_n 0, 1) := by decide +kernel
theorem dX9_reasonOfLine_445 : decode cX9_reasonOfLine 445 = .ok (.getfield 12, 3) := by decide +kernel
theorem dX9_reasonOfLine_448 : decode cX9_reasonOfLine 448 = .ok (.aload_n 1, 1) := by decide +kernel
theorem dX9_reasonOfLine_449 : decode cX9_reasonOfLine 449 = .ok (.iconst 0, 1) := by decide +kernel
theorem dX9_reasonOfLine_450 : decode cX9_reasonOfLine 450 = .ok (.iaload, 1) := by decide +kernel
theorem dX9_reasonOfLine_451 : decode cX9_reasonOfLine 451 = .ok (.aload_n 1, 1) := by decide +kernel
theorem dX9_reasonOfLine_452 : decode cX9_reasonOfLine 452 = .ok (.iconst 1, 1) := by decide +kernel
theorem dX9_reasonOfLine_453 : decode cX9_reasonOfLine 453 = .ok (.iaload, 1) := by decide +kernel
theorem dX9_reasonOfLine_454 : decode cX9_reasonOfLine 454 = .ok (.invokevirtual 131, 3) := by decide +kernel
theorem dX9_reasonOfLine_457 : decode cX9_reasonOfLine 457 = .ok (.ireturn, 1) := by decide +kernel
theorem dX9_reasonOfLine_458 : decode cX9_reasonOfLine 458 = .ok (.bipush 30, 2) := by decide +kernel
theorem dX9_reasonOfLine_460 : decode cX9_reasonOfLine 460 = .ok (.ireturn, 1) := by decide +kernel
