theorem dX10_done_0 : decode cX10_done 0 = .ok (.aload_n 0, 1) := by decide +kernel
theorem dX10_done_1 : decode cX10_done 1 = .ok (.getfield 27, 3) := by decide +kernel
theorem dX10_done_4 : decode cX10_done 4 = .ok (.iload_n 1, 1) := by decide +kernel
theorem dX10_done_5 : decode cX10_done 5 = .ok (.iconst 1, 1) := by decide +kernel
theorem dX10_done_6 : decode cX10_done 6 = .ok (.iadd, 1) := by decide +kernel
theorem dX10_done_7 : decode cX10_done 7 = .ok (.iaload, 1) := by decide +kernel
theorem dX10_done_8 : decode cX10_done 8 = .ok (.istore_n 2, 1) := by decide +kernel
theorem dX10_done_9 : decode cX10_done 9 = .ok (.aload_n 0, 1) := by decide +kernel
theorem dX10_done_10 : decode cX10_done 10 = .ok (.getfield 27, 3) := by decide +kernel
theorem dX10_done_13 : decode cX10_done 13 = .ok (.iload_n 1, 1) := by decide +kernel
theorem dX10_done_14 : decode cX10_done 14 = .ok (.iconst 2, 1) := by decide +kernel
theorem dX10_done_15 : decode cX10_done 15 = .ok (.iadd, 1) := by decide +kernel
theorem dX10_done_16 : decode cX10_done 16 = .ok (.iaload, 1) := by decide +kernel
theorem dX10_done_17 : decode cX10_done 17 = .ok (.istore_n 3, 1) := by decide +kernel
theorem dX10_done_18 : decode cX10_done 18 = .ok (.aload_n 0, 1) := by decide +kernel
theorem dX10_done_19 : decode cX10_done 19 = .ok (.getfield 27, 3) := by decide +kernel
theorem dX10_done_22 : decode cX10_done 22 = .ok (.iload_n 1, 1) := by decide +kernel
theorem dX10_done_23 : decode cX10_done 23 = .ok (.iconst 3, 1) := by decide +kernel
theorem dX10_done_24 : decode cX10_done 24 = .ok (.iadd, 1) := by decide +kernel
theorem dX10_done_25 : decode cX10_done 25 = .ok (.iaload, 1) := by decide +kernel
theorem dX10_done_26 : decode cX10_done 26 = .ok (.istore 4, 2) := by decide +kernel
theorem dX10_done_28 : decode cX10_done 28 = .ok (.aload_n 0, 1) := by decide +kernel
theorem dX10_done_29 : decode cX10_done 29 = .ok (.getfield 27, 3) := by decide +kernel
theorem dX10_done_32 : decode cX10_done 32 = .ok (.iload_n 1, 1) := by decide +kernel
theorem dX10_done_33 : decode cX10_done 33 = .ok (.bipush 6, 2) := by decide +kernel
theorem dX10_done_35 : decode cX10_done 35 = .ok (.iadd, 1) := by decide +kernel
theorem dX10_done_36 : decode cX10_done 36 = .ok (.iaload, 1) := by decide +kernel
theorem dX10_done_37 : decode cX10_done 37 = .ok (.iconst 1, 1) := by decide +kernel
theorem dX10_done_38 : decode cX10_done 38 = .ok (.if_icmp .ne 7, 3) := by decide +kernel
theorem dX10_done_41 : decode cX10_done 41 = .ok (.iconst 1, 1) := by decide +kernel
theorem dX10_done_42 : decode cX10_done 42 = .ok (.goto 4, 3) := by decide +kernel
theorem dX10_done_45 : decode cX10_done 45 = .ok (.iconst 0, 1) := by decide +kernel
theorem dX10_done_46 : decode cX10_done 46 = .ok (.istore 5, 2) := by decide +kernel
theorem dX10_done_48 : decode cX10_done 48 = .ok (.aload_n 0, 1) := by decide +kernel
theorem dX10_done_49 : decode cX10_done 49 = .ok (.getfield 27, 3) := by decide +kernel
theorem dX10_done_52 : decode cX10_done 52 = .ok (.iload_n 1, 1) := by decide +kernel
theorem dX10_done_53 : decode cX10_done 53 = .ok (.iaload, 1) := by decide +kernel
theorem dX10_done_54 : decode cX10_done 54 = .ok (.tableswitch 369 0 17 #[86, 92, 99, 105, 131, 157, 163, 193, 223, 253, 283, 302, 309, 317, 325, 345, 353, 362], 86) := by decide +kernel
theorem dX10_done_140 : decode cX10_done 140 = .ok (.aload_n 0, 1) := by decide +kernel
theorem dX10_done_141 : decode cX10_done 141 = .ok (.iload_n 2, 1) := by decide +kernel
theorem dX10_done_142 : decode cX10_done 142 = .ok (.invokevirtual 94, 3) := by decide +kernel
theorem dX10_done_145 : decode cX10_done 145 = .ok (.ireturn, 1) := by decide +kernel
theorem dX10_done_146 : decode cX10_done 146 = .ok (.aload_n 0, 1) := by decide +kernel
theorem dX10_done_147 : decode cX10_done 147 = .ok (.iload_n 2, 1) := by decide +kernel
theorem dX10_done_148 : decode cX10_done 148 = .ok (.iload_n 3, 1) := by decide +kernel
theorem dX10_done_149 : decode cX10_done 149 = .ok (.invokevirtual 103, 3) := by decide +kernel
theorem dX10_done_152 : decode cX10_done 152 = .ok (.ireturn, 1) := by decide +kernel
theorem dX10_done_153 : decode cX10_done 153 = .ok (.aload_n 0, 1) := by decide +kernel
theorem dX10_done_154 : decode cX10_done 154 = .ok (.iload_n 2, 1) := by decide +kernel
theorem dX10_done_155 : decode cX10_done 155 = .ok (.invokevirtual 106, 3) := by decide +kernel
theorem dX10_done_158 : decode cX10_done 158 = .ok (.ireturn, 1) := by decide +kernel
theorem dX10_done_159 : decode cX10_done 159 = .ok (.aload_n 0, 1) := by decide +kernel
theorem dX10_done_160 : decode cX10_done 160 = .ok (.iload_n 2, 1) := by decide +kernel
theorem dX10_done_161 : decode cX10_done 161 = .ok (.iload_n 3, 1) := by decide +kernel
theorem dX10_done_162 : decode cX10_done 162 = .ok (.iload 4, 2) := by decide +kernel
theorem dX10_done_164 : decode cX10_done 164 = .ok (.iconst 0, 1) := by decide +kernel
theorem dX10_done_165 : decode cX10_done 165 = .ok (.aload_n 0, 1) := by decide +kernel
theorem dX10_done_166 : decode cX10_done 166 = .ok (.getfield 27, 3) := by decide +kernel
theorem dX10_done_169 : decode cX10_done 169 = .ok (.iload_n 1, 1) := by decide +kernel
theorem dX10_done_170 : decode cX10_done 170 = .ok (.iconst 4, 1) := by decide +kernel
theorem dX10_done_171 : decode cX10_done 171 = .ok (.iadd, 1) := by decide +kernel
theorem dX10_done_172 : decode cX10_done 172 = .ok (.iaload, 1) := by decide +kernel
theorem dX10_done_173 : decode cX10_done 173 = .ok (.aload_n 0, 1) := by decide +kernel
theorem dX10_done_174 : decode cX10_done 174 = .ok (.getfield 27, 3) := by decide +kernel
theorem dX10_done_177 : decode cX10_done 177 = .ok (.iload_n 1, 1) := by decide +kernel
theorem dX10_done_178 : decode cX10_done 178 = .ok (.iconst 5, 1) := by decide +kernel
theorem dX10_done_179 : decode cX10_done 179 = .ok (.iadd, 1) := by decide +kernel
theorem dX10_done_180 : decode cX10_done 180 = .ok (.iaload, 1) := by decide +kernel
theorem dX10_done_181 : decode cX10_done 181 = .ok (.invokevirtual 112, 3) := by decide +kernel
theorem dX10_done_184 : decode cX10_done 184 = .ok (.ireturn, 1) := by decide +kernel
theorem dX10_done_185 : decode cX10_done 185 = .ok (.aload_n 0, 1) := by decide +kernel
theorem dX10_done_186 : decode cX10_done 186 = .ok (.iload_n 2, 1) := by decide +kernel
theorem dX10_done_187 : decode cX10_done 187 = .ok (.iload_n 3, 1) := by decide +kernel
theorem dX10_done_188 : decode cX10_done 188 = .ok (.iload 4, 2) := by decide +kernel
theorem dX10_done_190 : decode cX10_done 190 = .ok (.iconst 1, 1) := by decide +kernel
theorem dX10_done_191 : decode cX10_done 191 = .ok (.aload_n 0, 1) := by decide +kernel
theorem dX10_done_192 : decode cX10_done 192 = .ok (.getfield 27, 3) := by decide +kernel
theorem dX10_done_195 : decode cX10_done 195 = .ok (.iload_n 1, 1) := by decide +kernel
theorem dX10_done_196 : decode cX10_done 196 = .ok (.iconst 4, 1) := by decide +kernel
theorem dX10_done_197 : decode cX10_done 197 = .ok (.iadd, 1) := by decide +kernel
theorem dX10_done_198 : decode cX10_done 198 = .ok (.iaload, 1) := by decide +kernel
theorem dX10_done_199 : decode cX10_done 199 = .ok (.aload_n 0, 1) := by decide +kernel
theorem dX10_done_200 : decode cX10_done 200 = .ok (.getfield 27, 3) := by decide +kernel
theorem dX10_done_203 : decode cX10_done 203 = .ok (.iload_n 1, 1) := by decide +kernel
theorem dX10_done_204 : decode cX10_done 204 = .ok (.iconst 5, 1) := by decide +kernel
theorem dX10_done_205 : decode cX10_done 205 = .ok (.iadd, 1) := by decide +kernel
theorem dX10_done_206 : decode cX10_done 206 = .ok (.iaload, 1) := by decide +kernel
theorem dX10_done_207 : decode cX10_done 207 = .ok (.invokevirtual 112, 3) := by decide +kernel
theorem dX10_done_210 : decode cX10_done 210 = .ok (.ireturn, 1) := by decide +kernel
theorem dX10_done_211 : decode cX10_done 211 = .ok (.aload_n 0, 1) := by decide +kernel
theorem dX10_done_212 : decode cX10_done 212 = .ok (.iload_n 2, 1) := by decide +kernel
theorem dX10_done_213 : decode cX10_done 213 = .ok (.invokevirtual 119, 3) := by decide +kernel
theorem dX10_done_216 : decode cX10_done 216 = .ok (.ireturn, 1) := by decide +kernel
theorem dX10_done_217 : decode cX10_done 217 = .ok (.aload_n 0, 1) := by decide +kernel
theorem dX10_done_218 : decode cX10_done 218 = .ok (.iload_n 2, 1) := by decide +kernel
theorem dX10_done_219 : decode cX10_done 219 = .ok (.iconst 0, 1) := by decide +kernel
theorem dX10_done_220 : decode cX10_done 220 = .ok (.aload_n 0, 1) := by decide +kernel
theorem dX10_done_221 : decode cX10_done 221 = .ok (.getfield 27, 3) := by decide +kernel
theorem dX10_done_224 : decode cX10_done 224 = .ok (.iload_n 1, 1) := by decide +kernel
theorem dX10_done_225 : decode cX10_done 225 = .ok (.bipush 7, 2) := by decide +kernel
theorem dX10_done_227 : decode cX10_done 227 = .ok (.iadd, 1) := by decide +kernel
theorem dX10_done_228 : decode cX10_done 228 = .ok (.iaload, 1) := by decide +kernel
theorem dX10_done_229 : decode cX10_done 229 = .ok (.iconst 1, 1) := by decide +kernel
theorem dX10_done_230 : decode cX10_done 230 = .ok (.if_icmp .ne 7, 3) := by decide +kernel
theorem dX10_done_233 : decode cX10_done 233 = .ok (.iconst 1, 1) := by decide +kernel
theorem dX10_done_234 : decode cX10_done 234 = .ok (.goto 4, 3) := by decide +kernel
theorem dX10_done_237 : decode cX10_done 237 = .ok (.iconst 0, 1) := by decide +kernel
theorem dX10_done_238 : decode cX10_done 238 = .ok (.iload_n 3, 1) := by decide +kernel
theorem dX10_done_239 : decode cX10_done 239 = .ok (.iload 4, 2) := by decide +kernel
theorem dX10_done_241 : decode cX10_done 241 = .ok (.iload 5, 2) := by decide +kernel
theorem dX10_done_243 : decode cX10_done 243 = .ok (.invokevirtual 129, 3) := by decide +kernel
theorem dX10_done_246 : decode cX10_done 246 = .ok (.ireturn, 1) := by decide +kernel
theorem dX10_done_247 : decode cX10_done 247 = .ok (.aload_n 0, 1) := by decide +kernel
theorem dX10_done_248 : decode cX10_done 248 = .ok (.iload_n 2, 1) := by decide +kernel
theorem dX10_done_249 : decode cX10_done 249 = .ok (.iconst 1, 1) := by decide +kernel
theorem dX10_done_250 : decode cX10_done 250 = .ok (.aload_n 0, 1) := by decide +kernel
theorem dX10_done_251 : decode cX10_done 251 = .ok (.getfield 27, 3) := by decide +kernel
theorem dX10_done_254 : decode cX10_done 254 = .ok (.iload_n 1, 1) := by decide +kernel
theorem dX10_done_255 : decode cX10_done 255 = .ok (.bipush 7, 2) := by decide +kernel
theorem dX10_done_257 : decode cX10_done 257 = .ok (.iadd, 1) := by decide +kernel
theorem dX10_done_258 : decode cX10_done 258 = .ok (.iaload, 1) := by decide +kernel
theorem dX10_done_259 : decode cX10_done 259 = .ok (.iconst 1, 1) := by decide +kernel
theorem dX10_done_260 : decode cX10_done 260 = .ok (.if_icmp .ne 7, 3) := by decide +kernel
theorem dX10_done_263 : decode cX10_done 263 = .ok (.iconst 1, 1) := by decide +kernel
theorem dX10_done_264 : decode cX10_done 264 = .ok (.goto 4, 3) := by decide +kernel
theorem dX10_done_267 : decode cX10_done 267 = .ok (.iconst 0, 1) := by decide +kernel
theorem dX10_done_268 : decode cX10_done 268 = .ok (.iload_n 3, 1) := by decide +kernel
theorem dX10_done_269 : decode cX10_done 269 = .ok (.iload 4, 2) := by decide +kernel
theorem dX10_done_271 : decode cX10_done 271 = .ok (.iload 5, 2) := by decide +kernel
theorem dX10_done_273 : decode cX10_done 273 = .ok (.invokevirtual 129, 3) := by decide +kernel
theorem dX10_done_276 : decode cX10_done 276 = .ok (.ireturn, 1) := by decide +kernel
theorem dX10_done_277 : decode cX10_done 277 = .ok (.aload_n 0, 1) := by decide +kernel
theorem dX10_done_278 : decode cX10_done 278 = .ok (.iload_n 2, 1) := by decide +kernel
theorem dX10_done_279 : decode cX10_done 279 = .ok (.iconst 2, 1) := by decide +kernel
theorem dX10_done_280 : decode cX10_done 280 = .ok (.aload_n 0, 1) := by decide +kernel
theorem dX10_done_281 : decode cX10_done 281 = .ok (.getfield 27, 3) := by decide +kernel
theorem dX10_done_284 : decode cX10_done 284 = .ok (.iload_n 1, 1) := by decide +kernel
theorem dX10_done_285 : decode cX10_done 285 = .ok (.bipush 7, 2) := by decide +kernel
theorem dX10_done_287 : decode cX10_done 287 = .ok (.iadd, 1) := by decide +kernel
theorem dX10_done_288 : decode cX10_done 288 = .ok (.iaload, 1) := by decide +kernel
theorem dX10_done_289 : decode cX10_done 289 = .ok (.iconst 1, 1) := by decide +kernel
theorem dX10_done_290 : decode cX10_done 290 = .ok (.if_icmp .ne 7, 3) := by decide +kernel
theorem dX10_done_293 : decode cX10_done 293 = .ok (.iconst 1, 1) := by decide +kernel
theorem dX10_done_294 : decode cX10_done 294 = .ok (.goto 4, 3) := by decide +kernel
theorem dX10_done_297 : decode cX10_done 297 = .ok (.iconst 0, 1) := by decide +kernel
theorem dX10_done_298 : decode cX10_done 298 = .ok (.iload_n 3, 1) := by decide +kernel
theorem dX10_done_299 : decode cX10_done 299 = .ok (.iload 4, 2) := by decide +kernel
theorem dX10_done_301 : decode cX10_done 301 = .ok (.iload 5, 2) := by decide +kernel
theorem dX10_done_303 : decode cX10_done 303 = .ok (.invokevirtual 129, 3) := by decide +kernel
theorem dX10_done_306 : decode cX10_done 306 = .ok (.ireturn, 1) := by decide +kernel
theorem dX10_done_307 : decode cX10_done 307 = .ok (.aload_n 0, 1) := by decide +kernel
theorem dX10_done_308 : decode cX10_done 308 = .ok (.iload_n 2, 1) := by decide +kernel
theorem dX10_done_309 : decode cX10_done 309 = .ok (.iconst 3, 1) := by decide +kernel
theorem dX10_done_310 : decode cX10_done 310 = .ok (.aload_n 0, 1) := by decide +kernel
theorem dX10_done_311 : decode cX10_done 311 = .ok (.getfield 27, 3) := by decide +kernel
theorem dX10_done_314 : decode cX10_done 314 = .ok (.iload_n 1, 1) := by decide +kernel
theorem dX10_done_315 : decode cX10_done 315 = .ok (.bipush 7, 2) := by decide +kernel
theorem dX10_done_317 : decode cX10_done 317 = .ok (.iadd, 1) := by decide +kernel
theorem dX10_done_318 : decode cX10_done 318 = .ok (.iaload, 1) := by decide +kernel
theorem dX10_done_319 : decode cX10_done 319 = .ok (.iconst 1, 1) := by decide +kernel
theorem dX10_done_320 : decode cX10_done 320 = .ok (.if_icmp .ne 7, 3) := by decide +kernel
theorem dX10_done_323 : decode cX10_done 323 = .ok (.iconst 1, 1) := by decide +kernel
theorem dX10_done_324 : decode cX10_done 324 = .ok (.goto 4, 3) := by decide +kernel
theorem dX10_done_327 : decode cX10_done 327 = .ok (.iconst 0, 1) := by decide +kernel
theorem dX10_done_328 : decode cX10_done 328 = .ok (.iload_n 3, 1) := by decide +kernel
theorem dX10_done_329 : decode cX10_done 329 = .ok (.iload 4, 2) := by decide +kernel
theorem dX10_done_331 : decode cX10_done 331 = .ok (.iload 5, 2) := by decide +kernel
theorem dX10_done_333 : decode cX10_done 333 = .ok (.invokevirtual 129, 3) := by decide +kernel
theorem dX10_done_336 : decode cX10_done 336 = .ok (.ireturn, 1) := by decide +kernel
theorem dX10_done_337 : decode cX10_done 337 = .ok (.aload_n 0, 1) := by decide +kernel
theorem dX10_done_338 : decode cX10_done 338 = .ok (.iload_n 2, 1) := by decide +kernel
theorem dX10_done_339 : decode cX10_done 339 = .ok (.iload_n 3, 1) := by decide +kernel
theorem dX10_done_340 : decode cX10_done 340 = .ok (.iload 4, 2) := by decide +kernel
theorem dX10_done_342 : decode cX10_done 342 = .ok (.aload_n 0, 1) := by decide +kernel
theorem dX10_done_343 : decode cX10_done 343 = .ok (.getfield 27, 3) := by decide +kernel
theorem dX10_done_346 : decode cX10_done 346 = .ok (.iload_n 1, 1) := by decide +kernel
theorem dX10_done_347 : decode cX10_done 347 = .ok (.iconst 4, 1) := by decide +kernel
theorem dX10_done_348 : decode cX10_done 348 = .ok (.iadd, 1) := by decide +kernel
theorem dX10_done_349 : decode cX10_done 349 = .ok (.iaload, 1) := by decide +kernel
theorem dX10_done_350 : decode cX10_done 350 = .ok (.iload 5, 2) := by decide +kernel
theorem dX10_done_352 : decode cX10_done 352 = .ok (.invokevirtual 133, 3) := by decide +kernel
theorem dX10_done_355 : decode cX10_done 355 = .ok (.ireturn, 1) := by decide +kernel
theorem dX10_done_356 : decode cX10_done 356 = .ok (.aload_n 0, 1) := by decide +kernel
theorem dX10_done_357 : decode cX10_done 357 = .ok (.iload_n 2, 1) := by decide +kernel
theorem dX10_done_358 : decode cX10_done 358 = .ok (.iload_n 3, 1) := by decide +kernel
theorem dX10_done_359 : decode cX10_done 359 = .ok (.invokevirtual 137, 3) := by decide +kernel
theorem dX10_done_362 : decode cX10_done 362 = .ok (.ireturn, 1) := by decide +kernel
theorem dX10_done_363 : decode cX10_done 363 = .ok (.aload_n 0, 1) := by decide +kernel
theorem dX10_done_364 : decode cX10_done 364 = .ok (.iload_n 2, 1) := by decide +kernel
theorem dX10_done_365 : decode cX10_done 365 = .ok (.iload_n 3, 1) := by decide +kernel
theorem dX10_done_366 : decode cX10_done 366 = .ok (.iconst 1, 1) := by decide +kernel
theorem dX10_done_367 : decode cX10_done 367 = .ok (.invokevirtual 146, 3) := by decide +kernel
theorem dX10_done_370 : decode cX10_done 370 = .ok (.ireturn, 1) := by decide +kernel
theorem dX10_done_371 : decode cX10_done 371 = .ok (.aload_n 0, 1) := by decide +kernel
theorem dX10_done_372 : decode cX10_done 372 = .ok (.iload_n 2, 1) := by decide +kernel
theorem dX10_done_373 : decode cX10_done 373 = .ok (.iload_n 3, 1) := by decide +kernel
theorem dX10_done_374 : decode cX10_done 374 = .ok (.iconst 0, 1) := by decide +kernel
theorem dX10_done_375 : decode cX10_done 375 = .ok (.invokevirtual 146, 3) := by decide +kernel
theorem dX10_done_378 : decode cX10_done 378 = .ok (.ireturn, 1) := by decide +kernel
theorem dX10_done_379 : decode cX10_done 379 = .ok (.aload_n 0, 1) := by decide +kernel
theorem dX10_done_380 : decode cX10_done 380 = .ok (.iload_n 2, 1) := by decide +kernel
theorem dX10_done_381 : decode cX10_done 381 = .ok (.invokevirtual 153, 3) := by decide +kernel
theorem dX10_done_384 : decode cX10_done 384 = .ok (.istore 6, 2) := by decide +kernel
theorem dX10_done_386 : decode cX10_done 386 = .ok (.iload 6, 2) := by decide +kernel
theorem dX10_done_388 : decode cX10_done 388 = .ok (.iconst 1, 1) := by decide +kernel
theorem dX10_done_389 : decode cX10_done 389 = .ok (.if_icmp .le 8, 3) := by decide +kernel
theorem dX10_done_392 : decode cX10_done 392 = .ok (.iload 6, 2) := by decide +kernel
theorem dX10_done_394 : decode cX10_done 394 = .ok (.goto 4, 3) := by decide +kernel
theorem dX10_done_397 : decode cX10_done 397 = .ok (.iconst 0, 1) := by decide +kernel
theorem dX10_done_398 : decode cX10_done 398 = .ok (.ireturn, 1) := by decide +kernel
theorem dX10_done_399 : decode cX10_done 399 = .ok (.aload_n 0, 1) := by decide +kernel
theorem dX10_done_400 : decode cX10_done 400 = .ok (.iload_n 2, 1) := by decide +kernel
theorem dX10_done_401 : decode cX10_done 401 = .ok (.iconst (-1), 1) := by decide +kernel
theorem dX10_done_402 : decode cX10_done 402 = .ok (.iload_n 3, 1) := by decide +kernel
theorem dX10_done_403 : decode cX10_done 403 = .ok (.invokevirtual 156, 3) := by decide +kernel
theorem dX10_done_406 : decode cX10_done 406 = .ok (.ireturn, 1) := by decide +kernel
theorem dX10_done_407 : decode cX10_done 407 = .ok (.aload_n 0, 1) := by decide +kernel
theorem dX10_done_408 : decode cX10_done 408 = .ok (.iload_n 2, 1) := by decide +kernel
theorem dX10_done_409 : decode cX10_done 409 = .ok (.iload_n 3, 1) := by decide +kernel
theorem dX10_done_410 : decode cX10_done 410 = .ok (.iload 4, 2) := by decide +kernel
theorem dX10_done_412 : decode cX10_done 412 = .ok (.invokevirtual 156, 3) := by decide +kernel
theorem dX10_done_415 : decode cX10_done 415 = .ok (.ireturn, 1) := by decide +kernel
theorem dX10_done_416 : decode cX10_done 416 = .ok (.aload_n 0, 1) := by decide +kernel
theorem dX10_done_417 : decode cX10_done 417 = .ok (.iload_n 2, 1) := by decide +kernel
theorem dX10_done_418 : decode cX10_done 418 = .ok (.iload_n 3, 1) := by decide +kernel
theorem dX10_done_419 : decode cX10_done 419 = .ok (.invokevirtual 159, 3) := by decide +kernel
theorem dX10_done_422 : decode cX10_done 422 = .ok (.ireturn, 1) := by decide +kernel
theorem dX10_done_423 : decode cX10_done 423 = .ok (.aload_n 0, 1) := by decide +kernel
theorem dX10_done_424 : decode cX10_done 424 = .ok (.iload_n 2, 1) := by decide +kernel
theorem dX10_done_425 : decode cX10_done 425 = .ok (.iload_n 3, 1) := by decide +kernel
theorem dX10_done_426 : decode cX10_done 426 = .ok (.invokevirtual 162, 3) := by decide +kernel
theorem dX10_done_429 : decode cX10_done 429 = .ok (.ireturn, 1) := by decide +kernel
