/-! the law's instructions -/
theorem dL_law_0 : decode cL_law 0 = .ok (.new 53, 3) := by decide +kernel
theorem dL_law_3 : decode cL_law 3 = .ok (.dup, 1) := by decide +kernel
theorem dL_law_4 : decode cL_law 4 = .ok (.invokespecial 130, 3) := by decide +kernel
theorem dL_law_7 : decode cL_law 7 = .ok (.astore_n 1, 1) := by decide +kernel
theorem dL_law_8 : decode cL_law 8 = .ok (.bipush 6, 2) := by decide +kernel
theorem dL_law_10 : decode cL_law 10 = .ok (.newarray .long, 2) := by decide +kernel
theorem dL_law_12 : decode cL_law 12 = .ok (.astore_n 2, 1) := by decide +kernel
theorem dL_law_13 : decode cL_law 13 = .ok (.bipush 10, 2) := by decide +kernel
theorem dL_law_15 : decode cL_law 15 = .ok (.newarray .int, 2) := by decide +kernel
theorem dL_law_17 : decode cL_law 17 = .ok (.astore_n 3, 1) := by decide +kernel
theorem dL_law_18 : decode cL_law 18 = .ok (.bipush 7, 2) := by decide +kernel
theorem dL_law_20 : decode cL_law 20 = .ok (.newarray .int, 2) := by decide +kernel
theorem dL_law_22 : decode cL_law 22 = .ok (.astore 4, 2) := by decide +kernel
theorem dL_law_24 : decode cL_law 24 = .ok (.bipush 10, 2) := by decide +kernel
theorem dL_law_26 : decode cL_law 26 = .ok (.newarray .long, 2) := by decide +kernel
theorem dL_law_28 : decode cL_law 28 = .ok (.astore 5, 2) := by decide +kernel
theorem dL_law_30 : decode cL_law 30 = .ok (.bipush 10, 2) := by decide +kernel
theorem dL_law_32 : decode cL_law 32 = .ok (.newarray .int, 2) := by decide +kernel
theorem dL_law_34 : decode cL_law 34 = .ok (.astore 6, 2) := by decide +kernel
theorem dL_law_36 : decode cL_law 36 = .ok (.iconst 0, 1) := by decide +kernel
theorem dL_law_37 : decode cL_law 37 = .ok (.istore 7, 2) := by decide +kernel
theorem dL_law_39 : decode cL_law 39 = .ok (.iconst 0, 1) := by decide +kernel
theorem dL_law_40 : decode cL_law 40 = .ok (.istore 8, 2) := by decide +kernel
theorem dL_law_42 : decode cL_law 42 = .ok (.iload 8, 2) := by decide +kernel
theorem dL_law_44 : decode cL_law 44 = .ok (.iconst 5, 1) := by decide +kernel
theorem dL_law_45 : decode cL_law 45 = .ok (.if_icmp .ge 27, 3) := by decide +kernel
theorem dL_law_48 : decode cL_law 48 = .ok (.aload_n 3, 1) := by decide +kernel
theorem dL_law_49 : decode cL_law 49 = .ok (.iload 8, 2) := by decide +kernel
theorem dL_law_51 : decode cL_law 51 = .ok (.bipush 12, 2) := by decide +kernel
theorem dL_law_53 : decode cL_law 53 = .ok (.iastore, 1) := by decide +kernel
theorem dL_law_54 : decode cL_law 54 = .ok (.aload_n 3, 1) := by decide +kernel
theorem dL_law_55 : decode cL_law 55 = .ok (.iconst 5, 1) := by decide +kernel
theorem dL_law_56 : decode cL_law 56 = .ok (.iload 8, 2) := by decide +kernel
theorem dL_law_58 : decode cL_law 58 = .ok (.iadd, 1) := by decide +kernel
theorem dL_law_59 : decode cL_law 59 = .ok (.iconst 2, 1) := by decide +kernel
theorem dL_law_60 : decode cL_law 60 = .ok (.iload 8, 2) := by decide +kernel
theorem dL_law_62 : decode cL_law 62 = .ok (.imul, 1) := by decide +kernel
theorem dL_law_63 : decode cL_law 63 = .ok (.iconst 2, 1) := by decide +kernel
theorem dL_law_64 : decode cL_law 64 = .ok (.iadd, 1) := by decide +kernel
theorem dL_law_65 : decode cL_law 65 = .ok (.iastore, 1) := by decide +kernel
theorem dL_law_66 : decode cL_law 66 = .ok (.iinc 8 1, 3) := by decide +kernel
theorem dL_law_69 : decode cL_law 69 = .ok (.goto (-27), 3) := by decide +kernel
theorem dL_law_72 : decode cL_law 72 = .ok (.iconst 0, 1) := by decide +kernel
theorem dL_law_73 : decode cL_law 73 = .ok (.istore 8, 2) := by decide +kernel
theorem dL_law_75 : decode cL_law 75 = .ok (.iload 8, 2) := by decide +kernel
theorem dL_law_77 : decode cL_law 77 = .ok (.bipush 50, 2) := by decide +kernel
theorem dL_law_79 : decode cL_law 79 = .ok (.if_icmp .ge 1785, 3) := by decide +kernel
theorem dL_law_82 : decode cL_law 82 = .ok (.aload_n 0, 1) := by decide +kernel
theorem dL_law_83 : decode cL_law 83 = .ok (.iload 8, 2) := by decide +kernel
theorem dL_law_85 : decode cL_law 85 = .ok (.invokestatic 131, 3) := by decide +kernel
theorem dL_law_88 : decode cL_law 88 = .ok (.istore 9, 2) := by decide +kernel
theorem dL_law_90 : decode cL_law 90 = .ok (.iload 9, 2) := by decide +kernel
theorem dL_law_92 : decode cL_law 92 = .ok (.bipush 22, 2) := by decide +kernel
theorem dL_law_94 : decode cL_law 94 = .ok (.invokestatic 74, 3) := by decide +kernel
theorem dL_law_97 : decode cL_law 97 = .ok (.istore 10, 2) := by decide +kernel
theorem dL_law_99 : decode cL_law 99 = .ok (.iload 9, 2) := by decide +kernel
theorem dL_law_101 : decode cL_law 101 = .ok (.iconst 5, 1) := by decide +kernel
theorem dL_law_102 : decode cL_law 102 = .ok (.ishr, 1) := by decide +kernel
theorem dL_law_103 : decode cL_law 103 = .ok (.iload 9, 2) := by decide +kernel
theorem dL_law_105 : decode cL_law 105 = .ok (.bipush 27, 2) := by decide +kernel
theorem dL_law_107 : decode cL_law 107 = .ok (.ishr, 1) := by decide +kernel
theorem dL_law_108 : decode cL_law 108 = .ok (.iconst 3, 1) := by decide +kernel
theorem dL_law_109 : decode cL_law 109 = .ok (.invokestatic 74, 3) := by decide +kernel
theorem dL_law_112 : decode cL_law 112 = .ok (.ifCond .ne 8, 3) := by decide +kernel
theorem dL_law_115 : decode cL_law 115 = .ok (.bipush 6, 2) := by decide +kernel
theorem dL_law_117 : decode cL_law 117 = .ok (.goto 4, 3) := by decide +kernel
theorem dL_law_120 : decode cL_law 120 = .ok (.iconst 3, 1) := by decide +kernel
theorem dL_law_121 : decode cL_law 121 = .ok (.invokestatic 74, 3) := by decide +kernel
theorem dL_law_124 : decode cL_law 124 = .ok (.istore 11, 2) := by decide +kernel
theorem dL_law_126 : decode cL_law 126 = .ok (.iconst 1, 1) := by decide +kernel
theorem dL_law_127 : decode cL_law 127 = .ok (.iload 9, 2) := by decide +kernel
theorem dL_law_129 : decode cL_law 129 = .ok (.bipush 8, 2) := by decide +kernel
theorem dL_law_131 : decode cL_law 131 = .ok (.ishr, 1) := by decide +kernel
theorem dL_law_132 : decode cL_law 132 = .ok (.iconst 5, 1) := by decide +kernel
theorem dL_law_133 : decode cL_law 133 = .ok (.invokestatic 74, 3) := by decide +kernel
theorem dL_law_136 : decode cL_law 136 = .ok (.iadd, 1) := by decide +kernel
theorem dL_law_137 : decode cL_law 137 = .ok (.istore 12, 2) := by decide +kernel
theorem dL_law_139 : decode cL_law 139 = .ok (.iconst (-1), 1) := by decide +kernel
theorem dL_law_140 : decode cL_law 140 = .ok (.istore 13, 2) := by decide +kernel
theorem dL_law_142 : decode cL_law 142 = .ok (.iconst 1, 1) := by decide +kernel
theorem dL_law_143 : decode cL_law 143 = .ok (.istore 14, 2) := by decide +kernel
theorem dL_law_145 : decode cL_law 145 = .ok (.iconst (-1), 1) := by decide +kernel
theorem dL_law_146 : decode cL_law 146 = .ok (.istore 15, 2) := by decide +kernel
theorem dL_law_148 : decode cL_law 148 = .ok (.iconst 5, 1) := by decide +kernel
theorem dL_law_149 : decode cL_law 149 = .ok (.istore 16, 2) := by decide +kernel
theorem dL_law_151 : decode cL_law 151 = .ok (.iload 16, 2) := by decide +kernel
theorem dL_law_153 : decode cL_law 153 = .ok (.ifCond .lt 27, 3) := by decide +kernel
theorem dL_law_156 : decode cL_law 156 = .ok (.aload_n 2, 1) := by decide +kernel
theorem dL_law_157 : decode cL_law 157 = .ok (.iload 16, 2) := by decide +kernel
theorem dL_law_159 : decode cL_law 159 = .ok (.laload, 1) := by decide +kernel
theorem dL_law_160 : decode cL_law 160 = .ok (.lconst 0, 1) := by decide +kernel
theorem dL_law_161 : decode cL_law 161 = .ok (.lcmp, 1) := by decide +kernel
theorem dL_law_162 : decode cL_law 162 = .ok (.ifCond .ne 8, 3) := by decide +kernel
theorem dL_law_165 : decode cL_law 165 = .ok (.iload 16, 2) := by decide +kernel
theorem dL_law_167 : decode cL_law 167 = .ok (.goto 5, 3) := by decide +kernel
theorem dL_law_170 : decode cL_law 170 = .ok (.iload 15, 2) := by decide +kernel
theorem dL_law_172 : decode cL_law 172 = .ok (.istore 15, 2) := by decide +kernel
theorem dL_law_174 : decode cL_law 174 = .ok (.iinc 16 (-1), 3) := by decide +kernel
theorem dL_law_177 : decode cL_law 177 = .ok (.goto (-26), 3) := by decide +kernel
theorem dL_law_180 : decode cL_law 180 = .ok (.iload 10, 2) := by decide +kernel
theorem dL_law_182 : decode cL_law 182 = .ok (.iconst 2, 1) := by decide +kernel
theorem dL_law_183 : decode cL_law 183 = .ok (.if_icmp .lt 8, 3) := by decide +kernel
theorem dL_law_186 : decode cL_law 186 = .ok (.iload 8, 2) := by decide +kernel
theorem dL_law_188 : decode cL_law 188 = .ok (.ifCond .ne 66, 3) := by decide +kernel
theorem dL_law_191 : decode cL_law 191 = .ok (.iconst 4, 1) := by decide +kernel
theorem dL_law_192 : decode cL_law 192 = .ok (.iconst 4, 1) := by decide +kernel
theorem dL_law_193 : decode cL_law 193 = .ok (.iload 9, 2) := by decide +kernel
theorem dL_law_195 : decode cL_law 195 = .ok (.bipush 11, 2) := by decide +kernel
theorem dL_law_197 : decode cL_law 197 = .ok (.ishr, 1) := by decide +kernel
theorem dL_law_198 : decode cL_law 198 = .ok (.iconst 4, 1) := by decide +kernel
theorem dL_law_199 : decode cL_law 199 = .ok (.invokestatic 74, 3) := by decide +kernel
theorem dL_law_202 : decode cL_law 202 = .ok (.imul, 1) := by decide +kernel
theorem dL_law_203 : decode cL_law 203 = .ok (.iadd, 1) := by decide +kernel
theorem dL_law_204 : decode cL_law 204 = .ok (.istore 16, 2) := by decide +kernel
theorem dL_law_206 : decode cL_law 206 = .ok (.aload_n 1, 1) := by decide +kernel
theorem dL_law_207 : decode cL_law 207 = .ok (.iload 16, 2) := by decide +kernel
theorem dL_law_209 : decode cL_law 209 = .ok (.invokevirtual 135, 3) := by decide +kernel
theorem dL_law_212 : decode cL_law 212 = .ok (.iload 15, 2) := by decide +kernel
theorem dL_law_214 : decode cL_law 214 = .ok (.ifCond .ge 8, 3) := by decide +kernel
theorem dL_law_217 : decode cL_law 217 = .ok (.bipush (-4), 2) := by decide +kernel
theorem dL_law_219 : decode cL_law 219 = .ok (.goto 5, 3) := by decide +kernel
theorem dL_law_222 : decode cL_law 222 = .ok (.iload 15, 2) := by decide +kernel
theorem dL_law_224 : decode cL_law 224 = .ok (.if_icmp .ne 7, 3) := by decide +kernel
theorem dL_law_227 : decode cL_law 227 = .ok (.iconst 1, 1) := by decide +kernel
theorem dL_law_228 : decode cL_law 228 = .ok (.goto 4, 3) := by decide +kernel
theorem dL_law_231 : decode cL_law 231 = .ok (.iconst 0, 1) := by decide +kernel
theorem dL_law_232 : decode cL_law 232 = .ok (.istore 14, 2) := by decide +kernel
theorem dL_law_234 : decode cL_law 234 = .ok (.iload 15, 2) := by decide +kernel
theorem dL_law_236 : decode cL_law 236 = .ok (.ifCond .lt 15, 3) := by decide +kernel
theorem dL_law_239 : decode cL_law 239 = .ok (.aload_n 2, 1) := by decide +kernel
theorem dL_law_240 : decode cL_law 240 = .ok (.iload 15, 2) := by decide +kernel
theorem dL_law_242 : decode cL_law 242 = .ok (.ldc2_w 10, 3) := by decide +kernel
theorem dL_law_245 : decode cL_law 245 = .ok (.iconst 3, 1) := by decide +kernel
theorem dL_law_246 : decode cL_law 246 = .ok (.iload 16, 2) := by decide +kernel
theorem dL_law_248 : decode cL_law 248 = .ok (.imul, 1) := by decide +kernel
theorem dL_law_249 : decode cL_law 249 = .ok (.lshl, 1) := by decide +kernel
theorem dL_law_250 : decode cL_law 250 = .ok (.lastore, 1) := by decide +kernel
theorem dL_law_251 : decode cL_law 251 = .ok (.goto 1483, 3) := by decide +kernel
theorem dL_law_254 : decode cL_law 254 = .ok (.iload 10, 2) := by decide +kernel
theorem dL_law_256 : decode cL_law 256 = .ok (.iconst 2, 1) := by decide +kernel
theorem dL_law_257 : decode cL_law 257 = .ok (.if_icmp .ne 67, 3) := by decide +kernel
theorem dL_law_260 : decode cL_law 260 = .ok (.iload 9, 2) := by decide +kernel
theorem dL_law_262 : decode cL_law 262 = .ok (.bipush 11, 2) := by decide +kernel
theorem dL_law_264 : decode cL_law 264 = .ok (.ishr, 1) := by decide +kernel
theorem dL_law_265 : decode cL_law 265 = .ok (.iload 9, 2) := by decide +kernel
theorem dL_law_267 : decode cL_law 267 = .ok (.bipush 26, 2) := by decide +kernel
theorem dL_law_269 : decode cL_law 269 = .ok (.ishr, 1) := by decide +kernel
theorem dL_law_270 : decode cL_law 270 = .ok (.iconst 2, 1) := by decide +kernel
theorem dL_law_271 : decode cL_law 271 = .ok (.invokestatic 74, 3) := by decide +kernel
theorem dL_law_274 : decode cL_law 274 = .ok (.ifCond .ne 8, 3) := by decide +kernel
theorem dL_law_277 : decode cL_law 277 = .ok (.bipush 100, 2) := by decide +kernel
theorem dL_law_279 : decode cL_law 279 = .ok (.goto 5, 3) := by decide +kernel
theorem dL_law_282 : decode cL_law 282 = .ok (.bipush 20, 2) := by decide +kernel
theorem dL_law_284 : decode cL_law 284 = .ok (.invokestatic 74, 3) := by decide +kernel
theorem dL_law_287 : decode cL_law 287 = .ok (.istore 16, 2) := by decide +kernel
theorem dL_law_289 : decode cL_law 289 = .ok (.aload_n 1, 1) := by decide +kernel
theorem dL_law_290 : decode cL_law 290 = .ok (.iload 12, 2) := by decide +kernel
theorem dL_law_292 : decode cL_law 292 = .ok (.iload 16, 2) := by decide +kernel
theorem dL_law_294 : decode cL_law 294 = .ok (.invokevirtual 138, 3) := by decide +kernel
theorem dL_law_297 : decode cL_law 297 = .ok (.aload_n 3, 1) := by decide +kernel
theorem dL_law_298 : decode cL_law 298 = .ok (.iload 12, 2) := by decide +kernel
theorem dL_law_300 : decode cL_law 300 = .ok (.iconst 1, 1) := by decide +kernel
theorem dL_law_301 : decode cL_law 301 = .ok (.isub, 1) := by decide +kernel
theorem dL_law_302 : decode cL_law 302 = .ok (.iaload, 1) := by decide +kernel
theorem dL_law_303 : decode cL_law 303 = .ok (.if_icmp .ne 7, 3) := by decide +kernel
theorem dL_law_306 : decode cL_law 306 = .ok (.iconst 1, 1) := by decide +kernel
theorem dL_law_307 : decode cL_law 307 = .ok (.goto 4, 3) := by decide +kernel
theorem dL_law_310 : decode cL_law 310 = .ok (.iconst 0, 1) := by decide +kernel
theorem dL_law_311 : decode cL_law 311 = .ok (.istore 14, 2) := by decide +kernel
theorem dL_law_313 : decode cL_law 313 = .ok (.aload_n 3, 1) := by decide +kernel
theorem dL_law_314 : decode cL_law 314 = .ok (.iload 12, 2) := by decide +kernel
theorem dL_law_316 : decode cL_law 316 = .ok (.iconst 1, 1) := by decide +kernel
theorem dL_law_317 : decode cL_law 317 = .ok (.isub, 1) := by decide +kernel
theorem dL_law_318 : decode cL_law 318 = .ok (.iload 16, 2) := by decide +kernel
theorem dL_law_320 : decode cL_law 320 = .ok (.iastore, 1) := by decide +kernel
theorem dL_law_321 : decode cL_law 321 = .ok (.goto 1413, 3) := by decide +kernel
theorem dL_law_324 : decode cL_law 324 = .ok (.iload 10, 2) := by decide +kernel
theorem dL_law_326 : decode cL_law 326 = .ok (.iconst 3, 1) := by decide +kernel
theorem dL_law_327 : decode cL_law 327 = .ok (.if_icmp .ne 52, 3) := by decide +kernel
theorem dL_law_330 : decode cL_law 330 = .ok (.iconst 1, 1) := by decide +kernel
theorem dL_law_331 : decode cL_law 331 = .ok (.iload 9, 2) := by decide +kernel
theorem dL_law_333 : decode cL_law 333 = .ok (.bipush 11, 2) := by decide +kernel
theorem dL_law_335 : decode cL_law 335 = .ok (.ishr, 1) := by decide +kernel
theorem dL_law_336 : decode cL_law 336 = .ok (.bipush 50, 2) := by decide +kernel
theorem dL_law_338 : decode cL_law 338 = .ok (.invokestatic 74, 3) := by decide +kernel
theorem dL_law_341 : decode cL_law 341 = .ok (.iadd, 1) := by decide +kernel
theorem dL_law_342 : decode cL_law 342 = .ok (.istore 16, 2) := by decide +kernel
theorem dL_law_344 : decode cL_law 344 = .ok (.aload_n 1, 1) := by decide +kernel
theorem dL_law_345 : decode cL_law 345 = .ok (.iload 12, 2) := by decide +kernel
theorem dL_law_347 : decode cL_law 347 = .ok (.iload 16, 2) := by decide +kernel
theorem dL_law_349 : decode cL_law 349 = .ok (.invokevirtual 141, 3) := by decide +kernel
theorem dL_law_352 : decode cL_law 352 = .ok (.aload_n 3, 1) := by decide +kernel
theorem dL_law_353 : decode cL_law 353 = .ok (.iconst 4, 1) := by decide +kernel
theorem dL_law_354 : decode cL_law 354 = .ok (.iload 12, 2) := by decide +kernel
theorem dL_law_356 : decode cL_law 356 = .ok (.iadd, 1) := by decide +kernel
theorem dL_law_357 : decode cL_law 357 = .ok (.iaload, 1) := by decide +kernel
theorem dL_law_358 : decode cL_law 358 = .ok (.if_icmp .ne 7, 3) := by decide +kernel
theorem dL_law_361 : decode cL_law 361 = .ok (.iconst 1, 1) := by decide +kernel
theorem dL_law_362 : decode cL_law 362 = .ok (.goto 4, 3) := by decide +kernel
theorem dL_law_365 : decode cL_law 365 = .ok (.iconst 0, 1) := by decide +kernel
theorem dL_law_366 : decode cL_law 366 = .ok (.istore 14, 2) := by decide +kernel
theorem dL_law_368 : decode cL_law 368 = .ok (.aload_n 3, 1) := by decide +kernel
theorem dL_law_369 : decode cL_law 369 = .ok (.iconst 4, 1) := by decide +kernel
theorem dL_law_370 : decode cL_law 370 = .ok (.iload 12, 2) := by decide +kernel
theorem dL_law_372 : decode cL_law 372 = .ok (.iadd, 1) := by decide +kernel
theorem dL_law_373 : decode cL_law 373 = .ok (.iload 16, 2) := by decide +kernel
theorem dL_law_375 : decode cL_law 375 = .ok (.iastore, 1) := by decide +kernel
theorem dL_law_376 : decode cL_law 376 = .ok (.goto 1358, 3) := by decide +kernel
theorem dL_law_379 : decode cL_law 379 = .ok (.iload 10, 2) := by decide +kernel
theorem dL_law_381 : decode cL_law 381 = .ok (.iconst 4, 1) := by decide +kernel
theorem dL_law_382 : decode cL_law 382 = .ok (.if_icmp .ne 147, 3) := by decide +kernel
theorem dL_law_385 : decode cL_law 385 = .ok (.iload 9, 2) := by decide +kernel
theorem dL_law_387 : decode cL_law 387 = .ok (.bipush 11, 2) := by decide +kernel
theorem dL_law_389 : decode cL_law 389 = .ok (.ishr, 1) := by decide +kernel
theorem dL_law_390 : decode cL_law 390 = .ok (.bipush 7, 2) := by decide +kernel
theorem dL_law_392 : decode cL_law 392 = .ok (.invokestatic 74, 3) := by decide +kernel
theorem dL_law_395 : decode cL_law 395 = .ok (.istore 16, 2) := by decide +kernel
theorem dL_law_397 : decode cL_law 397 = .ok (.iload 16, 2) := by decide +kernel
theorem dL_law_399 : decode cL_law 399 = .ok (.bipush 6, 2) := by decide +kernel
theorem dL_law_401 : decode cL_law 401 = .ok (.if_icmp .ne 8, 3) := by decide +kernel
theorem dL_law_404 : decode cL_law 404 = .ok (.bipush 9, 2) := by decide +kernel
theorem dL_law_406 : decode cL_law 406 = .ok (.goto 5, 3) := by decide +kernel
theorem dL_law_409 : decode cL_law 409 = .ok (.iload 16, 2) := by decide +kernel
theorem dL_law_411 : decode cL_law 411 = .ok (.istore 16, 2) := by decide +kernel
theorem dL_law_413 : decode cL_law 413 = .ok (.iload 9, 2) := by decide +kernel
theorem dL_law_415 : decode cL_law 415 = .ok (.bipush 14, 2) := by decide +kernel
theorem dL_law_417 : decode cL_law 417 = .ok (.ishr, 1) := by decide +kernel
theorem dL_law_418 : decode cL_law 418 = .ok (.aload 4, 2) := by decide +kernel
theorem dL_law_420 : decode cL_law 420 = .ok (.bipush 6, 2) := by decide +kernel
theorem dL_law_422 : decode cL_law 422 = .ok (.iaload, 1) := by decide +kernel
theorem dL_law_423 : decode cL_law 423 = .ok (.iconst 2, 1) := by decide +kernel
theorem dL_law_424 : decode cL_law 424 = .ok (.iadd, 1) := by decide +kernel
theorem dL_law_425 : decode cL_law 425 = .ok (.invokestatic 74, 3) := by decide +kernel
theorem dL_law_428 : decode cL_law 428 = .ok (.istore 17, 2) := by decide +kernel
theorem dL_law_430 : decode cL_law 430 = .ok (.iload 17, 2) := by decide +kernel
theorem dL_law_432 : decode cL_law 432 = .ok (.aload 4, 2) := by decide +kernel
theorem dL_law_434 : decode cL_law 434 = .ok (.bipush 6, 2) := by decide +kernel
theorem dL_law_436 : decode cL_law 436 = .ok (.iaload, 1) := by decide +kernel
theorem dL_law_437 : decode cL_law 437 = .ok (.if_icmp .gt 14, 3) := by decide +kernel
theorem dL_law_440 : decode cL_law 440 = .ok (.iload 17, 2) := by decide +kernel
theorem dL_law_442 : decode cL_law 442 = .ok (.bipush 6, 2) := by decide +kernel
theorem dL_law_444 : decode cL_law 444 = .ok (.if_icmp .ge 7, 3) := by decide +kernel
theorem dL_law_447 : decode cL_law 447 = .ok (.iconst 1, 1) := by decide +kernel
theorem dL_law_448 : decode cL_law 448 = .ok (.goto 4, 3) := by decide +kernel
theorem dL_law_451 : decode cL_law 451 = .ok (.iconst 0, 1) := by decide +kernel
theorem dL_law_452 : decode cL_law 452 = .ok (.istore 18, 2) := by decide +kernel
theorem dL_law_454 : decode cL_law 454 = .ok (.iload 18, 2) := by decide +kernel
theorem dL_law_456 : decode cL_law 456 = .ok (.ifCond .eq 37, 3) := by decide +kernel
