theorem dX9_init_0 : decode cX9_init 0 = .ok (.aload_n 0, 1) := by decide +kernel
theorem dX9_init_1 : decode cX9_init 1 = .ok (.invokespecial 1, 3) := by decide +kernel
theorem dX9_init_4 : decode cX9_init 4 = .ok (.aload_n 0, 1) := by decide +kernel
theorem dX9_init_5 : decode cX9_init 5 = .ok (.sipush 300, 3) := by decide +kernel
theorem dX9_init_8 : decode cX9_init 8 = .ok (.newarray .byte, 2) := by decide +kernel
theorem dX9_init_10 : decode cX9_init 10 = .ok (.putfield 7, 3) := by decide +kernel
theorem dX9_init_13 : decode cX9_init 13 = .ok (.aload_n 0, 1) := by decide +kernel
theorem dX9_init_14 : decode cX9_init 14 = .ok (.iconst (-1), 1) := by decide +kernel
theorem dX9_init_15 : decode cX9_init 15 = .ok (.putfield 13, 3) := by decide +kernel
theorem dX9_init_18 : decode cX9_init 18 = .ok (.aload_n 0, 1) := by decide +kernel
theorem dX9_init_19 : decode cX9_init 19 = .ok (.iconst (-1), 1) := by decide +kernel
theorem dX9_init_20 : decode cX9_init 20 = .ok (.putfield 17, 3) := by decide +kernel
theorem dX9_init_23 : decode cX9_init 23 = .ok (.aload_n 0, 1) := by decide +kernel
theorem dX9_init_24 : decode cX9_init 24 = .ok (.sipush 200, 3) := by decide +kernel
theorem dX9_init_27 : decode cX9_init 27 = .ok (.newarray .int, 2) := by decide +kernel
theorem dX9_init_29 : decode cX9_init 29 = .ok (.putfield 20, 3) := by decide +kernel
theorem dX9_init_32 : decode cX9_init 32 = .ok (.aload_n 0, 1) := by decide +kernel
theorem dX9_init_33 : decode cX9_init 33 = .ok (.sipush 200, 3) := by decide +kernel
theorem dX9_init_36 : decode cX9_init 36 = .ok (.newarray .int, 2) := by decide +kernel
theorem dX9_init_38 : decode cX9_init 38 = .ok (.putfield 24, 3) := by decide +kernel
theorem dX9_init_41 : decode cX9_init 41 = .ok (.aload_n 0, 1) := by decide +kernel
theorem dX9_init_42 : decode cX9_init 42 = .ok (.sipush 200, 3) := by decide +kernel
theorem dX9_init_45 : decode cX9_init 45 = .ok (.newarray .int, 2) := by decide +kernel
theorem dX9_init_47 : decode cX9_init 47 = .ok (.putfield 27, 3) := by decide +kernel
theorem dX9_init_50 : decode cX9_init 50 = .ok (.aload_n 0, 1) := by decide +kernel
theorem dX9_init_51 : decode cX9_init 51 = .ok (.sipush 200, 3) := by decide +kernel
theorem dX9_init_54 : decode cX9_init 54 = .ok (.newarray .int, 2) := by decide +kernel
theorem dX9_init_56 : decode cX9_init 56 = .ok (.putfield 30, 3) := by decide +kernel
theorem dX9_init_59 : decode cX9_init 59 = .ok (.aload_n 0, 1) := by decide +kernel
theorem dX9_init_60 : decode cX9_init 60 = .ok (.bipush 40, 2) := by decide +kernel
theorem dX9_init_62 : decode cX9_init 62 = .ok (.newarray .long, 2) := by decide +kernel
theorem dX9_init_64 : decode cX9_init 64 = .ok (.putfield 33, 3) := by decide +kernel
theorem dX9_init_67 : decode cX9_init 67 = .ok (.aload_n 0, 1) := by decide +kernel
theorem dX9_init_68 : decode cX9_init 68 = .ok (.bipush 40, 2) := by decide +kernel
theorem dX9_init_70 : decode cX9_init 70 = .ok (.newarray .int, 2) := by decide +kernel
theorem dX9_init_72 : decode cX9_init 72 = .ok (.putfield 37, 3) := by decide +kernel
theorem dX9_init_75 : decode cX9_init 75 = .ok (.aload_n 0, 1) := by decide +kernel
theorem dX9_init_76 : decode cX9_init 76 = .ok (.bipush 40, 2) := by decide +kernel
theorem dX9_init_78 : decode cX9_init 78 = .ok (.newarray .int, 2) := by decide +kernel
theorem dX9_init_80 : decode cX9_init 80 = .ok (.putfield 40, 3) := by decide +kernel
theorem dX9_init_83 : decode cX9_init 83 = .ok (.aload_n 0, 1) := by decide +kernel
theorem dX9_init_84 : decode cX9_init 84 = .ok (.bipush 40, 2) := by decide +kernel
theorem dX9_init_86 : decode cX9_init 86 = .ok (.newarray .int, 2) := by decide +kernel
theorem dX9_init_88 : decode cX9_init 88 = .ok (.putfield 43, 3) := by decide +kernel
theorem dX9_init_91 : decode cX9_init 91 = .ok (.aload_n 0, 1) := by decide +kernel
theorem dX9_init_92 : decode cX9_init 92 = .ok (.iconst (-1), 1) := by decide +kernel
theorem dX9_init_93 : decode cX9_init 93 = .ok (.putfield 46, 3) := by decide +kernel
theorem dX9_init_96 : decode cX9_init 96 = .ok (.aload_n 0, 1) := by decide +kernel
theorem dX9_init_97 : decode cX9_init 97 = .ok (.sipush 200, 3) := by decide +kernel
theorem dX9_init_100 : decode cX9_init 100 = .ok (.newarray .int, 2) := by decide +kernel
theorem dX9_init_102 : decode cX9_init 102 = .ok (.putfield 49, 3) := by decide +kernel
theorem dX9_init_105 : decode cX9_init 105 = .ok (.aload_n 0, 1) := by decide +kernel
theorem dX9_init_106 : decode cX9_init 106 = .ok (.sipush 200, 3) := by decide +kernel
theorem dX9_init_109 : decode cX9_init 109 = .ok (.newarray .int, 2) := by decide +kernel
theorem dX9_init_111 : decode cX9_init 111 = .ok (.putfield 52, 3) := by decide +kernel
theorem dX9_init_114 : decode cX9_init 114 = .ok (.aload_n 0, 1) := by decide +kernel
theorem dX9_init_115 : decode cX9_init 115 = .ok (.sipush 200, 3) := by decide +kernel
theorem dX9_init_118 : decode cX9_init 118 = .ok (.newarray .int, 2) := by decide +kernel
theorem dX9_init_120 : decode cX9_init 120 = .ok (.putfield 55, 3) := by decide +kernel
theorem dX9_init_123 : decode cX9_init 123 = .ok (.aload_n 0, 1) := by decide +kernel
theorem dX9_init_124 : decode cX9_init 124 = .ok (.sipush 200, 3) := by decide +kernel
theorem dX9_init_127 : decode cX9_init 127 = .ok (.newarray .int, 2) := by decide +kernel
theorem dX9_init_129 : decode cX9_init 129 = .ok (.putfield 58, 3) := by decide +kernel
theorem dX9_init_132 : decode cX9_init 132 = .ok (.aload_n 0, 1) := by decide +kernel
theorem dX9_init_133 : decode cX9_init 133 = .ok (.bipush 40, 2) := by decide +kernel
theorem dX9_init_135 : decode cX9_init 135 = .ok (.newarray .int, 2) := by decide +kernel
theorem dX9_init_137 : decode cX9_init 137 = .ok (.putfield 61, 3) := by decide +kernel
theorem dX9_init_140 : decode cX9_init 140 = .ok (.aload_n 0, 1) := by decide +kernel
theorem dX9_init_141 : decode cX9_init 141 = .ok (.bipush 40, 2) := by decide +kernel
theorem dX9_init_143 : decode cX9_init 143 = .ok (.newarray .int, 2) := by decide +kernel
theorem dX9_init_145 : decode cX9_init 145 = .ok (.putfield 64, 3) := by decide +kernel
theorem dX9_init_148 : decode cX9_init 148 = .ok (.aload_n 0, 1) := by decide +kernel
theorem dX9_init_149 : decode cX9_init 149 = .ok (.bipush 40, 2) := by decide +kernel
theorem dX9_init_151 : decode cX9_init 151 = .ok (.newarray .int, 2) := by decide +kernel
theorem dX9_init_153 : decode cX9_init 153 = .ok (.putfield 67, 3) := by decide +kernel
theorem dX9_init_156 : decode cX9_init 156 = .ok (.aload_n 0, 1) := by decide +kernel
theorem dX9_init_157 : decode cX9_init 157 = .ok (.bipush 6, 2) := by decide +kernel
theorem dX9_init_159 : decode cX9_init 159 = .ok (.newarray .int, 2) := by decide +kernel
theorem dX9_init_161 : decode cX9_init 161 = .ok (.putfield 70, 3) := by decide +kernel
theorem dX9_init_164 : decode cX9_init 164 = .ok (.aload_n 0, 1) := by decide +kernel
theorem dX9_init_165 : decode cX9_init 165 = .ok (.bipush 6, 2) := by decide +kernel
theorem dX9_init_167 : decode cX9_init 167 = .ok (.newarray .int, 2) := by decide +kernel
theorem dX9_init_169 : decode cX9_init 169 = .ok (.putfield 73, 3) := by decide +kernel
theorem dX9_init_172 : decode cX9_init 172 = .ok (.aload_n 0, 1) := by decide +kernel
theorem dX9_init_173 : decode cX9_init 173 = .ok (.bipush 6, 2) := by decide +kernel
theorem dX9_init_175 : decode cX9_init 175 = .ok (.newarray .int, 2) := by decide +kernel
theorem dX9_init_177 : decode cX9_init 177 = .ok (.putfield 76, 3) := by decide +kernel
theorem dX9_init_180 : decode cX9_init 180 = .ok (.aload_n 0, 1) := by decide +kernel
theorem dX9_init_181 : decode cX9_init 181 = .ok (.bipush 6, 2) := by decide +kernel
theorem dX9_init_183 : decode cX9_init 183 = .ok (.newarray .int, 2) := by decide +kernel
theorem dX9_init_185 : decode cX9_init 185 = .ok (.putfield 79, 3) := by decide +kernel
theorem dX9_init_188 : decode cX9_init 188 = .ok (.aload_n 0, 1) := by decide +kernel
theorem dX9_init_189 : decode cX9_init 189 = .ok (.bipush 6, 2) := by decide +kernel
theorem dX9_init_191 : decode cX9_init 191 = .ok (.newarray .boolean, 2) := by decide +kernel
theorem dX9_init_193 : decode cX9_init 193 = .ok (.putfield 82, 3) := by decide +kernel
theorem dX9_init_196 : decode cX9_init 196 = .ok (.aload_n 0, 1) := by decide +kernel
theorem dX9_init_197 : decode cX9_init 197 = .ok (.bipush 6, 2) := by decide +kernel
theorem dX9_init_199 : decode cX9_init 199 = .ok (.newarray .boolean, 2) := by decide +kernel
theorem dX9_init_201 : decode cX9_init 201 = .ok (.putfield 86, 3) := by decide +kernel
theorem dX9_init_204 : decode cX9_init 204 = .ok (.aload_n 0, 1) := by decide +kernel
theorem dX9_init_205 : decode cX9_init 205 = .ok (.bipush 8, 2) := by decide +kernel
theorem dX9_init_207 : decode cX9_init 207 = .ok (.newarray .int, 2) := by decide +kernel
theorem dX9_init_209 : decode cX9_init 209 = .ok (.putfield 89, 3) := by decide +kernel
theorem dX9_init_212 : decode cX9_init 212 = .ok (.aload_n 0, 1) := by decide +kernel
theorem dX9_init_213 : decode cX9_init 213 = .ok (.sipush 1600, 3) := by decide +kernel
theorem dX9_init_216 : decode cX9_init 216 = .ok (.newarray .int, 2) := by decide +kernel
theorem dX9_init_218 : decode cX9_init 218 = .ok (.putfield 92, 3) := by decide +kernel
theorem dX9_init_221 : decode cX9_init 221 = .ok (.aload_n 0, 1) := by decide +kernel
theorem dX9_init_222 : decode cX9_init 222 = .ok (.sipush 1600, 3) := by decide +kernel
theorem dX9_init_225 : decode cX9_init 225 = .ok (.newarray .int, 2) := by decide +kernel
theorem dX9_init_227 : decode cX9_init 227 = .ok (.putfield 95, 3) := by decide +kernel
theorem dX9_init_230 : decode cX9_init 230 = .ok (.aload_n 0, 1) := by decide +kernel
theorem dX9_init_231 : decode cX9_init 231 = .ok (.sipush 1600, 3) := by decide +kernel
theorem dX9_init_234 : decode cX9_init 234 = .ok (.newarray .int, 2) := by decide +kernel
theorem dX9_init_236 : decode cX9_init 236 = .ok (.putfield 98, 3) := by decide +kernel
theorem dX9_init_239 : decode cX9_init 239 = .ok (.aload_n 0, 1) := by decide +kernel
theorem dX9_init_240 : decode cX9_init 240 = .ok (.sipush 1600, 3) := by decide +kernel
theorem dX9_init_243 : decode cX9_init 243 = .ok (.newarray .int, 2) := by decide +kernel
theorem dX9_init_245 : decode cX9_init 245 = .ok (.putfield 101, 3) := by decide +kernel
theorem dX9_init_248 : decode cX9_init 248 = .ok (.aload_n 0, 1) := by decide +kernel
theorem dX9_init_249 : decode cX9_init 249 = .ok (.sipush 320, 3) := by decide +kernel
theorem dX9_init_252 : decode cX9_init 252 = .ok (.newarray .int, 2) := by decide +kernel
theorem dX9_init_254 : decode cX9_init 254 = .ok (.putfield 104, 3) := by decide +kernel
theorem dX9_init_257 : decode cX9_init 257 = .ok (.aload_n 0, 1) := by decide +kernel
theorem dX9_init_258 : decode cX9_init 258 = .ok (.sipush 320, 3) := by decide +kernel
theorem dX9_init_261 : decode cX9_init 261 = .ok (.newarray .int, 2) := by decide +kernel
theorem dX9_init_263 : decode cX9_init 263 = .ok (.putfield 107, 3) := by decide +kernel
theorem dX9_init_266 : decode cX9_init 266 = .ok (.aload_n 0, 1) := by decide +kernel
theorem dX9_init_267 : decode cX9_init 267 = .ok (.sipush 320, 3) := by decide +kernel
theorem dX9_init_270 : decode cX9_init 270 = .ok (.newarray .int, 2) := by decide +kernel
theorem dX9_init_272 : decode cX9_init 272 = .ok (.putfield 110, 3) := by decide +kernel
theorem dX9_init_275 : decode cX9_init 275 = .ok (.aload_n 0, 1) := by decide +kernel
theorem dX9_init_276 : decode cX9_init 276 = .ok (.bipush 32, 2) := by decide +kernel
theorem dX9_init_278 : decode cX9_init 278 = .ok (.newarray .int, 2) := by decide +kernel
theorem dX9_init_280 : decode cX9_init 280 = .ok (.putfield 113, 3) := by decide +kernel
theorem dX9_init_283 : decode cX9_init 283 = .ok (.aload_n 0, 1) := by decide +kernel
theorem dX9_init_284 : decode cX9_init 284 = .ok (.sipush 320, 3) := by decide +kernel
theorem dX9_init_287 : decode cX9_init 287 = .ok (.newarray .int, 2) := by decide +kernel
theorem dX9_init_289 : decode cX9_init 289 = .ok (.putfield 116, 3) := by decide +kernel
theorem dX9_init_292 : decode cX9_init 292 = .ok (.aload_n 0, 1) := by decide +kernel
theorem dX9_init_293 : decode cX9_init 293 = .ok (.bipush 8, 2) := by decide +kernel
theorem dX9_init_295 : decode cX9_init 295 = .ok (.newarray .boolean, 2) := by decide +kernel
theorem dX9_init_297 : decode cX9_init 297 = .ok (.putfield 119, 3) := by decide +kernel
theorem dX9_init_300 : decode cX9_init 300 = .ok (.aload_n 0, 1) := by decide +kernel
theorem dX9_init_301 : decode cX9_init 301 = .ok (.iconst 4, 1) := by decide +kernel
theorem dX9_init_302 : decode cX9_init 302 = .ok (.newarray .int, 2) := by decide +kernel
theorem dX9_init_304 : decode cX9_init 304 = .ok (.putfield 122, 3) := by decide +kernel
theorem dX9_init_307 : decode cX9_init 307 = .ok (.aload_n 0, 1) := by decide +kernel
theorem dX9_init_308 : decode cX9_init 308 = .ok (.bipush 40, 2) := by decide +kernel
theorem dX9_init_310 : decode cX9_init 310 = .ok (.newarray .int, 2) := by decide +kernel
theorem dX9_init_312 : decode cX9_init 312 = .ok (.putfield 125, 3) := by decide +kernel
theorem dX9_init_315 : decode cX9_init 315 = .ok (.aload_n 0, 1) := by decide +kernel
theorem dX9_init_316 : decode cX9_init 316 = .ok (.sipush 200, 3) := by decide +kernel
theorem dX9_init_319 : decode cX9_init 319 = .ok (.newarray .int, 2) := by decide +kernel
theorem dX9_init_321 : decode cX9_init 321 = .ok (.putfield 128, 3) := by decide +kernel
theorem dX9_init_324 : decode cX9_init 324 = .ok (.aload_n 0, 1) := by decide +kernel
theorem dX9_init_325 : decode cX9_init 325 = .ok (.sipush 200, 3) := by decide +kernel
theorem dX9_init_328 : decode cX9_init 328 = .ok (.newarray .int, 2) := by decide +kernel
theorem dX9_init_330 : decode cX9_init 330 = .ok (.putfield 131, 3) := by decide +kernel
theorem dX9_init_333 : decode cX9_init 333 = .ok (.aload_n 0, 1) := by decide +kernel
theorem dX9_init_334 : decode cX9_init 334 = .ok (.sipush 200, 3) := by decide +kernel
theorem dX9_init_337 : decode cX9_init 337 = .ok (.newarray .int, 2) := by decide +kernel
theorem dX9_init_339 : decode cX9_init 339 = .ok (.putfield 134, 3) := by decide +kernel
theorem dX9_init_342 : decode cX9_init 342 = .ok (.aload_n 0, 1) := by decide +kernel
theorem dX9_init_343 : decode cX9_init 343 = .ok (.sipush 200, 3) := by decide +kernel
theorem dX9_init_346 : decode cX9_init 346 = .ok (.newarray .int, 2) := by decide +kernel
theorem dX9_init_348 : decode cX9_init 348 = .ok (.putfield 137, 3) := by decide +kernel
theorem dX9_init_351 : decode cX9_init 351 = .ok (.aload_n 0, 1) := by decide +kernel
theorem dX9_init_352 : decode cX9_init 352 = .ok (.sipush 200, 3) := by decide +kernel
theorem dX9_init_355 : decode cX9_init 355 = .ok (.newarray .int, 2) := by decide +kernel
theorem dX9_init_357 : decode cX9_init 357 = .ok (.putfield 140, 3) := by decide +kernel
theorem dX9_init_360 : decode cX9_init 360 = .ok (.aload_n 0, 1) := by decide +kernel
theorem dX9_init_361 : decode cX9_init 361 = .ok (.sipush 200, 3) := by decide +kernel
theorem dX9_init_364 : decode cX9_init 364 = .ok (.newarray .int, 2) := by decide +kernel
theorem dX9_init_366 : decode cX9_init 366 = .ok (.putfield 143, 3) := by decide +kernel
theorem dX9_init_369 : decode cX9_init 369 = .ok (.aload_n 0, 1) := by decide +kernel
theorem dX9_init_370 : decode cX9_init 370 = .ok (.sipush 200, 3) := by decide +kernel
theorem dX9_init_373 : decode cX9_init 373 = .ok (.newarray .int, 2) := by decide +kernel
theorem dX9_init_375 : decode cX9_init 375 = .ok (.putfield 146, 3) := by decide +kernel
theorem dX9_init_378 : decode cX9_init 378 = .ok (.aload_n 0, 1) := by decide +kernel
theorem dX9_init_379 : decode cX9_init 379 = .ok (.sipush 200, 3) := by decide +kernel
theorem dX9_init_382 : decode cX9_init 382 = .ok (.newarray .int, 2) := by decide +kernel
theorem dX9_init_384 : decode cX9_init 384 = .ok (.putfield 149, 3) := by decide +kernel
theorem dX9_init_387 : decode cX9_init 387 = .ok (.aload_n 0, 1) := by decide +kernel
theorem dX9_init_388 : decode cX9_init 388 = .ok (.bipush 8, 2) := by decide +kernel
theorem dX9_init_390 : decode cX9_init 390 = .ok (.newarray .int, 2) := by decide +kernel
theorem dX9_init_392 : decode cX9_init 392 = .ok (.putfield 152, 3) := by decide +kernel
theorem dX9_init_395 : decode cX9_init 395 = .ok (.aload_n 0, 1) := by decide +kernel
theorem dX9_init_396 : decode cX9_init 396 = .ok (.bipush 8, 2) := by decide +kernel
theorem dX9_init_398 : decode cX9_init 398 = .ok (.newarray .int, 2) := by decide +kernel
theorem dX9_init_400 : decode cX9_init 400 = .ok (.putfield 155, 3) := by decide +kernel
theorem dX9_init_403 : decode cX9_init 403 = .ok (.aload_n 0, 1) := by decide +kernel
theorem dX9_init_404 : decode cX9_init 404 = .ok (.bipush 8, 2) := by decide +kernel
theorem dX9_init_406 : decode cX9_init 406 = .ok (.newarray .int, 2) := by decide +kernel
theorem dX9_init_408 : decode cX9_init 408 = .ok (.putfield 158, 3) := by decide +kernel
theorem dX9_init_411 : decode cX9_init 411 = .ok (.aload_n 0, 1) := by decide +kernel
theorem dX9_init_412 : decode cX9_init 412 = .ok (.bipush 8, 2) := by decide +kernel
theorem dX9_init_414 : decode cX9_init 414 = .ok (.newarray .boolean, 2) := by decide +kernel
theorem dX9_init_416 : decode cX9_init 416 = .ok (.putfield 161, 3) := by decide +kernel
theorem dX9_init_419 : decode cX9_init 419 = .ok (.aload_n 0, 1) := by decide +kernel
theorem dX9_init_420 : decode cX9_init 420 = .ok (.bipush 64, 2) := by decide +kernel
theorem dX9_init_422 : decode cX9_init 422 = .ok (.newarray .int, 2) := by decide +kernel
theorem dX9_init_424 : decode cX9_init 424 = .ok (.putfield 164, 3) := by decide +kernel
theorem dX9_init_427 : decode cX9_init 427 = .ok (.aload_n 0, 1) := by decide +kernel
theorem dX9_init_428 : decode cX9_init 428 = .ok (.sipush 200, 3) := by decide +kernel
theorem dX9_init_431 : decode cX9_init 431 = .ok (.newarray .int, 2) := by decide +kernel
theorem dX9_init_433 : decode cX9_init 433 = .ok (.putfield 167, 3) := by decide +kernel
theorem dX9_init_436 : decode cX9_init 436 = .ok (.return_, 1) := by decide +kernel
theorem dX9_in_0 : decode cX9_in 0 = .ok (.lload_n 0, 1) := by decide +kernel
theorem dX9_in_1 : decode cX9_in 1 = .ok (.lload_n 2, 1) := by decide +kernel
theorem dX9_in_2 : decode cX9_in 2 = .ok (.lcmp, 1) := by decide +kernel
theorem dX9_in_3 : decode cX9_in 3 = .ok (.ifCond .lt 14, 3) := by decide +kernel
theorem dX9_in_6 : decode cX9_in 6 = .ok (.lload_n 0, 1) := by decide +kernel
theorem dX9_in_7 : decode cX9_in 7 = .ok (.lload 4, 2) := by decide +kernel
theorem dX9_in_9 : decode cX9_in 9 = .ok (.lcmp, 1) := by decide +kernel
theorem dX9_in_10 : decode cX9_in 10 = .ok (.ifCond .gt 7, 3) := by decide +kernel
theorem dX9_in_13 : decode cX9_in 13 = .ok (.iconst 1, 1) := by decide +kernel
theorem dX9_in_14 : decode cX9_in 14 = .ok (.goto 4, 3) := by decide +kernel
theorem dX9_in_17 : decode cX9_in 17 = .ok (.iconst 0, 1) := by decide +kernel
theorem dX9_in_18 : decode cX9_in 18 = .ok (.ireturn, 1) := by decide +kernel
theorem dX9_put_0 : decode cX9_put 0 = .ok (.aload_n 0, 1) := by decide +kernel
theorem dX9_put_1 : decode cX9_put 1 = .ok (.getfield 7, 3) := by decide +kernel
theorem dX9_put_4 : decode cX9_put 4 = .ok (.aload_n 0, 1) := by decide +kernel
theorem dX9_put_5 : decode cX9_put 5 = .ok (.getfield 170, 3) := by decide +kernel
theorem dX9_put_8 : decode cX9_put 8 = .ok (.iload_n 1, 1) := by decide +kernel
theorem dX9_put_9 : decode cX9_put 9 = .ok (.bipush 24, 2) := by decide +kernel
theorem dX9_put_11 : decode cX9_put 11 = .ok (.ishr, 1) := by decide +kernel
theorem dX9_put_12 : decode cX9_put 12 = .ok (.i2b, 1) := by decide +kernel
theorem dX9_put_13 : decode cX9_put 13 = .ok (.bastore, 1) := by decide +kernel
theorem dX9_put_14 : decode cX9_put 14 = .ok (.aload_n 0, 1) := by decide +kernel
theorem dX9_put_15 : decode cX9_put 15 = .ok (.getfield 7, 3) := by decide +kernel
theorem dX9_put_18 : decode cX9_put 18 = .ok (.aload_n 0, 1) := by decide +kernel
theorem dX9_put_19 : decode cX9_put 19 = .ok (.getfield 170, 3) := by decide +kernel
theorem dX9_put_22 : decode cX9_put 22 = .ok (.iconst 1, 1) := by decide +kernel
theorem dX9_put_23 : decode cX9_put 23 = .ok (.iadd, 1) := by decide +kernel
theorem dX9_put_24 : decode cX9_put 24 = .ok (.iload_n 1, 1) := by decide +kernel
theorem dX9_put_25 : decode cX9_put 25 = .ok (.bipush 16, 2) := by decide +kernel
theorem dX9_put_27 : decode cX9_put 27 = .ok (.ishr, 1) := by decide +kernel
theorem dX9_put_28 : decode cX9_put 28 = .ok (.i2b, 1) := by decide +kernel
theorem dX9_put_29 : decode cX9_put 29 = .ok (.bastore, 1) := by decide +kernel
theorem dX9_put_30 : decode cX9_put 30 = .ok (.aload_n 0, 1) := by decide +kernel
theorem dX9_put_31 : decode cX9_put 31 = .ok (.getfield 7, 3) := by decide +kernel
theorem dX9_put_34 : decode cX9_put 34 = .ok (.aload_n 0, 1) := by decide +kernel
theorem dX9_put_35 : decode cX9_put 35 = .ok (.getfield 170, 3) := by decide +kernel
theorem dX9_put_38 : decode cX9_put 38 = .ok (.iconst 2, 1) := by decide +kernel
theorem dX9_put_39 : decode cX9_put 39 = .ok (.iadd, 1) := by decide +kernel
theorem dX9_put_40 : decode cX9_put 40 = .ok (.iload_n 1, 1) := by decide +kernel
theorem dX9_put_41 : decode cX9_put 41 = .ok (.bipush 8, 2) := by decide +kernel
theorem dX9_put_43 : decode cX9_put 43 = .ok (.ishr, 1) := by decide +kernel
theorem dX9_put_44 : decode cX9_put 44 = .ok (.i2b, 1) := by decide +kernel
theorem dX9_put_45 : decode cX9_put 45 = .ok (.bastore, 1) := by decide +kernel
theorem dX9_put_46 : decode cX9_put 46 = .ok (.aload_n 0, 1) := by decide +kernel
theorem dX9_put_47 : decode cX9_put 47 = .ok (.getfield 7, 3) := by decide +kernel
theorem dX9_put_50 : decode cX9_put 50 = .ok (.aload_n 0, 1) := by decide +kernel
theorem dX9_put_51 : decode cX9_put 51 = .ok (.getfield 170, 3) := by decide +kernel
theorem dX9_put_54 : decode cX9_put 54 = .ok (.iconst 3, 1) := by decide +kernel
theorem dX9_put_55 : decode cX9_put 55 = .ok (.iadd, 1) := by decide +kernel
theorem dX9_put_56 : decode cX9_put 56 = .ok (.iload_n 1, 1) := by decide +kernel
theorem dX9_put_57 : decode cX9_put 57 = .ok (.i2b, 1) := by decide +kernel
theorem dX9_put_58 : decode cX9_put 58 = .ok (.bastore, 1) := by decide +kernel
theorem dX9_put_59 : decode cX9_put 59 = .ok (.aload_n 0, 1) := by decide +kernel
theorem dX9_put_60 : decode cX9_put 60 = .ok (.dup, 1) := by decide +kernel
theorem dX9_put_61 : decode cX9_put 61 = .ok (.getfield 170, 3) := by decide +kernel
theorem dX9_put_64 : decode cX9_put 64 = .ok (.iconst 4, 1) := by decide +kernel
theorem dX9_put_65 : decode cX9_put 65 = .ok (.iadd, 1) := by decide +kernel
theorem dX9_put_66 : decode cX9_put 66 = .ok (.putfield 170, 3) := by decide +kernel
theorem dX9_put_69 : decode cX9_put 69 = .ok (.return_, 1) := by decide +kernel
theorem dX9_feed_0 : decode cX9_feed 0 = .ok (.aload_n 0, 1) := by decide +kernel
theorem dX9_feed_1 : decode cX9_feed 1 = .ok (.getfield 170, 3) := by decide +kernel
theorem dX9_feed_4 : decode cX9_feed 4 = .ok (.bipush 20, 2) := by decide +kernel
theorem dX9_feed_6 : decode cX9_feed 6 = .ok (.iadd, 1) := by decide +kernel
theorem dX9_feed_7 : decode cX9_feed 7 = .ok (.sipush 300, 3) := by decide +kernel
theorem dX9_feed_10 : decode cX9_feed 10 = .ok (.if_icmp .le 5, 3) := by decide +kernel
theorem dX9_feed_13 : decode cX9_feed 13 = .ok (.iconst (-1), 1) := by decide +kernel
theorem dX9_feed_14 : decode cX9_feed 14 = .ok (.ireturn, 1) := by decide +kernel
theorem dX9_feed_15 : decode cX9_feed 15 = .ok (.aload_n 0, 1) := by decide +kernel
theorem dX9_feed_16 : decode cX9_feed 16 = .ok (.iload_n 1, 1) := by decide +kernel
theorem dX9_feed_17 : decode cX9_feed 17 = .ok (.invokevirtual 173, 3) := by decide +kernel
theorem dX9_feed_20 : decode cX9_feed 20 = .ok (.aload_n 0, 1) := by decide +kernel
theorem dX9_feed_21 : decode cX9_feed 21 = .ok (.iload_n 2, 1) := by decide +kernel
theorem dX9_feed_22 : decode cX9_feed 22 = .ok (.invokevirtual 173, 3) := by decide +kernel
theorem dX9_feed_25 : decode cX9_feed 25 = .ok (.aload_n 0, 1) := by decide +kernel
theorem dX9_feed_26 : decode cX9_feed 26 = .ok (.iload_n 3, 1) := by decide +kernel
theorem dX9_feed_27 : decode cX9_feed 27 = .ok (.invokevirtual 173, 3) := by decide +kernel
theorem dX9_feed_30 : decode cX9_feed 30 = .ok (.aload_n 0, 1) := by decide +kernel
theorem dX9_feed_31 : decode cX9_feed 31 = .ok (.iload 4, 2) := by decide +kernel
theorem dX9_feed_33 : decode cX9_feed 33 = .ok (.invokevirtual 173, 3) := by decide +kernel
theorem dX9_feed_36 : decode cX9_feed 36 = .ok (.aload_n 0, 1) := by decide +kernel
theorem dX9_feed_37 : decode cX9_feed 37 = .ok (.iload 5, 2) := by decide +kernel
theorem dX9_feed_39 : decode cX9_feed 39 = .ok (.invokevirtual 173, 3) := by decide +kernel
theorem dX9_feed_42 : decode cX9_feed 42 = .ok (.aload_n 0, 1) := by decide +kernel
theorem dX9_feed_43 : decode cX9_feed 43 = .ok (.getfield 170, 3) := by decide +kernel
theorem dX9_feed_46 : decode cX9_feed 46 = .ok (.ireturn, 1) := by decide +kernel
theorem dX9_isWell_0 : decode cX9_isWell 0 = .ok (.aload_n 0, 1) := by decide +kernel
theorem dX9_isWell_1 : decode cX9_isWell 1 = .ok (.getfield 181, 3) := by decide +kernel
theorem dX9_isWell_4 : decode cX9_isWell 4 = .ok (.ifCond .ne 7, 3) := by decide +kernel
theorem dX9_isWell_7 : decode cX9_isWell 7 = .ok (.iconst 1, 1) := by decide +kernel
theorem dX9_isWell_8 : decode cX9_isWell 8 = .ok (.goto 4, 3) := by decide +kernel
theorem dX9_isWell_11 : decode cX9_isWell 11 = .ok (.iconst 0, 1) := by decide +kernel
theorem dX9_isWell_12 : decode cX9_isWell 12 = .ok (.ireturn, 1) := by decide +kernel
theorem dX9_fails_0 : decode cX9_fails 0 = .ok (.aload_n 0, 1) := by decide +kernel
theorem dX9_fails_1 : decode cX9_fails 1 = .ok (.getfield 181, 3) := by decide +kernel
theorem dX9_fails_4 : decode cX9_fails 4 = .ok (.ifCond .ne 16, 3) := by decide +kernel
theorem dX9_fails_7 : decode cX9_fails 7 = .ok (.aload_n 0, 1) := by decide +kernel
theorem dX9_fails_8 : decode cX9_fails 8 = .ok (.iload_n 1, 1) := by decide +kernel
theorem dX9_fails_9 : decode cX9_fails 9 = .ok (.putfield 181, 3) := by decide +kernel
theorem dX9_fails_12 : decode cX9_fails 12 = .ok (.aload_n 0, 1) := by decide +kernel
theorem dX9_fails_13 : decode cX9_fails 13 = .ok (.aload_n 0, 1) := by decide +kernel
theorem dX9_fails_14 : decode cX9_fails 14 = .ok (.getfield 184, 3) := by decide +kernel
theorem dX9_fails_17 : decode cX9_fails 17 = .ok (.putfield 187, 3) := by decide +kernel
theorem dX9_fails_20 : decode cX9_fails 20 = .ok (.return_, 1) := by decide +kernel
theorem dX9_wordOf_0 : decode cX9_wordOf 0 = .ok (.iload_n 0, 1) := by decide +kernel
theorem dX9_wordOf_1 : decode cX9_wordOf 1 = .ok (.lookupswitch 104 #[(143, 83), (294, 93), (4773, 87), (19636, 101), (81544, 91), (176741, 95), (189619, 89), (605573, 85), (1279278, 98)], 83) := by decide +kernel
theorem dX9_wordOf_84 : decode cX9_wordOf 84 = .ok (.iconst 0, 1) := by decide +kernel
theorem dX9_wordOf_85 : decode cX9_wordOf 85 = .ok (.ireturn, 1) := by decide +kernel
theorem dX9_wordOf_86 : decode cX9_wordOf 86 = .ok (.iconst 1, 1) := by decide +kernel
theorem dX9_wordOf_87 : decode cX9_wordOf 87 = .ok (.ireturn, 1) := by decide +kernel
theorem dX9_wordOf_88 : decode cX9_wordOf 88 = .ok (.iconst 2, 1) := by decide +kernel
theorem dX9_wordOf_89 : decode cX9_wordOf 89 = .ok (.ireturn, 1) := by decide +kernel
theorem dX9_wordOf_90 : decode cX9_wordOf 90 = .ok (.iconst 3, 1) := by decide +kernel
theorem dX9_wordOf_91 : decode cX9_wordOf 91 = .ok (.ireturn, 1) := by decide +kernel
theorem dX9_wordOf_92 : decode cX9_wordOf 92 = .ok (.iconst 4, 1) := by decide +kernel
theorem dX9_wordOf_93 : decode cX9_wordOf 93 = .ok (.ireturn, 1) := by decide +kernel
theorem dX9_wordOf_94 : decode cX9_wordOf 94 = .ok (.iconst 5, 1) := by decide +kernel
theorem dX9_wordOf_95 : decode cX9_wordOf 95 = .ok (.ireturn, 1) := by decide +kernel
theorem dX9_wordOf_96 : decode cX9_wordOf 96 = .ok (.bipush 6, 2) := by decide +kernel
theorem dX9_wordOf_98 : decode cX9_wordOf 98 = .ok (.ireturn, 1) := by decide +kernel
theorem dX9_wordOf_99 : decode cX9_wordOf 99 = .ok (.bipush 7, 2) := by decide +kernel
theorem dX9_wordOf_101 : decode cX9_wordOf 101 = .ok (.ireturn, 1) := by decide +kernel
theorem dX9_wordOf_102 : decode cX9_wordOf 102 = .ok (.bipush 8, 2) := by decide +kernel
theorem dX9_wordOf_104 : decode cX9_wordOf 104 = .ok (.ireturn, 1) := by decide +kernel
theorem dX9_wordOf_105 : decode cX9_wordOf 105 = .ok (.iconst (-1), 1) := by decide +kernel
theorem dX9_wordOf_106 : decode cX9_wordOf 106 = .ok (.ireturn, 1) := by decide +kernel
theorem dX9_next_0 : decode cX9_next 0 = .ok (.aload_n 0, 1) := by decide +kernel
theorem dX9_next_1 : decode cX9_next 1 = .ok (.getfield 190, 3) := by decide +kernel
theorem dX9_next_4 : decode cX9_next 4 = .ok (.iload_n 1, 1) := by decide +kernel
theorem dX9_next_5 : decode cX9_next 5 = .ok (.if_icmp .ge 44, 3) := by decide +kernel
theorem dX9_next_8 : decode cX9_next 8 = .ok (.aload_n 0, 1) := by decide +kernel
theorem dX9_next_9 : decode cX9_next 9 = .ok (.getfield 7, 3) := by decide +kernel
theorem dX9_next_12 : decode cX9_next 12 = .ok (.aload_n 0, 1) := by decide +kernel
theorem dX9_next_13 : decode cX9_next 13 = .ok (.getfield 190, 3) := by decide +kernel
theorem dX9_next_16 : decode cX9_next 16 = .ok (.baload, 1) := by decide +kernel
theorem dX9_next_17 : decode cX9_next 17 = .ok (.bipush 32, 2) := by decide +kernel
theorem dX9_next_19 : decode cX9_next 19 = .ok (.if_icmp .eq 17, 3) := by decide +kernel
theorem dX9_next_22 : decode cX9_next 22 = .ok (.aload_n 0, 1) := by decide +kernel
theorem dX9_next_23 : decode cX9_next 23 = .ok (.getfield 7, 3) := by decide +kernel
theorem dX9_next_26 : decode cX9_next 26 = .ok (.aload_n 0, 1) := by decide +kernel
theorem dX9_next_27 : decode cX9_next 27 = .ok (.getfield 190, 3) := by decide +kernel
theorem dX9_next_30 : decode cX9_next 30 = .ok (.baload, 1) := by decide +kernel
theorem dX9_next_31 : decode cX9_next 31 = .ok (.bipush 10, 2) := by decide +kernel
theorem dX9_next_33 : decode cX9_next 33 = .ok (.if_icmp .ne 16, 3) := by decide +kernel
theorem dX9_next_36 : decode cX9_next 36 = .ok (.aload_n 0, 1) := by decide +kernel
theorem dX9_next_37 : decode cX9_next 37 = .ok (.dup, 1) := by decide +kernel
theorem dX9_next_38 : decode cX9_next 38 = .ok (.getfield 190, 3) := by decide +kernel
theorem dX9_next_41 : decode cX9_next 41 = .ok (.iconst 1, 1) := by decide +kernel
theorem dX9_next_42 : decode cX9_next 42 = .ok (.iadd, 1) := by decide +kernel
theorem dX9_next_43 : decode cX9_next 43 = .ok (.putfield 190, 3) := by decide +kernel
theorem dX9_next_46 : decode cX9_next 46 = .ok (.goto (-46), 3) := by decide +kernel
theorem dX9_next_49 : decode cX9_next 49 = .ok (.aload_n 0, 1) := by decide +kernel
theorem dX9_next_50 : decode cX9_next 50 = .ok (.aload_n 0, 1) := by decide +kernel
theorem dX9_next_51 : decode cX9_next 51 = .ok (.getfield 190, 3) := by decide +kernel
theorem dX9_next_54 : decode cX9_next 54 = .ok (.putfield 184, 3) := by decide +kernel
theorem dX9_next_57 : decode cX9_next 57 = .ok (.aload_n 0, 1) := by decide +kernel
theorem dX9_next_58 : decode cX9_next 58 = .ok (.lconst 0, 1) := by decide +kernel
theorem dX9_next_59 : decode cX9_next 59 = .ok (.putfield 193, 3) := by decide +kernel
theorem dX9_next_62 : decode cX9_next 62 = .ok (.aload_n 0, 1) := by decide +kernel
theorem dX9_next_63 : decode cX9_next 63 = .ok (.getfield 190, 3) := by decide +kernel
theorem dX9_next_66 : decode cX9_next 66 = .ok (.iload_n 1, 1) := by decide +kernel
theorem dX9_next_67 : decode cX9_next 67 = .ok (.if_icmp .ne 9, 3) := by decide +kernel
theorem dX9_next_70 : decode cX9_next 70 = .ok (.aload_n 0, 1) := by decide +kernel
theorem dX9_next_71 : decode cX9_next 71 = .ok (.iconst 0, 1) := by decide +kernel
theorem dX9_next_72 : decode cX9_next 72 = .ok (.putfield 197, 3) := by decide +kernel
theorem dX9_next_75 : decode cX9_next 75 = .ok (.return_, 1) := by decide +kernel
theorem dX9_next_76 : decode cX9_next 76 = .ok (.aload_n 0, 1) := by decide +kernel
theorem dX9_next_77 : decode cX9_next 77 = .ok (.getfield 7, 3) := by decide +kernel
theorem dX9_next_80 : decode cX9_next 80 = .ok (.aload_n 0, 1) := by decide +kernel
theorem dX9_next_81 : decode cX9_next 81 = .ok (.getfield 190, 3) := by decide +kernel
theorem dX9_next_84 : decode cX9_next 84 = .ok (.baload, 1) := by decide +kernel
theorem dX9_next_85 : decode cX9_next 85 = .ok (.istore_n 2, 1) := by decide +kernel
theorem dX9_next_86 : decode cX9_next 86 = .ok (.iload_n 2, 1) := by decide +kernel
theorem dX9_next_87 : decode cX9_next 87 = .ok (.i2l, 1) := by decide +kernel
theorem dX9_next_88 : decode cX9_next 88 = .ok (.ldc2_w 200, 3) := by decide +kernel
theorem dX9_next_91 : decode cX9_next 91 = .ok (.ldc2_w 202, 3) := by decide +kernel
theorem dX9_next_94 : decode cX9_next 94 = .ok (.invokestatic 177, 3) := by decide +kernel
theorem dX9_next_97 : decode cX9_next 97 = .ok (.ifCond .eq 171, 3) := by decide +kernel
theorem dX9_next_100 : decode cX9_next 100 = .ok (.aload_n 0, 1) := by decide +kernel
theorem dX9_next_101 : decode cX9_next 101 = .ok (.iconst 0, 1) := by decide +kernel
theorem dX9_next_102 : decode cX9_next 102 = .ok (.putfield 204, 3) := by decide +kernel
theorem dX9_next_105 : decode cX9_next 105 = .ok (.aload_n 0, 1) := by decide +kernel
theorem dX9_next_106 : decode cX9_next 106 = .ok (.getfield 190, 3) := by decide +kernel
theorem dX9_next_109 : decode cX9_next 109 = .ok (.iload_n 1, 1) := by decide +kernel
theorem dX9_next_110 : decode cX9_next 110 = .ok (.if_icmp .ge 91, 3) := by decide +kernel
theorem dX9_next_113 : decode cX9_next 113 = .ok (.aload_n 0, 1) := by decide +kernel
theorem dX9_next_114 : decode cX9_next 114 = .ok (.getfield 7, 3) := by decide +kernel
theorem dX9_next_117 : decode cX9_next 117 = .ok (.aload_n 0, 1) := by decide +kernel
theorem dX9_next_118 : decode cX9_next 118 = .ok (.getfield 190, 3) := by decide +kernel
theorem dX9_next_121 : decode cX9_next 121 = .ok (.baload, 1) := by decide +kernel
theorem dX9_next_122 : decode cX9_next 122 = .ok (.i2l, 1) := by decide +kernel
theorem dX9_next_123 : decode cX9_next 123 = .ok (.ldc2_w 200, 3) := by decide +kernel
theorem dX9_next_126 : decode cX9_next 126 = .ok (.ldc2_w 202, 3) := by decide +kernel
theorem dX9_next_129 : decode cX9_next 129 = .ok (.invokestatic 177, 3) := by decide +kernel
theorem dX9_next_132 : decode cX9_next 132 = .ok (.ifCond .eq 69, 3) := by decide +kernel
theorem dX9_next_135 : decode cX9_next 135 = .ok (.aload_n 0, 1) := by decide +kernel
theorem dX9_next_136 : decode cX9_next 136 = .ok (.aload_n 0, 1) := by decide +kernel
theorem dX9_next_137 : decode cX9_next 137 = .ok (.getfield 204, 3) := by decide +kernel
theorem dX9_next_140 : decode cX9_next 140 = .ok (.bipush 6, 2) := by decide +kernel
theorem dX9_next_142 : decode cX9_next 142 = .ok (.if_icmp .ge 29, 3) := by decide +kernel
theorem dX9_next_145 : decode cX9_next 145 = .ok (.ldc2_w 207, 3) := by decide +kernel
theorem dX9_next_148 : decode cX9_next 148 = .ok (.aload_n 0, 1) := by decide +kernel
theorem dX9_next_149 : decode cX9_next 149 = .ok (.getfield 193, 3) := by decide +kernel
theorem dX9_next_152 : decode cX9_next 152 = .ok (.lmul, 1) := by decide +kernel
theorem dX9_next_153 : decode cX9_next 153 = .ok (.aload_n 0, 1) := by decide +kernel
theorem dX9_next_154 : decode cX9_next 154 = .ok (.getfield 7, 3) := by decide +kernel
theorem dX9_next_157 : decode cX9_next 157 = .ok (.aload_n 0, 1) := by decide +kernel
theorem dX9_next_158 : decode cX9_next 158 = .ok (.getfield 190, 3) := by decide +kernel
theorem dX9_next_161 : decode cX9_next 161 = .ok (.baload, 1) := by decide +kernel
theorem dX9_next_162 : decode cX9_next 162 = .ok (.i2l, 1) := by decide +kernel
theorem dX9_next_163 : decode cX9_next 163 = .ok (.ladd, 1) := by decide +kernel
theorem dX9_next_164 : decode cX9_next 164 = .ok (.ldc2_w 209, 3) := by decide +kernel
theorem dX9_next_167 : decode cX9_next 167 = .ok (.lsub, 1) := by decide +kernel
theorem dX9_next_168 : decode cX9_next 168 = .ok (.goto 7, 3) := by decide +kernel
theorem dX9_next_171 : decode cX9_next 171 = .ok (.aload_n 0, 1) := by decide +kernel
theorem dX9_next_172 : decode cX9_next 172 = .ok (.getfield 193, 3) := by decide +kernel
theorem dX9_next_175 : decode cX9_next 175 = .ok (.putfield 193, 3) := by decide +kernel
theorem dX9_next_178 : decode cX9_next 178 = .ok (.aload_n 0, 1) := by decide +kernel
theorem dX9_next_179 : decode cX9_next 179 = .ok (.dup, 1) := by decide +kernel
theorem dX9_next_180 : decode cX9_next 180 = .ok (.getfield 204, 3) := by decide +kernel
theorem dX9_next_183 : decode cX9_next 183 = .ok (.iconst 1, 1) := by decide +kernel
theorem dX9_next_184 : decode cX9_next 184 = .ok (.iadd, 1) := by decide +kernel
theorem dX9_next_185 : decode cX9_next 185 = .ok (.putfield 204, 3) := by decide +kernel
theorem dX9_next_188 : decode cX9_next 188 = .ok (.aload_n 0, 1) := by decide +kernel
theorem dX9_next_189 : decode cX9_next 189 = .ok (.dup, 1) := by decide +kernel
theorem dX9_next_190 : decode cX9_next 190 = .ok (.getfield 190, 3) := by decide +kernel
theorem dX9_next_193 : decode cX9_next 193 = .ok (.iconst 1, 1) := by decide +kernel
theorem dX9_next_194 : decode cX9_next 194 = .ok (.iadd, 1) := by decide +kernel
theorem dX9_next_195 : decode cX9_next 195 = .ok (.putfield 190, 3) := by decide +kernel
theorem dX9_next_198 : decode cX9_next 198 = .ok (.goto (-93), 3) := by decide +kernel
theorem dX9_next_201 : decode cX9_next 201 = .ok (.aload_n 0, 1) := by decide +kernel
theorem dX9_next_202 : decode cX9_next 202 = .ok (.getfield 204, 3) := by decide +kernel
theorem dX9_next_205 : decode cX9_next 205 = .ok (.iconst 5, 1) := by decide +kernel
theorem dX9_next_206 : decode cX9_next 206 = .ok (.if_icmp .le 7, 3) := by decide +kernel
theorem dX9_next_209 : decode cX9_next 209 = .ok (.iconst (-1), 1) := by decide +kernel
theorem dX9_next_210 : decode cX9_next 210 = .ok (.goto 11, 3) := by decide +kernel
theorem dX9_next_213 : decode cX9_next 213 = .ok (.aload_n 0, 1) := by decide +kernel
theorem dX9_next_214 : decode cX9_next 214 = .ok (.getfield 193, 3) := by decide +kernel
theorem dX9_next_217 : decode cX9_next 217 = .ok (.l2i, 1) := by decide +kernel
theorem dX9_next_218 : decode cX9_next 218 = .ok (.invokestatic 211, 3) := by decide +kernel
theorem dX9_next_221 : decode cX9_next 221 = .ok (.istore_n 3, 1) := by decide +kernel
theorem dX9_next_222 : decode cX9_next 222 = .ok (.aload_n 0, 1) := by decide +kernel
theorem dX9_next_223 : decode cX9_next 223 = .ok (.iload_n 3, 1) := by decide +kernel
theorem dX9_next_224 : decode cX9_next 224 = .ok (.ifCond .lt 7, 3) := by decide +kernel
theorem dX9_next_227 : decode cX9_next 227 = .ok (.iconst 2, 1) := by decide +kernel
theorem dX9_next_228 : decode cX9_next 228 = .ok (.goto 17, 3) := by decide +kernel
theorem dX9_next_231 : decode cX9_next 231 = .ok (.aload_n 0, 1) := by decide +kernel
theorem dX9_next_232 : decode cX9_next 232 = .ok (.getfield 204, 3) := by decide +kernel
theorem dX9_next_235 : decode cX9_next 235 = .ok (.bipush 6, 2) := by decide +kernel
theorem dX9_next_237 : decode cX9_next 237 = .ok (.if_icmp .le 7, 3) := by decide +kernel
theorem dX9_next_240 : decode cX9_next 240 = .ok (.iconst 5, 1) := by decide +kernel
theorem dX9_next_241 : decode cX9_next 241 = .ok (.goto 4, 3) := by decide +kernel
theorem dX9_next_244 : decode cX9_next 244 = .ok (.iconst 1, 1) := by decide +kernel
theorem dX9_next_245 : decode cX9_next 245 = .ok (.putfield 197, 3) := by decide +kernel
theorem dX9_next_248 : decode cX9_next 248 = .ok (.aload_n 0, 1) := by decide +kernel
theorem dX9_next_249 : decode cX9_next 249 = .ok (.iload_n 3, 1) := by decide +kernel
theorem dX9_next_250 : decode cX9_next 250 = .ok (.ifCond .lt 8, 3) := by decide +kernel
theorem dX9_next_253 : decode cX9_next 253 = .ok (.iload_n 3, 1) := by decide +kernel
theorem dX9_next_254 : decode cX9_next 254 = .ok (.i2l, 1) := by decide +kernel
theorem dX9_next_255 : decode cX9_next 255 = .ok (.goto 7, 3) := by decide +kernel
theorem dX9_next_258 : decode cX9_next 258 = .ok (.aload_n 0, 1) := by decide +kernel
theorem dX9_next_259 : decode cX9_next 259 = .ok (.getfield 193, 3) := by decide +kernel
theorem dX9_next_262 : decode cX9_next 262 = .ok (.putfield 193, 3) := by decide +kernel
theorem dX9_next_265 : decode cX9_next 265 = .ok (.goto 158, 3) := by decide +kernel
theorem dX9_next_268 : decode cX9_next 268 = .ok (.iload_n 2, 1) := by decide +kernel
theorem dX9_next_269 : decode cX9_next 269 = .ok (.i2l, 1) := by decide +kernel
theorem dX9_next_270 : decode cX9_next 270 = .ok (.ldc2_w 215, 3) := by decide +kernel
theorem dX9_next_273 : decode cX9_next 273 = .ok (.ldc2_w 217, 3) := by decide +kernel
theorem dX9_next_276 : decode cX9_next 276 = .ok (.invokestatic 177, 3) := by decide +kernel
theorem dX9_next_279 : decode cX9_next 279 = .ok (.ifCond .eq 95, 3) := by decide +kernel
theorem dX9_next_282 : decode cX9_next 282 = .ok (.aload_n 0, 1) := by decide +kernel
theorem dX9_next_283 : decode cX9_next 283 = .ok (.iconst 3, 1) := by decide +kernel
theorem dX9_next_284 : decode cX9_next 284 = .ok (.putfield 197, 3) := by decide +kernel
theorem dX9_next_287 : decode cX9_next 287 = .ok (.aload_n 0, 1) := by decide +kernel
theorem dX9_next_288 : decode cX9_next 288 = .ok (.getfield 190, 3) := by decide +kernel
theorem dX9_next_291 : decode cX9_next 291 = .ok (.iload_n 1, 1) := by decide +kernel
theorem dX9_next_292 : decode cX9_next 292 = .ok (.if_icmp .ge 131, 3) := by decide +kernel
theorem dX9_next_295 : decode cX9_next 295 = .ok (.aload_n 0, 1) := by decide +kernel
theorem dX9_next_296 : decode cX9_next 296 = .ok (.getfield 7, 3) := by decide +kernel
theorem dX9_next_299 : decode cX9_next 299 = .ok (.aload_n 0, 1) := by decide +kernel
theorem dX9_next_300 : decode cX9_next 300 = .ok (.getfield 190, 3) := by decide +kernel
theorem dX9_next_303 : decode cX9_next 303 = .ok (.baload, 1) := by decide +kernel
theorem dX9_next_304 : decode cX9_next 304 = .ok (.i2l, 1) := by decide +kernel
theorem dX9_next_305 : decode cX9_next 305 = .ok (.ldc2_w 215, 3) := by decide +kernel
theorem dX9_next_308 : decode cX9_next 308 = .ok (.ldc2_w 217, 3) := by decide +kernel
theorem dX9_next_311 : decode cX9_next 311 = .ok (.invokestatic 177, 3) := by decide +kernel
theorem dX9_next_314 : decode cX9_next 314 = .ok (.ifCond .eq 109, 3) := by decide +kernel
theorem dX9_next_317 : decode cX9_next 317 = .ok (.aload_n 0, 1) := by decide +kernel
theorem dX9_next_318 : decode cX9_next 318 = .ok (.aload_n 0, 1) := by decide +kernel
theorem dX9_next_319 : decode cX9_next 319 = .ok (.getfield 193, 3) := by decide +kernel
theorem dX9_next_322 : decode cX9_next 322 = .ok (.ldc2_w 219, 3) := by decide +kernel
theorem dX9_next_325 : decode cX9_next 325 = .ok (.lcmp, 1) := by decide +kernel
theorem dX9_next_326 : decode cX9_next 326 = .ok (.ifCond .le 9, 3) := by decide +kernel
theorem dX9_next_329 : decode cX9_next 329 = .ok (.ldc2_w 221, 3) := by decide +kernel
theorem dX9_next_332 : decode cX9_next 332 = .ok (.goto 26, 3) := by decide +kernel
theorem dX9_next_335 : decode cX9_next 335 = .ok (.ldc2_w 223, 3) := by decide +kernel
theorem dX9_next_338 : decode cX9_next 338 = .ok (.aload_n 0, 1) := by decide +kernel
theorem dX9_next_339 : decode cX9_next 339 = .ok (.getfield 193, 3) := by decide +kernel
theorem dX9_next_342 : decode cX9_next 342 = .ok (.lmul, 1) := by decide +kernel
theorem dX9_next_343 : decode cX9_next 343 = .ok (.aload_n 0, 1) := by decide +kernel
theorem dX9_next_344 : decode cX9_next 344 = .ok (.getfield 7, 3) := by decide +kernel
theorem dX9_next_347 : decode cX9_next 347 = .ok (.aload_n 0, 1) := by decide +kernel
theorem dX9_next_348 : decode cX9_next 348 = .ok (.getfield 190, 3) := by decide +kernel
theorem dX9_next_351 : decode cX9_next 351 = .ok (.baload, 1) := by decide +kernel
theorem dX9_next_352 : decode cX9_next 352 = .ok (.i2l, 1) := by decide +kernel
theorem dX9_next_353 : decode cX9_next 353 = .ok (.ladd, 1) := by decide +kernel
theorem dX9_next_354 : decode cX9_next 354 = .ok (.ldc2_w 215, 3) := by decide +kernel
theorem dX9_next_357 : decode cX9_next 357 = .ok (.lsub, 1) := by decide +kernel
theorem dX9_next_358 : decode cX9_next 358 = .ok (.putfield 193, 3) := by decide +kernel
theorem dX9_next_361 : decode cX9_next 361 = .ok (.aload_n 0, 1) := by decide +kernel
theorem dX9_next_362 : decode cX9_next 362 = .ok (.dup, 1) := by decide +kernel
theorem dX9_next_363 : decode cX9_next 363 = .ok (.getfield 190, 3) := by decide +kernel
theorem dX9_next_366 : decode cX9_next 366 = .ok (.iconst 1, 1) := by decide +kernel
theorem dX9_next_367 : decode cX9_next 367 = .ok (.iadd, 1) := by decide +kernel
theorem dX9_next_368 : decode cX9_next 368 = .ok (.putfield 190, 3) := by decide +kernel
theorem dX9_next_371 : decode cX9_next 371 = .ok (.goto (-84), 3) := by decide +kernel
theorem dX9_next_374 : decode cX9_next 374 = .ok (.aload_n 0, 1) := by decide +kernel
theorem dX9_next_375 : decode cX9_next 375 = .ok (.dup, 1) := by decide +kernel
theorem dX9_next_376 : decode cX9_next 376 = .ok (.getfield 190, 3) := by decide +kernel
theorem dX9_next_379 : decode cX9_next 379 = .ok (.iconst 1, 1) := by decide +kernel
theorem dX9_next_380 : decode cX9_next 380 = .ok (.iadd, 1) := by decide +kernel
theorem dX9_next_381 : decode cX9_next 381 = .ok (.putfield 190, 3) := by decide +kernel
theorem dX9_next_384 : decode cX9_next 384 = .ok (.aload_n 0, 1) := by decide +kernel
theorem dX9_next_385 : decode cX9_next 385 = .ok (.iload_n 2, 1) := by decide +kernel
theorem dX9_next_386 : decode cX9_next 386 = .ok (.i2l, 1) := by decide +kernel
theorem dX9_next_387 : decode cX9_next 387 = .ok (.putfield 193, 3) := by decide +kernel
theorem dX9_next_390 : decode cX9_next 390 = .ok (.aload_n 0, 1) := by decide +kernel
theorem dX9_next_391 : decode cX9_next 391 = .ok (.iload_n 2, 1) := by decide +kernel
theorem dX9_next_392 : decode cX9_next 392 = .ok (.bipush 123, 2) := by decide +kernel
theorem dX9_next_394 : decode cX9_next 394 = .ok (.if_icmp .eq 21, 3) := by decide +kernel
theorem dX9_next_397 : decode cX9_next 397 = .ok (.iload_n 2, 1) := by decide +kernel
theorem dX9_next_398 : decode cX9_next 398 = .ok (.bipush 125, 2) := by decide +kernel
theorem dX9_next_400 : decode cX9_next 400 = .ok (.if_icmp .eq 15, 3) := by decide +kernel
theorem dX9_next_403 : decode cX9_next 403 = .ok (.iload_n 2, 1) := by decide +kernel
theorem dX9_next_404 : decode cX9_next 404 = .ok (.bipush 59, 2) := by decide +kernel
theorem dX9_next_406 : decode cX9_next 406 = .ok (.if_icmp .eq 9, 3) := by decide +kernel
theorem dX9_next_409 : decode cX9_next 409 = .ok (.iload_n 2, 1) := by decide +kernel
theorem dX9_next_410 : decode cX9_next 410 = .ok (.bipush 60, 2) := by decide +kernel
theorem dX9_next_412 : decode cX9_next 412 = .ok (.if_icmp .ne 7, 3) := by decide +kernel
theorem dX9_next_415 : decode cX9_next 415 = .ok (.iconst 4, 1) := by decide +kernel
theorem dX9_next_416 : decode cX9_next 416 = .ok (.goto 4, 3) := by decide +kernel
theorem dX9_next_419 : decode cX9_next 419 = .ok (.iconst 5, 1) := by decide +kernel
theorem dX9_next_420 : decode cX9_next 420 = .ok (.putfield 197, 3) := by decide +kernel
theorem dX9_next_423 : decode cX9_next 423 = .ok (.return_, 1) := by decide +kernel
theorem dX9_isSign_0 : decode cX9_isSign 0 = .ok (.aload_n 0, 1) := by decide +kernel
theorem dX9_isSign_1 : decode cX9_isSign 1 = .ok (.invokevirtual 225, 3) := by decide +kernel
theorem dX9_isSign_4 : decode cX9_isSign 4 = .ok (.ifCond .eq 25, 3) := by decide +kernel
theorem dX9_isSign_7 : decode cX9_isSign 7 = .ok (.aload_n 0, 1) := by decide +kernel
theorem dX9_isSign_8 : decode cX9_isSign 8 = .ok (.getfield 197, 3) := by decide +kernel
theorem dX9_isSign_11 : decode cX9_isSign 11 = .ok (.iconst 4, 1) := by decide +kernel
theorem dX9_isSign_12 : decode cX9_isSign 12 = .ok (.if_icmp .ne 17, 3) := by decide +kernel
theorem dX9_isSign_15 : decode cX9_isSign 15 = .ok (.aload_n 0, 1) := by decide +kernel
theorem dX9_isSign_16 : decode cX9_isSign 16 = .ok (.getfield 193, 3) := by decide +kernel
theorem dX9_isSign_19 : decode cX9_isSign 19 = .ok (.iload_n 1, 1) := by decide +kernel
theorem dX9_isSign_20 : decode cX9_isSign 20 = .ok (.i2l, 1) := by decide +kernel
theorem dX9_isSign_21 : decode cX9_isSign 21 = .ok (.lcmp, 1) := by decide +kernel
theorem dX9_isSign_22 : decode cX9_isSign 22 = .ok (.ifCond .ne 7, 3) := by decide +kernel
theorem dX9_isSign_25 : decode cX9_isSign 25 = .ok (.iconst 1, 1) := by decide +kernel
theorem dX9_isSign_26 : decode cX9_isSign 26 = .ok (.goto 4, 3) := by decide +kernel
theorem dX9_isSign_29 : decode cX9_isSign 29 = .ok (.iconst 0, 1) := by decide +kernel
theorem dX9_isSign_30 : decode cX9_isSign 30 = .ok (.ireturn, 1) := by decide +kernel
theorem dX9_isWord_0 : decode cX9_isWord 0 = .ok (.aload_n 0, 1) := by decide +kernel
theorem dX9_isWord_1 : decode cX9_isWord 1 = .ok (.invokevirtual 225, 3) := by decide +kernel
theorem dX9_isWord_4 : decode cX9_isWord 4 = .ok (.ifCond .eq 25, 3) := by decide +kernel
theorem dX9_isWord_7 : decode cX9_isWord 7 = .ok (.aload_n 0, 1) := by decide +kernel
theorem dX9_isWord_8 : decode cX9_isWord 8 = .ok (.getfield 197, 3) := by decide +kernel
theorem dX9_isWord_11 : decode cX9_isWord 11 = .ok (.iconst 2, 1) := by decide +kernel
theorem dX9_isWord_12 : decode cX9_isWord 12 = .ok (.if_icmp .ne 17, 3) := by decide +kernel
theorem dX9_isWord_15 : decode cX9_isWord 15 = .ok (.aload_n 0, 1) := by decide +kernel
theorem dX9_isWord_16 : decode cX9_isWord 16 = .ok (.getfield 193, 3) := by decide +kernel
theorem dX9_isWord_19 : decode cX9_isWord 19 = .ok (.iload_n 1, 1) := by decide +kernel
theorem dX9_isWord_20 : decode cX9_isWord 20 = .ok (.i2l, 1) := by decide +kernel
theorem dX9_isWord_21 : decode cX9_isWord 21 = .ok (.lcmp, 1) := by decide +kernel
theorem dX9_isWord_22 : decode cX9_isWord 22 = .ok (.ifCond .ne 7, 3) := by decide +kernel
theorem dX9_isWord_25 : decode cX9_isWord 25 = .ok (.iconst 1, 1) := by decide +kernel
theorem dX9_isWord_26 : decode cX9_isWord 26 = .ok (.goto 4, 3) := by decide +kernel
theorem dX9_isWord_29 : decode cX9_isWord 29 = .ok (.iconst 0, 1) := by decide +kernel
theorem dX9_isWord_30 : decode cX9_isWord 30 = .ok (.ireturn, 1) := by decide +kernel
theorem dX9_takes_0 : decode cX9_takes 0 = .ok (.aload_n 0, 1) := by decide +kernel
theorem dX9_takes_1 : decode cX9_takes 1 = .ok (.iload_n 1, 1) := by decide +kernel
theorem dX9_takes_2 : decode cX9_takes 2 = .ok (.invokevirtual 229, 3) := by decide +kernel
theorem dX9_takes_5 : decode cX9_takes 5 = .ok (.ifCond .eq 11, 3) := by decide +kernel
theorem dX9_takes_8 : decode cX9_takes 8 = .ok (.aload_n 0, 1) := by decide +kernel
theorem dX9_takes_9 : decode cX9_takes 9 = .ok (.iload_n 2, 1) := by decide +kernel
theorem dX9_takes_10 : decode cX9_takes 10 = .ok (.invokevirtual 233, 3) := by decide +kernel
theorem dX9_takes_13 : decode cX9_takes 13 = .ok (.goto 8, 3) := by decide +kernel
theorem dX9_takes_16 : decode cX9_takes 16 = .ok (.aload_n 0, 1) := by decide +kernel
theorem dX9_takes_17 : decode cX9_takes 17 = .ok (.iconst 1, 1) := by decide +kernel
theorem dX9_takes_18 : decode cX9_takes 18 = .ok (.invokevirtual 236, 3) := by decide +kernel
theorem dX9_takes_21 : decode cX9_takes 21 = .ok (.return_, 1) := by decide +kernel
theorem dX9_takesWord_0 : decode cX9_takesWord 0 = .ok (.aload_n 0, 1) := by decide +kernel
theorem dX9_takesWord_1 : decode cX9_takesWord 1 = .ok (.iload_n 1, 1) := by decide +kernel
theorem dX9_takesWord_2 : decode cX9_takesWord 2 = .ok (.invokevirtual 239, 3) := by decide +kernel
theorem dX9_takesWord_5 : decode cX9_takesWord 5 = .ok (.ifCond .eq 11, 3) := by decide +kernel
theorem dX9_takesWord_8 : decode cX9_takesWord 8 = .ok (.aload_n 0, 1) := by decide +kernel
theorem dX9_takesWord_9 : decode cX9_takesWord 9 = .ok (.iload_n 2, 1) := by decide +kernel
theorem dX9_takesWord_10 : decode cX9_takesWord 10 = .ok (.invokevirtual 233, 3) := by decide +kernel
theorem dX9_takesWord_13 : decode cX9_takesWord 13 = .ok (.goto 8, 3) := by decide +kernel
theorem dX9_takesWord_16 : decode cX9_takesWord 16 = .ok (.aload_n 0, 1) := by decide +kernel
theorem dX9_takesWord_17 : decode cX9_takesWord 17 = .ok (.iconst 1, 1) := by decide +kernel
theorem dX9_takesWord_18 : decode cX9_takesWord 18 = .ok (.invokevirtual 236, 3) := by decide +kernel
theorem dX9_takesWord_21 : decode cX9_takesWord 21 = .ok (.return_, 1) := by decide +kernel
theorem dX9_number_0 : decode cX9_number 0 = .ok (.aload_n 0, 1) := by decide +kernel
theorem dX9_number_1 : decode cX9_number 1 = .ok (.invokevirtual 225, 3) := by decide +kernel
theorem dX9_number_4 : decode cX9_number 4 = .ok (.ifCond .eq 11, 3) := by decide +kernel
theorem dX9_number_7 : decode cX9_number 7 = .ok (.aload_n 0, 1) := by decide +kernel
theorem dX9_number_8 : decode cX9_number 8 = .ok (.getfield 197, 3) := by decide +kernel
theorem dX9_number_11 : decode cX9_number 11 = .ok (.iconst 3, 1) := by decide +kernel
theorem dX9_number_12 : decode cX9_number 12 = .ok (.if_icmp .eq 10, 3) := by decide +kernel
theorem dX9_number_15 : decode cX9_number 15 = .ok (.aload_n 0, 1) := by decide +kernel
theorem dX9_number_16 : decode cX9_number 16 = .ok (.iconst 1, 1) := by decide +kernel
theorem dX9_number_17 : decode cX9_number 17 = .ok (.invokevirtual 236, 3) := by decide +kernel
theorem dX9_number_20 : decode cX9_number 20 = .ok (.iload_n 1, 1) := by decide +kernel
theorem dX9_number_21 : decode cX9_number 21 = .ok (.ireturn, 1) := by decide +kernel
theorem dX9_number_22 : decode cX9_number 22 = .ok (.aload_n 0, 1) := by decide +kernel
theorem dX9_number_23 : decode cX9_number 23 = .ok (.getfield 193, 3) := by decide +kernel
theorem dX9_number_26 : decode cX9_number 26 = .ok (.iload_n 1, 1) := by decide +kernel
theorem dX9_number_27 : decode cX9_number 27 = .ok (.i2l, 1) := by decide +kernel
theorem dX9_number_28 : decode cX9_number 28 = .ok (.iload_n 2, 1) := by decide +kernel
theorem dX9_number_29 : decode cX9_number 29 = .ok (.i2l, 1) := by decide +kernel
theorem dX9_number_30 : decode cX9_number 30 = .ok (.invokestatic 177, 3) := by decide +kernel
theorem dX9_number_33 : decode cX9_number 33 = .ok (.ifCond .ne 10, 3) := by decide +kernel
theorem dX9_number_36 : decode cX9_number 36 = .ok (.aload_n 0, 1) := by decide +kernel
theorem dX9_number_37 : decode cX9_number 37 = .ok (.iconst 3, 1) := by decide +kernel
theorem dX9_number_38 : decode cX9_number 38 = .ok (.invokevirtual 236, 3) := by decide +kernel
theorem dX9_number_41 : decode cX9_number 41 = .ok (.iload_n 1, 1) := by decide +kernel
theorem dX9_number_42 : decode cX9_number 42 = .ok (.ireturn, 1) := by decide +kernel
theorem dX9_number_43 : decode cX9_number 43 = .ok (.aload_n 0, 1) := by decide +kernel
theorem dX9_number_44 : decode cX9_number 44 = .ok (.getfield 193, 3) := by decide +kernel
theorem dX9_number_47 : decode cX9_number 47 = .ok (.l2i, 1) := by decide +kernel
theorem dX9_number_48 : decode cX9_number 48 = .ok (.istore 4, 2) := by decide +kernel
theorem dX9_number_50 : decode cX9_number 50 = .ok (.aload_n 0, 1) := by decide +kernel
theorem dX9_number_51 : decode cX9_number 51 = .ok (.iload_n 3, 1) := by decide +kernel
theorem dX9_number_52 : decode cX9_number 52 = .ok (.invokevirtual 233, 3) := by decide +kernel
theorem dX9_number_55 : decode cX9_number 55 = .ok (.iload 4, 2) := by decide +kernel
theorem dX9_number_57 : decode cX9_number 57 = .ok (.ireturn, 1) := by decide +kernel
theorem dX9_fieldOf_0 : decode cX9_fieldOf 0 = .ok (.aload_n 0, 1) := by decide +kernel
theorem dX9_fieldOf_1 : decode cX9_fieldOf 1 = .ok (.invokevirtual 225, 3) := by decide +kernel
theorem dX9_fieldOf_4 : decode cX9_fieldOf 4 = .ok (.ifCond .eq 33, 3) := by decide +kernel
theorem dX9_fieldOf_7 : decode cX9_fieldOf 7 = .ok (.aload_n 0, 1) := by decide +kernel
theorem dX9_fieldOf_8 : decode cX9_fieldOf 8 = .ok (.getfield 197, 3) := by decide +kernel
theorem dX9_fieldOf_11 : decode cX9_fieldOf 11 = .ok (.iconst 1, 1) := by decide +kernel
theorem dX9_fieldOf_12 : decode cX9_fieldOf 12 = .ok (.if_icmp .ne 25, 3) := by decide +kernel
theorem dX9_fieldOf_15 : decode cX9_fieldOf 15 = .ok (.aload_n 0, 1) := by decide +kernel
theorem dX9_fieldOf_16 : decode cX9_fieldOf 16 = .ok (.getfield 204, 3) := by decide +kernel
theorem dX9_fieldOf_19 : decode cX9_fieldOf 19 = .ok (.iconst 1, 1) := by decide +kernel
theorem dX9_fieldOf_20 : decode cX9_fieldOf 20 = .ok (.if_icmp .ne 17, 3) := by decide +kernel
theorem dX9_fieldOf_23 : decode cX9_fieldOf 23 = .ok (.aload_n 0, 1) := by decide +kernel
theorem dX9_fieldOf_24 : decode cX9_fieldOf 24 = .ok (.getfield 193, 3) := by decide +kernel
theorem dX9_fieldOf_27 : decode cX9_fieldOf 27 = .ok (.lconst 1, 1) := by decide +kernel
theorem dX9_fieldOf_28 : decode cX9_fieldOf 28 = .ok (.ldc2_w 242, 3) := by decide +kernel
theorem dX9_fieldOf_31 : decode cX9_fieldOf 31 = .ok (.invokestatic 177, 3) := by decide +kernel
theorem dX9_fieldOf_34 : decode cX9_fieldOf 34 = .ok (.ifCond .ne 10, 3) := by decide +kernel
theorem dX9_fieldOf_37 : decode cX9_fieldOf 37 = .ok (.aload_n 0, 1) := by decide +kernel
theorem dX9_fieldOf_38 : decode cX9_fieldOf 38 = .ok (.iconst 1, 1) := by decide +kernel
theorem dX9_fieldOf_39 : decode cX9_fieldOf 39 = .ok (.invokevirtual 236, 3) := by decide +kernel
theorem dX9_fieldOf_42 : decode cX9_fieldOf 42 = .ok (.iconst 0, 1) := by decide +kernel
theorem dX9_fieldOf_43 : decode cX9_fieldOf 43 = .ok (.ireturn, 1) := by decide +kernel
theorem dX9_fieldOf_44 : decode cX9_fieldOf 44 = .ok (.aload_n 0, 1) := by decide +kernel
theorem dX9_fieldOf_45 : decode cX9_fieldOf 45 = .ok (.getfield 193, 3) := by decide +kernel
theorem dX9_fieldOf_48 : decode cX9_fieldOf 48 = .ok (.l2i, 1) := by decide +kernel
theorem dX9_fieldOf_49 : decode cX9_fieldOf 49 = .ok (.iconst 1, 1) := by decide +kernel
theorem dX9_fieldOf_50 : decode cX9_fieldOf 50 = .ok (.isub, 1) := by decide +kernel
theorem dX9_fieldOf_51 : decode cX9_fieldOf 51 = .ok (.istore_n 2, 1) := by decide +kernel
theorem dX9_fieldOf_52 : decode cX9_fieldOf 52 = .ok (.aload_n 0, 1) := by decide +kernel
theorem dX9_fieldOf_53 : decode cX9_fieldOf 53 = .ok (.iload_n 1, 1) := by decide +kernel
theorem dX9_fieldOf_54 : decode cX9_fieldOf 54 = .ok (.invokevirtual 233, 3) := by decide +kernel
theorem dX9_fieldOf_57 : decode cX9_fieldOf 57 = .ok (.iload_n 2, 1) := by decide +kernel
theorem dX9_fieldOf_58 : decode cX9_fieldOf 58 = .ok (.ireturn, 1) := by decide +kernel
theorem dX9_opens_0 : decode cX9_opens 0 = .ok (.aload_n 0, 1) := by decide +kernel
theorem dX9_opens_1 : decode cX9_opens 1 = .ok (.bipush 123, 2) := by decide +kernel
theorem dX9_opens_3 : decode cX9_opens 3 = .ok (.iload 5, 2) := by decide +kernel
theorem dX9_opens_5 : decode cX9_opens 5 = .ok (.invokevirtual 247, 3) := by decide +kernel
theorem dX9_opens_8 : decode cX9_opens 8 = .ok (.aload_n 0, 1) := by decide +kernel
theorem dX9_opens_9 : decode cX9_opens 9 = .ok (.dup, 1) := by decide +kernel
theorem dX9_opens_10 : decode cX9_opens 10 = .ok (.getfield 251, 3) := by decide +kernel
theorem dX9_opens_13 : decode cX9_opens 13 = .ok (.iconst 1, 1) := by decide +kernel
theorem dX9_opens_14 : decode cX9_opens 14 = .ok (.iadd, 1) := by decide +kernel
theorem dX9_opens_15 : decode cX9_opens 15 = .ok (.putfield 251, 3) := by decide +kernel
theorem dX9_opens_18 : decode cX9_opens 18 = .ok (.aload_n 0, 1) := by decide +kernel
theorem dX9_opens_19 : decode cX9_opens 19 = .ok (.getfield 70, 3) := by decide +kernel
theorem dX9_opens_22 : decode cX9_opens 22 = .ok (.aload_n 0, 1) := by decide +kernel
theorem dX9_opens_23 : decode cX9_opens 23 = .ok (.getfield 251, 3) := by decide +kernel
theorem dX9_opens_26 : decode cX9_opens 26 = .ok (.iload_n 1, 1) := by decide +kernel
theorem dX9_opens_27 : decode cX9_opens 27 = .ok (.iastore, 1) := by decide +kernel
theorem dX9_opens_28 : decode cX9_opens 28 = .ok (.aload_n 0, 1) := by decide +kernel
theorem dX9_opens_29 : decode cX9_opens 29 = .ok (.getfield 73, 3) := by decide +kernel
theorem dX9_opens_32 : decode cX9_opens 32 = .ok (.aload_n 0, 1) := by decide +kernel
theorem dX9_opens_33 : decode cX9_opens 33 = .ok (.getfield 251, 3) := by decide +kernel
theorem dX9_opens_36 : decode cX9_opens 36 = .ok (.iload_n 2, 1) := by decide +kernel
theorem dX9_opens_37 : decode cX9_opens 37 = .ok (.iastore, 1) := by decide +kernel
theorem dX9_opens_38 : decode cX9_opens 38 = .ok (.aload_n 0, 1) := by decide +kernel
theorem dX9_opens_39 : decode cX9_opens 39 = .ok (.getfield 76, 3) := by decide +kernel
theorem dX9_opens_42 : decode cX9_opens 42 = .ok (.aload_n 0, 1) := by decide +kernel
theorem dX9_opens_43 : decode cX9_opens 43 = .ok (.getfield 251, 3) := by decide +kernel
theorem dX9_opens_46 : decode cX9_opens 46 = .ok (.iload_n 3, 1) := by decide +kernel
theorem dX9_opens_47 : decode cX9_opens 47 = .ok (.iastore, 1) := by decide +kernel
theorem dX9_opens_48 : decode cX9_opens 48 = .ok (.aload_n 0, 1) := by decide +kernel
theorem dX9_opens_49 : decode cX9_opens 49 = .ok (.getfield 79, 3) := by decide +kernel
theorem dX9_opens_52 : decode cX9_opens 52 = .ok (.aload_n 0, 1) := by decide +kernel
theorem dX9_opens_53 : decode cX9_opens 53 = .ok (.getfield 251, 3) := by decide +kernel
theorem dX9_opens_56 : decode cX9_opens 56 = .ok (.iload 4, 2) := by decide +kernel
theorem dX9_opens_58 : decode cX9_opens 58 = .ok (.iastore, 1) := by decide +kernel
theorem dX9_opens_59 : decode cX9_opens 59 = .ok (.aload_n 0, 1) := by decide +kernel
theorem dX9_opens_60 : decode cX9_opens 60 = .ok (.getfield 82, 3) := by decide +kernel
theorem dX9_opens_63 : decode cX9_opens 63 = .ok (.aload_n 0, 1) := by decide +kernel
theorem dX9_opens_64 : decode cX9_opens 64 = .ok (.getfield 251, 3) := by decide +kernel
theorem dX9_opens_67 : decode cX9_opens 67 = .ok (.iconst 0, 1) := by decide +kernel
theorem dX9_opens_68 : decode cX9_opens 68 = .ok (.bastore, 1) := by decide +kernel
theorem dX9_opens_69 : decode cX9_opens 69 = .ok (.return_, 1) := by decide +kernel
theorem dX9_step_0 : decode cX9_step 0 = .ok (.aload_n 0, 1) := by decide +kernel
theorem dX9_step_1 : decode cX9_step 1 = .ok (.getfield 197, 3) := by decide +kernel
theorem dX9_step_4 : decode cX9_step 4 = .ok (.iconst 2, 1) := by decide +kernel
theorem dX9_step_5 : decode cX9_step 5 = .ok (.if_icmp .ne 60, 3) := by decide +kernel
theorem dX9_step_8 : decode cX9_step 8 = .ok (.aload_n 0, 1) := by decide +kernel
theorem dX9_step_9 : decode cX9_step 9 = .ok (.getfield 193, 3) := by decide +kernel
theorem dX9_step_12 : decode cX9_step 12 = .ok (.lconst 0, 1) := by decide +kernel
theorem dX9_step_13 : decode cX9_step 13 = .ok (.lcmp, 1) := by decide +kernel
theorem dX9_step_14 : decode cX9_step 14 = .ok (.ifCond .eq 47, 3) := by decide +kernel
theorem dX9_step_17 : decode cX9_step 17 = .ok (.aload_n 0, 1) := by decide +kernel
theorem dX9_step_18 : decode cX9_step 18 = .ok (.getfield 193, 3) := by decide +kernel
theorem dX9_step_21 : decode cX9_step 21 = .ok (.ldc2_w 271, 3) := by decide +kernel
theorem dX9_step_24 : decode cX9_step 24 = .ok (.lcmp, 1) := by decide +kernel
theorem dX9_step_25 : decode cX9_step 25 = .ok (.ifCond .eq 36, 3) := by decide +kernel
theorem dX9_step_28 : decode cX9_step 28 = .ok (.aload_n 0, 1) := by decide +kernel
theorem dX9_step_29 : decode cX9_step 29 = .ok (.getfield 193, 3) := by decide +kernel
theorem dX9_step_32 : decode cX9_step 32 = .ok (.ldc2_w 242, 3) := by decide +kernel
theorem dX9_step_35 : decode cX9_step 35 = .ok (.lcmp, 1) := by decide +kernel
theorem dX9_step_36 : decode cX9_step 36 = .ok (.ifCond .eq 25, 3) := by decide +kernel
theorem dX9_step_39 : decode cX9_step 39 = .ok (.aload_n 0, 1) := by decide +kernel
theorem dX9_step_40 : decode cX9_step 40 = .ok (.getfield 193, 3) := by decide +kernel
theorem dX9_step_43 : decode cX9_step 43 = .ok (.ldc2_w 273, 3) := by decide +kernel
theorem dX9_step_46 : decode cX9_step 46 = .ok (.lcmp, 1) := by decide +kernel
theorem dX9_step_47 : decode cX9_step 47 = .ok (.ifCond .eq 14, 3) := by decide +kernel
theorem dX9_step_50 : decode cX9_step 50 = .ok (.aload_n 0, 1) := by decide +kernel
theorem dX9_step_51 : decode cX9_step 51 = .ok (.getfield 193, 3) := by decide +kernel
theorem dX9_step_54 : decode cX9_step 54 = .ok (.ldc2_w 275, 3) := by decide +kernel
theorem dX9_step_57 : decode cX9_step 57 = .ok (.lcmp, 1) := by decide +kernel
theorem dX9_step_58 : decode cX9_step 58 = .ok (.ifCond .ne 7, 3) := by decide +kernel
theorem dX9_step_61 : decode cX9_step 61 = .ok (.iconst 1, 1) := by decide +kernel
theorem dX9_step_62 : decode cX9_step 62 = .ok (.goto 4, 3) := by decide +kernel
theorem dX9_step_65 : decode cX9_step 65 = .ok (.iconst 0, 1) := by decide +kernel
theorem dX9_step_66 : decode cX9_step 66 = .ok (.istore_n 2, 1) := by decide +kernel
theorem dX9_step_67 : decode cX9_step 67 = .ok (.iload_n 2, 1) := by decide +kernel
theorem dX9_step_68 : decode cX9_step 68 = .ok (.ifCond .ne 9, 3) := by decide +kernel
theorem dX9_step_71 : decode cX9_step 71 = .ok (.aload_n 0, 1) := by decide +kernel
theorem dX9_step_72 : decode cX9_step 72 = .ok (.iconst 1, 1) := by decide +kernel
theorem dX9_step_73 : decode cX9_step 73 = .ok (.invokevirtual 236, 3) := by decide +kernel
theorem dX9_step_76 : decode cX9_step 76 = .ok (.return_, 1) := by decide +kernel
theorem dX9_step_77 : decode cX9_step 77 = .ok (.aload_n 0, 1) := by decide +kernel
theorem dX9_step_78 : decode cX9_step 78 = .ok (.getfield 193, 3) := by decide +kernel
theorem dX9_step_81 : decode cX9_step 81 = .ok (.l2i, 1) := by decide +kernel
theorem dX9_step_82 : decode cX9_step 82 = .ok (.istore_n 3, 1) := by decide +kernel
theorem dX9_step_83 : decode cX9_step 83 = .ok (.aload_n 0, 1) := by decide +kernel
theorem dX9_step_84 : decode cX9_step 84 = .ok (.getfield 277, 3) := by decide +kernel
theorem dX9_step_87 : decode cX9_step 87 = .ok (.bipush 40, 2) := by decide +kernel
theorem dX9_step_89 : decode cX9_step 89 = .ok (.if_icmp .eq 21, 3) := by decide +kernel
theorem dX9_step_92 : decode cX9_step 92 = .ok (.iload_n 3, 1) := by decide +kernel
theorem dX9_step_93 : decode cX9_step 93 = .ok (.ifCond .eq 23, 3) := by decide +kernel
theorem dX9_step_96 : decode cX9_step 96 = .ok (.iload_n 3, 1) := by decide +kernel
theorem dX9_step_97 : decode cX9_step 97 = .ok (.bipush 8, 2) := by decide +kernel
theorem dX9_step_99 : decode cX9_step 99 = .ok (.if_icmp .eq 17, 3) := by decide +kernel
theorem dX9_step_102 : decode cX9_step 102 = .ok (.aload_n 0, 1) := by decide +kernel
theorem dX9_step_103 : decode cX9_step 103 = .ok (.getfield 251, 3) := by decide +kernel
theorem dX9_step_106 : decode cX9_step 106 = .ok (.iconst 4, 1) := by decide +kernel
theorem dX9_step_107 : decode cX9_step 107 = .ok (.if_icmp .ne 9, 3) := by decide +kernel
theorem dX9_step_110 : decode cX9_step 110 = .ok (.aload_n 0, 1) := by decide +kernel
theorem dX9_step_111 : decode cX9_step 111 = .ok (.iconst 4, 1) := by decide +kernel
theorem dX9_step_112 : decode cX9_step 112 = .ok (.invokevirtual 236, 3) := by decide +kernel
theorem dX9_step_115 : decode cX9_step 115 = .ok (.return_, 1) := by decide +kernel
theorem dX9_step_116 : decode cX9_step 116 = .ok (.aload_n 0, 1) := by decide +kernel
theorem dX9_step_117 : decode cX9_step 117 = .ok (.dup, 1) := by decide +kernel
theorem dX9_step_118 : decode cX9_step 118 = .ok (.getfield 277, 3) := by decide +kernel
theorem dX9_step_121 : decode cX9_step 121 = .ok (.iconst 1, 1) := by decide +kernel
theorem dX9_step_122 : decode cX9_step 122 = .ok (.iadd, 1) := by decide +kernel
theorem dX9_step_123 : decode cX9_step 123 = .ok (.putfield 277, 3) := by decide +kernel
theorem dX9_step_126 : decode cX9_step 126 = .ok (.aload_n 0, 1) := by decide +kernel
theorem dX9_step_127 : decode cX9_step 127 = .ok (.iload_n 1, 1) := by decide +kernel
theorem dX9_step_128 : decode cX9_step 128 = .ok (.invokevirtual 233, 3) := by decide +kernel
theorem dX9_step_131 : decode cX9_step 131 = .ok (.iload_n 3, 1) := by decide +kernel
theorem dX9_step_132 : decode cX9_step 132 = .ok (.lookupswitch 117 #[(0, 36), (4, 82), (8, 44)], 36) := by decide +kernel
theorem dX9_step_168 : decode cX9_step 168 = .ok (.aload_n 0, 1) := by decide +kernel
theorem dX9_step_169 : decode cX9_step 169 = .ok (.iload_n 1, 1) := by decide +kernel
theorem dX9_step_170 : decode cX9_step 170 = .ok (.invokevirtual 280, 3) := by decide +kernel
theorem dX9_step_173 : decode cX9_step 173 = .ok (.goto 147, 3) := by decide +kernel
theorem dX9_step_176 : decode cX9_step 176 = .ok (.aload_n 0, 1) := by decide +kernel
theorem dX9_step_177 : decode cX9_step 177 = .ok (.iload_n 1, 1) := by decide +kernel
theorem dX9_step_178 : decode cX9_step 178 = .ok (.invokevirtual 283, 3) := by decide +kernel
theorem dX9_step_181 : decode cX9_step 181 = .ok (.istore 4, 2) := by decide +kernel
theorem dX9_step_183 : decode cX9_step 183 = .ok (.aload_n 0, 1) := by decide +kernel
theorem dX9_step_184 : decode cX9_step 184 = .ok (.iconst 0, 1) := by decide +kernel
theorem dX9_step_185 : decode cX9_step 185 = .ok (.bipush 99, 2) := by decide +kernel
theorem dX9_step_187 : decode cX9_step 187 = .ok (.iload_n 1, 1) := by decide +kernel
theorem dX9_step_188 : decode cX9_step 188 = .ok (.invokevirtual 264, 3) := by decide +kernel
theorem dX9_step_191 : decode cX9_step 191 = .ok (.istore 5, 2) := by decide +kernel
theorem dX9_step_193 : decode cX9_step 193 = .ok (.aload_n 0, 1) := by decide +kernel
theorem dX9_step_194 : decode cX9_step 194 = .ok (.bipush 59, 2) := by decide +kernel
theorem dX9_step_196 : decode cX9_step 196 = .ok (.iload_n 1, 1) := by decide +kernel
theorem dX9_step_197 : decode cX9_step 197 = .ok (.invokevirtual 247, 3) := by decide +kernel
theorem dX9_step_200 : decode cX9_step 200 = .ok (.aload_n 0, 1) := by decide +kernel
theorem dX9_step_201 : decode cX9_step 201 = .ok (.iconst 1, 1) := by decide +kernel
theorem dX9_step_202 : decode cX9_step 202 = .ok (.iload 4, 2) := by decide +kernel
theorem dX9_step_204 : decode cX9_step 204 = .ok (.iload 5, 2) := by decide +kernel
theorem dX9_step_206 : decode cX9_step 206 = .ok (.invokevirtual 268, 3) := by decide +kernel
theorem dX9_step_209 : decode cX9_step 209 = .ok (.istore 6, 2) := by decide +kernel
theorem dX9_step_211 : decode cX9_step 211 = .ok (.goto 109, 3) := by decide +kernel
theorem dX9_step_214 : decode cX9_step 214 = .ok (.aload_n 0, 1) := by decide +kernel
theorem dX9_step_215 : decode cX9_step 215 = .ok (.iconst 5, 1) := by decide +kernel
theorem dX9_step_216 : decode cX9_step 216 = .ok (.aload_n 0, 1) := by decide +kernel
theorem dX9_step_217 : decode cX9_step 217 = .ok (.getfield 286, 3) := by decide +kernel
theorem dX9_step_220 : decode cX9_step 220 = .ok (.iconst 0, 1) := by decide +kernel
theorem dX9_step_221 : decode cX9_step 221 = .ok (.invokevirtual 268, 3) := by decide +kernel
theorem dX9_step_224 : decode cX9_step 224 = .ok (.istore 4, 2) := by decide +kernel
theorem dX9_step_226 : decode cX9_step 226 = .ok (.aload_n 0, 1) := by decide +kernel
theorem dX9_step_227 : decode cX9_step 227 = .ok (.dup, 1) := by decide +kernel
theorem dX9_step_228 : decode cX9_step 228 = .ok (.getfield 286, 3) := by decide +kernel
theorem dX9_step_231 : decode cX9_step 231 = .ok (.iconst 1, 1) := by decide +kernel
theorem dX9_step_232 : decode cX9_step 232 = .ok (.iadd, 1) := by decide +kernel
theorem dX9_step_233 : decode cX9_step 233 = .ok (.putfield 286, 3) := by decide +kernel
theorem dX9_step_236 : decode cX9_step 236 = .ok (.aload_n 0, 1) := by decide +kernel
theorem dX9_step_237 : decode cX9_step 237 = .ok (.iconst 1, 1) := by decide +kernel
theorem dX9_step_238 : decode cX9_step 238 = .ok (.iload 4, 2) := by decide +kernel
theorem dX9_step_240 : decode cX9_step 240 = .ok (.iconst 0, 1) := by decide +kernel
theorem dX9_step_241 : decode cX9_step 241 = .ok (.iconst 0, 1) := by decide +kernel
theorem dX9_step_242 : decode cX9_step 242 = .ok (.iload_n 1, 1) := by decide +kernel
theorem dX9_step_243 : decode cX9_step 243 = .ok (.invokevirtual 289, 3) := by decide +kernel
theorem dX9_step_246 : decode cX9_step 246 = .ok (.goto 74, 3) := by decide +kernel
theorem dX9_step_249 : decode cX9_step 249 = .ok (.aload_n 0, 1) := by decide +kernel
theorem dX9_step_250 : decode cX9_step 250 = .ok (.iload_n 1, 1) := by decide +kernel
theorem dX9_step_251 : decode cX9_step 251 = .ok (.invokevirtual 283, 3) := by decide +kernel
theorem dX9_step_254 : decode cX9_step 254 = .ok (.istore 4, 2) := by decide +kernel
theorem dX9_step_256 : decode cX9_step 256 = .ok (.aload_n 0, 1) := by decide +kernel
theorem dX9_step_257 : decode cX9_step 257 = .ok (.bipush 60, 2) := by decide +kernel
theorem dX9_step_259 : decode cX9_step 259 = .ok (.iload_n 1, 1) := by decide +kernel
theorem dX9_step_260 : decode cX9_step 260 = .ok (.invokevirtual 247, 3) := by decide +kernel
theorem dX9_step_263 : decode cX9_step 263 = .ok (.aload_n 0, 1) := by decide +kernel
theorem dX9_step_264 : decode cX9_step 264 = .ok (.iconst 0, 1) := by decide +kernel
theorem dX9_step_265 : decode cX9_step 265 = .ok (.bipush 99, 2) := by decide +kernel
theorem dX9_step_267 : decode cX9_step 267 = .ok (.iload_n 1, 1) := by decide +kernel
theorem dX9_step_268 : decode cX9_step 268 = .ok (.invokevirtual 264, 3) := by decide +kernel
theorem dX9_step_271 : decode cX9_step 271 = .ok (.istore 5, 2) := by decide +kernel
theorem dX9_step_273 : decode cX9_step 273 = .ok (.iload_n 3, 1) := by decide +kernel
theorem dX9_step_274 : decode cX9_step 274 = .ok (.iconst 5, 1) := by decide +kernel
theorem dX9_step_275 : decode cX9_step 275 = .ok (.if_icmp .ne 15, 3) := by decide +kernel
theorem dX9_step_278 : decode cX9_step 278 = .ok (.aload_n 0, 1) := by decide +kernel
theorem dX9_step_279 : decode cX9_step 279 = .ok (.iconst 2, 1) := by decide +kernel
theorem dX9_step_280 : decode cX9_step 280 = .ok (.iload 4, 2) := by decide +kernel
theorem dX9_step_282 : decode cX9_step 282 = .ok (.iload 5, 2) := by decide +kernel
theorem dX9_step_284 : decode cX9_step 284 = .ok (.invokevirtual 268, 3) := by decide +kernel
theorem dX9_step_287 : decode cX9_step 287 = .ok (.goto 7, 3) := by decide +kernel
theorem dX9_step_290 : decode cX9_step 290 = .ok (.aload_n 0, 1) := by decide +kernel
theorem dX9_step_291 : decode cX9_step 291 = .ok (.getfield 244, 3) := by decide +kernel
theorem dX9_step_294 : decode cX9_step 294 = .ok (.istore 6, 2) := by decide +kernel
theorem dX9_step_296 : decode cX9_step 296 = .ok (.aload_n 0, 1) := by decide +kernel
theorem dX9_step_297 : decode cX9_step 297 = .ok (.iload_n 3, 1) := by decide +kernel
theorem dX9_step_298 : decode cX9_step 298 = .ok (.iconst 5, 1) := by decide +kernel
theorem dX9_step_299 : decode cX9_step 299 = .ok (.if_icmp .ne 7, 3) := by decide +kernel
theorem dX9_step_302 : decode cX9_step 302 = .ok (.iconst 3, 1) := by decide +kernel
theorem dX9_step_303 : decode cX9_step 303 = .ok (.goto 4, 3) := by decide +kernel
theorem dX9_step_306 : decode cX9_step 306 = .ok (.iconst 5, 1) := by decide +kernel
theorem dX9_step_307 : decode cX9_step 307 = .ok (.iload 6, 2) := by decide +kernel
theorem dX9_step_309 : decode cX9_step 309 = .ok (.iload 4, 2) := by decide +kernel
theorem dX9_step_311 : decode cX9_step 311 = .ok (.iload 5, 2) := by decide +kernel
theorem dX9_step_313 : decode cX9_step 313 = .ok (.iload_n 1, 1) := by decide +kernel
theorem dX9_step_314 : decode cX9_step 314 = .ok (.invokevirtual 289, 3) := by decide +kernel
theorem dX9_step_317 : decode cX9_step 317 = .ok (.goto 3, 3) := by decide +kernel
theorem dX9_step_320 : decode cX9_step 320 = .ok (.return_, 1) := by decide +kernel
theorem dX9_holds_0 : decode cX9_holds 0 = .ok (.aload_n 0, 1) := by decide +kernel
theorem dX9_holds_1 : decode cX9_holds 1 = .ok (.aload_n 0, 1) := by decide +kernel
theorem dX9_holds_2 : decode cX9_holds 2 = .ok (.getfield 277, 3) := by decide +kernel
theorem dX9_holds_5 : decode cX9_holds 5 = .ok (.putfield 46, 3) := by decide +kernel
theorem dX9_holds_8 : decode cX9_holds 8 = .ok (.aload_n 0, 1) := by decide +kernel
theorem dX9_holds_9 : decode cX9_holds 9 = .ok (.aload_n 0, 1) := by decide +kernel
theorem dX9_holds_10 : decode cX9_holds 10 = .ok (.getfield 254, 3) := by decide +kernel
theorem dX9_holds_13 : decode cX9_holds 13 = .ok (.putfield 302, 3) := by decide +kernel
theorem dX9_holds_16 : decode cX9_holds 16 = .ok (.aload_n 0, 1) := by decide +kernel
theorem dX9_holds_17 : decode cX9_holds 17 = .ok (.aload_n 0, 1) := by decide +kernel
theorem dX9_holds_18 : decode cX9_holds 18 = .ok (.getfield 244, 3) := by decide +kernel
theorem dX9_holds_21 : decode cX9_holds 21 = .ok (.putfield 305, 3) := by decide +kernel
theorem dX9_holds_24 : decode cX9_holds 24 = .ok (.iconst 0, 1) := by decide +kernel
theorem dX9_holds_25 : decode cX9_holds 25 = .ok (.istore_n 1, 1) := by decide +kernel
theorem dX9_holds_26 : decode cX9_holds 26 = .ok (.iload_n 1, 1) := by decide +kernel
theorem dX9_holds_27 : decode cX9_holds 27 = .ok (.sipush 200, 3) := by decide +kernel
theorem dX9_holds_30 : decode cX9_holds 30 = .ok (.if_icmp .ge 57, 3) := by decide +kernel
theorem dX9_holds_33 : decode cX9_holds 33 = .ok (.aload_n 0, 1) := by decide +kernel
theorem dX9_holds_34 : decode cX9_holds 34 = .ok (.getfield 49, 3) := by decide +kernel
theorem dX9_holds_37 : decode cX9_holds 37 = .ok (.iload_n 1, 1) := by decide +kernel
theorem dX9_holds_38 : decode cX9_holds 38 = .ok (.aload_n 0, 1) := by decide +kernel
theorem dX9_holds_39 : decode cX9_holds 39 = .ok (.getfield 20, 3) := by decide +kernel
theorem dX9_holds_42 : decode cX9_holds 42 = .ok (.iload_n 1, 1) := by decide +kernel
theorem dX9_holds_43 : decode cX9_holds 43 = .ok (.iaload, 1) := by decide +kernel
theorem dX9_holds_44 : decode cX9_holds 44 = .ok (.iastore, 1) := by decide +kernel
theorem dX9_holds_45 : decode cX9_holds 45 = .ok (.aload_n 0, 1) := by decide +kernel
theorem dX9_holds_46 : decode cX9_holds 46 = .ok (.getfield 52, 3) := by decide +kernel
theorem dX9_holds_49 : decode cX9_holds 49 = .ok (.iload_n 1, 1) := by decide +kernel
theorem dX9_holds_50 : decode cX9_holds 50 = .ok (.aload_n 0, 1) := by decide +kernel
theorem dX9_holds_51 : decode cX9_holds 51 = .ok (.getfield 24, 3) := by decide +kernel
theorem dX9_holds_54 : decode cX9_holds 54 = .ok (.iload_n 1, 1) := by decide +kernel
theorem dX9_holds_55 : decode cX9_holds 55 = .ok (.iaload, 1) := by decide +kernel
theorem dX9_holds_56 : decode cX9_holds 56 = .ok (.iastore, 1) := by decide +kernel
theorem dX9_holds_57 : decode cX9_holds 57 = .ok (.aload_n 0, 1) := by decide +kernel
theorem dX9_holds_58 : decode cX9_holds 58 = .ok (.getfield 55, 3) := by decide +kernel
theorem dX9_holds_61 : decode cX9_holds 61 = .ok (.iload_n 1, 1) := by decide +kernel
theorem dX9_holds_62 : decode cX9_holds 62 = .ok (.aload_n 0, 1) := by decide +kernel
theorem dX9_holds_63 : decode cX9_holds 63 = .ok (.getfield 27, 3) := by decide +kernel
theorem dX9_holds_66 : decode cX9_holds 66 = .ok (.iload_n 1, 1) := by decide +kernel
theorem dX9_holds_67 : decode cX9_holds 67 = .ok (.iaload, 1) := by decide +kernel
theorem dX9_holds_68 : decode cX9_holds 68 = .ok (.iastore, 1) := by decide +kernel
theorem dX9_holds_69 : decode cX9_holds 69 = .ok (.aload_n 0, 1) := by decide +kernel
theorem dX9_holds_70 : decode cX9_holds 70 = .ok (.getfield 58, 3) := by decide +kernel
theorem dX9_holds_73 : decode cX9_holds 73 = .ok (.iload_n 1, 1) := by decide +kernel
theorem dX9_holds_74 : decode cX9_holds 74 = .ok (.aload_n 0, 1) := by decide +kernel
theorem dX9_holds_75 : decode cX9_holds 75 = .ok (.getfield 30, 3) := by decide +kernel
theorem dX9_holds_78 : decode cX9_holds 78 = .ok (.iload_n 1, 1) := by decide +kernel
theorem dX9_holds_79 : decode cX9_holds 79 = .ok (.iaload, 1) := by decide +kernel
theorem dX9_holds_80 : decode cX9_holds 80 = .ok (.iastore, 1) := by decide +kernel
theorem dX9_holds_81 : decode cX9_holds 81 = .ok (.iinc 1 1, 3) := by decide +kernel
theorem dX9_holds_84 : decode cX9_holds 84 = .ok (.goto (-58), 3) := by decide +kernel
theorem dX9_holds_87 : decode cX9_holds 87 = .ok (.iconst 0, 1) := by decide +kernel
theorem dX9_holds_88 : decode cX9_holds 88 = .ok (.istore_n 1, 1) := by decide +kernel
theorem dX9_holds_89 : decode cX9_holds 89 = .ok (.iload_n 1, 1) := by decide +kernel
theorem dX9_holds_90 : decode cX9_holds 90 = .ok (.bipush 40, 2) := by decide +kernel
theorem dX9_holds_92 : decode cX9_holds 92 = .ok (.if_icmp .ge 45, 3) := by decide +kernel
theorem dX9_holds_95 : decode cX9_holds 95 = .ok (.aload_n 0, 1) := by decide +kernel
theorem dX9_holds_96 : decode cX9_holds 96 = .ok (.getfield 61, 3) := by decide +kernel
theorem dX9_holds_99 : decode cX9_holds 99 = .ok (.iload_n 1, 1) := by decide +kernel
theorem dX9_holds_100 : decode cX9_holds 100 = .ok (.aload_n 0, 1) := by decide +kernel
theorem dX9_holds_101 : decode cX9_holds 101 = .ok (.getfield 37, 3) := by decide +kernel
theorem dX9_holds_104 : decode cX9_holds 104 = .ok (.iload_n 1, 1) := by decide +kernel
theorem dX9_holds_105 : decode cX9_holds 105 = .ok (.iaload, 1) := by decide +kernel
theorem dX9_holds_106 : decode cX9_holds 106 = .ok (.iastore, 1) := by decide +kernel
theorem dX9_holds_107 : decode cX9_holds 107 = .ok (.aload_n 0, 1) := by decide +kernel
theorem dX9_holds_108 : decode cX9_holds 108 = .ok (.getfield 64, 3) := by decide +kernel
theorem dX9_holds_111 : decode cX9_holds 111 = .ok (.iload_n 1, 1) := by decide +kernel
theorem dX9_holds_112 : decode cX9_holds 112 = .ok (.aload_n 0, 1) := by decide +kernel
theorem dX9_holds_113 : decode cX9_holds 113 = .ok (.getfield 40, 3) := by decide +kernel
theorem dX9_holds_116 : decode cX9_holds 116 = .ok (.iload_n 1, 1) := by decide +kernel
theorem dX9_holds_117 : decode cX9_holds 117 = .ok (.iaload, 1) := by decide +kernel
theorem dX9_holds_118 : decode cX9_holds 118 = .ok (.iastore, 1) := by decide +kernel
theorem dX9_holds_119 : decode cX9_holds 119 = .ok (.aload_n 0, 1) := by decide +kernel
theorem dX9_holds_120 : decode cX9_holds 120 = .ok (.getfield 67, 3) := by decide +kernel
theorem dX9_holds_123 : decode cX9_holds 123 = .ok (.iload_n 1, 1) := by decide +kernel
theorem dX9_holds_124 : decode cX9_holds 124 = .ok (.aload_n 0, 1) := by decide +kernel
theorem dX9_holds_125 : decode cX9_holds 125 = .ok (.getfield 43, 3) := by decide +kernel
theorem dX9_holds_128 : decode cX9_holds 128 = .ok (.iload_n 1, 1) := by decide +kernel
theorem dX9_holds_129 : decode cX9_holds 129 = .ok (.iaload, 1) := by decide +kernel
theorem dX9_holds_130 : decode cX9_holds 130 = .ok (.iastore, 1) := by decide +kernel
theorem dX9_holds_131 : decode cX9_holds 131 = .ok (.iinc 1 1, 3) := by decide +kernel
theorem dX9_holds_134 : decode cX9_holds 134 = .ok (.goto (-45), 3) := by decide +kernel
theorem dX9_holds_137 : decode cX9_holds 137 = .ok (.return_, 1) := by decide +kernel
theorem dX9_fault_0 : decode cX9_fault 0 = .ok (.iload_n 1, 1) := by decide +kernel
theorem dX9_fault_1 : decode cX9_fault 1 = .ok (.ifCond .ne 10, 3) := by decide +kernel
theorem dX9_fault_4 : decode cX9_fault 4 = .ok (.aload_n 0, 1) := by decide +kernel
theorem dX9_fault_5 : decode cX9_fault 5 = .ok (.getfield 13, 3) := by decide +kernel
theorem dX9_fault_8 : decode cX9_fault 8 = .ok (.goto 16, 3) := by decide +kernel
theorem dX9_fault_11 : decode cX9_fault 11 = .ok (.iload_n 1, 1) := by decide +kernel
theorem dX9_fault_12 : decode cX9_fault 12 = .ok (.iconst 1, 1) := by decide +kernel
theorem dX9_fault_13 : decode cX9_fault 13 = .ok (.if_icmp .ne 10, 3) := by decide +kernel
theorem dX9_fault_16 : decode cX9_fault 16 = .ok (.aload_n 0, 1) := by decide +kernel
theorem dX9_fault_17 : decode cX9_fault 17 = .ok (.getfield 17, 3) := by decide +kernel
theorem dX9_fault_20 : decode cX9_fault 20 = .ok (.goto 4, 3) := by decide +kernel
theorem dX9_fault_23 : decode cX9_fault 23 = .ok (.iconst (-1), 1) := by decide +kernel
theorem dX9_fault_24 : decode cX9_fault 24 = .ok (.ireturn, 1) := by decide +kernel
theorem dX9_isPerson_0 : decode cX9_isPerson 0 = .ok (.iload_n 1, 1) := by decide +kernel
theorem dX9_isPerson_1 : decode cX9_isPerson 1 = .ok (.i2l, 1) := by decide +kernel
theorem dX9_isPerson_2 : decode cX9_isPerson 2 = .ok (.lconst 0, 1) := by decide +kernel
theorem dX9_isPerson_3 : decode cX9_isPerson 3 = .ok (.aload_n 0, 1) := by decide +kernel
theorem dX9_isPerson_4 : decode cX9_isPerson 4 = .ok (.getfield 308, 3) := by decide +kernel
theorem dX9_isPerson_7 : decode cX9_isPerson 7 = .ok (.iconst 1, 1) := by decide +kernel
theorem dX9_isPerson_8 : decode cX9_isPerson 8 = .ok (.isub, 1) := by decide +kernel
theorem dX9_isPerson_9 : decode cX9_isPerson 9 = .ok (.i2l, 1) := by decide +kernel
theorem dX9_isPerson_10 : decode cX9_isPerson 10 = .ok (.invokestatic 177, 3) := by decide +kernel
theorem dX9_isPerson_13 : decode cX9_isPerson 13 = .ok (.ireturn, 1) := by decide +kernel
theorem dX9_isTask_0 : decode cX9_isTask 0 = .ok (.iload_n 1, 1) := by decide +kernel
theorem dX9_isTask_1 : decode cX9_isTask 1 = .ok (.i2l, 1) := by decide +kernel
theorem dX9_isTask_2 : decode cX9_isTask 2 = .ok (.lconst 0, 1) := by decide +kernel
theorem dX9_isTask_3 : decode cX9_isTask 3 = .ok (.aload_n 0, 1) := by decide +kernel
theorem dX9_isTask_4 : decode cX9_isTask 4 = .ok (.getfield 311, 3) := by decide +kernel
theorem dX9_isTask_7 : decode cX9_isTask 7 = .ok (.iconst 1, 1) := by decide +kernel
theorem dX9_isTask_8 : decode cX9_isTask 8 = .ok (.isub, 1) := by decide +kernel
theorem dX9_isTask_9 : decode cX9_isTask 9 = .ok (.i2l, 1) := by decide +kernel
theorem dX9_isTask_10 : decode cX9_isTask 10 = .ok (.invokestatic 177, 3) := by decide +kernel
theorem dX9_isTask_13 : decode cX9_isTask 13 = .ok (.ireturn, 1) := by decide +kernel
theorem dX9_person_0 : decode cX9_person 0 = .ok (.iload_n 1, 1) := by decide +kernel
theorem dX9_person_1 : decode cX9_person 1 = .ok (.i2l, 1) := by decide +kernel
theorem dX9_person_2 : decode cX9_person 2 = .ok (.lconst 0, 1) := by decide +kernel
theorem dX9_person_3 : decode cX9_person 3 = .ok (.ldc2_w 314, 3) := by decide +kernel
theorem dX9_person_6 : decode cX9_person 6 = .ok (.invokestatic 177, 3) := by decide +kernel
theorem dX9_person_9 : decode cX9_person 9 = .ok (.ifCond .eq 24, 3) := by decide +kernel
theorem dX9_person_12 : decode cX9_person 12 = .ok (.iload_n 2, 1) := by decide +kernel
theorem dX9_person_13 : decode cX9_person 13 = .ok (.i2l, 1) := by decide +kernel
theorem dX9_person_14 : decode cX9_person 14 = .ok (.lconst 1, 1) := by decide +kernel
theorem dX9_person_15 : decode cX9_person 15 = .ok (.ldc2_w 316, 3) := by decide +kernel
theorem dX9_person_18 : decode cX9_person 18 = .ok (.invokestatic 177, 3) := by decide +kernel
theorem dX9_person_21 : decode cX9_person 21 = .ok (.ifCond .eq 12, 3) := by decide +kernel
theorem dX9_person_24 : decode cX9_person 24 = .ok (.aload_n 0, 1) := by decide +kernel
theorem dX9_person_25 : decode cX9_person 25 = .ok (.getfield 308, 3) := by decide +kernel
theorem dX9_person_28 : decode cX9_person 28 = .ok (.bipush 8, 2) := by decide +kernel
theorem dX9_person_30 : decode cX9_person 30 = .ok (.if_icmp .ne 5, 3) := by decide +kernel
theorem dX9_person_33 : decode cX9_person 33 = .ok (.iconst (-1), 1) := by decide +kernel
theorem dX9_person_34 : decode cX9_person 34 = .ok (.ireturn, 1) := by decide +kernel
theorem dX9_person_35 : decode cX9_person 35 = .ok (.aload_n 0, 1) := by decide +kernel
theorem dX9_person_36 : decode cX9_person 36 = .ok (.getfield 152, 3) := by decide +kernel
theorem dX9_person_39 : decode cX9_person 39 = .ok (.aload_n 0, 1) := by decide +kernel
theorem dX9_person_40 : decode cX9_person 40 = .ok (.getfield 308, 3) := by decide +kernel
theorem dX9_person_43 : decode cX9_person 43 = .ok (.iload_n 1, 1) := by decide +kernel
theorem dX9_person_44 : decode cX9_person 44 = .ok (.iastore, 1) := by decide +kernel
theorem dX9_person_45 : decode cX9_person 45 = .ok (.aload_n 0, 1) := by decide +kernel
theorem dX9_person_46 : decode cX9_person 46 = .ok (.getfield 155, 3) := by decide +kernel
theorem dX9_person_49 : decode cX9_person 49 = .ok (.aload_n 0, 1) := by decide +kernel
theorem dX9_person_50 : decode cX9_person 50 = .ok (.getfield 308, 3) := by decide +kernel
theorem dX9_person_53 : decode cX9_person 53 = .ok (.iload_n 2, 1) := by decide +kernel
theorem dX9_person_54 : decode cX9_person 54 = .ok (.iastore, 1) := by decide +kernel
theorem dX9_person_55 : decode cX9_person 55 = .ok (.aload_n 0, 1) := by decide +kernel
theorem dX9_person_56 : decode cX9_person 56 = .ok (.getfield 158, 3) := by decide +kernel
theorem dX9_person_59 : decode cX9_person 59 = .ok (.aload_n 0, 1) := by decide +kernel
theorem dX9_person_60 : decode cX9_person 60 = .ok (.getfield 308, 3) := by decide +kernel
theorem dX9_person_63 : decode cX9_person 63 = .ok (.iconst (-1), 1) := by decide +kernel
theorem dX9_person_64 : decode cX9_person 64 = .ok (.iastore, 1) := by decide +kernel
theorem dX9_person_65 : decode cX9_person 65 = .ok (.aload_n 0, 1) := by decide +kernel
theorem dX9_person_66 : decode cX9_person 66 = .ok (.getfield 161, 3) := by decide +kernel
theorem dX9_person_69 : decode cX9_person 69 = .ok (.aload_n 0, 1) := by decide +kernel
theorem dX9_person_70 : decode cX9_person 70 = .ok (.getfield 308, 3) := by decide +kernel
theorem dX9_person_73 : decode cX9_person 73 = .ok (.iconst 0, 1) := by decide +kernel
theorem dX9_person_74 : decode cX9_person 74 = .ok (.bastore, 1) := by decide +kernel
theorem dX9_person_75 : decode cX9_person 75 = .ok (.aload_n 0, 1) := by decide +kernel
theorem dX9_person_76 : decode cX9_person 76 = .ok (.dup, 1) := by decide +kernel
theorem dX9_person_77 : decode cX9_person 77 = .ok (.getfield 308, 3) := by decide +kernel
theorem dX9_person_80 : decode cX9_person 80 = .ok (.iconst 1, 1) := by decide +kernel
theorem dX9_person_81 : decode cX9_person 81 = .ok (.iadd, 1) := by decide +kernel
theorem dX9_person_82 : decode cX9_person 82 = .ok (.putfield 308, 3) := by decide +kernel
theorem dX9_person_85 : decode cX9_person 85 = .ok (.aload_n 0, 1) := by decide +kernel
theorem dX9_person_86 : decode cX9_person 86 = .ok (.getfield 308, 3) := by decide +kernel
theorem dX9_person_89 : decode cX9_person 89 = .ok (.iconst 1, 1) := by decide +kernel
theorem dX9_person_90 : decode cX9_person 90 = .ok (.isub, 1) := by decide +kernel
theorem dX9_person_91 : decode cX9_person 91 = .ok (.ireturn, 1) := by decide +kernel
theorem dX9_stands_0 : decode cX9_stands 0 = .ok (.aload_n 0, 1) := by decide +kernel
theorem dX9_stands_1 : decode cX9_stands 1 = .ok (.iload_n 1, 1) := by decide +kernel
theorem dX9_stands_2 : decode cX9_stands 2 = .ok (.invokevirtual 318, 3) := by decide +kernel
theorem dX9_stands_5 : decode cX9_stands 5 = .ok (.ifCond .ne 5, 3) := by decide +kernel
theorem dX9_stands_8 : decode cX9_stands 8 = .ok (.iconst (-1), 1) := by decide +kernel
theorem dX9_stands_9 : decode cX9_stands 9 = .ok (.ireturn, 1) := by decide +kernel
theorem dX9_stands_10 : decode cX9_stands 10 = .ok (.iload_n 1, 1) := by decide +kernel
theorem dX9_stands_11 : decode cX9_stands 11 = .ok (.istore_n 2, 1) := by decide +kernel
theorem dX9_stands_12 : decode cX9_stands 12 = .ok (.iconst 0, 1) := by decide +kernel
theorem dX9_stands_13 : decode cX9_stands 13 = .ok (.istore_n 3, 1) := by decide +kernel
theorem dX9_stands_14 : decode cX9_stands 14 = .ok (.iload_n 3, 1) := by decide +kernel
theorem dX9_stands_15 : decode cX9_stands 15 = .ok (.bipush 8, 2) := by decide +kernel
theorem dX9_stands_17 : decode cX9_stands 17 = .ok (.if_icmp .ge 29, 3) := by decide +kernel
theorem dX9_stands_20 : decode cX9_stands 20 = .ok (.iload_n 2, 1) := by decide +kernel
theorem dX9_stands_21 : decode cX9_stands 21 = .ok (.ifCond .lt 25, 3) := by decide +kernel
theorem dX9_stands_24 : decode cX9_stands 24 = .ok (.aload_n 0, 1) := by decide +kernel
theorem dX9_stands_25 : decode cX9_stands 25 = .ok (.getfield 161, 3) := by decide +kernel
theorem dX9_stands_28 : decode cX9_stands 28 = .ok (.iload_n 2, 1) := by decide +kernel
theorem dX9_stands_29 : decode cX9_stands 29 = .ok (.baload, 1) := by decide +kernel
theorem dX9_stands_30 : decode cX9_stands 30 = .ok (.ifCond .eq 16, 3) := by decide +kernel
theorem dX9_stands_33 : decode cX9_stands 33 = .ok (.aload_n 0, 1) := by decide +kernel
theorem dX9_stands_34 : decode cX9_stands 34 = .ok (.getfield 158, 3) := by decide +kernel
theorem dX9_stands_37 : decode cX9_stands 37 = .ok (.iload_n 2, 1) := by decide +kernel
theorem dX9_stands_38 : decode cX9_stands 38 = .ok (.iaload, 1) := by decide +kernel
theorem dX9_stands_39 : decode cX9_stands 39 = .ok (.istore_n 2, 1) := by decide +kernel
theorem dX9_stands_40 : decode cX9_stands 40 = .ok (.iinc 3 1, 3) := by decide +kernel
theorem dX9_stands_43 : decode cX9_stands 43 = .ok (.goto (-29), 3) := by decide +kernel
theorem dX9_stands_46 : decode cX9_stands 46 = .ok (.iload_n 2, 1) := by decide +kernel
theorem dX9_stands_47 : decode cX9_stands 47 = .ok (.ifCond .lt 16, 3) := by decide +kernel
theorem dX9_stands_50 : decode cX9_stands 50 = .ok (.aload_n 0, 1) := by decide +kernel
theorem dX9_stands_51 : decode cX9_stands 51 = .ok (.getfield 161, 3) := by decide +kernel
theorem dX9_stands_54 : decode cX9_stands 54 = .ok (.iload_n 2, 1) := by decide +kernel
theorem dX9_stands_55 : decode cX9_stands 55 = .ok (.baload, 1) := by decide +kernel
theorem dX9_stands_56 : decode cX9_stands 56 = .ok (.ifCond .eq 7, 3) := by decide +kernel
theorem dX9_stands_59 : decode cX9_stands 59 = .ok (.iconst (-1), 1) := by decide +kernel
theorem dX9_stands_60 : decode cX9_stands 60 = .ok (.goto 4, 3) := by decide +kernel
theorem dX9_stands_63 : decode cX9_stands 63 = .ok (.iload_n 2, 1) := by decide +kernel
theorem dX9_stands_64 : decode cX9_stands 64 = .ok (.ireturn, 1) := by decide +kernel
theorem dX9_hour_0 : decode cX9_hour 0 = .ok (.iload_n 1, 1) := by decide +kernel
theorem dX9_hour_1 : decode cX9_hour 1 = .ok (.i2l, 1) := by decide +kernel
theorem dX9_hour_2 : decode cX9_hour 2 = .ok (.aload_n 0, 1) := by decide +kernel
theorem dX9_hour_3 : decode cX9_hour 3 = .ok (.getfield 321, 3) := by decide +kernel
theorem dX9_hour_6 : decode cX9_hour 6 = .ok (.i2l, 1) := by decide +kernel
theorem dX9_hour_7 : decode cX9_hour 7 = .ok (.ldc2_w 324, 3) := by decide +kernel
theorem dX9_hour_10 : decode cX9_hour 10 = .ok (.invokestatic 177, 3) := by decide +kernel
theorem dX9_hour_13 : decode cX9_hour 13 = .ok (.ifCond .ne 5, 3) := by decide +kernel
theorem dX9_hour_16 : decode cX9_hour 16 = .ok (.iconst 0, 1) := by decide +kernel
theorem dX9_hour_17 : decode cX9_hour 17 = .ok (.ireturn, 1) := by decide +kernel
theorem dX9_hour_18 : decode cX9_hour 18 = .ok (.aload_n 0, 1) := by decide +kernel
theorem dX9_hour_19 : decode cX9_hour 19 = .ok (.iload_n 1, 1) := by decide +kernel
theorem dX9_hour_20 : decode cX9_hour 20 = .ok (.putfield 321, 3) := by decide +kernel
theorem dX9_hour_23 : decode cX9_hour 23 = .ok (.iconst 1, 1) := by decide +kernel
theorem dX9_hour_24 : decode cX9_hour 24 = .ok (.ireturn, 1) := by decide +kernel
theorem dX9_isWorking_0 : decode cX9_isWorking 0 = .ok (.iload_n 0, 1) := by decide +kernel
theorem dX9_isWorking_1 : decode cX9_isWorking 1 = .ok (.bipush 24, 2) := by decide +kernel
theorem dX9_isWorking_3 : decode cX9_isWorking 3 = .ok (.idiv, 1) := by decide +kernel
theorem dX9_isWorking_4 : decode cX9_isWorking 4 = .ok (.bipush 7, 2) := by decide +kernel
theorem dX9_isWorking_6 : decode cX9_isWorking 6 = .ok (.irem, 1) := by decide +kernel
theorem dX9_isWorking_7 : decode cX9_isWorking 7 = .ok (.iconst 5, 1) := by decide +kernel
theorem dX9_isWorking_8 : decode cX9_isWorking 8 = .ok (.if_icmp .ge 25, 3) := by decide +kernel
theorem dX9_isWorking_11 : decode cX9_isWorking 11 = .ok (.iload_n 0, 1) := by decide +kernel
theorem dX9_isWorking_12 : decode cX9_isWorking 12 = .ok (.bipush 24, 2) := by decide +kernel
theorem dX9_isWorking_14 : decode cX9_isWorking 14 = .ok (.irem, 1) := by decide +kernel
theorem dX9_isWorking_15 : decode cX9_isWorking 15 = .ok (.bipush 9, 2) := by decide +kernel
theorem dX9_isWorking_17 : decode cX9_isWorking 17 = .ok (.if_icmp .lt 16, 3) := by decide +kernel
theorem dX9_isWorking_20 : decode cX9_isWorking 20 = .ok (.iload_n 0, 1) := by decide +kernel
theorem dX9_isWorking_21 : decode cX9_isWorking 21 = .ok (.bipush 24, 2) := by decide +kernel
theorem dX9_isWorking_23 : decode cX9_isWorking 23 = .ok (.irem, 1) := by decide +kernel
theorem dX9_isWorking_24 : decode cX9_isWorking 24 = .ok (.bipush 16, 2) := by decide +kernel
theorem dX9_isWorking_26 : decode cX9_isWorking 26 = .ok (.if_icmp .gt 7, 3) := by decide +kernel
theorem dX9_isWorking_29 : decode cX9_isWorking 29 = .ok (.iconst 1, 1) := by decide +kernel
theorem dX9_isWorking_30 : decode cX9_isWorking 30 = .ok (.goto 4, 3) := by decide +kernel
theorem dX9_isWorking_33 : decode cX9_isWorking 33 = .ok (.iconst 0, 1) := by decide +kernel
theorem dX9_isWorking_34 : decode cX9_isWorking 34 = .ok (.ireturn, 1) := by decide +kernel
theorem dX9_goes_0 : decode cX9_goes 0 = .ok (.iconst 1, 1) := by decide +kernel
theorem dX9_goes_1 : decode cX9_goes 1 = .ok (.istore_n 3, 1) := by decide +kernel
theorem dX9_goes_2 : decode cX9_goes 2 = .ok (.aload_n 0, 1) := by decide +kernel
theorem dX9_goes_3 : decode cX9_goes 3 = .ok (.getfield 164, 3) := by decide +kernel
theorem dX9_goes_6 : decode cX9_goes 6 = .ok (.iconst 0, 1) := by decide +kernel
theorem dX9_goes_7 : decode cX9_goes 7 = .ok (.iload_n 2, 1) := by decide +kernel
theorem dX9_goes_8 : decode cX9_goes 8 = .ok (.iastore, 1) := by decide +kernel
theorem dX9_goes_9 : decode cX9_goes 9 = .ok (.iload_n 3, 1) := by decide +kernel
theorem dX9_goes_10 : decode cX9_goes 10 = .ok (.ifCond .le 365, 3) := by decide +kernel
theorem dX9_goes_13 : decode cX9_goes 13 = .ok (.iinc 3 (-1), 3) := by decide +kernel
theorem dX9_goes_16 : decode cX9_goes 16 = .ok (.aload_n 0, 1) := by decide +kernel
theorem dX9_goes_17 : decode cX9_goes 17 = .ok (.getfield 164, 3) := by decide +kernel
theorem dX9_goes_20 : decode cX9_goes 20 = .ok (.iload_n 3, 1) := by decide +kernel
theorem dX9_goes_21 : decode cX9_goes 21 = .ok (.iaload, 1) := by decide +kernel
theorem dX9_goes_22 : decode cX9_goes 22 = .ok (.istore 4, 2) := by decide +kernel
theorem dX9_goes_24 : decode cX9_goes 24 = .ok (.iconst 1, 1) := by decide +kernel
theorem dX9_goes_25 : decode cX9_goes 25 = .ok (.istore 5, 2) := by decide +kernel
theorem dX9_goes_27 : decode cX9_goes 27 = .ok (.iload 5, 2) := by decide +kernel
theorem dX9_goes_29 : decode cX9_goes 29 = .ok (.ifCond .eq 343, 3) := by decide +kernel
theorem dX9_goes_32 : decode cX9_goes 32 = .ok (.iload 4, 2) := by decide +kernel
theorem dX9_goes_34 : decode cX9_goes 34 = .ok (.aload_n 0, 1) := by decide +kernel
theorem dX9_goes_35 : decode cX9_goes 35 = .ok (.getfield 89, 3) := by decide +kernel
theorem dX9_goes_38 : decode cX9_goes 38 = .ok (.iload_n 1, 1) := by decide +kernel
theorem dX9_goes_39 : decode cX9_goes 39 = .ok (.iaload, 1) := by decide +kernel
theorem dX9_goes_40 : decode cX9_goes 40 = .ok (.if_icmp .ne 16, 3) := by decide +kernel
theorem dX9_goes_43 : decode cX9_goes 43 = .ok (.aload_n 0, 1) := by decide +kernel
theorem dX9_goes_44 : decode cX9_goes 44 = .ok (.getfield 119, 3) := by decide +kernel
theorem dX9_goes_47 : decode cX9_goes 47 = .ok (.iload_n 1, 1) := by decide +kernel
theorem dX9_goes_48 : decode cX9_goes 48 = .ok (.iconst 1, 1) := by decide +kernel
theorem dX9_goes_49 : decode cX9_goes 49 = .ok (.bastore, 1) := by decide +kernel
theorem dX9_goes_50 : decode cX9_goes 50 = .ok (.iconst 0, 1) := by decide +kernel
theorem dX9_goes_51 : decode cX9_goes 51 = .ok (.istore 5, 2) := by decide +kernel
theorem dX9_goes_53 : decode cX9_goes 53 = .ok (.goto (-26), 3) := by decide +kernel
theorem dX9_goes_56 : decode cX9_goes 56 = .ok (.sipush 200, 3) := by decide +kernel
theorem dX9_goes_59 : decode cX9_goes 59 = .ok (.iload_n 1, 1) := by decide +kernel
theorem dX9_goes_60 : decode cX9_goes 60 = .ok (.imul, 1) := by decide +kernel
theorem dX9_goes_61 : decode cX9_goes 61 = .ok (.iload 4, 2) := by decide +kernel
theorem dX9_goes_63 : decode cX9_goes 63 = .ok (.iadd, 1) := by decide +kernel
theorem dX9_goes_64 : decode cX9_goes 64 = .ok (.istore 6, 2) := by decide +kernel
theorem dX9_goes_66 : decode cX9_goes 66 = .ok (.iinc 4 1, 3) := by decide +kernel
theorem dX9_goes_69 : decode cX9_goes 69 = .ok (.aload_n 0, 1) := by decide +kernel
theorem dX9_goes_70 : decode cX9_goes 70 = .ok (.getfield 92, 3) := by decide +kernel
theorem dX9_goes_73 : decode cX9_goes 73 = .ok (.iload 6, 2) := by decide +kernel
theorem dX9_goes_75 : decode cX9_goes 75 = .ok (.iaload, 1) := by decide +kernel
theorem dX9_goes_76 : decode cX9_goes 76 = .ok (.tableswitch 215 0 5 #[40, 72, 98, 141, 153, 196], 40) := by decide +kernel
theorem dX9_goes_116 : decode cX9_goes 116 = .ok (.aload_n 0, 1) := by decide +kernel
theorem dX9_goes_117 : decode cX9_goes 117 = .ok (.getfield 311, 3) := by decide +kernel
theorem dX9_goes_120 : decode cX9_goes 120 = .ok (.sipush 200, 3) := by decide +kernel
theorem dX9_goes_123 : decode cX9_goes 123 = .ok (.if_icmp .ne 5, 3) := by decide +kernel
theorem dX9_goes_126 : decode cX9_goes 126 = .ok (.iconst 0, 1) := by decide +kernel
theorem dX9_goes_127 : decode cX9_goes 127 = .ok (.ireturn, 1) := by decide +kernel
theorem dX9_goes_128 : decode cX9_goes 128 = .ok (.aload_n 0, 1) := by decide +kernel
theorem dX9_goes_129 : decode cX9_goes 129 = .ok (.iload_n 1, 1) := by decide +kernel
theorem dX9_goes_130 : decode cX9_goes 130 = .ok (.aload_n 0, 1) := by decide +kernel
theorem dX9_goes_131 : decode cX9_goes 131 = .ok (.getfield 95, 3) := by decide +kernel
theorem dX9_goes_134 : decode cX9_goes 134 = .ok (.iload 6, 2) := by decide +kernel
theorem dX9_goes_136 : decode cX9_goes 136 = .ok (.iaload, 1) := by decide +kernel
theorem dX9_goes_137 : decode cX9_goes 137 = .ok (.iload 4, 2) := by decide +kernel
theorem dX9_goes_139 : decode cX9_goes 139 = .ok (.invokevirtual 335, 3) := by decide +kernel
theorem dX9_goes_142 : decode cX9_goes 142 = .ok (.iconst 0, 1) := by decide +kernel
theorem dX9_goes_143 : decode cX9_goes 143 = .ok (.istore 5, 2) := by decide +kernel
theorem dX9_goes_145 : decode cX9_goes 145 = .ok (.goto 224, 3) := by decide +kernel
theorem dX9_goes_148 : decode cX9_goes 148 = .ok (.aload_n 0, 1) := by decide +kernel
theorem dX9_goes_149 : decode cX9_goes 149 = .ok (.getfield 113, 3) := by decide +kernel
theorem dX9_goes_152 : decode cX9_goes 152 = .ok (.iconst 4, 1) := by decide +kernel
theorem dX9_goes_153 : decode cX9_goes 153 = .ok (.iload_n 1, 1) := by decide +kernel
theorem dX9_goes_154 : decode cX9_goes 154 = .ok (.imul, 1) := by decide +kernel
theorem dX9_goes_155 : decode cX9_goes 155 = .ok (.aload_n 0, 1) := by decide +kernel
theorem dX9_goes_156 : decode cX9_goes 156 = .ok (.getfield 95, 3) := by decide +kernel
theorem dX9_goes_159 : decode cX9_goes 159 = .ok (.iload 6, 2) := by decide +kernel
theorem dX9_goes_161 : decode cX9_goes 161 = .ok (.iaload, 1) := by decide +kernel
theorem dX9_goes_162 : decode cX9_goes 162 = .ok (.iadd, 1) := by decide +kernel
theorem dX9_goes_163 : decode cX9_goes 163 = .ok (.aload_n 0, 1) := by decide +kernel
theorem dX9_goes_164 : decode cX9_goes 164 = .ok (.getfield 98, 3) := by decide +kernel
theorem dX9_goes_167 : decode cX9_goes 167 = .ok (.iload 6, 2) := by decide +kernel
theorem dX9_goes_169 : decode cX9_goes 169 = .ok (.iaload, 1) := by decide +kernel
theorem dX9_goes_170 : decode cX9_goes 170 = .ok (.iastore, 1) := by decide +kernel
theorem dX9_goes_171 : decode cX9_goes 171 = .ok (.goto 198, 3) := by decide +kernel
theorem dX9_goes_174 : decode cX9_goes 174 = .ok (.aload_n 0, 1) := by decide +kernel
theorem dX9_goes_175 : decode cX9_goes 175 = .ok (.getfield 113, 3) := by decide +kernel
theorem dX9_goes_178 : decode cX9_goes 178 = .ok (.iconst 4, 1) := by decide +kernel
theorem dX9_goes_179 : decode cX9_goes 179 = .ok (.iload_n 1, 1) := by decide +kernel
theorem dX9_goes_180 : decode cX9_goes 180 = .ok (.imul, 1) := by decide +kernel
theorem dX9_goes_181 : decode cX9_goes 181 = .ok (.aload_n 0, 1) := by decide +kernel
theorem dX9_goes_182 : decode cX9_goes 182 = .ok (.getfield 95, 3) := by decide +kernel
theorem dX9_goes_185 : decode cX9_goes 185 = .ok (.iload 6, 2) := by decide +kernel
theorem dX9_goes_187 : decode cX9_goes 187 = .ok (.iaload, 1) := by decide +kernel
theorem dX9_goes_188 : decode cX9_goes 188 = .ok (.iadd, 1) := by decide +kernel
theorem dX9_goes_189 : decode cX9_goes 189 = .ok (.iaload, 1) := by decide +kernel
theorem dX9_goes_190 : decode cX9_goes 190 = .ok (.aload_n 0, 1) := by decide +kernel
theorem dX9_goes_191 : decode cX9_goes 191 = .ok (.getfield 98, 3) := by decide +kernel
theorem dX9_goes_194 : decode cX9_goes 194 = .ok (.iload 6, 2) := by decide +kernel
theorem dX9_goes_196 : decode cX9_goes 196 = .ok (.iaload, 1) := by decide +kernel
theorem dX9_goes_197 : decode cX9_goes 197 = .ok (.if_icmp .ge 8, 3) := by decide +kernel
theorem dX9_goes_200 : decode cX9_goes 200 = .ok (.iload 4, 2) := by decide +kernel
theorem dX9_goes_202 : decode cX9_goes 202 = .ok (.goto 10, 3) := by decide +kernel
theorem dX9_goes_205 : decode cX9_goes 205 = .ok (.aload_n 0, 1) := by decide +kernel
theorem dX9_goes_206 : decode cX9_goes 206 = .ok (.getfield 101, 3) := by decide +kernel
theorem dX9_goes_209 : decode cX9_goes 209 = .ok (.iload 6, 2) := by decide +kernel
theorem dX9_goes_211 : decode cX9_goes 211 = .ok (.iaload, 1) := by decide +kernel
theorem dX9_goes_212 : decode cX9_goes 212 = .ok (.istore 4, 2) := by decide +kernel
theorem dX9_goes_214 : decode cX9_goes 214 = .ok (.goto 155, 3) := by decide +kernel
theorem dX9_goes_217 : decode cX9_goes 217 = .ok (.aload_n 0, 1) := by decide +kernel
theorem dX9_goes_218 : decode cX9_goes 218 = .ok (.getfield 101, 3) := by decide +kernel
theorem dX9_goes_221 : decode cX9_goes 221 = .ok (.iload 6, 2) := by decide +kernel
theorem dX9_goes_223 : decode cX9_goes 223 = .ok (.iaload, 1) := by decide +kernel
theorem dX9_goes_224 : decode cX9_goes 224 = .ok (.istore 4, 2) := by decide +kernel
theorem dX9_goes_226 : decode cX9_goes 226 = .ok (.goto 143, 3) := by decide +kernel
theorem dX9_goes_229 : decode cX9_goes 229 = .ok (.aload_n 0, 1) := by decide +kernel
theorem dX9_goes_230 : decode cX9_goes 230 = .ok (.getfield 113, 3) := by decide +kernel
theorem dX9_goes_233 : decode cX9_goes 233 = .ok (.iconst 4, 1) := by decide +kernel
theorem dX9_goes_234 : decode cX9_goes 234 = .ok (.iload_n 1, 1) := by decide +kernel
theorem dX9_goes_235 : decode cX9_goes 235 = .ok (.imul, 1) := by decide +kernel
theorem dX9_goes_236 : decode cX9_goes 236 = .ok (.aload_n 0, 1) := by decide +kernel
theorem dX9_goes_237 : decode cX9_goes 237 = .ok (.getfield 95, 3) := by decide +kernel
theorem dX9_goes_240 : decode cX9_goes 240 = .ok (.iload 6, 2) := by decide +kernel
theorem dX9_goes_242 : decode cX9_goes 242 = .ok (.iaload, 1) := by decide +kernel
theorem dX9_goes_243 : decode cX9_goes 243 = .ok (.iadd, 1) := by decide +kernel
theorem dX9_goes_244 : decode cX9_goes 244 = .ok (.iaload, 1) := by decide +kernel
theorem dX9_goes_245 : decode cX9_goes 245 = .ok (.aload_n 0, 1) := by decide +kernel
theorem dX9_goes_246 : decode cX9_goes 246 = .ok (.getfield 98, 3) := by decide +kernel
theorem dX9_goes_249 : decode cX9_goes 249 = .ok (.iload 6, 2) := by decide +kernel
theorem dX9_goes_251 : decode cX9_goes 251 = .ok (.iaload, 1) := by decide +kernel
theorem dX9_goes_252 : decode cX9_goes 252 = .ok (.if_icmp .ge 13, 3) := by decide +kernel
theorem dX9_goes_255 : decode cX9_goes 255 = .ok (.aload_n 0, 1) := by decide +kernel
theorem dX9_goes_256 : decode cX9_goes 256 = .ok (.getfield 101, 3) := by decide +kernel
theorem dX9_goes_259 : decode cX9_goes 259 = .ok (.iload 6, 2) := by decide +kernel
theorem dX9_goes_261 : decode cX9_goes 261 = .ok (.iaload, 1) := by decide +kernel
theorem dX9_goes_262 : decode cX9_goes 262 = .ok (.goto 5, 3) := by decide +kernel
theorem dX9_goes_265 : decode cX9_goes 265 = .ok (.iload 4, 2) := by decide +kernel
theorem dX9_goes_267 : decode cX9_goes 267 = .ok (.istore 4, 2) := by decide +kernel
theorem dX9_goes_269 : decode cX9_goes 269 = .ok (.goto 100, 3) := by decide +kernel
theorem dX9_goes_272 : decode cX9_goes 272 = .ok (.aload_n 0, 1) := by decide +kernel
theorem dX9_goes_273 : decode cX9_goes 273 = .ok (.getfield 164, 3) := by decide +kernel
theorem dX9_goes_276 : decode cX9_goes 276 = .ok (.iload_n 3, 1) := by decide +kernel
theorem dX9_goes_277 : decode cX9_goes 277 = .ok (.aload_n 0, 1) := by decide +kernel
theorem dX9_goes_278 : decode cX9_goes 278 = .ok (.getfield 101, 3) := by decide +kernel
theorem dX9_goes_281 : decode cX9_goes 281 = .ok (.iload 6, 2) := by decide +kernel
theorem dX9_goes_283 : decode cX9_goes 283 = .ok (.iaload, 1) := by decide +kernel
theorem dX9_goes_284 : decode cX9_goes 284 = .ok (.iastore, 1) := by decide +kernel
theorem dX9_goes_285 : decode cX9_goes 285 = .ok (.iinc 3 1, 3) := by decide +kernel
theorem dX9_goes_288 : decode cX9_goes 288 = .ok (.goto 81, 3) := by decide +kernel
theorem dX9_goes_291 : decode cX9_goes 291 = .ok (.bipush 40, 2) := by decide +kernel
theorem dX9_goes_293 : decode cX9_goes 293 = .ok (.iload_n 1, 1) := by decide +kernel
theorem dX9_goes_294 : decode cX9_goes 294 = .ok (.imul, 1) := by decide +kernel
theorem dX9_goes_295 : decode cX9_goes 295 = .ok (.aload_n 0, 1) := by decide +kernel
theorem dX9_goes_296 : decode cX9_goes 296 = .ok (.getfield 95, 3) := by decide +kernel
theorem dX9_goes_299 : decode cX9_goes 299 = .ok (.iload 6, 2) := by decide +kernel
theorem dX9_goes_301 : decode cX9_goes 301 = .ok (.iaload, 1) := by decide +kernel
theorem dX9_goes_302 : decode cX9_goes 302 = .ok (.iadd, 1) := by decide +kernel
theorem dX9_goes_303 : decode cX9_goes 303 = .ok (.istore 7, 2) := by decide +kernel
theorem dX9_goes_305 : decode cX9_goes 305 = .ok (.aload_n 0, 1) := by decide +kernel
theorem dX9_goes_306 : decode cX9_goes 306 = .ok (.getfield 116, 3) := by decide +kernel
theorem dX9_goes_309 : decode cX9_goes 309 = .ok (.iload 7, 2) := by decide +kernel
theorem dX9_goes_311 : decode cX9_goes 311 = .ok (.dup2, 1) := by decide +kernel
theorem dX9_goes_312 : decode cX9_goes 312 = .ok (.iaload, 1) := by decide +kernel
theorem dX9_goes_313 : decode cX9_goes 313 = .ok (.iconst 1, 1) := by decide +kernel
theorem dX9_goes_314 : decode cX9_goes 314 = .ok (.iadd, 1) := by decide +kernel
theorem dX9_goes_315 : decode cX9_goes 315 = .ok (.iastore, 1) := by decide +kernel
theorem dX9_goes_316 : decode cX9_goes 316 = .ok (.aload_n 0, 1) := by decide +kernel
theorem dX9_goes_317 : decode cX9_goes 317 = .ok (.getfield 116, 3) := by decide +kernel
theorem dX9_goes_320 : decode cX9_goes 320 = .ok (.iload 7, 2) := by decide +kernel
theorem dX9_goes_322 : decode cX9_goes 322 = .ok (.iaload, 1) := by decide +kernel
theorem dX9_goes_323 : decode cX9_goes 323 = .ok (.iconst 2, 1) := by decide +kernel
theorem dX9_goes_324 : decode cX9_goes 324 = .ok (.if_icmp .ne 7, 3) := by decide +kernel
theorem dX9_goes_327 : decode cX9_goes 327 = .ok (.iconst 1, 1) := by decide +kernel
theorem dX9_goes_328 : decode cX9_goes 328 = .ok (.goto 4, 3) := by decide +kernel
theorem dX9_goes_331 : decode cX9_goes 331 = .ok (.iconst 0, 1) := by decide +kernel
theorem dX9_goes_332 : decode cX9_goes 332 = .ok (.istore 5, 2) := by decide +kernel
theorem dX9_goes_334 : decode cX9_goes 334 = .ok (.aload_n 0, 1) := by decide +kernel
theorem dX9_goes_335 : decode cX9_goes 335 = .ok (.getfield 116, 3) := by decide +kernel
theorem dX9_goes_338 : decode cX9_goes 338 = .ok (.iload 7, 2) := by decide +kernel
theorem dX9_goes_340 : decode cX9_goes 340 = .ok (.iload 5, 2) := by decide +kernel
theorem dX9_goes_342 : decode cX9_goes 342 = .ok (.ifCond .eq 7, 3) := by decide +kernel
theorem dX9_goes_345 : decode cX9_goes 345 = .ok (.iconst 0, 1) := by decide +kernel
theorem dX9_goes_346 : decode cX9_goes 346 = .ok (.goto 10, 3) := by decide +kernel
theorem dX9_goes_349 : decode cX9_goes 349 = .ok (.aload_n 0, 1) := by decide +kernel
theorem dX9_goes_350 : decode cX9_goes 350 = .ok (.getfield 116, 3) := by decide +kernel
theorem dX9_goes_353 : decode cX9_goes 353 = .ok (.iload 7, 2) := by decide +kernel
theorem dX9_goes_355 : decode cX9_goes 355 = .ok (.iaload, 1) := by decide +kernel
theorem dX9_goes_356 : decode cX9_goes 356 = .ok (.iastore, 1) := by decide +kernel
theorem dX9_goes_357 : decode cX9_goes 357 = .ok (.aload_n 0, 1) := by decide +kernel
theorem dX9_goes_358 : decode cX9_goes 358 = .ok (.getfield 101, 3) := by decide +kernel
theorem dX9_goes_361 : decode cX9_goes 361 = .ok (.iload 6, 2) := by decide +kernel
theorem dX9_goes_363 : decode cX9_goes 363 = .ok (.iaload, 1) := by decide +kernel
theorem dX9_goes_364 : decode cX9_goes 364 = .ok (.istore 4, 2) := by decide +kernel
theorem dX9_goes_366 : decode cX9_goes 366 = .ok (.goto 3, 3) := by decide +kernel
theorem dX9_goes_369 : decode cX9_goes 369 = .ok (.goto (-342), 3) := by decide +kernel
theorem dX9_goes_372 : decode cX9_goes 372 = .ok (.goto (-363), 3) := by decide +kernel
theorem dX9_goes_375 : decode cX9_goes 375 = .ok (.iconst 1, 1) := by decide +kernel
theorem dX9_goes_376 : decode cX9_goes 376 = .ok (.ireturn, 1) := by decide +kernel
theorem dX9_run_0 : decode cX9_run 0 = .ok (.aload_n 0, 1) := by decide +kernel
theorem dX9_run_1 : decode cX9_run 1 = .ok (.getfield 46, 3) := by decide +kernel
theorem dX9_run_4 : decode cX9_run 4 = .ok (.ifCond .lt 12, 3) := by decide +kernel
theorem dX9_run_7 : decode cX9_run 7 = .ok (.aload_n 0, 1) := by decide +kernel
theorem dX9_run_8 : decode cX9_run 8 = .ok (.getfield 339, 3) := by decide +kernel
theorem dX9_run_11 : decode cX9_run 11 = .ok (.bipush 8, 2) := by decide +kernel
theorem dX9_run_13 : decode cX9_run 13 = .ok (.if_icmp .ne 5, 3) := by decide +kernel
theorem dX9_run_16 : decode cX9_run 16 = .ok (.iconst (-1), 1) := by decide +kernel
theorem dX9_run_17 : decode cX9_run 17 = .ok (.ireturn, 1) := by decide +kernel
theorem dX9_run_18 : decode cX9_run 18 = .ok (.aload_n 0, 1) := by decide +kernel
theorem dX9_run_19 : decode cX9_run 19 = .ok (.getfield 339, 3) := by decide +kernel
theorem dX9_run_22 : decode cX9_run 22 = .ok (.istore_n 1, 1) := by decide +kernel
theorem dX9_run_23 : decode cX9_run 23 = .ok (.aload_n 0, 1) := by decide +kernel
theorem dX9_run_24 : decode cX9_run 24 = .ok (.getfield 89, 3) := by decide +kernel
theorem dX9_run_27 : decode cX9_run 27 = .ok (.iload_n 1, 1) := by decide +kernel
theorem dX9_run_28 : decode cX9_run 28 = .ok (.aload_n 0, 1) := by decide +kernel
theorem dX9_run_29 : decode cX9_run 29 = .ok (.getfield 305, 3) := by decide +kernel
theorem dX9_run_32 : decode cX9_run 32 = .ok (.iastore, 1) := by decide +kernel
theorem dX9_run_33 : decode cX9_run 33 = .ok (.aload_n 0, 1) := by decide +kernel
theorem dX9_run_34 : decode cX9_run 34 = .ok (.getfield 119, 3) := by decide +kernel
theorem dX9_run_37 : decode cX9_run 37 = .ok (.iload_n 1, 1) := by decide +kernel
theorem dX9_run_38 : decode cX9_run 38 = .ok (.iconst 0, 1) := by decide +kernel
theorem dX9_run_39 : decode cX9_run 39 = .ok (.bastore, 1) := by decide +kernel
theorem dX9_run_40 : decode cX9_run 40 = .ok (.iconst 0, 1) := by decide +kernel
theorem dX9_run_41 : decode cX9_run 41 = .ok (.istore_n 2, 1) := by decide +kernel
theorem dX9_run_42 : decode cX9_run 42 = .ok (.iload_n 2, 1) := by decide +kernel
theorem dX9_run_43 : decode cX9_run 43 = .ok (.sipush 200, 3) := by decide +kernel
theorem dX9_run_46 : decode cX9_run 46 = .ok (.if_icmp .ge 81, 3) := by decide +kernel
theorem dX9_run_49 : decode cX9_run 49 = .ok (.aload_n 0, 1) := by decide +kernel
theorem dX9_run_50 : decode cX9_run 50 = .ok (.getfield 92, 3) := by decide +kernel
theorem dX9_run_53 : decode cX9_run 53 = .ok (.sipush 200, 3) := by decide +kernel
theorem dX9_run_56 : decode cX9_run 56 = .ok (.iload_n 1, 1) := by decide +kernel
theorem dX9_run_57 : decode cX9_run 57 = .ok (.imul, 1) := by decide +kernel
theorem dX9_run_58 : decode cX9_run 58 = .ok (.iload_n 2, 1) := by decide +kernel
theorem dX9_run_59 : decode cX9_run 59 = .ok (.iadd, 1) := by decide +kernel
theorem dX9_run_60 : decode cX9_run 60 = .ok (.aload_n 0, 1) := by decide +kernel
theorem dX9_run_61 : decode cX9_run 61 = .ok (.getfield 49, 3) := by decide +kernel
theorem dX9_run_64 : decode cX9_run 64 = .ok (.iload_n 2, 1) := by decide +kernel
theorem dX9_run_65 : decode cX9_run 65 = .ok (.iaload, 1) := by decide +kernel
theorem dX9_run_66 : decode cX9_run 66 = .ok (.iastore, 1) := by decide +kernel
theorem dX9_run_67 : decode cX9_run 67 = .ok (.aload_n 0, 1) := by decide +kernel
theorem dX9_run_68 : decode cX9_run 68 = .ok (.getfield 95, 3) := by decide +kernel
theorem dX9_run_71 : decode cX9_run 71 = .ok (.sipush 200, 3) := by decide +kernel
theorem dX9_run_74 : decode cX9_run 74 = .ok (.iload_n 1, 1) := by decide +kernel
theorem dX9_run_75 : decode cX9_run 75 = .ok (.imul, 1) := by decide +kernel
theorem dX9_run_76 : decode cX9_run 76 = .ok (.iload_n 2, 1) := by decide +kernel
theorem dX9_run_77 : decode cX9_run 77 = .ok (.iadd, 1) := by decide +kernel
theorem dX9_run_78 : decode cX9_run 78 = .ok (.aload_n 0, 1) := by decide +kernel
theorem dX9_run_79 : decode cX9_run 79 = .ok (.getfield 52, 3) := by decide +kernel
theorem dX9_run_82 : decode cX9_run 82 = .ok (.iload_n 2, 1) := by decide +kernel
theorem dX9_run_83 : decode cX9_run 83 = .ok (.iaload, 1) := by decide +kernel
theorem dX9_run_84 : decode cX9_run 84 = .ok (.iastore, 1) := by decide +kernel
theorem dX9_run_85 : decode cX9_run 85 = .ok (.aload_n 0, 1) := by decide +kernel
theorem dX9_run_86 : decode cX9_run 86 = .ok (.getfield 98, 3) := by decide +kernel
theorem dX9_run_89 : decode cX9_run 89 = .ok (.sipush 200, 3) := by decide +kernel
theorem dX9_run_92 : decode cX9_run 92 = .ok (.iload_n 1, 1) := by decide +kernel
theorem dX9_run_93 : decode cX9_run 93 = .ok (.imul, 1) := by decide +kernel
theorem dX9_run_94 : decode cX9_run 94 = .ok (.iload_n 2, 1) := by decide +kernel
theorem dX9_run_95 : decode cX9_run 95 = .ok (.iadd, 1) := by decide +kernel
theorem dX9_run_96 : decode cX9_run 96 = .ok (.aload_n 0, 1) := by decide +kernel
theorem dX9_run_97 : decode cX9_run 97 = .ok (.getfield 55, 3) := by decide +kernel
theorem dX9_run_100 : decode cX9_run 100 = .ok (.iload_n 2, 1) := by decide +kernel
theorem dX9_run_101 : decode cX9_run 101 = .ok (.iaload, 1) := by decide +kernel
theorem dX9_run_102 : decode cX9_run 102 = .ok (.iastore, 1) := by decide +kernel
theorem dX9_run_103 : decode cX9_run 103 = .ok (.aload_n 0, 1) := by decide +kernel
theorem dX9_run_104 : decode cX9_run 104 = .ok (.getfield 101, 3) := by decide +kernel
theorem dX9_run_107 : decode cX9_run 107 = .ok (.sipush 200, 3) := by decide +kernel
theorem dX9_run_110 : decode cX9_run 110 = .ok (.iload_n 1, 1) := by decide +kernel
theorem dX9_run_111 : decode cX9_run 111 = .ok (.imul, 1) := by decide +kernel
theorem dX9_run_112 : decode cX9_run 112 = .ok (.iload_n 2, 1) := by decide +kernel
theorem dX9_run_113 : decode cX9_run 113 = .ok (.iadd, 1) := by decide +kernel
theorem dX9_run_114 : decode cX9_run 114 = .ok (.aload_n 0, 1) := by decide +kernel
theorem dX9_run_115 : decode cX9_run 115 = .ok (.getfield 58, 3) := by decide +kernel
theorem dX9_run_118 : decode cX9_run 118 = .ok (.iload_n 2, 1) := by decide +kernel
theorem dX9_run_119 : decode cX9_run 119 = .ok (.iaload, 1) := by decide +kernel
theorem dX9_run_120 : decode cX9_run 120 = .ok (.iastore, 1) := by decide +kernel
theorem dX9_run_121 : decode cX9_run 121 = .ok (.iinc 2 1, 3) := by decide +kernel
theorem dX9_run_124 : decode cX9_run 124 = .ok (.goto (-82), 3) := by decide +kernel
theorem dX9_run_127 : decode cX9_run 127 = .ok (.iconst 0, 1) := by decide +kernel
theorem dX9_run_128 : decode cX9_run 128 = .ok (.istore_n 2, 1) := by decide +kernel
theorem dX9_run_129 : decode cX9_run 129 = .ok (.iload_n 2, 1) := by decide +kernel
theorem dX9_run_130 : decode cX9_run 130 = .ok (.bipush 40, 2) := by decide +kernel
theorem dX9_run_132 : decode cX9_run 132 = .ok (.if_icmp .ge 72, 3) := by decide +kernel
theorem dX9_run_135 : decode cX9_run 135 = .ok (.aload_n 0, 1) := by decide +kernel
theorem dX9_run_136 : decode cX9_run 136 = .ok (.getfield 104, 3) := by decide +kernel
theorem dX9_run_139 : decode cX9_run 139 = .ok (.bipush 40, 2) := by decide +kernel
theorem dX9_run_141 : decode cX9_run 141 = .ok (.iload_n 1, 1) := by decide +kernel
theorem dX9_run_142 : decode cX9_run 142 = .ok (.imul, 1) := by decide +kernel
theorem dX9_run_143 : decode cX9_run 143 = .ok (.iload_n 2, 1) := by decide +kernel
theorem dX9_run_144 : decode cX9_run 144 = .ok (.iadd, 1) := by decide +kernel
theorem dX9_run_145 : decode cX9_run 145 = .ok (.aload_n 0, 1) := by decide +kernel
theorem dX9_run_146 : decode cX9_run 146 = .ok (.getfield 61, 3) := by decide +kernel
theorem dX9_run_149 : decode cX9_run 149 = .ok (.iload_n 2, 1) := by decide +kernel
theorem dX9_run_150 : decode cX9_run 150 = .ok (.iaload, 1) := by decide +kernel
theorem dX9_run_151 : decode cX9_run 151 = .ok (.iastore, 1) := by decide +kernel
theorem dX9_run_152 : decode cX9_run 152 = .ok (.aload_n 0, 1) := by decide +kernel
theorem dX9_run_153 : decode cX9_run 153 = .ok (.getfield 107, 3) := by decide +kernel
theorem dX9_run_156 : decode cX9_run 156 = .ok (.bipush 40, 2) := by decide +kernel
theorem dX9_run_158 : decode cX9_run 158 = .ok (.iload_n 1, 1) := by decide +kernel
theorem dX9_run_159 : decode cX9_run 159 = .ok (.imul, 1) := by decide +kernel
theorem dX9_run_160 : decode cX9_run 160 = .ok (.iload_n 2, 1) := by decide +kernel
theorem dX9_run_161 : decode cX9_run 161 = .ok (.iadd, 1) := by decide +kernel
theorem dX9_run_162 : decode cX9_run 162 = .ok (.aload_n 0, 1) := by decide +kernel
theorem dX9_run_163 : decode cX9_run 163 = .ok (.getfield 64, 3) := by decide +kernel
theorem dX9_run_166 : decode cX9_run 166 = .ok (.iload_n 2, 1) := by decide +kernel
theorem dX9_run_167 : decode cX9_run 167 = .ok (.iaload, 1) := by decide +kernel
theorem dX9_run_168 : decode cX9_run 168 = .ok (.iastore, 1) := by decide +kernel
theorem dX9_run_169 : decode cX9_run 169 = .ok (.aload_n 0, 1) := by decide +kernel
theorem dX9_run_170 : decode cX9_run 170 = .ok (.getfield 110, 3) := by decide +kernel
theorem dX9_run_173 : decode cX9_run 173 = .ok (.bipush 40, 2) := by decide +kernel
theorem dX9_run_175 : decode cX9_run 175 = .ok (.iload_n 1, 1) := by decide +kernel
theorem dX9_run_176 : decode cX9_run 176 = .ok (.imul, 1) := by decide +kernel
theorem dX9_run_177 : decode cX9_run 177 = .ok (.iload_n 2, 1) := by decide +kernel
theorem dX9_run_178 : decode cX9_run 178 = .ok (.iadd, 1) := by decide +kernel
theorem dX9_run_179 : decode cX9_run 179 = .ok (.aload_n 0, 1) := by decide +kernel
theorem dX9_run_180 : decode cX9_run 180 = .ok (.getfield 67, 3) := by decide +kernel
theorem dX9_run_183 : decode cX9_run 183 = .ok (.iload_n 2, 1) := by decide +kernel
theorem dX9_run_184 : decode cX9_run 184 = .ok (.iaload, 1) := by decide +kernel
theorem dX9_run_185 : decode cX9_run 185 = .ok (.iastore, 1) := by decide +kernel
theorem dX9_run_186 : decode cX9_run 186 = .ok (.aload_n 0, 1) := by decide +kernel
theorem dX9_run_187 : decode cX9_run 187 = .ok (.getfield 116, 3) := by decide +kernel
theorem dX9_run_190 : decode cX9_run 190 = .ok (.bipush 40, 2) := by decide +kernel
theorem dX9_run_192 : decode cX9_run 192 = .ok (.iload_n 1, 1) := by decide +kernel
theorem dX9_run_193 : decode cX9_run 193 = .ok (.imul, 1) := by decide +kernel
theorem dX9_run_194 : decode cX9_run 194 = .ok (.iload_n 2, 1) := by decide +kernel
theorem dX9_run_195 : decode cX9_run 195 = .ok (.iadd, 1) := by decide +kernel
theorem dX9_run_196 : decode cX9_run 196 = .ok (.iconst 0, 1) := by decide +kernel
theorem dX9_run_197 : decode cX9_run 197 = .ok (.iastore, 1) := by decide +kernel
theorem dX9_run_198 : decode cX9_run 198 = .ok (.iinc 2 1, 3) := by decide +kernel
theorem dX9_run_201 : decode cX9_run 201 = .ok (.goto (-72), 3) := by decide +kernel
theorem dX9_run_204 : decode cX9_run 204 = .ok (.iconst 0, 1) := by decide +kernel
theorem dX9_run_205 : decode cX9_run 205 = .ok (.istore_n 2, 1) := by decide +kernel
theorem dX9_run_206 : decode cX9_run 206 = .ok (.iload_n 2, 1) := by decide +kernel
theorem dX9_run_207 : decode cX9_run 207 = .ok (.iconst 4, 1) := by decide +kernel
theorem dX9_run_208 : decode cX9_run 208 = .ok (.if_icmp .ge 20, 3) := by decide +kernel
theorem dX9_run_211 : decode cX9_run 211 = .ok (.aload_n 0, 1) := by decide +kernel
theorem dX9_run_212 : decode cX9_run 212 = .ok (.getfield 113, 3) := by decide +kernel
theorem dX9_run_215 : decode cX9_run 215 = .ok (.iconst 4, 1) := by decide +kernel
theorem dX9_run_216 : decode cX9_run 216 = .ok (.iload_n 1, 1) := by decide +kernel
theorem dX9_run_217 : decode cX9_run 217 = .ok (.imul, 1) := by decide +kernel
theorem dX9_run_218 : decode cX9_run 218 = .ok (.iload_n 2, 1) := by decide +kernel
theorem dX9_run_219 : decode cX9_run 219 = .ok (.iadd, 1) := by decide +kernel
theorem dX9_run_220 : decode cX9_run 220 = .ok (.iconst 0, 1) := by decide +kernel
theorem dX9_run_221 : decode cX9_run 221 = .ok (.iastore, 1) := by decide +kernel
theorem dX9_run_222 : decode cX9_run 222 = .ok (.iinc 2 1, 3) := by decide +kernel
theorem dX9_run_225 : decode cX9_run 225 = .ok (.goto (-19), 3) := by decide +kernel
theorem dX9_run_228 : decode cX9_run 228 = .ok (.aload_n 0, 1) := by decide +kernel
theorem dX9_run_229 : decode cX9_run 229 = .ok (.getfield 311, 3) := by decide +kernel
theorem dX9_run_232 : decode cX9_run 232 = .ok (.istore_n 2, 1) := by decide +kernel
theorem dX9_run_233 : decode cX9_run 233 = .ok (.aload_n 0, 1) := by decide +kernel
theorem dX9_run_234 : decode cX9_run 234 = .ok (.iload_n 1, 1) := by decide +kernel
theorem dX9_run_235 : decode cX9_run 235 = .ok (.iconst 0, 1) := by decide +kernel
theorem dX9_run_236 : decode cX9_run 236 = .ok (.invokevirtual 342, 3) := by decide +kernel
theorem dX9_run_239 : decode cX9_run 239 = .ok (.ifCond .ne 10, 3) := by decide +kernel
theorem dX9_run_242 : decode cX9_run 242 = .ok (.aload_n 0, 1) := by decide +kernel
theorem dX9_run_243 : decode cX9_run 243 = .ok (.iload_n 2, 1) := by decide +kernel
theorem dX9_run_244 : decode cX9_run 244 = .ok (.putfield 311, 3) := by decide +kernel
theorem dX9_run_247 : decode cX9_run 247 = .ok (.iconst (-1), 1) := by decide +kernel
theorem dX9_run_248 : decode cX9_run 248 = .ok (.ireturn, 1) := by decide +kernel
theorem dX9_run_249 : decode cX9_run 249 = .ok (.aload_n 0, 1) := by decide +kernel
theorem dX9_run_250 : decode cX9_run 250 = .ok (.dup, 1) := by decide +kernel
theorem dX9_run_251 : decode cX9_run 251 = .ok (.getfield 339, 3) := by decide +kernel
theorem dX9_run_254 : decode cX9_run 254 = .ok (.iconst 1, 1) := by decide +kernel
theorem dX9_run_255 : decode cX9_run 255 = .ok (.iadd, 1) := by decide +kernel
theorem dX9_run_256 : decode cX9_run 256 = .ok (.putfield 339, 3) := by decide +kernel
theorem dX9_run_259 : decode cX9_run 259 = .ok (.iload_n 1, 1) := by decide +kernel
theorem dX9_run_260 : decode cX9_run 260 = .ok (.ireturn, 1) := by decide +kernel
theorem dX9_runOf_0 : decode cX9_runOf 0 = .ok (.iload_n 1, 1) := by decide +kernel
theorem dX9_runOf_1 : decode cX9_runOf 1 = .ok (.i2l, 1) := by decide +kernel
theorem dX9_runOf_2 : decode cX9_runOf 2 = .ok (.lconst 0, 1) := by decide +kernel
theorem dX9_runOf_3 : decode cX9_runOf 3 = .ok (.aload_n 0, 1) := by decide +kernel
theorem dX9_runOf_4 : decode cX9_runOf 4 = .ok (.getfield 339, 3) := by decide +kernel
theorem dX9_runOf_7 : decode cX9_runOf 7 = .ok (.iconst 1, 1) := by decide +kernel
theorem dX9_runOf_8 : decode cX9_runOf 8 = .ok (.isub, 1) := by decide +kernel
theorem dX9_runOf_9 : decode cX9_runOf 9 = .ok (.i2l, 1) := by decide +kernel
theorem dX9_runOf_10 : decode cX9_runOf 10 = .ok (.invokestatic 177, 3) := by decide +kernel
theorem dX9_runOf_13 : decode cX9_runOf 13 = .ok (.ifCond .ne 5, 3) := by decide +kernel
theorem dX9_runOf_16 : decode cX9_runOf 16 = .ok (.iconst (-1), 1) := by decide +kernel
theorem dX9_runOf_17 : decode cX9_runOf 17 = .ok (.ireturn, 1) := by decide +kernel
theorem dX9_runOf_18 : decode cX9_runOf 18 = .ok (.iconst 0, 1) := by decide +kernel
theorem dX9_runOf_19 : decode cX9_runOf 19 = .ok (.istore_n 3, 1) := by decide +kernel
theorem dX9_runOf_20 : decode cX9_runOf 20 = .ok (.iconst 0, 1) := by decide +kernel
theorem dX9_runOf_21 : decode cX9_runOf 21 = .ok (.istore 4, 2) := by decide +kernel
theorem dX9_runOf_23 : decode cX9_runOf 23 = .ok (.iload 4, 2) := by decide +kernel
theorem dX9_runOf_25 : decode cX9_runOf 25 = .ok (.aload_n 0, 1) := by decide +kernel
theorem dX9_runOf_26 : decode cX9_runOf 26 = .ok (.getfield 311, 3) := by decide +kernel
theorem dX9_runOf_29 : decode cX9_runOf 29 = .ok (.if_icmp .ge 39, 3) := by decide +kernel
theorem dX9_runOf_32 : decode cX9_runOf 32 = .ok (.iload_n 3, 1) := by decide +kernel
theorem dX9_runOf_33 : decode cX9_runOf 33 = .ok (.aload_n 0, 1) := by decide +kernel
theorem dX9_runOf_34 : decode cX9_runOf 34 = .ok (.getfield 128, 3) := by decide +kernel
theorem dX9_runOf_37 : decode cX9_runOf 37 = .ok (.iload 4, 2) := by decide +kernel
theorem dX9_runOf_39 : decode cX9_runOf 39 = .ok (.iaload, 1) := by decide +kernel
theorem dX9_runOf_40 : decode cX9_runOf 40 = .ok (.iload_n 1, 1) := by decide +kernel
theorem dX9_runOf_41 : decode cX9_runOf 41 = .ok (.if_icmp .ne 18, 3) := by decide +kernel
theorem dX9_runOf_44 : decode cX9_runOf 44 = .ok (.aload_n 0, 1) := by decide +kernel
theorem dX9_runOf_45 : decode cX9_runOf 45 = .ok (.getfield 143, 3) := by decide +kernel
theorem dX9_runOf_48 : decode cX9_runOf 48 = .ok (.iload 4, 2) := by decide +kernel
theorem dX9_runOf_50 : decode cX9_runOf 50 = .ok (.iaload, 1) := by decide +kernel
theorem dX9_runOf_51 : decode cX9_runOf 51 = .ok (.iconst 2, 1) := by decide +kernel
theorem dX9_runOf_52 : decode cX9_runOf 52 = .ok (.if_icmp .eq 7, 3) := by decide +kernel
theorem dX9_runOf_55 : decode cX9_runOf 55 = .ok (.iconst 1, 1) := by decide +kernel
theorem dX9_runOf_56 : decode cX9_runOf 56 = .ok (.goto 4, 3) := by decide +kernel
theorem dX9_runOf_59 : decode cX9_runOf 59 = .ok (.iconst 0, 1) := by decide +kernel
theorem dX9_runOf_60 : decode cX9_runOf 60 = .ok (.iadd, 1) := by decide +kernel
theorem dX9_runOf_61 : decode cX9_runOf 61 = .ok (.istore_n 3, 1) := by decide +kernel
theorem dX9_runOf_62 : decode cX9_runOf 62 = .ok (.iinc 4 1, 3) := by decide +kernel
theorem dX9_runOf_65 : decode cX9_runOf 65 = .ok (.goto (-42), 3) := by decide +kernel
theorem dX9_runOf_68 : decode cX9_runOf 68 = .ok (.iload_n 2, 1) := by decide +kernel
theorem dX9_runOf_69 : decode cX9_runOf 69 = .ok (.i2l, 1) := by decide +kernel
theorem dX9_runOf_70 : decode cX9_runOf 70 = .ok (.lconst 0, 1) := by decide +kernel
theorem dX9_runOf_71 : decode cX9_runOf 71 = .ok (.ldc2_w 346, 3) := by decide +kernel
theorem dX9_runOf_74 : decode cX9_runOf 74 = .ok (.invokestatic 177, 3) := by decide +kernel
theorem dX9_runOf_77 : decode cX9_runOf 77 = .ok (.ifCond .eq 16, 3) := by decide +kernel
theorem dX9_runOf_80 : decode cX9_runOf 80 = .ok (.aload_n 0, 1) := by decide +kernel
theorem dX9_runOf_81 : decode cX9_runOf 81 = .ok (.getfield 113, 3) := by decide +kernel
theorem dX9_runOf_84 : decode cX9_runOf 84 = .ok (.iconst 4, 1) := by decide +kernel
theorem dX9_runOf_85 : decode cX9_runOf 85 = .ok (.iload_n 1, 1) := by decide +kernel
theorem dX9_runOf_86 : decode cX9_runOf 86 = .ok (.imul, 1) := by decide +kernel
theorem dX9_runOf_87 : decode cX9_runOf 87 = .ok (.iload_n 2, 1) := by decide +kernel
theorem dX9_runOf_88 : decode cX9_runOf 88 = .ok (.iadd, 1) := by decide +kernel
theorem dX9_runOf_89 : decode cX9_runOf 89 = .ok (.iaload, 1) := by decide +kernel
theorem dX9_runOf_90 : decode cX9_runOf 90 = .ok (.goto 35, 3) := by decide +kernel
theorem dX9_runOf_93 : decode cX9_runOf 93 = .ok (.iload_n 2, 1) := by decide +kernel
theorem dX9_runOf_94 : decode cX9_runOf 94 = .ok (.iconst 4, 1) := by decide +kernel
theorem dX9_runOf_95 : decode cX9_runOf 95 = .ok (.if_icmp .ne 20, 3) := by decide +kernel
theorem dX9_runOf_98 : decode cX9_runOf 98 = .ok (.aload_n 0, 1) := by decide +kernel
theorem dX9_runOf_99 : decode cX9_runOf 99 = .ok (.getfield 119, 3) := by decide +kernel
theorem dX9_runOf_102 : decode cX9_runOf 102 = .ok (.iload_n 1, 1) := by decide +kernel
theorem dX9_runOf_103 : decode cX9_runOf 103 = .ok (.baload, 1) := by decide +kernel
theorem dX9_runOf_104 : decode cX9_runOf 104 = .ok (.ifCond .eq 7, 3) := by decide +kernel
theorem dX9_runOf_107 : decode cX9_runOf 107 = .ok (.iconst 1, 1) := by decide +kernel
theorem dX9_runOf_108 : decode cX9_runOf 108 = .ok (.goto 17, 3) := by decide +kernel
theorem dX9_runOf_111 : decode cX9_runOf 111 = .ok (.iconst 0, 1) := by decide +kernel
theorem dX9_runOf_112 : decode cX9_runOf 112 = .ok (.goto 13, 3) := by decide +kernel
theorem dX9_runOf_115 : decode cX9_runOf 115 = .ok (.iload_n 2, 1) := by decide +kernel
theorem dX9_runOf_116 : decode cX9_runOf 116 = .ok (.iconst 5, 1) := by decide +kernel
theorem dX9_runOf_117 : decode cX9_runOf 117 = .ok (.if_icmp .ne 7, 3) := by decide +kernel
theorem dX9_runOf_120 : decode cX9_runOf 120 = .ok (.iload_n 3, 1) := by decide +kernel
theorem dX9_runOf_121 : decode cX9_runOf 121 = .ok (.goto 4, 3) := by decide +kernel
theorem dX9_runOf_124 : decode cX9_runOf 124 = .ok (.iconst (-1), 1) := by decide +kernel
theorem dX9_runOf_125 : decode cX9_runOf 125 = .ok (.ireturn, 1) := by decide +kernel
theorem dX9_task_0 : decode cX9_task 0 = .ok (.aload_n 0, 1) := by decide +kernel
theorem dX9_task_1 : decode cX9_task 1 = .ok (.iload_n 1, 1) := by decide +kernel
theorem dX9_task_2 : decode cX9_task 2 = .ok (.invokevirtual 348, 3) := by decide +kernel
theorem dX9_task_5 : decode cX9_task 5 = .ok (.ifCond .ne 5, 3) := by decide +kernel
theorem dX9_task_8 : decode cX9_task 8 = .ok (.iconst (-1), 1) := by decide +kernel
theorem dX9_task_9 : decode cX9_task 9 = .ok (.ireturn, 1) := by decide +kernel
theorem dX9_task_10 : decode cX9_task 10 = .ok (.iload_n 2, 1) := by decide +kernel
theorem dX9_task_11 : decode cX9_task 11 = .ok (.tableswitch 116 0 7 #[45, 52, 59, 81, 88, 95, 102, 109], 45) := by decide +kernel
theorem dX9_task_56 : decode cX9_task 56 = .ok (.aload_n 0, 1) := by decide +kernel
theorem dX9_task_57 : decode cX9_task 57 = .ok (.getfield 128, 3) := by decide +kernel
theorem dX9_task_60 : decode cX9_task 60 = .ok (.iload_n 1, 1) := by decide +kernel
theorem dX9_task_61 : decode cX9_task 61 = .ok (.iaload, 1) := by decide +kernel
theorem dX9_task_62 : decode cX9_task 62 = .ok (.ireturn, 1) := by decide +kernel
theorem dX9_task_63 : decode cX9_task 63 = .ok (.aload_n 0, 1) := by decide +kernel
theorem dX9_task_64 : decode cX9_task 64 = .ok (.getfield 131, 3) := by decide +kernel
theorem dX9_task_67 : decode cX9_task 67 = .ok (.iload_n 1, 1) := by decide +kernel
theorem dX9_task_68 : decode cX9_task 68 = .ok (.iaload, 1) := by decide +kernel
theorem dX9_task_69 : decode cX9_task 69 = .ok (.ireturn, 1) := by decide +kernel
theorem dX9_task_70 : decode cX9_task 70 = .ok (.aload_n 0, 1) := by decide +kernel
theorem dX9_task_71 : decode cX9_task 71 = .ok (.getfield 104, 3) := by decide +kernel
theorem dX9_task_74 : decode cX9_task 74 = .ok (.bipush 40, 2) := by decide +kernel
theorem dX9_task_76 : decode cX9_task 76 = .ok (.aload_n 0, 1) := by decide +kernel
theorem dX9_task_77 : decode cX9_task 77 = .ok (.getfield 128, 3) := by decide +kernel
theorem dX9_task_80 : decode cX9_task 80 = .ok (.iload_n 1, 1) := by decide +kernel
theorem dX9_task_81 : decode cX9_task 81 = .ok (.iaload, 1) := by decide +kernel
theorem dX9_task_82 : decode cX9_task 82 = .ok (.imul, 1) := by decide +kernel
theorem dX9_task_83 : decode cX9_task 83 = .ok (.aload_n 0, 1) := by decide +kernel
theorem dX9_task_84 : decode cX9_task 84 = .ok (.getfield 131, 3) := by decide +kernel
theorem dX9_task_87 : decode cX9_task 87 = .ok (.iload_n 1, 1) := by decide +kernel
theorem dX9_task_88 : decode cX9_task 88 = .ok (.iaload, 1) := by decide +kernel
theorem dX9_task_89 : decode cX9_task 89 = .ok (.iadd, 1) := by decide +kernel
theorem dX9_task_90 : decode cX9_task 90 = .ok (.iaload, 1) := by decide +kernel
theorem dX9_task_91 : decode cX9_task 91 = .ok (.ireturn, 1) := by decide +kernel
theorem dX9_task_92 : decode cX9_task 92 = .ok (.aload_n 0, 1) := by decide +kernel
theorem dX9_task_93 : decode cX9_task 93 = .ok (.getfield 137, 3) := by decide +kernel
theorem dX9_task_96 : decode cX9_task 96 = .ok (.iload_n 1, 1) := by decide +kernel
theorem dX9_task_97 : decode cX9_task 97 = .ok (.iaload, 1) := by decide +kernel
theorem dX9_task_98 : decode cX9_task 98 = .ok (.ireturn, 1) := by decide +kernel
theorem dX9_task_99 : decode cX9_task 99 = .ok (.aload_n 0, 1) := by decide +kernel
theorem dX9_task_100 : decode cX9_task 100 = .ok (.getfield 140, 3) := by decide +kernel
theorem dX9_task_103 : decode cX9_task 103 = .ok (.iload_n 1, 1) := by decide +kernel
theorem dX9_task_104 : decode cX9_task 104 = .ok (.iaload, 1) := by decide +kernel
theorem dX9_task_105 : decode cX9_task 105 = .ok (.ireturn, 1) := by decide +kernel
theorem dX9_task_106 : decode cX9_task 106 = .ok (.aload_n 0, 1) := by decide +kernel
theorem dX9_task_107 : decode cX9_task 107 = .ok (.getfield 143, 3) := by decide +kernel
theorem dX9_task_110 : decode cX9_task 110 = .ok (.iload_n 1, 1) := by decide +kernel
theorem dX9_task_111 : decode cX9_task 111 = .ok (.iaload, 1) := by decide +kernel
theorem dX9_task_112 : decode cX9_task 112 = .ok (.ireturn, 1) := by decide +kernel
theorem dX9_task_113 : decode cX9_task 113 = .ok (.aload_n 0, 1) := by decide +kernel
theorem dX9_task_114 : decode cX9_task 114 = .ok (.getfield 146, 3) := by decide +kernel
theorem dX9_task_117 : decode cX9_task 117 = .ok (.iload_n 1, 1) := by decide +kernel
theorem dX9_task_118 : decode cX9_task 118 = .ok (.iaload, 1) := by decide +kernel
theorem dX9_task_119 : decode cX9_task 119 = .ok (.ireturn, 1) := by decide +kernel
theorem dX9_task_120 : decode cX9_task 120 = .ok (.aload_n 0, 1) := by decide +kernel
theorem dX9_task_121 : decode cX9_task 121 = .ok (.getfield 149, 3) := by decide +kernel
theorem dX9_task_124 : decode cX9_task 124 = .ok (.iload_n 1, 1) := by decide +kernel
theorem dX9_task_125 : decode cX9_task 125 = .ok (.iaload, 1) := by decide +kernel
theorem dX9_task_126 : decode cX9_task 126 = .ok (.ireturn, 1) := by decide +kernel
theorem dX9_task_127 : decode cX9_task 127 = .ok (.iconst (-1), 1) := by decide +kernel
theorem dX9_task_128 : decode cX9_task 128 = .ok (.ireturn, 1) := by decide +kernel
theorem dX9_mayDo_0 : decode cX9_mayDo 0 = .ok (.aload_n 0, 1) := by decide +kernel
theorem dX9_mayDo_1 : decode cX9_mayDo 1 = .ok (.getfield 161, 3) := by decide +kernel
theorem dX9_mayDo_4 : decode cX9_mayDo 4 = .ok (.iload_n 1, 1) := by decide +kernel
theorem dX9_mayDo_5 : decode cX9_mayDo 5 = .ok (.baload, 1) := by decide +kernel
theorem dX9_mayDo_6 : decode cX9_mayDo 6 = .ok (.ifCond .eq 5, 3) := by decide +kernel
theorem dX9_mayDo_9 : decode cX9_mayDo 9 = .ok (.iconst 0, 1) := by decide +kernel
theorem dX9_mayDo_10 : decode cX9_mayDo 10 = .ok (.ireturn, 1) := by decide +kernel
theorem dX9_mayDo_11 : decode cX9_mayDo 11 = .ok (.aload_n 0, 1) := by decide +kernel
theorem dX9_mayDo_12 : decode cX9_mayDo 12 = .ok (.getfield 128, 3) := by decide +kernel
theorem dX9_mayDo_15 : decode cX9_mayDo 15 = .ok (.iload_n 2, 1) := by decide +kernel
theorem dX9_mayDo_16 : decode cX9_mayDo 16 = .ok (.iaload, 1) := by decide +kernel
theorem dX9_mayDo_17 : decode cX9_mayDo 17 = .ok (.istore_n 3, 1) := by decide +kernel
theorem dX9_mayDo_18 : decode cX9_mayDo 18 = .ok (.aload_n 0, 1) := by decide +kernel
theorem dX9_mayDo_19 : decode cX9_mayDo 19 = .ok (.getfield 104, 3) := by decide +kernel
theorem dX9_mayDo_22 : decode cX9_mayDo 22 = .ok (.bipush 40, 2) := by decide +kernel
theorem dX9_mayDo_24 : decode cX9_mayDo 24 = .ok (.iload_n 3, 1) := by decide +kernel
theorem dX9_mayDo_25 : decode cX9_mayDo 25 = .ok (.imul, 1) := by decide +kernel
theorem dX9_mayDo_26 : decode cX9_mayDo 26 = .ok (.aload_n 0, 1) := by decide +kernel
theorem dX9_mayDo_27 : decode cX9_mayDo 27 = .ok (.getfield 131, 3) := by decide +kernel
theorem dX9_mayDo_30 : decode cX9_mayDo 30 = .ok (.iload_n 2, 1) := by decide +kernel
theorem dX9_mayDo_31 : decode cX9_mayDo 31 = .ok (.iaload, 1) := by decide +kernel
theorem dX9_mayDo_32 : decode cX9_mayDo 32 = .ok (.iadd, 1) := by decide +kernel
theorem dX9_mayDo_33 : decode cX9_mayDo 33 = .ok (.iaload, 1) := by decide +kernel
theorem dX9_mayDo_34 : decode cX9_mayDo 34 = .ok (.istore 4, 2) := by decide +kernel
theorem dX9_mayDo_36 : decode cX9_mayDo 36 = .ok (.aload_n 0, 1) := by decide +kernel
theorem dX9_mayDo_37 : decode cX9_mayDo 37 = .ok (.getfield 110, 3) := by decide +kernel
theorem dX9_mayDo_40 : decode cX9_mayDo 40 = .ok (.bipush 40, 2) := by decide +kernel
theorem dX9_mayDo_42 : decode cX9_mayDo 42 = .ok (.iload_n 3, 1) := by decide +kernel
theorem dX9_mayDo_43 : decode cX9_mayDo 43 = .ok (.imul, 1) := by decide +kernel
theorem dX9_mayDo_44 : decode cX9_mayDo 44 = .ok (.aload_n 0, 1) := by decide +kernel
theorem dX9_mayDo_45 : decode cX9_mayDo 45 = .ok (.getfield 131, 3) := by decide +kernel
theorem dX9_mayDo_48 : decode cX9_mayDo 48 = .ok (.iload_n 2, 1) := by decide +kernel
theorem dX9_mayDo_49 : decode cX9_mayDo 49 = .ok (.iaload, 1) := by decide +kernel
theorem dX9_mayDo_50 : decode cX9_mayDo 50 = .ok (.iadd, 1) := by decide +kernel
theorem dX9_mayDo_51 : decode cX9_mayDo 51 = .ok (.iaload, 1) := by decide +kernel
theorem dX9_mayDo_52 : decode cX9_mayDo 52 = .ok (.istore 5, 2) := by decide +kernel
theorem dX9_mayDo_54 : decode cX9_mayDo 54 = .ok (.iconst 0, 1) := by decide +kernel
theorem dX9_mayDo_55 : decode cX9_mayDo 55 = .ok (.istore 6, 2) := by decide +kernel
theorem dX9_mayDo_57 : decode cX9_mayDo 57 = .ok (.iconst 0, 1) := by decide +kernel
theorem dX9_mayDo_58 : decode cX9_mayDo 58 = .ok (.istore 7, 2) := by decide +kernel
theorem dX9_mayDo_60 : decode cX9_mayDo 60 = .ok (.iload 7, 2) := by decide +kernel
theorem dX9_mayDo_62 : decode cX9_mayDo 62 = .ok (.aload_n 0, 1) := by decide +kernel
theorem dX9_mayDo_63 : decode cX9_mayDo 63 = .ok (.getfield 308, 3) := by decide +kernel
theorem dX9_mayDo_66 : decode cX9_mayDo 66 = .ok (.if_icmp .ge 47, 3) := by decide +kernel
theorem dX9_mayDo_69 : decode cX9_mayDo 69 = .ok (.iload 6, 2) := by decide +kernel
theorem dX9_mayDo_71 : decode cX9_mayDo 71 = .ok (.ifCond .ne 29, 3) := by decide +kernel
theorem dX9_mayDo_74 : decode cX9_mayDo 74 = .ok (.aload_n 0, 1) := by decide +kernel
theorem dX9_mayDo_75 : decode cX9_mayDo 75 = .ok (.iload 7, 2) := by decide +kernel
theorem dX9_mayDo_77 : decode cX9_mayDo 77 = .ok (.invokevirtual 351, 3) := by decide +kernel
theorem dX9_mayDo_80 : decode cX9_mayDo 80 = .ok (.iload_n 1, 1) := by decide +kernel
theorem dX9_mayDo_81 : decode cX9_mayDo 81 = .ok (.if_icmp .ne 23, 3) := by decide +kernel
theorem dX9_mayDo_84 : decode cX9_mayDo 84 = .ok (.aload_n 0, 1) := by decide +kernel
theorem dX9_mayDo_85 : decode cX9_mayDo 85 = .ok (.getfield 152, 3) := by decide +kernel
theorem dX9_mayDo_88 : decode cX9_mayDo 88 = .ok (.iload 7, 2) := by decide +kernel
theorem dX9_mayDo_90 : decode cX9_mayDo 90 = .ok (.iaload, 1) := by decide +kernel
theorem dX9_mayDo_91 : decode cX9_mayDo 91 = .ok (.iload 4, 2) := by decide +kernel
theorem dX9_mayDo_93 : decode cX9_mayDo 93 = .ok (.ishr, 1) := by decide +kernel
theorem dX9_mayDo_94 : decode cX9_mayDo 94 = .ok (.iconst 1, 1) := by decide +kernel
theorem dX9_mayDo_95 : decode cX9_mayDo 95 = .ok (.iand, 1) := by decide +kernel
theorem dX9_mayDo_96 : decode cX9_mayDo 96 = .ok (.iconst 1, 1) := by decide +kernel
theorem dX9_mayDo_97 : decode cX9_mayDo 97 = .ok (.if_icmp .ne 7, 3) := by decide +kernel
theorem dX9_mayDo_100 : decode cX9_mayDo 100 = .ok (.iconst 1, 1) := by decide +kernel
theorem dX9_mayDo_101 : decode cX9_mayDo 101 = .ok (.goto 4, 3) := by decide +kernel
theorem dX9_mayDo_104 : decode cX9_mayDo 104 = .ok (.iconst 0, 1) := by decide +kernel
theorem dX9_mayDo_105 : decode cX9_mayDo 105 = .ok (.istore 6, 2) := by decide +kernel
theorem dX9_mayDo_107 : decode cX9_mayDo 107 = .ok (.iinc 7 1, 3) := by decide +kernel
theorem dX9_mayDo_110 : decode cX9_mayDo 110 = .ok (.goto (-50), 3) := by decide +kernel
theorem dX9_mayDo_113 : decode cX9_mayDo 113 = .ok (.iload 6, 2) := by decide +kernel
theorem dX9_mayDo_115 : decode cX9_mayDo 115 = .ok (.ifCond .eq 23, 3) := by decide +kernel
theorem dX9_mayDo_118 : decode cX9_mayDo 118 = .ok (.iload 5, 2) := by decide +kernel
theorem dX9_mayDo_120 : decode cX9_mayDo 120 = .ok (.ifCond .lt 14, 3) := by decide +kernel
theorem dX9_mayDo_123 : decode cX9_mayDo 123 = .ok (.aload_n 0, 1) := by decide +kernel
theorem dX9_mayDo_124 : decode cX9_mayDo 124 = .ok (.iload_n 3, 1) := by decide +kernel
theorem dX9_mayDo_125 : decode cX9_mayDo 125 = .ok (.iload 5, 2) := by decide +kernel
theorem dX9_mayDo_127 : decode cX9_mayDo 127 = .ok (.invokevirtual 354, 3) := by decide +kernel
theorem dX9_mayDo_130 : decode cX9_mayDo 130 = .ok (.iload_n 1, 1) := by decide +kernel
theorem dX9_mayDo_131 : decode cX9_mayDo 131 = .ok (.if_icmp .eq 7, 3) := by decide +kernel
theorem dX9_mayDo_134 : decode cX9_mayDo 134 = .ok (.iconst 1, 1) := by decide +kernel
theorem dX9_mayDo_135 : decode cX9_mayDo 135 = .ok (.goto 4, 3) := by decide +kernel
theorem dX9_mayDo_138 : decode cX9_mayDo 138 = .ok (.iconst 0, 1) := by decide +kernel
theorem dX9_mayDo_139 : decode cX9_mayDo 139 = .ok (.ireturn, 1) := by decide +kernel
theorem dX9_may_0 : decode cX9_may 0 = .ok (.aload_n 0, 1) := by decide +kernel
theorem dX9_may_1 : decode cX9_may 1 = .ok (.iload_n 1, 1) := by decide +kernel
theorem dX9_may_2 : decode cX9_may 2 = .ok (.invokevirtual 318, 3) := by decide +kernel
theorem dX9_may_5 : decode cX9_may 5 = .ok (.ifCond .eq 11, 3) := by decide +kernel
theorem dX9_may_8 : decode cX9_may 8 = .ok (.aload_n 0, 1) := by decide +kernel
theorem dX9_may_9 : decode cX9_may 9 = .ok (.iload_n 2, 1) := by decide +kernel
theorem dX9_may_10 : decode cX9_may 10 = .ok (.invokevirtual 348, 3) := by decide +kernel
theorem dX9_may_13 : decode cX9_may 13 = .ok (.ifCond .ne 7, 3) := by decide +kernel
theorem dX9_may_16 : decode cX9_may 16 = .ok (.iconst (-1), 1) := by decide +kernel
theorem dX9_may_17 : decode cX9_may 17 = .ok (.goto 17, 3) := by decide +kernel
theorem dX9_may_20 : decode cX9_may 20 = .ok (.aload_n 0, 1) := by decide +kernel
theorem dX9_may_21 : decode cX9_may 21 = .ok (.iload_n 1, 1) := by decide +kernel
theorem dX9_may_22 : decode cX9_may 22 = .ok (.iload_n 2, 1) := by decide +kernel
theorem dX9_may_23 : decode cX9_may 23 = .ok (.invokevirtual 357, 3) := by decide +kernel
theorem dX9_may_26 : decode cX9_may 26 = .ok (.ifCond .eq 7, 3) := by decide +kernel
theorem dX9_may_29 : decode cX9_may 29 = .ok (.iconst 1, 1) := by decide +kernel
theorem dX9_may_30 : decode cX9_may 30 = .ok (.goto 4, 3) := by decide +kernel
theorem dX9_may_33 : decode cX9_may 33 = .ok (.iconst 0, 1) := by decide +kernel
theorem dX9_may_34 : decode cX9_may 34 = .ok (.ireturn, 1) := by decide +kernel
theorem dX9_giveBack_0 : decode cX9_giveBack 0 = .ok (.aload_n 0, 1) := by decide +kernel
theorem dX9_giveBack_1 : decode cX9_giveBack 1 = .ok (.iload_n 1, 1) := by decide +kernel
theorem dX9_giveBack_2 : decode cX9_giveBack 2 = .ok (.invokevirtual 348, 3) := by decide +kernel
theorem dX9_giveBack_5 : decode cX9_giveBack 5 = .ok (.ifCond .eq 13, 3) := by decide +kernel
theorem dX9_giveBack_8 : decode cX9_giveBack 8 = .ok (.aload_n 0, 1) := by decide +kernel
theorem dX9_giveBack_9 : decode cX9_giveBack 9 = .ok (.getfield 143, 3) := by decide +kernel
theorem dX9_giveBack_12 : decode cX9_giveBack 12 = .ok (.iload_n 1, 1) := by decide +kernel
theorem dX9_giveBack_13 : decode cX9_giveBack 13 = .ok (.iaload, 1) := by decide +kernel
theorem dX9_giveBack_14 : decode cX9_giveBack 14 = .ok (.iconst 1, 1) := by decide +kernel
theorem dX9_giveBack_15 : decode cX9_giveBack 15 = .ok (.if_icmp .eq 5, 3) := by decide +kernel
theorem dX9_giveBack_18 : decode cX9_giveBack 18 = .ok (.iconst 0, 1) := by decide +kernel
theorem dX9_giveBack_19 : decode cX9_giveBack 19 = .ok (.ireturn, 1) := by decide +kernel
theorem dX9_giveBack_20 : decode cX9_giveBack 20 = .ok (.aload_n 0, 1) := by decide +kernel
theorem dX9_giveBack_21 : decode cX9_giveBack 21 = .ok (.getfield 143, 3) := by decide +kernel
theorem dX9_giveBack_24 : decode cX9_giveBack 24 = .ok (.iload_n 1, 1) := by decide +kernel
theorem dX9_giveBack_25 : decode cX9_giveBack 25 = .ok (.iconst 0, 1) := by decide +kernel
theorem dX9_giveBack_26 : decode cX9_giveBack 26 = .ok (.iastore, 1) := by decide +kernel
theorem dX9_giveBack_27 : decode cX9_giveBack 27 = .ok (.aload_n 0, 1) := by decide +kernel
theorem dX9_giveBack_28 : decode cX9_giveBack 28 = .ok (.getfield 146, 3) := by decide +kernel
theorem dX9_giveBack_31 : decode cX9_giveBack 31 = .ok (.iload_n 1, 1) := by decide +kernel
theorem dX9_giveBack_32 : decode cX9_giveBack 32 = .ok (.iconst (-1), 1) := by decide +kernel
theorem dX9_giveBack_33 : decode cX9_giveBack 33 = .ok (.iastore, 1) := by decide +kernel
theorem dX9_giveBack_34 : decode cX9_giveBack 34 = .ok (.iconst 1, 1) := by decide +kernel
theorem dX9_giveBack_35 : decode cX9_giveBack 35 = .ok (.ireturn, 1) := by decide +kernel
theorem dX9_isListed_0 : decode cX9_isListed 0 = .ok (.aload_n 0, 1) := by decide +kernel
theorem dX9_isListed_1 : decode cX9_isListed 1 = .ok (.getfield 143, 3) := by decide +kernel
theorem dX9_isListed_4 : decode cX9_isListed 4 = .ok (.iload_n 2, 1) := by decide +kernel
theorem dX9_isListed_5 : decode cX9_isListed 5 = .ok (.iaload, 1) := by decide +kernel
theorem dX9_isListed_6 : decode cX9_isListed 6 = .ok (.ifCond .ne 16, 3) := by decide +kernel
theorem dX9_isListed_9 : decode cX9_isListed 9 = .ok (.aload_n 0, 1) := by decide +kernel
theorem dX9_isListed_10 : decode cX9_isListed 10 = .ok (.iload_n 1, 1) := by decide +kernel
theorem dX9_isListed_11 : decode cX9_isListed 11 = .ok (.iload_n 2, 1) := by decide +kernel
theorem dX9_isListed_12 : decode cX9_isListed 12 = .ok (.invokevirtual 357, 3) := by decide +kernel
theorem dX9_isListed_15 : decode cX9_isListed 15 = .ok (.ifCond .eq 7, 3) := by decide +kernel
theorem dX9_isListed_18 : decode cX9_isListed 18 = .ok (.iconst 1, 1) := by decide +kernel
theorem dX9_isListed_19 : decode cX9_isListed 19 = .ok (.goto 4, 3) := by decide +kernel
theorem dX9_isListed_22 : decode cX9_isListed 22 = .ok (.iconst 0, 1) := by decide +kernel
theorem dX9_isListed_23 : decode cX9_isListed 23 = .ok (.ireturn, 1) := by decide +kernel
theorem dX9_list_0 : decode cX9_list 0 = .ok (.aload_n 0, 1) := by decide +kernel
theorem dX9_list_1 : decode cX9_list 1 = .ok (.iload_n 1, 1) := by decide +kernel
theorem dX9_list_2 : decode cX9_list 2 = .ok (.invokevirtual 318, 3) := by decide +kernel
theorem dX9_list_5 : decode cX9_list 5 = .ok (.ifCond .ne 5, 3) := by decide +kernel
theorem dX9_list_8 : decode cX9_list 8 = .ok (.iconst (-1), 1) := by decide +kernel
theorem dX9_list_9 : decode cX9_list 9 = .ok (.ireturn, 1) := by decide +kernel
theorem dX9_list_10 : decode cX9_list 10 = .ok (.iconst 0, 1) := by decide +kernel
theorem dX9_list_11 : decode cX9_list 11 = .ok (.istore_n 2, 1) := by decide +kernel
theorem dX9_list_12 : decode cX9_list 12 = .ok (.iconst 0, 1) := by decide +kernel
theorem dX9_list_13 : decode cX9_list 13 = .ok (.istore_n 3, 1) := by decide +kernel
theorem dX9_list_14 : decode cX9_list 14 = .ok (.iload_n 3, 1) := by decide +kernel
theorem dX9_list_15 : decode cX9_list 15 = .ok (.aload_n 0, 1) := by decide +kernel
theorem dX9_list_16 : decode cX9_list 16 = .ok (.getfield 311, 3) := by decide +kernel
theorem dX9_list_19 : decode cX9_list 19 = .ok (.if_icmp .ge 26, 3) := by decide +kernel
theorem dX9_list_22 : decode cX9_list 22 = .ok (.iload_n 2, 1) := by decide +kernel
theorem dX9_list_23 : decode cX9_list 23 = .ok (.aload_n 0, 1) := by decide +kernel
theorem dX9_list_24 : decode cX9_list 24 = .ok (.iload_n 1, 1) := by decide +kernel
theorem dX9_list_25 : decode cX9_list 25 = .ok (.iload_n 3, 1) := by decide +kernel
theorem dX9_list_26 : decode cX9_list 26 = .ok (.invokevirtual 368, 3) := by decide +kernel
theorem dX9_list_29 : decode cX9_list 29 = .ok (.ifCond .eq 7, 3) := by decide +kernel
theorem dX9_list_32 : decode cX9_list 32 = .ok (.iconst 1, 1) := by decide +kernel
theorem dX9_list_33 : decode cX9_list 33 = .ok (.goto 4, 3) := by decide +kernel
theorem dX9_list_36 : decode cX9_list 36 = .ok (.iconst 0, 1) := by decide +kernel
theorem dX9_list_37 : decode cX9_list 37 = .ok (.iadd, 1) := by decide +kernel
theorem dX9_list_38 : decode cX9_list 38 = .ok (.istore_n 2, 1) := by decide +kernel
theorem dX9_list_39 : decode cX9_list 39 = .ok (.iinc 3 1, 3) := by decide +kernel
theorem dX9_list_42 : decode cX9_list 42 = .ok (.goto (-28), 3) := by decide +kernel
theorem dX9_list_45 : decode cX9_list 45 = .ok (.iload_n 2, 1) := by decide +kernel
theorem dX9_list_46 : decode cX9_list 46 = .ok (.ireturn, 1) := by decide +kernel
theorem dX9_listed_0 : decode cX9_listed 0 = .ok (.aload_n 0, 1) := by decide +kernel
theorem dX9_listed_1 : decode cX9_listed 1 = .ok (.iload_n 1, 1) := by decide +kernel
theorem dX9_listed_2 : decode cX9_listed 2 = .ok (.invokevirtual 318, 3) := by decide +kernel
theorem dX9_listed_5 : decode cX9_listed 5 = .ok (.ifCond .ne 5, 3) := by decide +kernel
theorem dX9_listed_8 : decode cX9_listed 8 = .ok (.iconst (-1), 1) := by decide +kernel
theorem dX9_listed_9 : decode cX9_listed 9 = .ok (.ireturn, 1) := by decide +kernel
theorem dX9_listed_10 : decode cX9_listed 10 = .ok (.iconst 0, 1) := by decide +kernel
theorem dX9_listed_11 : decode cX9_listed 11 = .ok (.istore_n 3, 1) := by decide +kernel
theorem dX9_listed_12 : decode cX9_listed 12 = .ok (.iload_n 3, 1) := by decide +kernel
theorem dX9_listed_13 : decode cX9_listed 13 = .ok (.aload_n 0, 1) := by decide +kernel
theorem dX9_listed_14 : decode cX9_listed 14 = .ok (.getfield 311, 3) := by decide +kernel
theorem dX9_listed_17 : decode cX9_listed 17 = .ok (.if_icmp .ge 126, 3) := by decide +kernel
theorem dX9_listed_20 : decode cX9_listed 20 = .ok (.aload_n 0, 1) := by decide +kernel
theorem dX9_listed_21 : decode cX9_listed 21 = .ok (.iload_n 1, 1) := by decide +kernel
theorem dX9_listed_22 : decode cX9_listed 22 = .ok (.iload_n 3, 1) := by decide +kernel
theorem dX9_listed_23 : decode cX9_listed 23 = .ok (.invokevirtual 368, 3) := by decide +kernel
theorem dX9_listed_26 : decode cX9_listed 26 = .ok (.ifCond .ne 6, 3) := by decide +kernel
theorem dX9_listed_29 : decode cX9_listed 29 = .ok (.goto 108, 3) := by decide +kernel
theorem dX9_listed_32 : decode cX9_listed 32 = .ok (.iconst 0, 1) := by decide +kernel
theorem dX9_listed_33 : decode cX9_listed 33 = .ok (.istore 4, 2) := by decide +kernel
theorem dX9_listed_35 : decode cX9_listed 35 = .ok (.iconst 0, 1) := by decide +kernel
theorem dX9_listed_36 : decode cX9_listed 36 = .ok (.istore 5, 2) := by decide +kernel
theorem dX9_listed_38 : decode cX9_listed 38 = .ok (.iload 5, 2) := by decide +kernel
theorem dX9_listed_40 : decode cX9_listed 40 = .ok (.aload_n 0, 1) := by decide +kernel
theorem dX9_listed_41 : decode cX9_listed 41 = .ok (.getfield 311, 3) := by decide +kernel
theorem dX9_listed_44 : decode cX9_listed 44 = .ok (.if_icmp .ge 85, 3) := by decide +kernel
theorem dX9_listed_47 : decode cX9_listed 47 = .ok (.iload 5, 2) := by decide +kernel
theorem dX9_listed_49 : decode cX9_listed 49 = .ok (.iload_n 3, 1) := by decide +kernel
theorem dX9_listed_50 : decode cX9_listed 50 = .ok (.if_icmp .eq 55, 3) := by decide +kernel
theorem dX9_listed_53 : decode cX9_listed 53 = .ok (.aload_n 0, 1) := by decide +kernel
theorem dX9_listed_54 : decode cX9_listed 54 = .ok (.iload_n 1, 1) := by decide +kernel
theorem dX9_listed_55 : decode cX9_listed 55 = .ok (.iload 5, 2) := by decide +kernel
theorem dX9_listed_57 : decode cX9_listed 57 = .ok (.invokevirtual 368, 3) := by decide +kernel
theorem dX9_listed_60 : decode cX9_listed 60 = .ok (.ifCond .eq 45, 3) := by decide +kernel
theorem dX9_listed_63 : decode cX9_listed 63 = .ok (.aload_n 0, 1) := by decide +kernel
theorem dX9_listed_64 : decode cX9_listed 64 = .ok (.getfield 140, 3) := by decide +kernel
theorem dX9_listed_67 : decode cX9_listed 67 = .ok (.iload 5, 2) := by decide +kernel
theorem dX9_listed_69 : decode cX9_listed 69 = .ok (.iaload, 1) := by decide +kernel
theorem dX9_listed_70 : decode cX9_listed 70 = .ok (.aload_n 0, 1) := by decide +kernel
theorem dX9_listed_71 : decode cX9_listed 71 = .ok (.getfield 140, 3) := by decide +kernel
theorem dX9_listed_74 : decode cX9_listed 74 = .ok (.iload_n 3, 1) := by decide +kernel
theorem dX9_listed_75 : decode cX9_listed 75 = .ok (.iaload, 1) := by decide +kernel
theorem dX9_listed_76 : decode cX9_listed 76 = .ok (.if_icmp .lt 25, 3) := by decide +kernel
theorem dX9_listed_79 : decode cX9_listed 79 = .ok (.aload_n 0, 1) := by decide +kernel
theorem dX9_listed_80 : decode cX9_listed 80 = .ok (.getfield 140, 3) := by decide +kernel
theorem dX9_listed_83 : decode cX9_listed 83 = .ok (.iload 5, 2) := by decide +kernel
theorem dX9_listed_85 : decode cX9_listed 85 = .ok (.iaload, 1) := by decide +kernel
theorem dX9_listed_86 : decode cX9_listed 86 = .ok (.aload_n 0, 1) := by decide +kernel
theorem dX9_listed_87 : decode cX9_listed 87 = .ok (.getfield 140, 3) := by decide +kernel
theorem dX9_listed_90 : decode cX9_listed 90 = .ok (.iload_n 3, 1) := by decide +kernel
theorem dX9_listed_91 : decode cX9_listed 91 = .ok (.iaload, 1) := by decide +kernel
theorem dX9_listed_92 : decode cX9_listed 92 = .ok (.if_icmp .ne 13, 3) := by decide +kernel
theorem dX9_listed_95 : decode cX9_listed 95 = .ok (.iload 5, 2) := by decide +kernel
theorem dX9_listed_97 : decode cX9_listed 97 = .ok (.iload_n 3, 1) := by decide +kernel
theorem dX9_listed_98 : decode cX9_listed 98 = .ok (.if_icmp .ge 7, 3) := by decide +kernel
theorem dX9_listed_101 : decode cX9_listed 101 = .ok (.iconst 1, 1) := by decide +kernel
theorem dX9_listed_102 : decode cX9_listed 102 = .ok (.goto 4, 3) := by decide +kernel
theorem dX9_listed_105 : decode cX9_listed 105 = .ok (.iconst 0, 1) := by decide +kernel
theorem dX9_listed_106 : decode cX9_listed 106 = .ok (.istore 6, 2) := by decide +kernel
theorem dX9_listed_108 : decode cX9_listed 108 = .ok (.iload 4, 2) := by decide +kernel
theorem dX9_listed_110 : decode cX9_listed 110 = .ok (.iload 6, 2) := by decide +kernel
theorem dX9_listed_112 : decode cX9_listed 112 = .ok (.ifCond .eq 7, 3) := by decide +kernel
theorem dX9_listed_115 : decode cX9_listed 115 = .ok (.iconst 1, 1) := by decide +kernel
theorem dX9_listed_116 : decode cX9_listed 116 = .ok (.goto 4, 3) := by decide +kernel
theorem dX9_listed_119 : decode cX9_listed 119 = .ok (.iconst 0, 1) := by decide +kernel
theorem dX9_listed_120 : decode cX9_listed 120 = .ok (.iadd, 1) := by decide +kernel
theorem dX9_listed_121 : decode cX9_listed 121 = .ok (.istore 4, 2) := by decide +kernel
theorem dX9_listed_123 : decode cX9_listed 123 = .ok (.iinc 5 1, 3) := by decide +kernel
theorem dX9_listed_126 : decode cX9_listed 126 = .ok (.goto (-88), 3) := by decide +kernel
theorem dX9_listed_129 : decode cX9_listed 129 = .ok (.iload 4, 2) := by decide +kernel
theorem dX9_listed_131 : decode cX9_listed 131 = .ok (.iload_n 2, 1) := by decide +kernel
theorem dX9_listed_132 : decode cX9_listed 132 = .ok (.if_icmp .ne 5, 3) := by decide +kernel
theorem dX9_listed_135 : decode cX9_listed 135 = .ok (.iload_n 3, 1) := by decide +kernel
theorem dX9_listed_136 : decode cX9_listed 136 = .ok (.ireturn, 1) := by decide +kernel
theorem dX9_listed_137 : decode cX9_listed 137 = .ok (.iinc 3 1, 3) := by decide +kernel
theorem dX9_listed_140 : decode cX9_listed 140 = .ok (.goto (-128), 3) := by decide +kernel
theorem dX9_listed_143 : decode cX9_listed 143 = .ok (.iconst (-1), 1) := by decide +kernel
theorem dX9_listed_144 : decode cX9_listed 144 = .ok (.ireturn, 1) := by decide +kernel
theorem dX9_offer_0 : decode cX9_offer 0 = .ok (.aload_n 0, 1) := by decide +kernel
theorem dX9_offer_1 : decode cX9_offer 1 = .ok (.iload_n 1, 1) := by decide +kernel
theorem dX9_offer_2 : decode cX9_offer 2 = .ok (.invokevirtual 348, 3) := by decide +kernel
theorem dX9_offer_5 : decode cX9_offer 5 = .ok (.ifCond .eq 12, 3) := by decide +kernel
theorem dX9_offer_8 : decode cX9_offer 8 = .ok (.aload_n 0, 1) := by decide +kernel
theorem dX9_offer_9 : decode cX9_offer 9 = .ok (.getfield 143, 3) := by decide +kernel
theorem dX9_offer_12 : decode cX9_offer 12 = .ok (.iload_n 1, 1) := by decide +kernel
theorem dX9_offer_13 : decode cX9_offer 13 = .ok (.iaload, 1) := by decide +kernel
theorem dX9_offer_14 : decode cX9_offer 14 = .ok (.ifCond .eq 5, 3) := by decide +kernel
theorem dX9_offer_17 : decode cX9_offer 17 = .ok (.iconst (-1), 1) := by decide +kernel
theorem dX9_offer_18 : decode cX9_offer 18 = .ok (.ireturn, 1) := by decide +kernel
theorem dX9_offer_19 : decode cX9_offer 19 = .ok (.iconst (-1), 1) := by decide +kernel
theorem dX9_offer_20 : decode cX9_offer 20 = .ok (.istore_n 2, 1) := by decide +kernel
theorem dX9_offer_21 : decode cX9_offer 21 = .ok (.iconst 0, 1) := by decide +kernel
theorem dX9_offer_22 : decode cX9_offer 22 = .ok (.istore_n 3, 1) := by decide +kernel
theorem dX9_offer_23 : decode cX9_offer 23 = .ok (.iload_n 3, 1) := by decide +kernel
theorem dX9_offer_24 : decode cX9_offer 24 = .ok (.aload_n 0, 1) := by decide +kernel
theorem dX9_offer_25 : decode cX9_offer 25 = .ok (.getfield 308, 3) := by decide +kernel
theorem dX9_offer_28 : decode cX9_offer 28 = .ok (.if_icmp .ge 63, 3) := by decide +kernel
theorem dX9_offer_31 : decode cX9_offer 31 = .ok (.aload_n 0, 1) := by decide +kernel
theorem dX9_offer_32 : decode cX9_offer 32 = .ok (.iload_n 3, 1) := by decide +kernel
theorem dX9_offer_33 : decode cX9_offer 33 = .ok (.iload_n 1, 1) := by decide +kernel
theorem dX9_offer_34 : decode cX9_offer 34 = .ok (.invokevirtual 357, 3) := by decide +kernel
theorem dX9_offer_37 : decode cX9_offer 37 = .ok (.ifCond .eq 21, 3) := by decide +kernel
theorem dX9_offer_40 : decode cX9_offer 40 = .ok (.aload_n 0, 1) := by decide +kernel
theorem dX9_offer_41 : decode cX9_offer 41 = .ok (.iload_n 3, 1) := by decide +kernel
theorem dX9_offer_42 : decode cX9_offer 42 = .ok (.invokevirtual 360, 3) := by decide +kernel
theorem dX9_offer_45 : decode cX9_offer 45 = .ok (.aload_n 0, 1) := by decide +kernel
theorem dX9_offer_46 : decode cX9_offer 46 = .ok (.getfield 155, 3) := by decide +kernel
theorem dX9_offer_49 : decode cX9_offer 49 = .ok (.iload_n 3, 1) := by decide +kernel
theorem dX9_offer_50 : decode cX9_offer 50 = .ok (.iaload, 1) := by decide +kernel
theorem dX9_offer_51 : decode cX9_offer 51 = .ok (.if_icmp .ge 7, 3) := by decide +kernel
theorem dX9_offer_54 : decode cX9_offer 54 = .ok (.iconst 1, 1) := by decide +kernel
theorem dX9_offer_55 : decode cX9_offer 55 = .ok (.goto 4, 3) := by decide +kernel
theorem dX9_offer_58 : decode cX9_offer 58 = .ok (.iconst 0, 1) := by decide +kernel
theorem dX9_offer_59 : decode cX9_offer 59 = .ok (.istore 4, 2) := by decide +kernel
theorem dX9_offer_61 : decode cX9_offer 61 = .ok (.iload 4, 2) := by decide +kernel
theorem dX9_offer_63 : decode cX9_offer 63 = .ok (.ifCond .eq 22, 3) := by decide +kernel
theorem dX9_offer_66 : decode cX9_offer 66 = .ok (.iload_n 2, 1) := by decide +kernel
theorem dX9_offer_67 : decode cX9_offer 67 = .ok (.ifCond .lt 16, 3) := by decide +kernel
theorem dX9_offer_70 : decode cX9_offer 70 = .ok (.aload_n 0, 1) := by decide +kernel
theorem dX9_offer_71 : decode cX9_offer 71 = .ok (.iload_n 3, 1) := by decide +kernel
theorem dX9_offer_72 : decode cX9_offer 72 = .ok (.invokevirtual 360, 3) := by decide +kernel
theorem dX9_offer_75 : decode cX9_offer 75 = .ok (.aload_n 0, 1) := by decide +kernel
theorem dX9_offer_76 : decode cX9_offer 76 = .ok (.iload_n 2, 1) := by decide +kernel
theorem dX9_offer_77 : decode cX9_offer 77 = .ok (.invokevirtual 360, 3) := by decide +kernel
theorem dX9_offer_80 : decode cX9_offer 80 = .ok (.if_icmp .ge 5, 3) := by decide +kernel
theorem dX9_offer_83 : decode cX9_offer 83 = .ok (.iload_n 3, 1) := by decide +kernel
theorem dX9_offer_84 : decode cX9_offer 84 = .ok (.istore_n 2, 1) := by decide +kernel
theorem dX9_offer_85 : decode cX9_offer 85 = .ok (.iinc 3 1, 3) := by decide +kernel
theorem dX9_offer_88 : decode cX9_offer 88 = .ok (.goto (-65), 3) := by decide +kernel
theorem dX9_offer_91 : decode cX9_offer 91 = .ok (.iload_n 2, 1) := by decide +kernel
theorem dX9_offer_92 : decode cX9_offer 92 = .ok (.ireturn, 1) := by decide +kernel
theorem dX9_late_0 : decode cX9_late 0 = .ok (.iconst 0, 1) := by decide +kernel
theorem dX9_late_1 : decode cX9_late 1 = .ok (.istore_n 1, 1) := by decide +kernel
theorem dX9_late_2 : decode cX9_late 2 = .ok (.iconst 0, 1) := by decide +kernel
theorem dX9_late_3 : decode cX9_late 3 = .ok (.istore_n 2, 1) := by decide +kernel
theorem dX9_late_4 : decode cX9_late 4 = .ok (.iload_n 2, 1) := by decide +kernel
theorem dX9_late_5 : decode cX9_late 5 = .ok (.aload_n 0, 1) := by decide +kernel
theorem dX9_late_6 : decode cX9_late 6 = .ok (.getfield 311, 3) := by decide +kernel
theorem dX9_late_9 : decode cX9_late 9 = .ok (.if_icmp .ge 40, 3) := by decide +kernel
theorem dX9_late_12 : decode cX9_late 12 = .ok (.iload_n 1, 1) := by decide +kernel
theorem dX9_late_13 : decode cX9_late 13 = .ok (.aload_n 0, 1) := by decide +kernel
theorem dX9_late_14 : decode cX9_late 14 = .ok (.getfield 143, 3) := by decide +kernel
theorem dX9_late_17 : decode cX9_late 17 = .ok (.iload_n 2, 1) := by decide +kernel
theorem dX9_late_18 : decode cX9_late 18 = .ok (.iaload, 1) := by decide +kernel
theorem dX9_late_19 : decode cX9_late 19 = .ok (.iconst 2, 1) := by decide +kernel
theorem dX9_late_20 : decode cX9_late 20 = .ok (.if_icmp .eq 20, 3) := by decide +kernel
theorem dX9_late_23 : decode cX9_late 23 = .ok (.aload_n 0, 1) := by decide +kernel
theorem dX9_late_24 : decode cX9_late 24 = .ok (.getfield 140, 3) := by decide +kernel
theorem dX9_late_27 : decode cX9_late 27 = .ok (.iload_n 2, 1) := by decide +kernel
theorem dX9_late_28 : decode cX9_late 28 = .ok (.iaload, 1) := by decide +kernel
theorem dX9_late_29 : decode cX9_late 29 = .ok (.aload_n 0, 1) := by decide +kernel
theorem dX9_late_30 : decode cX9_late 30 = .ok (.getfield 321, 3) := by decide +kernel
theorem dX9_late_33 : decode cX9_late 33 = .ok (.if_icmp .ge 7, 3) := by decide +kernel
theorem dX9_late_36 : decode cX9_late 36 = .ok (.iconst 1, 1) := by decide +kernel
theorem dX9_late_37 : decode cX9_late 37 = .ok (.goto 4, 3) := by decide +kernel
theorem dX9_late_40 : decode cX9_late 40 = .ok (.iconst 0, 1) := by decide +kernel
theorem dX9_late_41 : decode cX9_late 41 = .ok (.iadd, 1) := by decide +kernel
theorem dX9_late_42 : decode cX9_late 42 = .ok (.istore_n 1, 1) := by decide +kernel
theorem dX9_late_43 : decode cX9_late 43 = .ok (.iinc 2 1, 3) := by decide +kernel
theorem dX9_late_46 : decode cX9_late 46 = .ok (.goto (-42), 3) := by decide +kernel
theorem dX9_late_49 : decode cX9_late 49 = .ok (.iload_n 1, 1) := by decide +kernel
theorem dX9_late_50 : decode cX9_late 50 = .ok (.ireturn, 1) := by decide +kernel
theorem dX9_personOf_0 : decode cX9_personOf 0 = .ok (.aload_n 0, 1) := by decide +kernel
theorem dX9_personOf_1 : decode cX9_personOf 1 = .ok (.iload_n 1, 1) := by decide +kernel
theorem dX9_personOf_2 : decode cX9_personOf 2 = .ok (.invokevirtual 318, 3) := by decide +kernel
theorem dX9_personOf_5 : decode cX9_personOf 5 = .ok (.ifCond .ne 5, 3) := by decide +kernel
theorem dX9_personOf_8 : decode cX9_personOf 8 = .ok (.iconst (-1), 1) := by decide +kernel
theorem dX9_personOf_9 : decode cX9_personOf 9 = .ok (.ireturn, 1) := by decide +kernel
theorem dX9_personOf_10 : decode cX9_personOf 10 = .ok (.iconst 0, 1) := by decide +kernel
theorem dX9_personOf_11 : decode cX9_personOf 11 = .ok (.istore_n 3, 1) := by decide +kernel
theorem dX9_personOf_12 : decode cX9_personOf 12 = .ok (.iconst 0, 1) := by decide +kernel
theorem dX9_personOf_13 : decode cX9_personOf 13 = .ok (.istore 4, 2) := by decide +kernel
theorem dX9_personOf_15 : decode cX9_personOf 15 = .ok (.iload 4, 2) := by decide +kernel
theorem dX9_personOf_17 : decode cX9_personOf 17 = .ok (.aload_n 0, 1) := by decide +kernel
theorem dX9_personOf_18 : decode cX9_personOf 18 = .ok (.getfield 311, 3) := by decide +kernel
theorem dX9_personOf_21 : decode cX9_personOf 21 = .ok (.if_icmp .ge 39, 3) := by decide +kernel
theorem dX9_personOf_24 : decode cX9_personOf 24 = .ok (.iload_n 3, 1) := by decide +kernel
theorem dX9_personOf_25 : decode cX9_personOf 25 = .ok (.aload_n 0, 1) := by decide +kernel
theorem dX9_personOf_26 : decode cX9_personOf 26 = .ok (.getfield 143, 3) := by decide +kernel
theorem dX9_personOf_29 : decode cX9_personOf 29 = .ok (.iload 4, 2) := by decide +kernel
theorem dX9_personOf_31 : decode cX9_personOf 31 = .ok (.iaload, 1) := by decide +kernel
theorem dX9_personOf_32 : decode cX9_personOf 32 = .ok (.iconst 2, 1) := by decide +kernel
theorem dX9_personOf_33 : decode cX9_personOf 33 = .ok (.if_icmp .ne 18, 3) := by decide +kernel
theorem dX9_personOf_36 : decode cX9_personOf 36 = .ok (.aload_n 0, 1) := by decide +kernel
theorem dX9_personOf_37 : decode cX9_personOf 37 = .ok (.getfield 146, 3) := by decide +kernel
theorem dX9_personOf_40 : decode cX9_personOf 40 = .ok (.iload 4, 2) := by decide +kernel
theorem dX9_personOf_42 : decode cX9_personOf 42 = .ok (.iaload, 1) := by decide +kernel
theorem dX9_personOf_43 : decode cX9_personOf 43 = .ok (.iload_n 1, 1) := by decide +kernel
theorem dX9_personOf_44 : decode cX9_personOf 44 = .ok (.if_icmp .ne 7, 3) := by decide +kernel
theorem dX9_personOf_47 : decode cX9_personOf 47 = .ok (.iconst 1, 1) := by decide +kernel
theorem dX9_personOf_48 : decode cX9_personOf 48 = .ok (.goto 4, 3) := by decide +kernel
theorem dX9_personOf_51 : decode cX9_personOf 51 = .ok (.iconst 0, 1) := by decide +kernel
theorem dX9_personOf_52 : decode cX9_personOf 52 = .ok (.iadd, 1) := by decide +kernel
theorem dX9_personOf_53 : decode cX9_personOf 53 = .ok (.istore_n 3, 1) := by decide +kernel
theorem dX9_personOf_54 : decode cX9_personOf 54 = .ok (.iinc 4 1, 3) := by decide +kernel
theorem dX9_personOf_57 : decode cX9_personOf 57 = .ok (.goto (-42), 3) := by decide +kernel
theorem dX9_personOf_60 : decode cX9_personOf 60 = .ok (.iload_n 2, 1) := by decide +kernel
theorem dX9_personOf_61 : decode cX9_personOf 61 = .ok (.tableswitch 83 0 5 #[39, 46, 53, 59, 74, 81], 39) := by decide +kernel
theorem dX9_personOf_100 : decode cX9_personOf 100 = .ok (.aload_n 0, 1) := by decide +kernel
theorem dX9_personOf_101 : decode cX9_personOf 101 = .ok (.getfield 152, 3) := by decide +kernel
theorem dX9_personOf_104 : decode cX9_personOf 104 = .ok (.iload_n 1, 1) := by decide +kernel
theorem dX9_personOf_105 : decode cX9_personOf 105 = .ok (.iaload, 1) := by decide +kernel
theorem dX9_personOf_106 : decode cX9_personOf 106 = .ok (.ireturn, 1) := by decide +kernel
theorem dX9_personOf_107 : decode cX9_personOf 107 = .ok (.aload_n 0, 1) := by decide +kernel
theorem dX9_personOf_108 : decode cX9_personOf 108 = .ok (.getfield 155, 3) := by decide +kernel
theorem dX9_personOf_111 : decode cX9_personOf 111 = .ok (.iload_n 1, 1) := by decide +kernel
theorem dX9_personOf_112 : decode cX9_personOf 112 = .ok (.iaload, 1) := by decide +kernel
theorem dX9_personOf_113 : decode cX9_personOf 113 = .ok (.ireturn, 1) := by decide +kernel
theorem dX9_personOf_114 : decode cX9_personOf 114 = .ok (.aload_n 0, 1) := by decide +kernel
theorem dX9_personOf_115 : decode cX9_personOf 115 = .ok (.iload_n 1, 1) := by decide +kernel
theorem dX9_personOf_116 : decode cX9_personOf 116 = .ok (.invokevirtual 360, 3) := by decide +kernel
theorem dX9_personOf_119 : decode cX9_personOf 119 = .ok (.ireturn, 1) := by decide +kernel
theorem dX9_personOf_120 : decode cX9_personOf 120 = .ok (.aload_n 0, 1) := by decide +kernel
theorem dX9_personOf_121 : decode cX9_personOf 121 = .ok (.getfield 161, 3) := by decide +kernel
theorem dX9_personOf_124 : decode cX9_personOf 124 = .ok (.iload_n 1, 1) := by decide +kernel
theorem dX9_personOf_125 : decode cX9_personOf 125 = .ok (.baload, 1) := by decide +kernel
theorem dX9_personOf_126 : decode cX9_personOf 126 = .ok (.ifCond .eq 7, 3) := by decide +kernel
theorem dX9_personOf_129 : decode cX9_personOf 129 = .ok (.iconst 1, 1) := by decide +kernel
theorem dX9_personOf_130 : decode cX9_personOf 130 = .ok (.goto 4, 3) := by decide +kernel
theorem dX9_personOf_133 : decode cX9_personOf 133 = .ok (.iconst 0, 1) := by decide +kernel
theorem dX9_personOf_134 : decode cX9_personOf 134 = .ok (.ireturn, 1) := by decide +kernel
theorem dX9_personOf_135 : decode cX9_personOf 135 = .ok (.aload_n 0, 1) := by decide +kernel
theorem dX9_personOf_136 : decode cX9_personOf 136 = .ok (.getfield 158, 3) := by decide +kernel
theorem dX9_personOf_139 : decode cX9_personOf 139 = .ok (.iload_n 1, 1) := by decide +kernel
theorem dX9_personOf_140 : decode cX9_personOf 140 = .ok (.iaload, 1) := by decide +kernel
theorem dX9_personOf_141 : decode cX9_personOf 141 = .ok (.ireturn, 1) := by decide +kernel
theorem dX9_personOf_142 : decode cX9_personOf 142 = .ok (.iload_n 3, 1) := by decide +kernel
theorem dX9_personOf_143 : decode cX9_personOf 143 = .ok (.ireturn, 1) := by decide +kernel
theorem dX9_personOf_144 : decode cX9_personOf 144 = .ok (.iconst (-1), 1) := by decide +kernel
theorem dX9_personOf_145 : decode cX9_personOf 145 = .ok (.ireturn, 1) := by decide +kernel
