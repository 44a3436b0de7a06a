theorem dX10_init_0 : decode cX10_init 0 = .ok (.aload_n 0, 1) := by decide +kernel
theorem dX10_init_1 : decode cX10_init 1 = .ok (.invokespecial 1, 3) := by decide +kernel
theorem dX10_init_4 : decode cX10_init 4 = .ok (.aload_n 0, 1) := by decide +kernel
theorem dX10_init_5 : decode cX10_init 5 = .ok (.bipush 64, 2) := by decide +kernel
theorem dX10_init_7 : decode cX10_init 7 = .ok (.newarray .int, 2) := by decide +kernel
theorem dX10_init_9 : decode cX10_init 9 = .ok (.putfield 7, 3) := by decide +kernel
theorem dX10_init_12 : decode cX10_init 12 = .ok (.aload_n 0, 1) := by decide +kernel
theorem dX10_init_13 : decode cX10_init 13 = .ok (.bipush 24, 2) := by decide +kernel
theorem dX10_init_15 : decode cX10_init 15 = .ok (.newarray .int, 2) := by decide +kernel
theorem dX10_init_17 : decode cX10_init 17 = .ok (.putfield 13, 3) := by decide +kernel
theorem dX10_init_20 : decode cX10_init 20 = .ok (.aload_n 0, 1) := by decide +kernel
theorem dX10_init_21 : decode cX10_init 21 = .ok (.bipush 24, 2) := by decide +kernel
theorem dX10_init_23 : decode cX10_init 23 = .ok (.newarray .int, 2) := by decide +kernel
theorem dX10_init_25 : decode cX10_init 25 = .ok (.putfield 16, 3) := by decide +kernel
theorem dX10_init_28 : decode cX10_init 28 = .ok (.aload_n 0, 1) := by decide +kernel
theorem dX10_init_29 : decode cX10_init 29 = .ok (.bipush 24, 2) := by decide +kernel
theorem dX10_init_31 : decode cX10_init 31 = .ok (.newarray .int, 2) := by decide +kernel
theorem dX10_init_33 : decode cX10_init 33 = .ok (.putfield 19, 3) := by decide +kernel
theorem dX10_init_36 : decode cX10_init 36 = .ok (.aload_n 0, 1) := by decide +kernel
theorem dX10_init_37 : decode cX10_init 37 = .ok (.bipush 24, 2) := by decide +kernel
theorem dX10_init_39 : decode cX10_init 39 = .ok (.newarray .int, 2) := by decide +kernel
theorem dX10_init_41 : decode cX10_init 41 = .ok (.putfield 22, 3) := by decide +kernel
theorem dX10_init_44 : decode cX10_init 44 = .ok (.aload_n 0, 1) := by decide +kernel
theorem dX10_init_45 : decode cX10_init 45 = .ok (.bipush 24, 2) := by decide +kernel
theorem dX10_init_47 : decode cX10_init 47 = .ok (.newarray .int, 2) := by decide +kernel
theorem dX10_init_49 : decode cX10_init 49 = .ok (.putfield 25, 3) := by decide +kernel
theorem dX10_init_52 : decode cX10_init 52 = .ok (.aload_n 0, 1) := by decide +kernel
theorem dX10_init_53 : decode cX10_init 53 = .ok (.bipush 48, 2) := by decide +kernel
theorem dX10_init_55 : decode cX10_init 55 = .ok (.newarray .int, 2) := by decide +kernel
theorem dX10_init_57 : decode cX10_init 57 = .ok (.putfield 28, 3) := by decide +kernel
theorem dX10_init_60 : decode cX10_init 60 = .ok (.aload_n 0, 1) := by decide +kernel
theorem dX10_init_61 : decode cX10_init 61 = .ok (.bipush 48, 2) := by decide +kernel
theorem dX10_init_63 : decode cX10_init 63 = .ok (.newarray .int, 2) := by decide +kernel
theorem dX10_init_65 : decode cX10_init 65 = .ok (.putfield 31, 3) := by decide +kernel
theorem dX10_init_68 : decode cX10_init 68 = .ok (.aload_n 0, 1) := by decide +kernel
theorem dX10_init_69 : decode cX10_init 69 = .ok (.bipush 48, 2) := by decide +kernel
theorem dX10_init_71 : decode cX10_init 71 = .ok (.newarray .int, 2) := by decide +kernel
theorem dX10_init_73 : decode cX10_init 73 = .ok (.putfield 34, 3) := by decide +kernel
theorem dX10_init_76 : decode cX10_init 76 = .ok (.aload_n 0, 1) := by decide +kernel
theorem dX10_init_77 : decode cX10_init 77 = .ok (.bipush 48, 2) := by decide +kernel
theorem dX10_init_79 : decode cX10_init 79 = .ok (.newarray .int, 2) := by decide +kernel
theorem dX10_init_81 : decode cX10_init 81 = .ok (.putfield 37, 3) := by decide +kernel
theorem dX10_init_84 : decode cX10_init 84 = .ok (.aload_n 0, 1) := by decide +kernel
theorem dX10_init_85 : decode cX10_init 85 = .ok (.bipush 6, 2) := by decide +kernel
theorem dX10_init_87 : decode cX10_init 87 = .ok (.newarray .int, 2) := by decide +kernel
theorem dX10_init_89 : decode cX10_init 89 = .ok (.putfield 40, 3) := by decide +kernel
theorem dX10_init_92 : decode cX10_init 92 = .ok (.aload_n 0, 1) := by decide +kernel
theorem dX10_init_93 : decode cX10_init 93 = .ok (.bipush 6, 2) := by decide +kernel
theorem dX10_init_95 : decode cX10_init 95 = .ok (.newarray .int, 2) := by decide +kernel
theorem dX10_init_97 : decode cX10_init 97 = .ok (.putfield 43, 3) := by decide +kernel
theorem dX10_init_100 : decode cX10_init 100 = .ok (.aload_n 0, 1) := by decide +kernel
theorem dX10_init_101 : decode cX10_init 101 = .ok (.bipush 6, 2) := by decide +kernel
theorem dX10_init_103 : decode cX10_init 103 = .ok (.newarray .int, 2) := by decide +kernel
theorem dX10_init_105 : decode cX10_init 105 = .ok (.putfield 46, 3) := by decide +kernel
theorem dX10_init_108 : decode cX10_init 108 = .ok (.aload_n 0, 1) := by decide +kernel
theorem dX10_init_109 : decode cX10_init 109 = .ok (.bipush 40, 2) := by decide +kernel
theorem dX10_init_111 : decode cX10_init 111 = .ok (.newarray .int, 2) := by decide +kernel
theorem dX10_init_113 : decode cX10_init 113 = .ok (.putfield 49, 3) := by decide +kernel
theorem dX10_init_116 : decode cX10_init 116 = .ok (.aload_n 0, 1) := by decide +kernel
theorem dX10_init_117 : decode cX10_init 117 = .ok (.bipush 40, 2) := by decide +kernel
theorem dX10_init_119 : decode cX10_init 119 = .ok (.newarray .int, 2) := by decide +kernel
theorem dX10_init_121 : decode cX10_init 121 = .ok (.putfield 52, 3) := by decide +kernel
theorem dX10_init_124 : decode cX10_init 124 = .ok (.aload_n 0, 1) := by decide +kernel
theorem dX10_init_125 : decode cX10_init 125 = .ok (.bipush 40, 2) := by decide +kernel
theorem dX10_init_127 : decode cX10_init 127 = .ok (.newarray .int, 2) := by decide +kernel
theorem dX10_init_129 : decode cX10_init 129 = .ok (.putfield 55, 3) := by decide +kernel
theorem dX10_init_132 : decode cX10_init 132 = .ok (.aload_n 0, 1) := by decide +kernel
theorem dX10_init_133 : decode cX10_init 133 = .ok (.bipush 40, 2) := by decide +kernel
theorem dX10_init_135 : decode cX10_init 135 = .ok (.newarray .int, 2) := by decide +kernel
theorem dX10_init_137 : decode cX10_init 137 = .ok (.putfield 58, 3) := by decide +kernel
theorem dX10_init_140 : decode cX10_init 140 = .ok (.aload_n 0, 1) := by decide +kernel
theorem dX10_init_141 : decode cX10_init 141 = .ok (.iconst (-1), 1) := by decide +kernel
theorem dX10_init_142 : decode cX10_init 142 = .ok (.putfield 61, 3) := by decide +kernel
theorem dX10_init_145 : decode cX10_init 145 = .ok (.aload_n 0, 1) := by decide +kernel
theorem dX10_init_146 : decode cX10_init 146 = .ok (.bipush 8, 2) := by decide +kernel
theorem dX10_init_148 : decode cX10_init 148 = .ok (.newarray .int, 2) := by decide +kernel
theorem dX10_init_150 : decode cX10_init 150 = .ok (.putfield 65, 3) := by decide +kernel
theorem dX10_init_153 : decode cX10_init 153 = .ok (.aload_n 0, 1) := by decide +kernel
theorem dX10_init_154 : decode cX10_init 154 = .ok (.bipush 8, 2) := by decide +kernel
theorem dX10_init_156 : decode cX10_init 156 = .ok (.newarray .int, 2) := by decide +kernel
theorem dX10_init_158 : decode cX10_init 158 = .ok (.putfield 68, 3) := by decide +kernel
theorem dX10_init_161 : decode cX10_init 161 = .ok (.aload_n 0, 1) := by decide +kernel
theorem dX10_init_162 : decode cX10_init 162 = .ok (.bipush 64, 2) := by decide +kernel
theorem dX10_init_164 : decode cX10_init 164 = .ok (.newarray .int, 2) := by decide +kernel
theorem dX10_init_166 : decode cX10_init 166 = .ok (.putfield 71, 3) := by decide +kernel
theorem dX10_init_169 : decode cX10_init 169 = .ok (.aload_n 0, 1) := by decide +kernel
theorem dX10_init_170 : decode cX10_init 170 = .ok (.bipush 64, 2) := by decide +kernel
theorem dX10_init_172 : decode cX10_init 172 = .ok (.newarray .int, 2) := by decide +kernel
theorem dX10_init_174 : decode cX10_init 174 = .ok (.putfield 74, 3) := by decide +kernel
theorem dX10_init_177 : decode cX10_init 177 = .ok (.aload_n 0, 1) := by decide +kernel
theorem dX10_init_178 : decode cX10_init 178 = .ok (.bipush 64, 2) := by decide +kernel
theorem dX10_init_180 : decode cX10_init 180 = .ok (.newarray .int, 2) := by decide +kernel
theorem dX10_init_182 : decode cX10_init 182 = .ok (.putfield 77, 3) := by decide +kernel
theorem dX10_init_185 : decode cX10_init 185 = .ok (.aload_n 0, 1) := by decide +kernel
theorem dX10_init_186 : decode cX10_init 186 = .ok (.sipush 160, 3) := by decide +kernel
theorem dX10_init_189 : decode cX10_init 189 = .ok (.newarray .int, 2) := by decide +kernel
theorem dX10_init_191 : decode cX10_init 191 = .ok (.putfield 80, 3) := by decide +kernel
theorem dX10_init_194 : decode cX10_init 194 = .ok (.aload_n 0, 1) := by decide +kernel
theorem dX10_init_195 : decode cX10_init 195 = .ok (.iconst (-1), 1) := by decide +kernel
theorem dX10_init_196 : decode cX10_init 196 = .ok (.putfield 83, 3) := by decide +kernel
theorem dX10_init_199 : decode cX10_init 199 = .ok (.aload_n 0, 1) := by decide +kernel
theorem dX10_init_200 : decode cX10_init 200 = .ok (.bipush 8, 2) := by decide +kernel
theorem dX10_init_202 : decode cX10_init 202 = .ok (.newarray .boolean, 2) := by decide +kernel
theorem dX10_init_204 : decode cX10_init 204 = .ok (.putfield 86, 3) := by decide +kernel
theorem dX10_init_207 : decode cX10_init 207 = .ok (.aload_n 0, 1) := by decide +kernel
theorem dX10_init_208 : decode cX10_init 208 = .ok (.bipush 8, 2) := by decide +kernel
theorem dX10_init_210 : decode cX10_init 210 = .ok (.newarray .int, 2) := by decide +kernel
theorem dX10_init_212 : decode cX10_init 212 = .ok (.putfield 90, 3) := by decide +kernel
theorem dX10_init_215 : decode cX10_init 215 = .ok (.aload_n 0, 1) := by decide +kernel
theorem dX10_init_216 : decode cX10_init 216 = .ok (.iconst 3, 1) := by decide +kernel
theorem dX10_init_217 : decode cX10_init 217 = .ok (.newarray .int, 2) := by decide +kernel
theorem dX10_init_219 : decode cX10_init 219 = .ok (.putfield 93, 3) := by decide +kernel
theorem dX10_init_222 : decode cX10_init 222 = .ok (.aload_n 0, 1) := by decide +kernel
theorem dX10_init_223 : decode cX10_init 223 = .ok (.bipush 40, 2) := by decide +kernel
theorem dX10_init_225 : decode cX10_init 225 = .ok (.newarray .int, 2) := by decide +kernel
theorem dX10_init_227 : decode cX10_init 227 = .ok (.putfield 96, 3) := by decide +kernel
theorem dX10_init_230 : decode cX10_init 230 = .ok (.aload_n 0, 1) := by decide +kernel
theorem dX10_init_231 : decode cX10_init 231 = .ok (.bipush 40, 2) := by decide +kernel
theorem dX10_init_233 : decode cX10_init 233 = .ok (.newarray .int, 2) := by decide +kernel
theorem dX10_init_235 : decode cX10_init 235 = .ok (.putfield 99, 3) := by decide +kernel
theorem dX10_init_238 : decode cX10_init 238 = .ok (.aload_n 0, 1) := by decide +kernel
theorem dX10_init_239 : decode cX10_init 239 = .ok (.bipush 40, 2) := by decide +kernel
theorem dX10_init_241 : decode cX10_init 241 = .ok (.newarray .int, 2) := by decide +kernel
theorem dX10_init_243 : decode cX10_init 243 = .ok (.putfield 102, 3) := by decide +kernel
theorem dX10_init_246 : decode cX10_init 246 = .ok (.aload_n 0, 1) := by decide +kernel
theorem dX10_init_247 : decode cX10_init 247 = .ok (.bipush 40, 2) := by decide +kernel
theorem dX10_init_249 : decode cX10_init 249 = .ok (.newarray .int, 2) := by decide +kernel
theorem dX10_init_251 : decode cX10_init 251 = .ok (.putfield 105, 3) := by decide +kernel
theorem dX10_init_254 : decode cX10_init 254 = .ok (.aload_n 0, 1) := by decide +kernel
theorem dX10_init_255 : decode cX10_init 255 = .ok (.bipush 40, 2) := by decide +kernel
theorem dX10_init_257 : decode cX10_init 257 = .ok (.newarray .int, 2) := by decide +kernel
theorem dX10_init_259 : decode cX10_init 259 = .ok (.putfield 108, 3) := by decide +kernel
theorem dX10_init_262 : decode cX10_init 262 = .ok (.aload_n 0, 1) := by decide +kernel
theorem dX10_init_263 : decode cX10_init 263 = .ok (.bipush 40, 2) := by decide +kernel
theorem dX10_init_265 : decode cX10_init 265 = .ok (.newarray .int, 2) := by decide +kernel
theorem dX10_init_267 : decode cX10_init 267 = .ok (.putfield 111, 3) := by decide +kernel
theorem dX10_init_270 : decode cX10_init 270 = .ok (.aload_n 0, 1) := by decide +kernel
theorem dX10_init_271 : decode cX10_init 271 = .ok (.bipush 40, 2) := by decide +kernel
theorem dX10_init_273 : decode cX10_init 273 = .ok (.newarray .int, 2) := by decide +kernel
theorem dX10_init_275 : decode cX10_init 275 = .ok (.putfield 114, 3) := by decide +kernel
theorem dX10_init_278 : decode cX10_init 278 = .ok (.aload_n 0, 1) := by decide +kernel
theorem dX10_init_279 : decode cX10_init 279 = .ok (.bipush 40, 2) := by decide +kernel
theorem dX10_init_281 : decode cX10_init 281 = .ok (.newarray .int, 2) := by decide +kernel
theorem dX10_init_283 : decode cX10_init 283 = .ok (.putfield 117, 3) := by decide +kernel
theorem dX10_init_286 : decode cX10_init 286 = .ok (.aload_n 0, 1) := by decide +kernel
theorem dX10_init_287 : decode cX10_init 287 = .ok (.bipush 40, 2) := by decide +kernel
theorem dX10_init_289 : decode cX10_init 289 = .ok (.newarray .int, 2) := by decide +kernel
theorem dX10_init_291 : decode cX10_init 291 = .ok (.putfield 120, 3) := by decide +kernel
theorem dX10_init_294 : decode cX10_init 294 = .ok (.aload_n 0, 1) := by decide +kernel
theorem dX10_init_295 : decode cX10_init 295 = .ok (.bipush 24, 2) := by decide +kernel
theorem dX10_init_297 : decode cX10_init 297 = .ok (.newarray .int, 2) := by decide +kernel
theorem dX10_init_299 : decode cX10_init 299 = .ok (.putfield 123, 3) := by decide +kernel
theorem dX10_init_302 : decode cX10_init 302 = .ok (.aload_n 0, 1) := by decide +kernel
theorem dX10_init_303 : decode cX10_init 303 = .ok (.bipush 24, 2) := by decide +kernel
theorem dX10_init_305 : decode cX10_init 305 = .ok (.newarray .int, 2) := by decide +kernel
theorem dX10_init_307 : decode cX10_init 307 = .ok (.putfield 126, 3) := by decide +kernel
theorem dX10_init_310 : decode cX10_init 310 = .ok (.aload_n 0, 1) := by decide +kernel
theorem dX10_init_311 : decode cX10_init 311 = .ok (.bipush 24, 2) := by decide +kernel
theorem dX10_init_313 : decode cX10_init 313 = .ok (.newarray .int, 2) := by decide +kernel
theorem dX10_init_315 : decode cX10_init 315 = .ok (.putfield 129, 3) := by decide +kernel
theorem dX10_init_318 : decode cX10_init 318 = .ok (.aload_n 0, 1) := by decide +kernel
theorem dX10_init_319 : decode cX10_init 319 = .ok (.bipush 24, 2) := by decide +kernel
theorem dX10_init_321 : decode cX10_init 321 = .ok (.newarray .int, 2) := by decide +kernel
theorem dX10_init_323 : decode cX10_init 323 = .ok (.putfield 132, 3) := by decide +kernel
theorem dX10_init_326 : decode cX10_init 326 = .ok (.aload_n 0, 1) := by decide +kernel
theorem dX10_init_327 : decode cX10_init 327 = .ok (.bipush 24, 2) := by decide +kernel
theorem dX10_init_329 : decode cX10_init 329 = .ok (.newarray .boolean, 2) := by decide +kernel
theorem dX10_init_331 : decode cX10_init 331 = .ok (.putfield 135, 3) := by decide +kernel
theorem dX10_init_334 : decode cX10_init 334 = .ok (.aload_n 0, 1) := by decide +kernel
theorem dX10_init_335 : decode cX10_init 335 = .ok (.bipush 9, 2) := by decide +kernel
theorem dX10_init_337 : decode cX10_init 337 = .ok (.newarray .int, 2) := by decide +kernel
theorem dX10_init_339 : decode cX10_init 339 = .ok (.putfield 138, 3) := by decide +kernel
theorem dX10_init_342 : decode cX10_init 342 = .ok (.aload_n 0, 1) := by decide +kernel
theorem dX10_init_343 : decode cX10_init 343 = .ok (.sipush 9100, 3) := by decide +kernel
theorem dX10_init_346 : decode cX10_init 346 = .ok (.newarray .int, 2) := by decide +kernel
theorem dX10_init_348 : decode cX10_init 348 = .ok (.putfield 141, 3) := by decide +kernel
theorem dX10_init_351 : decode cX10_init 351 = .ok (.aload_n 0, 1) := by decide +kernel
theorem dX10_init_352 : decode cX10_init 352 = .ok (.sipush 400, 3) := by decide +kernel
theorem dX10_init_355 : decode cX10_init 355 = .ok (.newarray .int, 2) := by decide +kernel
theorem dX10_init_357 : decode cX10_init 357 = .ok (.putfield 144, 3) := by decide +kernel
theorem dX10_init_360 : decode cX10_init 360 = .ok (.iconst 0, 1) := by decide +kernel
theorem dX10_init_361 : decode cX10_init 361 = .ok (.istore_n 1, 1) := by decide +kernel
theorem dX10_init_362 : decode cX10_init 362 = .ok (.iload_n 1, 1) := by decide +kernel
theorem dX10_init_363 : decode cX10_init 363 = .ok (.bipush 64, 2) := by decide +kernel
theorem dX10_init_365 : decode cX10_init 365 = .ok (.if_icmp .ge 32, 3) := by decide +kernel
theorem dX10_init_368 : decode cX10_init 368 = .ok (.aload_n 0, 1) := by decide +kernel
theorem dX10_init_369 : decode cX10_init 369 = .ok (.getfield 7, 3) := by decide +kernel
theorem dX10_init_372 : decode cX10_init 372 = .ok (.iload_n 1, 1) := by decide +kernel
theorem dX10_init_373 : decode cX10_init 373 = .ok (.iload_n 1, 1) := by decide +kernel
theorem dX10_init_374 : decode cX10_init 374 = .ok (.bipush 8, 2) := by decide +kernel
theorem dX10_init_376 : decode cX10_init 376 = .ok (.idiv, 1) := by decide +kernel
theorem dX10_init_377 : decode cX10_init 377 = .ok (.iload_n 1, 1) := by decide +kernel
theorem dX10_init_378 : decode cX10_init 378 = .ok (.bipush 8, 2) := by decide +kernel
theorem dX10_init_380 : decode cX10_init 380 = .ok (.irem, 1) := by decide +kernel
theorem dX10_init_381 : decode cX10_init 381 = .ok (.if_icmp .ne 7, 3) := by decide +kernel
theorem dX10_init_384 : decode cX10_init 384 = .ok (.iconst 0, 1) := by decide +kernel
theorem dX10_init_385 : decode cX10_init 385 = .ok (.goto 5, 3) := by decide +kernel
theorem dX10_init_388 : decode cX10_init 388 = .ok (.ldc 147, 2) := by decide +kernel
theorem dX10_init_390 : decode cX10_init 390 = .ok (.iastore, 1) := by decide +kernel
theorem dX10_init_391 : decode cX10_init 391 = .ok (.iinc 1 1, 3) := by decide +kernel
theorem dX10_init_394 : decode cX10_init 394 = .ok (.goto (-32), 3) := by decide +kernel
theorem dX10_init_397 : decode cX10_init 397 = .ok (.iconst 0, 1) := by decide +kernel
theorem dX10_init_398 : decode cX10_init 398 = .ok (.istore_n 1, 1) := by decide +kernel
theorem dX10_init_399 : decode cX10_init 399 = .ok (.iload_n 1, 1) := by decide +kernel
theorem dX10_init_400 : decode cX10_init 400 = .ok (.bipush 6, 2) := by decide +kernel
theorem dX10_init_402 : decode cX10_init 402 = .ok (.if_icmp .ge 44, 3) := by decide +kernel
theorem dX10_init_405 : decode cX10_init 405 = .ok (.aload_n 0, 1) := by decide +kernel
theorem dX10_init_406 : decode cX10_init 406 = .ok (.getfield 46, 3) := by decide +kernel
theorem dX10_init_409 : decode cX10_init 409 = .ok (.iload_n 1, 1) := by decide +kernel
theorem dX10_init_410 : decode cX10_init 410 = .ok (.bipush 20, 2) := by decide +kernel
theorem dX10_init_412 : decode cX10_init 412 = .ok (.iastore, 1) := by decide +kernel
theorem dX10_init_413 : decode cX10_init 413 = .ok (.iconst 0, 1) := by decide +kernel
theorem dX10_init_414 : decode cX10_init 414 = .ok (.istore_n 2, 1) := by decide +kernel
theorem dX10_init_415 : decode cX10_init 415 = .ok (.iload_n 2, 1) := by decide +kernel
theorem dX10_init_416 : decode cX10_init 416 = .ok (.bipush 8, 2) := by decide +kernel
theorem dX10_init_418 : decode cX10_init 418 = .ok (.if_icmp .ge 22, 3) := by decide +kernel
theorem dX10_init_421 : decode cX10_init 421 = .ok (.aload_n 0, 1) := by decide +kernel
theorem dX10_init_422 : decode cX10_init 422 = .ok (.getfield 34, 3) := by decide +kernel
theorem dX10_init_425 : decode cX10_init 425 = .ok (.bipush 8, 2) := by decide +kernel
theorem dX10_init_427 : decode cX10_init 427 = .ok (.iload_n 1, 1) := by decide +kernel
theorem dX10_init_428 : decode cX10_init 428 = .ok (.imul, 1) := by decide +kernel
theorem dX10_init_429 : decode cX10_init 429 = .ok (.iload_n 2, 1) := by decide +kernel
theorem dX10_init_430 : decode cX10_init 430 = .ok (.iadd, 1) := by decide +kernel
theorem dX10_init_431 : decode cX10_init 431 = .ok (.bipush 20, 2) := by decide +kernel
theorem dX10_init_433 : decode cX10_init 433 = .ok (.iastore, 1) := by decide +kernel
theorem dX10_init_434 : decode cX10_init 434 = .ok (.iinc 2 1, 3) := by decide +kernel
theorem dX10_init_437 : decode cX10_init 437 = .ok (.goto (-22), 3) := by decide +kernel
theorem dX10_init_440 : decode cX10_init 440 = .ok (.iinc 1 1, 3) := by decide +kernel
theorem dX10_init_443 : decode cX10_init 443 = .ok (.goto (-44), 3) := by decide +kernel
theorem dX10_init_446 : decode cX10_init 446 = .ok (.iconst 0, 1) := by decide +kernel
theorem dX10_init_447 : decode cX10_init 447 = .ok (.istore_n 1, 1) := by decide +kernel
theorem dX10_init_448 : decode cX10_init 448 = .ok (.iload_n 1, 1) := by decide +kernel
theorem dX10_init_449 : decode cX10_init 449 = .ok (.bipush 24, 2) := by decide +kernel
theorem dX10_init_451 : decode cX10_init 451 = .ok (.if_icmp .ge 16, 3) := by decide +kernel
theorem dX10_init_454 : decode cX10_init 454 = .ok (.aload_n 0, 1) := by decide +kernel
theorem dX10_init_455 : decode cX10_init 455 = .ok (.getfield 25, 3) := by decide +kernel
theorem dX10_init_458 : decode cX10_init 458 = .ok (.iload_n 1, 1) := by decide +kernel
theorem dX10_init_459 : decode cX10_init 459 = .ok (.iconst (-1), 1) := by decide +kernel
theorem dX10_init_460 : decode cX10_init 460 = .ok (.iastore, 1) := by decide +kernel
theorem dX10_init_461 : decode cX10_init 461 = .ok (.iinc 1 1, 3) := by decide +kernel
theorem dX10_init_464 : decode cX10_init 464 = .ok (.goto (-16), 3) := by decide +kernel
theorem dX10_init_467 : decode cX10_init 467 = .ok (.return_, 1) := by decide +kernel
theorem dX10_in_0 : decode cX10_in 0 = .ok (.lload_n 0, 1) := by decide +kernel
theorem dX10_in_1 : decode cX10_in 1 = .ok (.lload_n 2, 1) := by decide +kernel
theorem dX10_in_2 : decode cX10_in 2 = .ok (.lcmp, 1) := by decide +kernel
theorem dX10_in_3 : decode cX10_in 3 = .ok (.ifCond .lt 14, 3) := by decide +kernel
theorem dX10_in_6 : decode cX10_in 6 = .ok (.lload_n 0, 1) := by decide +kernel
theorem dX10_in_7 : decode cX10_in 7 = .ok (.lload 4, 2) := by decide +kernel
theorem dX10_in_9 : decode cX10_in 9 = .ok (.lcmp, 1) := by decide +kernel
theorem dX10_in_10 : decode cX10_in 10 = .ok (.ifCond .gt 7, 3) := by decide +kernel
theorem dX10_in_13 : decode cX10_in 13 = .ok (.iconst 1, 1) := by decide +kernel
theorem dX10_in_14 : decode cX10_in 14 = .ok (.goto 4, 3) := by decide +kernel
theorem dX10_in_17 : decode cX10_in 17 = .ok (.iconst 0, 1) := by decide +kernel
theorem dX10_in_18 : decode cX10_in 18 = .ok (.ireturn, 1) := by decide +kernel
theorem dX10_one_0 : decode cX10_one 0 = .ok (.iload_n 0, 1) := by decide +kernel
theorem dX10_one_1 : decode cX10_one 1 = .ok (.ifCond .eq 7, 3) := by decide +kernel
theorem dX10_one_4 : decode cX10_one 4 = .ok (.iconst 1, 1) := by decide +kernel
theorem dX10_one_5 : decode cX10_one 5 = .ok (.goto 4, 3) := by decide +kernel
theorem dX10_one_8 : decode cX10_one 8 = .ok (.iconst 0, 1) := by decide +kernel
theorem dX10_one_9 : decode cX10_one 9 = .ok (.ireturn, 1) := by decide +kernel
theorem dX10_isTown_0 : decode cX10_isTown 0 = .ok (.iload_n 0, 1) := by decide +kernel
theorem dX10_isTown_1 : decode cX10_isTown 1 = .ok (.i2l, 1) := by decide +kernel
theorem dX10_isTown_2 : decode cX10_isTown 2 = .ok (.lconst 0, 1) := by decide +kernel
theorem dX10_isTown_3 : decode cX10_isTown 3 = .ok (.ldc2_w 148, 3) := by decide +kernel
theorem dX10_isTown_6 : decode cX10_isTown 6 = .ok (.invokestatic 150, 3) := by decide +kernel
theorem dX10_isTown_9 : decode cX10_isTown 9 = .ok (.ireturn, 1) := by decide +kernel
theorem dX10_isUnion_0 : decode cX10_isUnion 0 = .ok (.iload_n 0, 1) := by decide +kernel
theorem dX10_isUnion_1 : decode cX10_isUnion 1 = .ok (.i2l, 1) := by decide +kernel
theorem dX10_isUnion_2 : decode cX10_isUnion 2 = .ok (.lconst 0, 1) := by decide +kernel
theorem dX10_isUnion_3 : decode cX10_isUnion 3 = .ok (.ldc2_w 154, 3) := by decide +kernel
theorem dX10_isUnion_6 : decode cX10_isUnion 6 = .ok (.invokestatic 150, 3) := by decide +kernel
theorem dX10_isUnion_9 : decode cX10_isUnion 9 = .ok (.ireturn, 1) := by decide +kernel
theorem dX10_isHour_0 : decode cX10_isHour 0 = .ok (.iload_n 0, 1) := by decide +kernel
theorem dX10_isHour_1 : decode cX10_isHour 1 = .ok (.i2l, 1) := by decide +kernel
theorem dX10_isHour_2 : decode cX10_isHour 2 = .ok (.lconst 0, 1) := by decide +kernel
theorem dX10_isHour_3 : decode cX10_isHour 3 = .ok (.ldc2_w 156, 3) := by decide +kernel
theorem dX10_isHour_6 : decode cX10_isHour 6 = .ok (.invokestatic 150, 3) := by decide +kernel
theorem dX10_isHour_9 : decode cX10_isHour 9 = .ok (.ireturn, 1) := by decide +kernel
theorem dX10_least_0 : decode cX10_least 0 = .ok (.iload_n 0, 1) := by decide +kernel
theorem dX10_least_1 : decode cX10_least 1 = .ok (.iload_n 1, 1) := by decide +kernel
theorem dX10_least_2 : decode cX10_least 2 = .ok (.if_icmp .ge 7, 3) := by decide +kernel
theorem dX10_least_5 : decode cX10_least 5 = .ok (.iload_n 0, 1) := by decide +kernel
theorem dX10_least_6 : decode cX10_least 6 = .ok (.goto 4, 3) := by decide +kernel
theorem dX10_least_9 : decode cX10_least 9 = .ok (.iload_n 1, 1) := by decide +kernel
theorem dX10_least_10 : decode cX10_least 10 = .ok (.ireturn, 1) := by decide +kernel
theorem dX10_road_0 : decode cX10_road 0 = .ok (.iload_n 1, 1) := by decide +kernel
theorem dX10_road_1 : decode cX10_road 1 = .ok (.invokestatic 158, 3) := by decide +kernel
theorem dX10_road_4 : decode cX10_road 4 = .ok (.ifCond .eq 10, 3) := by decide +kernel
theorem dX10_road_7 : decode cX10_road 7 = .ok (.iload_n 2, 1) := by decide +kernel
theorem dX10_road_8 : decode cX10_road 8 = .ok (.invokestatic 158, 3) := by decide +kernel
theorem dX10_road_11 : decode cX10_road 11 = .ok (.ifCond .ne 7, 3) := by decide +kernel
theorem dX10_road_14 : decode cX10_road 14 = .ok (.sipush (-1001), 3) := by decide +kernel
theorem dX10_road_17 : decode cX10_road 17 = .ok (.ireturn, 1) := by decide +kernel
theorem dX10_road_18 : decode cX10_road 18 = .ok (.iload_n 1, 1) := by decide +kernel
theorem dX10_road_19 : decode cX10_road 19 = .ok (.iload_n 2, 1) := by decide +kernel
theorem dX10_road_20 : decode cX10_road 20 = .ok (.if_icmp .eq 15, 3) := by decide +kernel
theorem dX10_road_23 : decode cX10_road 23 = .ok (.iload_n 3, 1) := by decide +kernel
theorem dX10_road_24 : decode cX10_road 24 = .ok (.i2l, 1) := by decide +kernel
theorem dX10_road_25 : decode cX10_road 25 = .ok (.lconst 1, 1) := by decide +kernel
theorem dX10_road_26 : decode cX10_road 26 = .ok (.ldc2_w 162, 3) := by decide +kernel
theorem dX10_road_29 : decode cX10_road 29 = .ok (.invokestatic 150, 3) := by decide +kernel
theorem dX10_road_32 : decode cX10_road 32 = .ok (.ifCond .ne 7, 3) := by decide +kernel
theorem dX10_road_35 : decode cX10_road 35 = .ok (.sipush (-1002), 3) := by decide +kernel
theorem dX10_road_38 : decode cX10_road 38 = .ok (.ireturn, 1) := by decide +kernel
theorem dX10_road_39 : decode cX10_road 39 = .ok (.aload_n 0, 1) := by decide +kernel
theorem dX10_road_40 : decode cX10_road 40 = .ok (.getfield 164, 3) := by decide +kernel
theorem dX10_road_43 : decode cX10_road 43 = .ok (.bipush 14, 2) := by decide +kernel
theorem dX10_road_45 : decode cX10_road 45 = .ok (.if_icmp .ne 7, 3) := by decide +kernel
theorem dX10_road_48 : decode cX10_road 48 = .ok (.sipush (-1004), 3) := by decide +kernel
theorem dX10_road_51 : decode cX10_road 51 = .ok (.ireturn, 1) := by decide +kernel
theorem dX10_road_52 : decode cX10_road 52 = .ok (.aload_n 0, 1) := by decide +kernel
theorem dX10_road_53 : decode cX10_road 53 = .ok (.dup, 1) := by decide +kernel
theorem dX10_road_54 : decode cX10_road 54 = .ok (.getfield 164, 3) := by decide +kernel
theorem dX10_road_57 : decode cX10_road 57 = .ok (.iconst 1, 1) := by decide +kernel
theorem dX10_road_58 : decode cX10_road 58 = .ok (.iadd, 1) := by decide +kernel
theorem dX10_road_59 : decode cX10_road 59 = .ok (.putfield 164, 3) := by decide +kernel
theorem dX10_road_62 : decode cX10_road 62 = .ok (.iconst 0, 1) := by decide +kernel
theorem dX10_road_63 : decode cX10_road 63 = .ok (.istore 4, 2) := by decide +kernel
theorem dX10_road_65 : decode cX10_road 65 = .ok (.iload 4, 2) := by decide +kernel
theorem dX10_road_67 : decode cX10_road 67 = .ok (.bipush 8, 2) := by decide +kernel
theorem dX10_road_69 : decode cX10_road 69 = .ok (.if_icmp .ge 119, 3) := by decide +kernel
theorem dX10_road_72 : decode cX10_road 72 = .ok (.iconst 0, 1) := by decide +kernel
theorem dX10_road_73 : decode cX10_road 73 = .ok (.istore 5, 2) := by decide +kernel
theorem dX10_road_75 : decode cX10_road 75 = .ok (.iload 5, 2) := by decide +kernel
theorem dX10_road_77 : decode cX10_road 77 = .ok (.bipush 8, 2) := by decide +kernel
theorem dX10_road_79 : decode cX10_road 79 = .ok (.if_icmp .ge 103, 3) := by decide +kernel
theorem dX10_road_82 : decode cX10_road 82 = .ok (.aload_n 0, 1) := by decide +kernel
theorem dX10_road_83 : decode cX10_road 83 = .ok (.getfield 7, 3) := by decide +kernel
theorem dX10_road_86 : decode cX10_road 86 = .ok (.bipush 8, 2) := by decide +kernel
theorem dX10_road_88 : decode cX10_road 88 = .ok (.iload 4, 2) := by decide +kernel
theorem dX10_road_90 : decode cX10_road 90 = .ok (.imul, 1) := by decide +kernel
theorem dX10_road_91 : decode cX10_road 91 = .ok (.iload_n 1, 1) := by decide +kernel
theorem dX10_road_92 : decode cX10_road 92 = .ok (.iadd, 1) := by decide +kernel
theorem dX10_road_93 : decode cX10_road 93 = .ok (.iaload, 1) := by decide +kernel
theorem dX10_road_94 : decode cX10_road 94 = .ok (.iload_n 3, 1) := by decide +kernel
theorem dX10_road_95 : decode cX10_road 95 = .ok (.iadd, 1) := by decide +kernel
theorem dX10_road_96 : decode cX10_road 96 = .ok (.aload_n 0, 1) := by decide +kernel
theorem dX10_road_97 : decode cX10_road 97 = .ok (.getfield 7, 3) := by decide +kernel
theorem dX10_road_100 : decode cX10_road 100 = .ok (.bipush 8, 2) := by decide +kernel
theorem dX10_road_102 : decode cX10_road 102 = .ok (.iload_n 2, 1) := by decide +kernel
theorem dX10_road_103 : decode cX10_road 103 = .ok (.imul, 1) := by decide +kernel
theorem dX10_road_104 : decode cX10_road 104 = .ok (.iload 5, 2) := by decide +kernel
theorem dX10_road_106 : decode cX10_road 106 = .ok (.iadd, 1) := by decide +kernel
theorem dX10_road_107 : decode cX10_road 107 = .ok (.iaload, 1) := by decide +kernel
theorem dX10_road_108 : decode cX10_road 108 = .ok (.iadd, 1) := by decide +kernel
theorem dX10_road_109 : decode cX10_road 109 = .ok (.istore 6, 2) := by decide +kernel
theorem dX10_road_111 : decode cX10_road 111 = .ok (.aload_n 0, 1) := by decide +kernel
theorem dX10_road_112 : decode cX10_road 112 = .ok (.getfield 7, 3) := by decide +kernel
theorem dX10_road_115 : decode cX10_road 115 = .ok (.bipush 8, 2) := by decide +kernel
theorem dX10_road_117 : decode cX10_road 117 = .ok (.iload 4, 2) := by decide +kernel
theorem dX10_road_119 : decode cX10_road 119 = .ok (.imul, 1) := by decide +kernel
theorem dX10_road_120 : decode cX10_road 120 = .ok (.iload_n 2, 1) := by decide +kernel
theorem dX10_road_121 : decode cX10_road 121 = .ok (.iadd, 1) := by decide +kernel
theorem dX10_road_122 : decode cX10_road 122 = .ok (.iaload, 1) := by decide +kernel
theorem dX10_road_123 : decode cX10_road 123 = .ok (.iload_n 3, 1) := by decide +kernel
theorem dX10_road_124 : decode cX10_road 124 = .ok (.iadd, 1) := by decide +kernel
theorem dX10_road_125 : decode cX10_road 125 = .ok (.aload_n 0, 1) := by decide +kernel
theorem dX10_road_126 : decode cX10_road 126 = .ok (.getfield 7, 3) := by decide +kernel
theorem dX10_road_129 : decode cX10_road 129 = .ok (.bipush 8, 2) := by decide +kernel
theorem dX10_road_131 : decode cX10_road 131 = .ok (.iload_n 1, 1) := by decide +kernel
theorem dX10_road_132 : decode cX10_road 132 = .ok (.imul, 1) := by decide +kernel
theorem dX10_road_133 : decode cX10_road 133 = .ok (.iload 5, 2) := by decide +kernel
theorem dX10_road_135 : decode cX10_road 135 = .ok (.iadd, 1) := by decide +kernel
theorem dX10_road_136 : decode cX10_road 136 = .ok (.iaload, 1) := by decide +kernel
theorem dX10_road_137 : decode cX10_road 137 = .ok (.iadd, 1) := by decide +kernel
theorem dX10_road_138 : decode cX10_road 138 = .ok (.istore 7, 2) := by decide +kernel
theorem dX10_road_140 : decode cX10_road 140 = .ok (.aload_n 0, 1) := by decide +kernel
theorem dX10_road_141 : decode cX10_road 141 = .ok (.getfield 7, 3) := by decide +kernel
theorem dX10_road_144 : decode cX10_road 144 = .ok (.bipush 8, 2) := by decide +kernel
theorem dX10_road_146 : decode cX10_road 146 = .ok (.iload 4, 2) := by decide +kernel
theorem dX10_road_148 : decode cX10_road 148 = .ok (.imul, 1) := by decide +kernel
theorem dX10_road_149 : decode cX10_road 149 = .ok (.iload 5, 2) := by decide +kernel
theorem dX10_road_151 : decode cX10_road 151 = .ok (.iadd, 1) := by decide +kernel
theorem dX10_road_152 : decode cX10_road 152 = .ok (.aload_n 0, 1) := by decide +kernel
theorem dX10_road_153 : decode cX10_road 153 = .ok (.getfield 7, 3) := by decide +kernel
theorem dX10_road_156 : decode cX10_road 156 = .ok (.bipush 8, 2) := by decide +kernel
theorem dX10_road_158 : decode cX10_road 158 = .ok (.iload 4, 2) := by decide +kernel
theorem dX10_road_160 : decode cX10_road 160 = .ok (.imul, 1) := by decide +kernel
theorem dX10_road_161 : decode cX10_road 161 = .ok (.iload 5, 2) := by decide +kernel
theorem dX10_road_163 : decode cX10_road 163 = .ok (.iadd, 1) := by decide +kernel
theorem dX10_road_164 : decode cX10_road 164 = .ok (.iaload, 1) := by decide +kernel
theorem dX10_road_165 : decode cX10_road 165 = .ok (.iload 6, 2) := by decide +kernel
theorem dX10_road_167 : decode cX10_road 167 = .ok (.iload 7, 2) := by decide +kernel
theorem dX10_road_169 : decode cX10_road 169 = .ok (.invokestatic 167, 3) := by decide +kernel
theorem dX10_road_172 : decode cX10_road 172 = .ok (.invokestatic 167, 3) := by decide +kernel
theorem dX10_road_175 : decode cX10_road 175 = .ok (.iastore, 1) := by decide +kernel
theorem dX10_road_176 : decode cX10_road 176 = .ok (.iinc 5 1, 3) := by decide +kernel
theorem dX10_road_179 : decode cX10_road 179 = .ok (.goto (-104), 3) := by decide +kernel
theorem dX10_road_182 : decode cX10_road 182 = .ok (.iinc 4 1, 3) := by decide +kernel
theorem dX10_road_185 : decode cX10_road 185 = .ok (.goto (-120), 3) := by decide +kernel
theorem dX10_road_188 : decode cX10_road 188 = .ok (.aload_n 0, 1) := by decide +kernel
theorem dX10_road_189 : decode cX10_road 189 = .ok (.getfield 164, 3) := by decide +kernel
theorem dX10_road_192 : decode cX10_road 192 = .ok (.ireturn, 1) := by decide +kernel
theorem dX10_awayOf_0 : decode cX10_awayOf 0 = .ok (.aload_n 0, 1) := by decide +kernel
theorem dX10_awayOf_1 : decode cX10_awayOf 1 = .ok (.getfield 7, 3) := by decide +kernel
theorem dX10_awayOf_4 : decode cX10_awayOf 4 = .ok (.bipush 8, 2) := by decide +kernel
theorem dX10_awayOf_6 : decode cX10_awayOf 6 = .ok (.iload_n 1, 1) := by decide +kernel
theorem dX10_awayOf_7 : decode cX10_awayOf 7 = .ok (.imul, 1) := by decide +kernel
theorem dX10_awayOf_8 : decode cX10_awayOf 8 = .ok (.iload_n 2, 1) := by decide +kernel
theorem dX10_awayOf_9 : decode cX10_awayOf 9 = .ok (.iadd, 1) := by decide +kernel
theorem dX10_awayOf_10 : decode cX10_awayOf 10 = .ok (.iaload, 1) := by decide +kernel
theorem dX10_awayOf_11 : decode cX10_awayOf 11 = .ok (.ldc 147, 2) := by decide +kernel
theorem dX10_awayOf_13 : decode cX10_awayOf 13 = .ok (.if_icmp .ge 17, 3) := by decide +kernel
theorem dX10_awayOf_16 : decode cX10_awayOf 16 = .ok (.aload_n 0, 1) := by decide +kernel
theorem dX10_awayOf_17 : decode cX10_awayOf 17 = .ok (.getfield 7, 3) := by decide +kernel
theorem dX10_awayOf_20 : decode cX10_awayOf 20 = .ok (.bipush 8, 2) := by decide +kernel
theorem dX10_awayOf_22 : decode cX10_awayOf 22 = .ok (.iload_n 1, 1) := by decide +kernel
theorem dX10_awayOf_23 : decode cX10_awayOf 23 = .ok (.imul, 1) := by decide +kernel
theorem dX10_awayOf_24 : decode cX10_awayOf 24 = .ok (.iload_n 2, 1) := by decide +kernel
theorem dX10_awayOf_25 : decode cX10_awayOf 25 = .ok (.iadd, 1) := by decide +kernel
theorem dX10_awayOf_26 : decode cX10_awayOf 26 = .ok (.iaload, 1) := by decide +kernel
theorem dX10_awayOf_27 : decode cX10_awayOf 27 = .ok (.goto 4, 3) := by decide +kernel
theorem dX10_awayOf_30 : decode cX10_awayOf 30 = .ok (.iconst (-1), 1) := by decide +kernel
theorem dX10_awayOf_31 : decode cX10_awayOf 31 = .ok (.ireturn, 1) := by decide +kernel
theorem dX10_away_0 : decode cX10_away 0 = .ok (.iload_n 1, 1) := by decide +kernel
theorem dX10_away_1 : decode cX10_away 1 = .ok (.invokestatic 158, 3) := by decide +kernel
theorem dX10_away_4 : decode cX10_away 4 = .ok (.ifCond .eq 19, 3) := by decide +kernel
theorem dX10_away_7 : decode cX10_away 7 = .ok (.iload_n 2, 1) := by decide +kernel
theorem dX10_away_8 : decode cX10_away 8 = .ok (.invokestatic 158, 3) := by decide +kernel
theorem dX10_away_11 : decode cX10_away 11 = .ok (.ifCond .eq 12, 3) := by decide +kernel
theorem dX10_away_14 : decode cX10_away 14 = .ok (.aload_n 0, 1) := by decide +kernel
theorem dX10_away_15 : decode cX10_away 15 = .ok (.iload_n 1, 1) := by decide +kernel
theorem dX10_away_16 : decode cX10_away 16 = .ok (.iload_n 2, 1) := by decide +kernel
theorem dX10_away_17 : decode cX10_away 17 = .ok (.invokevirtual 171, 3) := by decide +kernel
theorem dX10_away_20 : decode cX10_away 20 = .ok (.goto 6, 3) := by decide +kernel
theorem dX10_away_23 : decode cX10_away 23 = .ok (.sipush (-1001), 3) := by decide +kernel
theorem dX10_away_26 : decode cX10_away 26 = .ok (.ireturn, 1) := by decide +kernel
theorem dX10_isGood_0 : decode cX10_isGood 0 = .ok (.iload_n 0, 1) := by decide +kernel
theorem dX10_isGood_1 : decode cX10_isGood 1 = .ok (.i2l, 1) := by decide +kernel
theorem dX10_isGood_2 : decode cX10_isGood 2 = .ok (.lconst 0, 1) := by decide +kernel
theorem dX10_isGood_3 : decode cX10_isGood 3 = .ok (.ldc2_w 174, 3) := by decide +kernel
theorem dX10_isGood_6 : decode cX10_isGood 6 = .ok (.invokestatic 150, 3) := by decide +kernel
theorem dX10_isGood_9 : decode cX10_isGood 9 = .ok (.ireturn, 1) := by decide +kernel
theorem dX10_store_0 : decode cX10_store 0 = .ok (.iload_n 1, 1) := by decide +kernel
theorem dX10_store_1 : decode cX10_store 1 = .ok (.invokestatic 158, 3) := by decide +kernel
theorem dX10_store_4 : decode cX10_store 4 = .ok (.ifCond .ne 7, 3) := by decide +kernel
theorem dX10_store_7 : decode cX10_store 7 = .ok (.sipush (-1001), 3) := by decide +kernel
theorem dX10_store_10 : decode cX10_store 10 = .ok (.ireturn, 1) := by decide +kernel
theorem dX10_store_11 : decode cX10_store 11 = .ok (.iload_n 2, 1) := by decide +kernel
theorem dX10_store_12 : decode cX10_store 12 = .ok (.invokestatic 176, 3) := by decide +kernel
theorem dX10_store_15 : decode cX10_store 15 = .ok (.ifCond .eq 15, 3) := by decide +kernel
theorem dX10_store_18 : decode cX10_store 18 = .ok (.iload_n 3, 1) := by decide +kernel
theorem dX10_store_19 : decode cX10_store 19 = .ok (.i2l, 1) := by decide +kernel
theorem dX10_store_20 : decode cX10_store 20 = .ok (.lconst 0, 1) := by decide +kernel
theorem dX10_store_21 : decode cX10_store 21 = .ok (.ldc2_w 179, 3) := by decide +kernel
theorem dX10_store_24 : decode cX10_store 24 = .ok (.invokestatic 150, 3) := by decide +kernel
theorem dX10_store_27 : decode cX10_store 27 = .ok (.ifCond .ne 7, 3) := by decide +kernel
theorem dX10_store_30 : decode cX10_store 30 = .ok (.sipush (-1002), 3) := by decide +kernel
theorem dX10_store_33 : decode cX10_store 33 = .ok (.ireturn, 1) := by decide +kernel
theorem dX10_store_34 : decode cX10_store 34 = .ok (.aload_n 0, 1) := by decide +kernel
theorem dX10_store_35 : decode cX10_store 35 = .ok (.getfield 13, 3) := by decide +kernel
theorem dX10_store_38 : decode cX10_store 38 = .ok (.iconst 3, 1) := by decide +kernel
theorem dX10_store_39 : decode cX10_store 39 = .ok (.iload_n 1, 1) := by decide +kernel
theorem dX10_store_40 : decode cX10_store 40 = .ok (.imul, 1) := by decide +kernel
theorem dX10_store_41 : decode cX10_store 41 = .ok (.iload_n 2, 1) := by decide +kernel
theorem dX10_store_42 : decode cX10_store 42 = .ok (.iadd, 1) := by decide +kernel
theorem dX10_store_43 : decode cX10_store 43 = .ok (.iaload, 1) := by decide +kernel
theorem dX10_store_44 : decode cX10_store 44 = .ok (.istore 4, 2) := by decide +kernel
theorem dX10_store_46 : decode cX10_store 46 = .ok (.aload_n 0, 1) := by decide +kernel
theorem dX10_store_47 : decode cX10_store 47 = .ok (.getfield 13, 3) := by decide +kernel
theorem dX10_store_50 : decode cX10_store 50 = .ok (.iconst 3, 1) := by decide +kernel
theorem dX10_store_51 : decode cX10_store 51 = .ok (.iload_n 1, 1) := by decide +kernel
theorem dX10_store_52 : decode cX10_store 52 = .ok (.imul, 1) := by decide +kernel
theorem dX10_store_53 : decode cX10_store 53 = .ok (.iload_n 2, 1) := by decide +kernel
theorem dX10_store_54 : decode cX10_store 54 = .ok (.iadd, 1) := by decide +kernel
theorem dX10_store_55 : decode cX10_store 55 = .ok (.iload_n 3, 1) := by decide +kernel
theorem dX10_store_56 : decode cX10_store 56 = .ok (.iastore, 1) := by decide +kernel
theorem dX10_store_57 : decode cX10_store 57 = .ok (.aload_n 0, 1) := by decide +kernel
theorem dX10_store_58 : decode cX10_store 58 = .ok (.getfield 16, 3) := by decide +kernel
theorem dX10_store_61 : decode cX10_store 61 = .ok (.iconst 3, 1) := by decide +kernel
theorem dX10_store_62 : decode cX10_store 62 = .ok (.iload_n 1, 1) := by decide +kernel
theorem dX10_store_63 : decode cX10_store 63 = .ok (.imul, 1) := by decide +kernel
theorem dX10_store_64 : decode cX10_store 64 = .ok (.iload_n 2, 1) := by decide +kernel
theorem dX10_store_65 : decode cX10_store 65 = .ok (.iadd, 1) := by decide +kernel
theorem dX10_store_66 : decode cX10_store 66 = .ok (.iload_n 3, 1) := by decide +kernel
theorem dX10_store_67 : decode cX10_store 67 = .ok (.iastore, 1) := by decide +kernel
theorem dX10_store_68 : decode cX10_store 68 = .ok (.iload 4, 2) := by decide +kernel
theorem dX10_store_70 : decode cX10_store 70 = .ok (.ireturn, 1) := by decide +kernel
theorem dX10_need_0 : decode cX10_need 0 = .ok (.iload_n 1, 1) := by decide +kernel
theorem dX10_need_1 : decode cX10_need 1 = .ok (.invokestatic 158, 3) := by decide +kernel
theorem dX10_need_4 : decode cX10_need 4 = .ok (.ifCond .ne 7, 3) := by decide +kernel
theorem dX10_need_7 : decode cX10_need 7 = .ok (.sipush (-1001), 3) := by decide +kernel
theorem dX10_need_10 : decode cX10_need 10 = .ok (.ireturn, 1) := by decide +kernel
theorem dX10_need_11 : decode cX10_need 11 = .ok (.iload_n 2, 1) := by decide +kernel
theorem dX10_need_12 : decode cX10_need 12 = .ok (.invokestatic 176, 3) := by decide +kernel
theorem dX10_need_15 : decode cX10_need 15 = .ok (.ifCond .eq 15, 3) := by decide +kernel
theorem dX10_need_18 : decode cX10_need 18 = .ok (.iload_n 3, 1) := by decide +kernel
theorem dX10_need_19 : decode cX10_need 19 = .ok (.i2l, 1) := by decide +kernel
theorem dX10_need_20 : decode cX10_need 20 = .ok (.lconst 0, 1) := by decide +kernel
theorem dX10_need_21 : decode cX10_need 21 = .ok (.ldc2_w 181, 3) := by decide +kernel
theorem dX10_need_24 : decode cX10_need 24 = .ok (.invokestatic 150, 3) := by decide +kernel
theorem dX10_need_27 : decode cX10_need 27 = .ok (.ifCond .ne 7, 3) := by decide +kernel
theorem dX10_need_30 : decode cX10_need 30 = .ok (.sipush (-1002), 3) := by decide +kernel
theorem dX10_need_33 : decode cX10_need 33 = .ok (.ireturn, 1) := by decide +kernel
theorem dX10_need_34 : decode cX10_need 34 = .ok (.aload_n 0, 1) := by decide +kernel
theorem dX10_need_35 : decode cX10_need 35 = .ok (.getfield 19, 3) := by decide +kernel
theorem dX10_need_38 : decode cX10_need 38 = .ok (.iconst 3, 1) := by decide +kernel
theorem dX10_need_39 : decode cX10_need 39 = .ok (.iload_n 1, 1) := by decide +kernel
theorem dX10_need_40 : decode cX10_need 40 = .ok (.imul, 1) := by decide +kernel
theorem dX10_need_41 : decode cX10_need 41 = .ok (.iload_n 2, 1) := by decide +kernel
theorem dX10_need_42 : decode cX10_need 42 = .ok (.iadd, 1) := by decide +kernel
theorem dX10_need_43 : decode cX10_need 43 = .ok (.iaload, 1) := by decide +kernel
theorem dX10_need_44 : decode cX10_need 44 = .ok (.istore 4, 2) := by decide +kernel
theorem dX10_need_46 : decode cX10_need 46 = .ok (.aload_n 0, 1) := by decide +kernel
theorem dX10_need_47 : decode cX10_need 47 = .ok (.getfield 19, 3) := by decide +kernel
theorem dX10_need_50 : decode cX10_need 50 = .ok (.iconst 3, 1) := by decide +kernel
theorem dX10_need_51 : decode cX10_need 51 = .ok (.iload_n 1, 1) := by decide +kernel
theorem dX10_need_52 : decode cX10_need 52 = .ok (.imul, 1) := by decide +kernel
theorem dX10_need_53 : decode cX10_need 53 = .ok (.iload_n 2, 1) := by decide +kernel
theorem dX10_need_54 : decode cX10_need 54 = .ok (.iadd, 1) := by decide +kernel
theorem dX10_need_55 : decode cX10_need 55 = .ok (.iload_n 3, 1) := by decide +kernel
theorem dX10_need_56 : decode cX10_need 56 = .ok (.iastore, 1) := by decide +kernel
theorem dX10_need_57 : decode cX10_need 57 = .ok (.iload 4, 2) := by decide +kernel
theorem dX10_need_59 : decode cX10_need 59 = .ok (.ireturn, 1) := by decide +kernel
theorem dX10_members_0 : decode cX10_members 0 = .ok (.iload_n 1, 1) := by decide +kernel
theorem dX10_members_1 : decode cX10_members 1 = .ok (.invokestatic 183, 3) := by decide +kernel
theorem dX10_members_4 : decode cX10_members 4 = .ok (.ifCond .eq 10, 3) := by decide +kernel
theorem dX10_members_7 : decode cX10_members 7 = .ok (.iload_n 2, 1) := by decide +kernel
theorem dX10_members_8 : decode cX10_members 8 = .ok (.invokestatic 158, 3) := by decide +kernel
theorem dX10_members_11 : decode cX10_members 11 = .ok (.ifCond .ne 7, 3) := by decide +kernel
theorem dX10_members_14 : decode cX10_members 14 = .ok (.sipush (-1001), 3) := by decide +kernel
theorem dX10_members_17 : decode cX10_members 17 = .ok (.ireturn, 1) := by decide +kernel
theorem dX10_members_18 : decode cX10_members 18 = .ok (.iload_n 3, 1) := by decide +kernel
theorem dX10_members_19 : decode cX10_members 19 = .ok (.i2l, 1) := by decide +kernel
theorem dX10_members_20 : decode cX10_members 20 = .ok (.lconst 0, 1) := by decide +kernel
theorem dX10_members_21 : decode cX10_members 21 = .ok (.ldc2_w 186, 3) := by decide +kernel
theorem dX10_members_24 : decode cX10_members 24 = .ok (.invokestatic 150, 3) := by decide +kernel
theorem dX10_members_27 : decode cX10_members 27 = .ok (.ifCond .ne 7, 3) := by decide +kernel
theorem dX10_members_30 : decode cX10_members 30 = .ok (.sipush (-1002), 3) := by decide +kernel
theorem dX10_members_33 : decode cX10_members 33 = .ok (.ireturn, 1) := by decide +kernel
theorem dX10_members_34 : decode cX10_members 34 = .ok (.bipush 8, 2) := by decide +kernel
theorem dX10_members_36 : decode cX10_members 36 = .ok (.iload_n 1, 1) := by decide +kernel
theorem dX10_members_37 : decode cX10_members 37 = .ok (.imul, 1) := by decide +kernel
theorem dX10_members_38 : decode cX10_members 38 = .ok (.iload_n 2, 1) := by decide +kernel
theorem dX10_members_39 : decode cX10_members 39 = .ok (.iadd, 1) := by decide +kernel
theorem dX10_members_40 : decode cX10_members 40 = .ok (.istore 4, 2) := by decide +kernel
theorem dX10_members_42 : decode cX10_members 42 = .ok (.aload_n 0, 1) := by decide +kernel
theorem dX10_members_43 : decode cX10_members 43 = .ok (.getfield 28, 3) := by decide +kernel
theorem dX10_members_46 : decode cX10_members 46 = .ok (.iload 4, 2) := by decide +kernel
theorem dX10_members_48 : decode cX10_members 48 = .ok (.iaload, 1) := by decide +kernel
theorem dX10_members_49 : decode cX10_members 49 = .ok (.istore 5, 2) := by decide +kernel
theorem dX10_members_51 : decode cX10_members 51 = .ok (.aload_n 0, 1) := by decide +kernel
theorem dX10_members_52 : decode cX10_members 52 = .ok (.getfield 28, 3) := by decide +kernel
theorem dX10_members_55 : decode cX10_members 55 = .ok (.iload 4, 2) := by decide +kernel
theorem dX10_members_57 : decode cX10_members 57 = .ok (.iload_n 3, 1) := by decide +kernel
theorem dX10_members_58 : decode cX10_members 58 = .ok (.iastore, 1) := by decide +kernel
theorem dX10_members_59 : decode cX10_members 59 = .ok (.aload_n 0, 1) := by decide +kernel
theorem dX10_members_60 : decode cX10_members 60 = .ok (.getfield 31, 3) := by decide +kernel
theorem dX10_members_63 : decode cX10_members 63 = .ok (.iload 4, 2) := by decide +kernel
theorem dX10_members_65 : decode cX10_members 65 = .ok (.aload_n 0, 1) := by decide +kernel
theorem dX10_members_66 : decode cX10_members 66 = .ok (.getfield 31, 3) := by decide +kernel
theorem dX10_members_69 : decode cX10_members 69 = .ok (.iload 4, 2) := by decide +kernel
theorem dX10_members_71 : decode cX10_members 71 = .ok (.iaload, 1) := by decide +kernel
theorem dX10_members_72 : decode cX10_members 72 = .ok (.iload_n 3, 1) := by decide +kernel
theorem dX10_members_73 : decode cX10_members 73 = .ok (.invokestatic 167, 3) := by decide +kernel
theorem dX10_members_76 : decode cX10_members 76 = .ok (.iastore, 1) := by decide +kernel
theorem dX10_members_77 : decode cX10_members 77 = .ok (.iload 5, 2) := by decide +kernel
theorem dX10_members_79 : decode cX10_members 79 = .ok (.ireturn, 1) := by decide +kernel
theorem dX10_purse_0 : decode cX10_purse 0 = .ok (.iload_n 1, 1) := by decide +kernel
theorem dX10_purse_1 : decode cX10_purse 1 = .ok (.invokestatic 183, 3) := by decide +kernel
theorem dX10_purse_4 : decode cX10_purse 4 = .ok (.ifCond .ne 7, 3) := by decide +kernel
theorem dX10_purse_7 : decode cX10_purse 7 = .ok (.sipush (-1001), 3) := by decide +kernel
theorem dX10_purse_10 : decode cX10_purse 10 = .ok (.ireturn, 1) := by decide +kernel
theorem dX10_purse_11 : decode cX10_purse 11 = .ok (.iload_n 2, 1) := by decide +kernel
theorem dX10_purse_12 : decode cX10_purse 12 = .ok (.i2l, 1) := by decide +kernel
theorem dX10_purse_13 : decode cX10_purse 13 = .ok (.lconst 0, 1) := by decide +kernel
theorem dX10_purse_14 : decode cX10_purse 14 = .ok (.ldc2_w 186, 3) := by decide +kernel
theorem dX10_purse_17 : decode cX10_purse 17 = .ok (.invokestatic 150, 3) := by decide +kernel
theorem dX10_purse_20 : decode cX10_purse 20 = .ok (.ifCond .ne 7, 3) := by decide +kernel
theorem dX10_purse_23 : decode cX10_purse 23 = .ok (.sipush (-1002), 3) := by decide +kernel
theorem dX10_purse_26 : decode cX10_purse 26 = .ok (.ireturn, 1) := by decide +kernel
theorem dX10_purse_27 : decode cX10_purse 27 = .ok (.aload_n 0, 1) := by decide +kernel
theorem dX10_purse_28 : decode cX10_purse 28 = .ok (.getfield 46, 3) := by decide +kernel
theorem dX10_purse_31 : decode cX10_purse 31 = .ok (.iload_n 1, 1) := by decide +kernel
theorem dX10_purse_32 : decode cX10_purse 32 = .ok (.iload_n 2, 1) := by decide +kernel
theorem dX10_purse_33 : decode cX10_purse 33 = .ok (.iastore, 1) := by decide +kernel
theorem dX10_purse_34 : decode cX10_purse 34 = .ok (.iconst 0, 1) := by decide +kernel
theorem dX10_purse_35 : decode cX10_purse 35 = .ok (.istore_n 3, 1) := by decide +kernel
theorem dX10_purse_36 : decode cX10_purse 36 = .ok (.iload_n 3, 1) := by decide +kernel
theorem dX10_purse_37 : decode cX10_purse 37 = .ok (.bipush 8, 2) := by decide +kernel
theorem dX10_purse_39 : decode cX10_purse 39 = .ok (.if_icmp .ge 21, 3) := by decide +kernel
theorem dX10_purse_42 : decode cX10_purse 42 = .ok (.aload_n 0, 1) := by decide +kernel
theorem dX10_purse_43 : decode cX10_purse 43 = .ok (.getfield 34, 3) := by decide +kernel
theorem dX10_purse_46 : decode cX10_purse 46 = .ok (.bipush 8, 2) := by decide +kernel
theorem dX10_purse_48 : decode cX10_purse 48 = .ok (.iload_n 1, 1) := by decide +kernel
theorem dX10_purse_49 : decode cX10_purse 49 = .ok (.imul, 1) := by decide +kernel
theorem dX10_purse_50 : decode cX10_purse 50 = .ok (.iload_n 3, 1) := by decide +kernel
theorem dX10_purse_51 : decode cX10_purse 51 = .ok (.iadd, 1) := by decide +kernel
theorem dX10_purse_52 : decode cX10_purse 52 = .ok (.iload_n 2, 1) := by decide +kernel
theorem dX10_purse_53 : decode cX10_purse 53 = .ok (.iastore, 1) := by decide +kernel
theorem dX10_purse_54 : decode cX10_purse 54 = .ok (.iinc 3 1, 3) := by decide +kernel
theorem dX10_purse_57 : decode cX10_purse 57 = .ok (.goto (-21), 3) := by decide +kernel
theorem dX10_purse_60 : decode cX10_purse 60 = .ok (.iconst 1, 1) := by decide +kernel
theorem dX10_purse_61 : decode cX10_purse 61 = .ok (.ireturn, 1) := by decide +kernel
theorem dX10_fund_0 : decode cX10_fund 0 = .ok (.iload_n 1, 1) := by decide +kernel
theorem dX10_fund_1 : decode cX10_fund 1 = .ok (.invokestatic 183, 3) := by decide +kernel
theorem dX10_fund_4 : decode cX10_fund 4 = .ok (.ifCond .ne 7, 3) := by decide +kernel
theorem dX10_fund_7 : decode cX10_fund 7 = .ok (.sipush (-1001), 3) := by decide +kernel
theorem dX10_fund_10 : decode cX10_fund 10 = .ok (.ireturn, 1) := by decide +kernel
theorem dX10_fund_11 : decode cX10_fund 11 = .ok (.iload_n 2, 1) := by decide +kernel
theorem dX10_fund_12 : decode cX10_fund 12 = .ok (.i2l, 1) := by decide +kernel
theorem dX10_fund_13 : decode cX10_fund 13 = .ok (.lconst 0, 1) := by decide +kernel
theorem dX10_fund_14 : decode cX10_fund 14 = .ok (.ldc2_w 188, 3) := by decide +kernel
theorem dX10_fund_17 : decode cX10_fund 17 = .ok (.invokestatic 150, 3) := by decide +kernel
theorem dX10_fund_20 : decode cX10_fund 20 = .ok (.ifCond .ne 7, 3) := by decide +kernel
theorem dX10_fund_23 : decode cX10_fund 23 = .ok (.sipush (-1002), 3) := by decide +kernel
theorem dX10_fund_26 : decode cX10_fund 26 = .ok (.ireturn, 1) := by decide +kernel
theorem dX10_fund_27 : decode cX10_fund 27 = .ok (.aload_n 0, 1) := by decide +kernel
theorem dX10_fund_28 : decode cX10_fund 28 = .ok (.getfield 40, 3) := by decide +kernel
theorem dX10_fund_31 : decode cX10_fund 31 = .ok (.iload_n 1, 1) := by decide +kernel
theorem dX10_fund_32 : decode cX10_fund 32 = .ok (.iaload, 1) := by decide +kernel
theorem dX10_fund_33 : decode cX10_fund 33 = .ok (.istore_n 3, 1) := by decide +kernel
theorem dX10_fund_34 : decode cX10_fund 34 = .ok (.aload_n 0, 1) := by decide +kernel
theorem dX10_fund_35 : decode cX10_fund 35 = .ok (.getfield 40, 3) := by decide +kernel
theorem dX10_fund_38 : decode cX10_fund 38 = .ok (.iload_n 1, 1) := by decide +kernel
theorem dX10_fund_39 : decode cX10_fund 39 = .ok (.iload_n 2, 1) := by decide +kernel
theorem dX10_fund_40 : decode cX10_fund 40 = .ok (.iastore, 1) := by decide +kernel
theorem dX10_fund_41 : decode cX10_fund 41 = .ok (.aload_n 0, 1) := by decide +kernel
theorem dX10_fund_42 : decode cX10_fund 42 = .ok (.getfield 43, 3) := by decide +kernel
theorem dX10_fund_45 : decode cX10_fund 45 = .ok (.iload_n 1, 1) := by decide +kernel
theorem dX10_fund_46 : decode cX10_fund 46 = .ok (.iload_n 2, 1) := by decide +kernel
theorem dX10_fund_47 : decode cX10_fund 47 = .ok (.iastore, 1) := by decide +kernel
theorem dX10_fund_48 : decode cX10_fund 48 = .ok (.iload_n 3, 1) := by decide +kernel
theorem dX10_fund_49 : decode cX10_fund 49 = .ok (.ireturn, 1) := by decide +kernel
theorem dX10_out_0 : decode cX10_out 0 = .ok (.iload_n 1, 1) := by decide +kernel
theorem dX10_out_1 : decode cX10_out 1 = .ok (.invokestatic 183, 3) := by decide +kernel
theorem dX10_out_4 : decode cX10_out 4 = .ok (.ifCond .eq 10, 3) := by decide +kernel
theorem dX10_out_7 : decode cX10_out 7 = .ok (.iload_n 2, 1) := by decide +kernel
theorem dX10_out_8 : decode cX10_out 8 = .ok (.invokestatic 158, 3) := by decide +kernel
theorem dX10_out_11 : decode cX10_out 11 = .ok (.ifCond .ne 7, 3) := by decide +kernel
theorem dX10_out_14 : decode cX10_out 14 = .ok (.sipush (-1001), 3) := by decide +kernel
theorem dX10_out_17 : decode cX10_out 17 = .ok (.ireturn, 1) := by decide +kernel
theorem dX10_out_18 : decode cX10_out 18 = .ok (.bipush 8, 2) := by decide +kernel
theorem dX10_out_20 : decode cX10_out 20 = .ok (.iload_n 1, 1) := by decide +kernel
theorem dX10_out_21 : decode cX10_out 21 = .ok (.imul, 1) := by decide +kernel
theorem dX10_out_22 : decode cX10_out 22 = .ok (.iload_n 2, 1) := by decide +kernel
theorem dX10_out_23 : decode cX10_out 23 = .ok (.iadd, 1) := by decide +kernel
theorem dX10_out_24 : decode cX10_out 24 = .ok (.istore 4, 2) := by decide +kernel
theorem dX10_out_26 : decode cX10_out 26 = .ok (.iload_n 3, 1) := by decide +kernel
theorem dX10_out_27 : decode cX10_out 27 = .ok (.tableswitch 61 0 3 #[29, 37, 45, 53], 29) := by decide +kernel
theorem dX10_out_56 : decode cX10_out 56 = .ok (.aload_n 0, 1) := by decide +kernel
theorem dX10_out_57 : decode cX10_out 57 = .ok (.getfield 28, 3) := by decide +kernel
theorem dX10_out_60 : decode cX10_out 60 = .ok (.iload 4, 2) := by decide +kernel
theorem dX10_out_62 : decode cX10_out 62 = .ok (.iaload, 1) := by decide +kernel
theorem dX10_out_63 : decode cX10_out 63 = .ok (.ireturn, 1) := by decide +kernel
theorem dX10_out_64 : decode cX10_out 64 = .ok (.aload_n 0, 1) := by decide +kernel
theorem dX10_out_65 : decode cX10_out 65 = .ok (.getfield 31, 3) := by decide +kernel
theorem dX10_out_68 : decode cX10_out 68 = .ok (.iload 4, 2) := by decide +kernel
theorem dX10_out_70 : decode cX10_out 70 = .ok (.iaload, 1) := by decide +kernel
theorem dX10_out_71 : decode cX10_out 71 = .ok (.ireturn, 1) := by decide +kernel
theorem dX10_out_72 : decode cX10_out 72 = .ok (.aload_n 0, 1) := by decide +kernel
theorem dX10_out_73 : decode cX10_out 73 = .ok (.getfield 34, 3) := by decide +kernel
theorem dX10_out_76 : decode cX10_out 76 = .ok (.iload 4, 2) := by decide +kernel
theorem dX10_out_78 : decode cX10_out 78 = .ok (.iaload, 1) := by decide +kernel
theorem dX10_out_79 : decode cX10_out 79 = .ok (.ireturn, 1) := by decide +kernel
theorem dX10_out_80 : decode cX10_out 80 = .ok (.aload_n 0, 1) := by decide +kernel
theorem dX10_out_81 : decode cX10_out 81 = .ok (.getfield 37, 3) := by decide +kernel
theorem dX10_out_84 : decode cX10_out 84 = .ok (.iload 4, 2) := by decide +kernel
theorem dX10_out_86 : decode cX10_out 86 = .ok (.iaload, 1) := by decide +kernel
theorem dX10_out_87 : decode cX10_out 87 = .ok (.ireturn, 1) := by decide +kernel
theorem dX10_out_88 : decode cX10_out 88 = .ok (.sipush (-1002), 3) := by decide +kernel
theorem dX10_out_91 : decode cX10_out 91 = .ok (.ireturn, 1) := by decide +kernel
theorem dX10_town_0 : decode cX10_town 0 = .ok (.iload_n 1, 1) := by decide +kernel
theorem dX10_town_1 : decode cX10_town 1 = .ok (.invokestatic 158, 3) := by decide +kernel
theorem dX10_town_4 : decode cX10_town 4 = .ok (.ifCond .ne 7, 3) := by decide +kernel
theorem dX10_town_7 : decode cX10_town 7 = .ok (.sipush (-1001), 3) := by decide +kernel
theorem dX10_town_10 : decode cX10_town 10 = .ok (.ireturn, 1) := by decide +kernel
theorem dX10_town_11 : decode cX10_town 11 = .ok (.iload_n 2, 1) := by decide +kernel
theorem dX10_town_12 : decode cX10_town 12 = .ok (.i2l, 1) := by decide +kernel
theorem dX10_town_13 : decode cX10_town 13 = .ok (.lconst 0, 1) := by decide +kernel
theorem dX10_town_14 : decode cX10_town 14 = .ok (.ldc2_w 190, 3) := by decide +kernel
theorem dX10_town_17 : decode cX10_town 17 = .ok (.invokestatic 150, 3) := by decide +kernel
theorem dX10_town_20 : decode cX10_town 20 = .ok (.ifCond .ne 7, 3) := by decide +kernel
theorem dX10_town_23 : decode cX10_town 23 = .ok (.sipush (-1002), 3) := by decide +kernel
theorem dX10_town_26 : decode cX10_town 26 = .ok (.ireturn, 1) := by decide +kernel
theorem dX10_town_27 : decode cX10_town 27 = .ok (.iconst 3, 1) := by decide +kernel
theorem dX10_town_28 : decode cX10_town 28 = .ok (.iload_n 1, 1) := by decide +kernel
theorem dX10_town_29 : decode cX10_town 29 = .ok (.imul, 1) := by decide +kernel
theorem dX10_town_30 : decode cX10_town 30 = .ok (.iload_n 2, 1) := by decide +kernel
theorem dX10_town_31 : decode cX10_town 31 = .ok (.iconst 3, 1) := by decide +kernel
theorem dX10_town_32 : decode cX10_town 32 = .ok (.irem, 1) := by decide +kernel
theorem dX10_town_33 : decode cX10_town 33 = .ok (.iadd, 1) := by decide +kernel
theorem dX10_town_34 : decode cX10_town 34 = .ok (.istore_n 3, 1) := by decide +kernel
theorem dX10_town_35 : decode cX10_town 35 = .ok (.iload_n 2, 1) := by decide +kernel
theorem dX10_town_36 : decode cX10_town 36 = .ok (.iconst 3, 1) := by decide +kernel
theorem dX10_town_37 : decode cX10_town 37 = .ok (.if_icmp .ge 12, 3) := by decide +kernel
theorem dX10_town_40 : decode cX10_town 40 = .ok (.aload_n 0, 1) := by decide +kernel
theorem dX10_town_41 : decode cX10_town 41 = .ok (.getfield 13, 3) := by decide +kernel
theorem dX10_town_44 : decode cX10_town 44 = .ok (.iload_n 3, 1) := by decide +kernel
theorem dX10_town_45 : decode cX10_town 45 = .ok (.iaload, 1) := by decide +kernel
theorem dX10_town_46 : decode cX10_town 46 = .ok (.goto 24, 3) := by decide +kernel
theorem dX10_town_49 : decode cX10_town 49 = .ok (.iload_n 2, 1) := by decide +kernel
theorem dX10_town_50 : decode cX10_town 50 = .ok (.bipush 6, 2) := by decide +kernel
theorem dX10_town_52 : decode cX10_town 52 = .ok (.if_icmp .ge 12, 3) := by decide +kernel
theorem dX10_town_55 : decode cX10_town 55 = .ok (.aload_n 0, 1) := by decide +kernel
theorem dX10_town_56 : decode cX10_town 56 = .ok (.getfield 22, 3) := by decide +kernel
theorem dX10_town_59 : decode cX10_town 59 = .ok (.iload_n 3, 1) := by decide +kernel
theorem dX10_town_60 : decode cX10_town 60 = .ok (.iaload, 1) := by decide +kernel
theorem dX10_town_61 : decode cX10_town 61 = .ok (.goto 9, 3) := by decide +kernel
theorem dX10_town_64 : decode cX10_town 64 = .ok (.aload_n 0, 1) := by decide +kernel
theorem dX10_town_65 : decode cX10_town 65 = .ok (.getfield 25, 3) := by decide +kernel
theorem dX10_town_68 : decode cX10_town 68 = .ok (.iload_n 3, 1) := by decide +kernel
theorem dX10_town_69 : decode cX10_town 69 = .ok (.iaload, 1) := by decide +kernel
theorem dX10_town_70 : decode cX10_town 70 = .ok (.ireturn, 1) := by decide +kernel
theorem dX10_noOrder_0 : decode cX10_noOrder 0 = .ok (.iload_n 1, 1) := by decide +kernel
theorem dX10_noOrder_1 : decode cX10_noOrder 1 = .ok (.i2l, 1) := by decide +kernel
theorem dX10_noOrder_2 : decode cX10_noOrder 2 = .ok (.lconst 0, 1) := by decide +kernel
theorem dX10_noOrder_3 : decode cX10_noOrder 3 = .ok (.aload_n 0, 1) := by decide +kernel
theorem dX10_noOrder_4 : decode cX10_noOrder 4 = .ok (.getfield 192, 3) := by decide +kernel
theorem dX10_noOrder_7 : decode cX10_noOrder 7 = .ok (.iconst 1, 1) := by decide +kernel
theorem dX10_noOrder_8 : decode cX10_noOrder 8 = .ok (.isub, 1) := by decide +kernel
theorem dX10_noOrder_9 : decode cX10_noOrder 9 = .ok (.i2l, 1) := by decide +kernel
theorem dX10_noOrder_10 : decode cX10_noOrder 10 = .ok (.invokestatic 150, 3) := by decide +kernel
theorem dX10_noOrder_13 : decode cX10_noOrder 13 = .ok (.ifCond .ne 7, 3) := by decide +kernel
theorem dX10_noOrder_16 : decode cX10_noOrder 16 = .ok (.iconst 1, 1) := by decide +kernel
theorem dX10_noOrder_17 : decode cX10_noOrder 17 = .ok (.goto 4, 3) := by decide +kernel
theorem dX10_noOrder_20 : decode cX10_noOrder 20 = .ok (.iconst 0, 1) := by decide +kernel
theorem dX10_noOrder_21 : decode cX10_noOrder 21 = .ok (.ireturn, 1) := by decide +kernel
theorem dX10_order_0 : decode cX10_order 0 = .ok (.iload_n 2, 1) := by decide +kernel
theorem dX10_order_1 : decode cX10_order 1 = .ok (.invokestatic 183, 3) := by decide +kernel
theorem dX10_order_4 : decode cX10_order 4 = .ok (.ifCond .eq 10, 3) := by decide +kernel
theorem dX10_order_7 : decode cX10_order 7 = .ok (.iload_n 3, 1) := by decide +kernel
theorem dX10_order_8 : decode cX10_order 8 = .ok (.invokestatic 158, 3) := by decide +kernel
theorem dX10_order_11 : decode cX10_order 11 = .ok (.ifCond .ne 7, 3) := by decide +kernel
theorem dX10_order_14 : decode cX10_order 14 = .ok (.sipush (-1001), 3) := by decide +kernel
theorem dX10_order_17 : decode cX10_order 17 = .ok (.ireturn, 1) := by decide +kernel
theorem dX10_order_18 : decode cX10_order 18 = .ok (.iload_n 1, 1) := by decide +kernel
theorem dX10_order_19 : decode cX10_order 19 = .ok (.i2l, 1) := by decide +kernel
theorem dX10_order_20 : decode cX10_order 20 = .ok (.lconst 0, 1) := by decide +kernel
theorem dX10_order_21 : decode cX10_order 21 = .ok (.ldc2_w 195, 3) := by decide +kernel
theorem dX10_order_24 : decode cX10_order 24 = .ok (.invokestatic 150, 3) := by decide +kernel
theorem dX10_order_27 : decode cX10_order 27 = .ok (.ifCond .eq 20, 3) := by decide +kernel
theorem dX10_order_30 : decode cX10_order 30 = .ok (.iload 4, 2) := by decide +kernel
theorem dX10_order_32 : decode cX10_order 32 = .ok (.i2l, 1) := by decide +kernel
theorem dX10_order_33 : decode cX10_order 33 = .ok (.aload_n 0, 1) := by decide +kernel
theorem dX10_order_34 : decode cX10_order 34 = .ok (.getfield 197, 3) := by decide +kernel
theorem dX10_order_37 : decode cX10_order 37 = .ok (.i2l, 1) := by decide +kernel
theorem dX10_order_38 : decode cX10_order 38 = .ok (.ldc2_w 156, 3) := by decide +kernel
theorem dX10_order_41 : decode cX10_order 41 = .ok (.invokestatic 150, 3) := by decide +kernel
theorem dX10_order_44 : decode cX10_order 44 = .ok (.ifCond .ne 7, 3) := by decide +kernel
theorem dX10_order_47 : decode cX10_order 47 = .ok (.sipush (-1002), 3) := by decide +kernel
theorem dX10_order_50 : decode cX10_order 50 = .ok (.ireturn, 1) := by decide +kernel
theorem dX10_order_51 : decode cX10_order 51 = .ok (.aload_n 0, 1) := by decide +kernel
theorem dX10_order_52 : decode cX10_order 52 = .ok (.getfield 192, 3) := by decide +kernel
theorem dX10_order_55 : decode cX10_order 55 = .ok (.bipush 40, 2) := by decide +kernel
theorem dX10_order_57 : decode cX10_order 57 = .ok (.if_icmp .ne 7, 3) := by decide +kernel
theorem dX10_order_60 : decode cX10_order 60 = .ok (.sipush (-1004), 3) := by decide +kernel
theorem dX10_order_63 : decode cX10_order 63 = .ok (.ireturn, 1) := by decide +kernel
theorem dX10_order_64 : decode cX10_order 64 = .ok (.aload_n 0, 1) := by decide +kernel
theorem dX10_order_65 : decode cX10_order 65 = .ok (.getfield 49, 3) := by decide +kernel
theorem dX10_order_68 : decode cX10_order 68 = .ok (.aload_n 0, 1) := by decide +kernel
theorem dX10_order_69 : decode cX10_order 69 = .ok (.getfield 192, 3) := by decide +kernel
theorem dX10_order_72 : decode cX10_order 72 = .ok (.iload_n 1, 1) := by decide +kernel
theorem dX10_order_73 : decode cX10_order 73 = .ok (.iastore, 1) := by decide +kernel
theorem dX10_order_74 : decode cX10_order 74 = .ok (.aload_n 0, 1) := by decide +kernel
theorem dX10_order_75 : decode cX10_order 75 = .ok (.getfield 52, 3) := by decide +kernel
theorem dX10_order_78 : decode cX10_order 78 = .ok (.aload_n 0, 1) := by decide +kernel
theorem dX10_order_79 : decode cX10_order 79 = .ok (.getfield 192, 3) := by decide +kernel
theorem dX10_order_82 : decode cX10_order 82 = .ok (.iload_n 2, 1) := by decide +kernel
theorem dX10_order_83 : decode cX10_order 83 = .ok (.iastore, 1) := by decide +kernel
theorem dX10_order_84 : decode cX10_order 84 = .ok (.aload_n 0, 1) := by decide +kernel
theorem dX10_order_85 : decode cX10_order 85 = .ok (.getfield 55, 3) := by decide +kernel
theorem dX10_order_88 : decode cX10_order 88 = .ok (.aload_n 0, 1) := by decide +kernel
theorem dX10_order_89 : decode cX10_order 89 = .ok (.getfield 192, 3) := by decide +kernel
theorem dX10_order_92 : decode cX10_order 92 = .ok (.iload_n 3, 1) := by decide +kernel
theorem dX10_order_93 : decode cX10_order 93 = .ok (.iastore, 1) := by decide +kernel
theorem dX10_order_94 : decode cX10_order 94 = .ok (.aload_n 0, 1) := by decide +kernel
theorem dX10_order_95 : decode cX10_order 95 = .ok (.getfield 58, 3) := by decide +kernel
theorem dX10_order_98 : decode cX10_order 98 = .ok (.aload_n 0, 1) := by decide +kernel
theorem dX10_order_99 : decode cX10_order 99 = .ok (.getfield 192, 3) := by decide +kernel
theorem dX10_order_102 : decode cX10_order 102 = .ok (.iload 4, 2) := by decide +kernel
theorem dX10_order_104 : decode cX10_order 104 = .ok (.iastore, 1) := by decide +kernel
theorem dX10_order_105 : decode cX10_order 105 = .ok (.aload_n 0, 1) := by decide +kernel
theorem dX10_order_106 : decode cX10_order 106 = .ok (.dup, 1) := by decide +kernel
theorem dX10_order_107 : decode cX10_order 107 = .ok (.getfield 192, 3) := by decide +kernel
theorem dX10_order_110 : decode cX10_order 110 = .ok (.iconst 1, 1) := by decide +kernel
theorem dX10_order_111 : decode cX10_order 111 = .ok (.iadd, 1) := by decide +kernel
theorem dX10_order_112 : decode cX10_order 112 = .ok (.putfield 192, 3) := by decide +kernel
theorem dX10_order_115 : decode cX10_order 115 = .ok (.aload_n 0, 1) := by decide +kernel
theorem dX10_order_116 : decode cX10_order 116 = .ok (.getfield 192, 3) := by decide +kernel
theorem dX10_order_119 : decode cX10_order 119 = .ok (.iconst 1, 1) := by decide +kernel
theorem dX10_order_120 : decode cX10_order 120 = .ok (.isub, 1) := by decide +kernel
theorem dX10_order_121 : decode cX10_order 121 = .ok (.ireturn, 1) := by decide +kernel
theorem dX10_hourOf_0 : decode cX10_hourOf 0 = .ok (.aload_n 0, 1) := by decide +kernel
theorem dX10_hourOf_1 : decode cX10_hourOf 1 = .ok (.getfield 61, 3) := by decide +kernel
theorem dX10_hourOf_4 : decode cX10_hourOf 4 = .ok (.ifCond .lt 19, 3) := by decide +kernel
theorem dX10_hourOf_7 : decode cX10_hourOf 7 = .ok (.aload_n 0, 1) := by decide +kernel
theorem dX10_hourOf_8 : decode cX10_hourOf 8 = .ok (.getfield 49, 3) := by decide +kernel
theorem dX10_hourOf_11 : decode cX10_hourOf 11 = .ok (.iload_n 1, 1) := by decide +kernel
theorem dX10_hourOf_12 : decode cX10_hourOf 12 = .ok (.iaload, 1) := by decide +kernel
theorem dX10_hourOf_13 : decode cX10_hourOf 13 = .ok (.ifCond .ne 10, 3) := by decide +kernel
theorem dX10_hourOf_16 : decode cX10_hourOf 16 = .ok (.aload_n 0, 1) := by decide +kernel
theorem dX10_hourOf_17 : decode cX10_hourOf 17 = .ok (.getfield 61, 3) := by decide +kernel
theorem dX10_hourOf_20 : decode cX10_hourOf 20 = .ok (.goto 9, 3) := by decide +kernel
theorem dX10_hourOf_23 : decode cX10_hourOf 23 = .ok (.aload_n 0, 1) := by decide +kernel
theorem dX10_hourOf_24 : decode cX10_hourOf 24 = .ok (.getfield 58, 3) := by decide +kernel
theorem dX10_hourOf_27 : decode cX10_hourOf 27 = .ok (.iload_n 1, 1) := by decide +kernel
theorem dX10_hourOf_28 : decode cX10_hourOf 28 = .ok (.iaload, 1) := by decide +kernel
theorem dX10_hourOf_29 : decode cX10_hourOf 29 = .ok (.ireturn, 1) := by decide +kernel
theorem dX10_reachOf_0 : decode cX10_reachOf 0 = .ok (.aload_n 0, 1) := by decide +kernel
theorem dX10_reachOf_1 : decode cX10_reachOf 1 = .ok (.aload_n 0, 1) := by decide +kernel
theorem dX10_reachOf_2 : decode cX10_reachOf 2 = .ok (.getfield 55, 3) := by decide +kernel
theorem dX10_reachOf_5 : decode cX10_reachOf 5 = .ok (.iload_n 1, 1) := by decide +kernel
theorem dX10_reachOf_6 : decode cX10_reachOf 6 = .ok (.iaload, 1) := by decide +kernel
theorem dX10_reachOf_7 : decode cX10_reachOf 7 = .ok (.iload_n 2, 1) := by decide +kernel
theorem dX10_reachOf_8 : decode cX10_reachOf 8 = .ok (.invokevirtual 171, 3) := by decide +kernel
theorem dX10_reachOf_11 : decode cX10_reachOf 11 = .ok (.istore_n 3, 1) := by decide +kernel
theorem dX10_reachOf_12 : decode cX10_reachOf 12 = .ok (.iload_n 3, 1) := by decide +kernel
theorem dX10_reachOf_13 : decode cX10_reachOf 13 = .ok (.ifCond .ge 7, 3) := by decide +kernel
theorem dX10_reachOf_16 : decode cX10_reachOf 16 = .ok (.iconst (-1), 1) := by decide +kernel
theorem dX10_reachOf_17 : decode cX10_reachOf 17 = .ok (.goto 10, 3) := by decide +kernel
theorem dX10_reachOf_20 : decode cX10_reachOf 20 = .ok (.aload_n 0, 1) := by decide +kernel
theorem dX10_reachOf_21 : decode cX10_reachOf 21 = .ok (.iload_n 1, 1) := by decide +kernel
theorem dX10_reachOf_22 : decode cX10_reachOf 22 = .ok (.invokevirtual 200, 3) := by decide +kernel
theorem dX10_reachOf_25 : decode cX10_reachOf 25 = .ok (.iload_n 3, 1) := by decide +kernel
theorem dX10_reachOf_26 : decode cX10_reachOf 26 = .ok (.iadd, 1) := by decide +kernel
theorem dX10_reachOf_27 : decode cX10_reachOf 27 = .ok (.ireturn, 1) := by decide +kernel
theorem dX10_reach_0 : decode cX10_reach 0 = .ok (.aload_n 0, 1) := by decide +kernel
theorem dX10_reach_1 : decode cX10_reach 1 = .ok (.iload_n 1, 1) := by decide +kernel
theorem dX10_reach_2 : decode cX10_reach 2 = .ok (.invokevirtual 204, 3) := by decide +kernel
theorem dX10_reach_5 : decode cX10_reach 5 = .ok (.ifCond .ne 10, 3) := by decide +kernel
theorem dX10_reach_8 : decode cX10_reach 8 = .ok (.iload_n 2, 1) := by decide +kernel
theorem dX10_reach_9 : decode cX10_reach 9 = .ok (.invokestatic 158, 3) := by decide +kernel
theorem dX10_reach_12 : decode cX10_reach 12 = .ok (.ifCond .ne 9, 3) := by decide +kernel
theorem dX10_reach_15 : decode cX10_reach 15 = .ok (.sipush (-1001), 3) := by decide +kernel
theorem dX10_reach_18 : decode cX10_reach 18 = .ok (.goto 9, 3) := by decide +kernel
theorem dX10_reach_21 : decode cX10_reach 21 = .ok (.aload_n 0, 1) := by decide +kernel
theorem dX10_reach_22 : decode cX10_reach 22 = .ok (.iload_n 1, 1) := by decide +kernel
theorem dX10_reach_23 : decode cX10_reach 23 = .ok (.iload_n 2, 1) := by decide +kernel
theorem dX10_reach_24 : decode cX10_reach 24 = .ok (.invokevirtual 207, 3) := by decide +kernel
theorem dX10_reach_27 : decode cX10_reach 27 = .ok (.ireturn, 1) := by decide +kernel
theorem dX10_late_0 : decode cX10_late 0 = .ok (.aload_n 0, 1) := by decide +kernel
theorem dX10_late_1 : decode cX10_late 1 = .ok (.iload_n 1, 1) := by decide +kernel
theorem dX10_late_2 : decode cX10_late 2 = .ok (.invokevirtual 204, 3) := by decide +kernel
theorem dX10_late_5 : decode cX10_late 5 = .ok (.ifCond .eq 7, 3) := by decide +kernel
theorem dX10_late_8 : decode cX10_late 8 = .ok (.sipush (-1001), 3) := by decide +kernel
theorem dX10_late_11 : decode cX10_late 11 = .ok (.ireturn, 1) := by decide +kernel
theorem dX10_late_12 : decode cX10_late 12 = .ok (.iconst 0, 1) := by decide +kernel
theorem dX10_late_13 : decode cX10_late 13 = .ok (.istore_n 2, 1) := by decide +kernel
theorem dX10_late_14 : decode cX10_late 14 = .ok (.iconst 0, 1) := by decide +kernel
theorem dX10_late_15 : decode cX10_late 15 = .ok (.istore_n 3, 1) := by decide +kernel
theorem dX10_late_16 : decode cX10_late 16 = .ok (.iload_n 3, 1) := by decide +kernel
theorem dX10_late_17 : decode cX10_late 17 = .ok (.bipush 8, 2) := by decide +kernel
theorem dX10_late_19 : decode cX10_late 19 = .ok (.if_icmp .ge 139, 3) := by decide +kernel
theorem dX10_late_22 : decode cX10_late 22 = .ok (.aload_n 0, 1) := by decide +kernel
theorem dX10_late_23 : decode cX10_late 23 = .ok (.iload_n 1, 1) := by decide +kernel
theorem dX10_late_24 : decode cX10_late 24 = .ok (.iload_n 3, 1) := by decide +kernel
theorem dX10_late_25 : decode cX10_late 25 = .ok (.invokevirtual 207, 3) := by decide +kernel
theorem dX10_late_28 : decode cX10_late 28 = .ok (.istore 4, 2) := by decide +kernel
theorem dX10_late_30 : decode cX10_late 30 = .ok (.iconst 0, 1) := by decide +kernel
theorem dX10_late_31 : decode cX10_late 31 = .ok (.istore 5, 2) := by decide +kernel
theorem dX10_late_33 : decode cX10_late 33 = .ok (.iconst 0, 1) := by decide +kernel
theorem dX10_late_34 : decode cX10_late 34 = .ok (.istore 6, 2) := by decide +kernel
theorem dX10_late_36 : decode cX10_late 36 = .ok (.iload 6, 2) := by decide +kernel
theorem dX10_late_38 : decode cX10_late 38 = .ok (.aload_n 0, 1) := by decide +kernel
theorem dX10_late_39 : decode cX10_late 39 = .ok (.getfield 192, 3) := by decide +kernel
theorem dX10_late_42 : decode cX10_late 42 = .ok (.if_icmp .ge 100, 3) := by decide +kernel
theorem dX10_late_45 : decode cX10_late 45 = .ok (.iload 4, 2) := by decide +kernel
theorem dX10_late_47 : decode cX10_late 47 = .ok (.ifCond .lt 95, 3) := by decide +kernel
theorem dX10_late_50 : decode cX10_late 50 = .ok (.aload_n 0, 1) := by decide +kernel
theorem dX10_late_51 : decode cX10_late 51 = .ok (.getfield 52, 3) := by decide +kernel
theorem dX10_late_54 : decode cX10_late 54 = .ok (.iload 6, 2) := by decide +kernel
theorem dX10_late_56 : decode cX10_late 56 = .ok (.iaload, 1) := by decide +kernel
theorem dX10_late_57 : decode cX10_late 57 = .ok (.aload_n 0, 1) := by decide +kernel
theorem dX10_late_58 : decode cX10_late 58 = .ok (.getfield 52, 3) := by decide +kernel
theorem dX10_late_61 : decode cX10_late 61 = .ok (.iload_n 1, 1) := by decide +kernel
theorem dX10_late_62 : decode cX10_late 62 = .ok (.iaload, 1) := by decide +kernel
theorem dX10_late_63 : decode cX10_late 63 = .ok (.if_icmp .ne 25, 3) := by decide +kernel
theorem dX10_late_66 : decode cX10_late 66 = .ok (.aload_n 0, 1) := by decide +kernel
theorem dX10_late_67 : decode cX10_late 67 = .ok (.getfield 49, 3) := by decide +kernel
theorem dX10_late_70 : decode cX10_late 70 = .ok (.iload 6, 2) := by decide +kernel
theorem dX10_late_72 : decode cX10_late 72 = .ok (.iaload, 1) := by decide +kernel
theorem dX10_late_73 : decode cX10_late 73 = .ok (.iconst 1, 1) := by decide +kernel
theorem dX10_late_74 : decode cX10_late 74 = .ok (.ixor, 1) := by decide +kernel
theorem dX10_late_75 : decode cX10_late 75 = .ok (.aload_n 0, 1) := by decide +kernel
theorem dX10_late_76 : decode cX10_late 76 = .ok (.getfield 49, 3) := by decide +kernel
theorem dX10_late_79 : decode cX10_late 79 = .ok (.iload_n 1, 1) := by decide +kernel
theorem dX10_late_80 : decode cX10_late 80 = .ok (.iaload, 1) := by decide +kernel
theorem dX10_late_81 : decode cX10_late 81 = .ok (.if_icmp .ne 7, 3) := by decide +kernel
theorem dX10_late_84 : decode cX10_late 84 = .ok (.iconst 1, 1) := by decide +kernel
theorem dX10_late_85 : decode cX10_late 85 = .ok (.goto 4, 3) := by decide +kernel
theorem dX10_late_88 : decode cX10_late 88 = .ok (.iconst 0, 1) := by decide +kernel
theorem dX10_late_89 : decode cX10_late 89 = .ok (.istore 7, 2) := by decide +kernel
theorem dX10_late_91 : decode cX10_late 91 = .ok (.iload 5, 2) := by decide +kernel
theorem dX10_late_93 : decode cX10_late 93 = .ok (.ifCond .ne 36, 3) := by decide +kernel
theorem dX10_late_96 : decode cX10_late 96 = .ok (.iload 7, 2) := by decide +kernel
theorem dX10_late_98 : decode cX10_late 98 = .ok (.ifCond .eq 35, 3) := by decide +kernel
theorem dX10_late_101 : decode cX10_late 101 = .ok (.aload_n 0, 1) := by decide +kernel
theorem dX10_late_102 : decode cX10_late 102 = .ok (.getfield 58, 3) := by decide +kernel
theorem dX10_late_105 : decode cX10_late 105 = .ok (.iload 6, 2) := by decide +kernel
theorem dX10_late_107 : decode cX10_late 107 = .ok (.iaload, 1) := by decide +kernel
theorem dX10_late_108 : decode cX10_late 108 = .ok (.aload_n 0, 1) := by decide +kernel
theorem dX10_late_109 : decode cX10_late 109 = .ok (.getfield 58, 3) := by decide +kernel
theorem dX10_late_112 : decode cX10_late 112 = .ok (.iload_n 1, 1) := by decide +kernel
theorem dX10_late_113 : decode cX10_late 113 = .ok (.iaload, 1) := by decide +kernel
theorem dX10_late_114 : decode cX10_late 114 = .ok (.if_icmp .le 19, 3) := by decide +kernel
theorem dX10_late_117 : decode cX10_late 117 = .ok (.aload_n 0, 1) := by decide +kernel
theorem dX10_late_118 : decode cX10_late 118 = .ok (.getfield 58, 3) := by decide +kernel
theorem dX10_late_121 : decode cX10_late 121 = .ok (.iload 6, 2) := by decide +kernel
theorem dX10_late_123 : decode cX10_late 123 = .ok (.iaload, 1) := by decide +kernel
theorem dX10_late_124 : decode cX10_late 124 = .ok (.iload 4, 2) := by decide +kernel
theorem dX10_late_126 : decode cX10_late 126 = .ok (.if_icmp .gt 7, 3) := by decide +kernel
theorem dX10_late_129 : decode cX10_late 129 = .ok (.iconst 1, 1) := by decide +kernel
theorem dX10_late_130 : decode cX10_late 130 = .ok (.goto 4, 3) := by decide +kernel
theorem dX10_late_133 : decode cX10_late 133 = .ok (.iconst 0, 1) := by decide +kernel
theorem dX10_late_134 : decode cX10_late 134 = .ok (.istore 5, 2) := by decide +kernel
theorem dX10_late_136 : decode cX10_late 136 = .ok (.iinc 6 1, 3) := by decide +kernel
theorem dX10_late_139 : decode cX10_late 139 = .ok (.goto (-103), 3) := by decide +kernel
theorem dX10_late_142 : decode cX10_late 142 = .ok (.iload_n 2, 1) := by decide +kernel
theorem dX10_late_143 : decode cX10_late 143 = .ok (.iload 5, 2) := by decide +kernel
theorem dX10_late_145 : decode cX10_late 145 = .ok (.invokestatic 210, 3) := by decide +kernel
theorem dX10_late_148 : decode cX10_late 148 = .ok (.iload_n 3, 1) := by decide +kernel
theorem dX10_late_149 : decode cX10_late 149 = .ok (.ishl, 1) := by decide +kernel
theorem dX10_late_150 : decode cX10_late 150 = .ok (.ior, 1) := by decide +kernel
theorem dX10_late_151 : decode cX10_late 151 = .ok (.istore_n 2, 1) := by decide +kernel
theorem dX10_late_152 : decode cX10_late 152 = .ok (.iinc 3 1, 3) := by decide +kernel
theorem dX10_late_155 : decode cX10_late 155 = .ok (.goto (-139), 3) := by decide +kernel
theorem dX10_late_158 : decode cX10_late 158 = .ok (.iload_n 2, 1) := by decide +kernel
theorem dX10_late_159 : decode cX10_late 159 = .ok (.ireturn, 1) := by decide +kernel
theorem dX10_holdsOf_0 : decode cX10_holdsOf 0 = .ok (.iconst (-1), 1) := by decide +kernel
theorem dX10_holdsOf_1 : decode cX10_holdsOf 1 = .ok (.istore 5, 2) := by decide +kernel
theorem dX10_holdsOf_3 : decode cX10_holdsOf 3 = .ok (.iconst (-1), 1) := by decide +kernel
theorem dX10_holdsOf_4 : decode cX10_holdsOf 4 = .ok (.istore 6, 2) := by decide +kernel
theorem dX10_holdsOf_6 : decode cX10_holdsOf 6 = .ok (.iconst 0, 1) := by decide +kernel
theorem dX10_holdsOf_7 : decode cX10_holdsOf 7 = .ok (.istore 7, 2) := by decide +kernel
theorem dX10_holdsOf_9 : decode cX10_holdsOf 9 = .ok (.iload 7, 2) := by decide +kernel
theorem dX10_holdsOf_11 : decode cX10_holdsOf 11 = .ok (.aload_n 0, 1) := by decide +kernel
theorem dX10_holdsOf_12 : decode cX10_holdsOf 12 = .ok (.getfield 192, 3) := by decide +kernel
theorem dX10_holdsOf_15 : decode cX10_holdsOf 15 = .ok (.if_icmp .ge 69, 3) := by decide +kernel
theorem dX10_holdsOf_18 : decode cX10_holdsOf 18 = .ok (.aload_n 0, 1) := by decide +kernel
theorem dX10_holdsOf_19 : decode cX10_holdsOf 19 = .ok (.iload 7, 2) := by decide +kernel
theorem dX10_holdsOf_21 : decode cX10_holdsOf 21 = .ok (.iload_n 2, 1) := by decide +kernel
theorem dX10_holdsOf_22 : decode cX10_holdsOf 22 = .ok (.invokevirtual 207, 3) := by decide +kernel
theorem dX10_holdsOf_25 : decode cX10_holdsOf 25 = .ok (.istore 8, 2) := by decide +kernel
theorem dX10_holdsOf_27 : decode cX10_holdsOf 27 = .ok (.aload_n 0, 1) := by decide +kernel
theorem dX10_holdsOf_28 : decode cX10_holdsOf 28 = .ok (.getfield 52, 3) := by decide +kernel
theorem dX10_holdsOf_31 : decode cX10_holdsOf 31 = .ok (.iload 7, 2) := by decide +kernel
theorem dX10_holdsOf_33 : decode cX10_holdsOf 33 = .ok (.iaload, 1) := by decide +kernel
theorem dX10_holdsOf_34 : decode cX10_holdsOf 34 = .ok (.iload_n 1, 1) := by decide +kernel
theorem dX10_holdsOf_35 : decode cX10_holdsOf 35 = .ok (.if_icmp .ne 43, 3) := by decide +kernel
theorem dX10_holdsOf_38 : decode cX10_holdsOf 38 = .ok (.aload_n 0, 1) := by decide +kernel
theorem dX10_holdsOf_39 : decode cX10_holdsOf 39 = .ok (.getfield 49, 3) := by decide +kernel
theorem dX10_holdsOf_42 : decode cX10_holdsOf 42 = .ok (.iload 7, 2) := by decide +kernel
theorem dX10_holdsOf_44 : decode cX10_holdsOf 44 = .ok (.iaload, 1) := by decide +kernel
theorem dX10_holdsOf_45 : decode cX10_holdsOf 45 = .ok (.iconst 2, 1) := by decide +kernel
theorem dX10_holdsOf_46 : decode cX10_holdsOf 46 = .ok (.idiv, 1) := by decide +kernel
theorem dX10_holdsOf_47 : decode cX10_holdsOf 47 = .ok (.iload 4, 2) := by decide +kernel
theorem dX10_holdsOf_49 : decode cX10_holdsOf 49 = .ok (.if_icmp .ne 29, 3) := by decide +kernel
theorem dX10_holdsOf_52 : decode cX10_holdsOf 52 = .ok (.iload 8, 2) := by decide +kernel
theorem dX10_holdsOf_54 : decode cX10_holdsOf 54 = .ok (.ifCond .lt 24, 3) := by decide +kernel
theorem dX10_holdsOf_57 : decode cX10_holdsOf 57 = .ok (.iload 8, 2) := by decide +kernel
theorem dX10_holdsOf_59 : decode cX10_holdsOf 59 = .ok (.iload_n 3, 1) := by decide +kernel
theorem dX10_holdsOf_60 : decode cX10_holdsOf 60 = .ok (.if_icmp .gt 18, 3) := by decide +kernel
theorem dX10_holdsOf_63 : decode cX10_holdsOf 63 = .ok (.iload 8, 2) := by decide +kernel
theorem dX10_holdsOf_65 : decode cX10_holdsOf 65 = .ok (.iload 6, 2) := by decide +kernel
theorem dX10_holdsOf_67 : decode cX10_holdsOf 67 = .ok (.if_icmp .lt 11, 3) := by decide +kernel
theorem dX10_holdsOf_70 : decode cX10_holdsOf 70 = .ok (.iload 7, 2) := by decide +kernel
theorem dX10_holdsOf_72 : decode cX10_holdsOf 72 = .ok (.istore 5, 2) := by decide +kernel
theorem dX10_holdsOf_74 : decode cX10_holdsOf 74 = .ok (.iload 8, 2) := by decide +kernel
theorem dX10_holdsOf_76 : decode cX10_holdsOf 76 = .ok (.istore 6, 2) := by decide +kernel
theorem dX10_holdsOf_78 : decode cX10_holdsOf 78 = .ok (.iinc 7 1, 3) := by decide +kernel
theorem dX10_holdsOf_81 : decode cX10_holdsOf 81 = .ok (.goto (-72), 3) := by decide +kernel
theorem dX10_holdsOf_84 : decode cX10_holdsOf 84 = .ok (.iload 5, 2) := by decide +kernel
theorem dX10_holdsOf_86 : decode cX10_holdsOf 86 = .ok (.ireturn, 1) := by decide +kernel
theorem dX10_isCalled_0 : decode cX10_isCalled 0 = .ok (.aload_n 0, 1) := by decide +kernel
theorem dX10_isCalled_1 : decode cX10_isCalled 1 = .ok (.iload_n 1, 1) := by decide +kernel
theorem dX10_isCalled_2 : decode cX10_isCalled 2 = .ok (.iload_n 2, 1) := by decide +kernel
theorem dX10_isCalled_3 : decode cX10_isCalled 3 = .ok (.iload_n 3, 1) := by decide +kernel
theorem dX10_isCalled_4 : decode cX10_isCalled 4 = .ok (.iconst 0, 1) := by decide +kernel
theorem dX10_isCalled_5 : decode cX10_isCalled 5 = .ok (.invokevirtual 214, 3) := by decide +kernel
theorem dX10_isCalled_8 : decode cX10_isCalled 8 = .ok (.istore 4, 2) := by decide +kernel
theorem dX10_isCalled_10 : decode cX10_isCalled 10 = .ok (.aload_n 0, 1) := by decide +kernel
theorem dX10_isCalled_11 : decode cX10_isCalled 11 = .ok (.iload_n 1, 1) := by decide +kernel
theorem dX10_isCalled_12 : decode cX10_isCalled 12 = .ok (.iload_n 2, 1) := by decide +kernel
theorem dX10_isCalled_13 : decode cX10_isCalled 13 = .ok (.iload_n 3, 1) := by decide +kernel
theorem dX10_isCalled_14 : decode cX10_isCalled 14 = .ok (.iconst 1, 1) := by decide +kernel
theorem dX10_isCalled_15 : decode cX10_isCalled 15 = .ok (.invokevirtual 214, 3) := by decide +kernel
theorem dX10_isCalled_18 : decode cX10_isCalled 18 = .ok (.istore 5, 2) := by decide +kernel
theorem dX10_isCalled_20 : decode cX10_isCalled 20 = .ok (.iload 4, 2) := by decide +kernel
theorem dX10_isCalled_22 : decode cX10_isCalled 22 = .ok (.ifCond .lt 33, 3) := by decide +kernel
theorem dX10_isCalled_25 : decode cX10_isCalled 25 = .ok (.aload_n 0, 1) := by decide +kernel
theorem dX10_isCalled_26 : decode cX10_isCalled 26 = .ok (.getfield 49, 3) := by decide +kernel
theorem dX10_isCalled_29 : decode cX10_isCalled 29 = .ok (.iload 4, 2) := by decide +kernel
theorem dX10_isCalled_31 : decode cX10_isCalled 31 = .ok (.iaload, 1) := by decide +kernel
theorem dX10_isCalled_32 : decode cX10_isCalled 32 = .ok (.ifCond .ne 23, 3) := by decide +kernel
theorem dX10_isCalled_35 : decode cX10_isCalled 35 = .ok (.iload 5, 2) := by decide +kernel
theorem dX10_isCalled_37 : decode cX10_isCalled 37 = .ok (.ifCond .lt 14, 3) := by decide +kernel
theorem dX10_isCalled_40 : decode cX10_isCalled 40 = .ok (.aload_n 0, 1) := by decide +kernel
theorem dX10_isCalled_41 : decode cX10_isCalled 41 = .ok (.getfield 49, 3) := by decide +kernel
theorem dX10_isCalled_44 : decode cX10_isCalled 44 = .ok (.iload 5, 2) := by decide +kernel
theorem dX10_isCalled_46 : decode cX10_isCalled 46 = .ok (.iaload, 1) := by decide +kernel
theorem dX10_isCalled_47 : decode cX10_isCalled 47 = .ok (.iconst 2, 1) := by decide +kernel
theorem dX10_isCalled_48 : decode cX10_isCalled 48 = .ok (.if_icmp .eq 7, 3) := by decide +kernel
theorem dX10_isCalled_51 : decode cX10_isCalled 51 = .ok (.iconst 1, 1) := by decide +kernel
theorem dX10_isCalled_52 : decode cX10_isCalled 52 = .ok (.goto 4, 3) := by decide +kernel
theorem dX10_isCalled_55 : decode cX10_isCalled 55 = .ok (.iconst 0, 1) := by decide +kernel
theorem dX10_isCalled_56 : decode cX10_isCalled 56 = .ok (.ireturn, 1) := by decide +kernel
theorem dX10_called_0 : decode cX10_called 0 = .ok (.iload_n 1, 1) := by decide +kernel
theorem dX10_called_1 : decode cX10_called 1 = .ok (.invokestatic 183, 3) := by decide +kernel
theorem dX10_called_4 : decode cX10_called 4 = .ok (.ifCond .eq 10, 3) := by decide +kernel
