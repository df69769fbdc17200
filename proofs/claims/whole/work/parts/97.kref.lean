theorem dX12_init_0 : decode cX12_init 0 = .ok (.aload_n 0, 1) := by decide +kernel
theorem dX12_init_1 : decode cX12_init 1 = .ok (.invokespecial 11, 3) := by decide +kernel
theorem dX12_init_4 : decode cX12_init 4 = .ok (.aload_n 0, 1) := by decide +kernel
theorem dX12_init_5 : decode cX12_init 5 = .ok (.iconst 0, 1) := by decide +kernel
theorem dX12_init_6 : decode cX12_init 6 = .ok (.putfield 17, 3) := by decide +kernel
theorem dX12_init_9 : decode cX12_init 9 = .ok (.aload_n 0, 1) := by decide +kernel
theorem dX12_init_10 : decode cX12_init 10 = .ok (.iconst 0, 1) := by decide +kernel
theorem dX12_init_11 : decode cX12_init 11 = .ok (.putfield 21, 3) := by decide +kernel
theorem dX12_init_14 : decode cX12_init 14 = .ok (.aload_n 0, 1) := by decide +kernel
theorem dX12_init_15 : decode cX12_init 15 = .ok (.bipush 30, 2) := by decide +kernel
theorem dX12_init_17 : decode cX12_init 17 = .ok (.newarray .int, 2) := by decide +kernel
theorem dX12_init_19 : decode cX12_init 19 = .ok (.putfield 24, 3) := by decide +kernel
theorem dX12_init_22 : decode cX12_init 22 = .ok (.aload_n 0, 1) := by decide +kernel
theorem dX12_init_23 : decode cX12_init 23 = .ok (.bipush 30, 2) := by decide +kernel
theorem dX12_init_25 : decode cX12_init 25 = .ok (.newarray .int, 2) := by decide +kernel
theorem dX12_init_27 : decode cX12_init 27 = .ok (.putfield 28, 3) := by decide +kernel
theorem dX12_init_30 : decode cX12_init 30 = .ok (.aload_n 0, 1) := by decide +kernel
theorem dX12_init_31 : decode cX12_init 31 = .ok (.bipush 8, 2) := by decide +kernel
theorem dX12_init_33 : decode cX12_init 33 = .ok (.newarray .int, 2) := by decide +kernel
theorem dX12_init_35 : decode cX12_init 35 = .ok (.putfield 31, 3) := by decide +kernel
theorem dX12_init_38 : decode cX12_init 38 = .ok (.aload_n 0, 1) := by decide +kernel
theorem dX12_init_39 : decode cX12_init 39 = .ok (.bipush 8, 2) := by decide +kernel
theorem dX12_init_41 : decode cX12_init 41 = .ok (.newarray .int, 2) := by decide +kernel
theorem dX12_init_43 : decode cX12_init 43 = .ok (.putfield 34, 3) := by decide +kernel
theorem dX12_init_46 : decode cX12_init 46 = .ok (.aload_n 0, 1) := by decide +kernel
theorem dX12_init_47 : decode cX12_init 47 = .ok (.bipush 60, 2) := by decide +kernel
theorem dX12_init_49 : decode cX12_init 49 = .ok (.newarray .int, 2) := by decide +kernel
theorem dX12_init_51 : decode cX12_init 51 = .ok (.putfield 37, 3) := by decide +kernel
theorem dX12_init_54 : decode cX12_init 54 = .ok (.aload_n 0, 1) := by decide +kernel
theorem dX12_init_55 : decode cX12_init 55 = .ok (.bipush 60, 2) := by decide +kernel
theorem dX12_init_57 : decode cX12_init 57 = .ok (.newarray .int, 2) := by decide +kernel
theorem dX12_init_59 : decode cX12_init 59 = .ok (.putfield 40, 3) := by decide +kernel
theorem dX12_init_62 : decode cX12_init 62 = .ok (.aload_n 0, 1) := by decide +kernel
theorem dX12_init_63 : decode cX12_init 63 = .ok (.bipush 60, 2) := by decide +kernel
theorem dX12_init_65 : decode cX12_init 65 = .ok (.newarray .int, 2) := by decide +kernel
theorem dX12_init_67 : decode cX12_init 67 = .ok (.putfield 43, 3) := by decide +kernel
theorem dX12_init_70 : decode cX12_init 70 = .ok (.aload_n 0, 1) := by decide +kernel
theorem dX12_init_71 : decode cX12_init 71 = .ok (.bipush 60, 2) := by decide +kernel
theorem dX12_init_73 : decode cX12_init 73 = .ok (.newarray .int, 2) := by decide +kernel
theorem dX12_init_75 : decode cX12_init 75 = .ok (.putfield 46, 3) := by decide +kernel
theorem dX12_init_78 : decode cX12_init 78 = .ok (.aload_n 0, 1) := by decide +kernel
theorem dX12_init_79 : decode cX12_init 79 = .ok (.bipush 60, 2) := by decide +kernel
theorem dX12_init_81 : decode cX12_init 81 = .ok (.newarray .int, 2) := by decide +kernel
theorem dX12_init_83 : decode cX12_init 83 = .ok (.putfield 49, 3) := by decide +kernel
theorem dX12_init_86 : decode cX12_init 86 = .ok (.aload_n 0, 1) := by decide +kernel
theorem dX12_init_87 : decode cX12_init 87 = .ok (.bipush 60, 2) := by decide +kernel
theorem dX12_init_89 : decode cX12_init 89 = .ok (.newarray .int, 2) := by decide +kernel
theorem dX12_init_91 : decode cX12_init 91 = .ok (.putfield 52, 3) := by decide +kernel
theorem dX12_init_94 : decode cX12_init 94 = .ok (.aload_n 0, 1) := by decide +kernel
theorem dX12_init_95 : decode cX12_init 95 = .ok (.bipush 60, 2) := by decide +kernel
theorem dX12_init_97 : decode cX12_init 97 = .ok (.newarray .int, 2) := by decide +kernel
theorem dX12_init_99 : decode cX12_init 99 = .ok (.putfield 55, 3) := by decide +kernel
theorem dX12_init_102 : decode cX12_init 102 = .ok (.aload_n 0, 1) := by decide +kernel
theorem dX12_init_103 : decode cX12_init 103 = .ok (.bipush 60, 2) := by decide +kernel
theorem dX12_init_105 : decode cX12_init 105 = .ok (.newarray .int, 2) := by decide +kernel
theorem dX12_init_107 : decode cX12_init 107 = .ok (.putfield 58, 3) := by decide +kernel
theorem dX12_init_110 : decode cX12_init 110 = .ok (.aload_n 0, 1) := by decide +kernel
theorem dX12_init_111 : decode cX12_init 111 = .ok (.bipush 60, 2) := by decide +kernel
theorem dX12_init_113 : decode cX12_init 113 = .ok (.newarray .boolean, 2) := by decide +kernel
theorem dX12_init_115 : decode cX12_init 115 = .ok (.putfield 61, 3) := by decide +kernel
theorem dX12_init_118 : decode cX12_init 118 = .ok (.aload_n 0, 1) := by decide +kernel
theorem dX12_init_119 : decode cX12_init 119 = .ok (.iconst 0, 1) := by decide +kernel
theorem dX12_init_120 : decode cX12_init 120 = .ok (.putfield 65, 3) := by decide +kernel
theorem dX12_init_123 : decode cX12_init 123 = .ok (.aload_n 0, 1) := by decide +kernel
theorem dX12_init_124 : decode cX12_init 124 = .ok (.sipush 150, 3) := by decide +kernel
theorem dX12_init_127 : decode cX12_init 127 = .ok (.newarray .int, 2) := by decide +kernel
theorem dX12_init_129 : decode cX12_init 129 = .ok (.putfield 68, 3) := by decide +kernel
theorem dX12_init_132 : decode cX12_init 132 = .ok (.aload_n 0, 1) := by decide +kernel
theorem dX12_init_133 : decode cX12_init 133 = .ok (.bipush 30, 2) := by decide +kernel
theorem dX12_init_135 : decode cX12_init 135 = .ok (.newarray .int, 2) := by decide +kernel
theorem dX12_init_137 : decode cX12_init 137 = .ok (.putfield 71, 3) := by decide +kernel
theorem dX12_init_140 : decode cX12_init 140 = .ok (.aload_n 0, 1) := by decide +kernel
theorem dX12_init_141 : decode cX12_init 141 = .ok (.sipush 720, 3) := by decide +kernel
theorem dX12_init_144 : decode cX12_init 144 = .ok (.newarray .int, 2) := by decide +kernel
theorem dX12_init_146 : decode cX12_init 146 = .ok (.putfield 74, 3) := by decide +kernel
theorem dX12_init_149 : decode cX12_init 149 = .ok (.aload_n 0, 1) := by decide +kernel
theorem dX12_init_150 : decode cX12_init 150 = .ok (.bipush 30, 2) := by decide +kernel
theorem dX12_init_152 : decode cX12_init 152 = .ok (.newarray .int, 2) := by decide +kernel
theorem dX12_init_154 : decode cX12_init 154 = .ok (.putfield 77, 3) := by decide +kernel
theorem dX12_init_157 : decode cX12_init 157 = .ok (.aload_n 0, 1) := by decide +kernel
theorem dX12_init_158 : decode cX12_init 158 = .ok (.bipush 30, 2) := by decide +kernel
theorem dX12_init_160 : decode cX12_init 160 = .ok (.newarray .int, 2) := by decide +kernel
theorem dX12_init_162 : decode cX12_init 162 = .ok (.putfield 80, 3) := by decide +kernel
theorem dX12_init_165 : decode cX12_init 165 = .ok (.aload_n 0, 1) := by decide +kernel
theorem dX12_init_166 : decode cX12_init 166 = .ok (.iconst 0, 1) := by decide +kernel
theorem dX12_init_167 : decode cX12_init 167 = .ok (.putfield 83, 3) := by decide +kernel
theorem dX12_init_170 : decode cX12_init 170 = .ok (.aload_n 0, 1) := by decide +kernel
theorem dX12_init_171 : decode cX12_init 171 = .ok (.iconst 0, 1) := by decide +kernel
theorem dX12_init_172 : decode cX12_init 172 = .ok (.putfield 86, 3) := by decide +kernel
theorem dX12_init_175 : decode cX12_init 175 = .ok (.aload_n 0, 1) := by decide +kernel
theorem dX12_init_176 : decode cX12_init 176 = .ok (.bipush 10, 2) := by decide +kernel
theorem dX12_init_178 : decode cX12_init 178 = .ok (.newarray .int, 2) := by decide +kernel
theorem dX12_init_180 : decode cX12_init 180 = .ok (.putfield 89, 3) := by decide +kernel
theorem dX12_init_183 : decode cX12_init 183 = .ok (.aload_n 0, 1) := by decide +kernel
theorem dX12_init_184 : decode cX12_init 184 = .ok (.sipush 1100, 3) := by decide +kernel
theorem dX12_init_187 : decode cX12_init 187 = .ok (.newarray .int, 2) := by decide +kernel
theorem dX12_init_189 : decode cX12_init 189 = .ok (.putfield 92, 3) := by decide +kernel
theorem dX12_init_192 : decode cX12_init 192 = .ok (.aload_n 0, 1) := by decide +kernel
theorem dX12_init_193 : decode cX12_init 193 = .ok (.bipush 11, 2) := by decide +kernel
theorem dX12_init_195 : decode cX12_init 195 = .ok (.newarray .int, 2) := by decide +kernel
theorem dX12_init_197 : decode cX12_init 197 = .ok (.putfield 95, 3) := by decide +kernel
theorem dX12_init_200 : decode cX12_init 200 = .ok (.aload_n 0, 1) := by decide +kernel
theorem dX12_init_201 : decode cX12_init 201 = .ok (.bipush 6, 2) := by decide +kernel
theorem dX12_init_203 : decode cX12_init 203 = .ok (.newarray .int, 2) := by decide +kernel
theorem dX12_init_205 : decode cX12_init 205 = .ok (.putfield 98, 3) := by decide +kernel
theorem dX12_init_208 : decode cX12_init 208 = .ok (.aload_n 0, 1) := by decide +kernel
theorem dX12_init_209 : decode cX12_init 209 = .ok (.bipush 6, 2) := by decide +kernel
theorem dX12_init_211 : decode cX12_init 211 = .ok (.newarray .int, 2) := by decide +kernel
theorem dX12_init_213 : decode cX12_init 213 = .ok (.putfield 101, 3) := by decide +kernel
theorem dX12_init_216 : decode cX12_init 216 = .ok (.aload_n 0, 1) := by decide +kernel
theorem dX12_init_217 : decode cX12_init 217 = .ok (.bipush 6, 2) := by decide +kernel
theorem dX12_init_219 : decode cX12_init 219 = .ok (.newarray .int, 2) := by decide +kernel
theorem dX12_init_221 : decode cX12_init 221 = .ok (.putfield 104, 3) := by decide +kernel
theorem dX12_init_224 : decode cX12_init 224 = .ok (.aload_n 0, 1) := by decide +kernel
theorem dX12_init_225 : decode cX12_init 225 = .ok (.bipush 6, 2) := by decide +kernel
theorem dX12_init_227 : decode cX12_init 227 = .ok (.newarray .boolean, 2) := by decide +kernel
theorem dX12_init_229 : decode cX12_init 229 = .ok (.putfield 107, 3) := by decide +kernel
theorem dX12_init_232 : decode cX12_init 232 = .ok (.aload_n 0, 1) := by decide +kernel
theorem dX12_init_233 : decode cX12_init 233 = .ok (.iconst 0, 1) := by decide +kernel
theorem dX12_init_234 : decode cX12_init 234 = .ok (.putfield 110, 3) := by decide +kernel
theorem dX12_init_237 : decode cX12_init 237 = .ok (.aload_n 0, 1) := by decide +kernel
theorem dX12_init_238 : decode cX12_init 238 = .ok (.iconst 0, 1) := by decide +kernel
theorem dX12_init_239 : decode cX12_init 239 = .ok (.putfield 113, 3) := by decide +kernel
theorem dX12_init_242 : decode cX12_init 242 = .ok (.aload_n 0, 1) := by decide +kernel
theorem dX12_init_243 : decode cX12_init 243 = .ok (.iconst 0, 1) := by decide +kernel
theorem dX12_init_244 : decode cX12_init 244 = .ok (.putfield 116, 3) := by decide +kernel
theorem dX12_init_247 : decode cX12_init 247 = .ok (.aload_n 0, 1) := by decide +kernel
theorem dX12_init_248 : decode cX12_init 248 = .ok (.iconst 0, 1) := by decide +kernel
theorem dX12_init_249 : decode cX12_init 249 = .ok (.putfield 119, 3) := by decide +kernel
theorem dX12_init_252 : decode cX12_init 252 = .ok (.aload_n 0, 1) := by decide +kernel
theorem dX12_init_253 : decode cX12_init 253 = .ok (.iconst 0, 1) := by decide +kernel
theorem dX12_init_254 : decode cX12_init 254 = .ok (.putfield 122, 3) := by decide +kernel
theorem dX12_init_257 : decode cX12_init 257 = .ok (.aload_n 0, 1) := by decide +kernel
theorem dX12_init_258 : decode cX12_init 258 = .ok (.bipush 101, 2) := by decide +kernel
theorem dX12_init_260 : decode cX12_init 260 = .ok (.newarray .int, 2) := by decide +kernel
theorem dX12_init_262 : decode cX12_init 262 = .ok (.putfield 125, 3) := by decide +kernel
theorem dX12_init_265 : decode cX12_init 265 = .ok (.aload_n 0, 1) := by decide +kernel
theorem dX12_init_266 : decode cX12_init 266 = .ok (.bipush 101, 2) := by decide +kernel
theorem dX12_init_268 : decode cX12_init 268 = .ok (.newarray .boolean, 2) := by decide +kernel
theorem dX12_init_270 : decode cX12_init 270 = .ok (.putfield 128, 3) := by decide +kernel
theorem dX12_init_273 : decode cX12_init 273 = .ok (.aload_n 0, 1) := by decide +kernel
theorem dX12_init_274 : decode cX12_init 274 = .ok (.iconst 0, 1) := by decide +kernel
theorem dX12_init_275 : decode cX12_init 275 = .ok (.putfield 131, 3) := by decide +kernel
theorem dX12_init_278 : decode cX12_init 278 = .ok (.aload_n 0, 1) := by decide +kernel
theorem dX12_init_279 : decode cX12_init 279 = .ok (.iconst 0, 1) := by decide +kernel
theorem dX12_init_280 : decode cX12_init 280 = .ok (.putfield 134, 3) := by decide +kernel
theorem dX12_init_283 : decode cX12_init 283 = .ok (.aload_n 0, 1) := by decide +kernel
theorem dX12_init_284 : decode cX12_init 284 = .ok (.iconst 0, 1) := by decide +kernel
theorem dX12_init_285 : decode cX12_init 285 = .ok (.putfield 137, 3) := by decide +kernel
theorem dX12_init_288 : decode cX12_init 288 = .ok (.aload_n 0, 1) := by decide +kernel
theorem dX12_init_289 : decode cX12_init 289 = .ok (.bipush 24, 2) := by decide +kernel
theorem dX12_init_291 : decode cX12_init 291 = .ok (.newarray .int, 2) := by decide +kernel
theorem dX12_init_293 : decode cX12_init 293 = .ok (.putfield 140, 3) := by decide +kernel
theorem dX12_init_296 : decode cX12_init 296 = .ok (.aload_n 0, 1) := by decide +kernel
theorem dX12_init_297 : decode cX12_init 297 = .ok (.bipush 30, 2) := by decide +kernel
theorem dX12_init_299 : decode cX12_init 299 = .ok (.newarray .int, 2) := by decide +kernel
theorem dX12_init_301 : decode cX12_init 301 = .ok (.putfield 143, 3) := by decide +kernel
theorem dX12_init_304 : decode cX12_init 304 = .ok (.aload_n 0, 1) := by decide +kernel
theorem dX12_init_305 : decode cX12_init 305 = .ok (.bipush 30, 2) := by decide +kernel
theorem dX12_init_307 : decode cX12_init 307 = .ok (.newarray .int, 2) := by decide +kernel
theorem dX12_init_309 : decode cX12_init 309 = .ok (.putfield 146, 3) := by decide +kernel
theorem dX12_init_312 : decode cX12_init 312 = .ok (.aload_n 0, 1) := by decide +kernel
theorem dX12_init_313 : decode cX12_init 313 = .ok (.bipush 30, 2) := by decide +kernel
theorem dX12_init_315 : decode cX12_init 315 = .ok (.newarray .int, 2) := by decide +kernel
theorem dX12_init_317 : decode cX12_init 317 = .ok (.putfield 149, 3) := by decide +kernel
theorem dX12_init_320 : decode cX12_init 320 = .ok (.aload_n 0, 1) := by decide +kernel
theorem dX12_init_321 : decode cX12_init 321 = .ok (.iconst 0, 1) := by decide +kernel
theorem dX12_init_322 : decode cX12_init 322 = .ok (.putfield 152, 3) := by decide +kernel
theorem dX12_init_325 : decode cX12_init 325 = .ok (.aload_n 0, 1) := by decide +kernel
theorem dX12_init_326 : decode cX12_init 326 = .ok (.bipush 10, 2) := by decide +kernel
theorem dX12_init_328 : decode cX12_init 328 = .ok (.newarray .int, 2) := by decide +kernel
theorem dX12_init_330 : decode cX12_init 330 = .ok (.putfield 155, 3) := by decide +kernel
theorem dX12_init_333 : decode cX12_init 333 = .ok (.aload_n 0, 1) := by decide +kernel
theorem dX12_init_334 : decode cX12_init 334 = .ok (.bipush 10, 2) := by decide +kernel
theorem dX12_init_336 : decode cX12_init 336 = .ok (.newarray .int, 2) := by decide +kernel
theorem dX12_init_338 : decode cX12_init 338 = .ok (.putfield 158, 3) := by decide +kernel
theorem dX12_init_341 : decode cX12_init 341 = .ok (.aload_n 0, 1) := by decide +kernel
theorem dX12_init_342 : decode cX12_init 342 = .ok (.bipush 10, 2) := by decide +kernel
theorem dX12_init_344 : decode cX12_init 344 = .ok (.newarray .int, 2) := by decide +kernel
theorem dX12_init_346 : decode cX12_init 346 = .ok (.putfield 161, 3) := by decide +kernel
theorem dX12_init_349 : decode cX12_init 349 = .ok (.aload_n 0, 1) := by decide +kernel
theorem dX12_init_350 : decode cX12_init 350 = .ok (.bipush 10, 2) := by decide +kernel
theorem dX12_init_352 : decode cX12_init 352 = .ok (.newarray .int, 2) := by decide +kernel
theorem dX12_init_354 : decode cX12_init 354 = .ok (.dup, 1) := by decide +kernel
theorem dX12_init_355 : decode cX12_init 355 = .ok (.iconst 0, 1) := by decide +kernel
theorem dX12_init_356 : decode cX12_init 356 = .ok (.iconst (-1), 1) := by decide +kernel
theorem dX12_init_357 : decode cX12_init 357 = .ok (.iastore, 1) := by decide +kernel
theorem dX12_init_358 : decode cX12_init 358 = .ok (.dup, 1) := by decide +kernel
theorem dX12_init_359 : decode cX12_init 359 = .ok (.iconst 1, 1) := by decide +kernel
theorem dX12_init_360 : decode cX12_init 360 = .ok (.iconst (-1), 1) := by decide +kernel
theorem dX12_init_361 : decode cX12_init 361 = .ok (.iastore, 1) := by decide +kernel
theorem dX12_init_362 : decode cX12_init 362 = .ok (.dup, 1) := by decide +kernel
theorem dX12_init_363 : decode cX12_init 363 = .ok (.iconst 2, 1) := by decide +kernel
theorem dX12_init_364 : decode cX12_init 364 = .ok (.iconst (-1), 1) := by decide +kernel
theorem dX12_init_365 : decode cX12_init 365 = .ok (.iastore, 1) := by decide +kernel
theorem dX12_init_366 : decode cX12_init 366 = .ok (.dup, 1) := by decide +kernel
theorem dX12_init_367 : decode cX12_init 367 = .ok (.iconst 3, 1) := by decide +kernel
theorem dX12_init_368 : decode cX12_init 368 = .ok (.iconst (-1), 1) := by decide +kernel
theorem dX12_init_369 : decode cX12_init 369 = .ok (.iastore, 1) := by decide +kernel
theorem dX12_init_370 : decode cX12_init 370 = .ok (.dup, 1) := by decide +kernel
theorem dX12_init_371 : decode cX12_init 371 = .ok (.iconst 4, 1) := by decide +kernel
theorem dX12_init_372 : decode cX12_init 372 = .ok (.iconst (-1), 1) := by decide +kernel
theorem dX12_init_373 : decode cX12_init 373 = .ok (.iastore, 1) := by decide +kernel
theorem dX12_init_374 : decode cX12_init 374 = .ok (.dup, 1) := by decide +kernel
theorem dX12_init_375 : decode cX12_init 375 = .ok (.iconst 5, 1) := by decide +kernel
theorem dX12_init_376 : decode cX12_init 376 = .ok (.iconst (-1), 1) := by decide +kernel
theorem dX12_init_377 : decode cX12_init 377 = .ok (.iastore, 1) := by decide +kernel
theorem dX12_init_378 : decode cX12_init 378 = .ok (.dup, 1) := by decide +kernel
theorem dX12_init_379 : decode cX12_init 379 = .ok (.bipush 6, 2) := by decide +kernel
theorem dX12_init_381 : decode cX12_init 381 = .ok (.iconst (-1), 1) := by decide +kernel
theorem dX12_init_382 : decode cX12_init 382 = .ok (.iastore, 1) := by decide +kernel
theorem dX12_init_383 : decode cX12_init 383 = .ok (.dup, 1) := by decide +kernel
theorem dX12_init_384 : decode cX12_init 384 = .ok (.bipush 7, 2) := by decide +kernel
theorem dX12_init_386 : decode cX12_init 386 = .ok (.iconst (-1), 1) := by decide +kernel
theorem dX12_init_387 : decode cX12_init 387 = .ok (.iastore, 1) := by decide +kernel
theorem dX12_init_388 : decode cX12_init 388 = .ok (.dup, 1) := by decide +kernel
theorem dX12_init_389 : decode cX12_init 389 = .ok (.bipush 8, 2) := by decide +kernel
theorem dX12_init_391 : decode cX12_init 391 = .ok (.iconst (-1), 1) := by decide +kernel
theorem dX12_init_392 : decode cX12_init 392 = .ok (.iastore, 1) := by decide +kernel
theorem dX12_init_393 : decode cX12_init 393 = .ok (.dup, 1) := by decide +kernel
theorem dX12_init_394 : decode cX12_init 394 = .ok (.bipush 9, 2) := by decide +kernel
theorem dX12_init_396 : decode cX12_init 396 = .ok (.iconst (-1), 1) := by decide +kernel
theorem dX12_init_397 : decode cX12_init 397 = .ok (.iastore, 1) := by decide +kernel
theorem dX12_init_398 : decode cX12_init 398 = .ok (.putfield 164, 3) := by decide +kernel
theorem dX12_init_401 : decode cX12_init 401 = .ok (.aload_n 0, 1) := by decide +kernel
theorem dX12_init_402 : decode cX12_init 402 = .ok (.bipush 30, 2) := by decide +kernel
theorem dX12_init_404 : decode cX12_init 404 = .ok (.newarray .boolean, 2) := by decide +kernel
theorem dX12_init_406 : decode cX12_init 406 = .ok (.putfield 167, 3) := by decide +kernel
theorem dX12_init_409 : decode cX12_init 409 = .ok (.aload_n 0, 1) := by decide +kernel
theorem dX12_init_410 : decode cX12_init 410 = .ok (.bipush 30, 2) := by decide +kernel
theorem dX12_init_412 : decode cX12_init 412 = .ok (.newarray .boolean, 2) := by decide +kernel
theorem dX12_init_414 : decode cX12_init 414 = .ok (.putfield 170, 3) := by decide +kernel
theorem dX12_init_417 : decode cX12_init 417 = .ok (.aload_n 0, 1) := by decide +kernel
theorem dX12_init_418 : decode cX12_init 418 = .ok (.iconst 0, 1) := by decide +kernel
theorem dX12_init_419 : decode cX12_init 419 = .ok (.putfield 173, 3) := by decide +kernel
theorem dX12_init_422 : decode cX12_init 422 = .ok (.aload_n 0, 1) := by decide +kernel
theorem dX12_init_423 : decode cX12_init 423 = .ok (.iconst 0, 1) := by decide +kernel
theorem dX12_init_424 : decode cX12_init 424 = .ok (.putfield 176, 3) := by decide +kernel
theorem dX12_init_427 : decode cX12_init 427 = .ok (.aload_n 0, 1) := by decide +kernel
theorem dX12_init_428 : decode cX12_init 428 = .ok (.bipush 20, 2) := by decide +kernel
theorem dX12_init_430 : decode cX12_init 430 = .ok (.newarray .int, 2) := by decide +kernel
theorem dX12_init_432 : decode cX12_init 432 = .ok (.putfield 179, 3) := by decide +kernel
theorem dX12_init_435 : decode cX12_init 435 = .ok (.aload_n 0, 1) := by decide +kernel
theorem dX12_init_436 : decode cX12_init 436 = .ok (.bipush 20, 2) := by decide +kernel
theorem dX12_init_438 : decode cX12_init 438 = .ok (.newarray .int, 2) := by decide +kernel
theorem dX12_init_440 : decode cX12_init 440 = .ok (.putfield 182, 3) := by decide +kernel
theorem dX12_init_443 : decode cX12_init 443 = .ok (.aload_n 0, 1) := by decide +kernel
theorem dX12_init_444 : decode cX12_init 444 = .ok (.bipush 20, 2) := by decide +kernel
theorem dX12_init_446 : decode cX12_init 446 = .ok (.newarray .int, 2) := by decide +kernel
theorem dX12_init_448 : decode cX12_init 448 = .ok (.putfield 185, 3) := by decide +kernel
theorem dX12_init_451 : decode cX12_init 451 = .ok (.aload_n 0, 1) := by decide +kernel
theorem dX12_init_452 : decode cX12_init 452 = .ok (.bipush 8, 2) := by decide +kernel
theorem dX12_init_454 : decode cX12_init 454 = .ok (.newarray .int, 2) := by decide +kernel
theorem dX12_init_456 : decode cX12_init 456 = .ok (.putfield 188, 3) := by decide +kernel
theorem dX12_init_459 : decode cX12_init 459 = .ok (.aload_n 0, 1) := by decide +kernel
theorem dX12_init_460 : decode cX12_init 460 = .ok (.bipush 8, 2) := by decide +kernel
theorem dX12_init_462 : decode cX12_init 462 = .ok (.newarray .int, 2) := by decide +kernel
theorem dX12_init_464 : decode cX12_init 464 = .ok (.putfield 191, 3) := by decide +kernel
theorem dX12_init_467 : decode cX12_init 467 = .ok (.aload_n 0, 1) := by decide +kernel
theorem dX12_init_468 : decode cX12_init 468 = .ok (.bipush 8, 2) := by decide +kernel
theorem dX12_init_470 : decode cX12_init 470 = .ok (.newarray .int, 2) := by decide +kernel
theorem dX12_init_472 : decode cX12_init 472 = .ok (.putfield 194, 3) := by decide +kernel
theorem dX12_init_475 : decode cX12_init 475 = .ok (.aload_n 0, 1) := by decide +kernel
theorem dX12_init_476 : decode cX12_init 476 = .ok (.bipush 8, 2) := by decide +kernel
theorem dX12_init_478 : decode cX12_init 478 = .ok (.newarray .int, 2) := by decide +kernel
theorem dX12_init_480 : decode cX12_init 480 = .ok (.putfield 197, 3) := by decide +kernel
theorem dX12_init_483 : decode cX12_init 483 = .ok (.aload_n 0, 1) := by decide +kernel
theorem dX12_init_484 : decode cX12_init 484 = .ok (.bipush 20, 2) := by decide +kernel
theorem dX12_init_486 : decode cX12_init 486 = .ok (.newarray .int, 2) := by decide +kernel
theorem dX12_init_488 : decode cX12_init 488 = .ok (.putfield 200, 3) := by decide +kernel
theorem dX12_init_491 : decode cX12_init 491 = .ok (.aload_n 0, 1) := by decide +kernel
theorem dX12_init_492 : decode cX12_init 492 = .ok (.bipush 20, 2) := by decide +kernel
theorem dX12_init_494 : decode cX12_init 494 = .ok (.newarray .int, 2) := by decide +kernel
theorem dX12_init_496 : decode cX12_init 496 = .ok (.putfield 203, 3) := by decide +kernel
theorem dX12_init_499 : decode cX12_init 499 = .ok (.aload_n 0, 1) := by decide +kernel
theorem dX12_init_500 : decode cX12_init 500 = .ok (.bipush 8, 2) := by decide +kernel
theorem dX12_init_502 : decode cX12_init 502 = .ok (.newarray .int, 2) := by decide +kernel
theorem dX12_init_504 : decode cX12_init 504 = .ok (.dup, 1) := by decide +kernel
theorem dX12_init_505 : decode cX12_init 505 = .ok (.iconst 0, 1) := by decide +kernel
theorem dX12_init_506 : decode cX12_init 506 = .ok (.iconst (-1), 1) := by decide +kernel
theorem dX12_init_507 : decode cX12_init 507 = .ok (.iastore, 1) := by decide +kernel
theorem dX12_init_508 : decode cX12_init 508 = .ok (.dup, 1) := by decide +kernel
theorem dX12_init_509 : decode cX12_init 509 = .ok (.iconst 1, 1) := by decide +kernel
theorem dX12_init_510 : decode cX12_init 510 = .ok (.iconst (-1), 1) := by decide +kernel
theorem dX12_init_511 : decode cX12_init 511 = .ok (.iastore, 1) := by decide +kernel
theorem dX12_init_512 : decode cX12_init 512 = .ok (.dup, 1) := by decide +kernel
theorem dX12_init_513 : decode cX12_init 513 = .ok (.iconst 2, 1) := by decide +kernel
theorem dX12_init_514 : decode cX12_init 514 = .ok (.iconst (-1), 1) := by decide +kernel
theorem dX12_init_515 : decode cX12_init 515 = .ok (.iastore, 1) := by decide +kernel
theorem dX12_init_516 : decode cX12_init 516 = .ok (.dup, 1) := by decide +kernel
theorem dX12_init_517 : decode cX12_init 517 = .ok (.iconst 3, 1) := by decide +kernel
theorem dX12_init_518 : decode cX12_init 518 = .ok (.iconst (-1), 1) := by decide +kernel
theorem dX12_init_519 : decode cX12_init 519 = .ok (.iastore, 1) := by decide +kernel
theorem dX12_init_520 : decode cX12_init 520 = .ok (.dup, 1) := by decide +kernel
theorem dX12_init_521 : decode cX12_init 521 = .ok (.iconst 4, 1) := by decide +kernel
theorem dX12_init_522 : decode cX12_init 522 = .ok (.iconst (-1), 1) := by decide +kernel
theorem dX12_init_523 : decode cX12_init 523 = .ok (.iastore, 1) := by decide +kernel
theorem dX12_init_524 : decode cX12_init 524 = .ok (.dup, 1) := by decide +kernel
theorem dX12_init_525 : decode cX12_init 525 = .ok (.iconst 5, 1) := by decide +kernel
theorem dX12_init_526 : decode cX12_init 526 = .ok (.iconst (-1), 1) := by decide +kernel
theorem dX12_init_527 : decode cX12_init 527 = .ok (.iastore, 1) := by decide +kernel
theorem dX12_init_528 : decode cX12_init 528 = .ok (.dup, 1) := by decide +kernel
theorem dX12_init_529 : decode cX12_init 529 = .ok (.bipush 6, 2) := by decide +kernel
theorem dX12_init_531 : decode cX12_init 531 = .ok (.iconst (-1), 1) := by decide +kernel
theorem dX12_init_532 : decode cX12_init 532 = .ok (.iastore, 1) := by decide +kernel
theorem dX12_init_533 : decode cX12_init 533 = .ok (.dup, 1) := by decide +kernel
theorem dX12_init_534 : decode cX12_init 534 = .ok (.bipush 7, 2) := by decide +kernel
theorem dX12_init_536 : decode cX12_init 536 = .ok (.iconst (-1), 1) := by decide +kernel
theorem dX12_init_537 : decode cX12_init 537 = .ok (.iastore, 1) := by decide +kernel
theorem dX12_init_538 : decode cX12_init 538 = .ok (.putfield 206, 3) := by decide +kernel
theorem dX12_init_541 : decode cX12_init 541 = .ok (.aload_n 0, 1) := by decide +kernel
theorem dX12_init_542 : decode cX12_init 542 = .ok (.bipush 8, 2) := by decide +kernel
theorem dX12_init_544 : decode cX12_init 544 = .ok (.newarray .int, 2) := by decide +kernel
theorem dX12_init_546 : decode cX12_init 546 = .ok (.putfield 209, 3) := by decide +kernel
theorem dX12_init_549 : decode cX12_init 549 = .ok (.aload_n 0, 1) := by decide +kernel
theorem dX12_init_550 : decode cX12_init 550 = .ok (.bipush 8, 2) := by decide +kernel
theorem dX12_init_552 : decode cX12_init 552 = .ok (.newarray .int, 2) := by decide +kernel
theorem dX12_init_554 : decode cX12_init 554 = .ok (.putfield 212, 3) := by decide +kernel
theorem dX12_init_557 : decode cX12_init 557 = .ok (.aload_n 0, 1) := by decide +kernel
theorem dX12_init_558 : decode cX12_init 558 = .ok (.sipush 150, 3) := by decide +kernel
theorem dX12_init_561 : decode cX12_init 561 = .ok (.newarray .boolean, 2) := by decide +kernel
theorem dX12_init_563 : decode cX12_init 563 = .ok (.putfield 215, 3) := by decide +kernel
theorem dX12_init_566 : decode cX12_init 566 = .ok (.aload_n 0, 1) := by decide +kernel
theorem dX12_init_567 : decode cX12_init 567 = .ok (.iconst 0, 1) := by decide +kernel
theorem dX12_init_568 : decode cX12_init 568 = .ok (.putfield 218, 3) := by decide +kernel
theorem dX12_init_571 : decode cX12_init 571 = .ok (.aload_n 0, 1) := by decide +kernel
theorem dX12_init_572 : decode cX12_init 572 = .ok (.bipush 20, 2) := by decide +kernel
theorem dX12_init_574 : decode cX12_init 574 = .ok (.newarray .int, 2) := by decide +kernel
theorem dX12_init_576 : decode cX12_init 576 = .ok (.putfield 221, 3) := by decide +kernel
theorem dX12_init_579 : decode cX12_init 579 = .ok (.aload_n 0, 1) := by decide +kernel
theorem dX12_init_580 : decode cX12_init 580 = .ok (.bipush 6, 2) := by decide +kernel
theorem dX12_init_582 : decode cX12_init 582 = .ok (.newarray .int, 2) := by decide +kernel
theorem dX12_init_584 : decode cX12_init 584 = .ok (.dup, 1) := by decide +kernel
theorem dX12_init_585 : decode cX12_init 585 = .ok (.iconst 0, 1) := by decide +kernel
theorem dX12_init_586 : decode cX12_init 586 = .ok (.iconst (-1), 1) := by decide +kernel
theorem dX12_init_587 : decode cX12_init 587 = .ok (.iastore, 1) := by decide +kernel
theorem dX12_init_588 : decode cX12_init 588 = .ok (.dup, 1) := by decide +kernel
theorem dX12_init_589 : decode cX12_init 589 = .ok (.iconst 1, 1) := by decide +kernel
theorem dX12_init_590 : decode cX12_init 590 = .ok (.iconst (-1), 1) := by decide +kernel
theorem dX12_init_591 : decode cX12_init 591 = .ok (.iastore, 1) := by decide +kernel
theorem dX12_init_592 : decode cX12_init 592 = .ok (.dup, 1) := by decide +kernel
theorem dX12_init_593 : decode cX12_init 593 = .ok (.iconst 2, 1) := by decide +kernel
theorem dX12_init_594 : decode cX12_init 594 = .ok (.iconst (-1), 1) := by decide +kernel
theorem dX12_init_595 : decode cX12_init 595 = .ok (.iastore, 1) := by decide +kernel
theorem dX12_init_596 : decode cX12_init 596 = .ok (.dup, 1) := by decide +kernel
theorem dX12_init_597 : decode cX12_init 597 = .ok (.iconst 3, 1) := by decide +kernel
theorem dX12_init_598 : decode cX12_init 598 = .ok (.iconst (-1), 1) := by decide +kernel
theorem dX12_init_599 : decode cX12_init 599 = .ok (.iastore, 1) := by decide +kernel
theorem dX12_init_600 : decode cX12_init 600 = .ok (.dup, 1) := by decide +kernel
theorem dX12_init_601 : decode cX12_init 601 = .ok (.iconst 4, 1) := by decide +kernel
theorem dX12_init_602 : decode cX12_init 602 = .ok (.iconst (-1), 1) := by decide +kernel
theorem dX12_init_603 : decode cX12_init 603 = .ok (.iastore, 1) := by decide +kernel
theorem dX12_init_604 : decode cX12_init 604 = .ok (.dup, 1) := by decide +kernel
theorem dX12_init_605 : decode cX12_init 605 = .ok (.iconst 5, 1) := by decide +kernel
theorem dX12_init_606 : decode cX12_init 606 = .ok (.iconst (-1), 1) := by decide +kernel
theorem dX12_init_607 : decode cX12_init 607 = .ok (.iastore, 1) := by decide +kernel
theorem dX12_init_608 : decode cX12_init 608 = .ok (.putfield 224, 3) := by decide +kernel
theorem dX12_init_611 : decode cX12_init 611 = .ok (.aload_n 0, 1) := by decide +kernel
theorem dX12_init_612 : decode cX12_init 612 = .ok (.bipush 6, 2) := by decide +kernel
theorem dX12_init_614 : decode cX12_init 614 = .ok (.newarray .int, 2) := by decide +kernel
theorem dX12_init_616 : decode cX12_init 616 = .ok (.putfield 227, 3) := by decide +kernel
theorem dX12_init_619 : decode cX12_init 619 = .ok (.aload_n 0, 1) := by decide +kernel
theorem dX12_init_620 : decode cX12_init 620 = .ok (.sipush 360, 3) := by decide +kernel
theorem dX12_init_623 : decode cX12_init 623 = .ok (.newarray .long, 2) := by decide +kernel
theorem dX12_init_625 : decode cX12_init 625 = .ok (.putfield 230, 3) := by decide +kernel
theorem dX12_init_628 : decode cX12_init 628 = .ok (.aload_n 0, 1) := by decide +kernel
theorem dX12_init_629 : decode cX12_init 629 = .ok (.bipush 60, 2) := by decide +kernel
theorem dX12_init_631 : decode cX12_init 631 = .ok (.newarray .long, 2) := by decide +kernel
theorem dX12_init_633 : decode cX12_init 633 = .ok (.putfield 234, 3) := by decide +kernel
theorem dX12_init_636 : decode cX12_init 636 = .ok (.iconst 0, 1) := by decide +kernel
theorem dX12_init_637 : decode cX12_init 637 = .ok (.istore_n 1, 1) := by decide +kernel
theorem dX12_init_638 : decode cX12_init 638 = .ok (.iload_n 1, 1) := by decide +kernel
theorem dX12_init_639 : decode cX12_init 639 = .ok (.sipush 150, 3) := by decide +kernel
theorem dX12_init_642 : decode cX12_init 642 = .ok (.if_icmp .ge 16, 3) := by decide +kernel
theorem dX12_init_645 : decode cX12_init 645 = .ok (.aload_n 0, 1) := by decide +kernel
theorem dX12_init_646 : decode cX12_init 646 = .ok (.getfield 68, 3) := by decide +kernel
theorem dX12_init_649 : decode cX12_init 649 = .ok (.iload_n 1, 1) := by decide +kernel
theorem dX12_init_650 : decode cX12_init 650 = .ok (.iconst (-1), 1) := by decide +kernel
theorem dX12_init_651 : decode cX12_init 651 = .ok (.iastore, 1) := by decide +kernel
theorem dX12_init_652 : decode cX12_init 652 = .ok (.iinc 1 1, 3) := by decide +kernel
theorem dX12_init_655 : decode cX12_init 655 = .ok (.goto (-17), 3) := by decide +kernel
theorem dX12_init_658 : decode cX12_init 658 = .ok (.iconst 0, 1) := by decide +kernel
theorem dX12_init_659 : decode cX12_init 659 = .ok (.istore_n 1, 1) := by decide +kernel
theorem dX12_init_660 : decode cX12_init 660 = .ok (.iload_n 1, 1) := by decide +kernel
theorem dX12_init_661 : decode cX12_init 661 = .ok (.bipush 8, 2) := by decide +kernel
theorem dX12_init_663 : decode cX12_init 663 = .ok (.if_icmp .ge 25, 3) := by decide +kernel
theorem dX12_init_666 : decode cX12_init 666 = .ok (.aload_n 0, 1) := by decide +kernel
theorem dX12_init_667 : decode cX12_init 667 = .ok (.getfield 31, 3) := by decide +kernel
theorem dX12_init_670 : decode cX12_init 670 = .ok (.iload_n 1, 1) := by decide +kernel
theorem dX12_init_671 : decode cX12_init 671 = .ok (.bipush 7, 2) := by decide +kernel
theorem dX12_init_673 : decode cX12_init 673 = .ok (.iastore, 1) := by decide +kernel
theorem dX12_init_674 : decode cX12_init 674 = .ok (.aload_n 0, 1) := by decide +kernel
theorem dX12_init_675 : decode cX12_init 675 = .ok (.getfield 34, 3) := by decide +kernel
theorem dX12_init_678 : decode cX12_init 678 = .ok (.iload_n 1, 1) := by decide +kernel
theorem dX12_init_679 : decode cX12_init 679 = .ok (.bipush 14, 2) := by decide +kernel
theorem dX12_init_681 : decode cX12_init 681 = .ok (.iastore, 1) := by decide +kernel
theorem dX12_init_682 : decode cX12_init 682 = .ok (.iinc 1 1, 3) := by decide +kernel
theorem dX12_init_685 : decode cX12_init 685 = .ok (.goto (-25), 3) := by decide +kernel
theorem dX12_init_688 : decode cX12_init 688 = .ok (.return_, 1) := by decide +kernel
def q_M0 : Mem := (fun _ _ _ => 0, fun _ _ _ => 0, fun r x k => if r = 997 then pM x k else if r = 998 ∧ x = 0 ∧ k = 0 then 175 else 0)
theorem zl_M0 : Zl q_M0 := fun _ _ _ => rfl
theorem zi_M0 : Zi q_M0 := fun _ _ _ => rfl
def q_EM_1 : Mem := sN q_M0 0
theorem zl_EM_1 : Zl q_EM_1 := zl_M0.n
theorem zi_EM_1 : Zi q_EM_1 := zi_M0.n
theorem b_EM_1 : 0 = gR q_M0 999 0 0 := by decide +kernel
theorem a_EM_1 : gR q_M0 997 0 0 = gR q_M0 998 0 0 := by decide +kernel
theorem h_X12_init_60 : 0 < gR q_EM_1 999 0 0 := by decide +kernel
def q_X12_init_1 : Mem := sI q_EM_1 0 0 0 0
theorem zl_X12_init_1 : Zl q_X12_init_1 := zl_EM_1.i
theorem zi_X12_init_1 : Zi q_X12_init_1 := zi_EM_1.i
theorem h_X12_init_61 : 0 < gR q_X12_init_1 999 0 0 := by decide +kernel
def q_X12_init_2 : Mem := sI q_X12_init_1 0 0 1 0
theorem zl_X12_init_2 : Zl q_X12_init_2 := zl_X12_init_1.i
theorem zi_X12_init_2 : Zi q_X12_init_2 := zi_X12_init_1.i
def q_X12_init_3 : Mem := sN q_X12_init_2 1
theorem zl_X12_init_3 : Zl q_X12_init_3 := zl_X12_init_2.n
theorem zi_X12_init_3 : Zi q_X12_init_3 := zi_X12_init_2.n
theorem b_X12_init_3 : 0 = gR q_X12_init_2 999 1 0 := by decide +kernel
theorem a_X12_init_3 : gR q_X12_init_2 997 1 0 = gR q_X12_init_2 998 0 0 := by decide +kernel
theorem h_X12_init_62 : 0 < gR q_X12_init_3 999 0 0 := by decide +kernel
def q_X12_init_4 : Mem := sR q_X12_init_3 0 0 2 (0 + 1)
theorem zl_X12_init_4 : Zl q_X12_init_4 := zl_X12_init_3.r
theorem zi_X12_init_4 : Zi q_X12_init_4 := zi_X12_init_3.r
def q_X12_init_5 : Mem := sN q_X12_init_4 2
theorem zl_X12_init_5 : Zl q_X12_init_5 := zl_X12_init_4.n
theorem zi_X12_init_5 : Zi q_X12_init_5 := zi_X12_init_4.n
theorem b_X12_init_5 : 0 = gR q_X12_init_4 999 2 0 := by decide +kernel
theorem a_X12_init_5 : gR q_X12_init_4 997 2 0 = gR q_X12_init_4 998 0 0 := by decide +kernel
theorem h_X12_init_63 : 0 < gR q_X12_init_5 999 0 0 := by decide +kernel
def q_X12_init_6 : Mem := sR q_X12_init_5 0 0 3 (0 + 1)
theorem zl_X12_init_6 : Zl q_X12_init_6 := zl_X12_init_5.r
theorem zi_X12_init_6 : Zi q_X12_init_6 := zi_X12_init_5.r
def q_X12_init_7 : Mem := sN q_X12_init_6 3
theorem zl_X12_init_7 : Zl q_X12_init_7 := zl_X12_init_6.n
theorem zi_X12_init_7 : Zi q_X12_init_7 := zi_X12_init_6.n
theorem b_X12_init_7 : 0 = gR q_X12_init_6 999 3 0 := by decide +kernel
theorem a_X12_init_7 : gR q_X12_init_6 997 3 0 = gR q_X12_init_6 998 0 0 := by decide +kernel
theorem h_X12_init_64 : 0 < gR q_X12_init_7 999 0 0 := by decide +kernel
def q_X12_init_8 : Mem := sR q_X12_init_7 0 0 4 (0 + 1)
theorem zl_X12_init_8 : Zl q_X12_init_8 := zl_X12_init_7.r
theorem zi_X12_init_8 : Zi q_X12_init_8 := zi_X12_init_7.r
def q_X12_init_9 : Mem := sN q_X12_init_8 4
theorem zl_X12_init_9 : Zl q_X12_init_9 := zl_X12_init_8.n
theorem zi_X12_init_9 : Zi q_X12_init_9 := zi_X12_init_8.n
theorem b_X12_init_9 : 0 = gR q_X12_init_8 999 4 0 := by decide +kernel
theorem a_X12_init_9 : gR q_X12_init_8 997 4 0 = gR q_X12_init_8 998 0 0 := by decide +kernel
theorem h_X12_init_65 : 0 < gR q_X12_init_9 999 0 0 := by decide +kernel
def q_X12_init_10 : Mem := sR q_X12_init_9 0 0 5 (0 + 1)
theorem zl_X12_init_10 : Zl q_X12_init_10 := zl_X12_init_9.r
theorem zi_X12_init_10 : Zi q_X12_init_10 := zi_X12_init_9.r
def q_X12_init_11 : Mem := sN q_X12_init_10 5
theorem zl_X12_init_11 : Zl q_X12_init_11 := zl_X12_init_10.n
theorem zi_X12_init_11 : Zi q_X12_init_11 := zi_X12_init_10.n
theorem b_X12_init_11 : 0 = gR q_X12_init_10 999 5 0 := by decide +kernel
theorem a_X12_init_11 : gR q_X12_init_10 997 5 0 = gR q_X12_init_10 998 0 0 := by decide +kernel
theorem h_X12_init_66 : 0 < gR q_X12_init_11 999 0 0 := by decide +kernel
def q_X12_init_12 : Mem := sR q_X12_init_11 0 0 6 (0 + 1)
theorem zl_X12_init_12 : Zl q_X12_init_12 := zl_X12_init_11.r
theorem zi_X12_init_12 : Zi q_X12_init_12 := zi_X12_init_11.r
def q_X12_init_13 : Mem := sN q_X12_init_12 6
theorem zl_X12_init_13 : Zl q_X12_init_13 := zl_X12_init_12.n
theorem zi_X12_init_13 : Zi q_X12_init_13 := zi_X12_init_12.n
theorem b_X12_init_13 : 0 = gR q_X12_init_12 999 6 0 := by decide +kernel
theorem a_X12_init_13 : gR q_X12_init_12 997 6 0 = gR q_X12_init_12 998 0 0 := by decide +kernel
theorem h_X12_init_67 : 0 < gR q_X12_init_13 999 0 0 := by decide +kernel
def q_X12_init_14 : Mem := sR q_X12_init_13 0 0 7 (0 + 1)
theorem zl_X12_init_14 : Zl q_X12_init_14 := zl_X12_init_13.r
theorem zi_X12_init_14 : Zi q_X12_init_14 := zi_X12_init_13.r
def q_X12_init_15 : Mem := sN q_X12_init_14 7
theorem zl_X12_init_15 : Zl q_X12_init_15 := zl_X12_init_14.n
theorem zi_X12_init_15 : Zi q_X12_init_15 := zi_X12_init_14.n
theorem b_X12_init_15 : 0 = gR q_X12_init_14 999 7 0 := by decide +kernel
theorem a_X12_init_15 : gR q_X12_init_14 997 7 0 = gR q_X12_init_14 998 0 0 := by decide +kernel
theorem h_X12_init_68 : 0 < gR q_X12_init_15 999 0 0 := by decide +kernel
def q_X12_init_16 : Mem := sR q_X12_init_15 0 0 8 (0 + 1)
theorem zl_X12_init_16 : Zl q_X12_init_16 := zl_X12_init_15.r
theorem zi_X12_init_16 : Zi q_X12_init_16 := zi_X12_init_15.r
def q_X12_init_17 : Mem := sN q_X12_init_16 8
theorem zl_X12_init_17 : Zl q_X12_init_17 := zl_X12_init_16.n
theorem zi_X12_init_17 : Zi q_X12_init_17 := zi_X12_init_16.n
theorem b_X12_init_17 : 0 = gR q_X12_init_16 999 8 0 := by decide +kernel
theorem a_X12_init_17 : gR q_X12_init_16 997 8 0 = gR q_X12_init_16 998 0 0 := by decide +kernel
theorem h_X12_init_69 : 0 < gR q_X12_init_17 999 0 0 := by decide +kernel
def q_X12_init_18 : Mem := sR q_X12_init_17 0 0 9 (0 + 1)
theorem zl_X12_init_18 : Zl q_X12_init_18 := zl_X12_init_17.r
theorem zi_X12_init_18 : Zi q_X12_init_18 := zi_X12_init_17.r
def q_X12_init_19 : Mem := sN q_X12_init_18 9
theorem zl_X12_init_19 : Zl q_X12_init_19 := zl_X12_init_18.n
theorem zi_X12_init_19 : Zi q_X12_init_19 := zi_X12_init_18.n
theorem b_X12_init_19 : 0 = gR q_X12_init_18 999 9 0 := by decide +kernel
theorem a_X12_init_19 : gR q_X12_init_18 997 9 0 = gR q_X12_init_18 998 0 0 := by decide +kernel
theorem h_X12_init_70 : 0 < gR q_X12_init_19 999 0 0 := by decide +kernel
def q_X12_init_20 : Mem := sR q_X12_init_19 0 0 10 (0 + 1)
theorem zl_X12_init_20 : Zl q_X12_init_20 := zl_X12_init_19.r
theorem zi_X12_init_20 : Zi q_X12_init_20 := zi_X12_init_19.r
def q_X12_init_21 : Mem := sN q_X12_init_20 10
theorem zl_X12_init_21 : Zl q_X12_init_21 := zl_X12_init_20.n
theorem zi_X12_init_21 : Zi q_X12_init_21 := zi_X12_init_20.n
theorem b_X12_init_21 : 0 = gR q_X12_init_20 999 10 0 := by decide +kernel
theorem a_X12_init_21 : gR q_X12_init_20 997 10 0 = gR q_X12_init_20 998 0 0 := by decide +kernel
theorem h_X12_init_71 : 0 < gR q_X12_init_21 999 0 0 := by decide +kernel
def q_X12_init_22 : Mem := sR q_X12_init_21 0 0 11 (0 + 1)
theorem zl_X12_init_22 : Zl q_X12_init_22 := zl_X12_init_21.r
theorem zi_X12_init_22 : Zi q_X12_init_22 := zi_X12_init_21.r
def q_X12_init_23 : Mem := sN q_X12_init_22 11
theorem zl_X12_init_23 : Zl q_X12_init_23 := zl_X12_init_22.n
theorem zi_X12_init_23 : Zi q_X12_init_23 := zi_X12_init_22.n
theorem b_X12_init_23 : 0 = gR q_X12_init_22 999 11 0 := by decide +kernel
theorem a_X12_init_23 : gR q_X12_init_22 997 11 0 = gR q_X12_init_22 998 0 0 := by decide +kernel
theorem h_X12_init_72 : 0 < gR q_X12_init_23 999 0 0 := by decide +kernel
def q_X12_init_24 : Mem := sR q_X12_init_23 0 0 12 (0 + 1)
theorem zl_X12_init_24 : Zl q_X12_init_24 := zl_X12_init_23.r
theorem zi_X12_init_24 : Zi q_X12_init_24 := zi_X12_init_23.r
def q_X12_init_25 : Mem := sN q_X12_init_24 12
theorem zl_X12_init_25 : Zl q_X12_init_25 := zl_X12_init_24.n
theorem zi_X12_init_25 : Zi q_X12_init_25 := zi_X12_init_24.n
theorem b_X12_init_25 : 0 = gR q_X12_init_24 999 12 0 := by decide +kernel
theorem a_X12_init_25 : gR q_X12_init_24 997 12 0 = gR q_X12_init_24 998 0 0 := by decide +kernel
theorem h_X12_init_73 : 0 < gR q_X12_init_25 999 0 0 := by decide +kernel
def q_X12_init_26 : Mem := sR q_X12_init_25 0 0 13 (0 + 1)
theorem zl_X12_init_26 : Zl q_X12_init_26 := zl_X12_init_25.r
theorem zi_X12_init_26 : Zi q_X12_init_26 := zi_X12_init_25.r
def q_X12_init_27 : Mem := sN q_X12_init_26 13
theorem zl_X12_init_27 : Zl q_X12_init_27 := zl_X12_init_26.n
theorem zi_X12_init_27 : Zi q_X12_init_27 := zi_X12_init_26.n
theorem b_X12_init_27 : 0 = gR q_X12_init_26 999 13 0 := by decide +kernel
theorem a_X12_init_27 : gR q_X12_init_26 997 13 0 = gR q_X12_init_26 998 0 0 := by decide +kernel
theorem h_X12_init_74 : 0 < gR q_X12_init_27 999 0 0 := by decide +kernel
def q_X12_init_28 : Mem := sR q_X12_init_27 0 0 14 (0 + 1)
theorem zl_X12_init_28 : Zl q_X12_init_28 := zl_X12_init_27.r
theorem zi_X12_init_28 : Zi q_X12_init_28 := zi_X12_init_27.r
theorem h_X12_init_75 : 0 < gR q_X12_init_28 999 0 0 := by decide +kernel
def q_X12_init_29 : Mem := sI q_X12_init_28 0 0 15 0
theorem zl_X12_init_29 : Zl q_X12_init_29 := zl_X12_init_28.i
theorem zi_X12_init_29 : Zi q_X12_init_29 := zi_X12_init_28.i
def q_X12_init_30 : Mem := sN q_X12_init_29 14
theorem zl_X12_init_30 : Zl q_X12_init_30 := zl_X12_init_29.n
theorem zi_X12_init_30 : Zi q_X12_init_30 := zi_X12_init_29.n
theorem b_X12_init_30 : 0 = gR q_X12_init_29 999 14 0 := by decide +kernel
theorem a_X12_init_30 : gR q_X12_init_29 997 14 0 = gR q_X12_init_29 998 0 0 := by decide +kernel
theorem h_X12_init_76 : 0 < gR q_X12_init_30 999 0 0 := by decide +kernel
def q_X12_init_31 : Mem := sR q_X12_init_30 0 0 16 (0 + 1)
theorem zl_X12_init_31 : Zl q_X12_init_31 := zl_X12_init_30.r
theorem zi_X12_init_31 : Zi q_X12_init_31 := zi_X12_init_30.r
def q_X12_init_32 : Mem := sN q_X12_init_31 15
theorem zl_X12_init_32 : Zl q_X12_init_32 := zl_X12_init_31.n
theorem zi_X12_init_32 : Zi q_X12_init_32 := zi_X12_init_31.n
theorem b_X12_init_32 : 0 = gR q_X12_init_31 999 15 0 := by decide +kernel
theorem a_X12_init_32 : gR q_X12_init_31 997 15 0 = gR q_X12_init_31 998 0 0 := by decide +kernel
theorem h_X12_init_77 : 0 < gR q_X12_init_32 999 0 0 := by decide +kernel
def q_X12_init_33 : Mem := sR q_X12_init_32 0 0 17 (0 + 1)
theorem zl_X12_init_33 : Zl q_X12_init_33 := zl_X12_init_32.r
theorem zi_X12_init_33 : Zi q_X12_init_33 := zi_X12_init_32.r
def q_X12_init_34 : Mem := sN q_X12_init_33 16
theorem zl_X12_init_34 : Zl q_X12_init_34 := zl_X12_init_33.n
theorem zi_X12_init_34 : Zi q_X12_init_34 := zi_X12_init_33.n
theorem b_X12_init_34 : 0 = gR q_X12_init_33 999 16 0 := by decide +kernel
theorem a_X12_init_34 : gR q_X12_init_33 997 16 0 = gR q_X12_init_33 998 0 0 := by decide +kernel
theorem h_X12_init_78 : 0 < gR q_X12_init_34 999 0 0 := by decide +kernel
def q_X12_init_35 : Mem := sR q_X12_init_34 0 0 18 (0 + 1)
theorem zl_X12_init_35 : Zl q_X12_init_35 := zl_X12_init_34.r
theorem zi_X12_init_35 : Zi q_X12_init_35 := zi_X12_init_34.r
def q_X12_init_36 : Mem := sN q_X12_init_35 17
theorem zl_X12_init_36 : Zl q_X12_init_36 := zl_X12_init_35.n
theorem zi_X12_init_36 : Zi q_X12_init_36 := zi_X12_init_35.n
theorem b_X12_init_36 : 0 = gR q_X12_init_35 999 17 0 := by decide +kernel
theorem a_X12_init_36 : gR q_X12_init_35 997 17 0 = gR q_X12_init_35 998 0 0 := by decide +kernel
theorem h_X12_init_79 : 0 < gR q_X12_init_36 999 0 0 := by decide +kernel
def q_X12_init_37 : Mem := sR q_X12_init_36 0 0 19 (0 + 1)
theorem zl_X12_init_37 : Zl q_X12_init_37 := zl_X12_init_36.r
theorem zi_X12_init_37 : Zi q_X12_init_37 := zi_X12_init_36.r
def q_X12_init_38 : Mem := sN q_X12_init_37 18
theorem zl_X12_init_38 : Zl q_X12_init_38 := zl_X12_init_37.n
theorem zi_X12_init_38 : Zi q_X12_init_38 := zi_X12_init_37.n
theorem b_X12_init_38 : 0 = gR q_X12_init_37 999 18 0 := by decide +kernel
theorem a_X12_init_38 : gR q_X12_init_37 997 18 0 = gR q_X12_init_37 998 0 0 := by decide +kernel
theorem h_X12_init_80 : 0 < gR q_X12_init_38 999 0 0 := by decide +kernel
def q_X12_init_39 : Mem := sR q_X12_init_38 0 0 20 (0 + 1)
theorem zl_X12_init_39 : Zl q_X12_init_39 := zl_X12_init_38.r
theorem zi_X12_init_39 : Zi q_X12_init_39 := zi_X12_init_38.r
theorem h_X12_init_81 : 0 < gR q_X12_init_39 999 0 0 := by decide +kernel
def q_X12_init_40 : Mem := sI q_X12_init_39 0 0 21 0
theorem zl_X12_init_40 : Zl q_X12_init_40 := zl_X12_init_39.i
theorem zi_X12_init_40 : Zi q_X12_init_40 := zi_X12_init_39.i
theorem h_X12_init_82 : 0 < gR q_X12_init_40 999 0 0 := by decide +kernel
def q_X12_init_41 : Mem := sI q_X12_init_40 0 0 22 0
theorem zl_X12_init_41 : Zl q_X12_init_41 := zl_X12_init_40.i
theorem zi_X12_init_41 : Zi q_X12_init_41 := zi_X12_init_40.i
def q_X12_init_42 : Mem := sN q_X12_init_41 19
theorem zl_X12_init_42 : Zl q_X12_init_42 := zl_X12_init_41.n
theorem zi_X12_init_42 : Zi q_X12_init_42 := zi_X12_init_41.n
theorem b_X12_init_42 : 0 = gR q_X12_init_41 999 19 0 := by decide +kernel
theorem a_X12_init_42 : gR q_X12_init_41 997 19 0 = gR q_X12_init_41 998 0 0 := by decide +kernel
theorem h_X12_init_83 : 0 < gR q_X12_init_42 999 0 0 := by decide +kernel
def q_X12_init_43 : Mem := sR q_X12_init_42 0 0 23 (0 + 1)
theorem zl_X12_init_43 : Zl q_X12_init_43 := zl_X12_init_42.r
theorem zi_X12_init_43 : Zi q_X12_init_43 := zi_X12_init_42.r
def q_X12_init_44 : Mem := sN q_X12_init_43 20
theorem zl_X12_init_44 : Zl q_X12_init_44 := zl_X12_init_43.n
theorem zi_X12_init_44 : Zi q_X12_init_44 := zi_X12_init_43.n
theorem b_X12_init_44 : 0 = gR q_X12_init_43 999 20 0 := by decide +kernel
theorem a_X12_init_44 : gR q_X12_init_43 997 20 0 = gR q_X12_init_43 998 0 0 := by decide +kernel
theorem h_X12_init_84 : 0 < gR q_X12_init_44 999 0 0 := by decide +kernel
def q_X12_init_45 : Mem := sR q_X12_init_44 0 0 24 (0 + 1)
theorem zl_X12_init_45 : Zl q_X12_init_45 := zl_X12_init_44.r
theorem zi_X12_init_45 : Zi q_X12_init_45 := zi_X12_init_44.r
def q_X12_init_46 : Mem := sN q_X12_init_45 21
theorem zl_X12_init_46 : Zl q_X12_init_46 := zl_X12_init_45.n
theorem zi_X12_init_46 : Zi q_X12_init_46 := zi_X12_init_45.n
theorem b_X12_init_46 : 0 = gR q_X12_init_45 999 21 0 := by decide +kernel
theorem a_X12_init_46 : gR q_X12_init_45 997 21 0 = gR q_X12_init_45 998 0 0 := by decide +kernel
theorem h_X12_init_85 : 0 < gR q_X12_init_46 999 0 0 := by decide +kernel
def q_X12_init_47 : Mem := sR q_X12_init_46 0 0 25 (0 + 1)
theorem zl_X12_init_47 : Zl q_X12_init_47 := zl_X12_init_46.r
theorem zi_X12_init_47 : Zi q_X12_init_47 := zi_X12_init_46.r
def q_X12_init_48 : Mem := sN q_X12_init_47 22
theorem zl_X12_init_48 : Zl q_X12_init_48 := zl_X12_init_47.n
theorem zi_X12_init_48 : Zi q_X12_init_48 := zi_X12_init_47.n
theorem b_X12_init_48 : 0 = gR q_X12_init_47 999 22 0 := by decide +kernel
theorem a_X12_init_48 : gR q_X12_init_47 997 22 0 = gR q_X12_init_47 998 0 0 := by decide +kernel
theorem h_X12_init_86 : 0 < gR q_X12_init_48 999 0 0 := by decide +kernel
def q_X12_init_49 : Mem := sR q_X12_init_48 0 0 26 (0 + 1)
theorem zl_X12_init_49 : Zl q_X12_init_49 := zl_X12_init_48.r
theorem zi_X12_init_49 : Zi q_X12_init_49 := zi_X12_init_48.r
def q_X12_init_50 : Mem := sN q_X12_init_49 23
theorem zl_X12_init_50 : Zl q_X12_init_50 := zl_X12_init_49.n
theorem zi_X12_init_50 : Zi q_X12_init_50 := zi_X12_init_49.n
theorem b_X12_init_50 : 0 = gR q_X12_init_49 999 23 0 := by decide +kernel
theorem a_X12_init_50 : gR q_X12_init_49 997 23 0 = gR q_X12_init_49 998 0 0 := by decide +kernel
theorem h_X12_init_87 : 0 < gR q_X12_init_50 999 0 0 := by decide +kernel
def q_X12_init_51 : Mem := sR q_X12_init_50 0 0 27 (0 + 1)
theorem zl_X12_init_51 : Zl q_X12_init_51 := zl_X12_init_50.r
theorem zi_X12_init_51 : Zi q_X12_init_51 := zi_X12_init_50.r
def q_X12_init_52 : Mem := sN q_X12_init_51 24
theorem zl_X12_init_52 : Zl q_X12_init_52 := zl_X12_init_51.n
theorem zi_X12_init_52 : Zi q_X12_init_52 := zi_X12_init_51.n
theorem b_X12_init_52 : 0 = gR q_X12_init_51 999 24 0 := by decide +kernel
theorem a_X12_init_52 : gR q_X12_init_51 997 24 0 = gR q_X12_init_51 998 0 0 := by decide +kernel
theorem h_X12_init_88 : 0 < gR q_X12_init_52 999 0 0 := by decide +kernel
def q_X12_init_53 : Mem := sR q_X12_init_52 0 0 28 (0 + 1)
theorem zl_X12_init_53 : Zl q_X12_init_53 := zl_X12_init_52.r
theorem zi_X12_init_53 : Zi q_X12_init_53 := zi_X12_init_52.r
def q_X12_init_54 : Mem := sN q_X12_init_53 25
theorem zl_X12_init_54 : Zl q_X12_init_54 := zl_X12_init_53.n
theorem zi_X12_init_54 : Zi q_X12_init_54 := zi_X12_init_53.n
theorem b_X12_init_54 : 0 = gR q_X12_init_53 999 25 0 := by decide +kernel
theorem a_X12_init_54 : gR q_X12_init_53 997 25 0 = gR q_X12_init_53 998 0 0 := by decide +kernel
theorem h_X12_init_89 : 0 < gR q_X12_init_54 999 0 0 := by decide +kernel
def q_X12_init_55 : Mem := sR q_X12_init_54 0 0 29 (0 + 1)
theorem zl_X12_init_55 : Zl q_X12_init_55 := zl_X12_init_54.r
theorem zi_X12_init_55 : Zi q_X12_init_55 := zi_X12_init_54.r
theorem h_X12_init_90 : 0 < gR q_X12_init_55 999 0 0 := by decide +kernel
def q_X12_init_56 : Mem := sI q_X12_init_55 0 0 30 0
theorem zl_X12_init_56 : Zl q_X12_init_56 := zl_X12_init_55.i
theorem zi_X12_init_56 : Zi q_X12_init_56 := zi_X12_init_55.i
theorem h_X12_init_91 : 0 < gR q_X12_init_56 999 0 0 := by decide +kernel
def q_X12_init_57 : Mem := sI q_X12_init_56 0 0 31 0
theorem zl_X12_init_57 : Zl q_X12_init_57 := zl_X12_init_56.i
theorem zi_X12_init_57 : Zi q_X12_init_57 := zi_X12_init_56.i
theorem h_X12_init_92 : 0 < gR q_X12_init_57 999 0 0 := by decide +kernel
def q_X12_init_58 : Mem := sI q_X12_init_57 0 0 32 0
theorem zl_X12_init_58 : Zl q_X12_init_58 := zl_X12_init_57.i
theorem zi_X12_init_58 : Zi q_X12_init_58 := zi_X12_init_57.i
theorem h_X12_init_93 : 0 < gR q_X12_init_58 999 0 0 := by decide +kernel
def q_X12_init_59 : Mem := sI q_X12_init_58 0 0 33 0
theorem zl_X12_init_59 : Zl q_X12_init_59 := zl_X12_init_58.i
theorem zi_X12_init_59 : Zi q_X12_init_59 := zi_X12_init_58.i
theorem h_X12_init_94 : 0 < gR q_X12_init_59 999 0 0 := by decide +kernel
def q_X12_init_60 : Mem := sI q_X12_init_59 0 0 34 0
theorem zl_X12_init_60 : Zl q_X12_init_60 := zl_X12_init_59.i
theorem zi_X12_init_60 : Zi q_X12_init_60 := zi_X12_init_59.i
def q_X12_init_61 : Mem := sN q_X12_init_60 26
theorem zl_X12_init_61 : Zl q_X12_init_61 := zl_X12_init_60.n
theorem zi_X12_init_61 : Zi q_X12_init_61 := zi_X12_init_60.n
theorem b_X12_init_61 : 0 = gR q_X12_init_60 999 26 0 := by decide +kernel
theorem a_X12_init_61 : gR q_X12_init_60 997 26 0 = gR q_X12_init_60 998 0 0 := by decide +kernel
theorem h_X12_init_95 : 0 < gR q_X12_init_61 999 0 0 := by decide +kernel
def q_X12_init_62 : Mem := sR q_X12_init_61 0 0 35 (0 + 1)
theorem zl_X12_init_62 : Zl q_X12_init_62 := zl_X12_init_61.r
theorem zi_X12_init_62 : Zi q_X12_init_62 := zi_X12_init_61.r
def q_X12_init_63 : Mem := sN q_X12_init_62 27
theorem zl_X12_init_63 : Zl q_X12_init_63 := zl_X12_init_62.n
theorem zi_X12_init_63 : Zi q_X12_init_63 := zi_X12_init_62.n
theorem b_X12_init_63 : 0 = gR q_X12_init_62 999 27 0 := by decide +kernel
theorem a_X12_init_63 : gR q_X12_init_62 997 27 0 = gR q_X12_init_62 998 0 0 := by decide +kernel
theorem h_X12_init_96 : 0 < gR q_X12_init_63 999 0 0 := by decide +kernel
def q_X12_init_64 : Mem := sR q_X12_init_63 0 0 36 (0 + 1)
theorem zl_X12_init_64 : Zl q_X12_init_64 := zl_X12_init_63.r
theorem zi_X12_init_64 : Zi q_X12_init_64 := zi_X12_init_63.r
theorem h_X12_init_97 : 0 < gR q_X12_init_64 999 0 0 := by decide +kernel
def q_X12_init_65 : Mem := sI q_X12_init_64 0 0 37 0
theorem zl_X12_init_65 : Zl q_X12_init_65 := zl_X12_init_64.i
theorem zi_X12_init_65 : Zi q_X12_init_65 := zi_X12_init_64.i
theorem h_X12_init_98 : 0 < gR q_X12_init_65 999 0 0 := by decide +kernel
def q_X12_init_66 : Mem := sI q_X12_init_65 0 0 38 0
theorem zl_X12_init_66 : Zl q_X12_init_66 := zl_X12_init_65.i
theorem zi_X12_init_66 : Zi q_X12_init_66 := zi_X12_init_65.i
theorem h_X12_init_99 : 0 < gR q_X12_init_66 999 0 0 := by decide +kernel
def q_X12_init_67 : Mem := sI q_X12_init_66 0 0 39 0
theorem zl_X12_init_67 : Zl q_X12_init_67 := zl_X12_init_66.i
theorem zi_X12_init_67 : Zi q_X12_init_67 := zi_X12_init_66.i
def q_X12_init_68 : Mem := sN q_X12_init_67 28
theorem zl_X12_init_68 : Zl q_X12_init_68 := zl_X12_init_67.n
theorem zi_X12_init_68 : Zi q_X12_init_68 := zi_X12_init_67.n
theorem b_X12_init_68 : 0 = gR q_X12_init_67 999 28 0 := by decide +kernel
theorem a_X12_init_68 : gR q_X12_init_67 997 28 0 = gR q_X12_init_67 998 0 0 := by decide +kernel
theorem h_X12_init_100 : 0 < gR q_X12_init_68 999 0 0 := by decide +kernel
def q_X12_init_69 : Mem := sR q_X12_init_68 0 0 40 (0 + 1)
theorem zl_X12_init_69 : Zl q_X12_init_69 := zl_X12_init_68.r
theorem zi_X12_init_69 : Zi q_X12_init_69 := zi_X12_init_68.r
def q_X12_init_70 : Mem := sN q_X12_init_69 29
theorem zl_X12_init_70 : Zl q_X12_init_70 := zl_X12_init_69.n
theorem zi_X12_init_70 : Zi q_X12_init_70 := zi_X12_init_69.n
theorem b_X12_init_70 : 0 = gR q_X12_init_69 999 29 0 := by decide +kernel
theorem a_X12_init_70 : gR q_X12_init_69 997 29 0 = gR q_X12_init_69 998 0 0 := by decide +kernel
theorem h_X12_init_101 : 0 < gR q_X12_init_70 999 0 0 := by decide +kernel
def q_X12_init_71 : Mem := sR q_X12_init_70 0 0 41 (0 + 1)
theorem zl_X12_init_71 : Zl q_X12_init_71 := zl_X12_init_70.r
theorem zi_X12_init_71 : Zi q_X12_init_71 := zi_X12_init_70.r
def q_X12_init_72 : Mem := sN q_X12_init_71 30
theorem zl_X12_init_72 : Zl q_X12_init_72 := zl_X12_init_71.n
theorem zi_X12_init_72 : Zi q_X12_init_72 := zi_X12_init_71.n
theorem b_X12_init_72 : 0 = gR q_X12_init_71 999 30 0 := by decide +kernel
theorem a_X12_init_72 : gR q_X12_init_71 997 30 0 = gR q_X12_init_71 998 0 0 := by decide +kernel
theorem h_X12_init_102 : 0 < gR q_X12_init_72 999 0 0 := by decide +kernel
def q_X12_init_73 : Mem := sR q_X12_init_72 0 0 42 (0 + 1)
theorem zl_X12_init_73 : Zl q_X12_init_73 := zl_X12_init_72.r
theorem zi_X12_init_73 : Zi q_X12_init_73 := zi_X12_init_72.r
def q_X12_init_74 : Mem := sN q_X12_init_73 31
theorem zl_X12_init_74 : Zl q_X12_init_74 := zl_X12_init_73.n
theorem zi_X12_init_74 : Zi q_X12_init_74 := zi_X12_init_73.n
theorem b_X12_init_74 : 0 = gR q_X12_init_73 999 31 0 := by decide +kernel
theorem a_X12_init_74 : gR q_X12_init_73 997 31 0 = gR q_X12_init_73 998 0 0 := by decide +kernel
theorem h_X12_init_103 : 0 < gR q_X12_init_74 999 0 0 := by decide +kernel
def q_X12_init_75 : Mem := sR q_X12_init_74 0 0 43 (0 + 1)
theorem zl_X12_init_75 : Zl q_X12_init_75 := zl_X12_init_74.r
theorem zi_X12_init_75 : Zi q_X12_init_75 := zi_X12_init_74.r
theorem h_X12_init_104 : 0 < gR q_X12_init_75 999 0 0 := by decide +kernel
def q_X12_init_76 : Mem := sI q_X12_init_75 0 0 44 0
theorem zl_X12_init_76 : Zl q_X12_init_76 := zl_X12_init_75.i
theorem zi_X12_init_76 : Zi q_X12_init_76 := zi_X12_init_75.i
def q_X12_init_77 : Mem := sN q_X12_init_76 32
theorem zl_X12_init_77 : Zl q_X12_init_77 := zl_X12_init_76.n
theorem zi_X12_init_77 : Zi q_X12_init_77 := zi_X12_init_76.n
theorem b_X12_init_77 : 0 = gR q_X12_init_76 999 32 0 := by decide +kernel
theorem a_X12_init_77 : gR q_X12_init_76 997 32 0 = gR q_X12_init_76 998 0 0 := by decide +kernel
theorem h_X12_init_105 : 0 < gR q_X12_init_77 999 0 0 := by decide +kernel
def q_X12_init_78 : Mem := sR q_X12_init_77 0 0 45 (0 + 1)
theorem zl_X12_init_78 : Zl q_X12_init_78 := zl_X12_init_77.r
theorem zi_X12_init_78 : Zi q_X12_init_78 := zi_X12_init_77.r
def q_X12_init_79 : Mem := sN q_X12_init_78 33
theorem zl_X12_init_79 : Zl q_X12_init_79 := zl_X12_init_78.n
theorem zi_X12_init_79 : Zi q_X12_init_79 := zi_X12_init_78.n
theorem b_X12_init_79 : 0 = gR q_X12_init_78 999 33 0 := by decide +kernel
theorem a_X12_init_79 : gR q_X12_init_78 997 33 0 = gR q_X12_init_78 998 0 0 := by decide +kernel
theorem h_X12_init_106 : 0 < gR q_X12_init_79 999 0 0 := by decide +kernel
def q_X12_init_80 : Mem := sR q_X12_init_79 0 0 46 (0 + 1)
theorem zl_X12_init_80 : Zl q_X12_init_80 := zl_X12_init_79.r
theorem zi_X12_init_80 : Zi q_X12_init_80 := zi_X12_init_79.r
def q_X12_init_81 : Mem := sN q_X12_init_80 34
theorem zl_X12_init_81 : Zl q_X12_init_81 := zl_X12_init_80.n
theorem zi_X12_init_81 : Zi q_X12_init_81 := zi_X12_init_80.n
theorem b_X12_init_81 : 0 = gR q_X12_init_80 999 34 0 := by decide +kernel
theorem a_X12_init_81 : gR q_X12_init_80 997 34 0 = gR q_X12_init_80 998 0 0 := by decide +kernel
theorem h_X12_init_107 : 0 < gR q_X12_init_81 999 0 0 := by decide +kernel
def q_X12_init_82 : Mem := sR q_X12_init_81 0 0 47 (0 + 1)
theorem zl_X12_init_82 : Zl q_X12_init_82 := zl_X12_init_81.r
theorem zi_X12_init_82 : Zi q_X12_init_82 := zi_X12_init_81.r
def q_X12_init_83 : Mem := sN q_X12_init_82 35
theorem zl_X12_init_83 : Zl q_X12_init_83 := zl_X12_init_82.n
theorem zi_X12_init_83 : Zi q_X12_init_83 := zi_X12_init_82.n
theorem b_X12_init_83 : 0 = gR q_X12_init_82 999 35 0 := by decide +kernel
theorem a_X12_init_83 : gR q_X12_init_82 997 35 0 = gR q_X12_init_82 998 0 0 := by decide +kernel
theorem h_X12_init_108 : 0 < gR q_X12_init_83 999 35 0 := by decide +kernel
def q_X12_init_84 : Mem := sI q_X12_init_83 35 0 0 (-1)
theorem zl_X12_init_84 : Zl q_X12_init_84 := zl_X12_init_83.i
theorem h_X12_init_109 : 0 < gR q_X12_init_84 999 35 0 := by decide +kernel
def q_X12_init_85 : Mem := sI q_X12_init_84 35 0 1 (-1)
theorem zl_X12_init_85 : Zl q_X12_init_85 := zl_X12_init_84.i
theorem h_X12_init_110 : 0 < gR q_X12_init_85 999 35 0 := by decide +kernel
def q_X12_init_86 : Mem := sI q_X12_init_85 35 0 2 (-1)
theorem zl_X12_init_86 : Zl q_X12_init_86 := zl_X12_init_85.i
theorem h_X12_init_111 : 0 < gR q_X12_init_86 999 35 0 := by decide +kernel
def q_X12_init_87 : Mem := sI q_X12_init_86 35 0 3 (-1)
theorem zl_X12_init_87 : Zl q_X12_init_87 := zl_X12_init_86.i
theorem h_X12_init_112 : 0 < gR q_X12_init_87 999 35 0 := by decide +kernel
def q_X12_init_88 : Mem := sI q_X12_init_87 35 0 4 (-1)
theorem zl_X12_init_88 : Zl q_X12_init_88 := zl_X12_init_87.i
theorem h_X12_init_113 : 0 < gR q_X12_init_88 999 35 0 := by decide +kernel
def q_X12_init_89 : Mem := sI q_X12_init_88 35 0 5 (-1)
theorem zl_X12_init_89 : Zl q_X12_init_89 := zl_X12_init_88.i
theorem h_X12_init_114 : 0 < gR q_X12_init_89 999 35 0 := by decide +kernel
def q_X12_init_90 : Mem := sI q_X12_init_89 35 0 6 (-1)
theorem zl_X12_init_90 : Zl q_X12_init_90 := zl_X12_init_89.i
theorem h_X12_init_115 : 0 < gR q_X12_init_90 999 35 0 := by decide +kernel
def q_X12_init_91 : Mem := sI q_X12_init_90 35 0 7 (-1)
theorem zl_X12_init_91 : Zl q_X12_init_91 := zl_X12_init_90.i
theorem h_X12_init_116 : 0 < gR q_X12_init_91 999 35 0 := by decide +kernel
def q_X12_init_92 : Mem := sI q_X12_init_91 35 0 8 (-1)
theorem zl_X12_init_92 : Zl q_X12_init_92 := zl_X12_init_91.i
theorem h_X12_init_117 : 0 < gR q_X12_init_92 999 35 0 := by decide +kernel
def q_X12_init_93 : Mem := sI q_X12_init_92 35 0 9 (-1)
theorem zl_X12_init_93 : Zl q_X12_init_93 := zl_X12_init_92.i
theorem h_X12_init_118 : 0 < gR q_X12_init_93 999 0 0 := by decide +kernel
def q_X12_init_94 : Mem := sR q_X12_init_93 0 0 48 (0 + 1)
theorem zl_X12_init_94 : Zl q_X12_init_94 := zl_X12_init_93.r
def q_X12_init_95 : Mem := sN q_X12_init_94 36
theorem zl_X12_init_95 : Zl q_X12_init_95 := zl_X12_init_94.n
theorem b_X12_init_95 : 0 = gR q_X12_init_94 999 36 0 := by decide +kernel
theorem a_X12_init_95 : gR q_X12_init_94 997 36 0 = gR q_X12_init_94 998 0 0 := by decide +kernel
theorem h_X12_init_119 : 0 < gR q_X12_init_95 999 0 0 := by decide +kernel
def q_X12_init_96 : Mem := sR q_X12_init_95 0 0 49 (0 + 1)
theorem zl_X12_init_96 : Zl q_X12_init_96 := zl_X12_init_95.r
def q_X12_init_97 : Mem := sN q_X12_init_96 37
theorem zl_X12_init_97 : Zl q_X12_init_97 := zl_X12_init_96.n
theorem b_X12_init_97 : 0 = gR q_X12_init_96 999 37 0 := by decide +kernel
theorem a_X12_init_97 : gR q_X12_init_96 997 37 0 = gR q_X12_init_96 998 0 0 := by decide +kernel
theorem h_X12_init_120 : 0 < gR q_X12_init_97 999 0 0 := by decide +kernel
def q_X12_init_98 : Mem := sR q_X12_init_97 0 0 50 (0 + 1)
theorem zl_X12_init_98 : Zl q_X12_init_98 := zl_X12_init_97.r
theorem h_X12_init_121 : 0 < gR q_X12_init_98 999 0 0 := by decide +kernel
def q_X12_init_99 : Mem := sI q_X12_init_98 0 0 51 0
theorem zl_X12_init_99 : Zl q_X12_init_99 := zl_X12_init_98.i
theorem h_X12_init_122 : 0 < gR q_X12_init_99 999 0 0 := by decide +kernel
def q_X12_init_100 : Mem := sI q_X12_init_99 0 0 52 0
theorem zl_X12_init_100 : Zl q_X12_init_100 := zl_X12_init_99.i
def q_X12_init_101 : Mem := sN q_X12_init_100 38
theorem zl_X12_init_101 : Zl q_X12_init_101 := zl_X12_init_100.n
theorem b_X12_init_101 : 0 = gR q_X12_init_100 999 38 0 := by decide +kernel
theorem a_X12_init_101 : gR q_X12_init_100 997 38 0 = gR q_X12_init_100 998 0 0 := by decide +kernel
theorem h_X12_init_123 : 0 < gR q_X12_init_101 999 0 0 := by decide +kernel
def q_X12_init_102 : Mem := sR q_X12_init_101 0 0 53 (0 + 1)
theorem zl_X12_init_102 : Zl q_X12_init_102 := zl_X12_init_101.r
def q_X12_init_103 : Mem := sN q_X12_init_102 39
theorem zl_X12_init_103 : Zl q_X12_init_103 := zl_X12_init_102.n
theorem b_X12_init_103 : 0 = gR q_X12_init_102 999 39 0 := by decide +kernel
theorem a_X12_init_103 : gR q_X12_init_102 997 39 0 = gR q_X12_init_102 998 0 0 := by decide +kernel
theorem h_X12_init_124 : 0 < gR q_X12_init_103 999 0 0 := by decide +kernel
def q_X12_init_104 : Mem := sR q_X12_init_103 0 0 54 (0 + 1)
theorem zl_X12_init_104 : Zl q_X12_init_104 := zl_X12_init_103.r
def q_X12_init_105 : Mem := sN q_X12_init_104 40
theorem zl_X12_init_105 : Zl q_X12_init_105 := zl_X12_init_104.n
theorem b_X12_init_105 : 0 = gR q_X12_init_104 999 40 0 := by decide +kernel
theorem a_X12_init_105 : gR q_X12_init_104 997 40 0 = gR q_X12_init_104 998 0 0 := by decide +kernel
theorem h_X12_init_125 : 0 < gR q_X12_init_105 999 0 0 := by decide +kernel
def q_X12_init_106 : Mem := sR q_X12_init_105 0 0 55 (0 + 1)
theorem zl_X12_init_106 : Zl q_X12_init_106 := zl_X12_init_105.r
def q_X12_init_107 : Mem := sN q_X12_init_106 41
theorem zl_X12_init_107 : Zl q_X12_init_107 := zl_X12_init_106.n
theorem b_X12_init_107 : 0 = gR q_X12_init_106 999 41 0 := by decide +kernel
theorem a_X12_init_107 : gR q_X12_init_106 997 41 0 = gR q_X12_init_106 998 0 0 := by decide +kernel
theorem h_X12_init_126 : 0 < gR q_X12_init_107 999 0 0 := by decide +kernel
def q_X12_init_108 : Mem := sR q_X12_init_107 0 0 56 (0 + 1)
theorem zl_X12_init_108 : Zl q_X12_init_108 := zl_X12_init_107.r
def q_X12_init_109 : Mem := sN q_X12_init_108 42
theorem zl_X12_init_109 : Zl q_X12_init_109 := zl_X12_init_108.n
theorem b_X12_init_109 : 0 = gR q_X12_init_108 999 42 0 := by decide +kernel
theorem a_X12_init_109 : gR q_X12_init_108 997 42 0 = gR q_X12_init_108 998 0 0 := by decide +kernel
theorem h_X12_init_127 : 0 < gR q_X12_init_109 999 0 0 := by decide +kernel
def q_X12_init_110 : Mem := sR q_X12_init_109 0 0 57 (0 + 1)
theorem zl_X12_init_110 : Zl q_X12_init_110 := zl_X12_init_109.r
def q_X12_init_111 : Mem := sN q_X12_init_110 43
theorem zl_X12_init_111 : Zl q_X12_init_111 := zl_X12_init_110.n
theorem b_X12_init_111 : 0 = gR q_X12_init_110 999 43 0 := by decide +kernel
theorem a_X12_init_111 : gR q_X12_init_110 997 43 0 = gR q_X12_init_110 998 0 0 := by decide +kernel
theorem h_X12_init_128 : 0 < gR q_X12_init_111 999 0 0 := by decide +kernel
def q_X12_init_112 : Mem := sR q_X12_init_111 0 0 58 (0 + 1)
theorem zl_X12_init_112 : Zl q_X12_init_112 := zl_X12_init_111.r
def q_X12_init_113 : Mem := sN q_X12_init_112 44
theorem zl_X12_init_113 : Zl q_X12_init_113 := zl_X12_init_112.n
theorem b_X12_init_113 : 0 = gR q_X12_init_112 999 44 0 := by decide +kernel
theorem a_X12_init_113 : gR q_X12_init_112 997 44 0 = gR q_X12_init_112 998 0 0 := by decide +kernel
theorem h_X12_init_129 : 0 < gR q_X12_init_113 999 0 0 := by decide +kernel
def q_X12_init_114 : Mem := sR q_X12_init_113 0 0 59 (0 + 1)
theorem zl_X12_init_114 : Zl q_X12_init_114 := zl_X12_init_113.r
def q_X12_init_115 : Mem := sN q_X12_init_114 45
theorem zl_X12_init_115 : Zl q_X12_init_115 := zl_X12_init_114.n
theorem b_X12_init_115 : 0 = gR q_X12_init_114 999 45 0 := by decide +kernel
theorem a_X12_init_115 : gR q_X12_init_114 997 45 0 = gR q_X12_init_114 998 0 0 := by decide +kernel
theorem h_X12_init_130 : 0 < gR q_X12_init_115 999 0 0 := by decide +kernel
def q_X12_init_116 : Mem := sR q_X12_init_115 0 0 60 (0 + 1)
theorem zl_X12_init_116 : Zl q_X12_init_116 := zl_X12_init_115.r
def q_X12_init_117 : Mem := sN q_X12_init_116 46
theorem zl_X12_init_117 : Zl q_X12_init_117 := zl_X12_init_116.n
theorem b_X12_init_117 : 0 = gR q_X12_init_116 999 46 0 := by decide +kernel
theorem a_X12_init_117 : gR q_X12_init_116 997 46 0 = gR q_X12_init_116 998 0 0 := by decide +kernel
theorem h_X12_init_131 : 0 < gR q_X12_init_117 999 0 0 := by decide +kernel
def q_X12_init_118 : Mem := sR q_X12_init_117 0 0 61 (0 + 1)
theorem zl_X12_init_118 : Zl q_X12_init_118 := zl_X12_init_117.r
def q_X12_init_119 : Mem := sN q_X12_init_118 47
theorem zl_X12_init_119 : Zl q_X12_init_119 := zl_X12_init_118.n
theorem b_X12_init_119 : 0 = gR q_X12_init_118 999 47 0 := by decide +kernel
theorem a_X12_init_119 : gR q_X12_init_118 997 47 0 = gR q_X12_init_118 998 0 0 := by decide +kernel
theorem h_X12_init_132 : 0 < gR q_X12_init_119 999 47 0 := by decide +kernel
def q_X12_init_120 : Mem := sI q_X12_init_119 47 0 0 (-1)
theorem zl_X12_init_120 : Zl q_X12_init_120 := zl_X12_init_119.i
theorem h_X12_init_133 : 0 < gR q_X12_init_120 999 47 0 := by decide +kernel
def q_X12_init_121 : Mem := sI q_X12_init_120 47 0 1 (-1)
theorem zl_X12_init_121 : Zl q_X12_init_121 := zl_X12_init_120.i
theorem h_X12_init_134 : 0 < gR q_X12_init_121 999 47 0 := by decide +kernel
def q_X12_init_122 : Mem := sI q_X12_init_121 47 0 2 (-1)
theorem zl_X12_init_122 : Zl q_X12_init_122 := zl_X12_init_121.i
theorem h_X12_init_135 : 0 < gR q_X12_init_122 999 47 0 := by decide +kernel
def q_X12_init_123 : Mem := sI q_X12_init_122 47 0 3 (-1)
theorem zl_X12_init_123 : Zl q_X12_init_123 := zl_X12_init_122.i
theorem h_X12_init_136 : 0 < gR q_X12_init_123 999 47 0 := by decide +kernel
def q_X12_init_124 : Mem := sI q_X12_init_123 47 0 4 (-1)
theorem zl_X12_init_124 : Zl q_X12_init_124 := zl_X12_init_123.i
theorem h_X12_init_137 : 0 < gR q_X12_init_124 999 47 0 := by decide +kernel
def q_X12_init_125 : Mem := sI q_X12_init_124 47 0 5 (-1)
theorem zl_X12_init_125 : Zl q_X12_init_125 := zl_X12_init_124.i
theorem h_X12_init_138 : 0 < gR q_X12_init_125 999 47 0 := by decide +kernel
def q_X12_init_126 : Mem := sI q_X12_init_125 47 0 6 (-1)
theorem zl_X12_init_126 : Zl q_X12_init_126 := zl_X12_init_125.i
theorem h_X12_init_139 : 0 < gR q_X12_init_126 999 47 0 := by decide +kernel
def q_X12_init_127 : Mem := sI q_X12_init_126 47 0 7 (-1)
theorem zl_X12_init_127 : Zl q_X12_init_127 := zl_X12_init_126.i
theorem h_X12_init_140 : 0 < gR q_X12_init_127 999 0 0 := by decide +kernel
def q_X12_init_128 : Mem := sR q_X12_init_127 0 0 62 (0 + 1)
theorem zl_X12_init_128 : Zl q_X12_init_128 := zl_X12_init_127.r
def q_X12_init_129 : Mem := sN q_X12_init_128 48
theorem zl_X12_init_129 : Zl q_X12_init_129 := zl_X12_init_128.n
theorem b_X12_init_129 : 0 = gR q_X12_init_128 999 48 0 := by decide +kernel
theorem a_X12_init_129 : gR q_X12_init_128 997 48 0 = gR q_X12_init_128 998 0 0 := by decide +kernel
theorem h_X12_init_141 : 0 < gR q_X12_init_129 999 0 0 := by decide +kernel
def q_X12_init_130 : Mem := sR q_X12_init_129 0 0 63 (0 + 1)
theorem zl_X12_init_130 : Zl q_X12_init_130 := zl_X12_init_129.r
def q_X12_init_131 : Mem := sN q_X12_init_130 49
theorem zl_X12_init_131 : Zl q_X12_init_131 := zl_X12_init_130.n
theorem b_X12_init_131 : 0 = gR q_X12_init_130 999 49 0 := by decide +kernel
theorem a_X12_init_131 : gR q_X12_init_130 997 49 0 = gR q_X12_init_130 998 0 0 := by decide +kernel
theorem h_X12_init_142 : 0 < gR q_X12_init_131 999 0 0 := by decide +kernel
def q_X12_init_132 : Mem := sR q_X12_init_131 0 0 64 (0 + 1)
theorem zl_X12_init_132 : Zl q_X12_init_132 := zl_X12_init_131.r
def q_X12_init_133 : Mem := sN q_X12_init_132 50
theorem zl_X12_init_133 : Zl q_X12_init_133 := zl_X12_init_132.n
theorem b_X12_init_133 : 0 = gR q_X12_init_132 999 50 0 := by decide +kernel
theorem a_X12_init_133 : gR q_X12_init_132 997 50 0 = gR q_X12_init_132 998 0 0 := by decide +kernel
theorem h_X12_init_143 : 0 < gR q_X12_init_133 999 0 0 := by decide +kernel
def q_X12_init_134 : Mem := sR q_X12_init_133 0 0 65 (0 + 1)
theorem zl_X12_init_134 : Zl q_X12_init_134 := zl_X12_init_133.r
theorem h_X12_init_144 : 0 < gR q_X12_init_134 999 0 0 := by decide +kernel
def q_X12_init_135 : Mem := sI q_X12_init_134 0 0 66 0
theorem zl_X12_init_135 : Zl q_X12_init_135 := zl_X12_init_134.i
def q_X12_init_136 : Mem := sN q_X12_init_135 51
theorem zl_X12_init_136 : Zl q_X12_init_136 := zl_X12_init_135.n
theorem b_X12_init_136 : 0 = gR q_X12_init_135 999 51 0 := by decide +kernel
theorem a_X12_init_136 : gR q_X12_init_135 997 51 0 = gR q_X12_init_135 998 0 0 := by decide +kernel
theorem h_X12_init_145 : 0 < gR q_X12_init_136 999 0 0 := by decide +kernel
def q_X12_init_137 : Mem := sR q_X12_init_136 0 0 67 (0 + 1)
theorem zl_X12_init_137 : Zl q_X12_init_137 := zl_X12_init_136.r
def q_X12_init_138 : Mem := sN q_X12_init_137 52
theorem zl_X12_init_138 : Zl q_X12_init_138 := zl_X12_init_137.n
theorem b_X12_init_138 : 0 = gR q_X12_init_137 999 52 0 := by decide +kernel
theorem a_X12_init_138 : gR q_X12_init_137 997 52 0 = gR q_X12_init_137 998 0 0 := by decide +kernel
theorem h_X12_init_146 : 0 < gR q_X12_init_138 999 52 0 := by decide +kernel
def q_X12_init_139 : Mem := sI q_X12_init_138 52 0 0 (-1)
theorem zl_X12_init_139 : Zl q_X12_init_139 := zl_X12_init_138.i
theorem h_X12_init_147 : 0 < gR q_X12_init_139 999 52 0 := by decide +kernel
def q_X12_init_140 : Mem := sI q_X12_init_139 52 0 1 (-1)
theorem zl_X12_init_140 : Zl q_X12_init_140 := zl_X12_init_139.i
theorem h_X12_init_148 : 0 < gR q_X12_init_140 999 52 0 := by decide +kernel
def q_X12_init_141 : Mem := sI q_X12_init_140 52 0 2 (-1)
theorem zl_X12_init_141 : Zl q_X12_init_141 := zl_X12_init_140.i
theorem h_X12_init_149 : 0 < gR q_X12_init_141 999 52 0 := by decide +kernel
def q_X12_init_142 : Mem := sI q_X12_init_141 52 0 3 (-1)
theorem zl_X12_init_142 : Zl q_X12_init_142 := zl_X12_init_141.i
theorem h_X12_init_150 : 0 < gR q_X12_init_142 999 52 0 := by decide +kernel
def q_X12_init_143 : Mem := sI q_X12_init_142 52 0 4 (-1)
theorem zl_X12_init_143 : Zl q_X12_init_143 := zl_X12_init_142.i
theorem h_X12_init_151 : 0 < gR q_X12_init_143 999 52 0 := by decide +kernel
def q_X12_init_144 : Mem := sI q_X12_init_143 52 0 5 (-1)
theorem zl_X12_init_144 : Zl q_X12_init_144 := zl_X12_init_143.i
theorem h_X12_init_152 : 0 < gR q_X12_init_144 999 0 0 := by decide +kernel
def q_X12_init_145 : Mem := sR q_X12_init_144 0 0 68 (0 + 1)
theorem zl_X12_init_145 : Zl q_X12_init_145 := zl_X12_init_144.r
def q_X12_init_146 : Mem := sN q_X12_init_145 53
theorem zl_X12_init_146 : Zl q_X12_init_146 := zl_X12_init_145.n
theorem b_X12_init_146 : 0 = gR q_X12_init_145 999 53 0 := by decide +kernel
theorem a_X12_init_146 : gR q_X12_init_145 997 53 0 = gR q_X12_init_145 998 0 0 := by decide +kernel
theorem h_X12_init_153 : 0 < gR q_X12_init_146 999 0 0 := by decide +kernel
def q_X12_init_147 : Mem := sR q_X12_init_146 0 0 69 (0 + 1)
theorem zl_X12_init_147 : Zl q_X12_init_147 := zl_X12_init_146.r
def q_X12_init_148 : Mem := sN q_X12_init_147 54
theorem zl_X12_init_148 : Zl q_X12_init_148 := zl_X12_init_147.n
theorem b_X12_init_148 : 0 = gR q_X12_init_147 999 54 0 := by decide +kernel
theorem a_X12_init_148 : gR q_X12_init_147 997 54 0 = gR q_X12_init_147 998 0 0 := by decide +kernel
theorem h_X12_init_154 : 0 < gR q_X12_init_148 999 0 0 := by decide +kernel
def q_X12_init_149 : Mem := sR q_X12_init_148 0 0 70 (0 + 1)
theorem zl_X12_init_149 : Zl q_X12_init_149 := zl_X12_init_148.r
def q_X12_init_150 : Mem := sN q_X12_init_149 55
theorem zl_X12_init_150 : Zl q_X12_init_150 := zl_X12_init_149.n
theorem b_X12_init_150 : 0 = gR q_X12_init_149 999 55 0 := by decide +kernel
theorem a_X12_init_150 : gR q_X12_init_149 997 55 0 = gR q_X12_init_149 998 0 0 := by decide +kernel
theorem h_X12_init_155 : 0 < gR q_X12_init_150 999 0 0 := by decide +kernel
def q_X12_init_151 : Mem := sR q_X12_init_150 0 0 71 (0 + 1)
theorem zl_X12_init_151 : Zl q_X12_init_151 := zl_X12_init_150.r
def q_St (j : Nat) : Mem := (fun r x k => if r = 14 ∧ x = 0 ∧ k < j then -1 else gI q_X12_init_151 r x k, q_X12_init_151.2.1, q_X12_init_151.2.2)
theorem u_St {j : Nat} : ∀ r x k, gI (q_St j) r x k = if r = 14 ∧ x = 0 ∧ k < j then -1 else gI q_X12_init_151 r x k := fun _ _ _ => rfl
theorem zl_St {j : Nat} : Zl (q_St j) := zl_X12_init_151
theorem St_0 : q_St 0 = q_X12_init_151 := Prod.ext (funext fun r => funext fun x => funext fun k => by
  show gI (q_St 0) r x k = gI q_X12_init_151 r x k
  rw [u_St, if_neg (by omega)]) rfl
set_option maxRecDepth 100000 in
theorem h_X12_638_156 {j : Nat} : 0 < gR (q_St j) 999 0 0 := (show 0 < 1 from Nat.zero_lt_one)
set_option maxRecDepth 100000 in
theorem g_X12_init_157 {j : Nat} : gR (q_St j) 0 0 16 = 1 := rfl
set_option maxRecDepth 100000 in
theorem h_X12_638_158 {j : Nat} : 0 < gR (q_St j) 999 14 0 := (show 0 < 1 from Nat.zero_lt_one)
def q_X12_638_1 (j : Nat) : Mem := sI (q_St j) 14 0 j (-1)
theorem zl_X12_638_1 {j : Nat} : Zl (q_X12_638_1 j) := zl_St.i
theorem v_X12_638_1 {j : Nat} : ∀ r x k, gR (q_X12_638_1 j) r x k = gR (q_St j) r x k := fun _ _ _ => rfl
theorem u_X12_638_1 {j : Nat} : ∀ r x k, gI (q_X12_638_1 j) r x k = if r = 14 ∧ x = 0 ∧ k = j then (-1) else gI (q_St j) r x k := fun _ _ _ => rfl
theorem St_s {j : Nat} (hj : j < 150) : (q_X12_638_1 j) = q_St (j + 1) := by
  refine Prod.ext (funext fun r => funext fun x => funext fun k => ?_) rfl
  show gI (q_X12_638_1 j) r x k = gI (q_St (j + 1)) r x k
  simp only [u_X12_638_1, u_St]
  generalize gI q_X12_init_151 r x k = g
  repeat' (first | (refine iteL (fun _ => ?_) (fun _ => ?_)) | (refine iteR (fun _ => ?_) (fun _ => ?_)))
  all_goals first | rfl | (exfalso; omega)
def q_Mf (j : Nat) : Mem := (fun r x k => if r = 3 ∧ x = 0 ∧ k < j then 7 else if r = 4 ∧ x = 0 ∧ k < j then 14 else gI (q_St 150) r x k, (q_St 150).2.1, (q_St 150).2.2)
theorem u_Mf {j : Nat} : ∀ r x k, gI (q_Mf j) r x k = if r = 3 ∧ x = 0 ∧ k < j then 7 else if r = 4 ∧ x = 0 ∧ k < j then 14 else gI (q_St 150) r x k := fun _ _ _ => rfl
theorem zl_Mf {j : Nat} : Zl (q_Mf j) := zl_St (j := 150)
theorem Mf_0 : q_Mf 0 = (q_St 150) := Prod.ext (funext fun r => funext fun x => funext fun k => by
  show gI (q_Mf 0) r x k = gI (q_St 150) r x k
  rw [u_Mf, if_neg (by omega), if_neg (by omega)]) rfl
set_option maxRecDepth 100000 in
theorem h_X12_660_159 {j : Nat} : 0 < gR (q_Mf j) 999 0 0 := (show 0 < 1 from Nat.zero_lt_one)
set_option maxRecDepth 100000 in
theorem g_X12_init_160 {j : Nat} : gR (q_Mf j) 0 0 4 = 1 := rfl
set_option maxRecDepth 100000 in
theorem h_X12_660_161 {j : Nat} : 0 < gR (q_Mf j) 999 3 0 := (show 0 < 1 from Nat.zero_lt_one)
def q_X12_660_1 (j : Nat) : Mem := sI (q_Mf j) 3 0 j 7
theorem zl_X12_660_1 {j : Nat} : Zl (q_X12_660_1 j) := zl_Mf.i
theorem v_X12_660_1 {j : Nat} : ∀ r x k, gR (q_X12_660_1 j) r x k = gR (q_Mf j) r x k := fun _ _ _ => rfl
theorem u_X12_660_1 {j : Nat} : ∀ r x k, gI (q_X12_660_1 j) r x k = if r = 3 ∧ x = 0 ∧ k = j then 7 else gI (q_Mf j) r x k := fun _ _ _ => rfl
set_option maxRecDepth 100000 in
theorem h_X12_660_162 {j : Nat} : 0 < gR (q_X12_660_1 j) 999 0 0 := (show 0 < 1 from Nat.zero_lt_one)
set_option maxRecDepth 100000 in
theorem g_X12_init_163 {j : Nat} : gR (q_X12_660_1 j) 0 0 5 = 1 := rfl
set_option maxRecDepth 100000 in
theorem h_X12_660_164 {j : Nat} : 0 < gR (q_X12_660_1 j) 999 4 0 := (show 0 < 1 from Nat.zero_lt_one)
def q_X12_660_2 (j : Nat) : Mem := sI (q_X12_660_1 j) 4 0 j 14
theorem zl_X12_660_2 {j : Nat} : Zl (q_X12_660_2 j) := zl_X12_660_1.i
theorem v_X12_660_2 {j : Nat} : ∀ r x k, gR (q_X12_660_2 j) r x k = gR (q_X12_660_1 j) r x k := fun _ _ _ => rfl
theorem u_X12_660_2 {j : Nat} : ∀ r x k, gI (q_X12_660_2 j) r x k = if r = 4 ∧ x = 0 ∧ k = j then 14 else gI (q_X12_660_1 j) r x k := fun _ _ _ => rfl
theorem Mf_s {j : Nat} (hj : j < 8) : (q_X12_660_2 j) = q_Mf (j + 1) := by
  refine Prod.ext (funext fun r => funext fun x => funext fun k => ?_) rfl
  show gI (q_X12_660_2 j) r x k = gI (q_Mf (j + 1)) r x k
  simp only [u_X12_660_1, u_X12_660_2, u_Mf]
  generalize gI (q_St 150) r x k = g
  repeat' (first | (refine iteL (fun _ => ?_) (fun _ => ?_)) | (refine iteR (fun _ => ?_) (fun _ => ?_)))
  all_goals first | rfl | (exfalso; omega)
set_option maxRecDepth 100000 in
set_option maxHeartbeats 4000000 in
theorem w_X12_638 {p : Program} {l : Launch} {e : Env} {s : State} {m : MethodId} {args : Array Value} {below : List Frame} {meth : Method} {c : Code} {K : KG} {ad : Nat → Nat → Nat} {Q : State → Prop} (C : Cx p s m args meth c cX12_init 2 "GlassPalaceModel" none) (hR : 1 ≤ (RM (1) 55 3895).frames ∧ 40 * 1 ≤ (RM (1) 55 3895).locals) {cf sf : Nat} (hcf : cf ≤ 55) (hsf : sf ≤ 3895) (kx : ∀ (H : Heap) (locs : List Loc) (ls : Array Slot), Zd K LN ad (q_St 150) s H locs → lv_has ls 2 [(0, .ref (ad 0 0)), (1, .int (nI 150))] → W p l e (RM (1) 55 3895) s m args below meth c H locs cf sf Q (F0 m 658 ls [])) : ∀ (d j : Nat) (H : Heap) (locs : List Loc) (ls : Array Slot) (cells slots : Nat), j + d = 150 → cells + 0 * d ≤ cf → slots + 0 * d ≤ sf → Zd K LN ad (q_St j) s H locs → lv_has ls 2 [(0, .ref (ad 0 0)), (1, .int (nI j))] → W p l e (RM (1) 55 3895) s m args below meth c H locs cells slots Q (F0 m 638 ls []) := by
  intro d
  induction d with
  | zero =>
    intro j H locs ls cells slots hj hc hs Z hl
    have ej : j = 150 := by omega
    subst ej
    refine lv_iload_n C.x C.b dX12_init_638 rfl (lv_at hl 1 rfl) ?_
    refine lv_sipush (v := 150) C.x C.b dX12_init_639 (by decide) ?_
    refine lv_icmp_ge (tgt := 658) C.x C.b dX12_init_642 (by decide) (fun _ => ?_) (fun h => absurd (show (150 : Int32) ≤ nI 150 by decide) h)
    exact W.widen (k := cf) (n := sf) (by omega) (by omega) (kx H locs ls Z hl)
  | succ d ih =>
    intro j H locs ls cells slots hjd hc hs Z hl
    have hj : j < 150 := by omega
    refine lv_iload_n C.x C.b dX12_init_638 rfl (lv_at hl 1 rfl) ?_
    refine lv_sipush (v := 150) C.x C.b dX12_init_639 (by decide) ?_
    refine lv_icmp_ge (tgt := 658) C.x C.b dX12_init_642 (by decide) (fun h => absurd h (nI_ge (b := 150) hj (by decide))) (fun _ => ?_)
    refine lv_aload_n C.x C.b dX12_init_645 rfl (lv_at hl 0 rfl) ?_
    refine z_get (v := .ref (ad 14 0)) C Z (lc0L (by decide) h_X12_638_156) rfl zc12 zin12 16 (by decide) k_1192 rfl (by show rf (ad 14) (gR (q_St j) 0 0 16) = _; rw [g_X12_init_157]; rfl) dX12_init_646 ?_
    refine lv_iload_n C.x C.b dX12_init_649 rfl (lv_at hl 1 rfl) ?_
    refine lv_iconst (v := (-1)) C.x C.b dX12_init_650 (by decide) ?_
    refine z_iast (M1 := q_X12_638_1 j) C Z (lc0L (by decide) h_X12_638_158) (by decide) rfl (nI_in (by omega) (by decide)) (by rw [nI_clamp (by omega)]; rfl) rfl dX12_init_651 (fun H locs Z => ?_)
    rw [St_s hj] at Z
    refine z_iinc (v := nI (j + 1)) (lv' := [(1, .int (nI (j + 1))), (0, .ref (ad 0 0))]) C dX12_init_652 hl (k := 1) rfl (nI_1 j) (by decide) rfl (onlast 0 rfl rfl rfl) (fun ls hl => ?_)
    refine lv_goto (tgt := 638) C.x C.b dX12_init_655 (by decide) ?_
    exact ih (j + 1) _ _ _ _ _ (by omega) (by omega) (by omega) Z (lv_sub hl [1, 0] rfl)
set_option maxRecDepth 100000 in
set_option maxHeartbeats 4000000 in
theorem w_X12_660 {p : Program} {l : Launch} {e : Env} {s : State} {m : MethodId} {args : Array Value} {below : List Frame} {meth : Method} {c : Code} {K : KG} {ad : Nat → Nat → Nat} {Q : State → Prop} (C : Cx p s m args meth c cX12_init 2 "GlassPalaceModel" none) (hR : 1 ≤ (RM (1) 55 3895).frames ∧ 40 * 1 ≤ (RM (1) 55 3895).locals) {cf sf : Nat} (hcf : cf ≤ 55) (hsf : sf ≤ 3895) (kx : ∀ (H : Heap) (locs : List Loc) (ls : Array Slot), Zd K LN ad (q_Mf 8) s H locs → lv_has ls 2 [(0, .ref (ad 0 0)), (1, .int (nI 8))] → W p l e (RM (1) 55 3895) s m args below meth c H locs cf sf Q (F0 m 688 ls [])) : ∀ (d j : Nat) (H : Heap) (locs : List Loc) (ls : Array Slot) (cells slots : Nat), j + d = 8 → cells + 0 * d ≤ cf → slots + 0 * d ≤ sf → Zd K LN ad (q_Mf j) s H locs → lv_has ls 2 [(0, .ref (ad 0 0)), (1, .int (nI j))] → W p l e (RM (1) 55 3895) s m args below meth c H locs cells slots Q (F0 m 660 ls []) := by
  intro d
  induction d with
  | zero =>
    intro j H locs ls cells slots hj hc hs Z hl
    have ej : j = 8 := by omega
    subst ej
    refine lv_iload_n C.x C.b dX12_init_660 rfl (lv_at hl 1 rfl) ?_
    refine lv_bipush (v := 8) C.x C.b dX12_init_661 (by decide) ?_
    refine lv_icmp_ge (tgt := 688) C.x C.b dX12_init_663 (by decide) (fun _ => ?_) (fun h => absurd (show (8 : Int32) ≤ nI 8 by decide) h)
    exact W.widen (k := cf) (n := sf) (by omega) (by omega) (kx H locs ls Z hl)
  | succ d ih =>
    intro j H locs ls cells slots hjd hc hs Z hl
    have hj : j < 8 := by omega
    refine lv_iload_n C.x C.b dX12_init_660 rfl (lv_at hl 1 rfl) ?_
    refine lv_bipush (v := 8) C.x C.b dX12_init_661 (by decide) ?_
    refine lv_icmp_ge (tgt := 688) C.x C.b dX12_init_663 (by decide) (fun h => absurd h (nI_ge (b := 8) hj (by decide))) (fun _ => ?_)
    refine lv_aload_n C.x C.b dX12_init_666 rfl (lv_at hl 0 rfl) ?_
    refine z_get (v := .ref (ad 3 0)) C Z (lc0L (by decide) h_X12_660_159) rfl zc12 zin12 4 (by decide) k_1180 rfl (by show rf (ad 3) (gR (q_Mf j) 0 0 4) = _; rw [g_X12_init_160]; rfl) dX12_init_667 ?_
    refine lv_iload_n C.x C.b dX12_init_670 rfl (lv_at hl 1 rfl) ?_
    refine lv_bipush (v := 7) C.x C.b dX12_init_671 (by decide) ?_
    refine z_iast (M1 := q_X12_660_1 j) C Z (lc0L (by decide) h_X12_660_161) (by decide) rfl (nI_in (by omega) (by decide)) (by rw [nI_clamp (by omega)]; rfl) rfl dX12_init_673 (fun H locs Z => ?_)
    refine lv_aload_n C.x C.b dX12_init_674 rfl (lv_at hl 0 rfl) ?_
    refine z_get (v := .ref (ad 4 0)) C Z (lc0L (by decide) h_X12_660_162) rfl zc12 zin12 5 (by decide) k_1181 rfl (by show rf (ad 4) (gR (q_X12_660_1 j) 0 0 5) = _; rw [g_X12_init_163]; rfl) dX12_init_675 ?_
    refine lv_iload_n C.x C.b dX12_init_678 rfl (lv_at hl 1 rfl) ?_
    refine lv_bipush (v := 14) C.x C.b dX12_init_679 (by decide) ?_
    refine z_iast (M1 := q_X12_660_2 j) C Z (lc0L (by decide) h_X12_660_164) (by decide) rfl (nI_in (by omega) (by decide)) (by rw [nI_clamp (by omega)]; rfl) rfl dX12_init_681 (fun H locs Z => ?_)
    rw [Mf_s hj] at Z
    refine z_iinc (v := nI (j + 1)) (lv' := [(1, .int (nI (j + 1))), (0, .ref (ad 0 0))]) C dX12_init_682 hl (k := 1) rfl (nI_1 j) (by decide) rfl (onlast 0 rfl rfl rfl) (fun ls hl => ?_)
    refine lv_goto (tgt := 660) C.x C.b dX12_init_685 (by decide) ?_
    exact ih (j + 1) _ _ _ _ _ (by omega) (by omega) (by omega) Z (lv_sub hl [1, 0] rfl)
set_option maxRecDepth 100000 in
set_option maxHeartbeats 4000000 in
theorem c_X12_init {l : Launch} {K : KG} {ad : Nat → Nat → Nat} : Met l yX12_init (Cond.code yX12_init cX12_init 2 none :: ztb) (RM (1) 55 3895) (zPc K LN ad q_EM_1 [.ref (ad 0 0)]) (zQ K LN ad none (q_Mf 8)) 55 3895 (zA ad) := by
  refine z_enter (by decide) (Nat.le_of_ble_eq_true rfl) ?_
  intro p e s m args below meth c ls C hin hargs Z hl
  replace C : Cx p s m args meth c cX12_init 2 "GlassPalaceModel" none := C
  replace hl : lv_has ls 2 [(0, .ref (ad 0 0))] := hl
  have hR : 1 ≤ (RM (1) 55 3895).frames ∧ 40 * 1 ≤ (RM (1) 55 3895).locals := ⟨Nat.le_refl _, Nat.le_refl _⟩
  refine lv_aload_n C.x C.b dX12_init_0 rfl (lv_at hl 0 rfl) ?_
  refine z_obj C kk_1175 k_129 k_130 hl.1 hR (by decide) (Nat.le_of_ble_eq_true rfl) dX12_init_1 ?_
  refine lv_aload_n C.x C.b dX12_init_4 rfl (lv_at hl 0 rfl) ?_
  refine lv_iconst (v := 0) C.x C.b dX12_init_5 (by decide) ?_
  refine z_put (M1 := q_X12_init_1) C Z (lc0L (by decide) h_X12_init_60) (by decide) rfl zc12 zin12 tyX12_ok nmX12 0 (by decide) k_1176 rfl (zUp_I rfl rfl) (Or.inl rfl) rfl rfl dX12_init_6 (fun H locs Z => ?_)
  refine lv_aload_n C.x C.b dX12_init_9 rfl (lv_at hl 0 rfl) ?_
  refine lv_iconst (v := 0) C.x C.b dX12_init_10 (by decide) ?_
  refine z_put (M1 := q_X12_init_2) C Z (lc0L (by decide) h_X12_init_61) (by decide) rfl zc12 zin12 tyX12_ok nmX12 1 (by decide) k_1177 rfl (zUp_I rfl rfl) (Or.inl rfl) rfl rfl dX12_init_11 (fun H locs Z => ?_)
  refine lv_aload_n C.x C.b dX12_init_14 rfl (lv_at hl 0 rfl) ?_
  refine lv_bipush (v := 30) C.x C.b dX12_init_15 (by decide) ?_
  refine z_newa (atype := .int) (ty := .int) (i := 0) (N := 30) (r := 1) (b := 0) (M1 := q_X12_init_3) C Z rfl rfl rfl kk_155 (by decide) (b_X12_init_3) (a_X12_init_3) rfl (fun k => sv0_new (by decide) b_X12_init_3 rfl) (lc0B (by decide) b_X12_init_3) (lc0N (by decide) b_X12_init_3 rfl) (lc0O (by decide) rfl) (lc0H (by decide)) (by decide) (by decide) (Nat.le_of_ble_eq_true rfl) (Nat.le_of_ble_eq_true rfl) (Nat.le_of_ble_eq_true rfl) dX12_init_17 (fun H Z => ?_)
  refine z_put (M1 := q_X12_init_4) C Z (lc0L (by decide) h_X12_init_62) (by decide) rfl zc12 zin12 tyX12_ok nmX12 2 (by decide) k_1178 rfl (zUp_R (v := 0 + 1) (t := 1) rfl (by decide) rfl) (Or.inr ⟨hin rfl, rfl⟩) rfl rfl dX12_init_19 (fun H locs Z => ?_)
  refine lv_aload_n C.x C.b dX12_init_22 rfl (lv_at hl 0 rfl) ?_
  refine lv_bipush (v := 30) C.x C.b dX12_init_23 (by decide) ?_
  refine z_newa (atype := .int) (ty := .int) (i := 0) (N := 30) (r := 2) (b := 0) (M1 := q_X12_init_5) C Z rfl rfl rfl kk_155 (by decide) (b_X12_init_5) (a_X12_init_5) rfl (fun k => sv0_new (by decide) b_X12_init_5 rfl) (lc0B (by decide) b_X12_init_5) (lc0N (by decide) b_X12_init_5 rfl) (lc0O (by decide) rfl) (lc0H (by decide)) (by decide) (by decide) (Nat.le_of_ble_eq_true rfl) (Nat.le_of_ble_eq_true rfl) (Nat.le_of_ble_eq_true rfl) dX12_init_25 (fun H Z => ?_)
  refine z_put (M1 := q_X12_init_6) C Z (lc0L (by decide) h_X12_init_63) (by decide) rfl zc12 zin12 tyX12_ok nmX12 3 (by decide) k_1179 rfl (zUp_R (v := 0 + 1) (t := 2) rfl (by decide) rfl) (Or.inr ⟨hin rfl, rfl⟩) rfl rfl dX12_init_27 (fun H locs Z => ?_)
  refine lv_aload_n C.x C.b dX12_init_30 rfl (lv_at hl 0 rfl) ?_
  refine lv_bipush (v := 8) C.x C.b dX12_init_31 (by decide) ?_
  refine z_newa (atype := .int) (ty := .int) (i := 0) (N := 8) (r := 3) (b := 0) (M1 := q_X12_init_7) C Z rfl rfl rfl kk_155 (by decide) (b_X12_init_7) (a_X12_init_7) rfl (fun k => sv0_new (by decide) b_X12_init_7 rfl) (lc0B (by decide) b_X12_init_7) (lc0N (by decide) b_X12_init_7 rfl) (lc0O (by decide) rfl) (lc0H (by decide)) (by decide) (by decide) (Nat.le_of_ble_eq_true rfl) (Nat.le_of_ble_eq_true rfl) (Nat.le_of_ble_eq_true rfl) dX12_init_33 (fun H Z => ?_)
  refine z_put (M1 := q_X12_init_8) C Z (lc0L (by decide) h_X12_init_64) (by decide) rfl zc12 zin12 tyX12_ok nmX12 4 (by decide) k_1180 rfl (zUp_R (v := 0 + 1) (t := 3) rfl (by decide) rfl) (Or.inr ⟨hin rfl, rfl⟩) rfl rfl dX12_init_35 (fun H locs Z => ?_)
  refine lv_aload_n C.x C.b dX12_init_38 rfl (lv_at hl 0 rfl) ?_
  refine lv_bipush (v := 8) C.x C.b dX12_init_39 (by decide) ?_
  refine z_newa (atype := .int) (ty := .int) (i := 0) (N := 8) (r := 4) (b := 0) (M1 := q_X12_init_9) C Z rfl rfl rfl kk_155 (by decide) (b_X12_init_9) (a_X12_init_9) rfl (fun k => sv0_new (by decide) b_X12_init_9 rfl) (lc0B (by decide) b_X12_init_9) (lc0N (by decide) b_X12_init_9 rfl) (lc0O (by decide) rfl) (lc0H (by decide)) (by decide) (by decide) (Nat.le_of_ble_eq_true rfl) (Nat.le_of_ble_eq_true rfl) (Nat.le_of_ble_eq_true rfl) dX12_init_41 (fun H Z => ?_)
  refine z_put (M1 := q_X12_init_10) C Z (lc0L (by decide) h_X12_init_65) (by decide) rfl zc12 zin12 tyX12_ok nmX12 5 (by decide) k_1181 rfl (zUp_R (v := 0 + 1) (t := 4) rfl (by decide) rfl) (Or.inr ⟨hin rfl, rfl⟩) rfl rfl dX12_init_43 (fun H locs Z => ?_)
  refine lv_aload_n C.x C.b dX12_init_46 rfl (lv_at hl 0 rfl) ?_
  refine lv_bipush (v := 60) C.x C.b dX12_init_47 (by decide) ?_
  refine z_newa (atype := .int) (ty := .int) (i := 0) (N := 60) (r := 5) (b := 0) (M1 := q_X12_init_11) C Z rfl rfl rfl kk_155 (by decide) (b_X12_init_11) (a_X12_init_11) rfl (fun k => sv0_new (by decide) b_X12_init_11 rfl) (lc0B (by decide) b_X12_init_11) (lc0N (by decide) b_X12_init_11 rfl) (lc0O (by decide) rfl) (lc0H (by decide)) (by decide) (by decide) (Nat.le_of_ble_eq_true rfl) (Nat.le_of_ble_eq_true rfl) (Nat.le_of_ble_eq_true rfl) dX12_init_49 (fun H Z => ?_)
  refine z_put (M1 := q_X12_init_12) C Z (lc0L (by decide) h_X12_init_66) (by decide) rfl zc12 zin12 tyX12_ok nmX12 6 (by decide) k_1182 rfl (zUp_R (v := 0 + 1) (t := 5) rfl (by decide) rfl) (Or.inr ⟨hin rfl, rfl⟩) rfl rfl dX12_init_51 (fun H locs Z => ?_)
  refine lv_aload_n C.x C.b dX12_init_54 rfl (lv_at hl 0 rfl) ?_
  refine lv_bipush (v := 60) C.x C.b dX12_init_55 (by decide) ?_
  refine z_newa (atype := .int) (ty := .int) (i := 0) (N := 60) (r := 6) (b := 0) (M1 := q_X12_init_13) C Z rfl rfl rfl kk_155 (by decide) (b_X12_init_13) (a_X12_init_13) rfl (fun k => sv0_new (by decide) b_X12_init_13 rfl) (lc0B (by decide) b_X12_init_13) (lc0N (by decide) b_X12_init_13 rfl) (lc0O (by decide) rfl) (lc0H (by decide)) (by decide) (by decide) (Nat.le_of_ble_eq_true rfl) (Nat.le_of_ble_eq_true rfl) (Nat.le_of_ble_eq_true rfl) dX12_init_57 (fun H Z => ?_)
  refine z_put (M1 := q_X12_init_14) C Z (lc0L (by decide) h_X12_init_67) (by decide) rfl zc12 zin12 tyX12_ok nmX12 7 (by decide) k_1183 rfl (zUp_R (v := 0 + 1) (t := 6) rfl (by decide) rfl) (Or.inr ⟨hin rfl, rfl⟩) rfl rfl dX12_init_59 (fun H locs Z => ?_)
  refine lv_aload_n C.x C.b dX12_init_62 rfl (lv_at hl 0 rfl) ?_
  refine lv_bipush (v := 60) C.x C.b dX12_init_63 (by decide) ?_
  refine z_newa (atype := .int) (ty := .int) (i := 0) (N := 60) (r := 7) (b := 0) (M1 := q_X12_init_15) C Z rfl rfl rfl kk_155 (by decide) (b_X12_init_15) (a_X12_init_15) rfl (fun k => sv0_new (by decide) b_X12_init_15 rfl) (lc0B (by decide) b_X12_init_15) (lc0N (by decide) b_X12_init_15 rfl) (lc0O (by decide) rfl) (lc0H (by decide)) (by decide) (by decide) (Nat.le_of_ble_eq_true rfl) (Nat.le_of_ble_eq_true rfl) (Nat.le_of_ble_eq_true rfl) dX12_init_65 (fun H Z => ?_)
  refine z_put (M1 := q_X12_init_16) C Z (lc0L (by decide) h_X12_init_68) (by decide) rfl zc12 zin12 tyX12_ok nmX12 8 (by decide) k_1184 rfl (zUp_R (v := 0 + 1) (t := 7) rfl (by decide) rfl) (Or.inr ⟨hin rfl, rfl⟩) rfl rfl dX12_init_67 (fun H locs Z => ?_)
  refine lv_aload_n C.x C.b dX12_init_70 rfl (lv_at hl 0 rfl) ?_
  refine lv_bipush (v := 60) C.x C.b dX12_init_71 (by decide) ?_
  refine z_newa (atype := .int) (ty := .int) (i := 0) (N := 60) (r := 8) (b := 0) (M1 := q_X12_init_17) C Z rfl rfl rfl kk_155 (by decide) (b_X12_init_17) (a_X12_init_17) rfl (fun k => sv0_new (by decide) b_X12_init_17 rfl) (lc0B (by decide) b_X12_init_17) (lc0N (by decide) b_X12_init_17 rfl) (lc0O (by decide) rfl) (lc0H (by decide)) (by decide) (by decide) (Nat.le_of_ble_eq_true rfl) (Nat.le_of_ble_eq_true rfl) (Nat.le_of_ble_eq_true rfl) dX12_init_73 (fun H Z => ?_)
  refine z_put (M1 := q_X12_init_18) C Z (lc0L (by decide) h_X12_init_69) (by decide) rfl zc12 zin12 tyX12_ok nmX12 9 (by decide) k_1185 rfl (zUp_R (v := 0 + 1) (t := 8) rfl (by decide) rfl) (Or.inr ⟨hin rfl, rfl⟩) rfl rfl dX12_init_75 (fun H locs Z => ?_)
  refine lv_aload_n C.x C.b dX12_init_78 rfl (lv_at hl 0 rfl) ?_
  refine lv_bipush (v := 60) C.x C.b dX12_init_79 (by decide) ?_
  refine z_newa (atype := .int) (ty := .int) (i := 0) (N := 60) (r := 9) (b := 0) (M1 := q_X12_init_19) C Z rfl rfl rfl kk_155 (by decide) (b_X12_init_19) (a_X12_init_19) rfl (fun k => sv0_new (by decide) b_X12_init_19 rfl) (lc0B (by decide) b_X12_init_19) (lc0N (by decide) b_X12_init_19 rfl) (lc0O (by decide) rfl) (lc0H (by decide)) (by decide) (by decide) (Nat.le_of_ble_eq_true rfl) (Nat.le_of_ble_eq_true rfl) (Nat.le_of_ble_eq_true rfl) dX12_init_81 (fun H Z => ?_)
  refine z_put (M1 := q_X12_init_20) C Z (lc0L (by decide) h_X12_init_70) (by decide) rfl zc12 zin12 tyX12_ok nmX12 10 (by decide) k_1186 rfl (zUp_R (v := 0 + 1) (t := 9) rfl (by decide) rfl) (Or.inr ⟨hin rfl, rfl⟩) rfl rfl dX12_init_83 (fun H locs Z => ?_)
  refine lv_aload_n C.x C.b dX12_init_86 rfl (lv_at hl 0 rfl) ?_
  refine lv_bipush (v := 60) C.x C.b dX12_init_87 (by decide) ?_
  refine z_newa (atype := .int) (ty := .int) (i := 0) (N := 60) (r := 10) (b := 0) (M1 := q_X12_init_21) C Z rfl rfl rfl kk_155 (by decide) (b_X12_init_21) (a_X12_init_21) rfl (fun k => sv0_new (by decide) b_X12_init_21 rfl) (lc0B (by decide) b_X12_init_21) (lc0N (by decide) b_X12_init_21 rfl) (lc0O (by decide) rfl) (lc0H (by decide)) (by decide) (by decide) (Nat.le_of_ble_eq_true rfl) (Nat.le_of_ble_eq_true rfl) (Nat.le_of_ble_eq_true rfl) dX12_init_89 (fun H Z => ?_)
  refine z_put (M1 := q_X12_init_22) C Z (lc0L (by decide) h_X12_init_71) (by decide) rfl zc12 zin12 tyX12_ok nmX12 11 (by decide) k_1187 rfl (zUp_R (v := 0 + 1) (t := 10) rfl (by decide) rfl) (Or.inr ⟨hin rfl, rfl⟩) rfl rfl dX12_init_91 (fun H locs Z => ?_)
  refine lv_aload_n C.x C.b dX12_init_94 rfl (lv_at hl 0 rfl) ?_
  refine lv_bipush (v := 60) C.x C.b dX12_init_95 (by decide) ?_
  refine z_newa (atype := .int) (ty := .int) (i := 0) (N := 60) (r := 11) (b := 0) (M1 := q_X12_init_23) C Z rfl rfl rfl kk_155 (by decide) (b_X12_init_23) (a_X12_init_23) rfl (fun k => sv0_new (by decide) b_X12_init_23 rfl) (lc0B (by decide) b_X12_init_23) (lc0N (by decide) b_X12_init_23 rfl) (lc0O (by decide) rfl) (lc0H (by decide)) (by decide) (by decide) (Nat.le_of_ble_eq_true rfl) (Nat.le_of_ble_eq_true rfl) (Nat.le_of_ble_eq_true rfl) dX12_init_97 (fun H Z => ?_)
  refine z_put (M1 := q_X12_init_24) C Z (lc0L (by decide) h_X12_init_72) (by decide) rfl zc12 zin12 tyX12_ok nmX12 12 (by decide) k_1188 rfl (zUp_R (v := 0 + 1) (t := 11) rfl (by decide) rfl) (Or.inr ⟨hin rfl, rfl⟩) rfl rfl dX12_init_99 (fun H locs Z => ?_)
  refine lv_aload_n C.x C.b dX12_init_102 rfl (lv_at hl 0 rfl) ?_
  refine lv_bipush (v := 60) C.x C.b dX12_init_103 (by decide) ?_
  refine z_newa (atype := .int) (ty := .int) (i := 0) (N := 60) (r := 12) (b := 0) (M1 := q_X12_init_25) C Z rfl rfl rfl kk_155 (by decide) (b_X12_init_25) (a_X12_init_25) rfl (fun k => sv0_new (by decide) b_X12_init_25 rfl) (lc0B (by decide) b_X12_init_25) (lc0N (by decide) b_X12_init_25 rfl) (lc0O (by decide) rfl) (lc0H (by decide)) (by decide) (by decide) (Nat.le_of_ble_eq_true rfl) (Nat.le_of_ble_eq_true rfl) (Nat.le_of_ble_eq_true rfl) dX12_init_105 (fun H Z => ?_)
  refine z_put (M1 := q_X12_init_26) C Z (lc0L (by decide) h_X12_init_73) (by decide) rfl zc12 zin12 tyX12_ok nmX12 13 (by decide) k_1189 rfl (zUp_R (v := 0 + 1) (t := 12) rfl (by decide) rfl) (Or.inr ⟨hin rfl, rfl⟩) rfl rfl dX12_init_107 (fun H locs Z => ?_)
  refine lv_aload_n C.x C.b dX12_init_110 rfl (lv_at hl 0 rfl) ?_
  refine lv_bipush (v := 60) C.x C.b dX12_init_111 (by decide) ?_
  refine z_newa (atype := .boolean) (ty := .boolean) (i := 2) (N := 60) (r := 13) (b := 0) (M1 := q_X12_init_27) C Z rfl rfl rfl kk_1393 (by decide) (b_X12_init_27) (a_X12_init_27) rfl (fun k => sv0_new (by decide) b_X12_init_27 rfl) (lc0B (by decide) b_X12_init_27) (lc0N (by decide) b_X12_init_27 rfl) (lc0O (by decide) rfl) (lc0H (by decide)) (by decide) (by decide) (Nat.le_of_ble_eq_true rfl) (Nat.le_of_ble_eq_true rfl) (Nat.le_of_ble_eq_true rfl) dX12_init_113 (fun H Z => ?_)
  refine z_put (M1 := q_X12_init_28) C Z (lc0L (by decide) h_X12_init_74) (by decide) rfl zc12 zin12 tyX12_ok nmX12 14 (by decide) k_1190 rfl (zUp_R (v := 0 + 1) (t := 13) rfl (by decide) rfl) (Or.inr ⟨hin rfl, rfl⟩) rfl rfl dX12_init_115 (fun H locs Z => ?_)
  refine lv_aload_n C.x C.b dX12_init_118 rfl (lv_at hl 0 rfl) ?_
  refine lv_iconst (v := 0) C.x C.b dX12_init_119 (by decide) ?_
  refine z_put (M1 := q_X12_init_29) C Z (lc0L (by decide) h_X12_init_75) (by decide) rfl zc12 zin12 tyX12_ok nmX12 15 (by decide) k_1191 rfl (zUp_I rfl rfl) (Or.inl rfl) rfl rfl dX12_init_120 (fun H locs Z => ?_)
  refine lv_aload_n C.x C.b dX12_init_123 rfl (lv_at hl 0 rfl) ?_
  refine lv_sipush (v := 150) C.x C.b dX12_init_124 (by decide) ?_
  refine z_newa (atype := .int) (ty := .int) (i := 0) (N := 150) (r := 14) (b := 0) (M1 := q_X12_init_30) C Z rfl rfl rfl kk_155 (by decide) (b_X12_init_30) (a_X12_init_30) rfl (fun k => sv0_new (by decide) b_X12_init_30 rfl) (lc0B (by decide) b_X12_init_30) (lc0N (by decide) b_X12_init_30 rfl) (lc0O (by decide) rfl) (lc0H (by decide)) (by decide) (by decide) (Nat.le_of_ble_eq_true rfl) (Nat.le_of_ble_eq_true rfl) (Nat.le_of_ble_eq_true rfl) dX12_init_127 (fun H Z => ?_)
  refine z_put (M1 := q_X12_init_31) C Z (lc0L (by decide) h_X12_init_76) (by decide) rfl zc12 zin12 tyX12_ok nmX12 16 (by decide) k_1192 rfl (zUp_R (v := 0 + 1) (t := 14) rfl (by decide) rfl) (Or.inr ⟨hin rfl, rfl⟩) rfl rfl dX12_init_129 (fun H locs Z => ?_)
  refine lv_aload_n C.x C.b dX12_init_132 rfl (lv_at hl 0 rfl) ?_
  refine lv_bipush (v := 30) C.x C.b dX12_init_133 (by decide) ?_
  refine z_newa (atype := .int) (ty := .int) (i := 0) (N := 30) (r := 15) (b := 0) (M1 := q_X12_init_32) C Z rfl rfl rfl kk_155 (by decide) (b_X12_init_32) (a_X12_init_32) rfl (fun k => sv0_new (by decide) b_X12_init_32 rfl) (lc0B (by decide) b_X12_init_32) (lc0N (by decide) b_X12_init_32 rfl) (lc0O (by decide) rfl) (lc0H (by decide)) (by decide) (by decide) (Nat.le_of_ble_eq_true rfl) (Nat.le_of_ble_eq_true rfl) (Nat.le_of_ble_eq_true rfl) dX12_init_135 (fun H Z => ?_)
  refine z_put (M1 := q_X12_init_33) C Z (lc0L (by decide) h_X12_init_77) (by decide) rfl zc12 zin12 tyX12_ok nmX12 17 (by decide) k_1193 rfl (zUp_R (v := 0 + 1) (t := 15) rfl (by decide) rfl) (Or.inr ⟨hin rfl, rfl⟩) rfl rfl dX12_init_137 (fun H locs Z => ?_)
  refine lv_aload_n C.x C.b dX12_init_140 rfl (lv_at hl 0 rfl) ?_
  refine lv_sipush (v := 720) C.x C.b dX12_init_141 (by decide) ?_
  refine z_newa (atype := .int) (ty := .int) (i := 0) (N := 720) (r := 16) (b := 0) (M1 := q_X12_init_34) C Z rfl rfl rfl kk_155 (by decide) (b_X12_init_34) (a_X12_init_34) rfl (fun k => sv0_new (by decide) b_X12_init_34 rfl) (lc0B (by decide) b_X12_init_34) (lc0N (by decide) b_X12_init_34 rfl) (lc0O (by decide) rfl) (lc0H (by decide)) (by decide) (by decide) (Nat.le_of_ble_eq_true rfl) (Nat.le_of_ble_eq_true rfl) (Nat.le_of_ble_eq_true rfl) dX12_init_144 (fun H Z => ?_)
  refine z_put (M1 := q_X12_init_35) C Z (lc0L (by decide) h_X12_init_78) (by decide) rfl zc12 zin12 tyX12_ok nmX12 18 (by decide) k_1194 rfl (zUp_R (v := 0 + 1) (t := 16) rfl (by decide) rfl) (Or.inr ⟨hin rfl, rfl⟩) rfl rfl dX12_init_146 (fun H locs Z => ?_)
  refine lv_aload_n C.x C.b dX12_init_149 rfl (lv_at hl 0 rfl) ?_
  refine lv_bipush (v := 30) C.x C.b dX12_init_150 (by decide) ?_
  refine z_newa (atype := .int) (ty := .int) (i := 0) (N := 30) (r := 17) (b := 0) (M1 := q_X12_init_36) C Z rfl rfl rfl kk_155 (by decide) (b_X12_init_36) (a_X12_init_36) rfl (fun k => sv0_new (by decide) b_X12_init_36 rfl) (lc0B (by decide) b_X12_init_36) (lc0N (by decide) b_X12_init_36 rfl) (lc0O (by decide) rfl) (lc0H (by decide)) (by decide) (by decide) (Nat.le_of_ble_eq_true rfl) (Nat.le_of_ble_eq_true rfl) (Nat.le_of_ble_eq_true rfl) dX12_init_152 (fun H Z => ?_)
  refine z_put (M1 := q_X12_init_37) C Z (lc0L (by decide) h_X12_init_79) (by decide) rfl zc12 zin12 tyX12_ok nmX12 19 (by decide) k_1195 rfl (zUp_R (v := 0 + 1) (t := 17) rfl (by decide) rfl) (Or.inr ⟨hin rfl, rfl⟩) rfl rfl dX12_init_154 (fun H locs Z => ?_)
  refine lv_aload_n C.x C.b dX12_init_157 rfl (lv_at hl 0 rfl) ?_
  refine lv_bipush (v := 30) C.x C.b dX12_init_158 (by decide) ?_
  refine z_newa (atype := .int) (ty := .int) (i := 0) (N := 30) (r := 18) (b := 0) (M1 := q_X12_init_38) C Z rfl rfl rfl kk_155 (by decide) (b_X12_init_38) (a_X12_init_38) rfl (fun k => sv0_new (by decide) b_X12_init_38 rfl) (lc0B (by decide) b_X12_init_38) (lc0N (by decide) b_X12_init_38 rfl) (lc0O (by decide) rfl) (lc0H (by decide)) (by decide) (by decide) (Nat.le_of_ble_eq_true rfl) (Nat.le_of_ble_eq_true rfl) (Nat.le_of_ble_eq_true rfl) dX12_init_160 (fun H Z => ?_)
  refine z_put (M1 := q_X12_init_39) C Z (lc0L (by decide) h_X12_init_80) (by decide) rfl zc12 zin12 tyX12_ok nmX12 20 (by decide) k_1196 rfl (zUp_R (v := 0 + 1) (t := 18) rfl (by decide) rfl) (Or.inr ⟨hin rfl, rfl⟩) rfl rfl dX12_init_162 (fun H locs Z => ?_)
  refine lv_aload_n C.x C.b dX12_init_165 rfl (lv_at hl 0 rfl) ?_
  refine lv_iconst (v := 0) C.x C.b dX12_init_166 (by decide) ?_
  refine z_put (M1 := q_X12_init_40) C Z (lc0L (by decide) h_X12_init_81) (by decide) rfl zc12 zin12 tyX12_ok nmX12 21 (by decide) k_1197 rfl (zUp_I rfl rfl) (Or.inl rfl) rfl rfl dX12_init_167 (fun H locs Z => ?_)
  refine lv_aload_n C.x C.b dX12_init_170 rfl (lv_at hl 0 rfl) ?_
  refine lv_iconst (v := 0) C.x C.b dX12_init_171 (by decide) ?_
  refine z_put (M1 := q_X12_init_41) C Z (lc0L (by decide) h_X12_init_82) (by decide) rfl zc12 zin12 tyX12_ok nmX12 22 (by decide) k_1198 rfl (zUp_I rfl rfl) (Or.inl rfl) rfl rfl dX12_init_172 (fun H locs Z => ?_)
  refine lv_aload_n C.x C.b dX12_init_175 rfl (lv_at hl 0 rfl) ?_
  refine lv_bipush (v := 10) C.x C.b dX12_init_176 (by decide) ?_
  refine z_newa (atype := .int) (ty := .int) (i := 0) (N := 10) (r := 19) (b := 0) (M1 := q_X12_init_42) C Z rfl rfl rfl kk_155 (by decide) (b_X12_init_42) (a_X12_init_42) rfl (fun k => sv0_new (by decide) b_X12_init_42 rfl) (lc0B (by decide) b_X12_init_42) (lc0N (by decide) b_X12_init_42 rfl) (lc0O (by decide) rfl) (lc0H (by decide)) (by decide) (by decide) (Nat.le_of_ble_eq_true rfl) (Nat.le_of_ble_eq_true rfl) (Nat.le_of_ble_eq_true rfl) dX12_init_178 (fun H Z => ?_)
  refine z_put (M1 := q_X12_init_43) C Z (lc0L (by decide) h_X12_init_83) (by decide) rfl zc12 zin12 tyX12_ok nmX12 23 (by decide) k_1199 rfl (zUp_R (v := 0 + 1) (t := 19) rfl (by decide) rfl) (Or.inr ⟨hin rfl, rfl⟩) rfl rfl dX12_init_180 (fun H locs Z => ?_)
  refine lv_aload_n C.x C.b dX12_init_183 rfl (lv_at hl 0 rfl) ?_
  refine lv_sipush (v := 1100) C.x C.b dX12_init_184 (by decide) ?_
  refine z_newa (atype := .int) (ty := .int) (i := 0) (N := 1100) (r := 20) (b := 0) (M1 := q_X12_init_44) C Z rfl rfl rfl kk_155 (by decide) (b_X12_init_44) (a_X12_init_44) rfl (fun k => sv0_new (by decide) b_X12_init_44 rfl) (lc0B (by decide) b_X12_init_44) (lc0N (by decide) b_X12_init_44 rfl) (lc0O (by decide) rfl) (lc0H (by decide)) (by decide) (by decide) (Nat.le_of_ble_eq_true rfl) (Nat.le_of_ble_eq_true rfl) (Nat.le_of_ble_eq_true rfl) dX12_init_187 (fun H Z => ?_)
  refine z_put (M1 := q_X12_init_45) C Z (lc0L (by decide) h_X12_init_84) (by decide) rfl zc12 zin12 tyX12_ok nmX12 24 (by decide) k_1200 rfl (zUp_R (v := 0 + 1) (t := 20) rfl (by decide) rfl) (Or.inr ⟨hin rfl, rfl⟩) rfl rfl dX12_init_189 (fun H locs Z => ?_)
  refine lv_aload_n C.x C.b dX12_init_192 rfl (lv_at hl 0 rfl) ?_
  refine lv_bipush (v := 11) C.x C.b dX12_init_193 (by decide) ?_
  refine z_newa (atype := .int) (ty := .int) (i := 0) (N := 11) (r := 21) (b := 0) (M1 := q_X12_init_46) C Z rfl rfl rfl kk_155 (by decide) (b_X12_init_46) (a_X12_init_46) rfl (fun k => sv0_new (by decide) b_X12_init_46 rfl) (lc0B (by decide) b_X12_init_46) (lc0N (by decide) b_X12_init_46 rfl) (lc0O (by decide) rfl) (lc0H (by decide)) (by decide) (by decide) (Nat.le_of_ble_eq_true rfl) (Nat.le_of_ble_eq_true rfl) (Nat.le_of_ble_eq_true rfl) dX12_init_195 (fun H Z => ?_)
  refine z_put (M1 := q_X12_init_47) C Z (lc0L (by decide) h_X12_init_85) (by decide) rfl zc12 zin12 tyX12_ok nmX12 25 (by decide) k_1201 rfl (zUp_R (v := 0 + 1) (t := 21) rfl (by decide) rfl) (Or.inr ⟨hin rfl, rfl⟩) rfl rfl dX12_init_197 (fun H locs Z => ?_)
  refine lv_aload_n C.x C.b dX12_init_200 rfl (lv_at hl 0 rfl) ?_
  refine lv_bipush (v := 6) C.x C.b dX12_init_201 (by decide) ?_
  refine z_newa (atype := .int) (ty := .int) (i := 0) (N := 6) (r := 22) (b := 0) (M1 := q_X12_init_48) C Z rfl rfl rfl kk_155 (by decide) (b_X12_init_48) (a_X12_init_48) rfl (fun k => sv0_new (by decide) b_X12_init_48 rfl) (lc0B (by decide) b_X12_init_48) (lc0N (by decide) b_X12_init_48 rfl) (lc0O (by decide) rfl) (lc0H (by decide)) (by decide) (by decide) (Nat.le_of_ble_eq_true rfl) (Nat.le_of_ble_eq_true rfl) (Nat.le_of_ble_eq_true rfl) dX12_init_203 (fun H Z => ?_)
  refine z_put (M1 := q_X12_init_49) C Z (lc0L (by decide) h_X12_init_86) (by decide) rfl zc12 zin12 tyX12_ok nmX12 26 (by decide) k_1202 rfl (zUp_R (v := 0 + 1) (t := 22) rfl (by decide) rfl) (Or.inr ⟨hin rfl, rfl⟩) rfl rfl dX12_init_205 (fun H locs Z => ?_)
  refine lv_aload_n C.x C.b dX12_init_208 rfl (lv_at hl 0 rfl) ?_
  refine lv_bipush (v := 6) C.x C.b dX12_init_209 (by decide) ?_
  refine z_newa (atype := .int) (ty := .int) (i := 0) (N := 6) (r := 23) (b := 0) (M1 := q_X12_init_50) C Z rfl rfl rfl kk_155 (by decide) (b_X12_init_50) (a_X12_init_50) rfl (fun k => sv0_new (by decide) b_X12_init_50 rfl) (lc0B (by decide) b_X12_init_50) (lc0N (by decide) b_X12_init_50 rfl) (lc0O (by decide) rfl) (lc0H (by decide)) (by decide) (by decide) (Nat.le_of_ble_eq_true rfl) (Nat.le_of_ble_eq_true rfl) (Nat.le_of_ble_eq_true rfl) dX12_init_211 (fun H Z => ?_)
  refine z_put (M1 := q_X12_init_51) C Z (lc0L (by decide) h_X12_init_87) (by decide) rfl zc12 zin12 tyX12_ok nmX12 27 (by decide) k_1203 rfl (zUp_R (v := 0 + 1) (t := 23) rfl (by decide) rfl) (Or.inr ⟨hin rfl, rfl⟩) rfl rfl dX12_init_213 (fun H locs Z => ?_)
  refine lv_aload_n C.x C.b dX12_init_216 rfl (lv_at hl 0 rfl) ?_
  refine lv_bipush (v := 6) C.x C.b dX12_init_217 (by decide) ?_
  refine z_newa (atype := .int) (ty := .int) (i := 0) (N := 6) (r := 24) (b := 0) (M1 := q_X12_init_52) C Z rfl rfl rfl kk_155 (by decide) (b_X12_init_52) (a_X12_init_52) rfl (fun k => sv0_new (by decide) b_X12_init_52 rfl) (lc0B (by decide) b_X12_init_52) (lc0N (by decide) b_X12_init_52 rfl) (lc0O (by decide) rfl) (lc0H (by decide)) (by decide) (by decide) (Nat.le_of_ble_eq_true rfl) (Nat.le_of_ble_eq_true rfl) (Nat.le_of_ble_eq_true rfl) dX12_init_219 (fun H Z => ?_)
  refine z_put (M1 := q_X12_init_53) C Z (lc0L (by decide) h_X12_init_88) (by decide) rfl zc12 zin12 tyX12_ok nmX12 28 (by decide) k_1204 rfl (zUp_R (v := 0 + 1) (t := 24) rfl (by decide) rfl) (Or.inr ⟨hin rfl, rfl⟩) rfl rfl dX12_init_221 (fun H locs Z => ?_)
  refine lv_aload_n C.x C.b dX12_init_224 rfl (lv_at hl 0 rfl) ?_
  refine lv_bipush (v := 6) C.x C.b dX12_init_225 (by decide) ?_
  refine z_newa (atype := .boolean) (ty := .boolean) (i := 2) (N := 6) (r := 25) (b := 0) (M1 := q_X12_init_54) C Z rfl rfl rfl kk_1393 (by decide) (b_X12_init_54) (a_X12_init_54) rfl (fun k => sv0_new (by decide) b_X12_init_54 rfl) (lc0B (by decide) b_X12_init_54) (lc0N (by decide) b_X12_init_54 rfl) (lc0O (by decide) rfl) (lc0H (by decide)) (by decide) (by decide) (Nat.le_of_ble_eq_true rfl) (Nat.le_of_ble_eq_true rfl) (Nat.le_of_ble_eq_true rfl) dX12_init_227 (fun H Z => ?_)
  refine z_put (M1 := q_X12_init_55) C Z (lc0L (by decide) h_X12_init_89) (by decide) rfl zc12 zin12 tyX12_ok nmX12 29 (by decide) k_1205 rfl (zUp_R (v := 0 + 1) (t := 25) rfl (by decide) rfl) (Or.inr ⟨hin rfl, rfl⟩) rfl rfl dX12_init_229 (fun H locs Z => ?_)
  refine lv_aload_n C.x C.b dX12_init_232 rfl (lv_at hl 0 rfl) ?_
  refine lv_iconst (v := 0) C.x C.b dX12_init_233 (by decide) ?_
  refine z_put (M1 := q_X12_init_56) C Z (lc0L (by decide) h_X12_init_90) (by decide) rfl zc12 zin12 tyX12_ok nmX12 30 (by decide) k_1206 rfl (zUp_I rfl rfl) (Or.inl rfl) rfl rfl dX12_init_234 (fun H locs Z => ?_)
  refine lv_aload_n C.x C.b dX12_init_237 rfl (lv_at hl 0 rfl) ?_
  refine lv_iconst (v := 0) C.x C.b dX12_init_238 (by decide) ?_
  refine z_put (M1 := q_X12_init_57) C Z (lc0L (by decide) h_X12_init_91) (by decide) rfl zc12 zin12 tyX12_ok nmX12 31 (by decide) k_1207 rfl (zUp_I rfl rfl) (Or.inl rfl) rfl rfl dX12_init_239 (fun H locs Z => ?_)
  refine lv_aload_n C.x C.b dX12_init_242 rfl (lv_at hl 0 rfl) ?_
  refine lv_iconst (v := 0) C.x C.b dX12_init_243 (by decide) ?_
  refine z_put (M1 := q_X12_init_58) C Z (lc0L (by decide) h_X12_init_92) (by decide) rfl zc12 zin12 tyX12_ok nmX12 32 (by decide) k_1208 rfl (zUp_I rfl rfl) (Or.inl rfl) rfl rfl dX12_init_244 (fun H locs Z => ?_)
  refine lv_aload_n C.x C.b dX12_init_247 rfl (lv_at hl 0 rfl) ?_
  refine lv_iconst (v := 0) C.x C.b dX12_init_248 (by decide) ?_
  refine z_put (M1 := q_X12_init_59) C Z (lc0L (by decide) h_X12_init_93) (by decide) rfl zc12 zin12 tyX12_ok nmX12 33 (by decide) k_1209 rfl (zUp_I rfl rfl) (Or.inl rfl) rfl rfl dX12_init_249 (fun H locs Z => ?_)
  refine lv_aload_n C.x C.b dX12_init_252 rfl (lv_at hl 0 rfl) ?_
  refine lv_iconst (v := 0) C.x C.b dX12_init_253 (by decide) ?_
  refine z_put (M1 := q_X12_init_60) C Z (lc0L (by decide) h_X12_init_94) (by decide) rfl zc12 zin12 tyX12_ok nmX12 34 (by decide) k_1210 rfl (zUp_I rfl rfl) (Or.inl rfl) rfl rfl dX12_init_254 (fun H locs Z => ?_)
  refine lv_aload_n C.x C.b dX12_init_257 rfl (lv_at hl 0 rfl) ?_
  refine lv_bipush (v := 101) C.x C.b dX12_init_258 (by decide) ?_
  refine z_newa (atype := .int) (ty := .int) (i := 0) (N := 101) (r := 26) (b := 0) (M1 := q_X12_init_61) C Z rfl rfl rfl kk_155 (by decide) (b_X12_init_61) (a_X12_init_61) rfl (fun k => sv0_new (by decide) b_X12_init_61 rfl) (lc0B (by decide) b_X12_init_61) (lc0N (by decide) b_X12_init_61 rfl) (lc0O (by decide) rfl) (lc0H (by decide)) (by decide) (by decide) (Nat.le_of_ble_eq_true rfl) (Nat.le_of_ble_eq_true rfl) (Nat.le_of_ble_eq_true rfl) dX12_init_260 (fun H Z => ?_)
  refine z_put (M1 := q_X12_init_62) C Z (lc0L (by decide) h_X12_init_95) (by decide) rfl zc12 zin12 tyX12_ok nmX12 35 (by decide) k_1211 rfl (zUp_R (v := 0 + 1) (t := 26) rfl (by decide) rfl) (Or.inr ⟨hin rfl, rfl⟩) rfl rfl dX12_init_262 (fun H locs Z => ?_)
  refine lv_aload_n C.x C.b dX12_init_265 rfl (lv_at hl 0 rfl) ?_
  refine lv_bipush (v := 101) C.x C.b dX12_init_266 (by decide) ?_
  refine z_newa (atype := .boolean) (ty := .boolean) (i := 2) (N := 101) (r := 27) (b := 0) (M1 := q_X12_init_63) C Z rfl rfl rfl kk_1393 (by decide) (b_X12_init_63) (a_X12_init_63) rfl (fun k => sv0_new (by decide) b_X12_init_63 rfl) (lc0B (by decide) b_X12_init_63) (lc0N (by decide) b_X12_init_63 rfl) (lc0O (by decide) rfl) (lc0H (by decide)) (by decide) (by decide) (Nat.le_of_ble_eq_true rfl) (Nat.le_of_ble_eq_true rfl) (Nat.le_of_ble_eq_true rfl) dX12_init_268 (fun H Z => ?_)
  refine z_put (M1 := q_X12_init_64) C Z (lc0L (by decide) h_X12_init_96) (by decide) rfl zc12 zin12 tyX12_ok nmX12 36 (by decide) k_1212 rfl (zUp_R (v := 0 + 1) (t := 27) rfl (by decide) rfl) (Or.inr ⟨hin rfl, rfl⟩) rfl rfl dX12_init_270 (fun H locs Z => ?_)
  refine lv_aload_n C.x C.b dX12_init_273 rfl (lv_at hl 0 rfl) ?_
  refine lv_iconst (v := 0) C.x C.b dX12_init_274 (by decide) ?_
  refine z_put (M1 := q_X12_init_65) C Z (lc0L (by decide) h_X12_init_97) (by decide) rfl zc12 zin12 tyX12_ok nmX12 37 (by decide) k_1213 rfl (zUp_I rfl rfl) (Or.inl rfl) rfl rfl dX12_init_275 (fun H locs Z => ?_)
  refine lv_aload_n C.x C.b dX12_init_278 rfl (lv_at hl 0 rfl) ?_
  refine lv_iconst (v := 0) C.x C.b dX12_init_279 (by decide) ?_
  refine z_put (M1 := q_X12_init_66) C Z (lc0L (by decide) h_X12_init_98) (by decide) rfl zc12 zin12 tyX12_ok nmX12 38 (by decide) k_1214 rfl (zUp_I rfl rfl) (Or.inl rfl) rfl rfl dX12_init_280 (fun H locs Z => ?_)
  refine lv_aload_n C.x C.b dX12_init_283 rfl (lv_at hl 0 rfl) ?_
  refine lv_iconst (v := 0) C.x C.b dX12_init_284 (by decide) ?_
  refine z_put (M1 := q_X12_init_67) C Z (lc0L (by decide) h_X12_init_99) (by decide) rfl zc12 zin12 tyX12_ok nmX12 39 (by decide) k_1215 rfl (zUp_I rfl rfl) (Or.inl rfl) rfl rfl dX12_init_285 (fun H locs Z => ?_)
  refine lv_aload_n C.x C.b dX12_init_288 rfl (lv_at hl 0 rfl) ?_
  refine lv_bipush (v := 24) C.x C.b dX12_init_289 (by decide) ?_
  refine z_newa (atype := .int) (ty := .int) (i := 0) (N := 24) (r := 28) (b := 0) (M1 := q_X12_init_68) C Z rfl rfl rfl kk_155 (by decide) (b_X12_init_68) (a_X12_init_68) rfl (fun k => sv0_new (by decide) b_X12_init_68 rfl) (lc0B (by decide) b_X12_init_68) (lc0N (by decide) b_X12_init_68 rfl) (lc0O (by decide) rfl) (lc0H (by decide)) (by decide) (by decide) (Nat.le_of_ble_eq_true rfl) (Nat.le_of_ble_eq_true rfl) (Nat.le_of_ble_eq_true rfl) dX12_init_291 (fun H Z => ?_)
  refine z_put (M1 := q_X12_init_69) C Z (lc0L (by decide) h_X12_init_100) (by decide) rfl zc12 zin12 tyX12_ok nmX12 40 (by decide) k_1216 rfl (zUp_R (v := 0 + 1) (t := 28) rfl (by decide) rfl) (Or.inr ⟨hin rfl, rfl⟩) rfl rfl dX12_init_293 (fun H locs Z => ?_)
  refine lv_aload_n C.x C.b dX12_init_296 rfl (lv_at hl 0 rfl) ?_
  refine lv_bipush (v := 30) C.x C.b dX12_init_297 (by decide) ?_
  refine z_newa (atype := .int) (ty := .int) (i := 0) (N := 30) (r := 29) (b := 0) (M1 := q_X12_init_70) C Z rfl rfl rfl kk_155 (by decide) (b_X12_init_70) (a_X12_init_70) rfl (fun k => sv0_new (by decide) b_X12_init_70 rfl) (lc0B (by decide) b_X12_init_70) (lc0N (by decide) b_X12_init_70 rfl) (lc0O (by decide) rfl) (lc0H (by decide)) (by decide) (by decide) (Nat.le_of_ble_eq_true rfl) (Nat.le_of_ble_eq_true rfl) (Nat.le_of_ble_eq_true rfl) dX12_init_299 (fun H Z => ?_)
  refine z_put (M1 := q_X12_init_71) C Z (lc0L (by decide) h_X12_init_101) (by decide) rfl zc12 zin12 tyX12_ok nmX12 41 (by decide) k_1217 rfl (zUp_R (v := 0 + 1) (t := 29) rfl (by decide) rfl) (Or.inr ⟨hin rfl, rfl⟩) rfl rfl dX12_init_301 (fun H locs Z => ?_)
  refine lv_aload_n C.x C.b dX12_init_304 rfl (lv_at hl 0 rfl) ?_
  refine lv_bipush (v := 30) C.x C.b dX12_init_305 (by decide) ?_
  refine z_newa (atype := .int) (ty := .int) (i := 0) (N := 30) (r := 30) (b := 0) (M1 := q_X12_init_72) C Z rfl rfl rfl kk_155 (by decide) (b_X12_init_72) (a_X12_init_72) rfl (fun k => sv0_new (by decide) b_X12_init_72 rfl) (lc0B (by decide) b_X12_init_72) (lc0N (by decide) b_X12_init_72 rfl) (lc0O (by decide) rfl) (lc0H (by decide)) (by decide) (by decide) (Nat.le_of_ble_eq_true rfl) (Nat.le_of_ble_eq_true rfl) (Nat.le_of_ble_eq_true rfl) dX12_init_307 (fun H Z => ?_)
  refine z_put (M1 := q_X12_init_73) C Z (lc0L (by decide) h_X12_init_102) (by decide) rfl zc12 zin12 tyX12_ok nmX12 42 (by decide) k_1218 rfl (zUp_R (v := 0 + 1) (t := 30) rfl (by decide) rfl) (Or.inr ⟨hin rfl, rfl⟩) rfl rfl dX12_init_309 (fun H locs Z => ?_)
  refine lv_aload_n C.x C.b dX12_init_312 rfl (lv_at hl 0 rfl) ?_
  refine lv_bipush (v := 30) C.x C.b dX12_init_313 (by decide) ?_
  refine z_newa (atype := .int) (ty := .int) (i := 0) (N := 30) (r := 31) (b := 0) (M1 := q_X12_init_74) C Z rfl rfl rfl kk_155 (by decide) (b_X12_init_74) (a_X12_init_74) rfl (fun k => sv0_new (by decide) b_X12_init_74 rfl) (lc0B (by decide) b_X12_init_74) (lc0N (by decide) b_X12_init_74 rfl) (lc0O (by decide) rfl) (lc0H (by decide)) (by decide) (by decide) (Nat.le_of_ble_eq_true rfl) (Nat.le_of_ble_eq_true rfl) (Nat.le_of_ble_eq_true rfl) dX12_init_315 (fun H Z => ?_)
  refine z_put (M1 := q_X12_init_75) C Z (lc0L (by decide) h_X12_init_103) (by decide) rfl zc12 zin12 tyX12_ok nmX12 43 (by decide) k_1219 rfl (zUp_R (v := 0 + 1) (t := 31) rfl (by decide) rfl) (Or.inr ⟨hin rfl, rfl⟩) rfl rfl dX12_init_317 (fun H locs Z => ?_)
  refine lv_aload_n C.x C.b dX12_init_320 rfl (lv_at hl 0 rfl) ?_
  refine lv_iconst (v := 0) C.x C.b dX12_init_321 (by decide) ?_
  refine z_put (M1 := q_X12_init_76) C Z (lc0L (by decide) h_X12_init_104) (by decide) rfl zc12 zin12 tyX12_ok nmX12 44 (by decide) k_1220 rfl (zUp_I rfl rfl) (Or.inl rfl) rfl rfl dX12_init_322 (fun H locs Z => ?_)
  refine lv_aload_n C.x C.b dX12_init_325 rfl (lv_at hl 0 rfl) ?_
  refine lv_bipush (v := 10) C.x C.b dX12_init_326 (by decide) ?_
  refine z_newa (atype := .int) (ty := .int) (i := 0) (N := 10) (r := 32) (b := 0) (M1 := q_X12_init_77) C Z rfl rfl rfl kk_155 (by decide) (b_X12_init_77) (a_X12_init_77) rfl (fun k => sv0_new (by decide) b_X12_init_77 rfl) (lc0B (by decide) b_X12_init_77) (lc0N (by decide) b_X12_init_77 rfl) (lc0O (by decide) rfl) (lc0H (by decide)) (by decide) (by decide) (Nat.le_of_ble_eq_true rfl) (Nat.le_of_ble_eq_true rfl) (Nat.le_of_ble_eq_true rfl) dX12_init_328 (fun H Z => ?_)
  refine z_put (M1 := q_X12_init_78) C Z (lc0L (by decide) h_X12_init_105) (by decide) rfl zc12 zin12 tyX12_ok nmX12 45 (by decide) k_1221 rfl (zUp_R (v := 0 + 1) (t := 32) rfl (by decide) rfl) (Or.inr ⟨hin rfl, rfl⟩) rfl rfl dX12_init_330 (fun H locs Z => ?_)
  refine lv_aload_n C.x C.b dX12_init_333 rfl (lv_at hl 0 rfl) ?_
  refine lv_bipush (v := 10) C.x C.b dX12_init_334 (by decide) ?_
  refine z_newa (atype := .int) (ty := .int) (i := 0) (N := 10) (r := 33) (b := 0) (M1 := q_X12_init_79) C Z rfl rfl rfl kk_155 (by decide) (b_X12_init_79) (a_X12_init_79) rfl (fun k => sv0_new (by decide) b_X12_init_79 rfl) (lc0B (by decide) b_X12_init_79) (lc0N (by decide) b_X12_init_79 rfl) (lc0O (by decide) rfl) (lc0H (by decide)) (by decide) (by decide) (Nat.le_of_ble_eq_true rfl) (Nat.le_of_ble_eq_true rfl) (Nat.le_of_ble_eq_true rfl) dX12_init_336 (fun H Z => ?_)
  refine z_put (M1 := q_X12_init_80) C Z (lc0L (by decide) h_X12_init_106) (by decide) rfl zc12 zin12 tyX12_ok nmX12 46 (by decide) k_1222 rfl (zUp_R (v := 0 + 1) (t := 33) rfl (by decide) rfl) (Or.inr ⟨hin rfl, rfl⟩) rfl rfl dX12_init_338 (fun H locs Z => ?_)
  refine lv_aload_n C.x C.b dX12_init_341 rfl (lv_at hl 0 rfl) ?_
  refine lv_bipush (v := 10) C.x C.b dX12_init_342 (by decide) ?_
  refine z_newa (atype := .int) (ty := .int) (i := 0) (N := 10) (r := 34) (b := 0) (M1 := q_X12_init_81) C Z rfl rfl rfl kk_155 (by decide) (b_X12_init_81) (a_X12_init_81) rfl (fun k => sv0_new (by decide) b_X12_init_81 rfl) (lc0B (by decide) b_X12_init_81) (lc0N (by decide) b_X12_init_81 rfl) (lc0O (by decide) rfl) (lc0H (by decide)) (by decide) (by decide) (Nat.le_of_ble_eq_true rfl) (Nat.le_of_ble_eq_true rfl) (Nat.le_of_ble_eq_true rfl) dX12_init_344 (fun H Z => ?_)
  refine z_put (M1 := q_X12_init_82) C Z (lc0L (by decide) h_X12_init_107) (by decide) rfl zc12 zin12 tyX12_ok nmX12 47 (by decide) k_1223 rfl (zUp_R (v := 0 + 1) (t := 34) rfl (by decide) rfl) (Or.inr ⟨hin rfl, rfl⟩) rfl rfl dX12_init_346 (fun H locs Z => ?_)
  refine lv_aload_n C.x C.b dX12_init_349 rfl (lv_at hl 0 rfl) ?_
  refine lv_bipush (v := 10) C.x C.b dX12_init_350 (by decide) ?_
  refine z_newa (atype := .int) (ty := .int) (i := 0) (N := 10) (r := 35) (b := 0) (M1 := q_X12_init_83) C Z rfl rfl rfl kk_155 (by decide) (b_X12_init_83) (a_X12_init_83) rfl (fun k => sv0_new (by decide) b_X12_init_83 rfl) (lc0B (by decide) b_X12_init_83) (lc0N (by decide) b_X12_init_83 rfl) (lc0O (by decide) rfl) (lc0H (by decide)) (by decide) (by decide) (Nat.le_of_ble_eq_true rfl) (Nat.le_of_ble_eq_true rfl) (Nat.le_of_ble_eq_true rfl) dX12_init_352 (fun H Z => ?_)
  refine lv_dup C.x C.b dX12_init_354 rfl ?_
  refine lv_iconst (v := 0) C.x C.b dX12_init_355 (by decide) ?_
  refine lv_iconst (v := (-1)) C.x C.b dX12_init_356 (by decide) ?_
  refine z_iast (M1 := q_X12_init_84) C Z (lc0L (by decide) h_X12_init_108) (by decide) rfl (show vq 0 10 by decide) rfl rfl dX12_init_357 (fun H locs Z => ?_)
  refine lv_dup C.x C.b dX12_init_358 rfl ?_
  refine lv_iconst (v := 1) C.x C.b dX12_init_359 (by decide) ?_
  refine lv_iconst (v := (-1)) C.x C.b dX12_init_360 (by decide) ?_
  refine z_iast (M1 := q_X12_init_85) C Z (lc0L (by decide) h_X12_init_109) (by decide) rfl (show vq 1 10 by decide) rfl rfl dX12_init_361 (fun H locs Z => ?_)
  refine lv_dup C.x C.b dX12_init_362 rfl ?_
  refine lv_iconst (v := 2) C.x C.b dX12_init_363 (by decide) ?_
  refine lv_iconst (v := (-1)) C.x C.b dX12_init_364 (by decide) ?_
  refine z_iast (M1 := q_X12_init_86) C Z (lc0L (by decide) h_X12_init_110) (by decide) rfl (show vq 2 10 by decide) rfl rfl dX12_init_365 (fun H locs Z => ?_)
  refine lv_dup C.x C.b dX12_init_366 rfl ?_
  refine lv_iconst (v := 3) C.x C.b dX12_init_367 (by decide) ?_
  refine lv_iconst (v := (-1)) C.x C.b dX12_init_368 (by decide) ?_
  refine z_iast (M1 := q_X12_init_87) C Z (lc0L (by decide) h_X12_init_111) (by decide) rfl (show vq 3 10 by decide) rfl rfl dX12_init_369 (fun H locs Z => ?_)
  refine lv_dup C.x C.b dX12_init_370 rfl ?_
  refine lv_iconst (v := 4) C.x C.b dX12_init_371 (by decide) ?_
  refine lv_iconst (v := (-1)) C.x C.b dX12_init_372 (by decide) ?_
  refine z_iast (M1 := q_X12_init_88) C Z (lc0L (by decide) h_X12_init_112) (by decide) rfl (show vq 4 10 by decide) rfl rfl dX12_init_373 (fun H locs Z => ?_)
  refine lv_dup C.x C.b dX12_init_374 rfl ?_
  refine lv_iconst (v := 5) C.x C.b dX12_init_375 (by decide) ?_
  refine lv_iconst (v := (-1)) C.x C.b dX12_init_376 (by decide) ?_
  refine z_iast (M1 := q_X12_init_89) C Z (lc0L (by decide) h_X12_init_113) (by decide) rfl (show vq 5 10 by decide) rfl rfl dX12_init_377 (fun H locs Z => ?_)
  refine lv_dup C.x C.b dX12_init_378 rfl ?_
  refine lv_bipush (v := 6) C.x C.b dX12_init_379 (by decide) ?_
  refine lv_iconst (v := (-1)) C.x C.b dX12_init_381 (by decide) ?_
  refine z_iast (M1 := q_X12_init_90) C Z (lc0L (by decide) h_X12_init_114) (by decide) rfl (show vq 6 10 by decide) rfl rfl dX12_init_382 (fun H locs Z => ?_)
  refine lv_dup C.x C.b dX12_init_383 rfl ?_
  refine lv_bipush (v := 7) C.x C.b dX12_init_384 (by decide) ?_
  refine lv_iconst (v := (-1)) C.x C.b dX12_init_386 (by decide) ?_
  refine z_iast (M1 := q_X12_init_91) C Z (lc0L (by decide) h_X12_init_115) (by decide) rfl (show vq 7 10 by decide) rfl rfl dX12_init_387 (fun H locs Z => ?_)
  refine lv_dup C.x C.b dX12_init_388 rfl ?_
  refine lv_bipush (v := 8) C.x C.b dX12_init_389 (by decide) ?_
  refine lv_iconst (v := (-1)) C.x C.b dX12_init_391 (by decide) ?_
  refine z_iast (M1 := q_X12_init_92) C Z (lc0L (by decide) h_X12_init_116) (by decide) rfl (show vq 8 10 by decide) rfl rfl dX12_init_392 (fun H locs Z => ?_)
  refine lv_dup C.x C.b dX12_init_393 rfl ?_
  refine lv_bipush (v := 9) C.x C.b dX12_init_394 (by decide) ?_
  refine lv_iconst (v := (-1)) C.x C.b dX12_init_396 (by decide) ?_
  refine z_iast (M1 := q_X12_init_93) C Z (lc0L (by decide) h_X12_init_117) (by decide) rfl (show vq 9 10 by decide) rfl rfl dX12_init_397 (fun H locs Z => ?_)
  refine z_put (M1 := q_X12_init_94) C Z (lc0L (by decide) h_X12_init_118) (by decide) rfl zc12 zin12 tyX12_ok nmX12 48 (by decide) k_1224 rfl (zUp_R (v := 0 + 1) (t := 35) rfl (by decide) rfl) (Or.inr ⟨hin rfl, rfl⟩) rfl rfl dX12_init_398 (fun H locs Z => ?_)
  refine lv_aload_n C.x C.b dX12_init_401 rfl (lv_at hl 0 rfl) ?_
  refine lv_bipush (v := 30) C.x C.b dX12_init_402 (by decide) ?_
  refine z_newa (atype := .boolean) (ty := .boolean) (i := 2) (N := 30) (r := 36) (b := 0) (M1 := q_X12_init_95) C Z rfl rfl rfl kk_1393 (by decide) (b_X12_init_95) (a_X12_init_95) rfl (fun k => sv0_new (by decide) b_X12_init_95 rfl) (lc0B (by decide) b_X12_init_95) (lc0N (by decide) b_X12_init_95 rfl) (lc0O (by decide) rfl) (lc0H (by decide)) (by decide) (by decide) (Nat.le_of_ble_eq_true rfl) (Nat.le_of_ble_eq_true rfl) (Nat.le_of_ble_eq_true rfl) dX12_init_404 (fun H Z => ?_)
  refine z_put (M1 := q_X12_init_96) C Z (lc0L (by decide) h_X12_init_119) (by decide) rfl zc12 zin12 tyX12_ok nmX12 49 (by decide) k_1225 rfl (zUp_R (v := 0 + 1) (t := 36) rfl (by decide) rfl) (Or.inr ⟨hin rfl, rfl⟩) rfl rfl dX12_init_406 (fun H locs Z => ?_)
  refine lv_aload_n C.x C.b dX12_init_409 rfl (lv_at hl 0 rfl) ?_
  refine lv_bipush (v := 30) C.x C.b dX12_init_410 (by decide) ?_
  refine z_newa (atype := .boolean) (ty := .boolean) (i := 2) (N := 30) (r := 37) (b := 0) (M1 := q_X12_init_97) C Z rfl rfl rfl kk_1393 (by decide) (b_X12_init_97) (a_X12_init_97) rfl (fun k => sv0_new (by decide) b_X12_init_97 rfl) (lc0B (by decide) b_X12_init_97) (lc0N (by decide) b_X12_init_97 rfl) (lc0O (by decide) rfl) (lc0H (by decide)) (by decide) (by decide) (Nat.le_of_ble_eq_true rfl) (Nat.le_of_ble_eq_true rfl) (Nat.le_of_ble_eq_true rfl) dX12_init_412 (fun H Z => ?_)
  refine z_put (M1 := q_X12_init_98) C Z (lc0L (by decide) h_X12_init_120) (by decide) rfl zc12 zin12 tyX12_ok nmX12 50 (by decide) k_1226 rfl (zUp_R (v := 0 + 1) (t := 37) rfl (by decide) rfl) (Or.inr ⟨hin rfl, rfl⟩) rfl rfl dX12_init_414 (fun H locs Z => ?_)
  refine lv_aload_n C.x C.b dX12_init_417 rfl (lv_at hl 0 rfl) ?_
  refine lv_iconst (v := 0) C.x C.b dX12_init_418 (by decide) ?_
  refine z_put (M1 := q_X12_init_99) C Z (lc0L (by decide) h_X12_init_121) (by decide) rfl zc12 zin12 tyX12_ok nmX12 51 (by decide) k_1227 rfl (zUp_I rfl rfl) (Or.inl rfl) rfl rfl dX12_init_419 (fun H locs Z => ?_)
  refine lv_aload_n C.x C.b dX12_init_422 rfl (lv_at hl 0 rfl) ?_
  refine lv_iconst (v := 0) C.x C.b dX12_init_423 (by decide) ?_
  refine z_put (M1 := q_X12_init_100) C Z (lc0L (by decide) h_X12_init_122) (by decide) rfl zc12 zin12 tyX12_ok nmX12 52 (by decide) k_1228 rfl (zUp_I rfl rfl) (Or.inl rfl) rfl rfl dX12_init_424 (fun H locs Z => ?_)
  refine lv_aload_n C.x C.b dX12_init_427 rfl (lv_at hl 0 rfl) ?_
  refine lv_bipush (v := 20) C.x C.b dX12_init_428 (by decide) ?_
  refine z_newa (atype := .int) (ty := .int) (i := 0) (N := 20) (r := 38) (b := 0) (M1 := q_X12_init_101) C Z rfl rfl rfl kk_155 (by decide) (b_X12_init_101) (a_X12_init_101) rfl (fun k => sv0_new (by decide) b_X12_init_101 rfl) (lc0B (by decide) b_X12_init_101) (lc0N (by decide) b_X12_init_101 rfl) (lc0O (by decide) rfl) (lc0H (by decide)) (by decide) (by decide) (Nat.le_of_ble_eq_true rfl) (Nat.le_of_ble_eq_true rfl) (Nat.le_of_ble_eq_true rfl) dX12_init_430 (fun H Z => ?_)
  refine z_put (M1 := q_X12_init_102) C Z (lc0L (by decide) h_X12_init_123) (by decide) rfl zc12 zin12 tyX12_ok nmX12 53 (by decide) k_1229 rfl (zUp_R (v := 0 + 1) (t := 38) rfl (by decide) rfl) (Or.inr ⟨hin rfl, rfl⟩) rfl rfl dX12_init_432 (fun H locs Z => ?_)
  refine lv_aload_n C.x C.b dX12_init_435 rfl (lv_at hl 0 rfl) ?_
  refine lv_bipush (v := 20) C.x C.b dX12_init_436 (by decide) ?_
  refine z_newa (atype := .int) (ty := .int) (i := 0) (N := 20) (r := 39) (b := 0) (M1 := q_X12_init_103) C Z rfl rfl rfl kk_155 (by decide) (b_X12_init_103) (a_X12_init_103) rfl (fun k => sv0_new (by decide) b_X12_init_103 rfl) (lc0B (by decide) b_X12_init_103) (lc0N (by decide) b_X12_init_103 rfl) (lc0O (by decide) rfl) (lc0H (by decide)) (by decide) (by decide) (Nat.le_of_ble_eq_true rfl) (Nat.le_of_ble_eq_true rfl) (Nat.le_of_ble_eq_true rfl) dX12_init_438 (fun H Z => ?_)
  refine z_put (M1 := q_X12_init_104) C Z (lc0L (by decide) h_X12_init_124) (by decide) rfl zc12 zin12 tyX12_ok nmX12 54 (by decide) k_1230 rfl (zUp_R (v := 0 + 1) (t := 39) rfl (by decide) rfl) (Or.inr ⟨hin rfl, rfl⟩) rfl rfl dX12_init_440 (fun H locs Z => ?_)
  refine lv_aload_n C.x C.b dX12_init_443 rfl (lv_at hl 0 rfl) ?_
  refine lv_bipush (v := 20) C.x C.b dX12_init_444 (by decide) ?_
  refine z_newa (atype := .int) (ty := .int) (i := 0) (N := 20) (r := 40) (b := 0) (M1 := q_X12_init_105) C Z rfl rfl rfl kk_155 (by decide) (b_X12_init_105) (a_X12_init_105) rfl (fun k => sv0_new (by decide) b_X12_init_105 rfl) (lc0B (by decide) b_X12_init_105) (lc0N (by decide) b_X12_init_105 rfl) (lc0O (by decide) rfl) (lc0H (by decide)) (by decide) (by decide) (Nat.le_of_ble_eq_true rfl) (Nat.le_of_ble_eq_true rfl) (Nat.le_of_ble_eq_true rfl) dX12_init_446 (fun H Z => ?_)
  refine z_put (M1 := q_X12_init_106) C Z (lc0L (by decide) h_X12_init_125) (by decide) rfl zc12 zin12 tyX12_ok nmX12 55 (by decide) k_1231 rfl (zUp_R (v := 0 + 1) (t := 40) rfl (by decide) rfl) (Or.inr ⟨hin rfl, rfl⟩) rfl rfl dX12_init_448 (fun H locs Z => ?_)
  refine lv_aload_n C.x C.b dX12_init_451 rfl (lv_at hl 0 rfl) ?_
  refine lv_bipush (v := 8) C.x C.b dX12_init_452 (by decide) ?_
  refine z_newa (atype := .int) (ty := .int) (i := 0) (N := 8) (r := 41) (b := 0) (M1 := q_X12_init_107) C Z rfl rfl rfl kk_155 (by decide) (b_X12_init_107) (a_X12_init_107) rfl (fun k => sv0_new (by decide) b_X12_init_107 rfl) (lc0B (by decide) b_X12_init_107) (lc0N (by decide) b_X12_init_107 rfl) (lc0O (by decide) rfl) (lc0H (by decide)) (by decide) (by decide) (Nat.le_of_ble_eq_true rfl) (Nat.le_of_ble_eq_true rfl) (Nat.le_of_ble_eq_true rfl) dX12_init_454 (fun H Z => ?_)
  refine z_put (M1 := q_X12_init_108) C Z (lc0L (by decide) h_X12_init_126) (by decide) rfl zc12 zin12 tyX12_ok nmX12 56 (by decide) k_1232 rfl (zUp_R (v := 0 + 1) (t := 41) rfl (by decide) rfl) (Or.inr ⟨hin rfl, rfl⟩) rfl rfl dX12_init_456 (fun H locs Z => ?_)
  refine lv_aload_n C.x C.b dX12_init_459 rfl (lv_at hl 0 rfl) ?_
  refine lv_bipush (v := 8) C.x C.b dX12_init_460 (by decide) ?_
  refine z_newa (atype := .int) (ty := .int) (i := 0) (N := 8) (r := 42) (b := 0) (M1 := q_X12_init_109) C Z rfl rfl rfl kk_155 (by decide) (b_X12_init_109) (a_X12_init_109) rfl (fun k => sv0_new (by decide) b_X12_init_109 rfl) (lc0B (by decide) b_X12_init_109) (lc0N (by decide) b_X12_init_109 rfl) (lc0O (by decide) rfl) (lc0H (by decide)) (by decide) (by decide) (Nat.le_of_ble_eq_true rfl) (Nat.le_of_ble_eq_true rfl) (Nat.le_of_ble_eq_true rfl) dX12_init_462 (fun H Z => ?_)
  refine z_put (M1 := q_X12_init_110) C Z (lc0L (by decide) h_X12_init_127) (by decide) rfl zc12 zin12 tyX12_ok nmX12 57 (by decide) k_1233 rfl (zUp_R (v := 0 + 1) (t := 42) rfl (by decide) rfl) (Or.inr ⟨hin rfl, rfl⟩) rfl rfl dX12_init_464 (fun H locs Z => ?_)
  refine lv_aload_n C.x C.b dX12_init_467 rfl (lv_at hl 0 rfl) ?_
  refine lv_bipush (v := 8) C.x C.b dX12_init_468 (by decide) ?_
  refine z_newa (atype := .int) (ty := .int) (i := 0) (N := 8) (r := 43) (b := 0) (M1 := q_X12_init_111) C Z rfl rfl rfl kk_155 (by decide) (b_X12_init_111) (a_X12_init_111) rfl (fun k => sv0_new (by decide) b_X12_init_111 rfl) (lc0B (by decide) b_X12_init_111) (lc0N (by decide) b_X12_init_111 rfl) (lc0O (by decide) rfl) (lc0H (by decide)) (by decide) (by decide) (Nat.le_of_ble_eq_true rfl) (Nat.le_of_ble_eq_true rfl) (Nat.le_of_ble_eq_true rfl) dX12_init_470 (fun H Z => ?_)
  refine z_put (M1 := q_X12_init_112) C Z (lc0L (by decide) h_X12_init_128) (by decide) rfl zc12 zin12 tyX12_ok nmX12 58 (by decide) k_1234 rfl (zUp_R (v := 0 + 1) (t := 43) rfl (by decide) rfl) (Or.inr ⟨hin rfl, rfl⟩) rfl rfl dX12_init_472 (fun H locs Z => ?_)
  refine lv_aload_n C.x C.b dX12_init_475 rfl (lv_at hl 0 rfl) ?_
  refine lv_bipush (v := 8) C.x C.b dX12_init_476 (by decide) ?_
  refine z_newa (atype := .int) (ty := .int) (i := 0) (N := 8) (r := 44) (b := 0) (M1 := q_X12_init_113) C Z rfl rfl rfl kk_155 (by decide) (b_X12_init_113) (a_X12_init_113) rfl (fun k => sv0_new (by decide) b_X12_init_113 rfl) (lc0B (by decide) b_X12_init_113) (lc0N (by decide) b_X12_init_113 rfl) (lc0O (by decide) rfl) (lc0H (by decide)) (by decide) (by decide) (Nat.le_of_ble_eq_true rfl) (Nat.le_of_ble_eq_true rfl) (Nat.le_of_ble_eq_true rfl) dX12_init_478 (fun H Z => ?_)
  refine z_put (M1 := q_X12_init_114) C Z (lc0L (by decide) h_X12_init_129) (by decide) rfl zc12 zin12 tyX12_ok nmX12 59 (by decide) k_1235 rfl (zUp_R (v := 0 + 1) (t := 44) rfl (by decide) rfl) (Or.inr ⟨hin rfl, rfl⟩) rfl rfl dX12_init_480 (fun H locs Z => ?_)
  refine lv_aload_n C.x C.b dX12_init_483 rfl (lv_at hl 0 rfl) ?_
  refine lv_bipush (v := 20) C.x C.b dX12_init_484 (by decide) ?_
  refine z_newa (atype := .int) (ty := .int) (i := 0) (N := 20) (r := 45) (b := 0) (M1 := q_X12_init_115) C Z rfl rfl rfl kk_155 (by decide) (b_X12_init_115) (a_X12_init_115) rfl (fun k => sv0_new (by decide) b_X12_init_115 rfl) (lc0B (by decide) b_X12_init_115) (lc0N (by decide) b_X12_init_115 rfl) (lc0O (by decide) rfl) (lc0H (by decide)) (by decide) (by decide) (Nat.le_of_ble_eq_true rfl) (Nat.le_of_ble_eq_true rfl) (Nat.le_of_ble_eq_true rfl) dX12_init_486 (fun H Z => ?_)
  refine z_put (M1 := q_X12_init_116) C Z (lc0L (by decide) h_X12_init_130) (by decide) rfl zc12 zin12 tyX12_ok nmX12 60 (by decide) k_1236 rfl (zUp_R (v := 0 + 1) (t := 45) rfl (by decide) rfl) (Or.inr ⟨hin rfl, rfl⟩) rfl rfl dX12_init_488 (fun H locs Z => ?_)
  refine lv_aload_n C.x C.b dX12_init_491 rfl (lv_at hl 0 rfl) ?_
  refine lv_bipush (v := 20) C.x C.b dX12_init_492 (by decide) ?_
  refine z_newa (atype := .int) (ty := .int) (i := 0) (N := 20) (r := 46) (b := 0) (M1 := q_X12_init_117) C Z rfl rfl rfl kk_155 (by decide) (b_X12_init_117) (a_X12_init_117) rfl (fun k => sv0_new (by decide) b_X12_init_117 rfl) (lc0B (by decide) b_X12_init_117) (lc0N (by decide) b_X12_init_117 rfl) (lc0O (by decide) rfl) (lc0H (by decide)) (by decide) (by decide) (Nat.le_of_ble_eq_true rfl) (Nat.le_of_ble_eq_true rfl) (Nat.le_of_ble_eq_true rfl) dX12_init_494 (fun H Z => ?_)
  refine z_put (M1 := q_X12_init_118) C Z (lc0L (by decide) h_X12_init_131) (by decide) rfl zc12 zin12 tyX12_ok nmX12 61 (by decide) k_1237 rfl (zUp_R (v := 0 + 1) (t := 46) rfl (by decide) rfl) (Or.inr ⟨hin rfl, rfl⟩) rfl rfl dX12_init_496 (fun H locs Z => ?_)
  refine lv_aload_n C.x C.b dX12_init_499 rfl (lv_at hl 0 rfl) ?_
  refine lv_bipush (v := 8) C.x C.b dX12_init_500 (by decide) ?_
  refine z_newa (atype := .int) (ty := .int) (i := 0) (N := 8) (r := 47) (b := 0) (M1 := q_X12_init_119) C Z rfl rfl rfl kk_155 (by decide) (b_X12_init_119) (a_X12_init_119) rfl (fun k => sv0_new (by decide) b_X12_init_119 rfl) (lc0B (by decide) b_X12_init_119) (lc0N (by decide) b_X12_init_119 rfl) (lc0O (by decide) rfl) (lc0H (by decide)) (by decide) (by decide) (Nat.le_of_ble_eq_true rfl) (Nat.le_of_ble_eq_true rfl) (Nat.le_of_ble_eq_true rfl) dX12_init_502 (fun H Z => ?_)
  refine lv_dup C.x C.b dX12_init_504 rfl ?_
  refine lv_iconst (v := 0) C.x C.b dX12_init_505 (by decide) ?_
  refine lv_iconst (v := (-1)) C.x C.b dX12_init_506 (by decide) ?_
  refine z_iast (M1 := q_X12_init_120) C Z (lc0L (by decide) h_X12_init_132) (by decide) rfl (show vq 0 8 by decide) rfl rfl dX12_init_507 (fun H locs Z => ?_)
  refine lv_dup C.x C.b dX12_init_508 rfl ?_
  refine lv_iconst (v := 1) C.x C.b dX12_init_509 (by decide) ?_
  refine lv_iconst (v := (-1)) C.x C.b dX12_init_510 (by decide) ?_
  refine z_iast (M1 := q_X12_init_121) C Z (lc0L (by decide) h_X12_init_133) (by decide) rfl (show vq 1 8 by decide) rfl rfl dX12_init_511 (fun H locs Z => ?_)
  refine lv_dup C.x C.b dX12_init_512 rfl ?_
  refine lv_iconst (v := 2) C.x C.b dX12_init_513 (by decide) ?_
  refine lv_iconst (v := (-1)) C.x C.b dX12_init_514 (by decide) ?_
  refine z_iast (M1 := q_X12_init_122) C Z (lc0L (by decide) h_X12_init_134) (by decide) rfl (show vq 2 8 by decide) rfl rfl dX12_init_515 (fun H locs Z => ?_)
  refine lv_dup C.x C.b dX12_init_516 rfl ?_
  refine lv_iconst (v := 3) C.x C.b dX12_init_517 (by decide) ?_
  refine lv_iconst (v := (-1)) C.x C.b dX12_init_518 (by decide) ?_
  refine z_iast (M1 := q_X12_init_123) C Z (lc0L (by decide) h_X12_init_135) (by decide) rfl (show vq 3 8 by decide) rfl rfl dX12_init_519 (fun H locs Z => ?_)
  refine lv_dup C.x C.b dX12_init_520 rfl ?_
  refine lv_iconst (v := 4) C.x C.b dX12_init_521 (by decide) ?_
  refine lv_iconst (v := (-1)) C.x C.b dX12_init_522 (by decide) ?_
  refine z_iast (M1 := q_X12_init_124) C Z (lc0L (by decide) h_X12_init_136) (by decide) rfl (show vq 4 8 by decide) rfl rfl dX12_init_523 (fun H locs Z => ?_)
  refine lv_dup C.x C.b dX12_init_524 rfl ?_
  refine lv_iconst (v := 5) C.x C.b dX12_init_525 (by decide) ?_
  refine lv_iconst (v := (-1)) C.x C.b dX12_init_526 (by decide) ?_
  refine z_iast (M1 := q_X12_init_125) C Z (lc0L (by decide) h_X12_init_137) (by decide) rfl (show vq 5 8 by decide) rfl rfl dX12_init_527 (fun H locs Z => ?_)
  refine lv_dup C.x C.b dX12_init_528 rfl ?_
  refine lv_bipush (v := 6) C.x C.b dX12_init_529 (by decide) ?_
  refine lv_iconst (v := (-1)) C.x C.b dX12_init_531 (by decide) ?_
  refine z_iast (M1 := q_X12_init_126) C Z (lc0L (by decide) h_X12_init_138) (by decide) rfl (show vq 6 8 by decide) rfl rfl dX12_init_532 (fun H locs Z => ?_)
  refine lv_dup C.x C.b dX12_init_533 rfl ?_
  refine lv_bipush (v := 7) C.x C.b dX12_init_534 (by decide) ?_
  refine lv_iconst (v := (-1)) C.x C.b dX12_init_536 (by decide) ?_
  refine z_iast (M1 := q_X12_init_127) C Z (lc0L (by decide) h_X12_init_139) (by decide) rfl (show vq 7 8 by decide) rfl rfl dX12_init_537 (fun H locs Z => ?_)
  refine z_put (M1 := q_X12_init_128) C Z (lc0L (by decide) h_X12_init_140) (by decide) rfl zc12 zin12 tyX12_ok nmX12 62 (by decide) k_1238 rfl (zUp_R (v := 0 + 1) (t := 47) rfl (by decide) rfl) (Or.inr ⟨hin rfl, rfl⟩) rfl rfl dX12_init_538 (fun H locs Z => ?_)
  refine lv_aload_n C.x C.b dX12_init_541 rfl (lv_at hl 0 rfl) ?_
  refine lv_bipush (v := 8) C.x C.b dX12_init_542 (by decide) ?_
  refine z_newa (atype := .int) (ty := .int) (i := 0) (N := 8) (r := 48) (b := 0) (M1 := q_X12_init_129) C Z rfl rfl rfl kk_155 (by decide) (b_X12_init_129) (a_X12_init_129) rfl (fun k => sv0_new (by decide) b_X12_init_129 rfl) (lc0B (by decide) b_X12_init_129) (lc0N (by decide) b_X12_init_129 rfl) (lc0O (by decide) rfl) (lc0H (by decide)) (by decide) (by decide) (Nat.le_of_ble_eq_true rfl) (Nat.le_of_ble_eq_true rfl) (Nat.le_of_ble_eq_true rfl) dX12_init_544 (fun H Z => ?_)
  refine z_put (M1 := q_X12_init_130) C Z (lc0L (by decide) h_X12_init_141) (by decide) rfl zc12 zin12 tyX12_ok nmX12 63 (by decide) k_1239 rfl (zUp_R (v := 0 + 1) (t := 48) rfl (by decide) rfl) (Or.inr ⟨hin rfl, rfl⟩) rfl rfl dX12_init_546 (fun H locs Z => ?_)
  refine lv_aload_n C.x C.b dX12_init_549 rfl (lv_at hl 0 rfl) ?_
  refine lv_bipush (v := 8) C.x C.b dX12_init_550 (by decide) ?_
  refine z_newa (atype := .int) (ty := .int) (i := 0) (N := 8) (r := 49) (b := 0) (M1 := q_X12_init_131) C Z rfl rfl rfl kk_155 (by decide) (b_X12_init_131) (a_X12_init_131) rfl (fun k => sv0_new (by decide) b_X12_init_131 rfl) (lc0B (by decide) b_X12_init_131) (lc0N (by decide) b_X12_init_131 rfl) (lc0O (by decide) rfl) (lc0H (by decide)) (by decide) (by decide) (Nat.le_of_ble_eq_true rfl) (Nat.le_of_ble_eq_true rfl) (Nat.le_of_ble_eq_true rfl) dX12_init_552 (fun H Z => ?_)
  refine z_put (M1 := q_X12_init_132) C Z (lc0L (by decide) h_X12_init_142) (by decide) rfl zc12 zin12 tyX12_ok nmX12 64 (by decide) k_1240 rfl (zUp_R (v := 0 + 1) (t := 49) rfl (by decide) rfl) (Or.inr ⟨hin rfl, rfl⟩) rfl rfl dX12_init_554 (fun H locs Z => ?_)
  refine lv_aload_n C.x C.b dX12_init_557 rfl (lv_at hl 0 rfl) ?_
  refine lv_sipush (v := 150) C.x C.b dX12_init_558 (by decide) ?_
  refine z_newa (atype := .boolean) (ty := .boolean) (i := 2) (N := 150) (r := 50) (b := 0) (M1 := q_X12_init_133) C Z rfl rfl rfl kk_1393 (by decide) (b_X12_init_133) (a_X12_init_133) rfl (fun k => sv0_new (by decide) b_X12_init_133 rfl) (lc0B (by decide) b_X12_init_133) (lc0N (by decide) b_X12_init_133 rfl) (lc0O (by decide) rfl) (lc0H (by decide)) (by decide) (by decide) (Nat.le_of_ble_eq_true rfl) (Nat.le_of_ble_eq_true rfl) (Nat.le_of_ble_eq_true rfl) dX12_init_561 (fun H Z => ?_)
  refine z_put (M1 := q_X12_init_134) C Z (lc0L (by decide) h_X12_init_143) (by decide) rfl zc12 zin12 tyX12_ok nmX12 65 (by decide) k_1241 rfl (zUp_R (v := 0 + 1) (t := 50) rfl (by decide) rfl) (Or.inr ⟨hin rfl, rfl⟩) rfl rfl dX12_init_563 (fun H locs Z => ?_)
  refine lv_aload_n C.x C.b dX12_init_566 rfl (lv_at hl 0 rfl) ?_
  refine lv_iconst (v := 0) C.x C.b dX12_init_567 (by decide) ?_
  refine z_put (M1 := q_X12_init_135) C Z (lc0L (by decide) h_X12_init_144) (by decide) rfl zc12 zin12 tyX12_ok nmX12 66 (by decide) k_1242 rfl (zUp_I rfl rfl) (Or.inl rfl) rfl rfl dX12_init_568 (fun H locs Z => ?_)
  refine lv_aload_n C.x C.b dX12_init_571 rfl (lv_at hl 0 rfl) ?_
  refine lv_bipush (v := 20) C.x C.b dX12_init_572 (by decide) ?_
  refine z_newa (atype := .int) (ty := .int) (i := 0) (N := 20) (r := 51) (b := 0) (M1 := q_X12_init_136) C Z rfl rfl rfl kk_155 (by decide) (b_X12_init_136) (a_X12_init_136) rfl (fun k => sv0_new (by decide) b_X12_init_136 rfl) (lc0B (by decide) b_X12_init_136) (lc0N (by decide) b_X12_init_136 rfl) (lc0O (by decide) rfl) (lc0H (by decide)) (by decide) (by decide) (Nat.le_of_ble_eq_true rfl) (Nat.le_of_ble_eq_true rfl) (Nat.le_of_ble_eq_true rfl) dX12_init_574 (fun H Z => ?_)
  refine z_put (M1 := q_X12_init_137) C Z (lc0L (by decide) h_X12_init_145) (by decide) rfl zc12 zin12 tyX12_ok nmX12 67 (by decide) k_1243 rfl (zUp_R (v := 0 + 1) (t := 51) rfl (by decide) rfl) (Or.inr ⟨hin rfl, rfl⟩) rfl rfl dX12_init_576 (fun H locs Z => ?_)
  refine lv_aload_n C.x C.b dX12_init_579 rfl (lv_at hl 0 rfl) ?_
  refine lv_bipush (v := 6) C.x C.b dX12_init_580 (by decide) ?_
  refine z_newa (atype := .int) (ty := .int) (i := 0) (N := 6) (r := 52) (b := 0) (M1 := q_X12_init_138) C Z rfl rfl rfl kk_155 (by decide) (b_X12_init_138) (a_X12_init_138) rfl (fun k => sv0_new (by decide) b_X12_init_138 rfl) (lc0B (by decide) b_X12_init_138) (lc0N (by decide) b_X12_init_138 rfl) (lc0O (by decide) rfl) (lc0H (by decide)) (by decide) (by decide) (Nat.le_of_ble_eq_true rfl) (Nat.le_of_ble_eq_true rfl) (Nat.le_of_ble_eq_true rfl) dX12_init_582 (fun H Z => ?_)
  refine lv_dup C.x C.b dX12_init_584 rfl ?_
  refine lv_iconst (v := 0) C.x C.b dX12_init_585 (by decide) ?_
  refine lv_iconst (v := (-1)) C.x C.b dX12_init_586 (by decide) ?_
  refine z_iast (M1 := q_X12_init_139) C Z (lc0L (by decide) h_X12_init_146) (by decide) rfl (show vq 0 6 by decide) rfl rfl dX12_init_587 (fun H locs Z => ?_)
  refine lv_dup C.x C.b dX12_init_588 rfl ?_
  refine lv_iconst (v := 1) C.x C.b dX12_init_589 (by decide) ?_
  refine lv_iconst (v := (-1)) C.x C.b dX12_init_590 (by decide) ?_
  refine z_iast (M1 := q_X12_init_140) C Z (lc0L (by decide) h_X12_init_147) (by decide) rfl (show vq 1 6 by decide) rfl rfl dX12_init_591 (fun H locs Z => ?_)
  refine lv_dup C.x C.b dX12_init_592 rfl ?_
  refine lv_iconst (v := 2) C.x C.b dX12_init_593 (by decide) ?_
  refine lv_iconst (v := (-1)) C.x C.b dX12_init_594 (by decide) ?_
  refine z_iast (M1 := q_X12_init_141) C Z (lc0L (by decide) h_X12_init_148) (by decide) rfl (show vq 2 6 by decide) rfl rfl dX12_init_595 (fun H locs Z => ?_)
  refine lv_dup C.x C.b dX12_init_596 rfl ?_
  refine lv_iconst (v := 3) C.x C.b dX12_init_597 (by decide) ?_
  refine lv_iconst (v := (-1)) C.x C.b dX12_init_598 (by decide) ?_
  refine z_iast (M1 := q_X12_init_142) C Z (lc0L (by decide) h_X12_init_149) (by decide) rfl (show vq 3 6 by decide) rfl rfl dX12_init_599 (fun H locs Z => ?_)
  refine lv_dup C.x C.b dX12_init_600 rfl ?_
  refine lv_iconst (v := 4) C.x C.b dX12_init_601 (by decide) ?_
  refine lv_iconst (v := (-1)) C.x C.b dX12_init_602 (by decide) ?_
  refine z_iast (M1 := q_X12_init_143) C Z (lc0L (by decide) h_X12_init_150) (by decide) rfl (show vq 4 6 by decide) rfl rfl dX12_init_603 (fun H locs Z => ?_)
  refine lv_dup C.x C.b dX12_init_604 rfl ?_
  refine lv_iconst (v := 5) C.x C.b dX12_init_605 (by decide) ?_
  refine lv_iconst (v := (-1)) C.x C.b dX12_init_606 (by decide) ?_
  refine z_iast (M1 := q_X12_init_144) C Z (lc0L (by decide) h_X12_init_151) (by decide) rfl (show vq 5 6 by decide) rfl rfl dX12_init_607 (fun H locs Z => ?_)
  refine z_put (M1 := q_X12_init_145) C Z (lc0L (by decide) h_X12_init_152) (by decide) rfl zc12 zin12 tyX12_ok nmX12 68 (by decide) k_1244 rfl (zUp_R (v := 0 + 1) (t := 52) rfl (by decide) rfl) (Or.inr ⟨hin rfl, rfl⟩) rfl rfl dX12_init_608 (fun H locs Z => ?_)
  refine lv_aload_n C.x C.b dX12_init_611 rfl (lv_at hl 0 rfl) ?_
  refine lv_bipush (v := 6) C.x C.b dX12_init_612 (by decide) ?_
  refine z_newa (atype := .int) (ty := .int) (i := 0) (N := 6) (r := 53) (b := 0) (M1 := q_X12_init_146) C Z rfl rfl rfl kk_155 (by decide) (b_X12_init_146) (a_X12_init_146) rfl (fun k => sv0_new (by decide) b_X12_init_146 rfl) (lc0B (by decide) b_X12_init_146) (lc0N (by decide) b_X12_init_146 rfl) (lc0O (by decide) rfl) (lc0H (by decide)) (by decide) (by decide) (Nat.le_of_ble_eq_true rfl) (Nat.le_of_ble_eq_true rfl) (Nat.le_of_ble_eq_true rfl) dX12_init_614 (fun H Z => ?_)
  refine z_put (M1 := q_X12_init_147) C Z (lc0L (by decide) h_X12_init_153) (by decide) rfl zc12 zin12 tyX12_ok nmX12 69 (by decide) k_1245 rfl (zUp_R (v := 0 + 1) (t := 53) rfl (by decide) rfl) (Or.inr ⟨hin rfl, rfl⟩) rfl rfl dX12_init_616 (fun H locs Z => ?_)
  refine lv_aload_n C.x C.b dX12_init_619 rfl (lv_at hl 0 rfl) ?_
  refine lv_sipush (v := 360) C.x C.b dX12_init_620 (by decide) ?_
  refine z_newa (atype := .long) (ty := .long) (i := 1) (N := 360) (r := 54) (b := 0) (M1 := q_X12_init_148) C Z rfl rfl rfl kk_361 (by decide) (b_X12_init_148) (a_X12_init_148) rfl (fun k => sv0_new (by decide) b_X12_init_148 rfl) (lc0B (by decide) b_X12_init_148) (lc0N (by decide) b_X12_init_148 rfl) (lc0O (by decide) rfl) (lc0H (by decide)) (by decide) (by decide) (Nat.le_of_ble_eq_true rfl) (Nat.le_of_ble_eq_true rfl) (Nat.le_of_ble_eq_true rfl) dX12_init_623 (fun H Z => ?_)
  refine z_put (M1 := q_X12_init_149) C Z (lc0L (by decide) h_X12_init_154) (by decide) rfl zc12 zin12 tyX12_ok nmX12 70 (by decide) k_1246 rfl (zUp_R (v := 0 + 1) (t := 54) rfl (by decide) rfl) (Or.inr ⟨hin rfl, rfl⟩) rfl rfl dX12_init_625 (fun H locs Z => ?_)
  refine lv_aload_n C.x C.b dX12_init_628 rfl (lv_at hl 0 rfl) ?_
  refine lv_bipush (v := 60) C.x C.b dX12_init_629 (by decide) ?_
  refine z_newa (atype := .long) (ty := .long) (i := 1) (N := 60) (r := 55) (b := 0) (M1 := q_X12_init_150) C Z rfl rfl rfl kk_361 (by decide) (b_X12_init_150) (a_X12_init_150) rfl (fun k => sv0_new (by decide) b_X12_init_150 rfl) (lc0B (by decide) b_X12_init_150) (lc0N (by decide) b_X12_init_150 rfl) (lc0O (by decide) rfl) (lc0H (by decide)) (by decide) (by decide) (Nat.le_of_ble_eq_true rfl) (Nat.le_of_ble_eq_true rfl) (Nat.le_of_ble_eq_true rfl) dX12_init_631 (fun H Z => ?_)
  refine z_put (M1 := q_X12_init_151) C Z (lc0L (by decide) h_X12_init_155) (by decide) rfl zc12 zin12 tyX12_ok nmX12 71 (by decide) k_1247 rfl (zUp_R (v := 0 + 1) (t := 55) rfl (by decide) rfl) (Or.inr ⟨hin rfl, rfl⟩) rfl rfl dX12_init_633 (fun H locs Z => ?_)
  refine lv_iconst (v := 0) C.x C.b dX12_init_636 (by decide) ?_
  refine z_istore_n (lv' := [(1, .int 0), (0, .ref (ad 0 0))]) C dX12_init_637 rfl hl (by decide) rfl (onlast 0 rfl rfl rfl) (fun ls hl => ?_)
  rw [← St_0] at Z
  refine w_X12_638 C hR (cf := 55) (sf := 3895) (Nat.le_of_ble_eq_true rfl) (Nat.le_of_ble_eq_true rfl) (fun H locs ls Z hl => ?_) 150 0 _ _ _ _ _ rfl (Nat.le_of_ble_eq_true rfl) (Nat.le_of_ble_eq_true rfl) Z (lv_sub hl [1, 0] rfl)
  replace hl : lv_has ls 2 [(0, .ref (ad 0 0)), (1, .int (nI 150))] := hl
  refine lv_iconst (v := 0) C.x C.b dX12_init_658 (by decide) ?_
  refine z_istore_n (lv' := [(1, .int 0), (0, .ref (ad 0 0))]) C dX12_init_659 rfl hl (by decide) rfl (onlast 0 rfl rfl rfl) (fun ls hl => ?_)
  rw [← Mf_0] at Z
  refine w_X12_660 C hR (cf := 55) (sf := 3895) (Nat.le_of_ble_eq_true rfl) (Nat.le_of_ble_eq_true rfl) (fun H locs ls Z hl => ?_) 8 0 _ _ _ _ _ rfl (Nat.le_of_ble_eq_true rfl) (Nat.le_of_ble_eq_true rfl) Z (lv_sub hl [1, 0] rfl)
  replace hl : lv_has ls 2 [(0, .ref (ad 0 0)), (1, .int (nI 8))] := hl
  exact z_vret C Z dX12_init_688
