theorem dX12_init_0 : decode cX12_init 0 = .ok (.aload_n 0, 1) := by decide +kernel
theorem dX12_init_1 : decode cX12_init 1 = .ok (.invokespecial 1, 3) := by decide +kernel
theorem dX12_init_4 : decode cX12_init 4 = .ok (.aload_n 0, 1) := by decide +kernel
theorem dX12_init_5 : decode cX12_init 5 = .ok (.iconst 5, 1) := by decide +kernel
theorem dX12_init_6 : decode cX12_init 6 = .ok (.newarray .int, 2) := by decide +kernel
theorem dX12_init_8 : decode cX12_init 8 = .ok (.putfield 7, 3) := by decide +kernel
theorem dX12_init_11 : decode cX12_init 11 = .ok (.aload_n 0, 1) := by decide +kernel
theorem dX12_init_12 : decode cX12_init 12 = .ok (.iconst 5, 1) := by decide +kernel
theorem dX12_init_13 : decode cX12_init 13 = .ok (.iconst 4, 1) := by decide +kernel
theorem dX12_init_14 : decode cX12_init 14 = .ok (.multianewarray 13 2, 4) := by decide +kernel
theorem dX12_init_18 : decode cX12_init 18 = .ok (.putfield 15, 3) := by decide +kernel
theorem dX12_init_21 : decode cX12_init 21 = .ok (.aload_n 0, 1) := by decide +kernel
theorem dX12_init_22 : decode cX12_init 22 = .ok (.iconst 5, 1) := by decide +kernel
theorem dX12_init_23 : decode cX12_init 23 = .ok (.iconst 3, 1) := by decide +kernel
theorem dX12_init_24 : decode cX12_init 24 = .ok (.multianewarray 13 2, 4) := by decide +kernel
theorem dX12_init_28 : decode cX12_init 28 = .ok (.putfield 18, 3) := by decide +kernel
theorem dX12_init_31 : decode cX12_init 31 = .ok (.aload_n 0, 1) := by decide +kernel
theorem dX12_init_32 : decode cX12_init 32 = .ok (.iconst 5, 1) := by decide +kernel
theorem dX12_init_33 : decode cX12_init 33 = .ok (.iconst 4, 1) := by decide +kernel
theorem dX12_init_34 : decode cX12_init 34 = .ok (.multianewarray 13 2, 4) := by decide +kernel
theorem dX12_init_38 : decode cX12_init 38 = .ok (.putfield 21, 3) := by decide +kernel
theorem dX12_init_41 : decode cX12_init 41 = .ok (.aload_n 0, 1) := by decide +kernel
theorem dX12_init_42 : decode cX12_init 42 = .ok (.iconst 5, 1) := by decide +kernel
theorem dX12_init_43 : decode cX12_init 43 = .ok (.iconst 4, 1) := by decide +kernel
theorem dX12_init_44 : decode cX12_init 44 = .ok (.multianewarray 13 2, 4) := by decide +kernel
theorem dX12_init_48 : decode cX12_init 48 = .ok (.putfield 24, 3) := by decide +kernel
theorem dX12_init_51 : decode cX12_init 51 = .ok (.aload_n 0, 1) := by decide +kernel
theorem dX12_init_52 : decode cX12_init 52 = .ok (.bipush 20, 2) := by decide +kernel
theorem dX12_init_54 : decode cX12_init 54 = .ok (.newarray .int, 2) := by decide +kernel
theorem dX12_init_56 : decode cX12_init 56 = .ok (.putfield 27, 3) := by decide +kernel
theorem dX12_init_59 : decode cX12_init 59 = .ok (.aload_n 0, 1) := by decide +kernel
theorem dX12_init_60 : decode cX12_init 60 = .ok (.bipush 20, 2) := by decide +kernel
theorem dX12_init_62 : decode cX12_init 62 = .ok (.newarray .int, 2) := by decide +kernel
theorem dX12_init_64 : decode cX12_init 64 = .ok (.putfield 30, 3) := by decide +kernel
theorem dX12_init_67 : decode cX12_init 67 = .ok (.aload_n 0, 1) := by decide +kernel
theorem dX12_init_68 : decode cX12_init 68 = .ok (.sipush 150, 3) := by decide +kernel
theorem dX12_init_71 : decode cX12_init 71 = .ok (.newarray .int, 2) := by decide +kernel
theorem dX12_init_73 : decode cX12_init 73 = .ok (.putfield 33, 3) := by decide +kernel
theorem dX12_init_76 : decode cX12_init 76 = .ok (.aload_n 0, 1) := by decide +kernel
theorem dX12_init_77 : decode cX12_init 77 = .ok (.sipush 150, 3) := by decide +kernel
theorem dX12_init_80 : decode cX12_init 80 = .ok (.newarray .int, 2) := by decide +kernel
theorem dX12_init_82 : decode cX12_init 82 = .ok (.putfield 36, 3) := by decide +kernel
theorem dX12_init_85 : decode cX12_init 85 = .ok (.aload_n 0, 1) := by decide +kernel
theorem dX12_init_86 : decode cX12_init 86 = .ok (.sipush 150, 3) := by decide +kernel
theorem dX12_init_89 : decode cX12_init 89 = .ok (.newarray .int, 2) := by decide +kernel
theorem dX12_init_91 : decode cX12_init 91 = .ok (.putfield 39, 3) := by decide +kernel
theorem dX12_init_94 : decode cX12_init 94 = .ok (.aload_n 0, 1) := by decide +kernel
theorem dX12_init_95 : decode cX12_init 95 = .ok (.sipush 150, 3) := by decide +kernel
theorem dX12_init_98 : decode cX12_init 98 = .ok (.newarray .int, 2) := by decide +kernel
theorem dX12_init_100 : decode cX12_init 100 = .ok (.putfield 42, 3) := by decide +kernel
theorem dX12_init_103 : decode cX12_init 103 = .ok (.aload_n 0, 1) := by decide +kernel
theorem dX12_init_104 : decode cX12_init 104 = .ok (.sipush 150, 3) := by decide +kernel
theorem dX12_init_107 : decode cX12_init 107 = .ok (.newarray .int, 2) := by decide +kernel
theorem dX12_init_109 : decode cX12_init 109 = .ok (.putfield 45, 3) := by decide +kernel
theorem dX12_init_112 : decode cX12_init 112 = .ok (.aload_n 0, 1) := by decide +kernel
theorem dX12_init_113 : decode cX12_init 113 = .ok (.sipush 150, 3) := by decide +kernel
theorem dX12_init_116 : decode cX12_init 116 = .ok (.iconst 5, 1) := by decide +kernel
theorem dX12_init_117 : decode cX12_init 117 = .ok (.multianewarray 13 2, 4) := by decide +kernel
theorem dX12_init_121 : decode cX12_init 121 = .ok (.putfield 48, 3) := by decide +kernel
theorem dX12_init_124 : decode cX12_init 124 = .ok (.aload_n 0, 1) := by decide +kernel
theorem dX12_init_125 : decode cX12_init 125 = .ok (.sipush 150, 3) := by decide +kernel
theorem dX12_init_128 : decode cX12_init 128 = .ok (.iconst 4, 1) := by decide +kernel
theorem dX12_init_129 : decode cX12_init 129 = .ok (.multianewarray 13 2, 4) := by decide +kernel
theorem dX12_init_133 : decode cX12_init 133 = .ok (.putfield 51, 3) := by decide +kernel
theorem dX12_init_136 : decode cX12_init 136 = .ok (.aload_n 0, 1) := by decide +kernel
theorem dX12_init_137 : decode cX12_init 137 = .ok (.sipush 150, 3) := by decide +kernel
theorem dX12_init_140 : decode cX12_init 140 = .ok (.newarray .int, 2) := by decide +kernel
theorem dX12_init_142 : decode cX12_init 142 = .ok (.putfield 54, 3) := by decide +kernel
theorem dX12_init_145 : decode cX12_init 145 = .ok (.aload_n 0, 1) := by decide +kernel
theorem dX12_init_146 : decode cX12_init 146 = .ok (.sipush 150, 3) := by decide +kernel
theorem dX12_init_149 : decode cX12_init 149 = .ok (.bipush 24, 2) := by decide +kernel
theorem dX12_init_151 : decode cX12_init 151 = .ok (.multianewarray 13 2, 4) := by decide +kernel
theorem dX12_init_155 : decode cX12_init 155 = .ok (.putfield 57, 3) := by decide +kernel
theorem dX12_init_158 : decode cX12_init 158 = .ok (.aload_n 0, 1) := by decide +kernel
theorem dX12_init_159 : decode cX12_init 159 = .ok (.sipush 150, 3) := by decide +kernel
theorem dX12_init_162 : decode cX12_init 162 = .ok (.sipush 144, 3) := by decide +kernel
theorem dX12_init_165 : decode cX12_init 165 = .ok (.multianewarray 13 2, 4) := by decide +kernel
theorem dX12_init_169 : decode cX12_init 169 = .ok (.putfield 60, 3) := by decide +kernel
theorem dX12_init_172 : decode cX12_init 172 = .ok (.aload_n 0, 1) := by decide +kernel
theorem dX12_init_173 : decode cX12_init 173 = .ok (.sipush 150, 3) := by decide +kernel
theorem dX12_init_176 : decode cX12_init 176 = .ok (.bipush 8, 2) := by decide +kernel
theorem dX12_init_178 : decode cX12_init 178 = .ok (.multianewarray 13 2, 4) := by decide +kernel
theorem dX12_init_182 : decode cX12_init 182 = .ok (.putfield 63, 3) := by decide +kernel
theorem dX12_init_185 : decode cX12_init 185 = .ok (.aload_n 0, 1) := by decide +kernel
theorem dX12_init_186 : decode cX12_init 186 = .ok (.bipush 8, 2) := by decide +kernel
theorem dX12_init_188 : decode cX12_init 188 = .ok (.newarray .int, 2) := by decide +kernel
theorem dX12_init_190 : decode cX12_init 190 = .ok (.putfield 66, 3) := by decide +kernel
theorem dX12_init_193 : decode cX12_init 193 = .ok (.aload_n 0, 1) := by decide +kernel
theorem dX12_init_194 : decode cX12_init 194 = .ok (.bipush 8, 2) := by decide +kernel
theorem dX12_init_196 : decode cX12_init 196 = .ok (.newarray .int, 2) := by decide +kernel
theorem dX12_init_198 : decode cX12_init 198 = .ok (.putfield 69, 3) := by decide +kernel
theorem dX12_init_201 : decode cX12_init 201 = .ok (.aload_n 0, 1) := by decide +kernel
theorem dX12_init_202 : decode cX12_init 202 = .ok (.bipush 8, 2) := by decide +kernel
theorem dX12_init_204 : decode cX12_init 204 = .ok (.newarray .int, 2) := by decide +kernel
theorem dX12_init_206 : decode cX12_init 206 = .ok (.putfield 72, 3) := by decide +kernel
theorem dX12_init_209 : decode cX12_init 209 = .ok (.aload_n 0, 1) := by decide +kernel
theorem dX12_init_210 : decode cX12_init 210 = .ok (.bipush 8, 2) := by decide +kernel
theorem dX12_init_212 : decode cX12_init 212 = .ok (.newarray .boolean, 2) := by decide +kernel
theorem dX12_init_214 : decode cX12_init 214 = .ok (.putfield 75, 3) := by decide +kernel
theorem dX12_init_217 : decode cX12_init 217 = .ok (.aload_n 0, 1) := by decide +kernel
theorem dX12_init_218 : decode cX12_init 218 = .ok (.iconst 4, 1) := by decide +kernel
theorem dX12_init_219 : decode cX12_init 219 = .ok (.newarray .int, 2) := by decide +kernel
theorem dX12_init_221 : decode cX12_init 221 = .ok (.putfield 79, 3) := by decide +kernel
theorem dX12_init_224 : decode cX12_init 224 = .ok (.aload_n 0, 1) := by decide +kernel
theorem dX12_init_225 : decode cX12_init 225 = .ok (.bipush 8, 2) := by decide +kernel
theorem dX12_init_227 : decode cX12_init 227 = .ok (.iconst 4, 1) := by decide +kernel
theorem dX12_init_228 : decode cX12_init 228 = .ok (.multianewarray 13 2, 4) := by decide +kernel
theorem dX12_init_232 : decode cX12_init 232 = .ok (.putfield 82, 3) := by decide +kernel
theorem dX12_init_235 : decode cX12_init 235 = .ok (.aload_n 0, 1) := by decide +kernel
theorem dX12_init_236 : decode cX12_init 236 = .ok (.bipush 8, 2) := by decide +kernel
theorem dX12_init_238 : decode cX12_init 238 = .ok (.newarray .int, 2) := by decide +kernel
theorem dX12_init_240 : decode cX12_init 240 = .ok (.putfield 85, 3) := by decide +kernel
theorem dX12_init_243 : decode cX12_init 243 = .ok (.aload_n 0, 1) := by decide +kernel
theorem dX12_init_244 : decode cX12_init 244 = .ok (.bipush 8, 2) := by decide +kernel
theorem dX12_init_246 : decode cX12_init 246 = .ok (.bipush 20, 2) := by decide +kernel
theorem dX12_init_248 : decode cX12_init 248 = .ok (.multianewarray 13 2, 4) := by decide +kernel
theorem dX12_init_252 : decode cX12_init 252 = .ok (.putfield 88, 3) := by decide +kernel
theorem dX12_init_255 : decode cX12_init 255 = .ok (.aload_n 0, 1) := by decide +kernel
theorem dX12_init_256 : decode cX12_init 256 = .ok (.bipush 8, 2) := by decide +kernel
theorem dX12_init_258 : decode cX12_init 258 = .ok (.newarray .int, 2) := by decide +kernel
theorem dX12_init_260 : decode cX12_init 260 = .ok (.putfield 91, 3) := by decide +kernel
theorem dX12_init_263 : decode cX12_init 263 = .ok (.aload_n 0, 1) := by decide +kernel
theorem dX12_init_264 : decode cX12_init 264 = .ok (.bipush 99, 2) := by decide +kernel
theorem dX12_init_266 : decode cX12_init 266 = .ok (.newarray .int, 2) := by decide +kernel
theorem dX12_init_268 : decode cX12_init 268 = .ok (.putfield 94, 3) := by decide +kernel
theorem dX12_init_271 : decode cX12_init 271 = .ok (.aload_n 0, 1) := by decide +kernel
theorem dX12_init_272 : decode cX12_init 272 = .ok (.bipush 99, 2) := by decide +kernel
theorem dX12_init_274 : decode cX12_init 274 = .ok (.newarray .int, 2) := by decide +kernel
theorem dX12_init_276 : decode cX12_init 276 = .ok (.putfield 97, 3) := by decide +kernel
theorem dX12_init_279 : decode cX12_init 279 = .ok (.aload_n 0, 1) := by decide +kernel
theorem dX12_init_280 : decode cX12_init 280 = .ok (.bipush 99, 2) := by decide +kernel
theorem dX12_init_282 : decode cX12_init 282 = .ok (.newarray .int, 2) := by decide +kernel
theorem dX12_init_284 : decode cX12_init 284 = .ok (.putfield 100, 3) := by decide +kernel
theorem dX12_init_287 : decode cX12_init 287 = .ok (.aload_n 0, 1) := by decide +kernel
theorem dX12_init_288 : decode cX12_init 288 = .ok (.bipush 99, 2) := by decide +kernel
theorem dX12_init_290 : decode cX12_init 290 = .ok (.newarray .int, 2) := by decide +kernel
theorem dX12_init_292 : decode cX12_init 292 = .ok (.putfield 103, 3) := by decide +kernel
theorem dX12_init_295 : decode cX12_init 295 = .ok (.aload_n 0, 1) := by decide +kernel
theorem dX12_init_296 : decode cX12_init 296 = .ok (.bipush 99, 2) := by decide +kernel
theorem dX12_init_298 : decode cX12_init 298 = .ok (.newarray .int, 2) := by decide +kernel
theorem dX12_init_300 : decode cX12_init 300 = .ok (.putfield 106, 3) := by decide +kernel
theorem dX12_init_303 : decode cX12_init 303 = .ok (.aload_n 0, 1) := by decide +kernel
theorem dX12_init_304 : decode cX12_init 304 = .ok (.bipush 99, 2) := by decide +kernel
theorem dX12_init_306 : decode cX12_init 306 = .ok (.newarray .boolean, 2) := by decide +kernel
theorem dX12_init_308 : decode cX12_init 308 = .ok (.putfield 109, 3) := by decide +kernel
theorem dX12_init_311 : decode cX12_init 311 = .ok (.aload_n 0, 1) := by decide +kernel
theorem dX12_init_312 : decode cX12_init 312 = .ok (.bipush 99, 2) := by decide +kernel
theorem dX12_init_314 : decode cX12_init 314 = .ok (.newarray .int, 2) := by decide +kernel
theorem dX12_init_316 : decode cX12_init 316 = .ok (.putfield 112, 3) := by decide +kernel
theorem dX12_init_319 : decode cX12_init 319 = .ok (.aload_n 0, 1) := by decide +kernel
theorem dX12_init_320 : decode cX12_init 320 = .ok (.bipush 99, 2) := by decide +kernel
theorem dX12_init_322 : decode cX12_init 322 = .ok (.iconst 4, 1) := by decide +kernel
theorem dX12_init_323 : decode cX12_init 323 = .ok (.multianewarray 13 2, 4) := by decide +kernel
theorem dX12_init_327 : decode cX12_init 327 = .ok (.putfield 115, 3) := by decide +kernel
theorem dX12_init_330 : decode cX12_init 330 = .ok (.aload_n 0, 1) := by decide +kernel
theorem dX12_init_331 : decode cX12_init 331 = .ok (.bipush 99, 2) := by decide +kernel
theorem dX12_init_333 : decode cX12_init 333 = .ok (.iconst 4, 1) := by decide +kernel
theorem dX12_init_334 : decode cX12_init 334 = .ok (.multianewarray 13 2, 4) := by decide +kernel
theorem dX12_init_338 : decode cX12_init 338 = .ok (.putfield 118, 3) := by decide +kernel
theorem dX12_init_341 : decode cX12_init 341 = .ok (.aload_n 0, 1) := by decide +kernel
theorem dX12_init_342 : decode cX12_init 342 = .ok (.bipush 99, 2) := by decide +kernel
theorem dX12_init_344 : decode cX12_init 344 = .ok (.newarray .int, 2) := by decide +kernel
theorem dX12_init_346 : decode cX12_init 346 = .ok (.putfield 121, 3) := by decide +kernel
theorem dX12_init_349 : decode cX12_init 349 = .ok (.aload_n 0, 1) := by decide +kernel
theorem dX12_init_350 : decode cX12_init 350 = .ok (.bipush 99, 2) := by decide +kernel
theorem dX12_init_352 : decode cX12_init 352 = .ok (.newarray .int, 2) := by decide +kernel
theorem dX12_init_354 : decode cX12_init 354 = .ok (.putfield 124, 3) := by decide +kernel
theorem dX12_init_357 : decode cX12_init 357 = .ok (.aload_n 0, 1) := by decide +kernel
theorem dX12_init_358 : decode cX12_init 358 = .ok (.sipush 500, 3) := by decide +kernel
theorem dX12_init_361 : decode cX12_init 361 = .ok (.bipush 8, 2) := by decide +kernel
theorem dX12_init_363 : decode cX12_init 363 = .ok (.multianewarray 13 2, 4) := by decide +kernel
theorem dX12_init_367 : decode cX12_init 367 = .ok (.putfield 127, 3) := by decide +kernel
theorem dX12_init_370 : decode cX12_init 370 = .ok (.aload_n 0, 1) := by decide +kernel
theorem dX12_init_371 : decode cX12_init 371 = .ok (.bipush 64, 2) := by decide +kernel
theorem dX12_init_373 : decode cX12_init 373 = .ok (.newarray .int, 2) := by decide +kernel
theorem dX12_init_375 : decode cX12_init 375 = .ok (.putfield 130, 3) := by decide +kernel
theorem dX12_init_378 : decode cX12_init 378 = .ok (.aload_n 0, 1) := by decide +kernel
theorem dX12_init_379 : decode cX12_init 379 = .ok (.bipush 64, 2) := by decide +kernel
theorem dX12_init_381 : decode cX12_init 381 = .ok (.newarray .int, 2) := by decide +kernel
theorem dX12_init_383 : decode cX12_init 383 = .ok (.putfield 133, 3) := by decide +kernel
theorem dX12_init_386 : decode cX12_init 386 = .ok (.aload_n 0, 1) := by decide +kernel
theorem dX12_init_387 : decode cX12_init 387 = .ok (.bipush 64, 2) := by decide +kernel
theorem dX12_init_389 : decode cX12_init 389 = .ok (.newarray .int, 2) := by decide +kernel
theorem dX12_init_391 : decode cX12_init 391 = .ok (.putfield 136, 3) := by decide +kernel
theorem dX12_init_394 : decode cX12_init 394 = .ok (.aload_n 0, 1) := by decide +kernel
theorem dX12_init_395 : decode cX12_init 395 = .ok (.bipush 64, 2) := by decide +kernel
theorem dX12_init_397 : decode cX12_init 397 = .ok (.newarray .int, 2) := by decide +kernel
theorem dX12_init_399 : decode cX12_init 399 = .ok (.putfield 139, 3) := by decide +kernel
theorem dX12_init_402 : decode cX12_init 402 = .ok (.aload_n 0, 1) := by decide +kernel
theorem dX12_init_403 : decode cX12_init 403 = .ok (.bipush 64, 2) := by decide +kernel
theorem dX12_init_405 : decode cX12_init 405 = .ok (.newarray .int, 2) := by decide +kernel
theorem dX12_init_407 : decode cX12_init 407 = .ok (.putfield 142, 3) := by decide +kernel
theorem dX12_init_410 : decode cX12_init 410 = .ok (.aload_n 0, 1) := by decide +kernel
theorem dX12_init_411 : decode cX12_init 411 = .ok (.bipush 6, 2) := by decide +kernel
theorem dX12_init_413 : decode cX12_init 413 = .ok (.iconst 4, 1) := by decide +kernel
theorem dX12_init_414 : decode cX12_init 414 = .ok (.multianewarray 13 2, 4) := by decide +kernel
theorem dX12_init_418 : decode cX12_init 418 = .ok (.putfield 145, 3) := by decide +kernel
theorem dX12_init_421 : decode cX12_init 421 = .ok (.aload_n 0, 1) := by decide +kernel
theorem dX12_init_422 : decode cX12_init 422 = .ok (.bipush 6, 2) := by decide +kernel
theorem dX12_init_424 : decode cX12_init 424 = .ok (.iconst 4, 1) := by decide +kernel
theorem dX12_init_425 : decode cX12_init 425 = .ok (.multianewarray 13 2, 4) := by decide +kernel
theorem dX12_init_429 : decode cX12_init 429 = .ok (.putfield 148, 3) := by decide +kernel
theorem dX12_init_432 : decode cX12_init 432 = .ok (.aload_n 0, 1) := by decide +kernel
theorem dX12_init_433 : decode cX12_init 433 = .ok (.bipush 6, 2) := by decide +kernel
theorem dX12_init_435 : decode cX12_init 435 = .ok (.newarray .int, 2) := by decide +kernel
theorem dX12_init_437 : decode cX12_init 437 = .ok (.putfield 151, 3) := by decide +kernel
theorem dX12_init_440 : decode cX12_init 440 = .ok (.aload_n 0, 1) := by decide +kernel
theorem dX12_init_441 : decode cX12_init 441 = .ok (.bipush 6, 2) := by decide +kernel
theorem dX12_init_443 : decode cX12_init 443 = .ok (.newarray .int, 2) := by decide +kernel
theorem dX12_init_445 : decode cX12_init 445 = .ok (.putfield 154, 3) := by decide +kernel
theorem dX12_init_448 : decode cX12_init 448 = .ok (.aload_n 0, 1) := by decide +kernel
theorem dX12_init_449 : decode cX12_init 449 = .ok (.bipush 8, 2) := by decide +kernel
theorem dX12_init_451 : decode cX12_init 451 = .ok (.newarray .int, 2) := by decide +kernel
theorem dX12_init_453 : decode cX12_init 453 = .ok (.putfield 157, 3) := by decide +kernel
theorem dX12_init_456 : decode cX12_init 456 = .ok (.aload_n 0, 1) := by decide +kernel
theorem dX12_init_457 : decode cX12_init 457 = .ok (.bipush 8, 2) := by decide +kernel
theorem dX12_init_459 : decode cX12_init 459 = .ok (.newarray .int, 2) := by decide +kernel
theorem dX12_init_461 : decode cX12_init 461 = .ok (.putfield 160, 3) := by decide +kernel
theorem dX12_init_464 : decode cX12_init 464 = .ok (.aload_n 0, 1) := by decide +kernel
theorem dX12_init_465 : decode cX12_init 465 = .ok (.iconst 4, 1) := by decide +kernel
theorem dX12_init_466 : decode cX12_init 466 = .ok (.iconst 4, 1) := by decide +kernel
theorem dX12_init_467 : decode cX12_init 467 = .ok (.multianewarray 13 2, 4) := by decide +kernel
theorem dX12_init_471 : decode cX12_init 471 = .ok (.putfield 163, 3) := by decide +kernel
theorem dX12_init_474 : decode cX12_init 474 = .ok (.aload_n 0, 1) := by decide +kernel
theorem dX12_init_475 : decode cX12_init 475 = .ok (.bipush 120, 2) := by decide +kernel
theorem dX12_init_477 : decode cX12_init 477 = .ok (.newarray .int, 2) := by decide +kernel
theorem dX12_init_479 : decode cX12_init 479 = .ok (.putfield 166, 3) := by decide +kernel
theorem dX12_init_482 : decode cX12_init 482 = .ok (.aload_n 0, 1) := by decide +kernel
theorem dX12_init_483 : decode cX12_init 483 = .ok (.iconst 3, 1) := by decide +kernel
theorem dX12_init_484 : decode cX12_init 484 = .ok (.newarray .int, 2) := by decide +kernel
theorem dX12_init_486 : decode cX12_init 486 = .ok (.dup, 1) := by decide +kernel
theorem dX12_init_487 : decode cX12_init 487 = .ok (.iconst 0, 1) := by decide +kernel
theorem dX12_init_488 : decode cX12_init 488 = .ok (.iconst (-1), 1) := by decide +kernel
theorem dX12_init_489 : decode cX12_init 489 = .ok (.iastore, 1) := by decide +kernel
theorem dX12_init_490 : decode cX12_init 490 = .ok (.dup, 1) := by decide +kernel
theorem dX12_init_491 : decode cX12_init 491 = .ok (.iconst 1, 1) := by decide +kernel
theorem dX12_init_492 : decode cX12_init 492 = .ok (.iconst (-1), 1) := by decide +kernel
theorem dX12_init_493 : decode cX12_init 493 = .ok (.iastore, 1) := by decide +kernel
theorem dX12_init_494 : decode cX12_init 494 = .ok (.dup, 1) := by decide +kernel
theorem dX12_init_495 : decode cX12_init 495 = .ok (.iconst 2, 1) := by decide +kernel
theorem dX12_init_496 : decode cX12_init 496 = .ok (.iconst (-1), 1) := by decide +kernel
theorem dX12_init_497 : decode cX12_init 497 = .ok (.iastore, 1) := by decide +kernel
theorem dX12_init_498 : decode cX12_init 498 = .ok (.putfield 169, 3) := by decide +kernel
theorem dX12_init_501 : decode cX12_init 501 = .ok (.aload_n 0, 1) := by decide +kernel
theorem dX12_init_502 : decode cX12_init 502 = .ok (.iconst 3, 1) := by decide +kernel
theorem dX12_init_503 : decode cX12_init 503 = .ok (.bipush 64, 2) := by decide +kernel
theorem dX12_init_505 : decode cX12_init 505 = .ok (.multianewarray 13 2, 4) := by decide +kernel
theorem dX12_init_509 : decode cX12_init 509 = .ok (.putfield 172, 3) := by decide +kernel
theorem dX12_init_512 : decode cX12_init 512 = .ok (.aload_n 0, 1) := by decide +kernel
theorem dX12_init_513 : decode cX12_init 513 = .ok (.iconst 3, 1) := by decide +kernel
theorem dX12_init_514 : decode cX12_init 514 = .ok (.newarray .int, 2) := by decide +kernel
theorem dX12_init_516 : decode cX12_init 516 = .ok (.putfield 175, 3) := by decide +kernel
theorem dX12_init_519 : decode cX12_init 519 = .ok (.aload_n 0, 1) := by decide +kernel
theorem dX12_init_520 : decode cX12_init 520 = .ok (.bipush 20, 2) := by decide +kernel
theorem dX12_init_522 : decode cX12_init 522 = .ok (.newarray .int, 2) := by decide +kernel
theorem dX12_init_524 : decode cX12_init 524 = .ok (.putfield 178, 3) := by decide +kernel
theorem dX12_init_527 : decode cX12_init 527 = .ok (.aload_n 0, 1) := by decide +kernel
theorem dX12_init_528 : decode cX12_init 528 = .ok (.iconst 4, 1) := by decide +kernel
theorem dX12_init_529 : decode cX12_init 529 = .ok (.newarray .int, 2) := by decide +kernel
theorem dX12_init_531 : decode cX12_init 531 = .ok (.putfield 181, 3) := by decide +kernel
theorem dX12_init_534 : decode cX12_init 534 = .ok (.aload_n 0, 1) := by decide +kernel
theorem dX12_init_535 : decode cX12_init 535 = .ok (.bipush 6, 2) := by decide +kernel
theorem dX12_init_537 : decode cX12_init 537 = .ok (.newarray .int, 2) := by decide +kernel
theorem dX12_init_539 : decode cX12_init 539 = .ok (.putfield 184, 3) := by decide +kernel
theorem dX12_init_542 : decode cX12_init 542 = .ok (.aload_n 0, 1) := by decide +kernel
theorem dX12_init_543 : decode cX12_init 543 = .ok (.sipush 900, 3) := by decide +kernel
theorem dX12_init_546 : decode cX12_init 546 = .ok (.newarray .int, 2) := by decide +kernel
theorem dX12_init_548 : decode cX12_init 548 = .ok (.putfield 187, 3) := by decide +kernel
theorem dX12_init_551 : decode cX12_init 551 = .ok (.aload_n 0, 1) := by decide +kernel
theorem dX12_init_552 : decode cX12_init 552 = .ok (.iconst 4, 1) := by decide +kernel
theorem dX12_init_553 : decode cX12_init 553 = .ok (.newarray .int, 2) := by decide +kernel
theorem dX12_init_555 : decode cX12_init 555 = .ok (.putfield 190, 3) := by decide +kernel
theorem dX12_init_558 : decode cX12_init 558 = .ok (.aload_n 0, 1) := by decide +kernel
theorem dX12_init_559 : decode cX12_init 559 = .ok (.iconst 5, 1) := by decide +kernel
theorem dX12_init_560 : decode cX12_init 560 = .ok (.newarray .int, 2) := by decide +kernel
theorem dX12_init_562 : decode cX12_init 562 = .ok (.putfield 193, 3) := by decide +kernel
theorem dX12_init_565 : decode cX12_init 565 = .ok (.iconst 1, 1) := by decide +kernel
theorem dX12_init_566 : decode cX12_init 566 = .ok (.istore_n 1, 1) := by decide +kernel
theorem dX12_init_567 : decode cX12_init 567 = .ok (.iload_n 1, 1) := by decide +kernel
theorem dX12_init_568 : decode cX12_init 568 = .ok (.iconst 4, 1) := by decide +kernel
theorem dX12_init_569 : decode cX12_init 569 = .ok (.if_icmp .gt 52, 3) := by decide +kernel
theorem dX12_init_572 : decode cX12_init 572 = .ok (.aload_n 0, 1) := by decide +kernel
theorem dX12_init_573 : decode cX12_init 573 = .ok (.getfield 18, 3) := by decide +kernel
theorem dX12_init_576 : decode cX12_init 576 = .ok (.iload_n 1, 1) := by decide +kernel
theorem dX12_init_577 : decode cX12_init 577 = .ok (.aaload, 1) := by decide +kernel
theorem dX12_init_578 : decode cX12_init 578 = .ok (.iconst 0, 1) := by decide +kernel
theorem dX12_init_579 : decode cX12_init 579 = .ok (.bipush 120, 2) := by decide +kernel
theorem dX12_init_581 : decode cX12_init 581 = .ok (.iastore, 1) := by decide +kernel
theorem dX12_init_582 : decode cX12_init 582 = .ok (.aload_n 0, 1) := by decide +kernel
theorem dX12_init_583 : decode cX12_init 583 = .ok (.getfield 18, 3) := by decide +kernel
theorem dX12_init_586 : decode cX12_init 586 = .ok (.iload_n 1, 1) := by decide +kernel
theorem dX12_init_587 : decode cX12_init 587 = .ok (.aaload, 1) := by decide +kernel
theorem dX12_init_588 : decode cX12_init 588 = .ok (.iconst 1, 1) := by decide +kernel
theorem dX12_init_589 : decode cX12_init 589 = .ok (.bipush 120, 2) := by decide +kernel
theorem dX12_init_591 : decode cX12_init 591 = .ok (.iastore, 1) := by decide +kernel
theorem dX12_init_592 : decode cX12_init 592 = .ok (.iconst 0, 1) := by decide +kernel
theorem dX12_init_593 : decode cX12_init 593 = .ok (.istore_n 2, 1) := by decide +kernel
theorem dX12_init_594 : decode cX12_init 594 = .ok (.iload_n 2, 1) := by decide +kernel
theorem dX12_init_595 : decode cX12_init 595 = .ok (.iconst 4, 1) := by decide +kernel
theorem dX12_init_596 : decode cX12_init 596 = .ok (.if_icmp .ge 19, 3) := by decide +kernel
theorem dX12_init_599 : decode cX12_init 599 = .ok (.aload_n 0, 1) := by decide +kernel
theorem dX12_init_600 : decode cX12_init 600 = .ok (.getfield 21, 3) := by decide +kernel
theorem dX12_init_603 : decode cX12_init 603 = .ok (.iload_n 1, 1) := by decide +kernel
theorem dX12_init_604 : decode cX12_init 604 = .ok (.aaload, 1) := by decide +kernel
theorem dX12_init_605 : decode cX12_init 605 = .ok (.iload_n 2, 1) := by decide +kernel
theorem dX12_init_606 : decode cX12_init 606 = .ok (.bipush 20, 2) := by decide +kernel
theorem dX12_init_608 : decode cX12_init 608 = .ok (.iastore, 1) := by decide +kernel
theorem dX12_init_609 : decode cX12_init 609 = .ok (.iinc 2 1, 3) := by decide +kernel
theorem dX12_init_612 : decode cX12_init 612 = .ok (.goto (-18), 3) := by decide +kernel
theorem dX12_init_615 : decode cX12_init 615 = .ok (.iinc 1 1, 3) := by decide +kernel
theorem dX12_init_618 : decode cX12_init 618 = .ok (.goto (-51), 3) := by decide +kernel
theorem dX12_init_621 : decode cX12_init 621 = .ok (.iconst 0, 1) := by decide +kernel
theorem dX12_init_622 : decode cX12_init 622 = .ok (.istore_n 1, 1) := by decide +kernel
theorem dX12_init_623 : decode cX12_init 623 = .ok (.iload_n 1, 1) := by decide +kernel
theorem dX12_init_624 : decode cX12_init 624 = .ok (.bipush 8, 2) := by decide +kernel
theorem dX12_init_626 : decode cX12_init 626 = .ok (.if_icmp .ge 17, 3) := by decide +kernel
theorem dX12_init_629 : decode cX12_init 629 = .ok (.aload_n 0, 1) := by decide +kernel
theorem dX12_init_630 : decode cX12_init 630 = .ok (.getfield 157, 3) := by decide +kernel
theorem dX12_init_633 : decode cX12_init 633 = .ok (.iload_n 1, 1) := by decide +kernel
theorem dX12_init_634 : decode cX12_init 634 = .ok (.bipush 100, 2) := by decide +kernel
theorem dX12_init_636 : decode cX12_init 636 = .ok (.iastore, 1) := by decide +kernel
theorem dX12_init_637 : decode cX12_init 637 = .ok (.iinc 1 1, 3) := by decide +kernel
theorem dX12_init_640 : decode cX12_init 640 = .ok (.goto (-17), 3) := by decide +kernel
theorem dX12_init_643 : decode cX12_init 643 = .ok (.return_, 1) := by decide +kernel
theorem dX12_in_0 : decode cX12_in 0 = .ok (.iload_n 1, 1) := by decide +kernel
theorem dX12_in_1 : decode cX12_in 1 = .ok (.iload_n 0, 1) := by decide +kernel
theorem dX12_in_2 : decode cX12_in 2 = .ok (.if_icmp .gt 12, 3) := by decide +kernel
theorem dX12_in_5 : decode cX12_in 5 = .ok (.iload_n 0, 1) := by decide +kernel
theorem dX12_in_6 : decode cX12_in 6 = .ok (.iload_n 2, 1) := by decide +kernel
theorem dX12_in_7 : decode cX12_in 7 = .ok (.if_icmp .gt 7, 3) := by decide +kernel
theorem dX12_in_10 : decode cX12_in 10 = .ok (.iconst 1, 1) := by decide +kernel
theorem dX12_in_11 : decode cX12_in 11 = .ok (.goto 4, 3) := by decide +kernel
theorem dX12_in_14 : decode cX12_in 14 = .ok (.iconst 0, 1) := by decide +kernel
theorem dX12_in_15 : decode cX12_in 15 = .ok (.ireturn, 1) := by decide +kernel
theorem dX12_isPlace_0 : decode cX12_isPlace 0 = .ok (.iload_n 0, 1) := by decide +kernel
theorem dX12_isPlace_1 : decode cX12_isPlace 1 = .ok (.iconst 0, 1) := by decide +kernel
theorem dX12_isPlace_2 : decode cX12_isPlace 2 = .ok (.iconst 4, 1) := by decide +kernel
theorem dX12_isPlace_3 : decode cX12_isPlace 3 = .ok (.invokestatic 196, 3) := by decide +kernel
theorem dX12_isPlace_6 : decode cX12_isPlace 6 = .ok (.ireturn, 1) := by decide +kernel
theorem dX12_isFactory_0 : decode cX12_isFactory 0 = .ok (.iload_n 0, 1) := by decide +kernel
theorem dX12_isFactory_1 : decode cX12_isFactory 1 = .ok (.iconst 1, 1) := by decide +kernel
theorem dX12_isFactory_2 : decode cX12_isFactory 2 = .ok (.iconst 4, 1) := by decide +kernel
theorem dX12_isFactory_3 : decode cX12_isFactory 3 = .ok (.invokestatic 196, 3) := by decide +kernel
theorem dX12_isFactory_6 : decode cX12_isFactory 6 = .ok (.ireturn, 1) := by decide +kernel
theorem dX12_isSort_0 : decode cX12_isSort 0 = .ok (.iload_n 0, 1) := by decide +kernel
theorem dX12_isSort_1 : decode cX12_isSort 1 = .ok (.iconst 0, 1) := by decide +kernel
theorem dX12_isSort_2 : decode cX12_isSort 2 = .ok (.iconst 3, 1) := by decide +kernel
theorem dX12_isSort_3 : decode cX12_isSort 3 = .ok (.invokestatic 196, 3) := by decide +kernel
theorem dX12_isSort_6 : decode cX12_isSort 6 = .ok (.ireturn, 1) := by decide +kernel
theorem dX12_factory_0 : decode cX12_factory 0 = .ok (.iload_n 1, 1) := by decide +kernel
theorem dX12_factory_1 : decode cX12_factory 1 = .ok (.invokestatic 200, 3) := by decide +kernel
theorem dX12_factory_4 : decode cX12_factory 4 = .ok (.ifCond .eq 12, 3) := by decide +kernel
theorem dX12_factory_7 : decode cX12_factory 7 = .ok (.iload_n 2, 1) := by decide +kernel
theorem dX12_factory_8 : decode cX12_factory 8 = .ok (.iconst 0, 1) := by decide +kernel
theorem dX12_factory_9 : decode cX12_factory 9 = .ok (.iconst 2, 1) := by decide +kernel
theorem dX12_factory_10 : decode cX12_factory 10 = .ok (.invokestatic 196, 3) := by decide +kernel
theorem dX12_factory_13 : decode cX12_factory 13 = .ok (.ifCond .ne 5, 3) := by decide +kernel
theorem dX12_factory_16 : decode cX12_factory 16 = .ok (.iconst (-1), 1) := by decide +kernel
theorem dX12_factory_17 : decode cX12_factory 17 = .ok (.ireturn, 1) := by decide +kernel
theorem dX12_factory_18 : decode cX12_factory 18 = .ok (.iload_n 2, 1) := by decide +kernel
theorem dX12_factory_19 : decode cX12_factory 19 = .ok (.iconst 2, 1) := by decide +kernel
theorem dX12_factory_20 : decode cX12_factory 20 = .ok (.if_icmp .ge 18, 3) := by decide +kernel
theorem dX12_factory_23 : decode cX12_factory 23 = .ok (.iload_n 3, 1) := by decide +kernel
theorem dX12_factory_24 : decode cX12_factory 24 = .ok (.bipush 20, 2) := by decide +kernel
theorem dX12_factory_26 : decode cX12_factory 26 = .ok (.sipush 240, 3) := by decide +kernel
theorem dX12_factory_29 : decode cX12_factory 29 = .ok (.invokestatic 196, 3) := by decide +kernel
theorem dX12_factory_32 : decode cX12_factory 32 = .ok (.ifCond .ne 19, 3) := by decide +kernel
theorem dX12_factory_35 : decode cX12_factory 35 = .ok (.goto 13, 3) := by decide +kernel
theorem dX12_factory_38 : decode cX12_factory 38 = .ok (.iload_n 3, 1) := by decide +kernel
theorem dX12_factory_39 : decode cX12_factory 39 = .ok (.iconst 0, 1) := by decide +kernel
theorem dX12_factory_40 : decode cX12_factory 40 = .ok (.bipush 50, 2) := by decide +kernel
theorem dX12_factory_42 : decode cX12_factory 42 = .ok (.invokestatic 196, 3) := by decide +kernel
theorem dX12_factory_45 : decode cX12_factory 45 = .ok (.ifCond .ne 6, 3) := by decide +kernel
theorem dX12_factory_48 : decode cX12_factory 48 = .ok (.bipush (-2), 2) := by decide +kernel
theorem dX12_factory_50 : decode cX12_factory 50 = .ok (.ireturn, 1) := by decide +kernel
theorem dX12_factory_51 : decode cX12_factory 51 = .ok (.aload_n 0, 1) := by decide +kernel
theorem dX12_factory_52 : decode cX12_factory 52 = .ok (.getfield 18, 3) := by decide +kernel
theorem dX12_factory_55 : decode cX12_factory 55 = .ok (.iload_n 1, 1) := by decide +kernel
theorem dX12_factory_56 : decode cX12_factory 56 = .ok (.aaload, 1) := by decide +kernel
theorem dX12_factory_57 : decode cX12_factory 57 = .ok (.iload_n 2, 1) := by decide +kernel
theorem dX12_factory_58 : decode cX12_factory 58 = .ok (.iaload, 1) := by decide +kernel
theorem dX12_factory_59 : decode cX12_factory 59 = .ok (.istore 4, 2) := by decide +kernel
theorem dX12_factory_61 : decode cX12_factory 61 = .ok (.aload_n 0, 1) := by decide +kernel
theorem dX12_factory_62 : decode cX12_factory 62 = .ok (.getfield 18, 3) := by decide +kernel
theorem dX12_factory_65 : decode cX12_factory 65 = .ok (.iload_n 1, 1) := by decide +kernel
theorem dX12_factory_66 : decode cX12_factory 66 = .ok (.aaload, 1) := by decide +kernel
theorem dX12_factory_67 : decode cX12_factory 67 = .ok (.iload_n 2, 1) := by decide +kernel
theorem dX12_factory_68 : decode cX12_factory 68 = .ok (.iload_n 3, 1) := by decide +kernel
theorem dX12_factory_69 : decode cX12_factory 69 = .ok (.iastore, 1) := by decide +kernel
theorem dX12_factory_70 : decode cX12_factory 70 = .ok (.iload 4, 2) := by decide +kernel
theorem dX12_factory_72 : decode cX12_factory 72 = .ok (.ireturn, 1) := by decide +kernel
theorem dX12_base_0 : decode cX12_base 0 = .ok (.iload_n 1, 1) := by decide +kernel
theorem dX12_base_1 : decode cX12_base 1 = .ok (.invokestatic 200, 3) := by decide +kernel
theorem dX12_base_4 : decode cX12_base 4 = .ok (.ifCond .eq 10, 3) := by decide +kernel
theorem dX12_base_7 : decode cX12_base 7 = .ok (.iload_n 2, 1) := by decide +kernel
theorem dX12_base_8 : decode cX12_base 8 = .ok (.invokestatic 204, 3) := by decide +kernel
theorem dX12_base_11 : decode cX12_base 11 = .ok (.ifCond .ne 5, 3) := by decide +kernel
theorem dX12_base_14 : decode cX12_base 14 = .ok (.iconst (-1), 1) := by decide +kernel
theorem dX12_base_15 : decode cX12_base 15 = .ok (.ireturn, 1) := by decide +kernel
theorem dX12_base_16 : decode cX12_base 16 = .ok (.iload_n 3, 1) := by decide +kernel
theorem dX12_base_17 : decode cX12_base 17 = .ok (.iconst 1, 1) := by decide +kernel
theorem dX12_base_18 : decode cX12_base 18 = .ok (.sipush 999, 3) := by decide +kernel
theorem dX12_base_21 : decode cX12_base 21 = .ok (.invokestatic 196, 3) := by decide +kernel
theorem dX12_base_24 : decode cX12_base 24 = .ok (.ifCond .ne 6, 3) := by decide +kernel
theorem dX12_base_27 : decode cX12_base 27 = .ok (.bipush (-2), 2) := by decide +kernel
theorem dX12_base_29 : decode cX12_base 29 = .ok (.ireturn, 1) := by decide +kernel
theorem dX12_base_30 : decode cX12_base 30 = .ok (.aload_n 0, 1) := by decide +kernel
theorem dX12_base_31 : decode cX12_base 31 = .ok (.getfield 21, 3) := by decide +kernel
theorem dX12_base_34 : decode cX12_base 34 = .ok (.iload_n 1, 1) := by decide +kernel
theorem dX12_base_35 : decode cX12_base 35 = .ok (.aaload, 1) := by decide +kernel
theorem dX12_base_36 : decode cX12_base 36 = .ok (.iload_n 2, 1) := by decide +kernel
theorem dX12_base_37 : decode cX12_base 37 = .ok (.iaload, 1) := by decide +kernel
theorem dX12_base_38 : decode cX12_base 38 = .ok (.istore 4, 2) := by decide +kernel
theorem dX12_base_40 : decode cX12_base 40 = .ok (.aload_n 0, 1) := by decide +kernel
theorem dX12_base_41 : decode cX12_base 41 = .ok (.getfield 21, 3) := by decide +kernel
theorem dX12_base_44 : decode cX12_base 44 = .ok (.iload_n 1, 1) := by decide +kernel
theorem dX12_base_45 : decode cX12_base 45 = .ok (.aaload, 1) := by decide +kernel
theorem dX12_base_46 : decode cX12_base 46 = .ok (.iload_n 2, 1) := by decide +kernel
theorem dX12_base_47 : decode cX12_base 47 = .ok (.iload_n 3, 1) := by decide +kernel
theorem dX12_base_48 : decode cX12_base 48 = .ok (.iastore, 1) := by decide +kernel
theorem dX12_base_49 : decode cX12_base 49 = .ok (.iload 4, 2) := by decide +kernel
theorem dX12_base_51 : decode cX12_base 51 = .ok (.ireturn, 1) := by decide +kernel
theorem dX12_priceOf_0 : decode cX12_priceOf 0 = .ok (.aload_n 0, 1) := by decide +kernel
theorem dX12_priceOf_1 : decode cX12_priceOf 1 = .ok (.getfield 21, 3) := by decide +kernel
theorem dX12_priceOf_4 : decode cX12_priceOf 4 = .ok (.iload_n 1, 1) := by decide +kernel
theorem dX12_priceOf_5 : decode cX12_priceOf 5 = .ok (.aaload, 1) := by decide +kernel
theorem dX12_priceOf_6 : decode cX12_priceOf 6 = .ok (.iload_n 2, 1) := by decide +kernel
theorem dX12_priceOf_7 : decode cX12_priceOf 7 = .ok (.iaload, 1) := by decide +kernel
theorem dX12_priceOf_8 : decode cX12_priceOf 8 = .ok (.aload_n 0, 1) := by decide +kernel
theorem dX12_priceOf_9 : decode cX12_priceOf 9 = .ok (.getfield 24, 3) := by decide +kernel
theorem dX12_priceOf_12 : decode cX12_priceOf 12 = .ok (.iload_n 1, 1) := by decide +kernel
theorem dX12_priceOf_13 : decode cX12_priceOf 13 = .ok (.aaload, 1) := by decide +kernel
theorem dX12_priceOf_14 : decode cX12_priceOf 14 = .ok (.iload_n 2, 1) := by decide +kernel
theorem dX12_priceOf_15 : decode cX12_priceOf 15 = .ok (.iaload, 1) := by decide +kernel
theorem dX12_priceOf_16 : decode cX12_priceOf 16 = .ok (.iconst 5, 1) := by decide +kernel
theorem dX12_priceOf_17 : decode cX12_priceOf 17 = .ok (.idiv, 1) := by decide +kernel
theorem dX12_priceOf_18 : decode cX12_priceOf 18 = .ok (.iadd, 1) := by decide +kernel
theorem dX12_priceOf_19 : decode cX12_priceOf 19 = .ok (.ireturn, 1) := by decide +kernel
theorem dX12_price_0 : decode cX12_price 0 = .ok (.iload_n 1, 1) := by decide +kernel
theorem dX12_price_1 : decode cX12_price 1 = .ok (.invokestatic 200, 3) := by decide +kernel
theorem dX12_price_4 : decode cX12_price 4 = .ok (.ifCond .eq 19, 3) := by decide +kernel
theorem dX12_price_7 : decode cX12_price 7 = .ok (.iload_n 2, 1) := by decide +kernel
theorem dX12_price_8 : decode cX12_price 8 = .ok (.invokestatic 204, 3) := by decide +kernel
theorem dX12_price_11 : decode cX12_price 11 = .ok (.ifCond .eq 12, 3) := by decide +kernel
theorem dX12_price_14 : decode cX12_price 14 = .ok (.aload_n 0, 1) := by decide +kernel
theorem dX12_price_15 : decode cX12_price 15 = .ok (.iload_n 1, 1) := by decide +kernel
theorem dX12_price_16 : decode cX12_price 16 = .ok (.iload_n 2, 1) := by decide +kernel
theorem dX12_price_17 : decode cX12_price 17 = .ok (.invokevirtual 207, 3) := by decide +kernel
theorem dX12_price_20 : decode cX12_price 20 = .ok (.goto 4, 3) := by decide +kernel
theorem dX12_price_23 : decode cX12_price 23 = .ok (.iconst (-1), 1) := by decide +kernel
theorem dX12_price_24 : decode cX12_price 24 = .ok (.ireturn, 1) := by decide +kernel
theorem dX12_bullion_0 : decode cX12_bullion 0 = .ok (.iload_n 1, 1) := by decide +kernel
theorem dX12_bullion_1 : decode cX12_bullion 1 = .ok (.invokestatic 211, 3) := by decide +kernel
theorem dX12_bullion_4 : decode cX12_bullion 4 = .ok (.ifCond .ne 5, 3) := by decide +kernel
theorem dX12_bullion_7 : decode cX12_bullion 7 = .ok (.iconst (-1), 1) := by decide +kernel
theorem dX12_bullion_8 : decode cX12_bullion 8 = .ok (.ireturn, 1) := by decide +kernel
theorem dX12_bullion_9 : decode cX12_bullion 9 = .ok (.iload_n 2, 1) := by decide +kernel
theorem dX12_bullion_10 : decode cX12_bullion 10 = .ok (.ldc 214, 2) := by decide +kernel
theorem dX12_bullion_12 : decode cX12_bullion 12 = .ok (.ldc 215, 2) := by decide +kernel
theorem dX12_bullion_14 : decode cX12_bullion 14 = .ok (.invokestatic 196, 3) := by decide +kernel
theorem dX12_bullion_17 : decode cX12_bullion 17 = .ok (.ifCond .eq 20, 3) := by decide +kernel
theorem dX12_bullion_20 : decode cX12_bullion 20 = .ok (.aload_n 0, 1) := by decide +kernel
theorem dX12_bullion_21 : decode cX12_bullion 21 = .ok (.getfield 7, 3) := by decide +kernel
theorem dX12_bullion_24 : decode cX12_bullion 24 = .ok (.iload_n 1, 1) := by decide +kernel
theorem dX12_bullion_25 : decode cX12_bullion 25 = .ok (.iaload, 1) := by decide +kernel
theorem dX12_bullion_26 : decode cX12_bullion 26 = .ok (.iload_n 2, 1) := by decide +kernel
theorem dX12_bullion_27 : decode cX12_bullion 27 = .ok (.iadd, 1) := by decide +kernel
theorem dX12_bullion_28 : decode cX12_bullion 28 = .ok (.iconst 0, 1) := by decide +kernel
theorem dX12_bullion_29 : decode cX12_bullion 29 = .ok (.ldc 216, 2) := by decide +kernel
theorem dX12_bullion_31 : decode cX12_bullion 31 = .ok (.invokestatic 196, 3) := by decide +kernel
theorem dX12_bullion_34 : decode cX12_bullion 34 = .ok (.ifCond .ne 6, 3) := by decide +kernel
theorem dX12_bullion_37 : decode cX12_bullion 37 = .ok (.bipush (-2), 2) := by decide +kernel
theorem dX12_bullion_39 : decode cX12_bullion 39 = .ok (.ireturn, 1) := by decide +kernel
theorem dX12_bullion_40 : decode cX12_bullion 40 = .ok (.aload_n 0, 1) := by decide +kernel
theorem dX12_bullion_41 : decode cX12_bullion 41 = .ok (.getfield 7, 3) := by decide +kernel
theorem dX12_bullion_44 : decode cX12_bullion 44 = .ok (.iload_n 1, 1) := by decide +kernel
theorem dX12_bullion_45 : decode cX12_bullion 45 = .ok (.dup2, 1) := by decide +kernel
theorem dX12_bullion_46 : decode cX12_bullion 46 = .ok (.iaload, 1) := by decide +kernel
theorem dX12_bullion_47 : decode cX12_bullion 47 = .ok (.iload_n 2, 1) := by decide +kernel
theorem dX12_bullion_48 : decode cX12_bullion 48 = .ok (.iadd, 1) := by decide +kernel
theorem dX12_bullion_49 : decode cX12_bullion 49 = .ok (.iastore, 1) := by decide +kernel
theorem dX12_bullion_50 : decode cX12_bullion 50 = .ok (.aload_n 0, 1) := by decide +kernel
theorem dX12_bullion_51 : decode cX12_bullion 51 = .ok (.getfield 7, 3) := by decide +kernel
theorem dX12_bullion_54 : decode cX12_bullion 54 = .ok (.iload_n 1, 1) := by decide +kernel
theorem dX12_bullion_55 : decode cX12_bullion 55 = .ok (.iaload, 1) := by decide +kernel
theorem dX12_bullion_56 : decode cX12_bullion 56 = .ok (.ireturn, 1) := by decide +kernel
theorem dX12_stock_0 : decode cX12_stock 0 = .ok (.iload_n 1, 1) := by decide +kernel
theorem dX12_stock_1 : decode cX12_stock 1 = .ok (.invokestatic 211, 3) := by decide +kernel
theorem dX12_stock_4 : decode cX12_stock 4 = .ok (.ifCond .eq 21, 3) := by decide +kernel
theorem dX12_stock_7 : decode cX12_stock 7 = .ok (.iload_n 2, 1) := by decide +kernel
theorem dX12_stock_8 : decode cX12_stock 8 = .ok (.invokestatic 204, 3) := by decide +kernel
theorem dX12_stock_11 : decode cX12_stock 11 = .ok (.ifCond .eq 14, 3) := by decide +kernel
theorem dX12_stock_14 : decode cX12_stock 14 = .ok (.aload_n 0, 1) := by decide +kernel
theorem dX12_stock_15 : decode cX12_stock 15 = .ok (.getfield 15, 3) := by decide +kernel
theorem dX12_stock_18 : decode cX12_stock 18 = .ok (.iload_n 1, 1) := by decide +kernel
theorem dX12_stock_19 : decode cX12_stock 19 = .ok (.aaload, 1) := by decide +kernel
theorem dX12_stock_20 : decode cX12_stock 20 = .ok (.iload_n 2, 1) := by decide +kernel
theorem dX12_stock_21 : decode cX12_stock 21 = .ok (.iaload, 1) := by decide +kernel
theorem dX12_stock_22 : decode cX12_stock 22 = .ok (.goto 4, 3) := by decide +kernel
theorem dX12_stock_25 : decode cX12_stock 25 = .ok (.iconst (-1), 1) := by decide +kernel
theorem dX12_stock_26 : decode cX12_stock 26 = .ok (.ireturn, 1) := by decide +kernel
theorem dX12_person_0 : decode cX12_person 0 = .ok (.iload_n 1, 1) := by decide +kernel
theorem dX12_person_1 : decode cX12_person 1 = .ok (.invokestatic 211, 3) := by decide +kernel
theorem dX12_person_4 : decode cX12_person 4 = .ok (.ifCond .ne 5, 3) := by decide +kernel
theorem dX12_person_7 : decode cX12_person 7 = .ok (.iconst (-1), 1) := by decide +kernel
theorem dX12_person_8 : decode cX12_person 8 = .ok (.ireturn, 1) := by decide +kernel
theorem dX12_person_9 : decode cX12_person 9 = .ok (.iload_n 2, 1) := by decide +kernel
theorem dX12_person_10 : decode cX12_person 10 = .ok (.iconst 0, 1) := by decide +kernel
theorem dX12_person_11 : decode cX12_person 11 = .ok (.bipush 9, 2) := by decide +kernel
theorem dX12_person_13 : decode cX12_person 13 = .ok (.invokestatic 196, 3) := by decide +kernel
theorem dX12_person_16 : decode cX12_person 16 = .ok (.ifCond .ne 6, 3) := by decide +kernel
theorem dX12_person_19 : decode cX12_person 19 = .ok (.bipush (-2), 2) := by decide +kernel
theorem dX12_person_21 : decode cX12_person 21 = .ok (.ireturn, 1) := by decide +kernel
theorem dX12_person_22 : decode cX12_person 22 = .ok (.aload_n 0, 1) := by decide +kernel
theorem dX12_person_23 : decode cX12_person 23 = .ok (.getfield 217, 3) := by decide +kernel
theorem dX12_person_26 : decode cX12_person 26 = .ok (.bipush 20, 2) := by decide +kernel
theorem dX12_person_28 : decode cX12_person 28 = .ok (.if_icmp .ne 6, 3) := by decide +kernel
theorem dX12_person_31 : decode cX12_person 31 = .ok (.bipush (-4), 2) := by decide +kernel
theorem dX12_person_33 : decode cX12_person 33 = .ok (.ireturn, 1) := by decide +kernel
theorem dX12_person_34 : decode cX12_person 34 = .ok (.aload_n 0, 1) := by decide +kernel
theorem dX12_person_35 : decode cX12_person 35 = .ok (.getfield 27, 3) := by decide +kernel
theorem dX12_person_38 : decode cX12_person 38 = .ok (.aload_n 0, 1) := by decide +kernel
theorem dX12_person_39 : decode cX12_person 39 = .ok (.getfield 217, 3) := by decide +kernel
theorem dX12_person_42 : decode cX12_person 42 = .ok (.iload_n 1, 1) := by decide +kernel
theorem dX12_person_43 : decode cX12_person 43 = .ok (.iastore, 1) := by decide +kernel
theorem dX12_person_44 : decode cX12_person 44 = .ok (.aload_n 0, 1) := by decide +kernel
theorem dX12_person_45 : decode cX12_person 45 = .ok (.getfield 30, 3) := by decide +kernel
theorem dX12_person_48 : decode cX12_person 48 = .ok (.aload_n 0, 1) := by decide +kernel
theorem dX12_person_49 : decode cX12_person 49 = .ok (.getfield 217, 3) := by decide +kernel
theorem dX12_person_52 : decode cX12_person 52 = .ok (.iload_n 2, 1) := by decide +kernel
theorem dX12_person_53 : decode cX12_person 53 = .ok (.iastore, 1) := by decide +kernel
theorem dX12_person_54 : decode cX12_person 54 = .ok (.aload_n 0, 1) := by decide +kernel
theorem dX12_person_55 : decode cX12_person 55 = .ok (.dup, 1) := by decide +kernel
theorem dX12_person_56 : decode cX12_person 56 = .ok (.getfield 217, 3) := by decide +kernel
theorem dX12_person_59 : decode cX12_person 59 = .ok (.dup_x1, 1) := by decide +kernel
theorem dX12_person_60 : decode cX12_person 60 = .ok (.iconst 1, 1) := by decide +kernel
theorem dX12_person_61 : decode cX12_person 61 = .ok (.iadd, 1) := by decide +kernel
theorem dX12_person_62 : decode cX12_person 62 = .ok (.putfield 217, 3) := by decide +kernel
theorem dX12_person_65 : decode cX12_person 65 = .ok (.ireturn, 1) := by decide +kernel
theorem dX12_isPerson_0 : decode cX12_isPerson 0 = .ok (.iload_n 1, 1) := by decide +kernel
theorem dX12_isPerson_1 : decode cX12_isPerson 1 = .ok (.iconst 0, 1) := by decide +kernel
theorem dX12_isPerson_2 : decode cX12_isPerson 2 = .ok (.aload_n 0, 1) := by decide +kernel
theorem dX12_isPerson_3 : decode cX12_isPerson 3 = .ok (.getfield 217, 3) := by decide +kernel
theorem dX12_isPerson_6 : decode cX12_isPerson 6 = .ok (.iconst 1, 1) := by decide +kernel
theorem dX12_isPerson_7 : decode cX12_isPerson 7 = .ok (.isub, 1) := by decide +kernel
theorem dX12_isPerson_8 : decode cX12_isPerson 8 = .ok (.invokestatic 196, 3) := by decide +kernel
theorem dX12_isPerson_11 : decode cX12_isPerson 11 = .ok (.ireturn, 1) := by decide +kernel
theorem dX12_goes_0 : decode cX12_goes 0 = .ok (.aload_n 0, 1) := by decide +kernel
theorem dX12_goes_1 : decode cX12_goes 1 = .ok (.iload_n 1, 1) := by decide +kernel
theorem dX12_goes_2 : decode cX12_goes 2 = .ok (.invokevirtual 221, 3) := by decide +kernel
theorem dX12_goes_5 : decode cX12_goes 5 = .ok (.ifCond .eq 10, 3) := by decide +kernel
theorem dX12_goes_8 : decode cX12_goes 8 = .ok (.iload_n 2, 1) := by decide +kernel
theorem dX12_goes_9 : decode cX12_goes 9 = .ok (.invokestatic 211, 3) := by decide +kernel
theorem dX12_goes_12 : decode cX12_goes 12 = .ok (.ifCond .ne 5, 3) := by decide +kernel
theorem dX12_goes_15 : decode cX12_goes 15 = .ok (.iconst (-1), 1) := by decide +kernel
theorem dX12_goes_16 : decode cX12_goes 16 = .ok (.ireturn, 1) := by decide +kernel
theorem dX12_goes_17 : decode cX12_goes 17 = .ok (.aload_n 0, 1) := by decide +kernel
theorem dX12_goes_18 : decode cX12_goes 18 = .ok (.getfield 27, 3) := by decide +kernel
theorem dX12_goes_21 : decode cX12_goes 21 = .ok (.iload_n 1, 1) := by decide +kernel
theorem dX12_goes_22 : decode cX12_goes 22 = .ok (.iaload, 1) := by decide +kernel
theorem dX12_goes_23 : decode cX12_goes 23 = .ok (.istore_n 3, 1) := by decide +kernel
theorem dX12_goes_24 : decode cX12_goes 24 = .ok (.aload_n 0, 1) := by decide +kernel
theorem dX12_goes_25 : decode cX12_goes 25 = .ok (.getfield 27, 3) := by decide +kernel
theorem dX12_goes_28 : decode cX12_goes 28 = .ok (.iload_n 1, 1) := by decide +kernel
theorem dX12_goes_29 : decode cX12_goes 29 = .ok (.iload_n 2, 1) := by decide +kernel
theorem dX12_goes_30 : decode cX12_goes 30 = .ok (.iastore, 1) := by decide +kernel
theorem dX12_goes_31 : decode cX12_goes 31 = .ok (.iload_n 3, 1) := by decide +kernel
theorem dX12_goes_32 : decode cX12_goes 32 = .ok (.ireturn, 1) := by decide +kernel
theorem dX12_isPaper_0 : decode cX12_isPaper 0 = .ok (.iload_n 1, 1) := by decide +kernel
theorem dX12_isPaper_1 : decode cX12_isPaper 1 = .ok (.iconst 0, 1) := by decide +kernel
theorem dX12_isPaper_2 : decode cX12_isPaper 2 = .ok (.aload_n 0, 1) := by decide +kernel
theorem dX12_isPaper_3 : decode cX12_isPaper 3 = .ok (.getfield 224, 3) := by decide +kernel
theorem dX12_isPaper_6 : decode cX12_isPaper 6 = .ok (.iconst 1, 1) := by decide +kernel
theorem dX12_isPaper_7 : decode cX12_isPaper 7 = .ok (.isub, 1) := by decide +kernel
theorem dX12_isPaper_8 : decode cX12_isPaper 8 = .ok (.invokestatic 196, 3) := by decide +kernel
theorem dX12_isPaper_11 : decode cX12_isPaper 11 = .ok (.ireturn, 1) := by decide +kernel
theorem dX12_write_0 : decode cX12_write 0 = .ok (.aload_n 0, 1) := by decide +kernel
theorem dX12_write_1 : decode cX12_write 1 = .ok (.dup, 1) := by decide +kernel
theorem dX12_write_2 : decode cX12_write 2 = .ok (.getfield 224, 3) := by decide +kernel
theorem dX12_write_5 : decode cX12_write 5 = .ok (.dup_x1, 1) := by decide +kernel
theorem dX12_write_6 : decode cX12_write 6 = .ok (.iconst 1, 1) := by decide +kernel
theorem dX12_write_7 : decode cX12_write 7 = .ok (.iadd, 1) := by decide +kernel
theorem dX12_write_8 : decode cX12_write 8 = .ok (.putfield 224, 3) := by decide +kernel
theorem dX12_write_11 : decode cX12_write 11 = .ok (.istore 4, 2) := by decide +kernel
theorem dX12_write_13 : decode cX12_write 13 = .ok (.aload_n 0, 1) := by decide +kernel
theorem dX12_write_14 : decode cX12_write 14 = .ok (.getfield 33, 3) := by decide +kernel
theorem dX12_write_17 : decode cX12_write 17 = .ok (.iload 4, 2) := by decide +kernel
theorem dX12_write_19 : decode cX12_write 19 = .ok (.iload_n 1, 1) := by decide +kernel
theorem dX12_write_20 : decode cX12_write 20 = .ok (.iastore, 1) := by decide +kernel
theorem dX12_write_21 : decode cX12_write 21 = .ok (.aload_n 0, 1) := by decide +kernel
theorem dX12_write_22 : decode cX12_write 22 = .ok (.getfield 36, 3) := by decide +kernel
theorem dX12_write_25 : decode cX12_write 25 = .ok (.iload 4, 2) := by decide +kernel
theorem dX12_write_27 : decode cX12_write 27 = .ok (.iload_n 2, 1) := by decide +kernel
theorem dX12_write_28 : decode cX12_write 28 = .ok (.iastore, 1) := by decide +kernel
theorem dX12_write_29 : decode cX12_write 29 = .ok (.aload_n 0, 1) := by decide +kernel
theorem dX12_write_30 : decode cX12_write 30 = .ok (.getfield 39, 3) := by decide +kernel
theorem dX12_write_33 : decode cX12_write 33 = .ok (.iload 4, 2) := by decide +kernel
theorem dX12_write_35 : decode cX12_write 35 = .ok (.aload_n 0, 1) := by decide +kernel
theorem dX12_write_36 : decode cX12_write 36 = .ok (.getfield 227, 3) := by decide +kernel
theorem dX12_write_39 : decode cX12_write 39 = .ok (.iastore, 1) := by decide +kernel
theorem dX12_write_40 : decode cX12_write 40 = .ok (.aload_n 0, 1) := by decide +kernel
theorem dX12_write_41 : decode cX12_write 41 = .ok (.getfield 42, 3) := by decide +kernel
theorem dX12_write_44 : decode cX12_write 44 = .ok (.iload 4, 2) := by decide +kernel
theorem dX12_write_46 : decode cX12_write 46 = .ok (.iload_n 3, 1) := by decide +kernel
theorem dX12_write_47 : decode cX12_write 47 = .ok (.iastore, 1) := by decide +kernel
theorem dX12_write_48 : decode cX12_write 48 = .ok (.iconst 0, 1) := by decide +kernel
theorem dX12_write_49 : decode cX12_write 49 = .ok (.istore 5, 2) := by decide +kernel
theorem dX12_write_51 : decode cX12_write 51 = .ok (.iload 5, 2) := by decide +kernel
theorem dX12_write_53 : decode cX12_write 53 = .ok (.iconst 5, 1) := by decide +kernel
theorem dX12_write_54 : decode cX12_write 54 = .ok (.if_icmp .ge 33, 3) := by decide +kernel
theorem dX12_write_57 : decode cX12_write 57 = .ok (.aload_n 0, 1) := by decide +kernel
theorem dX12_write_58 : decode cX12_write 58 = .ok (.getfield 48, 3) := by decide +kernel
theorem dX12_write_61 : decode cX12_write 61 = .ok (.iload 4, 2) := by decide +kernel
theorem dX12_write_63 : decode cX12_write 63 = .ok (.aaload, 1) := by decide +kernel
theorem dX12_write_64 : decode cX12_write 64 = .ok (.iload 5, 2) := by decide +kernel
theorem dX12_write_66 : decode cX12_write 66 = .ok (.iload 5, 2) := by decide +kernel
theorem dX12_write_68 : decode cX12_write 68 = .ok (.iload_n 2, 1) := by decide +kernel
theorem dX12_write_69 : decode cX12_write 69 = .ok (.if_icmp .ne 10, 3) := by decide +kernel
theorem dX12_write_72 : decode cX12_write 72 = .ok (.aload_n 0, 1) := by decide +kernel
theorem dX12_write_73 : decode cX12_write 73 = .ok (.getfield 227, 3) := by decide +kernel
theorem dX12_write_76 : decode cX12_write 76 = .ok (.goto 4, 3) := by decide +kernel
theorem dX12_write_79 : decode cX12_write 79 = .ok (.iconst (-1), 1) := by decide +kernel
theorem dX12_write_80 : decode cX12_write 80 = .ok (.iastore, 1) := by decide +kernel
theorem dX12_write_81 : decode cX12_write 81 = .ok (.iinc 5 1, 3) := by decide +kernel
theorem dX12_write_84 : decode cX12_write 84 = .ok (.goto (-33), 3) := by decide +kernel
theorem dX12_write_87 : decode cX12_write 87 = .ok (.iload 4, 2) := by decide +kernel
theorem dX12_write_89 : decode cX12_write 89 = .ok (.ireturn, 1) := by decide +kernel
theorem dX12_feed_0 : decode cX12_feed 0 = .ok (.iload_n 2, 1) := by decide +kernel
theorem dX12_feed_1 : decode cX12_feed 1 = .ok (.iconst 0, 1) := by decide +kernel
theorem dX12_feed_2 : decode cX12_feed 2 = .ok (.iconst 4, 1) := by decide +kernel
theorem dX12_feed_3 : decode cX12_feed 3 = .ok (.invokestatic 196, 3) := by decide +kernel
theorem dX12_feed_6 : decode cX12_feed 6 = .ok (.ifCond .ne 6, 3) := by decide +kernel
theorem dX12_feed_9 : decode cX12_feed 9 = .ok (.bipush (-2), 2) := by decide +kernel
theorem dX12_feed_11 : decode cX12_feed 11 = .ok (.ireturn, 1) := by decide +kernel
theorem dX12_feed_12 : decode cX12_feed 12 = .ok (.aload_n 0, 1) := by decide +kernel
theorem dX12_feed_13 : decode cX12_feed 13 = .ok (.getfield 230, 3) := by decide +kernel
theorem dX12_feed_16 : decode cX12_feed 16 = .ok (.iload_n 2, 1) := by decide +kernel
theorem dX12_feed_17 : decode cX12_feed 17 = .ok (.iadd, 1) := by decide +kernel
theorem dX12_feed_18 : decode cX12_feed 18 = .ok (.bipush 120, 2) := by decide +kernel
theorem dX12_feed_20 : decode cX12_feed 20 = .ok (.if_icmp .le 6, 3) := by decide +kernel
theorem dX12_feed_23 : decode cX12_feed 23 = .ok (.bipush (-4), 2) := by decide +kernel
theorem dX12_feed_25 : decode cX12_feed 25 = .ok (.ireturn, 1) := by decide +kernel
theorem dX12_feed_26 : decode cX12_feed 26 = .ok (.iload_n 2, 1) := by decide +kernel
theorem dX12_feed_27 : decode cX12_feed 27 = .ok (.iconst 1, 1) := by decide +kernel
theorem dX12_feed_28 : decode cX12_feed 28 = .ok (.isub, 1) := by decide +kernel
theorem dX12_feed_29 : decode cX12_feed 29 = .ok (.istore_n 3, 1) := by decide +kernel
theorem dX12_feed_30 : decode cX12_feed 30 = .ok (.iload_n 3, 1) := by decide +kernel
theorem dX12_feed_31 : decode cX12_feed 31 = .ok (.ifCond .lt 35, 3) := by decide +kernel
theorem dX12_feed_34 : decode cX12_feed 34 = .ok (.aload_n 0, 1) := by decide +kernel
theorem dX12_feed_35 : decode cX12_feed 35 = .ok (.getfield 166, 3) := by decide +kernel
theorem dX12_feed_38 : decode cX12_feed 38 = .ok (.aload_n 0, 1) := by decide +kernel
theorem dX12_feed_39 : decode cX12_feed 39 = .ok (.dup, 1) := by decide +kernel
theorem dX12_feed_40 : decode cX12_feed 40 = .ok (.getfield 230, 3) := by decide +kernel
theorem dX12_feed_43 : decode cX12_feed 43 = .ok (.dup_x1, 1) := by decide +kernel
theorem dX12_feed_44 : decode cX12_feed 44 = .ok (.iconst 1, 1) := by decide +kernel
theorem dX12_feed_45 : decode cX12_feed 45 = .ok (.iadd, 1) := by decide +kernel
theorem dX12_feed_46 : decode cX12_feed 46 = .ok (.putfield 230, 3) := by decide +kernel
theorem dX12_feed_49 : decode cX12_feed 49 = .ok (.iload_n 1, 1) := by decide +kernel
theorem dX12_feed_50 : decode cX12_feed 50 = .ok (.bipush 8, 2) := by decide +kernel
theorem dX12_feed_52 : decode cX12_feed 52 = .ok (.iload_n 3, 1) := by decide +kernel
theorem dX12_feed_53 : decode cX12_feed 53 = .ok (.imul, 1) := by decide +kernel
theorem dX12_feed_54 : decode cX12_feed 54 = .ok (.ishr, 1) := by decide +kernel
theorem dX12_feed_55 : decode cX12_feed 55 = .ok (.sipush 255, 3) := by decide +kernel
theorem dX12_feed_58 : decode cX12_feed 58 = .ok (.iand, 1) := by decide +kernel
theorem dX12_feed_59 : decode cX12_feed 59 = .ok (.iastore, 1) := by decide +kernel
theorem dX12_feed_60 : decode cX12_feed 60 = .ok (.iinc 3 (-1), 3) := by decide +kernel
theorem dX12_feed_63 : decode cX12_feed 63 = .ok (.goto (-33), 3) := by decide +kernel
theorem dX12_feed_66 : decode cX12_feed 66 = .ok (.aload_n 0, 1) := by decide +kernel
theorem dX12_feed_67 : decode cX12_feed 67 = .ok (.getfield 230, 3) := by decide +kernel
theorem dX12_feed_70 : decode cX12_feed 70 = .ok (.ireturn, 1) := by decide +kernel
theorem dX12_mail_0 : decode cX12_mail 0 = .ok (.iload_n 1, 1) := by decide +kernel
theorem dX12_mail_1 : decode cX12_mail 1 = .ok (.iconst 0, 1) := by decide +kernel
theorem dX12_mail_2 : decode cX12_mail 2 = .ok (.iconst 2, 1) := by decide +kernel
theorem dX12_mail_3 : decode cX12_mail 3 = .ok (.invokestatic 196, 3) := by decide +kernel
theorem dX12_mail_6 : decode cX12_mail 6 = .ok (.ifCond .eq 12, 3) := by decide +kernel
theorem dX12_mail_9 : decode cX12_mail 9 = .ok (.iload_n 2, 1) := by decide +kernel
theorem dX12_mail_10 : decode cX12_mail 10 = .ok (.iconst 0, 1) := by decide +kernel
theorem dX12_mail_11 : decode cX12_mail 11 = .ok (.iconst 2, 1) := by decide +kernel
theorem dX12_mail_12 : decode cX12_mail 12 = .ok (.invokestatic 196, 3) := by decide +kernel
theorem dX12_mail_15 : decode cX12_mail 15 = .ok (.ifCond .ne 5, 3) := by decide +kernel
theorem dX12_mail_18 : decode cX12_mail 18 = .ok (.iconst (-1), 1) := by decide +kernel
theorem dX12_mail_19 : decode cX12_mail 19 = .ok (.ireturn, 1) := by decide +kernel
theorem dX12_mail_20 : decode cX12_mail 20 = .ok (.iload 4, 2) := by decide +kernel
theorem dX12_mail_22 : decode cX12_mail 22 = .ok (.ifCond .ge 6, 3) := by decide +kernel
theorem dX12_mail_25 : decode cX12_mail 25 = .ok (.bipush (-2), 2) := by decide +kernel
theorem dX12_mail_27 : decode cX12_mail 27 = .ok (.ireturn, 1) := by decide +kernel
theorem dX12_mail_28 : decode cX12_mail 28 = .ok (.iload 4, 2) := by decide +kernel
theorem dX12_mail_30 : decode cX12_mail 30 = .ok (.ifCond .ne 8, 3) := by decide +kernel
theorem dX12_mail_33 : decode cX12_mail 33 = .ok (.aload_n 0, 1) := by decide +kernel
theorem dX12_mail_34 : decode cX12_mail 34 = .ok (.getfield 230, 3) := by decide +kernel
theorem dX12_mail_37 : decode cX12_mail 37 = .ok (.ireturn, 1) := by decide +kernel
theorem dX12_mail_38 : decode cX12_mail 38 = .ok (.aload_n 0, 1) := by decide +kernel
theorem dX12_mail_39 : decode cX12_mail 39 = .ok (.getfield 169, 3) := by decide +kernel
theorem dX12_mail_42 : decode cX12_mail 42 = .ok (.iload_n 1, 1) := by decide +kernel
theorem dX12_mail_43 : decode cX12_mail 43 = .ok (.iaload, 1) := by decide +kernel
theorem dX12_mail_44 : decode cX12_mail 44 = .ok (.iconst (-1), 1) := by decide +kernel
theorem dX12_mail_45 : decode cX12_mail 45 = .ok (.if_icmp .ne 6, 3) := by decide +kernel
theorem dX12_mail_48 : decode cX12_mail 48 = .ok (.bipush (-11), 2) := by decide +kernel
theorem dX12_mail_50 : decode cX12_mail 50 = .ok (.ireturn, 1) := by decide +kernel
theorem dX12_mail_51 : decode cX12_mail 51 = .ok (.aload_n 0, 1) := by decide +kernel
theorem dX12_mail_52 : decode cX12_mail 52 = .ok (.getfield 169, 3) := by decide +kernel
theorem dX12_mail_55 : decode cX12_mail 55 = .ok (.iload_n 1, 1) := by decide +kernel
theorem dX12_mail_56 : decode cX12_mail 56 = .ok (.iaload, 1) := by decide +kernel
theorem dX12_mail_57 : decode cX12_mail 57 = .ok (.iload_n 2, 1) := by decide +kernel
theorem dX12_mail_58 : decode cX12_mail 58 = .ok (.if_icmp .eq 6, 3) := by decide +kernel
theorem dX12_mail_61 : decode cX12_mail 61 = .ok (.bipush (-13), 2) := by decide +kernel
theorem dX12_mail_63 : decode cX12_mail 63 = .ok (.ireturn, 1) := by decide +kernel
theorem dX12_mail_64 : decode cX12_mail 64 = .ok (.iload_n 3, 1) := by decide +kernel
theorem dX12_mail_65 : decode cX12_mail 65 = .ok (.ifCond .lt 27, 3) := by decide +kernel
theorem dX12_mail_68 : decode cX12_mail 68 = .ok (.iload 4, 2) := by decide +kernel
theorem dX12_mail_70 : decode cX12_mail 70 = .ok (.aload_n 0, 1) := by decide +kernel
theorem dX12_mail_71 : decode cX12_mail 71 = .ok (.getfield 175, 3) := by decide +kernel
theorem dX12_mail_74 : decode cX12_mail 74 = .ok (.iload_n 1, 1) := by decide +kernel
theorem dX12_mail_75 : decode cX12_mail 75 = .ok (.iaload, 1) := by decide +kernel
theorem dX12_mail_76 : decode cX12_mail 76 = .ok (.if_icmp .gt 16, 3) := by decide +kernel
theorem dX12_mail_79 : decode cX12_mail 79 = .ok (.iload_n 3, 1) := by decide +kernel
theorem dX12_mail_80 : decode cX12_mail 80 = .ok (.aload_n 0, 1) := by decide +kernel
theorem dX12_mail_81 : decode cX12_mail 81 = .ok (.getfield 175, 3) := by decide +kernel
theorem dX12_mail_84 : decode cX12_mail 84 = .ok (.iload_n 1, 1) := by decide +kernel
theorem dX12_mail_85 : decode cX12_mail 85 = .ok (.iaload, 1) := by decide +kernel
theorem dX12_mail_86 : decode cX12_mail 86 = .ok (.iload 4, 2) := by decide +kernel
theorem dX12_mail_88 : decode cX12_mail 88 = .ok (.isub, 1) := by decide +kernel
theorem dX12_mail_89 : decode cX12_mail 89 = .ok (.if_icmp .le 6, 3) := by decide +kernel
theorem dX12_mail_92 : decode cX12_mail 92 = .ok (.bipush (-12), 2) := by decide +kernel
theorem dX12_mail_94 : decode cX12_mail 94 = .ok (.ireturn, 1) := by decide +kernel
theorem dX12_mail_95 : decode cX12_mail 95 = .ok (.iload 4, 2) := by decide +kernel
theorem dX12_mail_97 : decode cX12_mail 97 = .ok (.bipush 120, 2) := by decide +kernel
theorem dX12_mail_99 : decode cX12_mail 99 = .ok (.aload_n 0, 1) := by decide +kernel
theorem dX12_mail_100 : decode cX12_mail 100 = .ok (.getfield 230, 3) := by decide +kernel
theorem dX12_mail_103 : decode cX12_mail 103 = .ok (.isub, 1) := by decide +kernel
theorem dX12_mail_104 : decode cX12_mail 104 = .ok (.if_icmp .le 6, 3) := by decide +kernel
theorem dX12_mail_107 : decode cX12_mail 107 = .ok (.bipush (-4), 2) := by decide +kernel
theorem dX12_mail_109 : decode cX12_mail 109 = .ok (.ireturn, 1) := by decide +kernel
theorem dX12_mail_110 : decode cX12_mail 110 = .ok (.iconst 0, 1) := by decide +kernel
theorem dX12_mail_111 : decode cX12_mail 111 = .ok (.istore 5, 2) := by decide +kernel
theorem dX12_mail_113 : decode cX12_mail 113 = .ok (.iload 5, 2) := by decide +kernel
theorem dX12_mail_115 : decode cX12_mail 115 = .ok (.iload 4, 2) := by decide +kernel
theorem dX12_mail_117 : decode cX12_mail 117 = .ok (.if_icmp .ge 40, 3) := by decide +kernel
theorem dX12_mail_120 : decode cX12_mail 120 = .ok (.aload_n 0, 1) := by decide +kernel
theorem dX12_mail_121 : decode cX12_mail 121 = .ok (.getfield 166, 3) := by decide +kernel
theorem dX12_mail_124 : decode cX12_mail 124 = .ok (.aload_n 0, 1) := by decide +kernel
theorem dX12_mail_125 : decode cX12_mail 125 = .ok (.dup, 1) := by decide +kernel
theorem dX12_mail_126 : decode cX12_mail 126 = .ok (.getfield 230, 3) := by decide +kernel
theorem dX12_mail_129 : decode cX12_mail 129 = .ok (.dup_x1, 1) := by decide +kernel
theorem dX12_mail_130 : decode cX12_mail 130 = .ok (.iconst 1, 1) := by decide +kernel
theorem dX12_mail_131 : decode cX12_mail 131 = .ok (.iadd, 1) := by decide +kernel
theorem dX12_mail_132 : decode cX12_mail 132 = .ok (.putfield 230, 3) := by decide +kernel
theorem dX12_mail_135 : decode cX12_mail 135 = .ok (.aload_n 0, 1) := by decide +kernel
theorem dX12_mail_136 : decode cX12_mail 136 = .ok (.getfield 172, 3) := by decide +kernel
theorem dX12_mail_139 : decode cX12_mail 139 = .ok (.iload_n 1, 1) := by decide +kernel
theorem dX12_mail_140 : decode cX12_mail 140 = .ok (.aaload, 1) := by decide +kernel
theorem dX12_mail_141 : decode cX12_mail 141 = .ok (.iload_n 3, 1) := by decide +kernel
theorem dX12_mail_142 : decode cX12_mail 142 = .ok (.iload 5, 2) := by decide +kernel
theorem dX12_mail_144 : decode cX12_mail 144 = .ok (.iadd, 1) := by decide +kernel
theorem dX12_mail_145 : decode cX12_mail 145 = .ok (.iaload, 1) := by decide +kernel
theorem dX12_mail_146 : decode cX12_mail 146 = .ok (.sipush 255, 3) := by decide +kernel
theorem dX12_mail_149 : decode cX12_mail 149 = .ok (.iand, 1) := by decide +kernel
theorem dX12_mail_150 : decode cX12_mail 150 = .ok (.iastore, 1) := by decide +kernel
theorem dX12_mail_151 : decode cX12_mail 151 = .ok (.iinc 5 1, 3) := by decide +kernel
theorem dX12_mail_154 : decode cX12_mail 154 = .ok (.goto (-41), 3) := by decide +kernel
theorem dX12_mail_157 : decode cX12_mail 157 = .ok (.aload_n 0, 1) := by decide +kernel
theorem dX12_mail_158 : decode cX12_mail 158 = .ok (.getfield 230, 3) := by decide +kernel
theorem dX12_mail_161 : decode cX12_mail 161 = .ok (.ireturn, 1) := by decide +kernel
theorem dX12_wrong_0 : decode cX12_wrong 0 = .ok (.aload_n 0, 1) := by decide +kernel
theorem dX12_wrong_1 : decode cX12_wrong 1 = .ok (.getfield 233, 3) := by decide +kernel
theorem dX12_wrong_4 : decode cX12_wrong 4 = .ok (.ifCond .ge 11, 3) := by decide +kernel
theorem dX12_wrong_7 : decode cX12_wrong 7 = .ok (.aload_n 0, 1) := by decide +kernel
theorem dX12_wrong_8 : decode cX12_wrong 8 = .ok (.aload_n 0, 1) := by decide +kernel
theorem dX12_wrong_9 : decode cX12_wrong 9 = .ok (.getfield 236, 3) := by decide +kernel
theorem dX12_wrong_12 : decode cX12_wrong 12 = .ok (.putfield 233, 3) := by decide +kernel
theorem dX12_wrong_15 : decode cX12_wrong 15 = .ok (.iconst 0, 1) := by decide +kernel
theorem dX12_wrong_16 : decode cX12_wrong 16 = .ok (.ireturn, 1) := by decide +kernel
theorem dX12_here_0 : decode cX12_here 0 = .ok (.aload_n 0, 1) := by decide +kernel
theorem dX12_here_1 : decode cX12_here 1 = .ok (.getfield 236, 3) := by decide +kernel
theorem dX12_here_4 : decode cX12_here 4 = .ok (.aload_n 0, 1) := by decide +kernel
theorem dX12_here_5 : decode cX12_here 5 = .ok (.getfield 230, 3) := by decide +kernel
theorem dX12_here_8 : decode cX12_here 8 = .ok (.if_icmp .ge 15, 3) := by decide +kernel
theorem dX12_here_11 : decode cX12_here 11 = .ok (.aload_n 0, 1) := by decide +kernel
theorem dX12_here_12 : decode cX12_here 12 = .ok (.getfield 166, 3) := by decide +kernel
theorem dX12_here_15 : decode cX12_here 15 = .ok (.aload_n 0, 1) := by decide +kernel
theorem dX12_here_16 : decode cX12_here 16 = .ok (.getfield 236, 3) := by decide +kernel
theorem dX12_here_19 : decode cX12_here 19 = .ok (.iaload, 1) := by decide +kernel
theorem dX12_here_20 : decode cX12_here 20 = .ok (.goto 4, 3) := by decide +kernel
theorem dX12_here_23 : decode cX12_here 23 = .ok (.iconst (-1), 1) := by decide +kernel
theorem dX12_here_24 : decode cX12_here 24 = .ok (.ireturn, 1) := by decide +kernel
theorem dX12_word_0 : decode cX12_word 0 = .ok (.iconst 0, 1) := by decide +kernel
theorem dX12_word_1 : decode cX12_word 1 = .ok (.istore_n 2, 1) := by decide +kernel
theorem dX12_word_2 : decode cX12_word 2 = .ok (.iload_n 2, 1) := by decide +kernel
theorem dX12_word_3 : decode cX12_word 3 = .ok (.aload_n 1, 1) := by decide +kernel
theorem dX12_word_4 : decode cX12_word 4 = .ok (.invokevirtual 239, 3) := by decide +kernel
theorem dX12_word_7 : decode cX12_word 7 = .ok (.if_icmp .ge 36, 3) := by decide +kernel
theorem dX12_word_10 : decode cX12_word 10 = .ok (.aload_n 0, 1) := by decide +kernel
theorem dX12_word_11 : decode cX12_word 11 = .ok (.invokevirtual 245, 3) := by decide +kernel
theorem dX12_word_14 : decode cX12_word 14 = .ok (.aload_n 1, 1) := by decide +kernel
theorem dX12_word_15 : decode cX12_word 15 = .ok (.iload_n 2, 1) := by decide +kernel
theorem dX12_word_16 : decode cX12_word 16 = .ok (.invokevirtual 248, 3) := by decide +kernel
theorem dX12_word_19 : decode cX12_word 19 = .ok (.if_icmp .eq 8, 3) := by decide +kernel
theorem dX12_word_22 : decode cX12_word 22 = .ok (.aload_n 0, 1) := by decide +kernel
theorem dX12_word_23 : decode cX12_word 23 = .ok (.invokevirtual 252, 3) := by decide +kernel
theorem dX12_word_26 : decode cX12_word 26 = .ok (.ireturn, 1) := by decide +kernel
theorem dX12_word_27 : decode cX12_word 27 = .ok (.aload_n 0, 1) := by decide +kernel
theorem dX12_word_28 : decode cX12_word 28 = .ok (.dup, 1) := by decide +kernel
theorem dX12_word_29 : decode cX12_word 29 = .ok (.getfield 236, 3) := by decide +kernel
theorem dX12_word_32 : decode cX12_word 32 = .ok (.iconst 1, 1) := by decide +kernel
theorem dX12_word_33 : decode cX12_word 33 = .ok (.iadd, 1) := by decide +kernel
theorem dX12_word_34 : decode cX12_word 34 = .ok (.putfield 236, 3) := by decide +kernel
theorem dX12_word_37 : decode cX12_word 37 = .ok (.iinc 2 1, 3) := by decide +kernel
theorem dX12_word_40 : decode cX12_word 40 = .ok (.goto (-38), 3) := by decide +kernel
theorem dX12_word_43 : decode cX12_word 43 = .ok (.iconst 1, 1) := by decide +kernel
theorem dX12_word_44 : decode cX12_word 44 = .ok (.ireturn, 1) := by decide +kernel
theorem dX12_sortHere_0 : decode cX12_sortHere 0 = .ok (.aload_n 0, 1) := by decide +kernel
theorem dX12_sortHere_1 : decode cX12_sortHere 1 = .ok (.invokevirtual 245, 3) := by decide +kernel
theorem dX12_sortHere_4 : decode cX12_sortHere 4 = .ok (.istore_n 1, 1) := by decide +kernel
theorem dX12_sortHere_5 : decode cX12_sortHere 5 = .ok (.iload_n 1, 1) := by decide +kernel
theorem dX12_sortHere_6 : decode cX12_sortHere 6 = .ok (.bipush 48, 2) := by decide +kernel
theorem dX12_sortHere_8 : decode cX12_sortHere 8 = .ok (.if_icmp .lt 9, 3) := by decide +kernel
theorem dX12_sortHere_11 : decode cX12_sortHere 11 = .ok (.iload_n 1, 1) := by decide +kernel
theorem dX12_sortHere_12 : decode cX12_sortHere 12 = .ok (.bipush 51, 2) := by decide +kernel
theorem dX12_sortHere_14 : decode cX12_sortHere 14 = .ok (.if_icmp .le 8, 3) := by decide +kernel
theorem dX12_sortHere_17 : decode cX12_sortHere 17 = .ok (.aload_n 0, 1) := by decide +kernel
theorem dX12_sortHere_18 : decode cX12_sortHere 18 = .ok (.invokevirtual 252, 3) := by decide +kernel
theorem dX12_sortHere_21 : decode cX12_sortHere 21 = .ok (.ireturn, 1) := by decide +kernel
theorem dX12_sortHere_22 : decode cX12_sortHere 22 = .ok (.aload_n 0, 1) := by decide +kernel
theorem dX12_sortHere_23 : decode cX12_sortHere 23 = .ok (.iload_n 1, 1) := by decide +kernel
theorem dX12_sortHere_24 : decode cX12_sortHere 24 = .ok (.bipush 48, 2) := by decide +kernel
theorem dX12_sortHere_26 : decode cX12_sortHere 26 = .ok (.isub, 1) := by decide +kernel
theorem dX12_sortHere_27 : decode cX12_sortHere 27 = .ok (.putfield 256, 3) := by decide +kernel
theorem dX12_sortHere_30 : decode cX12_sortHere 30 = .ok (.aload_n 0, 1) := by decide +kernel
theorem dX12_sortHere_31 : decode cX12_sortHere 31 = .ok (.dup, 1) := by decide +kernel
theorem dX12_sortHere_32 : decode cX12_sortHere 32 = .ok (.getfield 236, 3) := by decide +kernel
theorem dX12_sortHere_35 : decode cX12_sortHere 35 = .ok (.iconst 1, 1) := by decide +kernel
theorem dX12_sortHere_36 : decode cX12_sortHere 36 = .ok (.iadd, 1) := by decide +kernel
theorem dX12_sortHere_37 : decode cX12_sortHere 37 = .ok (.putfield 236, 3) := by decide +kernel
theorem dX12_sortHere_40 : decode cX12_sortHere 40 = .ok (.iconst 1, 1) := by decide +kernel
theorem dX12_sortHere_41 : decode cX12_sortHere 41 = .ok (.ireturn, 1) := by decide +kernel
theorem dX12_numberHere_0 : decode cX12_numberHere 0 = .ok (.aload_n 0, 1) := by decide +kernel
theorem dX12_numberHere_1 : decode cX12_numberHere 1 = .ok (.invokevirtual 245, 3) := by decide +kernel
theorem dX12_numberHere_4 : decode cX12_numberHere 4 = .ok (.bipush 48, 2) := by decide +kernel
theorem dX12_numberHere_6 : decode cX12_numberHere 6 = .ok (.if_icmp .lt 12, 3) := by decide +kernel
theorem dX12_numberHere_9 : decode cX12_numberHere 9 = .ok (.aload_n 0, 1) := by decide +kernel
theorem dX12_numberHere_10 : decode cX12_numberHere 10 = .ok (.invokevirtual 245, 3) := by decide +kernel
theorem dX12_numberHere_13 : decode cX12_numberHere 13 = .ok (.bipush 57, 2) := by decide +kernel
theorem dX12_numberHere_15 : decode cX12_numberHere 15 = .ok (.if_icmp .le 8, 3) := by decide +kernel
theorem dX12_numberHere_18 : decode cX12_numberHere 18 = .ok (.aload_n 0, 1) := by decide +kernel
theorem dX12_numberHere_19 : decode cX12_numberHere 19 = .ok (.invokevirtual 252, 3) := by decide +kernel
theorem dX12_numberHere_22 : decode cX12_numberHere 22 = .ok (.ireturn, 1) := by decide +kernel
theorem dX12_numberHere_23 : decode cX12_numberHere 23 = .ok (.aload_n 0, 1) := by decide +kernel
theorem dX12_numberHere_24 : decode cX12_numberHere 24 = .ok (.iconst 0, 1) := by decide +kernel
theorem dX12_numberHere_25 : decode cX12_numberHere 25 = .ok (.putfield 256, 3) := by decide +kernel
theorem dX12_numberHere_28 : decode cX12_numberHere 28 = .ok (.iconst 0, 1) := by decide +kernel
theorem dX12_numberHere_29 : decode cX12_numberHere 29 = .ok (.istore_n 1, 1) := by decide +kernel
theorem dX12_numberHere_30 : decode cX12_numberHere 30 = .ok (.iload_n 1, 1) := by decide +kernel
theorem dX12_numberHere_31 : decode cX12_numberHere 31 = .ok (.iconst 4, 1) := by decide +kernel
theorem dX12_numberHere_32 : decode cX12_numberHere 32 = .ok (.if_icmp .ge 56, 3) := by decide +kernel
theorem dX12_numberHere_35 : decode cX12_numberHere 35 = .ok (.aload_n 0, 1) := by decide +kernel
theorem dX12_numberHere_36 : decode cX12_numberHere 36 = .ok (.invokevirtual 245, 3) := by decide +kernel
theorem dX12_numberHere_39 : decode cX12_numberHere 39 = .ok (.bipush 48, 2) := by decide +kernel
theorem dX12_numberHere_41 : decode cX12_numberHere 41 = .ok (.if_icmp .lt 47, 3) := by decide +kernel
theorem dX12_numberHere_44 : decode cX12_numberHere 44 = .ok (.aload_n 0, 1) := by decide +kernel
theorem dX12_numberHere_45 : decode cX12_numberHere 45 = .ok (.invokevirtual 245, 3) := by decide +kernel
theorem dX12_numberHere_48 : decode cX12_numberHere 48 = .ok (.bipush 57, 2) := by decide +kernel
theorem dX12_numberHere_50 : decode cX12_numberHere 50 = .ok (.if_icmp .gt 38, 3) := by decide +kernel
theorem dX12_numberHere_53 : decode cX12_numberHere 53 = .ok (.aload_n 0, 1) := by decide +kernel
theorem dX12_numberHere_54 : decode cX12_numberHere 54 = .ok (.bipush 10, 2) := by decide +kernel
theorem dX12_numberHere_56 : decode cX12_numberHere 56 = .ok (.aload_n 0, 1) := by decide +kernel
theorem dX12_numberHere_57 : decode cX12_numberHere 57 = .ok (.getfield 256, 3) := by decide +kernel
theorem dX12_numberHere_60 : decode cX12_numberHere 60 = .ok (.imul, 1) := by decide +kernel
theorem dX12_numberHere_61 : decode cX12_numberHere 61 = .ok (.aload_n 0, 1) := by decide +kernel
theorem dX12_numberHere_62 : decode cX12_numberHere 62 = .ok (.invokevirtual 245, 3) := by decide +kernel
theorem dX12_numberHere_65 : decode cX12_numberHere 65 = .ok (.iadd, 1) := by decide +kernel
theorem dX12_numberHere_66 : decode cX12_numberHere 66 = .ok (.bipush 48, 2) := by decide +kernel
theorem dX12_numberHere_68 : decode cX12_numberHere 68 = .ok (.isub, 1) := by decide +kernel
theorem dX12_numberHere_69 : decode cX12_numberHere 69 = .ok (.putfield 256, 3) := by decide +kernel
theorem dX12_numberHere_72 : decode cX12_numberHere 72 = .ok (.aload_n 0, 1) := by decide +kernel
theorem dX12_numberHere_73 : decode cX12_numberHere 73 = .ok (.dup, 1) := by decide +kernel
theorem dX12_numberHere_74 : decode cX12_numberHere 74 = .ok (.getfield 236, 3) := by decide +kernel
theorem dX12_numberHere_77 : decode cX12_numberHere 77 = .ok (.iconst 1, 1) := by decide +kernel
theorem dX12_numberHere_78 : decode cX12_numberHere 78 = .ok (.iadd, 1) := by decide +kernel
theorem dX12_numberHere_79 : decode cX12_numberHere 79 = .ok (.putfield 236, 3) := by decide +kernel
theorem dX12_numberHere_82 : decode cX12_numberHere 82 = .ok (.iinc 1 1, 3) := by decide +kernel
theorem dX12_numberHere_85 : decode cX12_numberHere 85 = .ok (.goto (-55), 3) := by decide +kernel
theorem dX12_numberHere_88 : decode cX12_numberHere 88 = .ok (.iconst 1, 1) := by decide +kernel
theorem dX12_numberHere_89 : decode cX12_numberHere 89 = .ok (.ireturn, 1) := by decide +kernel
theorem dX12_actHere_0 : decode cX12_actHere 0 = .ok (.aload_n 0, 1) := by decide +kernel
theorem dX12_actHere_1 : decode cX12_actHere 1 = .ok (.invokevirtual 245, 3) := by decide +kernel
theorem dX12_actHere_4 : decode cX12_actHere 4 = .ok (.istore_n 2, 1) := by decide +kernel
theorem dX12_actHere_5 : decode cX12_actHere 5 = .ok (.iload_n 2, 1) := by decide +kernel
theorem dX12_actHere_6 : decode cX12_actHere 6 = .ok (.bipush 98, 2) := by decide +kernel
theorem dX12_actHere_8 : decode cX12_actHere 8 = .ok (.if_icmp .ne 9, 3) := by decide +kernel
theorem dX12_actHere_11 : decode cX12_actHere 11 = .ok (.ldc_w 259, 3) := by decide +kernel
theorem dX12_actHere_14 : decode cX12_actHere 14 = .ok (.goto 54, 3) := by decide +kernel
theorem dX12_actHere_17 : decode cX12_actHere 17 = .ok (.iload_n 2, 1) := by decide +kernel
theorem dX12_actHere_18 : decode cX12_actHere 18 = .ok (.bipush 97, 2) := by decide +kernel
theorem dX12_actHere_20 : decode cX12_actHere 20 = .ok (.if_icmp .ne 9, 3) := by decide +kernel
theorem dX12_actHere_23 : decode cX12_actHere 23 = .ok (.ldc_w 261, 3) := by decide +kernel
theorem dX12_actHere_26 : decode cX12_actHere 26 = .ok (.goto 42, 3) := by decide +kernel
theorem dX12_actHere_29 : decode cX12_actHere 29 = .ok (.iload_n 2, 1) := by decide +kernel
theorem dX12_actHere_30 : decode cX12_actHere 30 = .ok (.bipush 108, 2) := by decide +kernel
theorem dX12_actHere_32 : decode cX12_actHere 32 = .ok (.if_icmp .ne 9, 3) := by decide +kernel
theorem dX12_actHere_35 : decode cX12_actHere 35 = .ok (.ldc_w 263, 3) := by decide +kernel
theorem dX12_actHere_38 : decode cX12_actHere 38 = .ok (.goto 30, 3) := by decide +kernel
theorem dX12_actHere_41 : decode cX12_actHere 41 = .ok (.iload_n 2, 1) := by decide +kernel
theorem dX12_actHere_42 : decode cX12_actHere 42 = .ok (.bipush 115, 2) := by decide +kernel
theorem dX12_actHere_44 : decode cX12_actHere 44 = .ok (.if_icmp .ne 9, 3) := by decide +kernel
theorem dX12_actHere_47 : decode cX12_actHere 47 = .ok (.ldc_w 265, 3) := by decide +kernel
theorem dX12_actHere_50 : decode cX12_actHere 50 = .ok (.goto 18, 3) := by decide +kernel
theorem dX12_actHere_53 : decode cX12_actHere 53 = .ok (.iload_n 2, 1) := by decide +kernel
theorem dX12_actHere_54 : decode cX12_actHere 54 = .ok (.bipush 100, 2) := by decide +kernel
theorem dX12_actHere_56 : decode cX12_actHere 56 = .ok (.if_icmp .ne 9, 3) := by decide +kernel
theorem dX12_actHere_59 : decode cX12_actHere 59 = .ok (.ldc_w 267, 3) := by decide +kernel
theorem dX12_actHere_62 : decode cX12_actHere 62 = .ok (.goto 6, 3) := by decide +kernel
theorem dX12_actHere_65 : decode cX12_actHere 65 = .ok (.ldc_w 269, 3) := by decide +kernel
theorem dX12_actHere_68 : decode cX12_actHere 68 = .ok (.astore_n 3, 1) := by decide +kernel
theorem dX12_actHere_69 : decode cX12_actHere 69 = .ok (.aload_n 1, 1) := by decide +kernel
theorem dX12_actHere_70 : decode cX12_actHere 70 = .ok (.iconst 0, 1) := by decide +kernel
theorem dX12_actHere_71 : decode cX12_actHere 71 = .ok (.iload_n 2, 1) := by decide +kernel
theorem dX12_actHere_72 : decode cX12_actHere 72 = .ok (.bipush 98, 2) := by decide +kernel
theorem dX12_actHere_74 : decode cX12_actHere 74 = .ok (.if_icmp .ne 7, 3) := by decide +kernel
theorem dX12_actHere_77 : decode cX12_actHere 77 = .ok (.iconst 0, 1) := by decide +kernel
theorem dX12_actHere_78 : decode cX12_actHere 78 = .ok (.goto 44, 3) := by decide +kernel
theorem dX12_actHere_81 : decode cX12_actHere 81 = .ok (.iload_n 2, 1) := by decide +kernel
theorem dX12_actHere_82 : decode cX12_actHere 82 = .ok (.bipush 97, 2) := by decide +kernel
theorem dX12_actHere_84 : decode cX12_actHere 84 = .ok (.if_icmp .ne 7, 3) := by decide +kernel
theorem dX12_actHere_87 : decode cX12_actHere 87 = .ok (.iconst 1, 1) := by decide +kernel
theorem dX12_actHere_88 : decode cX12_actHere 88 = .ok (.goto 34, 3) := by decide +kernel
theorem dX12_actHere_91 : decode cX12_actHere 91 = .ok (.iload_n 2, 1) := by decide +kernel
theorem dX12_actHere_92 : decode cX12_actHere 92 = .ok (.bipush 108, 2) := by decide +kernel
theorem dX12_actHere_94 : decode cX12_actHere 94 = .ok (.if_icmp .ne 7, 3) := by decide +kernel
theorem dX12_actHere_97 : decode cX12_actHere 97 = .ok (.iconst 2, 1) := by decide +kernel
theorem dX12_actHere_98 : decode cX12_actHere 98 = .ok (.goto 24, 3) := by decide +kernel
theorem dX12_actHere_101 : decode cX12_actHere 101 = .ok (.iload_n 2, 1) := by decide +kernel
theorem dX12_actHere_102 : decode cX12_actHere 102 = .ok (.bipush 115, 2) := by decide +kernel
theorem dX12_actHere_104 : decode cX12_actHere 104 = .ok (.if_icmp .ne 7, 3) := by decide +kernel
theorem dX12_actHere_107 : decode cX12_actHere 107 = .ok (.iconst 3, 1) := by decide +kernel
theorem dX12_actHere_108 : decode cX12_actHere 108 = .ok (.goto 14, 3) := by decide +kernel
theorem dX12_actHere_111 : decode cX12_actHere 111 = .ok (.iload_n 2, 1) := by decide +kernel
theorem dX12_actHere_112 : decode cX12_actHere 112 = .ok (.bipush 100, 2) := by decide +kernel
theorem dX12_actHere_114 : decode cX12_actHere 114 = .ok (.if_icmp .ne 7, 3) := by decide +kernel
theorem dX12_actHere_117 : decode cX12_actHere 117 = .ok (.iconst 4, 1) := by decide +kernel
theorem dX12_actHere_118 : decode cX12_actHere 118 = .ok (.goto 4, 3) := by decide +kernel
theorem dX12_actHere_121 : decode cX12_actHere 121 = .ok (.iconst 5, 1) := by decide +kernel
theorem dX12_actHere_122 : decode cX12_actHere 122 = .ok (.iastore, 1) := by decide +kernel
theorem dX12_actHere_123 : decode cX12_actHere 123 = .ok (.aload_n 1, 1) := by decide +kernel
theorem dX12_actHere_124 : decode cX12_actHere 124 = .ok (.iconst 1, 1) := by decide +kernel
theorem dX12_actHere_125 : decode cX12_actHere 125 = .ok (.iconst (-1), 1) := by decide +kernel
theorem dX12_actHere_126 : decode cX12_actHere 126 = .ok (.iastore, 1) := by decide +kernel
theorem dX12_actHere_127 : decode cX12_actHere 127 = .ok (.aload_n 0, 1) := by decide +kernel
theorem dX12_actHere_128 : decode cX12_actHere 128 = .ok (.aload_n 3, 1) := by decide +kernel
theorem dX12_actHere_129 : decode cX12_actHere 129 = .ok (.invokevirtual 271, 3) := by decide +kernel
theorem dX12_actHere_132 : decode cX12_actHere 132 = .ok (.ifCond .ne 5, 3) := by decide +kernel
theorem dX12_actHere_135 : decode cX12_actHere 135 = .ok (.iconst 0, 1) := by decide +kernel
theorem dX12_actHere_136 : decode cX12_actHere 136 = .ok (.ireturn, 1) := by decide +kernel
theorem dX12_actHere_137 : decode cX12_actHere 137 = .ok (.aload_n 1, 1) := by decide +kernel
theorem dX12_actHere_138 : decode cX12_actHere 138 = .ok (.iconst 0, 1) := by decide +kernel
theorem dX12_actHere_139 : decode cX12_actHere 139 = .ok (.iaload, 1) := by decide +kernel
theorem dX12_actHere_140 : decode cX12_actHere 140 = .ok (.iconst 3, 1) := by decide +kernel
theorem dX12_actHere_141 : decode cX12_actHere 141 = .ok (.if_icmp .ge 31, 3) := by decide +kernel
theorem dX12_actHere_144 : decode cX12_actHere 144 = .ok (.aload_n 0, 1) := by decide +kernel
theorem dX12_actHere_145 : decode cX12_actHere 145 = .ok (.invokevirtual 275, 3) := by decide +kernel
theorem dX12_actHere_148 : decode cX12_actHere 148 = .ok (.ifCond .ne 5, 3) := by decide +kernel
theorem dX12_actHere_151 : decode cX12_actHere 151 = .ok (.iconst 0, 1) := by decide +kernel
theorem dX12_actHere_152 : decode cX12_actHere 152 = .ok (.ireturn, 1) := by decide +kernel
theorem dX12_actHere_153 : decode cX12_actHere 153 = .ok (.aload_n 1, 1) := by decide +kernel
theorem dX12_actHere_154 : decode cX12_actHere 154 = .ok (.iconst 1, 1) := by decide +kernel
theorem dX12_actHere_155 : decode cX12_actHere 155 = .ok (.aload_n 0, 1) := by decide +kernel
theorem dX12_actHere_156 : decode cX12_actHere 156 = .ok (.getfield 256, 3) := by decide +kernel
theorem dX12_actHere_159 : decode cX12_actHere 159 = .ok (.iastore, 1) := by decide +kernel
theorem dX12_actHere_160 : decode cX12_actHere 160 = .ok (.aload_n 0, 1) := by decide +kernel
theorem dX12_actHere_161 : decode cX12_actHere 161 = .ok (.ldc_w 278, 3) := by decide +kernel
theorem dX12_actHere_164 : decode cX12_actHere 164 = .ok (.invokevirtual 271, 3) := by decide +kernel
theorem dX12_actHere_167 : decode cX12_actHere 167 = .ok (.ifCond .ne 5, 3) := by decide +kernel
theorem dX12_actHere_170 : decode cX12_actHere 170 = .ok (.iconst 0, 1) := by decide +kernel
theorem dX12_actHere_171 : decode cX12_actHere 171 = .ok (.ireturn, 1) := by decide +kernel
theorem dX12_actHere_172 : decode cX12_actHere 172 = .ok (.aload_n 0, 1) := by decide +kernel
theorem dX12_actHere_173 : decode cX12_actHere 173 = .ok (.invokevirtual 280, 3) := by decide +kernel
theorem dX12_actHere_176 : decode cX12_actHere 176 = .ok (.ifCond .ne 5, 3) := by decide +kernel
theorem dX12_actHere_179 : decode cX12_actHere 179 = .ok (.iconst 0, 1) := by decide +kernel
theorem dX12_actHere_180 : decode cX12_actHere 180 = .ok (.ireturn, 1) := by decide +kernel
theorem dX12_actHere_181 : decode cX12_actHere 181 = .ok (.aload_n 1, 1) := by decide +kernel
theorem dX12_actHere_182 : decode cX12_actHere 182 = .ok (.iconst 2, 1) := by decide +kernel
theorem dX12_actHere_183 : decode cX12_actHere 183 = .ok (.aload_n 0, 1) := by decide +kernel
theorem dX12_actHere_184 : decode cX12_actHere 184 = .ok (.getfield 256, 3) := by decide +kernel
theorem dX12_actHere_187 : decode cX12_actHere 187 = .ok (.iastore, 1) := by decide +kernel
theorem dX12_actHere_188 : decode cX12_actHere 188 = .ok (.iconst 1, 1) := by decide +kernel
theorem dX12_actHere_189 : decode cX12_actHere 189 = .ok (.ireturn, 1) := by decide +kernel
theorem dX12_testHere_0 : decode cX12_testHere 0 = .ok (.aload_n 1, 1) := by decide +kernel
theorem dX12_testHere_1 : decode cX12_testHere 1 = .ok (.iconst 0, 1) := by decide +kernel
theorem dX12_testHere_2 : decode cX12_testHere 2 = .ok (.iconst 0, 1) := by decide +kernel
theorem dX12_testHere_3 : decode cX12_testHere 3 = .ok (.iastore, 1) := by decide +kernel
theorem dX12_testHere_4 : decode cX12_testHere 4 = .ok (.aload_n 0, 1) := by decide +kernel
theorem dX12_testHere_5 : decode cX12_testHere 5 = .ok (.invokevirtual 245, 3) := by decide +kernel
theorem dX12_testHere_8 : decode cX12_testHere 8 = .ok (.bipush 110, 2) := by decide +kernel
theorem dX12_testHere_10 : decode cX12_testHere 10 = .ok (.if_icmp .ne 19, 3) := by decide +kernel
theorem dX12_testHere_13 : decode cX12_testHere 13 = .ok (.aload_n 0, 1) := by decide +kernel
theorem dX12_testHere_14 : decode cX12_testHere 14 = .ok (.ldc_w 283, 3) := by decide +kernel
theorem dX12_testHere_17 : decode cX12_testHere 17 = .ok (.invokevirtual 271, 3) := by decide +kernel
theorem dX12_testHere_20 : decode cX12_testHere 20 = .ok (.ifCond .ne 5, 3) := by decide +kernel
theorem dX12_testHere_23 : decode cX12_testHere 23 = .ok (.iconst 0, 1) := by decide +kernel
theorem dX12_testHere_24 : decode cX12_testHere 24 = .ok (.ireturn, 1) := by decide +kernel
theorem dX12_testHere_25 : decode cX12_testHere 25 = .ok (.aload_n 1, 1) := by decide +kernel
theorem dX12_testHere_26 : decode cX12_testHere 26 = .ok (.iconst 0, 1) := by decide +kernel
theorem dX12_testHere_27 : decode cX12_testHere 27 = .ok (.iconst 1, 1) := by decide +kernel
theorem dX12_testHere_28 : decode cX12_testHere 28 = .ok (.iastore, 1) := by decide +kernel
theorem dX12_testHere_29 : decode cX12_testHere 29 = .ok (.aload_n 0, 1) := by decide +kernel
theorem dX12_testHere_30 : decode cX12_testHere 30 = .ok (.invokevirtual 245, 3) := by decide +kernel
theorem dX12_testHere_33 : decode cX12_testHere 33 = .ok (.istore_n 2, 1) := by decide +kernel
theorem dX12_testHere_34 : decode cX12_testHere 34 = .ok (.aload_n 1, 1) := by decide +kernel
theorem dX12_testHere_35 : decode cX12_testHere 35 = .ok (.iconst 2, 1) := by decide +kernel
theorem dX12_testHere_36 : decode cX12_testHere 36 = .ok (.iconst (-1), 1) := by decide +kernel
theorem dX12_testHere_37 : decode cX12_testHere 37 = .ok (.iastore, 1) := by decide +kernel
theorem dX12_testHere_38 : decode cX12_testHere 38 = .ok (.iload_n 2, 1) := by decide +kernel
theorem dX12_testHere_39 : decode cX12_testHere 39 = .ok (.bipush 115, 2) := by decide +kernel
theorem dX12_testHere_41 : decode cX12_testHere 41 = .ok (.if_icmp .ne 54, 3) := by decide +kernel
theorem dX12_testHere_44 : decode cX12_testHere 44 = .ok (.aload_n 0, 1) := by decide +kernel
theorem dX12_testHere_45 : decode cX12_testHere 45 = .ok (.dup, 1) := by decide +kernel
theorem dX12_testHere_46 : decode cX12_testHere 46 = .ok (.getfield 236, 3) := by decide +kernel
theorem dX12_testHere_49 : decode cX12_testHere 49 = .ok (.iconst 1, 1) := by decide +kernel
theorem dX12_testHere_50 : decode cX12_testHere 50 = .ok (.iadd, 1) := by decide +kernel
theorem dX12_testHere_51 : decode cX12_testHere 51 = .ok (.putfield 236, 3) := by decide +kernel
theorem dX12_testHere_54 : decode cX12_testHere 54 = .ok (.aload_n 0, 1) := by decide +kernel
theorem dX12_testHere_55 : decode cX12_testHere 55 = .ok (.invokevirtual 245, 3) := by decide +kernel
theorem dX12_testHere_58 : decode cX12_testHere 58 = .ok (.bipush 104, 2) := by decide +kernel
theorem dX12_testHere_60 : decode cX12_testHere 60 = .ok (.if_icmp .ne 19, 3) := by decide +kernel
theorem dX12_testHere_63 : decode cX12_testHere 63 = .ok (.aload_n 1, 1) := by decide +kernel
theorem dX12_testHere_64 : decode cX12_testHere 64 = .ok (.iconst 1, 1) := by decide +kernel
theorem dX12_testHere_65 : decode cX12_testHere 65 = .ok (.iconst 3, 1) := by decide +kernel
theorem dX12_testHere_66 : decode cX12_testHere 66 = .ok (.iastore, 1) := by decide +kernel
theorem dX12_testHere_67 : decode cX12_testHere 67 = .ok (.aload_n 0, 1) := by decide +kernel
theorem dX12_testHere_68 : decode cX12_testHere 68 = .ok (.ldc_w 285, 3) := by decide +kernel
theorem dX12_testHere_71 : decode cX12_testHere 71 = .ok (.invokevirtual 271, 3) := by decide +kernel
theorem dX12_testHere_74 : decode cX12_testHere 74 = .ok (.ifCond .ne 81, 3) := by decide +kernel
theorem dX12_testHere_77 : decode cX12_testHere 77 = .ok (.iconst 0, 1) := by decide +kernel
theorem dX12_testHere_78 : decode cX12_testHere 78 = .ok (.ireturn, 1) := by decide +kernel
theorem dX12_testHere_79 : decode cX12_testHere 79 = .ok (.aload_n 1, 1) := by decide +kernel
theorem dX12_testHere_80 : decode cX12_testHere 80 = .ok (.iconst 1, 1) := by decide +kernel
theorem dX12_testHere_81 : decode cX12_testHere 81 = .ok (.iconst 1, 1) := by decide +kernel
theorem dX12_testHere_82 : decode cX12_testHere 82 = .ok (.iastore, 1) := by decide +kernel
theorem dX12_testHere_83 : decode cX12_testHere 83 = .ok (.aload_n 0, 1) := by decide +kernel
theorem dX12_testHere_84 : decode cX12_testHere 84 = .ok (.ldc_w 287, 3) := by decide +kernel
theorem dX12_testHere_87 : decode cX12_testHere 87 = .ok (.invokevirtual 271, 3) := by decide +kernel
theorem dX12_testHere_90 : decode cX12_testHere 90 = .ok (.ifCond .ne 65, 3) := by decide +kernel
theorem dX12_testHere_93 : decode cX12_testHere 93 = .ok (.iconst 0, 1) := by decide +kernel
theorem dX12_testHere_94 : decode cX12_testHere 94 = .ok (.ireturn, 1) := by decide +kernel
theorem dX12_testHere_95 : decode cX12_testHere 95 = .ok (.aload_n 1, 1) := by decide +kernel
theorem dX12_testHere_96 : decode cX12_testHere 96 = .ok (.iconst 1, 1) := by decide +kernel
theorem dX12_testHere_97 : decode cX12_testHere 97 = .ok (.iload_n 2, 1) := by decide +kernel
theorem dX12_testHere_98 : decode cX12_testHere 98 = .ok (.bipush 112, 2) := by decide +kernel
theorem dX12_testHere_100 : decode cX12_testHere 100 = .ok (.if_icmp .ne 7, 3) := by decide +kernel
theorem dX12_testHere_103 : decode cX12_testHere 103 = .ok (.iconst 0, 1) := by decide +kernel
theorem dX12_testHere_104 : decode cX12_testHere 104 = .ok (.goto 14, 3) := by decide +kernel
theorem dX12_testHere_107 : decode cX12_testHere 107 = .ok (.iload_n 2, 1) := by decide +kernel
theorem dX12_testHere_108 : decode cX12_testHere 108 = .ok (.bipush 98, 2) := by decide +kernel
theorem dX12_testHere_110 : decode cX12_testHere 110 = .ok (.if_icmp .ne 7, 3) := by decide +kernel
theorem dX12_testHere_113 : decode cX12_testHere 113 = .ok (.iconst 2, 1) := by decide +kernel
theorem dX12_testHere_114 : decode cX12_testHere 114 = .ok (.goto 4, 3) := by decide +kernel
theorem dX12_testHere_117 : decode cX12_testHere 117 = .ok (.iconst 4, 1) := by decide +kernel
theorem dX12_testHere_118 : decode cX12_testHere 118 = .ok (.iastore, 1) := by decide +kernel
theorem dX12_testHere_119 : decode cX12_testHere 119 = .ok (.aload_n 0, 1) := by decide +kernel
theorem dX12_testHere_120 : decode cX12_testHere 120 = .ok (.iload_n 2, 1) := by decide +kernel
theorem dX12_testHere_121 : decode cX12_testHere 121 = .ok (.bipush 112, 2) := by decide +kernel
theorem dX12_testHere_123 : decode cX12_testHere 123 = .ok (.if_icmp .ne 9, 3) := by decide +kernel
theorem dX12_testHere_126 : decode cX12_testHere 126 = .ok (.ldc_w 289, 3) := by decide +kernel
theorem dX12_testHere_129 : decode cX12_testHere 129 = .ok (.goto 18, 3) := by decide +kernel
theorem dX12_testHere_132 : decode cX12_testHere 132 = .ok (.iload_n 2, 1) := by decide +kernel
theorem dX12_testHere_133 : decode cX12_testHere 133 = .ok (.bipush 98, 2) := by decide +kernel
theorem dX12_testHere_135 : decode cX12_testHere 135 = .ok (.if_icmp .ne 9, 3) := by decide +kernel
theorem dX12_testHere_138 : decode cX12_testHere 138 = .ok (.ldc_w 291, 3) := by decide +kernel
theorem dX12_testHere_141 : decode cX12_testHere 141 = .ok (.goto 6, 3) := by decide +kernel
theorem dX12_testHere_144 : decode cX12_testHere 144 = .ok (.ldc_w 293, 3) := by decide +kernel
theorem dX12_testHere_147 : decode cX12_testHere 147 = .ok (.invokevirtual 271, 3) := by decide +kernel
theorem dX12_testHere_150 : decode cX12_testHere 150 = .ok (.ifCond .ne 5, 3) := by decide +kernel
theorem dX12_testHere_153 : decode cX12_testHere 153 = .ok (.iconst 0, 1) := by decide +kernel
theorem dX12_testHere_154 : decode cX12_testHere 154 = .ok (.ireturn, 1) := by decide +kernel
theorem dX12_testHere_155 : decode cX12_testHere 155 = .ok (.aload_n 1, 1) := by decide +kernel
theorem dX12_testHere_156 : decode cX12_testHere 156 = .ok (.iconst 1, 1) := by decide +kernel
theorem dX12_testHere_157 : decode cX12_testHere 157 = .ok (.iaload, 1) := by decide +kernel
theorem dX12_testHere_158 : decode cX12_testHere 158 = .ok (.iconst 2, 1) := by decide +kernel
theorem dX12_testHere_159 : decode cX12_testHere 159 = .ok (.if_icmp .ge 19, 3) := by decide +kernel
theorem dX12_testHere_162 : decode cX12_testHere 162 = .ok (.aload_n 0, 1) := by decide +kernel
theorem dX12_testHere_163 : decode cX12_testHere 163 = .ok (.invokevirtual 275, 3) := by decide +kernel
theorem dX12_testHere_166 : decode cX12_testHere 166 = .ok (.ifCond .ne 5, 3) := by decide +kernel
theorem dX12_testHere_169 : decode cX12_testHere 169 = .ok (.iconst 0, 1) := by decide +kernel
theorem dX12_testHere_170 : decode cX12_testHere 170 = .ok (.ireturn, 1) := by decide +kernel
theorem dX12_testHere_171 : decode cX12_testHere 171 = .ok (.aload_n 1, 1) := by decide +kernel
theorem dX12_testHere_172 : decode cX12_testHere 172 = .ok (.iconst 2, 1) := by decide +kernel
theorem dX12_testHere_173 : decode cX12_testHere 173 = .ok (.aload_n 0, 1) := by decide +kernel
theorem dX12_testHere_174 : decode cX12_testHere 174 = .ok (.getfield 256, 3) := by decide +kernel
theorem dX12_testHere_177 : decode cX12_testHere 177 = .ok (.iastore, 1) := by decide +kernel
theorem dX12_testHere_178 : decode cX12_testHere 178 = .ok (.aload_n 0, 1) := by decide +kernel
theorem dX12_testHere_179 : decode cX12_testHere 179 = .ok (.invokevirtual 245, 3) := by decide +kernel
theorem dX12_testHere_182 : decode cX12_testHere 182 = .ok (.istore_n 2, 1) := by decide +kernel
theorem dX12_testHere_183 : decode cX12_testHere 183 = .ok (.iload_n 2, 1) := by decide +kernel
theorem dX12_testHere_184 : decode cX12_testHere 184 = .ok (.bipush 60, 2) := by decide +kernel
theorem dX12_testHere_186 : decode cX12_testHere 186 = .ok (.if_icmp .eq 20, 3) := by decide +kernel
theorem dX12_testHere_189 : decode cX12_testHere 189 = .ok (.iload_n 2, 1) := by decide +kernel
theorem dX12_testHere_190 : decode cX12_testHere 190 = .ok (.bipush 61, 2) := by decide +kernel
theorem dX12_testHere_192 : decode cX12_testHere 192 = .ok (.if_icmp .eq 14, 3) := by decide +kernel
theorem dX12_testHere_195 : decode cX12_testHere 195 = .ok (.iload_n 2, 1) := by decide +kernel
theorem dX12_testHere_196 : decode cX12_testHere 196 = .ok (.bipush 62, 2) := by decide +kernel
theorem dX12_testHere_198 : decode cX12_testHere 198 = .ok (.if_icmp .eq 8, 3) := by decide +kernel
theorem dX12_testHere_201 : decode cX12_testHere 201 = .ok (.aload_n 0, 1) := by decide +kernel
theorem dX12_testHere_202 : decode cX12_testHere 202 = .ok (.invokevirtual 252, 3) := by decide +kernel
theorem dX12_testHere_205 : decode cX12_testHere 205 = .ok (.ireturn, 1) := by decide +kernel
theorem dX12_testHere_206 : decode cX12_testHere 206 = .ok (.aload_n 1, 1) := by decide +kernel
theorem dX12_testHere_207 : decode cX12_testHere 207 = .ok (.iconst 3, 1) := by decide +kernel
theorem dX12_testHere_208 : decode cX12_testHere 208 = .ok (.iload_n 2, 1) := by decide +kernel
theorem dX12_testHere_209 : decode cX12_testHere 209 = .ok (.iastore, 1) := by decide +kernel
theorem dX12_testHere_210 : decode cX12_testHere 210 = .ok (.aload_n 0, 1) := by decide +kernel
theorem dX12_testHere_211 : decode cX12_testHere 211 = .ok (.dup, 1) := by decide +kernel
theorem dX12_testHere_212 : decode cX12_testHere 212 = .ok (.getfield 236, 3) := by decide +kernel
theorem dX12_testHere_215 : decode cX12_testHere 215 = .ok (.iconst 1, 1) := by decide +kernel
theorem dX12_testHere_216 : decode cX12_testHere 216 = .ok (.iadd, 1) := by decide +kernel
theorem dX12_testHere_217 : decode cX12_testHere 217 = .ok (.putfield 236, 3) := by decide +kernel
theorem dX12_testHere_220 : decode cX12_testHere 220 = .ok (.aload_n 0, 1) := by decide +kernel
theorem dX12_testHere_221 : decode cX12_testHere 221 = .ok (.invokevirtual 280, 3) := by decide +kernel
theorem dX12_testHere_224 : decode cX12_testHere 224 = .ok (.ifCond .ne 5, 3) := by decide +kernel
theorem dX12_testHere_227 : decode cX12_testHere 227 = .ok (.iconst 0, 1) := by decide +kernel
theorem dX12_testHere_228 : decode cX12_testHere 228 = .ok (.ireturn, 1) := by decide +kernel
theorem dX12_testHere_229 : decode cX12_testHere 229 = .ok (.aload_n 1, 1) := by decide +kernel
theorem dX12_testHere_230 : decode cX12_testHere 230 = .ok (.iconst 4, 1) := by decide +kernel
theorem dX12_testHere_231 : decode cX12_testHere 231 = .ok (.aload_n 0, 1) := by decide +kernel
theorem dX12_testHere_232 : decode cX12_testHere 232 = .ok (.getfield 256, 3) := by decide +kernel
theorem dX12_testHere_235 : decode cX12_testHere 235 = .ok (.iastore, 1) := by decide +kernel
theorem dX12_testHere_236 : decode cX12_testHere 236 = .ok (.iconst 1, 1) := by decide +kernel
theorem dX12_testHere_237 : decode cX12_testHere 237 = .ok (.ireturn, 1) := by decide +kernel
theorem dX12_paragraphHere_0 : decode cX12_paragraphHere 0 = .ok (.aload_n 0, 1) := by decide +kernel
theorem dX12_paragraphHere_1 : decode cX12_paragraphHere 1 = .ok (.aload_n 0, 1) := by decide +kernel
theorem dX12_paragraphHere_2 : decode cX12_paragraphHere 2 = .ok (.getfield 181, 3) := by decide +kernel
theorem dX12_paragraphHere_5 : decode cX12_paragraphHere 5 = .ok (.invokevirtual 294, 3) := by decide +kernel
theorem dX12_paragraphHere_8 : decode cX12_paragraphHere 8 = .ok (.ifCond .ne 5, 3) := by decide +kernel
theorem dX12_paragraphHere_11 : decode cX12_paragraphHere 11 = .ok (.iconst 0, 1) := by decide +kernel
theorem dX12_paragraphHere_12 : decode cX12_paragraphHere 12 = .ok (.ireturn, 1) := by decide +kernel
theorem dX12_paragraphHere_13 : decode cX12_paragraphHere 13 = .ok (.iconst 0, 1) := by decide +kernel
theorem dX12_paragraphHere_14 : decode cX12_paragraphHere 14 = .ok (.istore_n 3, 1) := by decide +kernel
theorem dX12_paragraphHere_15 : decode cX12_paragraphHere 15 = .ok (.aload_n 0, 1) := by decide +kernel
theorem dX12_paragraphHere_16 : decode cX12_paragraphHere 16 = .ok (.invokevirtual 245, 3) := by decide +kernel
theorem dX12_paragraphHere_19 : decode cX12_paragraphHere 19 = .ok (.bipush 32, 2) := by decide +kernel
theorem dX12_paragraphHere_21 : decode cX12_paragraphHere 21 = .ok (.if_icmp .ne 134, 3) := by decide +kernel
theorem dX12_paragraphHere_24 : decode cX12_paragraphHere 24 = .ok (.aload_n 0, 1) := by decide +kernel
theorem dX12_paragraphHere_25 : decode cX12_paragraphHere 25 = .ok (.ldc_w 298, 3) := by decide +kernel
theorem dX12_paragraphHere_28 : decode cX12_paragraphHere 28 = .ok (.invokevirtual 271, 3) := by decide +kernel
theorem dX12_paragraphHere_31 : decode cX12_paragraphHere 31 = .ok (.ifCond .ne 5, 3) := by decide +kernel
theorem dX12_paragraphHere_34 : decode cX12_paragraphHere 34 = .ok (.iconst 0, 1) := by decide +kernel
theorem dX12_paragraphHere_35 : decode cX12_paragraphHere 35 = .ok (.ireturn, 1) := by decide +kernel
theorem dX12_paragraphHere_36 : decode cX12_paragraphHere 36 = .ok (.iconst 0, 1) := by decide +kernel
theorem dX12_paragraphHere_37 : decode cX12_paragraphHere 37 = .ok (.istore 4, 2) := by decide +kernel
theorem dX12_paragraphHere_39 : decode cX12_paragraphHere 39 = .ok (.aload_n 0, 1) := by decide +kernel
theorem dX12_paragraphHere_40 : decode cX12_paragraphHere 40 = .ok (.aload_n 0, 1) := by decide +kernel
theorem dX12_paragraphHere_41 : decode cX12_paragraphHere 41 = .ok (.getfield 184, 3) := by decide +kernel
theorem dX12_paragraphHere_44 : decode cX12_paragraphHere 44 = .ok (.invokevirtual 300, 3) := by decide +kernel
theorem dX12_paragraphHere_47 : decode cX12_paragraphHere 47 = .ok (.ifCond .ne 5, 3) := by decide +kernel
theorem dX12_paragraphHere_50 : decode cX12_paragraphHere 50 = .ok (.iconst 0, 1) := by decide +kernel
theorem dX12_paragraphHere_51 : decode cX12_paragraphHere 51 = .ok (.ireturn, 1) := by decide +kernel
theorem dX12_paragraphHere_52 : decode cX12_paragraphHere 52 = .ok (.aload_n 0, 1) := by decide +kernel
theorem dX12_paragraphHere_53 : decode cX12_paragraphHere 53 = .ok (.getfield 184, 3) := by decide +kernel
theorem dX12_paragraphHere_56 : decode cX12_paragraphHere 56 = .ok (.iconst 5, 1) := by decide +kernel
theorem dX12_paragraphHere_57 : decode cX12_paragraphHere 57 = .ok (.iload 4, 2) := by decide +kernel
theorem dX12_paragraphHere_59 : decode cX12_paragraphHere 59 = .ok (.iastore, 1) := by decide +kernel
theorem dX12_paragraphHere_60 : decode cX12_paragraphHere 60 = .ok (.aload_n 0, 1) := by decide +kernel
theorem dX12_paragraphHere_61 : decode cX12_paragraphHere 61 = .ok (.getfield 184, 3) := by decide +kernel
theorem dX12_paragraphHere_64 : decode cX12_paragraphHere 64 = .ok (.iconst 0, 1) := by decide +kernel
theorem dX12_paragraphHere_65 : decode cX12_paragraphHere 65 = .ok (.aload_n 0, 1) := by decide +kernel
theorem dX12_paragraphHere_66 : decode cX12_paragraphHere 66 = .ok (.getfield 60, 3) := by decide +kernel
theorem dX12_paragraphHere_69 : decode cX12_paragraphHere 69 = .ok (.iload_n 1, 1) := by decide +kernel
theorem dX12_paragraphHere_70 : decode cX12_paragraphHere 70 = .ok (.aaload, 1) := by decide +kernel
theorem dX12_paragraphHere_71 : decode cX12_paragraphHere 71 = .ok (.bipush 24, 2) := by decide +kernel
theorem dX12_paragraphHere_73 : decode cX12_paragraphHere 73 = .ok (.iload_n 2, 1) := by decide +kernel
theorem dX12_paragraphHere_74 : decode cX12_paragraphHere 74 = .ok (.imul, 1) := by decide +kernel
theorem dX12_paragraphHere_75 : decode cX12_paragraphHere 75 = .ok (.bipush 6, 2) := by decide +kernel
theorem dX12_paragraphHere_77 : decode cX12_paragraphHere 77 = .ok (.iload_n 3, 1) := by decide +kernel
theorem dX12_paragraphHere_78 : decode cX12_paragraphHere 78 = .ok (.imul, 1) := by decide +kernel
theorem dX12_paragraphHere_79 : decode cX12_paragraphHere 79 = .ok (.iadd, 1) := by decide +kernel
theorem dX12_paragraphHere_80 : decode cX12_paragraphHere 80 = .ok (.bipush 6, 2) := by decide +kernel
theorem dX12_paragraphHere_82 : decode cX12_paragraphHere 82 = .ok (.invokestatic 303, 3) := by decide +kernel
theorem dX12_paragraphHere_85 : decode cX12_paragraphHere 85 = .ok (.iinc 3 1, 3) := by decide +kernel
theorem dX12_paragraphHere_88 : decode cX12_paragraphHere 88 = .ok (.aload_n 0, 1) := by decide +kernel
theorem dX12_paragraphHere_89 : decode cX12_paragraphHere 89 = .ok (.invokevirtual 245, 3) := by decide +kernel
theorem dX12_paragraphHere_92 : decode cX12_paragraphHere 92 = .ok (.bipush 32, 2) := by decide +kernel
theorem dX12_paragraphHere_94 : decode cX12_paragraphHere 94 = .ok (.if_icmp .ne 61, 3) := by decide +kernel
theorem dX12_paragraphHere_97 : decode cX12_paragraphHere 97 = .ok (.iload_n 3, 1) := by decide +kernel
theorem dX12_paragraphHere_98 : decode cX12_paragraphHere 98 = .ok (.iconst 4, 1) := by decide +kernel
theorem dX12_paragraphHere_99 : decode cX12_paragraphHere 99 = .ok (.if_icmp .ne 6, 3) := by decide +kernel
theorem dX12_paragraphHere_102 : decode cX12_paragraphHere 102 = .ok (.goto 53, 3) := by decide +kernel
theorem dX12_paragraphHere_105 : decode cX12_paragraphHere 105 = .ok (.aload_n 0, 1) := by decide +kernel
theorem dX12_paragraphHere_106 : decode cX12_paragraphHere 106 = .ok (.dup, 1) := by decide +kernel
theorem dX12_paragraphHere_107 : decode cX12_paragraphHere 107 = .ok (.getfield 236, 3) := by decide +kernel
theorem dX12_paragraphHere_110 : decode cX12_paragraphHere 110 = .ok (.iconst 1, 1) := by decide +kernel
theorem dX12_paragraphHere_111 : decode cX12_paragraphHere 111 = .ok (.iadd, 1) := by decide +kernel
theorem dX12_paragraphHere_112 : decode cX12_paragraphHere 112 = .ok (.putfield 236, 3) := by decide +kernel
theorem dX12_paragraphHere_115 : decode cX12_paragraphHere 115 = .ok (.aload_n 0, 1) := by decide +kernel
theorem dX12_paragraphHere_116 : decode cX12_paragraphHere 116 = .ok (.invokevirtual 245, 3) := by decide +kernel
theorem dX12_paragraphHere_119 : decode cX12_paragraphHere 119 = .ok (.bipush 111, 2) := by decide +kernel
theorem dX12_paragraphHere_121 : decode cX12_paragraphHere 121 = .ok (.if_icmp .ne 7, 3) := by decide +kernel
theorem dX12_paragraphHere_124 : decode cX12_paragraphHere 124 = .ok (.iconst 1, 1) := by decide +kernel
theorem dX12_paragraphHere_125 : decode cX12_paragraphHere 125 = .ok (.goto 4, 3) := by decide +kernel
theorem dX12_paragraphHere_128 : decode cX12_paragraphHere 128 = .ok (.iconst 0, 1) := by decide +kernel
theorem dX12_paragraphHere_129 : decode cX12_paragraphHere 129 = .ok (.istore 4, 2) := by decide +kernel
theorem dX12_paragraphHere_131 : decode cX12_paragraphHere 131 = .ok (.aload_n 0, 1) := by decide +kernel
theorem dX12_paragraphHere_132 : decode cX12_paragraphHere 132 = .ok (.iload 4, 2) := by decide +kernel
theorem dX12_paragraphHere_134 : decode cX12_paragraphHere 134 = .ok (.iconst 1, 1) := by decide +kernel
theorem dX12_paragraphHere_135 : decode cX12_paragraphHere 135 = .ok (.if_icmp .ne 9, 3) := by decide +kernel
theorem dX12_paragraphHere_138 : decode cX12_paragraphHere 138 = .ok (.ldc_w 309, 3) := by decide +kernel
theorem dX12_paragraphHere_141 : decode cX12_paragraphHere 141 = .ok (.goto 6, 3) := by decide +kernel
theorem dX12_paragraphHere_144 : decode cX12_paragraphHere 144 = .ok (.ldc_w 311, 3) := by decide +kernel
theorem dX12_paragraphHere_147 : decode cX12_paragraphHere 147 = .ok (.invokevirtual 271, 3) := by decide +kernel
theorem dX12_paragraphHere_150 : decode cX12_paragraphHere 150 = .ok (.ifCond .ne (-111), 3) := by decide +kernel
theorem dX12_paragraphHere_153 : decode cX12_paragraphHere 153 = .ok (.iconst 0, 1) := by decide +kernel
theorem dX12_paragraphHere_154 : decode cX12_paragraphHere 154 = .ok (.ireturn, 1) := by decide +kernel
theorem dX12_paragraphHere_155 : decode cX12_paragraphHere 155 = .ok (.aload_n 0, 1) := by decide +kernel
theorem dX12_paragraphHere_156 : decode cX12_paragraphHere 156 = .ok (.getfield 181, 3) := by decide +kernel
theorem dX12_paragraphHere_159 : decode cX12_paragraphHere 159 = .ok (.iconst 3, 1) := by decide +kernel
theorem dX12_paragraphHere_160 : decode cX12_paragraphHere 160 = .ok (.iload_n 3, 1) := by decide +kernel
theorem dX12_paragraphHere_161 : decode cX12_paragraphHere 161 = .ok (.iastore, 1) := by decide +kernel
theorem dX12_paragraphHere_162 : decode cX12_paragraphHere 162 = .ok (.aload_n 0, 1) := by decide +kernel
theorem dX12_paragraphHere_163 : decode cX12_paragraphHere 163 = .ok (.getfield 181, 3) := by decide +kernel
theorem dX12_paragraphHere_166 : decode cX12_paragraphHere 166 = .ok (.iconst 0, 1) := by decide +kernel
theorem dX12_paragraphHere_167 : decode cX12_paragraphHere 167 = .ok (.aload_n 0, 1) := by decide +kernel
theorem dX12_paragraphHere_168 : decode cX12_paragraphHere 168 = .ok (.getfield 57, 3) := by decide +kernel
theorem dX12_paragraphHere_171 : decode cX12_paragraphHere 171 = .ok (.iload_n 1, 1) := by decide +kernel
theorem dX12_paragraphHere_172 : decode cX12_paragraphHere 172 = .ok (.aaload, 1) := by decide +kernel
theorem dX12_paragraphHere_173 : decode cX12_paragraphHere 173 = .ok (.iconst 4, 1) := by decide +kernel
theorem dX12_paragraphHere_174 : decode cX12_paragraphHere 174 = .ok (.iload_n 2, 1) := by decide +kernel
theorem dX12_paragraphHere_175 : decode cX12_paragraphHere 175 = .ok (.imul, 1) := by decide +kernel
theorem dX12_paragraphHere_176 : decode cX12_paragraphHere 176 = .ok (.iconst 4, 1) := by decide +kernel
theorem dX12_paragraphHere_177 : decode cX12_paragraphHere 177 = .ok (.invokestatic 303, 3) := by decide +kernel
theorem dX12_paragraphHere_180 : decode cX12_paragraphHere 180 = .ok (.iconst 1, 1) := by decide +kernel
theorem dX12_paragraphHere_181 : decode cX12_paragraphHere 181 = .ok (.ireturn, 1) := by decide +kernel
theorem dX12_orderHere_0 : decode cX12_orderHere 0 = .ok (.aload_n 0, 1) := by decide +kernel
theorem dX12_orderHere_1 : decode cX12_orderHere 1 = .ok (.iconst 0, 1) := by decide +kernel
theorem dX12_orderHere_2 : decode cX12_orderHere 2 = .ok (.putfield 236, 3) := by decide +kernel
theorem dX12_orderHere_5 : decode cX12_orderHere 5 = .ok (.aload_n 0, 1) := by decide +kernel
theorem dX12_orderHere_6 : decode cX12_orderHere 6 = .ok (.iconst (-1), 1) := by decide +kernel
theorem dX12_orderHere_7 : decode cX12_orderHere 7 = .ok (.putfield 233, 3) := by decide +kernel
theorem dX12_orderHere_10 : decode cX12_orderHere 10 = .ok (.iconst 0, 1) := by decide +kernel
theorem dX12_orderHere_11 : decode cX12_orderHere 11 = .ok (.istore_n 2, 1) := by decide +kernel
theorem dX12_orderHere_12 : decode cX12_orderHere 12 = .ok (.aload_n 0, 1) := by decide +kernel
theorem dX12_orderHere_13 : decode cX12_orderHere 13 = .ok (.iload_n 1, 1) := by decide +kernel
theorem dX12_orderHere_14 : decode cX12_orderHere 14 = .ok (.iload_n 2, 1) := by decide +kernel
theorem dX12_orderHere_15 : decode cX12_orderHere 15 = .ok (.invokevirtual 313, 3) := by decide +kernel
theorem dX12_orderHere_18 : decode cX12_orderHere 18 = .ok (.ifCond .ne 5, 3) := by decide +kernel
theorem dX12_orderHere_21 : decode cX12_orderHere 21 = .ok (.iconst 0, 1) := by decide +kernel
theorem dX12_orderHere_22 : decode cX12_orderHere 22 = .ok (.ireturn, 1) := by decide +kernel
theorem dX12_orderHere_23 : decode cX12_orderHere 23 = .ok (.iinc 2 1, 3) := by decide +kernel
theorem dX12_orderHere_26 : decode cX12_orderHere 26 = .ok (.aload_n 0, 1) := by decide +kernel
theorem dX12_orderHere_27 : decode cX12_orderHere 27 = .ok (.getfield 54, 3) := by decide +kernel
theorem dX12_orderHere_30 : decode cX12_orderHere 30 = .ok (.iload_n 1, 1) := by decide +kernel
theorem dX12_orderHere_31 : decode cX12_orderHere 31 = .ok (.iload_n 2, 1) := by decide +kernel
theorem dX12_orderHere_32 : decode cX12_orderHere 32 = .ok (.iastore, 1) := by decide +kernel
theorem dX12_orderHere_33 : decode cX12_orderHere 33 = .ok (.aload_n 0, 1) := by decide +kernel
theorem dX12_orderHere_34 : decode cX12_orderHere 34 = .ok (.getfield 236, 3) := by decide +kernel
theorem dX12_orderHere_37 : decode cX12_orderHere 37 = .ok (.aload_n 0, 1) := by decide +kernel
theorem dX12_orderHere_38 : decode cX12_orderHere 38 = .ok (.getfield 230, 3) := by decide +kernel
theorem dX12_orderHere_41 : decode cX12_orderHere 41 = .ok (.if_icmp .ne 5, 3) := by decide +kernel
theorem dX12_orderHere_44 : decode cX12_orderHere 44 = .ok (.iconst 1, 1) := by decide +kernel
theorem dX12_orderHere_45 : decode cX12_orderHere 45 = .ok (.ireturn, 1) := by decide +kernel
theorem dX12_orderHere_46 : decode cX12_orderHere 46 = .ok (.aload_n 0, 1) := by decide +kernel
theorem dX12_orderHere_47 : decode cX12_orderHere 47 = .ok (.invokevirtual 245, 3) := by decide +kernel
theorem dX12_orderHere_50 : decode cX12_orderHere 50 = .ok (.bipush 59, 2) := by decide +kernel
theorem dX12_orderHere_52 : decode cX12_orderHere 52 = .ok (.if_icmp .ne 9, 3) := by decide +kernel
theorem dX12_orderHere_55 : decode cX12_orderHere 55 = .ok (.iload_n 2, 1) := by decide +kernel
theorem dX12_orderHere_56 : decode cX12_orderHere 56 = .ok (.bipush 6, 2) := by decide +kernel
theorem dX12_orderHere_58 : decode cX12_orderHere 58 = .ok (.if_icmp .ne 8, 3) := by decide +kernel
theorem dX12_orderHere_61 : decode cX12_orderHere 61 = .ok (.aload_n 0, 1) := by decide +kernel
theorem dX12_orderHere_62 : decode cX12_orderHere 62 = .ok (.invokevirtual 252, 3) := by decide +kernel
theorem dX12_orderHere_65 : decode cX12_orderHere 65 = .ok (.ireturn, 1) := by decide +kernel
theorem dX12_orderHere_66 : decode cX12_orderHere 66 = .ok (.aload_n 0, 1) := by decide +kernel
theorem dX12_orderHere_67 : decode cX12_orderHere 67 = .ok (.dup, 1) := by decide +kernel
theorem dX12_orderHere_68 : decode cX12_orderHere 68 = .ok (.getfield 236, 3) := by decide +kernel
theorem dX12_orderHere_71 : decode cX12_orderHere 71 = .ok (.iconst 1, 1) := by decide +kernel
theorem dX12_orderHere_72 : decode cX12_orderHere 72 = .ok (.iadd, 1) := by decide +kernel
theorem dX12_orderHere_73 : decode cX12_orderHere 73 = .ok (.putfield 236, 3) := by decide +kernel
theorem dX12_orderHere_76 : decode cX12_orderHere 76 = .ok (.goto (-64), 3) := by decide +kernel
theorem dX12_order_0 : decode cX12_order 0 = .ok (.iload_n 1, 1) := by decide +kernel
theorem dX12_order_1 : decode cX12_order 1 = .ok (.invokestatic 200, 3) := by decide +kernel
theorem dX12_order_4 : decode cX12_order 4 = .ok (.ifCond .ne 5, 3) := by decide +kernel
theorem dX12_order_7 : decode cX12_order 7 = .ok (.iconst (-1), 1) := by decide +kernel
theorem dX12_order_8 : decode cX12_order 8 = .ok (.ireturn, 1) := by decide +kernel
theorem dX12_order_9 : decode cX12_order 9 = .ok (.aload_n 0, 1) := by decide +kernel
theorem dX12_order_10 : decode cX12_order 10 = .ok (.getfield 224, 3) := by decide +kernel
theorem dX12_order_13 : decode cX12_order 13 = .ok (.sipush 150, 3) := by decide +kernel
theorem dX12_order_16 : decode cX12_order 16 = .ok (.if_icmp .ne 6, 3) := by decide +kernel
theorem dX12_order_19 : decode cX12_order 19 = .ok (.bipush (-4), 2) := by decide +kernel
theorem dX12_order_21 : decode cX12_order 21 = .ok (.ireturn, 1) := by decide +kernel
theorem dX12_order_22 : decode cX12_order 22 = .ok (.aload_n 0, 1) := by decide +kernel
theorem dX12_order_23 : decode cX12_order 23 = .ok (.aload_n 0, 1) := by decide +kernel
theorem dX12_order_24 : decode cX12_order 24 = .ok (.getfield 224, 3) := by decide +kernel
theorem dX12_order_27 : decode cX12_order 27 = .ok (.invokevirtual 317, 3) := by decide +kernel
theorem dX12_order_30 : decode cX12_order 30 = .ok (.istore_n 2, 1) := by decide +kernel
theorem dX12_order_31 : decode cX12_order 31 = .ok (.aload_n 0, 1) := by decide +kernel
theorem dX12_order_32 : decode cX12_order 32 = .ok (.iconst 0, 1) := by decide +kernel
theorem dX12_order_33 : decode cX12_order 33 = .ok (.putfield 230, 3) := by decide +kernel
theorem dX12_order_36 : decode cX12_order 36 = .ok (.iload_n 2, 1) := by decide +kernel
theorem dX12_order_37 : decode cX12_order 37 = .ok (.ifCond .eq 13, 3) := by decide +kernel
theorem dX12_order_40 : decode cX12_order 40 = .ok (.aload_n 0, 1) := by decide +kernel
theorem dX12_order_41 : decode cX12_order 41 = .ok (.iconst 2, 1) := by decide +kernel
theorem dX12_order_42 : decode cX12_order 42 = .ok (.iconst 0, 1) := by decide +kernel
theorem dX12_order_43 : decode cX12_order 43 = .ok (.iload_n 1, 1) := by decide +kernel
theorem dX12_order_44 : decode cX12_order 44 = .ok (.invokevirtual 320, 3) := by decide +kernel
theorem dX12_order_47 : decode cX12_order 47 = .ok (.goto 10, 3) := by decide +kernel
theorem dX12_order_50 : decode cX12_order 50 = .ok (.bipush (-10), 2) := by decide +kernel
theorem dX12_order_52 : decode cX12_order 52 = .ok (.aload_n 0, 1) := by decide +kernel
theorem dX12_order_53 : decode cX12_order 53 = .ok (.getfield 233, 3) := by decide +kernel
theorem dX12_order_56 : decode cX12_order 56 = .ok (.isub, 1) := by decide +kernel
theorem dX12_order_57 : decode cX12_order 57 = .ok (.ireturn, 1) := by decide +kernel
theorem dX12_letter_0 : decode cX12_letter 0 = .ok (.iload_n 1, 1) := by decide +kernel
theorem dX12_letter_1 : decode cX12_letter 1 = .ok (.invokestatic 211, 3) := by decide +kernel
theorem dX12_letter_4 : decode cX12_letter 4 = .ok (.ifCond .eq 10, 3) := by decide +kernel
theorem dX12_letter_7 : decode cX12_letter 7 = .ok (.iload_n 2, 1) := by decide +kernel
theorem dX12_letter_8 : decode cX12_letter 8 = .ok (.invokestatic 211, 3) := by decide +kernel
theorem dX12_letter_11 : decode cX12_letter 11 = .ok (.ifCond .ne 5, 3) := by decide +kernel
theorem dX12_letter_14 : decode cX12_letter 14 = .ok (.iconst (-1), 1) := by decide +kernel
theorem dX12_letter_15 : decode cX12_letter 15 = .ok (.ireturn, 1) := by decide +kernel
theorem dX12_letter_16 : decode cX12_letter 16 = .ok (.iload_n 1, 1) := by decide +kernel
theorem dX12_letter_17 : decode cX12_letter 17 = .ok (.iload_n 2, 1) := by decide +kernel
theorem dX12_letter_18 : decode cX12_letter 18 = .ok (.if_icmp .ne 6, 3) := by decide +kernel
theorem dX12_letter_21 : decode cX12_letter 21 = .ok (.bipush (-2), 2) := by decide +kernel
theorem dX12_letter_23 : decode cX12_letter 23 = .ok (.ireturn, 1) := by decide +kernel
theorem dX12_letter_24 : decode cX12_letter 24 = .ok (.aload_n 0, 1) := by decide +kernel
theorem dX12_letter_25 : decode cX12_letter 25 = .ok (.getfield 224, 3) := by decide +kernel
theorem dX12_letter_28 : decode cX12_letter 28 = .ok (.sipush 150, 3) := by decide +kernel
theorem dX12_letter_31 : decode cX12_letter 31 = .ok (.if_icmp .ne 6, 3) := by decide +kernel
theorem dX12_letter_34 : decode cX12_letter 34 = .ok (.bipush (-4), 2) := by decide +kernel
theorem dX12_letter_36 : decode cX12_letter 36 = .ok (.ireturn, 1) := by decide +kernel
theorem dX12_letter_37 : decode cX12_letter 37 = .ok (.aload_n 0, 1) := by decide +kernel
theorem dX12_letter_38 : decode cX12_letter 38 = .ok (.iconst 1, 1) := by decide +kernel
theorem dX12_letter_39 : decode cX12_letter 39 = .ok (.iload_n 1, 1) := by decide +kernel
theorem dX12_letter_40 : decode cX12_letter 40 = .ok (.iload_n 2, 1) := by decide +kernel
theorem dX12_letter_41 : decode cX12_letter 41 = .ok (.invokevirtual 320, 3) := by decide +kernel
theorem dX12_letter_44 : decode cX12_letter 44 = .ok (.istore_n 3, 1) := by decide +kernel
theorem dX12_letter_45 : decode cX12_letter 45 = .ok (.iconst 0, 1) := by decide +kernel
theorem dX12_letter_46 : decode cX12_letter 46 = .ok (.istore 4, 2) := by decide +kernel
theorem dX12_letter_48 : decode cX12_letter 48 = .ok (.iload 4, 2) := by decide +kernel
theorem dX12_letter_50 : decode cX12_letter 50 = .ok (.iconst 4, 1) := by decide +kernel
theorem dX12_letter_51 : decode cX12_letter 51 = .ok (.if_icmp .ge 27, 3) := by decide +kernel
theorem dX12_letter_54 : decode cX12_letter 54 = .ok (.aload_n 0, 1) := by decide +kernel
theorem dX12_letter_55 : decode cX12_letter 55 = .ok (.getfield 51, 3) := by decide +kernel
theorem dX12_letter_58 : decode cX12_letter 58 = .ok (.iload_n 3, 1) := by decide +kernel
theorem dX12_letter_59 : decode cX12_letter 59 = .ok (.aaload, 1) := by decide +kernel
theorem dX12_letter_60 : decode cX12_letter 60 = .ok (.iload 4, 2) := by decide +kernel
theorem dX12_letter_62 : decode cX12_letter 62 = .ok (.aload_n 0, 1) := by decide +kernel
theorem dX12_letter_63 : decode cX12_letter 63 = .ok (.getfield 15, 3) := by decide +kernel
theorem dX12_letter_66 : decode cX12_letter 66 = .ok (.iload_n 1, 1) := by decide +kernel
theorem dX12_letter_67 : decode cX12_letter 67 = .ok (.aaload, 1) := by decide +kernel
theorem dX12_letter_68 : decode cX12_letter 68 = .ok (.iload 4, 2) := by decide +kernel
theorem dX12_letter_70 : decode cX12_letter 70 = .ok (.iaload, 1) := by decide +kernel
theorem dX12_letter_71 : decode cX12_letter 71 = .ok (.iastore, 1) := by decide +kernel
theorem dX12_letter_72 : decode cX12_letter 72 = .ok (.iinc 4 1, 3) := by decide +kernel
theorem dX12_letter_75 : decode cX12_letter 75 = .ok (.goto (-27), 3) := by decide +kernel
theorem dX12_letter_78 : decode cX12_letter 78 = .ok (.iload_n 3, 1) := by decide +kernel
theorem dX12_letter_79 : decode cX12_letter 79 = .ok (.ireturn, 1) := by decide +kernel
theorem dX12_isShip_0 : decode cX12_isShip 0 = .ok (.iload_n 1, 1) := by decide +kernel
theorem dX12_isShip_1 : decode cX12_isShip 1 = .ok (.iconst 0, 1) := by decide +kernel
theorem dX12_isShip_2 : decode cX12_isShip 2 = .ok (.aload_n 0, 1) := by decide +kernel
theorem dX12_isShip_3 : decode cX12_isShip 3 = .ok (.getfield 324, 3) := by decide +kernel
theorem dX12_isShip_6 : decode cX12_isShip 6 = .ok (.iconst 1, 1) := by decide +kernel
theorem dX12_isShip_7 : decode cX12_isShip 7 = .ok (.isub, 1) := by decide +kernel
theorem dX12_isShip_8 : decode cX12_isShip 8 = .ok (.invokestatic 196, 3) := by decide +kernel
theorem dX12_isShip_11 : decode cX12_isShip 11 = .ok (.ireturn, 1) := by decide +kernel
theorem dX12_copy_0 : decode cX12_copy 0 = .ok (.aload_n 0, 1) := by decide +kernel
theorem dX12_copy_1 : decode cX12_copy 1 = .ok (.iload_n 1, 1) := by decide +kernel
theorem dX12_copy_2 : decode cX12_copy 2 = .ok (.invokevirtual 327, 3) := by decide +kernel
theorem dX12_copy_5 : decode cX12_copy 5 = .ok (.ifCond .eq 11, 3) := by decide +kernel
theorem dX12_copy_8 : decode cX12_copy 8 = .ok (.aload_n 0, 1) := by decide +kernel
theorem dX12_copy_9 : decode cX12_copy 9 = .ok (.iload_n 2, 1) := by decide +kernel
theorem dX12_copy_10 : decode cX12_copy 10 = .ok (.invokevirtual 330, 3) := by decide +kernel
theorem dX12_copy_13 : decode cX12_copy 13 = .ok (.ifCond .ne 5, 3) := by decide +kernel
theorem dX12_copy_16 : decode cX12_copy 16 = .ok (.iconst (-1), 1) := by decide +kernel
theorem dX12_copy_17 : decode cX12_copy 17 = .ok (.ireturn, 1) := by decide +kernel
theorem dX12_copy_18 : decode cX12_copy 18 = .ok (.aload_n 0, 1) := by decide +kernel
theorem dX12_copy_19 : decode cX12_copy 19 = .ok (.getfield 72, 3) := by decide +kernel
theorem dX12_copy_22 : decode cX12_copy 22 = .ok (.iload_n 2, 1) := by decide +kernel
theorem dX12_copy_23 : decode cX12_copy 23 = .ok (.iaload, 1) := by decide +kernel
theorem dX12_copy_24 : decode cX12_copy 24 = .ok (.ifCond .lt 19, 3) := by decide +kernel
theorem dX12_copy_27 : decode cX12_copy 27 = .ok (.aload_n 0, 1) := by decide +kernel
theorem dX12_copy_28 : decode cX12_copy 28 = .ok (.getfield 48, 3) := by decide +kernel
theorem dX12_copy_31 : decode cX12_copy 31 = .ok (.iload_n 1, 1) := by decide +kernel
theorem dX12_copy_32 : decode cX12_copy 32 = .ok (.aaload, 1) := by decide +kernel
theorem dX12_copy_33 : decode cX12_copy 33 = .ok (.aload_n 0, 1) := by decide +kernel
theorem dX12_copy_34 : decode cX12_copy 34 = .ok (.getfield 72, 3) := by decide +kernel
theorem dX12_copy_37 : decode cX12_copy 37 = .ok (.iload_n 2, 1) := by decide +kernel
theorem dX12_copy_38 : decode cX12_copy 38 = .ok (.iaload, 1) := by decide +kernel
theorem dX12_copy_39 : decode cX12_copy 39 = .ok (.iaload, 1) := by decide +kernel
theorem dX12_copy_40 : decode cX12_copy 40 = .ok (.ifCond .ge 6, 3) := by decide +kernel
theorem dX12_copy_43 : decode cX12_copy 43 = .ok (.bipush (-3), 2) := by decide +kernel
theorem dX12_copy_45 : decode cX12_copy 45 = .ok (.ireturn, 1) := by decide +kernel
theorem dX12_copy_46 : decode cX12_copy 46 = .ok (.aload_n 0, 1) := by decide +kernel
theorem dX12_copy_47 : decode cX12_copy 47 = .ok (.getfield 45, 3) := by decide +kernel
theorem dX12_copy_50 : decode cX12_copy 50 = .ok (.iload_n 1, 1) := by decide +kernel
theorem dX12_copy_51 : decode cX12_copy 51 = .ok (.iaload, 1) := by decide +kernel
theorem dX12_copy_52 : decode cX12_copy 52 = .ok (.iconst 3, 1) := by decide +kernel
theorem dX12_copy_53 : decode cX12_copy 53 = .ok (.if_icmp .ne 6, 3) := by decide +kernel
theorem dX12_copy_56 : decode cX12_copy 56 = .ok (.bipush (-4), 2) := by decide +kernel
theorem dX12_copy_58 : decode cX12_copy 58 = .ok (.ireturn, 1) := by decide +kernel
theorem dX12_copy_59 : decode cX12_copy 59 = .ok (.aload_n 0, 1) := by decide +kernel
theorem dX12_copy_60 : decode cX12_copy 60 = .ok (.getfield 45, 3) := by decide +kernel
theorem dX12_copy_63 : decode cX12_copy 63 = .ok (.iload_n 1, 1) := by decide +kernel
theorem dX12_copy_64 : decode cX12_copy 64 = .ok (.dup2, 1) := by decide +kernel
theorem dX12_copy_65 : decode cX12_copy 65 = .ok (.iaload, 1) := by decide +kernel
theorem dX12_copy_66 : decode cX12_copy 66 = .ok (.iconst 1, 1) := by decide +kernel
theorem dX12_copy_67 : decode cX12_copy 67 = .ok (.iadd, 1) := by decide +kernel
theorem dX12_copy_68 : decode cX12_copy 68 = .ok (.iastore, 1) := by decide +kernel
theorem dX12_copy_69 : decode cX12_copy 69 = .ok (.aload_n 0, 1) := by decide +kernel
theorem dX12_copy_70 : decode cX12_copy 70 = .ok (.getfield 63, 3) := by decide +kernel
theorem dX12_copy_73 : decode cX12_copy 73 = .ok (.iload_n 1, 1) := by decide +kernel
theorem dX12_copy_74 : decode cX12_copy 74 = .ok (.aaload, 1) := by decide +kernel
theorem dX12_copy_75 : decode cX12_copy 75 = .ok (.iload_n 2, 1) := by decide +kernel
theorem dX12_copy_76 : decode cX12_copy 76 = .ok (.dup2, 1) := by decide +kernel
theorem dX12_copy_77 : decode cX12_copy 77 = .ok (.iaload, 1) := by decide +kernel
theorem dX12_copy_78 : decode cX12_copy 78 = .ok (.iconst 1, 1) := by decide +kernel
theorem dX12_copy_79 : decode cX12_copy 79 = .ok (.iadd, 1) := by decide +kernel
theorem dX12_copy_80 : decode cX12_copy 80 = .ok (.iastore, 1) := by decide +kernel
theorem dX12_copy_81 : decode cX12_copy 81 = .ok (.aload_n 0, 1) := by decide +kernel
theorem dX12_copy_82 : decode cX12_copy 82 = .ok (.getfield 45, 3) := by decide +kernel
theorem dX12_copy_85 : decode cX12_copy 85 = .ok (.iload_n 1, 1) := by decide +kernel
theorem dX12_copy_86 : decode cX12_copy 86 = .ok (.iaload, 1) := by decide +kernel
theorem dX12_copy_87 : decode cX12_copy 87 = .ok (.ireturn, 1) := by decide +kernel
theorem dX12_known_0 : decode cX12_known 0 = .ok (.aload_n 0, 1) := by decide +kernel
theorem dX12_known_1 : decode cX12_known 1 = .ok (.iload_n 1, 1) := by decide +kernel
theorem dX12_known_2 : decode cX12_known 2 = .ok (.invokevirtual 327, 3) := by decide +kernel
theorem dX12_known_5 : decode cX12_known 5 = .ok (.ifCond .eq 21, 3) := by decide +kernel
theorem dX12_known_8 : decode cX12_known 8 = .ok (.iload_n 2, 1) := by decide +kernel
theorem dX12_known_9 : decode cX12_known 9 = .ok (.invokestatic 211, 3) := by decide +kernel
theorem dX12_known_12 : decode cX12_known 12 = .ok (.ifCond .eq 14, 3) := by decide +kernel
theorem dX12_known_15 : decode cX12_known 15 = .ok (.aload_n 0, 1) := by decide +kernel
theorem dX12_known_16 : decode cX12_known 16 = .ok (.getfield 48, 3) := by decide +kernel
theorem dX12_known_19 : decode cX12_known 19 = .ok (.iload_n 1, 1) := by decide +kernel
theorem dX12_known_20 : decode cX12_known 20 = .ok (.aaload, 1) := by decide +kernel
theorem dX12_known_21 : decode cX12_known 21 = .ok (.iload_n 2, 1) := by decide +kernel
theorem dX12_known_22 : decode cX12_known 22 = .ok (.iaload, 1) := by decide +kernel
theorem dX12_known_23 : decode cX12_known 23 = .ok (.goto 5, 3) := by decide +kernel
theorem dX12_known_26 : decode cX12_known 26 = .ok (.bipush (-5), 2) := by decide +kernel
theorem dX12_known_28 : decode cX12_known 28 = .ok (.ireturn, 1) := by decide +kernel
theorem dX12_paper_0 : decode cX12_paper 0 = .ok (.aload_n 0, 1) := by decide +kernel
theorem dX12_paper_1 : decode cX12_paper 1 = .ok (.iload_n 1, 1) := by decide +kernel
theorem dX12_paper_2 : decode cX12_paper 2 = .ok (.invokevirtual 327, 3) := by decide +kernel
theorem dX12_paper_5 : decode cX12_paper 5 = .ok (.ifCond .ne 6, 3) := by decide +kernel
theorem dX12_paper_8 : decode cX12_paper 8 = .ok (.bipush (-5), 2) := by decide +kernel
theorem dX12_paper_10 : decode cX12_paper 10 = .ok (.ireturn, 1) := by decide +kernel
theorem dX12_paper_11 : decode cX12_paper 11 = .ok (.iload_n 2, 1) := by decide +kernel
theorem dX12_paper_12 : decode cX12_paper 12 = .ok (.tableswitch 127 0 5 #[40, 47, 54, 61, 68, 75], 40) := by decide +kernel
theorem dX12_paper_52 : decode cX12_paper 52 = .ok (.aload_n 0, 1) := by decide +kernel
theorem dX12_paper_53 : decode cX12_paper 53 = .ok (.getfield 33, 3) := by decide +kernel
theorem dX12_paper_56 : decode cX12_paper 56 = .ok (.iload_n 1, 1) := by decide +kernel
theorem dX12_paper_57 : decode cX12_paper 57 = .ok (.iaload, 1) := by decide +kernel
theorem dX12_paper_58 : decode cX12_paper 58 = .ok (.ireturn, 1) := by decide +kernel
theorem dX12_paper_59 : decode cX12_paper 59 = .ok (.aload_n 0, 1) := by decide +kernel
theorem dX12_paper_60 : decode cX12_paper 60 = .ok (.getfield 36, 3) := by decide +kernel
theorem dX12_paper_63 : decode cX12_paper 63 = .ok (.iload_n 1, 1) := by decide +kernel
theorem dX12_paper_64 : decode cX12_paper 64 = .ok (.iaload, 1) := by decide +kernel
theorem dX12_paper_65 : decode cX12_paper 65 = .ok (.ireturn, 1) := by decide +kernel
theorem dX12_paper_66 : decode cX12_paper 66 = .ok (.aload_n 0, 1) := by decide +kernel
theorem dX12_paper_67 : decode cX12_paper 67 = .ok (.getfield 39, 3) := by decide +kernel
theorem dX12_paper_70 : decode cX12_paper 70 = .ok (.iload_n 1, 1) := by decide +kernel
theorem dX12_paper_71 : decode cX12_paper 71 = .ok (.iaload, 1) := by decide +kernel
theorem dX12_paper_72 : decode cX12_paper 72 = .ok (.ireturn, 1) := by decide +kernel
theorem dX12_paper_73 : decode cX12_paper 73 = .ok (.aload_n 0, 1) := by decide +kernel
theorem dX12_paper_74 : decode cX12_paper 74 = .ok (.getfield 42, 3) := by decide +kernel
theorem dX12_paper_77 : decode cX12_paper 77 = .ok (.iload_n 1, 1) := by decide +kernel
theorem dX12_paper_78 : decode cX12_paper 78 = .ok (.iaload, 1) := by decide +kernel
theorem dX12_paper_79 : decode cX12_paper 79 = .ok (.ireturn, 1) := by decide +kernel
theorem dX12_paper_80 : decode cX12_paper 80 = .ok (.aload_n 0, 1) := by decide +kernel
theorem dX12_paper_81 : decode cX12_paper 81 = .ok (.getfield 45, 3) := by decide +kernel
theorem dX12_paper_84 : decode cX12_paper 84 = .ok (.iload_n 1, 1) := by decide +kernel
theorem dX12_paper_85 : decode cX12_paper 85 = .ok (.iaload, 1) := by decide +kernel
theorem dX12_paper_86 : decode cX12_paper 86 = .ok (.ireturn, 1) := by decide +kernel
theorem dX12_paper_87 : decode cX12_paper 87 = .ok (.aload_n 0, 1) := by decide +kernel
theorem dX12_paper_88 : decode cX12_paper 88 = .ok (.getfield 33, 3) := by decide +kernel
theorem dX12_paper_91 : decode cX12_paper 91 = .ok (.iload_n 1, 1) := by decide +kernel
theorem dX12_paper_92 : decode cX12_paper 92 = .ok (.iaload, 1) := by decide +kernel
theorem dX12_paper_93 : decode cX12_paper 93 = .ok (.iconst 2, 1) := by decide +kernel
theorem dX12_paper_94 : decode cX12_paper 94 = .ok (.if_icmp .ne 12, 3) := by decide +kernel
theorem dX12_paper_97 : decode cX12_paper 97 = .ok (.aload_n 0, 1) := by decide +kernel
theorem dX12_paper_98 : decode cX12_paper 98 = .ok (.getfield 54, 3) := by decide +kernel
theorem dX12_paper_101 : decode cX12_paper 101 = .ok (.iload_n 1, 1) := by decide +kernel
theorem dX12_paper_102 : decode cX12_paper 102 = .ok (.iaload, 1) := by decide +kernel
theorem dX12_paper_103 : decode cX12_paper 103 = .ok (.goto 35, 3) := by decide +kernel
theorem dX12_paper_106 : decode cX12_paper 106 = .ok (.aload_n 0, 1) := by decide +kernel
theorem dX12_paper_107 : decode cX12_paper 107 = .ok (.getfield 33, 3) := by decide +kernel
theorem dX12_paper_110 : decode cX12_paper 110 = .ok (.iload_n 1, 1) := by decide +kernel
theorem dX12_paper_111 : decode cX12_paper 111 = .ok (.iaload, 1) := by decide +kernel
theorem dX12_paper_112 : decode cX12_paper 112 = .ok (.iconst 4, 1) := by decide +kernel
theorem dX12_paper_113 : decode cX12_paper 113 = .ok (.if_icmp .eq 13, 3) := by decide +kernel
theorem dX12_paper_116 : decode cX12_paper 116 = .ok (.aload_n 0, 1) := by decide +kernel
theorem dX12_paper_117 : decode cX12_paper 117 = .ok (.getfield 33, 3) := by decide +kernel
theorem dX12_paper_120 : decode cX12_paper 120 = .ok (.iload_n 1, 1) := by decide +kernel
theorem dX12_paper_121 : decode cX12_paper 121 = .ok (.iaload, 1) := by decide +kernel
theorem dX12_paper_122 : decode cX12_paper 122 = .ok (.iconst 5, 1) := by decide +kernel
theorem dX12_paper_123 : decode cX12_paper 123 = .ok (.if_icmp .ne 14, 3) := by decide +kernel
theorem dX12_paper_126 : decode cX12_paper 126 = .ok (.aload_n 0, 1) := by decide +kernel
theorem dX12_paper_127 : decode cX12_paper 127 = .ok (.getfield 51, 3) := by decide +kernel
theorem dX12_paper_130 : decode cX12_paper 130 = .ok (.iload_n 1, 1) := by decide +kernel
theorem dX12_paper_131 : decode cX12_paper 131 = .ok (.aaload, 1) := by decide +kernel
theorem dX12_paper_132 : decode cX12_paper 132 = .ok (.iconst 0, 1) := by decide +kernel
theorem dX12_paper_133 : decode cX12_paper 133 = .ok (.iaload, 1) := by decide +kernel
theorem dX12_paper_134 : decode cX12_paper 134 = .ok (.goto 4, 3) := by decide +kernel
theorem dX12_paper_137 : decode cX12_paper 137 = .ok (.iconst 0, 1) := by decide +kernel
theorem dX12_paper_138 : decode cX12_paper 138 = .ok (.ireturn, 1) := by decide +kernel
theorem dX12_paper_139 : decode cX12_paper 139 = .ok (.bipush (-5), 2) := by decide +kernel
theorem dX12_paper_141 : decode cX12_paper 141 = .ok (.ireturn, 1) := by decide +kernel
theorem dX12_known__0 : decode cX12_known_ 0 = .ok (.aload_n 0, 1) := by decide +kernel
theorem dX12_known__1 : decode cX12_known_ 1 = .ok (.getfield 33, 3) := by decide +kernel
theorem dX12_known__4 : decode cX12_known_ 4 = .ok (.iload_n 1, 1) := by decide +kernel
theorem dX12_known__5 : decode cX12_known_ 5 = .ok (.iaload, 1) := by decide +kernel
theorem dX12_known__6 : decode cX12_known_ 6 = .ok (.iconst 2, 1) := by decide +kernel
theorem dX12_known__7 : decode cX12_known_ 7 = .ok (.if_icmp .ne 40, 3) := by decide +kernel
theorem dX12_known__10 : decode cX12_known_ 10 = .ok (.aload_n 0, 1) := by decide +kernel
theorem dX12_known__11 : decode cX12_known_ 11 = .ok (.getfield 42, 3) := by decide +kernel
theorem dX12_known__14 : decode cX12_known_ 14 = .ok (.iload_n 1, 1) := by decide +kernel
theorem dX12_known__15 : decode cX12_known_ 15 = .ok (.iaload, 1) := by decide +kernel
theorem dX12_known__16 : decode cX12_known_ 16 = .ok (.iload_n 2, 1) := by decide +kernel
theorem dX12_known__17 : decode cX12_known_ 17 = .ok (.if_icmp .ne 30, 3) := by decide +kernel
theorem dX12_known__20 : decode cX12_known_ 20 = .ok (.aload_n 0, 1) := by decide +kernel
theorem dX12_known__21 : decode cX12_known_ 21 = .ok (.getfield 48, 3) := by decide +kernel
theorem dX12_known__24 : decode cX12_known_ 24 = .ok (.iload_n 1, 1) := by decide +kernel
theorem dX12_known__25 : decode cX12_known_ 25 = .ok (.aaload, 1) := by decide +kernel
theorem dX12_known__26 : decode cX12_known_ 26 = .ok (.iload_n 2, 1) := by decide +kernel
theorem dX12_known__27 : decode cX12_known_ 27 = .ok (.iaload, 1) := by decide +kernel
theorem dX12_known__28 : decode cX12_known_ 28 = .ok (.ifCond .lt 19, 3) := by decide +kernel
theorem dX12_known__31 : decode cX12_known_ 31 = .ok (.aload_n 0, 1) := by decide +kernel
theorem dX12_known__32 : decode cX12_known_ 32 = .ok (.getfield 48, 3) := by decide +kernel
theorem dX12_known__35 : decode cX12_known_ 35 = .ok (.iload_n 1, 1) := by decide +kernel
theorem dX12_known__36 : decode cX12_known_ 36 = .ok (.aaload, 1) := by decide +kernel
theorem dX12_known__37 : decode cX12_known_ 37 = .ok (.iload_n 2, 1) := by decide +kernel
theorem dX12_known__38 : decode cX12_known_ 38 = .ok (.iaload, 1) := by decide +kernel
theorem dX12_known__39 : decode cX12_known_ 39 = .ok (.iload_n 3, 1) := by decide +kernel
theorem dX12_known__40 : decode cX12_known_ 40 = .ok (.if_icmp .gt 7, 3) := by decide +kernel
theorem dX12_known__43 : decode cX12_known_ 43 = .ok (.iconst 1, 1) := by decide +kernel
theorem dX12_known__44 : decode cX12_known_ 44 = .ok (.goto 4, 3) := by decide +kernel
theorem dX12_known__47 : decode cX12_known_ 47 = .ok (.iconst 0, 1) := by decide +kernel
theorem dX12_known__48 : decode cX12_known_ 48 = .ok (.ireturn, 1) := by decide +kernel
theorem dX12_ahead_0 : decode cX12_ahead 0 = .ok (.aload_n 0, 1) := by decide +kernel
theorem dX12_ahead_1 : decode cX12_ahead 1 = .ok (.getfield 48, 3) := by decide +kernel
theorem dX12_ahead_4 : decode cX12_ahead 4 = .ok (.iload_n 1, 1) := by decide +kernel
theorem dX12_ahead_5 : decode cX12_ahead 5 = .ok (.aaload, 1) := by decide +kernel
theorem dX12_ahead_6 : decode cX12_ahead 6 = .ok (.iload_n 3, 1) := by decide +kernel
theorem dX12_ahead_7 : decode cX12_ahead 7 = .ok (.iaload, 1) := by decide +kernel
theorem dX12_ahead_8 : decode cX12_ahead 8 = .ok (.aload_n 0, 1) := by decide +kernel
theorem dX12_ahead_9 : decode cX12_ahead 9 = .ok (.getfield 48, 3) := by decide +kernel
theorem dX12_ahead_12 : decode cX12_ahead 12 = .ok (.iload_n 2, 1) := by decide +kernel
theorem dX12_ahead_13 : decode cX12_ahead 13 = .ok (.aaload, 1) := by decide +kernel
theorem dX12_ahead_14 : decode cX12_ahead 14 = .ok (.iload_n 3, 1) := by decide +kernel
theorem dX12_ahead_15 : decode cX12_ahead 15 = .ok (.iaload, 1) := by decide +kernel
theorem dX12_ahead_16 : decode cX12_ahead 16 = .ok (.if_icmp .lt 27, 3) := by decide +kernel
theorem dX12_ahead_19 : decode cX12_ahead 19 = .ok (.aload_n 0, 1) := by decide +kernel
theorem dX12_ahead_20 : decode cX12_ahead 20 = .ok (.getfield 48, 3) := by decide +kernel
theorem dX12_ahead_23 : decode cX12_ahead 23 = .ok (.iload_n 1, 1) := by decide +kernel
theorem dX12_ahead_24 : decode cX12_ahead 24 = .ok (.aaload, 1) := by decide +kernel
theorem dX12_ahead_25 : decode cX12_ahead 25 = .ok (.iload_n 3, 1) := by decide +kernel
theorem dX12_ahead_26 : decode cX12_ahead 26 = .ok (.iaload, 1) := by decide +kernel
theorem dX12_ahead_27 : decode cX12_ahead 27 = .ok (.aload_n 0, 1) := by decide +kernel
theorem dX12_ahead_28 : decode cX12_ahead 28 = .ok (.getfield 48, 3) := by decide +kernel
theorem dX12_ahead_31 : decode cX12_ahead 31 = .ok (.iload_n 2, 1) := by decide +kernel
theorem dX12_ahead_32 : decode cX12_ahead 32 = .ok (.aaload, 1) := by decide +kernel
theorem dX12_ahead_33 : decode cX12_ahead 33 = .ok (.iload_n 3, 1) := by decide +kernel
theorem dX12_ahead_34 : decode cX12_ahead 34 = .ok (.iaload, 1) := by decide +kernel
theorem dX12_ahead_35 : decode cX12_ahead 35 = .ok (.if_icmp .ne 12, 3) := by decide +kernel
theorem dX12_ahead_38 : decode cX12_ahead 38 = .ok (.iload_n 1, 1) := by decide +kernel
theorem dX12_ahead_39 : decode cX12_ahead 39 = .ok (.iload_n 2, 1) := by decide +kernel
theorem dX12_ahead_40 : decode cX12_ahead 40 = .ok (.if_icmp .ge 7, 3) := by decide +kernel
theorem dX12_ahead_43 : decode cX12_ahead 43 = .ok (.iconst 1, 1) := by decide +kernel
theorem dX12_ahead_44 : decode cX12_ahead 44 = .ok (.goto 4, 3) := by decide +kernel
theorem dX12_ahead_47 : decode cX12_ahead 47 = .ok (.iconst 0, 1) := by decide +kernel
theorem dX12_ahead_48 : decode cX12_ahead 48 = .ok (.ireturn, 1) := by decide +kernel
theorem dX12_sameAct_0 : decode cX12_sameAct 0 = .ok (.aload_n 0, 1) := by decide +kernel
theorem dX12_sameAct_1 : decode cX12_sameAct 1 = .ok (.getfield 57, 3) := by decide +kernel
theorem dX12_sameAct_4 : decode cX12_sameAct 4 = .ok (.iload_n 1, 1) := by decide +kernel
theorem dX12_sameAct_5 : decode cX12_sameAct 5 = .ok (.aaload, 1) := by decide +kernel
theorem dX12_sameAct_6 : decode cX12_sameAct 6 = .ok (.iconst 4, 1) := by decide +kernel
theorem dX12_sameAct_7 : decode cX12_sameAct 7 = .ok (.iload_n 2, 1) := by decide +kernel
theorem dX12_sameAct_8 : decode cX12_sameAct 8 = .ok (.imul, 1) := by decide +kernel
theorem dX12_sameAct_9 : decode cX12_sameAct 9 = .ok (.iaload, 1) := by decide +kernel
theorem dX12_sameAct_10 : decode cX12_sameAct 10 = .ok (.aload_n 0, 1) := by decide +kernel
theorem dX12_sameAct_11 : decode cX12_sameAct 11 = .ok (.getfield 57, 3) := by decide +kernel
theorem dX12_sameAct_14 : decode cX12_sameAct 14 = .ok (.iload_n 3, 1) := by decide +kernel
theorem dX12_sameAct_15 : decode cX12_sameAct 15 = .ok (.aaload, 1) := by decide +kernel
theorem dX12_sameAct_16 : decode cX12_sameAct 16 = .ok (.iconst 4, 1) := by decide +kernel
theorem dX12_sameAct_17 : decode cX12_sameAct 17 = .ok (.iload 4, 2) := by decide +kernel
theorem dX12_sameAct_19 : decode cX12_sameAct 19 = .ok (.imul, 1) := by decide +kernel
theorem dX12_sameAct_20 : decode cX12_sameAct 20 = .ok (.iaload, 1) := by decide +kernel
theorem dX12_sameAct_21 : decode cX12_sameAct 21 = .ok (.if_icmp .ne 35, 3) := by decide +kernel
theorem dX12_sameAct_24 : decode cX12_sameAct 24 = .ok (.aload_n 0, 1) := by decide +kernel
theorem dX12_sameAct_25 : decode cX12_sameAct 25 = .ok (.getfield 57, 3) := by decide +kernel
theorem dX12_sameAct_28 : decode cX12_sameAct 28 = .ok (.iload_n 1, 1) := by decide +kernel
theorem dX12_sameAct_29 : decode cX12_sameAct 29 = .ok (.aaload, 1) := by decide +kernel
theorem dX12_sameAct_30 : decode cX12_sameAct 30 = .ok (.iconst 4, 1) := by decide +kernel
theorem dX12_sameAct_31 : decode cX12_sameAct 31 = .ok (.iload_n 2, 1) := by decide +kernel
theorem dX12_sameAct_32 : decode cX12_sameAct 32 = .ok (.imul, 1) := by decide +kernel
theorem dX12_sameAct_33 : decode cX12_sameAct 33 = .ok (.iconst 1, 1) := by decide +kernel
theorem dX12_sameAct_34 : decode cX12_sameAct 34 = .ok (.iadd, 1) := by decide +kernel
theorem dX12_sameAct_35 : decode cX12_sameAct 35 = .ok (.iaload, 1) := by decide +kernel
theorem dX12_sameAct_36 : decode cX12_sameAct 36 = .ok (.aload_n 0, 1) := by decide +kernel
theorem dX12_sameAct_37 : decode cX12_sameAct 37 = .ok (.getfield 57, 3) := by decide +kernel
theorem dX12_sameAct_40 : decode cX12_sameAct 40 = .ok (.iload_n 3, 1) := by decide +kernel
theorem dX12_sameAct_41 : decode cX12_sameAct 41 = .ok (.aaload, 1) := by decide +kernel
theorem dX12_sameAct_42 : decode cX12_sameAct 42 = .ok (.iconst 4, 1) := by decide +kernel
theorem dX12_sameAct_43 : decode cX12_sameAct 43 = .ok (.iload 4, 2) := by decide +kernel
theorem dX12_sameAct_45 : decode cX12_sameAct 45 = .ok (.imul, 1) := by decide +kernel
theorem dX12_sameAct_46 : decode cX12_sameAct 46 = .ok (.iconst 1, 1) := by decide +kernel
theorem dX12_sameAct_47 : decode cX12_sameAct 47 = .ok (.iadd, 1) := by decide +kernel
theorem dX12_sameAct_48 : decode cX12_sameAct 48 = .ok (.iaload, 1) := by decide +kernel
theorem dX12_sameAct_49 : decode cX12_sameAct 49 = .ok (.if_icmp .ne 7, 3) := by decide +kernel
theorem dX12_sameAct_52 : decode cX12_sameAct 52 = .ok (.iconst 1, 1) := by decide +kernel
theorem dX12_sameAct_53 : decode cX12_sameAct 53 = .ok (.goto 4, 3) := by decide +kernel
theorem dX12_sameAct_56 : decode cX12_sameAct 56 = .ok (.iconst 0, 1) := by decide +kernel
theorem dX12_sameAct_57 : decode cX12_sameAct 57 = .ok (.ireturn, 1) := by decide +kernel
theorem dX12_hasAct_0 : decode cX12_hasAct 0 = .ok (.iconst 0, 1) := by decide +kernel
theorem dX12_hasAct_1 : decode cX12_hasAct 1 = .ok (.istore 4, 2) := by decide +kernel
theorem dX12_hasAct_3 : decode cX12_hasAct 3 = .ok (.iload 4, 2) := by decide +kernel
theorem dX12_hasAct_5 : decode cX12_hasAct 5 = .ok (.aload_n 0, 1) := by decide +kernel
theorem dX12_hasAct_6 : decode cX12_hasAct 6 = .ok (.getfield 54, 3) := by decide +kernel
theorem dX12_hasAct_9 : decode cX12_hasAct 9 = .ok (.iload_n 3, 1) := by decide +kernel
theorem dX12_hasAct_10 : decode cX12_hasAct 10 = .ok (.iaload, 1) := by decide +kernel
theorem dX12_hasAct_11 : decode cX12_hasAct 11 = .ok (.if_icmp .ge 23, 3) := by decide +kernel
theorem dX12_hasAct_14 : decode cX12_hasAct 14 = .ok (.aload_n 0, 1) := by decide +kernel
theorem dX12_hasAct_15 : decode cX12_hasAct 15 = .ok (.iload_n 1, 1) := by decide +kernel
theorem dX12_hasAct_16 : decode cX12_hasAct 16 = .ok (.iload_n 2, 1) := by decide +kernel
theorem dX12_hasAct_17 : decode cX12_hasAct 17 = .ok (.iload_n 3, 1) := by decide +kernel
theorem dX12_hasAct_18 : decode cX12_hasAct 18 = .ok (.iload 4, 2) := by decide +kernel
theorem dX12_hasAct_20 : decode cX12_hasAct 20 = .ok (.invokevirtual 333, 3) := by decide +kernel
theorem dX12_hasAct_23 : decode cX12_hasAct 23 = .ok (.ifCond .eq 5, 3) := by decide +kernel
theorem dX12_hasAct_26 : decode cX12_hasAct 26 = .ok (.iconst 1, 1) := by decide +kernel
theorem dX12_hasAct_27 : decode cX12_hasAct 27 = .ok (.ireturn, 1) := by decide +kernel
theorem dX12_hasAct_28 : decode cX12_hasAct 28 = .ok (.iinc 4 1, 3) := by decide +kernel
theorem dX12_hasAct_31 : decode cX12_hasAct 31 = .ok (.goto (-28), 3) := by decide +kernel
theorem dX12_hasAct_34 : decode cX12_hasAct 34 = .ok (.iconst 0, 1) := by decide +kernel
theorem dX12_hasAct_35 : decode cX12_hasAct 35 = .ok (.ireturn, 1) := by decide +kernel
theorem dX12_standing_0 : decode cX12_standing 0 = .ok (.iconst 0, 1) := by decide +kernel
theorem dX12_standing_1 : decode cX12_standing 1 = .ok (.istore 4, 2) := by decide +kernel
theorem dX12_standing_3 : decode cX12_standing 3 = .ok (.iload 4, 2) := by decide +kernel
theorem dX12_standing_5 : decode cX12_standing 5 = .ok (.aload_n 0, 1) := by decide +kernel
theorem dX12_standing_6 : decode cX12_standing 6 = .ok (.getfield 224, 3) := by decide +kernel
theorem dX12_standing_9 : decode cX12_standing 9 = .ok (.if_icmp .ge 47, 3) := by decide +kernel
theorem dX12_standing_12 : decode cX12_standing 12 = .ok (.aload_n 0, 1) := by decide +kernel
theorem dX12_standing_13 : decode cX12_standing 13 = .ok (.iload 4, 2) := by decide +kernel
theorem dX12_standing_15 : decode cX12_standing 15 = .ok (.iload_n 3, 1) := by decide +kernel
theorem dX12_standing_16 : decode cX12_standing 16 = .ok (.aload_n 0, 1) := by decide +kernel
theorem dX12_standing_17 : decode cX12_standing 17 = .ok (.getfield 227, 3) := by decide +kernel
theorem dX12_standing_20 : decode cX12_standing 20 = .ok (.invokevirtual 337, 3) := by decide +kernel
theorem dX12_standing_23 : decode cX12_standing 23 = .ok (.ifCond .eq 27, 3) := by decide +kernel
theorem dX12_standing_26 : decode cX12_standing 26 = .ok (.aload_n 0, 1) := by decide +kernel
theorem dX12_standing_27 : decode cX12_standing 27 = .ok (.iload_n 1, 1) := by decide +kernel
theorem dX12_standing_28 : decode cX12_standing 28 = .ok (.iload 4, 2) := by decide +kernel
theorem dX12_standing_30 : decode cX12_standing 30 = .ok (.iload_n 3, 1) := by decide +kernel
theorem dX12_standing_31 : decode cX12_standing 31 = .ok (.invokevirtual 340, 3) := by decide +kernel
theorem dX12_standing_34 : decode cX12_standing 34 = .ok (.ifCond .eq 16, 3) := by decide +kernel
theorem dX12_standing_37 : decode cX12_standing 37 = .ok (.aload_n 0, 1) := by decide +kernel
theorem dX12_standing_38 : decode cX12_standing 38 = .ok (.iload_n 1, 1) := by decide +kernel
theorem dX12_standing_39 : decode cX12_standing 39 = .ok (.iload_n 2, 1) := by decide +kernel
theorem dX12_standing_40 : decode cX12_standing 40 = .ok (.iload 4, 2) := by decide +kernel
theorem dX12_standing_42 : decode cX12_standing 42 = .ok (.invokevirtual 343, 3) := by decide +kernel
theorem dX12_standing_45 : decode cX12_standing 45 = .ok (.ifCond .eq 5, 3) := by decide +kernel
theorem dX12_standing_48 : decode cX12_standing 48 = .ok (.iconst 0, 1) := by decide +kernel
theorem dX12_standing_49 : decode cX12_standing 49 = .ok (.ireturn, 1) := by decide +kernel
theorem dX12_standing_50 : decode cX12_standing 50 = .ok (.iinc 4 1, 3) := by decide +kernel
theorem dX12_standing_53 : decode cX12_standing 53 = .ok (.goto (-50), 3) := by decide +kernel
theorem dX12_standing_56 : decode cX12_standing 56 = .ok (.iconst 1, 1) := by decide +kernel
theorem dX12_standing_57 : decode cX12_standing 57 = .ok (.ireturn, 1) := by decide +kernel
theorem dX12_nextOrder_0 : decode cX12_nextOrder 0 = .ok (.iconst (-1), 1) := by decide +kernel
theorem dX12_nextOrder_1 : decode cX12_nextOrder 1 = .ok (.istore_n 3, 1) := by decide +kernel
theorem dX12_nextOrder_2 : decode cX12_nextOrder 2 = .ok (.iconst 0, 1) := by decide +kernel
theorem dX12_nextOrder_3 : decode cX12_nextOrder 3 = .ok (.istore 4, 2) := by decide +kernel
theorem dX12_nextOrder_5 : decode cX12_nextOrder 5 = .ok (.iload 4, 2) := by decide +kernel
theorem dX12_nextOrder_7 : decode cX12_nextOrder 7 = .ok (.aload_n 0, 1) := by decide +kernel
theorem dX12_nextOrder_8 : decode cX12_nextOrder 8 = .ok (.getfield 224, 3) := by decide +kernel
theorem dX12_nextOrder_11 : decode cX12_nextOrder 11 = .ok (.if_icmp .ge 56, 3) := by decide +kernel
theorem dX12_nextOrder_14 : decode cX12_nextOrder 14 = .ok (.aload_n 0, 1) := by decide +kernel
theorem dX12_nextOrder_15 : decode cX12_nextOrder 15 = .ok (.iload 4, 2) := by decide +kernel
theorem dX12_nextOrder_17 : decode cX12_nextOrder 17 = .ok (.iload_n 2, 1) := by decide +kernel
theorem dX12_nextOrder_18 : decode cX12_nextOrder 18 = .ok (.aload_n 0, 1) := by decide +kernel
theorem dX12_nextOrder_19 : decode cX12_nextOrder 19 = .ok (.getfield 227, 3) := by decide +kernel
theorem dX12_nextOrder_22 : decode cX12_nextOrder 22 = .ok (.invokevirtual 337, 3) := by decide +kernel
theorem dX12_nextOrder_25 : decode cX12_nextOrder 25 = .ok (.ifCond .eq 36, 3) := by decide +kernel
theorem dX12_nextOrder_28 : decode cX12_nextOrder 28 = .ok (.iload_n 1, 1) := by decide +kernel
theorem dX12_nextOrder_29 : decode cX12_nextOrder 29 = .ok (.ifCond .lt 14, 3) := by decide +kernel
theorem dX12_nextOrder_32 : decode cX12_nextOrder 32 = .ok (.aload_n 0, 1) := by decide +kernel
theorem dX12_nextOrder_33 : decode cX12_nextOrder 33 = .ok (.iload_n 1, 1) := by decide +kernel
theorem dX12_nextOrder_34 : decode cX12_nextOrder 34 = .ok (.iload 4, 2) := by decide +kernel
theorem dX12_nextOrder_36 : decode cX12_nextOrder 36 = .ok (.iload_n 2, 1) := by decide +kernel
theorem dX12_nextOrder_37 : decode cX12_nextOrder 37 = .ok (.invokevirtual 340, 3) := by decide +kernel
theorem dX12_nextOrder_40 : decode cX12_nextOrder 40 = .ok (.ifCond .eq 21, 3) := by decide +kernel
theorem dX12_nextOrder_43 : decode cX12_nextOrder 43 = .ok (.iload_n 3, 1) := by decide +kernel
theorem dX12_nextOrder_44 : decode cX12_nextOrder 44 = .ok (.ifCond .lt 14, 3) := by decide +kernel
theorem dX12_nextOrder_47 : decode cX12_nextOrder 47 = .ok (.aload_n 0, 1) := by decide +kernel
theorem dX12_nextOrder_48 : decode cX12_nextOrder 48 = .ok (.iload 4, 2) := by decide +kernel
theorem dX12_nextOrder_50 : decode cX12_nextOrder 50 = .ok (.iload_n 3, 1) := by decide +kernel
theorem dX12_nextOrder_51 : decode cX12_nextOrder 51 = .ok (.iload_n 2, 1) := by decide +kernel
theorem dX12_nextOrder_52 : decode cX12_nextOrder 52 = .ok (.invokevirtual 340, 3) := by decide +kernel
theorem dX12_nextOrder_55 : decode cX12_nextOrder 55 = .ok (.ifCond .eq 6, 3) := by decide +kernel
theorem dX12_nextOrder_58 : decode cX12_nextOrder 58 = .ok (.iload 4, 2) := by decide +kernel
theorem dX12_nextOrder_60 : decode cX12_nextOrder 60 = .ok (.istore_n 3, 1) := by decide +kernel
theorem dX12_nextOrder_61 : decode cX12_nextOrder 61 = .ok (.iinc 4 1, 3) := by decide +kernel
theorem dX12_nextOrder_64 : decode cX12_nextOrder 64 = .ok (.goto (-59), 3) := by decide +kernel
theorem dX12_nextOrder_67 : decode cX12_nextOrder 67 = .ok (.iload_n 3, 1) := by decide +kernel
theorem dX12_nextOrder_68 : decode cX12_nextOrder 68 = .ok (.ireturn, 1) := by decide +kernel
theorem dX12_gather_0 : decode cX12_gather 0 = .ok (.iconst 0, 1) := by decide +kernel
theorem dX12_gather_1 : decode cX12_gather 1 = .ok (.istore_n 2, 1) := by decide +kernel
theorem dX12_gather_2 : decode cX12_gather 2 = .ok (.aload_n 0, 1) := by decide +kernel
theorem dX12_gather_3 : decode cX12_gather 3 = .ok (.iconst (-1), 1) := by decide +kernel
theorem dX12_gather_4 : decode cX12_gather 4 = .ok (.iload_n 1, 1) := by decide +kernel
theorem dX12_gather_5 : decode cX12_gather 5 = .ok (.invokevirtual 346, 3) := by decide +kernel
theorem dX12_gather_8 : decode cX12_gather 8 = .ok (.istore_n 3, 1) := by decide +kernel
theorem dX12_gather_9 : decode cX12_gather 9 = .ok (.iload_n 3, 1) := by decide +kernel
theorem dX12_gather_10 : decode cX12_gather 10 = .ok (.ifCond .lt 60, 3) := by decide +kernel
theorem dX12_gather_13 : decode cX12_gather 13 = .ok (.iconst 0, 1) := by decide +kernel
theorem dX12_gather_14 : decode cX12_gather 14 = .ok (.istore 4, 2) := by decide +kernel
theorem dX12_gather_16 : decode cX12_gather 16 = .ok (.iload 4, 2) := by decide +kernel
theorem dX12_gather_18 : decode cX12_gather 18 = .ok (.aload_n 0, 1) := by decide +kernel
theorem dX12_gather_19 : decode cX12_gather 19 = .ok (.getfield 54, 3) := by decide +kernel
theorem dX12_gather_22 : decode cX12_gather 22 = .ok (.iload_n 3, 1) := by decide +kernel
theorem dX12_gather_23 : decode cX12_gather 23 = .ok (.iaload, 1) := by decide +kernel
theorem dX12_gather_24 : decode cX12_gather 24 = .ok (.if_icmp .ge 36, 3) := by decide +kernel
theorem dX12_gather_27 : decode cX12_gather 27 = .ok (.aload_n 0, 1) := by decide +kernel
theorem dX12_gather_28 : decode cX12_gather 28 = .ok (.iload_n 3, 1) := by decide +kernel
theorem dX12_gather_29 : decode cX12_gather 29 = .ok (.iload 4, 2) := by decide +kernel
theorem dX12_gather_31 : decode cX12_gather 31 = .ok (.iload_n 1, 1) := by decide +kernel
theorem dX12_gather_32 : decode cX12_gather 32 = .ok (.invokevirtual 349, 3) := by decide +kernel
theorem dX12_gather_35 : decode cX12_gather 35 = .ok (.ifCond .eq 19, 3) := by decide +kernel
theorem dX12_gather_38 : decode cX12_gather 38 = .ok (.aload_n 0, 1) := by decide +kernel
theorem dX12_gather_39 : decode cX12_gather 39 = .ok (.getfield 187, 3) := by decide +kernel
theorem dX12_gather_42 : decode cX12_gather 42 = .ok (.iload_n 2, 1) := by decide +kernel
theorem dX12_gather_43 : decode cX12_gather 43 = .ok (.iinc 2 1, 3) := by decide +kernel
theorem dX12_gather_46 : decode cX12_gather 46 = .ok (.bipush 10, 2) := by decide +kernel
theorem dX12_gather_48 : decode cX12_gather 48 = .ok (.iload_n 3, 1) := by decide +kernel
theorem dX12_gather_49 : decode cX12_gather 49 = .ok (.imul, 1) := by decide +kernel
theorem dX12_gather_50 : decode cX12_gather 50 = .ok (.iload 4, 2) := by decide +kernel
theorem dX12_gather_52 : decode cX12_gather 52 = .ok (.iadd, 1) := by decide +kernel
theorem dX12_gather_53 : decode cX12_gather 53 = .ok (.iastore, 1) := by decide +kernel
theorem dX12_gather_54 : decode cX12_gather 54 = .ok (.iinc 4 1, 3) := by decide +kernel
theorem dX12_gather_57 : decode cX12_gather 57 = .ok (.goto (-41), 3) := by decide +kernel
theorem dX12_gather_60 : decode cX12_gather 60 = .ok (.aload_n 0, 1) := by decide +kernel
theorem dX12_gather_61 : decode cX12_gather 61 = .ok (.iload_n 3, 1) := by decide +kernel
theorem dX12_gather_62 : decode cX12_gather 62 = .ok (.iload_n 1, 1) := by decide +kernel
theorem dX12_gather_63 : decode cX12_gather 63 = .ok (.invokevirtual 346, 3) := by decide +kernel
theorem dX12_gather_66 : decode cX12_gather 66 = .ok (.istore_n 3, 1) := by decide +kernel
theorem dX12_gather_67 : decode cX12_gather 67 = .ok (.goto (-58), 3) := by decide +kernel
theorem dX12_gather_70 : decode cX12_gather 70 = .ok (.iload_n 2, 1) := by decide +kernel
theorem dX12_gather_71 : decode cX12_gather 71 = .ok (.ireturn, 1) := by decide +kernel
theorem dX12_force_0 : decode cX12_force 0 = .ok (.iload_n 1, 1) := by decide +kernel
theorem dX12_force_1 : decode cX12_force 1 = .ok (.invokestatic 200, 3) := by decide +kernel
theorem dX12_force_4 : decode cX12_force 4 = .ok (.ifCond .eq 11, 3) := by decide +kernel
theorem dX12_force_7 : decode cX12_force 7 = .ok (.aload_n 0, 1) := by decide +kernel
theorem dX12_force_8 : decode cX12_force 8 = .ok (.iload_n 1, 1) := by decide +kernel
theorem dX12_force_9 : decode cX12_force 9 = .ok (.invokevirtual 352, 3) := by decide +kernel
theorem dX12_force_12 : decode cX12_force 12 = .ok (.goto 4, 3) := by decide +kernel
theorem dX12_force_15 : decode cX12_force 15 = .ok (.iconst (-1), 1) := by decide +kernel
theorem dX12_force_16 : decode cX12_force 16 = .ok (.ireturn, 1) := by decide +kernel
theorem dX12_forced_0 : decode cX12_forced 0 = .ok (.iload_n 1, 1) := by decide +kernel
theorem dX12_forced_1 : decode cX12_forced 1 = .ok (.invokestatic 200, 3) := by decide +kernel
theorem dX12_forced_4 : decode cX12_forced 4 = .ok (.ifCond .ne 5, 3) := by decide +kernel
theorem dX12_forced_7 : decode cX12_forced 7 = .ok (.iconst (-1), 1) := by decide +kernel
theorem dX12_forced_8 : decode cX12_forced 8 = .ok (.ireturn, 1) := by decide +kernel
theorem dX12_forced_9 : decode cX12_forced 9 = .ok (.aload_n 0, 1) := by decide +kernel
theorem dX12_forced_10 : decode cX12_forced 10 = .ok (.iload_n 1, 1) := by decide +kernel
theorem dX12_forced_11 : decode cX12_forced 11 = .ok (.invokevirtual 352, 3) := by decide +kernel
theorem dX12_forced_14 : decode cX12_forced 14 = .ok (.istore_n 3, 1) := by decide +kernel
theorem dX12_forced_15 : decode cX12_forced 15 = .ok (.iload_n 2, 1) := by decide +kernel
theorem dX12_forced_16 : decode cX12_forced 16 = .ok (.iconst 0, 1) := by decide +kernel
theorem dX12_forced_17 : decode cX12_forced 17 = .ok (.iload_n 3, 1) := by decide +kernel
theorem dX12_forced_18 : decode cX12_forced 18 = .ok (.iconst 1, 1) := by decide +kernel
theorem dX12_forced_19 : decode cX12_forced 19 = .ok (.isub, 1) := by decide +kernel
theorem dX12_forced_20 : decode cX12_forced 20 = .ok (.invokestatic 196, 3) := by decide +kernel
theorem dX12_forced_23 : decode cX12_forced 23 = .ok (.ifCond .eq 12, 3) := by decide +kernel
theorem dX12_forced_26 : decode cX12_forced 26 = .ok (.aload_n 0, 1) := by decide +kernel
theorem dX12_forced_27 : decode cX12_forced 27 = .ok (.getfield 187, 3) := by decide +kernel
theorem dX12_forced_30 : decode cX12_forced 30 = .ok (.iload_n 2, 1) := by decide +kernel
theorem dX12_forced_31 : decode cX12_forced 31 = .ok (.iaload, 1) := by decide +kernel
theorem dX12_forced_32 : decode cX12_forced 32 = .ok (.goto 4, 3) := by decide +kernel
theorem dX12_forced_35 : decode cX12_forced 35 = .ok (.iconst (-1), 1) := by decide +kernel
theorem dX12_forced_36 : decode cX12_forced 36 = .ok (.ireturn, 1) := by decide +kernel
theorem dX12_fieldOf_0 : decode cX12_fieldOf 0 = .ok (.iload_n 2, 1) := by decide +kernel
theorem dX12_fieldOf_1 : decode cX12_fieldOf 1 = .ok (.tableswitch 99 0 3 #[31, 38, 47, 54], 31) := by decide +kernel
theorem dX12_fieldOf_32 : decode cX12_fieldOf 32 = .ok (.aload_n 0, 1) := by decide +kernel
theorem dX12_fieldOf_33 : decode cX12_fieldOf 33 = .ok (.iload_n 1, 1) := by decide +kernel
theorem dX12_fieldOf_34 : decode cX12_fieldOf 34 = .ok (.iload_n 3, 1) := by decide +kernel
theorem dX12_fieldOf_35 : decode cX12_fieldOf 35 = .ok (.invokevirtual 207, 3) := by decide +kernel
theorem dX12_fieldOf_38 : decode cX12_fieldOf 38 = .ok (.ireturn, 1) := by decide +kernel
theorem dX12_fieldOf_39 : decode cX12_fieldOf 39 = .ok (.aload_n 0, 1) := by decide +kernel
theorem dX12_fieldOf_40 : decode cX12_fieldOf 40 = .ok (.getfield 15, 3) := by decide +kernel
theorem dX12_fieldOf_43 : decode cX12_fieldOf 43 = .ok (.iload_n 1, 1) := by decide +kernel
theorem dX12_fieldOf_44 : decode cX12_fieldOf 44 = .ok (.aaload, 1) := by decide +kernel
theorem dX12_fieldOf_45 : decode cX12_fieldOf 45 = .ok (.iload_n 3, 1) := by decide +kernel
theorem dX12_fieldOf_46 : decode cX12_fieldOf 46 = .ok (.iaload, 1) := by decide +kernel
theorem dX12_fieldOf_47 : decode cX12_fieldOf 47 = .ok (.ireturn, 1) := by decide +kernel
theorem dX12_fieldOf_48 : decode cX12_fieldOf 48 = .ok (.aload_n 0, 1) := by decide +kernel
theorem dX12_fieldOf_49 : decode cX12_fieldOf 49 = .ok (.getfield 7, 3) := by decide +kernel
theorem dX12_fieldOf_52 : decode cX12_fieldOf 52 = .ok (.iload_n 1, 1) := by decide +kernel
theorem dX12_fieldOf_53 : decode cX12_fieldOf 53 = .ok (.iaload, 1) := by decide +kernel
theorem dX12_fieldOf_54 : decode cX12_fieldOf 54 = .ok (.ireturn, 1) := by decide +kernel
theorem dX12_fieldOf_55 : decode cX12_fieldOf 55 = .ok (.iconst 0, 1) := by decide +kernel
theorem dX12_fieldOf_56 : decode cX12_fieldOf 56 = .ok (.istore 4, 2) := by decide +kernel
theorem dX12_fieldOf_58 : decode cX12_fieldOf 58 = .ok (.iconst 0, 1) := by decide +kernel
theorem dX12_fieldOf_59 : decode cX12_fieldOf 59 = .ok (.istore 5, 2) := by decide +kernel
theorem dX12_fieldOf_61 : decode cX12_fieldOf 61 = .ok (.iload 5, 2) := by decide +kernel
theorem dX12_fieldOf_63 : decode cX12_fieldOf 63 = .ok (.aload_n 0, 1) := by decide +kernel
theorem dX12_fieldOf_64 : decode cX12_fieldOf 64 = .ok (.getfield 324, 3) := by decide +kernel
theorem dX12_fieldOf_67 : decode cX12_fieldOf 67 = .ok (.if_icmp .ge 30, 3) := by decide +kernel
theorem dX12_fieldOf_70 : decode cX12_fieldOf 70 = .ok (.iload 4, 2) := by decide +kernel
theorem dX12_fieldOf_72 : decode cX12_fieldOf 72 = .ok (.aload_n 0, 1) := by decide +kernel
theorem dX12_fieldOf_73 : decode cX12_fieldOf 73 = .ok (.getfield 72, 3) := by decide +kernel
theorem dX12_fieldOf_76 : decode cX12_fieldOf 76 = .ok (.iload 5, 2) := by decide +kernel
theorem dX12_fieldOf_78 : decode cX12_fieldOf 78 = .ok (.iaload, 1) := by decide +kernel
theorem dX12_fieldOf_79 : decode cX12_fieldOf 79 = .ok (.iload_n 1, 1) := by decide +kernel
theorem dX12_fieldOf_80 : decode cX12_fieldOf 80 = .ok (.if_icmp .ne 7, 3) := by decide +kernel
theorem dX12_fieldOf_83 : decode cX12_fieldOf 83 = .ok (.iconst 1, 1) := by decide +kernel
theorem dX12_fieldOf_84 : decode cX12_fieldOf 84 = .ok (.goto 4, 3) := by decide +kernel
theorem dX12_fieldOf_87 : decode cX12_fieldOf 87 = .ok (.iconst 0, 1) := by decide +kernel
theorem dX12_fieldOf_88 : decode cX12_fieldOf 88 = .ok (.iadd, 1) := by decide +kernel
theorem dX12_fieldOf_89 : decode cX12_fieldOf 89 = .ok (.istore 4, 2) := by decide +kernel
theorem dX12_fieldOf_91 : decode cX12_fieldOf 91 = .ok (.iinc 5 1, 3) := by decide +kernel
theorem dX12_fieldOf_94 : decode cX12_fieldOf 94 = .ok (.goto (-33), 3) := by decide +kernel
theorem dX12_fieldOf_97 : decode cX12_fieldOf 97 = .ok (.iload 4, 2) := by decide +kernel
theorem dX12_fieldOf_99 : decode cX12_fieldOf 99 = .ok (.ireturn, 1) := by decide +kernel
theorem dX12_fieldOf_100 : decode cX12_fieldOf 100 = .ok (.aload_n 0, 1) := by decide +kernel
theorem dX12_fieldOf_101 : decode cX12_fieldOf 101 = .ok (.getfield 227, 3) := by decide +kernel
theorem dX12_fieldOf_104 : decode cX12_fieldOf 104 = .ok (.sipush 360, 3) := by decide +kernel
theorem dX12_fieldOf_107 : decode cX12_fieldOf 107 = .ok (.irem, 1) := by decide +kernel
theorem dX12_fieldOf_108 : decode cX12_fieldOf 108 = .ok (.ireturn, 1) := by decide +kernel
theorem dX12_one_0 : decode cX12_one 0 = .ok (.aload_n 0, 1) := by decide +kernel
theorem dX12_one_1 : decode cX12_one 1 = .ok (.getfield 60, 3) := by decide +kernel
theorem dX12_one_4 : decode cX12_one 4 = .ok (.iload_n 2, 1) := by decide +kernel
theorem dX12_one_5 : decode cX12_one 5 = .ok (.aaload, 1) := by decide +kernel
theorem dX12_one_6 : decode cX12_one 6 = .ok (.astore 4, 2) := by decide +kernel
theorem dX12_one_8 : decode cX12_one 8 = .ok (.aload_n 0, 1) := by decide +kernel
theorem dX12_one_9 : decode cX12_one 9 = .ok (.iload_n 1, 1) := by decide +kernel
theorem dX12_one_10 : decode cX12_one 10 = .ok (.aload 4, 2) := by decide +kernel
theorem dX12_one_12 : decode cX12_one 12 = .ok (.iload_n 3, 1) := by decide +kernel
theorem dX12_one_13 : decode cX12_one 13 = .ok (.iconst 1, 1) := by decide +kernel
theorem dX12_one_14 : decode cX12_one 14 = .ok (.iadd, 1) := by decide +kernel
theorem dX12_one_15 : decode cX12_one 15 = .ok (.iaload, 1) := by decide +kernel
theorem dX12_one_16 : decode cX12_one 16 = .ok (.aload 4, 2) := by decide +kernel
theorem dX12_one_18 : decode cX12_one 18 = .ok (.iload_n 3, 1) := by decide +kernel
theorem dX12_one_19 : decode cX12_one 19 = .ok (.iconst 2, 1) := by decide +kernel
theorem dX12_one_20 : decode cX12_one 20 = .ok (.iadd, 1) := by decide +kernel
theorem dX12_one_21 : decode cX12_one 21 = .ok (.iaload, 1) := by decide +kernel
theorem dX12_one_22 : decode cX12_one 22 = .ok (.invokevirtual 356, 3) := by decide +kernel
theorem dX12_one_25 : decode cX12_one 25 = .ok (.istore 5, 2) := by decide +kernel
theorem dX12_one_27 : decode cX12_one 27 = .ok (.aload 4, 2) := by decide +kernel
theorem dX12_one_29 : decode cX12_one 29 = .ok (.iload_n 3, 1) := by decide +kernel
theorem dX12_one_30 : decode cX12_one 30 = .ok (.iconst 3, 1) := by decide +kernel
theorem dX12_one_31 : decode cX12_one 31 = .ok (.iadd, 1) := by decide +kernel
theorem dX12_one_32 : decode cX12_one 32 = .ok (.iaload, 1) := by decide +kernel
theorem dX12_one_33 : decode cX12_one 33 = .ok (.bipush 60, 2) := by decide +kernel
theorem dX12_one_35 : decode cX12_one 35 = .ok (.if_icmp .ne 22, 3) := by decide +kernel
theorem dX12_one_38 : decode cX12_one 38 = .ok (.iload 5, 2) := by decide +kernel
theorem dX12_one_40 : decode cX12_one 40 = .ok (.aload 4, 2) := by decide +kernel
theorem dX12_one_42 : decode cX12_one 42 = .ok (.iload_n 3, 1) := by decide +kernel
theorem dX12_one_43 : decode cX12_one 43 = .ok (.iconst 4, 1) := by decide +kernel
theorem dX12_one_44 : decode cX12_one 44 = .ok (.iadd, 1) := by decide +kernel
theorem dX12_one_45 : decode cX12_one 45 = .ok (.iaload, 1) := by decide +kernel
theorem dX12_one_46 : decode cX12_one 46 = .ok (.if_icmp .ge 7, 3) := by decide +kernel
theorem dX12_one_49 : decode cX12_one 49 = .ok (.iconst 1, 1) := by decide +kernel
theorem dX12_one_50 : decode cX12_one 50 = .ok (.goto 53, 3) := by decide +kernel
theorem dX12_one_53 : decode cX12_one 53 = .ok (.iconst 0, 1) := by decide +kernel
theorem dX12_one_54 : decode cX12_one 54 = .ok (.goto 49, 3) := by decide +kernel
theorem dX12_one_57 : decode cX12_one 57 = .ok (.aload 4, 2) := by decide +kernel
theorem dX12_one_59 : decode cX12_one 59 = .ok (.iload_n 3, 1) := by decide +kernel
theorem dX12_one_60 : decode cX12_one 60 = .ok (.iconst 3, 1) := by decide +kernel
theorem dX12_one_61 : decode cX12_one 61 = .ok (.iadd, 1) := by decide +kernel
theorem dX12_one_62 : decode cX12_one 62 = .ok (.iaload, 1) := by decide +kernel
theorem dX12_one_63 : decode cX12_one 63 = .ok (.bipush 61, 2) := by decide +kernel
theorem dX12_one_65 : decode cX12_one 65 = .ok (.if_icmp .ne 22, 3) := by decide +kernel
theorem dX12_one_68 : decode cX12_one 68 = .ok (.iload 5, 2) := by decide +kernel
theorem dX12_one_70 : decode cX12_one 70 = .ok (.aload 4, 2) := by decide +kernel
theorem dX12_one_72 : decode cX12_one 72 = .ok (.iload_n 3, 1) := by decide +kernel
theorem dX12_one_73 : decode cX12_one 73 = .ok (.iconst 4, 1) := by decide +kernel
theorem dX12_one_74 : decode cX12_one 74 = .ok (.iadd, 1) := by decide +kernel
theorem dX12_one_75 : decode cX12_one 75 = .ok (.iaload, 1) := by decide +kernel
theorem dX12_one_76 : decode cX12_one 76 = .ok (.if_icmp .ne 7, 3) := by decide +kernel
theorem dX12_one_79 : decode cX12_one 79 = .ok (.iconst 1, 1) := by decide +kernel
theorem dX12_one_80 : decode cX12_one 80 = .ok (.goto 23, 3) := by decide +kernel
theorem dX12_one_83 : decode cX12_one 83 = .ok (.iconst 0, 1) := by decide +kernel
theorem dX12_one_84 : decode cX12_one 84 = .ok (.goto 19, 3) := by decide +kernel
theorem dX12_one_87 : decode cX12_one 87 = .ok (.iload 5, 2) := by decide +kernel
theorem dX12_one_89 : decode cX12_one 89 = .ok (.aload 4, 2) := by decide +kernel
theorem dX12_one_91 : decode cX12_one 91 = .ok (.iload_n 3, 1) := by decide +kernel
theorem dX12_one_92 : decode cX12_one 92 = .ok (.iconst 4, 1) := by decide +kernel
theorem dX12_one_93 : decode cX12_one 93 = .ok (.iadd, 1) := by decide +kernel
theorem dX12_one_94 : decode cX12_one 94 = .ok (.iaload, 1) := by decide +kernel
theorem dX12_one_95 : decode cX12_one 95 = .ok (.if_icmp .le 7, 3) := by decide +kernel
theorem dX12_one_98 : decode cX12_one 98 = .ok (.iconst 1, 1) := by decide +kernel
theorem dX12_one_99 : decode cX12_one 99 = .ok (.goto 4, 3) := by decide +kernel
theorem dX12_one_102 : decode cX12_one 102 = .ok (.iconst 0, 1) := by decide +kernel
theorem dX12_one_103 : decode cX12_one 103 = .ok (.istore 6, 2) := by decide +kernel
theorem dX12_one_105 : decode cX12_one 105 = .ok (.iload 6, 2) := by decide +kernel
theorem dX12_one_107 : decode cX12_one 107 = .ok (.aload 4, 2) := by decide +kernel
theorem dX12_one_109 : decode cX12_one 109 = .ok (.iload_n 3, 1) := by decide +kernel
theorem dX12_one_110 : decode cX12_one 110 = .ok (.iaload, 1) := by decide +kernel
theorem dX12_one_111 : decode cX12_one 111 = .ok (.iconst 1, 1) := by decide +kernel
theorem dX12_one_112 : decode cX12_one 112 = .ok (.if_icmp .ne 7, 3) := by decide +kernel
theorem dX12_one_115 : decode cX12_one 115 = .ok (.iconst 1, 1) := by decide +kernel
theorem dX12_one_116 : decode cX12_one 116 = .ok (.goto 4, 3) := by decide +kernel
theorem dX12_one_119 : decode cX12_one 119 = .ok (.iconst 0, 1) := by decide +kernel
theorem dX12_one_120 : decode cX12_one 120 = .ok (.if_icmp .eq 7, 3) := by decide +kernel
theorem dX12_one_123 : decode cX12_one 123 = .ok (.iconst 1, 1) := by decide +kernel
theorem dX12_one_124 : decode cX12_one 124 = .ok (.goto 4, 3) := by decide +kernel
theorem dX12_one_127 : decode cX12_one 127 = .ok (.iconst 0, 1) := by decide +kernel
theorem dX12_one_128 : decode cX12_one 128 = .ok (.ireturn, 1) := by decide +kernel
theorem dX12_hold_0 : decode cX12_hold 0 = .ok (.aload_n 0, 1) := by decide +kernel
theorem dX12_hold_1 : decode cX12_hold 1 = .ok (.getfield 57, 3) := by decide +kernel
theorem dX12_hold_4 : decode cX12_hold 4 = .ok (.iload_n 2, 1) := by decide +kernel
theorem dX12_hold_5 : decode cX12_hold 5 = .ok (.aaload, 1) := by decide +kernel
theorem dX12_hold_6 : decode cX12_hold 6 = .ok (.iconst 4, 1) := by decide +kernel
theorem dX12_hold_7 : decode cX12_hold 7 = .ok (.iload_n 3, 1) := by decide +kernel
theorem dX12_hold_8 : decode cX12_hold 8 = .ok (.imul, 1) := by decide +kernel
theorem dX12_hold_9 : decode cX12_hold 9 = .ok (.iconst 3, 1) := by decide +kernel
theorem dX12_hold_10 : decode cX12_hold 10 = .ok (.iadd, 1) := by decide +kernel
theorem dX12_hold_11 : decode cX12_hold 11 = .ok (.iaload, 1) := by decide +kernel
theorem dX12_hold_12 : decode cX12_hold 12 = .ok (.istore 4, 2) := by decide +kernel
theorem dX12_hold_14 : decode cX12_hold 14 = .ok (.iload 4, 2) := by decide +kernel
theorem dX12_hold_16 : decode cX12_hold 16 = .ok (.ifCond .ne 5, 3) := by decide +kernel
theorem dX12_hold_19 : decode cX12_hold 19 = .ok (.iconst 1, 1) := by decide +kernel
theorem dX12_hold_20 : decode cX12_hold 20 = .ok (.ireturn, 1) := by decide +kernel
theorem dX12_hold_21 : decode cX12_hold 21 = .ok (.iconst 0, 1) := by decide +kernel
theorem dX12_hold_22 : decode cX12_hold 22 = .ok (.istore 5, 2) := by decide +kernel
theorem dX12_hold_24 : decode cX12_hold 24 = .ok (.iconst 1, 1) := by decide +kernel
theorem dX12_hold_25 : decode cX12_hold 25 = .ok (.istore 6, 2) := by decide +kernel
theorem dX12_hold_27 : decode cX12_hold 27 = .ok (.iconst 0, 1) := by decide +kernel
theorem dX12_hold_28 : decode cX12_hold 28 = .ok (.istore 7, 2) := by decide +kernel
theorem dX12_hold_30 : decode cX12_hold 30 = .ok (.iload 7, 2) := by decide +kernel
theorem dX12_hold_32 : decode cX12_hold 32 = .ok (.iload 4, 2) := by decide +kernel
theorem dX12_hold_34 : decode cX12_hold 34 = .ok (.if_icmp .ge 63, 3) := by decide +kernel
theorem dX12_hold_37 : decode cX12_hold 37 = .ok (.aload_n 0, 1) := by decide +kernel
theorem dX12_hold_38 : decode cX12_hold 38 = .ok (.getfield 60, 3) := by decide +kernel
theorem dX12_hold_41 : decode cX12_hold 41 = .ok (.iload_n 2, 1) := by decide +kernel
theorem dX12_hold_42 : decode cX12_hold 42 = .ok (.aaload, 1) := by decide +kernel
theorem dX12_hold_43 : decode cX12_hold 43 = .ok (.bipush 24, 2) := by decide +kernel
theorem dX12_hold_45 : decode cX12_hold 45 = .ok (.iload_n 3, 1) := by decide +kernel
theorem dX12_hold_46 : decode cX12_hold 46 = .ok (.imul, 1) := by decide +kernel
theorem dX12_hold_47 : decode cX12_hold 47 = .ok (.bipush 6, 2) := by decide +kernel
theorem dX12_hold_49 : decode cX12_hold 49 = .ok (.iload 7, 2) := by decide +kernel
theorem dX12_hold_51 : decode cX12_hold 51 = .ok (.imul, 1) := by decide +kernel
theorem dX12_hold_52 : decode cX12_hold 52 = .ok (.iadd, 1) := by decide +kernel
theorem dX12_hold_53 : decode cX12_hold 53 = .ok (.iconst 5, 1) := by decide +kernel
theorem dX12_hold_54 : decode cX12_hold 54 = .ok (.iadd, 1) := by decide +kernel
theorem dX12_hold_55 : decode cX12_hold 55 = .ok (.iaload, 1) := by decide +kernel
theorem dX12_hold_56 : decode cX12_hold 56 = .ok (.iconst 1, 1) := by decide +kernel
theorem dX12_hold_57 : decode cX12_hold 57 = .ok (.if_icmp .ne 13, 3) := by decide +kernel
theorem dX12_hold_60 : decode cX12_hold 60 = .ok (.iload 5, 2) := by decide +kernel
theorem dX12_hold_62 : decode cX12_hold 62 = .ok (.iload 6, 2) := by decide +kernel
theorem dX12_hold_64 : decode cX12_hold 64 = .ok (.ior, 1) := by decide +kernel
theorem dX12_hold_65 : decode cX12_hold 65 = .ok (.istore 5, 2) := by decide +kernel
theorem dX12_hold_67 : decode cX12_hold 67 = .ok (.iconst 1, 1) := by decide +kernel
theorem dX12_hold_68 : decode cX12_hold 68 = .ok (.istore 6, 2) := by decide +kernel
theorem dX12_hold_70 : decode cX12_hold 70 = .ok (.iload 6, 2) := by decide +kernel
theorem dX12_hold_72 : decode cX12_hold 72 = .ok (.aload_n 0, 1) := by decide +kernel
theorem dX12_hold_73 : decode cX12_hold 73 = .ok (.iload_n 1, 1) := by decide +kernel
theorem dX12_hold_74 : decode cX12_hold 74 = .ok (.iload_n 2, 1) := by decide +kernel
theorem dX12_hold_75 : decode cX12_hold 75 = .ok (.bipush 24, 2) := by decide +kernel
theorem dX12_hold_77 : decode cX12_hold 77 = .ok (.iload_n 3, 1) := by decide +kernel
theorem dX12_hold_78 : decode cX12_hold 78 = .ok (.imul, 1) := by decide +kernel
theorem dX12_hold_79 : decode cX12_hold 79 = .ok (.bipush 6, 2) := by decide +kernel
theorem dX12_hold_81 : decode cX12_hold 81 = .ok (.iload 7, 2) := by decide +kernel
theorem dX12_hold_83 : decode cX12_hold 83 = .ok (.imul, 1) := by decide +kernel
theorem dX12_hold_84 : decode cX12_hold 84 = .ok (.iadd, 1) := by decide +kernel
theorem dX12_hold_85 : decode cX12_hold 85 = .ok (.invokevirtual 359, 3) := by decide +kernel
theorem dX12_hold_88 : decode cX12_hold 88 = .ok (.iand, 1) := by decide +kernel
theorem dX12_hold_89 : decode cX12_hold 89 = .ok (.istore 6, 2) := by decide +kernel
theorem dX12_hold_91 : decode cX12_hold 91 = .ok (.iinc 7 1, 3) := by decide +kernel
theorem dX12_hold_94 : decode cX12_hold 94 = .ok (.goto (-64), 3) := by decide +kernel
theorem dX12_hold_97 : decode cX12_hold 97 = .ok (.iload 5, 2) := by decide +kernel
theorem dX12_hold_99 : decode cX12_hold 99 = .ok (.iload 6, 2) := by decide +kernel
theorem dX12_hold_101 : decode cX12_hold 101 = .ok (.ior, 1) := by decide +kernel
theorem dX12_hold_102 : decode cX12_hold 102 = .ok (.ireturn, 1) := by decide +kernel
theorem dX12_holds_0 : decode cX12_holds 0 = .ok (.aload_n 0, 1) := by decide +kernel
theorem dX12_holds_1 : decode cX12_holds 1 = .ok (.iload_n 1, 1) := by decide +kernel
theorem dX12_holds_2 : decode cX12_holds 2 = .ok (.iload_n 2, 1) := by decide +kernel
theorem dX12_holds_3 : decode cX12_holds 3 = .ok (.invokevirtual 362, 3) := by decide +kernel
theorem dX12_holds_6 : decode cX12_holds 6 = .ok (.istore_n 3, 1) := by decide +kernel
theorem dX12_holds_7 : decode cX12_holds 7 = .ok (.iload_n 3, 1) := by decide +kernel
theorem dX12_holds_8 : decode cX12_holds 8 = .ok (.ifCond .ge 7, 3) := by decide +kernel
theorem dX12_holds_11 : decode cX12_holds 11 = .ok (.iconst (-1), 1) := by decide +kernel
theorem dX12_holds_12 : decode cX12_holds 12 = .ok (.goto 24, 3) := by decide +kernel
theorem dX12_holds_15 : decode cX12_holds 15 = .ok (.aload_n 0, 1) := by decide +kernel
theorem dX12_holds_16 : decode cX12_holds 16 = .ok (.iload_n 1, 1) := by decide +kernel
theorem dX12_holds_17 : decode cX12_holds 17 = .ok (.iload_n 3, 1) := by decide +kernel
theorem dX12_holds_18 : decode cX12_holds 18 = .ok (.bipush 10, 2) := by decide +kernel
theorem dX12_holds_20 : decode cX12_holds 20 = .ok (.idiv, 1) := by decide +kernel
theorem dX12_holds_21 : decode cX12_holds 21 = .ok (.iload_n 3, 1) := by decide +kernel
theorem dX12_holds_22 : decode cX12_holds 22 = .ok (.bipush 10, 2) := by decide +kernel
theorem dX12_holds_24 : decode cX12_holds 24 = .ok (.irem, 1) := by decide +kernel
theorem dX12_holds_25 : decode cX12_holds 25 = .ok (.invokevirtual 365, 3) := by decide +kernel
theorem dX12_holds_28 : decode cX12_holds 28 = .ok (.ifCond .eq 7, 3) := by decide +kernel
theorem dX12_holds_31 : decode cX12_holds 31 = .ok (.iconst 1, 1) := by decide +kernel
theorem dX12_holds_32 : decode cX12_holds 32 = .ok (.goto 4, 3) := by decide +kernel
theorem dX12_holds_35 : decode cX12_holds 35 = .ok (.iconst 0, 1) := by decide +kernel
theorem dX12_holds_36 : decode cX12_holds 36 = .ok (.ireturn, 1) := by decide +kernel
theorem dX12_ship_0 : decode cX12_ship 0 = .ok (.iload_n 1, 1) := by decide +kernel
theorem dX12_ship_1 : decode cX12_ship 1 = .ok (.iconst 0, 1) := by decide +kernel
theorem dX12_ship_2 : decode cX12_ship 2 = .ok (.iconst 3, 1) := by decide +kernel
theorem dX12_ship_3 : decode cX12_ship 3 = .ok (.invokestatic 196, 3) := by decide +kernel
theorem dX12_ship_6 : decode cX12_ship 6 = .ok (.ifCond .ne 5, 3) := by decide +kernel
theorem dX12_ship_9 : decode cX12_ship 9 = .ok (.iconst (-1), 1) := by decide +kernel
theorem dX12_ship_10 : decode cX12_ship 10 = .ok (.ireturn, 1) := by decide +kernel
theorem dX12_ship_11 : decode cX12_ship 11 = .ok (.iload_n 2, 1) := by decide +kernel
theorem dX12_ship_12 : decode cX12_ship 12 = .ok (.iconst 1, 1) := by decide +kernel
theorem dX12_ship_13 : decode cX12_ship 13 = .ok (.bipush 60, 2) := by decide +kernel
theorem dX12_ship_15 : decode cX12_ship 15 = .ok (.invokestatic 196, 3) := by decide +kernel
theorem dX12_ship_18 : decode cX12_ship 18 = .ok (.ifCond .ne 6, 3) := by decide +kernel
theorem dX12_ship_21 : decode cX12_ship 21 = .ok (.bipush (-2), 2) := by decide +kernel
theorem dX12_ship_23 : decode cX12_ship 23 = .ok (.ireturn, 1) := by decide +kernel
theorem dX12_ship_24 : decode cX12_ship 24 = .ok (.aload_n 0, 1) := by decide +kernel
theorem dX12_ship_25 : decode cX12_ship 25 = .ok (.getfield 324, 3) := by decide +kernel
theorem dX12_ship_28 : decode cX12_ship 28 = .ok (.bipush 8, 2) := by decide +kernel
theorem dX12_ship_30 : decode cX12_ship 30 = .ok (.if_icmp .ne 6, 3) := by decide +kernel
theorem dX12_ship_33 : decode cX12_ship 33 = .ok (.bipush (-4), 2) := by decide +kernel
theorem dX12_ship_35 : decode cX12_ship 35 = .ok (.ireturn, 1) := by decide +kernel
theorem dX12_ship_36 : decode cX12_ship 36 = .ok (.aload_n 0, 1) := by decide +kernel
theorem dX12_ship_37 : decode cX12_ship 37 = .ok (.getfield 66, 3) := by decide +kernel
theorem dX12_ship_40 : decode cX12_ship 40 = .ok (.aload_n 0, 1) := by decide +kernel
theorem dX12_ship_41 : decode cX12_ship 41 = .ok (.getfield 324, 3) := by decide +kernel
theorem dX12_ship_44 : decode cX12_ship 44 = .ok (.iload_n 1, 1) := by decide +kernel
theorem dX12_ship_45 : decode cX12_ship 45 = .ok (.iastore, 1) := by decide +kernel
theorem dX12_ship_46 : decode cX12_ship 46 = .ok (.aload_n 0, 1) := by decide +kernel
theorem dX12_ship_47 : decode cX12_ship 47 = .ok (.getfield 69, 3) := by decide +kernel
theorem dX12_ship_50 : decode cX12_ship 50 = .ok (.aload_n 0, 1) := by decide +kernel
theorem dX12_ship_51 : decode cX12_ship 51 = .ok (.getfield 324, 3) := by decide +kernel
theorem dX12_ship_54 : decode cX12_ship 54 = .ok (.iload_n 2, 1) := by decide +kernel
theorem dX12_ship_55 : decode cX12_ship 55 = .ok (.iastore, 1) := by decide +kernel
theorem dX12_ship_56 : decode cX12_ship 56 = .ok (.aload_n 0, 1) := by decide +kernel
theorem dX12_ship_57 : decode cX12_ship 57 = .ok (.getfield 91, 3) := by decide +kernel
theorem dX12_ship_60 : decode cX12_ship 60 = .ok (.aload_n 0, 1) := by decide +kernel
theorem dX12_ship_61 : decode cX12_ship 61 = .ok (.getfield 324, 3) := by decide +kernel
theorem dX12_ship_64 : decode cX12_ship 64 = .ok (.iconst (-1), 1) := by decide +kernel
theorem dX12_ship_65 : decode cX12_ship 65 = .ok (.iastore, 1) := by decide +kernel
theorem dX12_ship_66 : decode cX12_ship 66 = .ok (.aload_n 0, 1) := by decide +kernel
theorem dX12_ship_67 : decode cX12_ship 67 = .ok (.dup, 1) := by decide +kernel
theorem dX12_ship_68 : decode cX12_ship 68 = .ok (.getfield 324, 3) := by decide +kernel
theorem dX12_ship_71 : decode cX12_ship 71 = .ok (.dup_x1, 1) := by decide +kernel
theorem dX12_ship_72 : decode cX12_ship 72 = .ok (.iconst 1, 1) := by decide +kernel
theorem dX12_ship_73 : decode cX12_ship 73 = .ok (.iadd, 1) := by decide +kernel
theorem dX12_ship_74 : decode cX12_ship 74 = .ok (.putfield 324, 3) := by decide +kernel
theorem dX12_ship_77 : decode cX12_ship 77 = .ok (.ireturn, 1) := by decide +kernel
theorem dX12_take_0 : decode cX12_take 0 = .ok (.iconst (-1), 1) := by decide +kernel
theorem dX12_take_1 : decode cX12_take 1 = .ok (.istore_n 1, 1) := by decide +kernel
theorem dX12_take_2 : decode cX12_take 2 = .ok (.iconst 0, 1) := by decide +kernel
theorem dX12_take_3 : decode cX12_take 3 = .ok (.istore_n 2, 1) := by decide +kernel
theorem dX12_take_4 : decode cX12_take 4 = .ok (.iload_n 2, 1) := by decide +kernel
theorem dX12_take_5 : decode cX12_take 5 = .ok (.aload_n 0, 1) := by decide +kernel
theorem dX12_take_6 : decode cX12_take 6 = .ok (.getfield 324, 3) := by decide +kernel
theorem dX12_take_9 : decode cX12_take 9 = .ok (.if_icmp .ge 101, 3) := by decide +kernel
theorem dX12_take_12 : decode cX12_take 12 = .ok (.aload_n 0, 1) := by decide +kernel
theorem dX12_take_13 : decode cX12_take 13 = .ok (.getfield 72, 3) := by decide +kernel
theorem dX12_take_16 : decode cX12_take 16 = .ok (.iload_n 2, 1) := by decide +kernel
theorem dX12_take_17 : decode cX12_take 17 = .ok (.iaload, 1) := by decide +kernel
theorem dX12_take_18 : decode cX12_take 18 = .ok (.ifCond .ne 86, 3) := by decide +kernel
theorem dX12_take_21 : decode cX12_take 21 = .ok (.aload_n 0, 1) := by decide +kernel
theorem dX12_take_22 : decode cX12_take 22 = .ok (.getfield 75, 3) := by decide +kernel
theorem dX12_take_25 : decode cX12_take 25 = .ok (.iload_n 2, 1) := by decide +kernel
theorem dX12_take_26 : decode cX12_take 26 = .ok (.baload, 1) := by decide +kernel
theorem dX12_take_27 : decode cX12_take 27 = .ok (.ifCond .eq 6, 3) := by decide +kernel
theorem dX12_take_30 : decode cX12_take 30 = .ok (.goto 74, 3) := by decide +kernel
theorem dX12_take_33 : decode cX12_take 33 = .ok (.iload_n 1, 1) := by decide +kernel
theorem dX12_take_34 : decode cX12_take 34 = .ok (.ifCond .lt 68, 3) := by decide +kernel
theorem dX12_take_37 : decode cX12_take 37 = .ok (.aload_n 0, 1) := by decide +kernel
theorem dX12_take_38 : decode cX12_take 38 = .ok (.getfield 79, 3) := by decide +kernel
theorem dX12_take_41 : decode cX12_take 41 = .ok (.aload_n 0, 1) := by decide +kernel
theorem dX12_take_42 : decode cX12_take 42 = .ok (.getfield 66, 3) := by decide +kernel
theorem dX12_take_45 : decode cX12_take 45 = .ok (.iload_n 2, 1) := by decide +kernel
theorem dX12_take_46 : decode cX12_take 46 = .ok (.iaload, 1) := by decide +kernel
theorem dX12_take_47 : decode cX12_take 47 = .ok (.iaload, 1) := by decide +kernel
theorem dX12_take_48 : decode cX12_take 48 = .ok (.aload_n 0, 1) := by decide +kernel
theorem dX12_take_49 : decode cX12_take 49 = .ok (.getfield 79, 3) := by decide +kernel
theorem dX12_take_52 : decode cX12_take 52 = .ok (.aload_n 0, 1) := by decide +kernel
theorem dX12_take_53 : decode cX12_take 53 = .ok (.getfield 66, 3) := by decide +kernel
theorem dX12_take_56 : decode cX12_take 56 = .ok (.iload_n 1, 1) := by decide +kernel
theorem dX12_take_57 : decode cX12_take 57 = .ok (.iaload, 1) := by decide +kernel
theorem dX12_take_58 : decode cX12_take 58 = .ok (.iaload, 1) := by decide +kernel
theorem dX12_take_59 : decode cX12_take 59 = .ok (.if_icmp .lt 43, 3) := by decide +kernel
theorem dX12_take_62 : decode cX12_take 62 = .ok (.aload_n 0, 1) := by decide +kernel
theorem dX12_take_63 : decode cX12_take 63 = .ok (.getfield 79, 3) := by decide +kernel
theorem dX12_take_66 : decode cX12_take 66 = .ok (.aload_n 0, 1) := by decide +kernel
theorem dX12_take_67 : decode cX12_take 67 = .ok (.getfield 66, 3) := by decide +kernel
theorem dX12_take_70 : decode cX12_take 70 = .ok (.iload_n 2, 1) := by decide +kernel
theorem dX12_take_71 : decode cX12_take 71 = .ok (.iaload, 1) := by decide +kernel
theorem dX12_take_72 : decode cX12_take 72 = .ok (.iaload, 1) := by decide +kernel
theorem dX12_take_73 : decode cX12_take 73 = .ok (.aload_n 0, 1) := by decide +kernel
theorem dX12_take_74 : decode cX12_take 74 = .ok (.getfield 79, 3) := by decide +kernel
theorem dX12_take_77 : decode cX12_take 77 = .ok (.aload_n 0, 1) := by decide +kernel
theorem dX12_take_78 : decode cX12_take 78 = .ok (.getfield 66, 3) := by decide +kernel
theorem dX12_take_81 : decode cX12_take 81 = .ok (.iload_n 1, 1) := by decide +kernel
theorem dX12_take_82 : decode cX12_take 82 = .ok (.iaload, 1) := by decide +kernel
theorem dX12_take_83 : decode cX12_take 83 = .ok (.iaload, 1) := by decide +kernel
theorem dX12_take_84 : decode cX12_take 84 = .ok (.if_icmp .ne 20, 3) := by decide +kernel
theorem dX12_take_87 : decode cX12_take 87 = .ok (.aload_n 0, 1) := by decide +kernel
theorem dX12_take_88 : decode cX12_take 88 = .ok (.getfield 66, 3) := by decide +kernel
theorem dX12_take_91 : decode cX12_take 91 = .ok (.iload_n 2, 1) := by decide +kernel
theorem dX12_take_92 : decode cX12_take 92 = .ok (.iaload, 1) := by decide +kernel
theorem dX12_take_93 : decode cX12_take 93 = .ok (.aload_n 0, 1) := by decide +kernel
theorem dX12_take_94 : decode cX12_take 94 = .ok (.getfield 66, 3) := by decide +kernel
theorem dX12_take_97 : decode cX12_take 97 = .ok (.iload_n 1, 1) := by decide +kernel
theorem dX12_take_98 : decode cX12_take 98 = .ok (.iaload, 1) := by decide +kernel
theorem dX12_take_99 : decode cX12_take 99 = .ok (.if_icmp .ge 5, 3) := by decide +kernel
theorem dX12_take_102 : decode cX12_take 102 = .ok (.iload_n 2, 1) := by decide +kernel
theorem dX12_take_103 : decode cX12_take 103 = .ok (.istore_n 1, 1) := by decide +kernel
theorem dX12_take_104 : decode cX12_take 104 = .ok (.iinc 2 1, 3) := by decide +kernel
theorem dX12_take_107 : decode cX12_take 107 = .ok (.goto (-103), 3) := by decide +kernel
theorem dX12_take_110 : decode cX12_take 110 = .ok (.iload_n 1, 1) := by decide +kernel
theorem dX12_take_111 : decode cX12_take 111 = .ok (.ifCond .ge 5, 3) := by decide +kernel
theorem dX12_take_114 : decode cX12_take 114 = .ok (.iconst (-1), 1) := by decide +kernel
theorem dX12_take_115 : decode cX12_take 115 = .ok (.ireturn, 1) := by decide +kernel
theorem dX12_take_116 : decode cX12_take 116 = .ok (.aload_n 0, 1) := by decide +kernel
theorem dX12_take_117 : decode cX12_take 117 = .ok (.getfield 75, 3) := by decide +kernel
theorem dX12_take_120 : decode cX12_take 120 = .ok (.iload_n 1, 1) := by decide +kernel
theorem dX12_take_121 : decode cX12_take 121 = .ok (.iconst 1, 1) := by decide +kernel
theorem dX12_take_122 : decode cX12_take 122 = .ok (.bastore, 1) := by decide +kernel
theorem dX12_take_123 : decode cX12_take 123 = .ok (.aload_n 0, 1) := by decide +kernel
theorem dX12_take_124 : decode cX12_take 124 = .ok (.getfield 79, 3) := by decide +kernel
theorem dX12_take_127 : decode cX12_take 127 = .ok (.aload_n 0, 1) := by decide +kernel
theorem dX12_take_128 : decode cX12_take 128 = .ok (.getfield 66, 3) := by decide +kernel
theorem dX12_take_131 : decode cX12_take 131 = .ok (.iload_n 1, 1) := by decide +kernel
theorem dX12_take_132 : decode cX12_take 132 = .ok (.iaload, 1) := by decide +kernel
theorem dX12_take_133 : decode cX12_take 133 = .ok (.dup2, 1) := by decide +kernel
theorem dX12_take_134 : decode cX12_take 134 = .ok (.iaload, 1) := by decide +kernel
theorem dX12_take_135 : decode cX12_take 135 = .ok (.iconst 1, 1) := by decide +kernel
theorem dX12_take_136 : decode cX12_take 136 = .ok (.iadd, 1) := by decide +kernel
theorem dX12_take_137 : decode cX12_take 137 = .ok (.iastore, 1) := by decide +kernel
theorem dX12_take_138 : decode cX12_take 138 = .ok (.iload_n 1, 1) := by decide +kernel
theorem dX12_take_139 : decode cX12_take 139 = .ok (.ireturn, 1) := by decide +kernel
theorem dX12_load_0 : decode cX12_load 0 = .ok (.aload_n 0, 1) := by decide +kernel
theorem dX12_load_1 : decode cX12_load 1 = .ok (.iload_n 1, 1) := by decide +kernel
theorem dX12_load_2 : decode cX12_load 2 = .ok (.invokevirtual 330, 3) := by decide +kernel
theorem dX12_load_5 : decode cX12_load 5 = .ok (.ifCond .ne 5, 3) := by decide +kernel
theorem dX12_load_8 : decode cX12_load 8 = .ok (.iconst (-1), 1) := by decide +kernel
theorem dX12_load_9 : decode cX12_load 9 = .ok (.ireturn, 1) := by decide +kernel
theorem dX12_load_10 : decode cX12_load 10 = .ok (.aload_n 0, 1) := by decide +kernel
theorem dX12_load_11 : decode cX12_load 11 = .ok (.getfield 72, 3) := by decide +kernel
theorem dX12_load_14 : decode cX12_load 14 = .ok (.iload_n 1, 1) := by decide +kernel
theorem dX12_load_15 : decode cX12_load 15 = .ok (.iaload, 1) := by decide +kernel
theorem dX12_load_16 : decode cX12_load 16 = .ok (.ifCond .ge 6, 3) := by decide +kernel
theorem dX12_load_19 : decode cX12_load 19 = .ok (.bipush (-3), 2) := by decide +kernel
theorem dX12_load_21 : decode cX12_load 21 = .ok (.ireturn, 1) := by decide +kernel
theorem dX12_load_22 : decode cX12_load 22 = .ok (.aload_n 0, 1) := by decide +kernel
theorem dX12_load_23 : decode cX12_load 23 = .ok (.getfield 72, 3) := by decide +kernel
theorem dX12_load_26 : decode cX12_load 26 = .ok (.iload_n 1, 1) := by decide +kernel
theorem dX12_load_27 : decode cX12_load 27 = .ok (.iaload, 1) := by decide +kernel
theorem dX12_load_28 : decode cX12_load 28 = .ok (.istore_n 3, 1) := by decide +kernel
theorem dX12_load_29 : decode cX12_load 29 = .ok (.iload_n 2, 1) := by decide +kernel
theorem dX12_load_30 : decode cX12_load 30 = .ok (.i2l, 1) := by decide +kernel
theorem dX12_load_31 : decode cX12_load 31 = .ok (.lstore 4, 2) := by decide +kernel
theorem dX12_load_33 : decode cX12_load 33 = .ok (.lload 4, 2) := by decide +kernel
theorem dX12_load_35 : decode cX12_load 35 = .ok (.lconst 0, 1) := by decide +kernel
theorem dX12_load_36 : decode cX12_load 36 = .ok (.lcmp, 1) := by decide +kernel
theorem dX12_load_37 : decode cX12_load 37 = .ok (.ifCond .le 19, 3) := by decide +kernel
theorem dX12_load_40 : decode cX12_load 40 = .ok (.aload_n 0, 1) := by decide +kernel
theorem dX12_load_41 : decode cX12_load 41 = .ok (.getfield 7, 3) := by decide +kernel
theorem dX12_load_44 : decode cX12_load 44 = .ok (.iload_n 3, 1) := by decide +kernel
theorem dX12_load_45 : decode cX12_load 45 = .ok (.iaload, 1) := by decide +kernel
theorem dX12_load_46 : decode cX12_load 46 = .ok (.i2l, 1) := by decide +kernel
theorem dX12_load_47 : decode cX12_load 47 = .ok (.lload 4, 2) := by decide +kernel
theorem dX12_load_49 : decode cX12_load 49 = .ok (.lcmp, 1) := by decide +kernel
theorem dX12_load_50 : decode cX12_load 50 = .ok (.ifCond .ge 47, 3) := by decide +kernel
theorem dX12_load_53 : decode cX12_load 53 = .ok (.goto 41, 3) := by decide +kernel
theorem dX12_load_56 : decode cX12_load 56 = .ok (.aload_n 0, 1) := by decide +kernel
theorem dX12_load_57 : decode cX12_load 57 = .ok (.getfield 85, 3) := by decide +kernel
theorem dX12_load_60 : decode cX12_load 60 = .ok (.iload_n 1, 1) := by decide +kernel
theorem dX12_load_61 : decode cX12_load 61 = .ok (.iaload, 1) := by decide +kernel
theorem dX12_load_62 : decode cX12_load 62 = .ok (.i2l, 1) := by decide +kernel
theorem dX12_load_63 : decode cX12_load 63 = .ok (.lload 4, 2) := by decide +kernel
theorem dX12_load_65 : decode cX12_load 65 = .ok (.lneg, 1) := by decide +kernel
theorem dX12_load_66 : decode cX12_load 66 = .ok (.lcmp, 1) := by decide +kernel
theorem dX12_load_67 : decode cX12_load 67 = .ok (.ifCond .lt 27, 3) := by decide +kernel
theorem dX12_load_70 : decode cX12_load 70 = .ok (.lload 4, 2) := by decide +kernel
theorem dX12_load_72 : decode cX12_load 72 = .ok (.lconst 0, 1) := by decide +kernel
theorem dX12_load_73 : decode cX12_load 73 = .ok (.lcmp, 1) := by decide +kernel
theorem dX12_load_74 : decode cX12_load 74 = .ok (.ifCond .ge 23, 3) := by decide +kernel
theorem dX12_load_77 : decode cX12_load 77 = .ok (.aload_n 0, 1) := by decide +kernel
theorem dX12_load_78 : decode cX12_load 78 = .ok (.getfield 7, 3) := by decide +kernel
theorem dX12_load_81 : decode cX12_load 81 = .ok (.iload_n 3, 1) := by decide +kernel
theorem dX12_load_82 : decode cX12_load 82 = .ok (.iaload, 1) := by decide +kernel
theorem dX12_load_83 : decode cX12_load 83 = .ok (.i2l, 1) := by decide +kernel
theorem dX12_load_84 : decode cX12_load 84 = .ok (.lload 4, 2) := by decide +kernel
theorem dX12_load_86 : decode cX12_load 86 = .ok (.lsub, 1) := by decide +kernel
theorem dX12_load_87 : decode cX12_load 87 = .ok (.ldc2_w 368, 3) := by decide +kernel
theorem dX12_load_90 : decode cX12_load 90 = .ok (.lcmp, 1) := by decide +kernel
theorem dX12_load_91 : decode cX12_load 91 = .ok (.ifCond .le 6, 3) := by decide +kernel
theorem dX12_load_94 : decode cX12_load 94 = .ok (.bipush (-2), 2) := by decide +kernel
theorem dX12_load_96 : decode cX12_load 96 = .ok (.ireturn, 1) := by decide +kernel
theorem dX12_load_97 : decode cX12_load 97 = .ok (.aload_n 0, 1) := by decide +kernel
theorem dX12_load_98 : decode cX12_load 98 = .ok (.getfield 7, 3) := by decide +kernel
theorem dX12_load_101 : decode cX12_load 101 = .ok (.iload_n 3, 1) := by decide +kernel
theorem dX12_load_102 : decode cX12_load 102 = .ok (.dup2, 1) := by decide +kernel
theorem dX12_load_103 : decode cX12_load 103 = .ok (.iaload, 1) := by decide +kernel
theorem dX12_load_104 : decode cX12_load 104 = .ok (.iload_n 2, 1) := by decide +kernel
theorem dX12_load_105 : decode cX12_load 105 = .ok (.isub, 1) := by decide +kernel
theorem dX12_load_106 : decode cX12_load 106 = .ok (.iastore, 1) := by decide +kernel
theorem dX12_load_107 : decode cX12_load 107 = .ok (.aload_n 0, 1) := by decide +kernel
theorem dX12_load_108 : decode cX12_load 108 = .ok (.getfield 85, 3) := by decide +kernel
theorem dX12_load_111 : decode cX12_load 111 = .ok (.iload_n 1, 1) := by decide +kernel
theorem dX12_load_112 : decode cX12_load 112 = .ok (.dup2, 1) := by decide +kernel
theorem dX12_load_113 : decode cX12_load 113 = .ok (.iaload, 1) := by decide +kernel
theorem dX12_load_114 : decode cX12_load 114 = .ok (.iload_n 2, 1) := by decide +kernel
theorem dX12_load_115 : decode cX12_load 115 = .ok (.iadd, 1) := by decide +kernel
theorem dX12_load_116 : decode cX12_load 116 = .ok (.iastore, 1) := by decide +kernel
theorem dX12_load_117 : decode cX12_load 117 = .ok (.aload_n 0, 1) := by decide +kernel
theorem dX12_load_118 : decode cX12_load 118 = .ok (.getfield 85, 3) := by decide +kernel
theorem dX12_load_121 : decode cX12_load 121 = .ok (.iload_n 1, 1) := by decide +kernel
theorem dX12_load_122 : decode cX12_load 122 = .ok (.iaload, 1) := by decide +kernel
theorem dX12_load_123 : decode cX12_load 123 = .ok (.ireturn, 1) := by decide +kernel
theorem dX12_balesOn_0 : decode cX12_balesOn 0 = .ok (.iconst 0, 1) := by decide +kernel
theorem dX12_balesOn_1 : decode cX12_balesOn 1 = .ok (.istore_n 2, 1) := by decide +kernel
