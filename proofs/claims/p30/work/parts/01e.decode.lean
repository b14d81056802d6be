theorem dL_holds_26 : decode cL_holds 26 = .ok (.iconst 1, 1) := by decide +kernel
theorem dL_holds_27 : decode cL_holds 27 = .ok (.istore 9, 2) := by decide +kernel
theorem dL_holds_29 : decode cL_holds 29 = .ok (.iconst 0, 1) := by decide +kernel
theorem dL_holds_30 : decode cL_holds 30 = .ok (.istore 10, 2) := by decide +kernel
theorem dL_holds_32 : decode cL_holds 32 = .ok (.iload 10, 2) := by decide +kernel
theorem dL_holds_34 : decode cL_holds 34 = .ok (.iload_n 2, 1) := by decide +kernel
theorem dL_holds_35 : decode cL_holds 35 = .ok (.if_icmp .ge 580, 3) := by decide +kernel
theorem dL_holds_38 : decode cL_holds 38 = .ok (.iload 9, 2) := by decide +kernel
theorem dL_holds_40 : decode cL_holds 40 = .ok (.ifCond .eq 575, 3) := by decide +kernel
theorem dL_holds_43 : decode cL_holds 43 = .ok (.aload_n 0, 1) := by decide +kernel
theorem dL_holds_44 : decode cL_holds 44 = .ok (.iconst 2, 1) := by decide +kernel
theorem dL_holds_45 : decode cL_holds 45 = .ok (.iload 10, 2) := by decide +kernel
theorem dL_holds_47 : decode cL_holds 47 = .ok (.iconst 0, 1) := by decide +kernel
theorem dL_holds_48 : decode cL_holds 48 = .ok (.iconst 0, 1) := by decide +kernel
theorem dL_holds_49 : decode cL_holds 49 = .ok (.invokestatic 163, 3) := by decide +kernel
theorem dL_holds_52 : decode cL_holds 52 = .ok (.istore 11, 2) := by decide +kernel
theorem dL_holds_54 : decode cL_holds 54 = .ok (.iconst 0, 1) := by decide +kernel
theorem dL_holds_55 : decode cL_holds 55 = .ok (.istore 12, 2) := by decide +kernel
theorem dL_holds_57 : decode cL_holds 57 = .ok (.iconst 0, 1) := by decide +kernel
theorem dL_holds_58 : decode cL_holds 58 = .ok (.istore 13, 2) := by decide +kernel
theorem dL_holds_60 : decode cL_holds 60 = .ok (.iconst 0, 1) := by decide +kernel
theorem dL_holds_61 : decode cL_holds 61 = .ok (.istore 14, 2) := by decide +kernel
theorem dL_holds_63 : decode cL_holds 63 = .ok (.iload 14, 2) := by decide +kernel
theorem dL_holds_65 : decode cL_holds 65 = .ok (.iload 11, 2) := by decide +kernel
theorem dL_holds_67 : decode cL_holds 67 = .ok (.if_icmp .ge 401, 3) := by decide +kernel
theorem dL_holds_70 : decode cL_holds 70 = .ok (.iload 9, 2) := by decide +kernel
theorem dL_holds_72 : decode cL_holds 72 = .ok (.ifCond .eq 396, 3) := by decide +kernel
theorem dL_holds_75 : decode cL_holds 75 = .ok (.aload_n 0, 1) := by decide +kernel
theorem dL_holds_76 : decode cL_holds 76 = .ok (.iconst 3, 1) := by decide +kernel
theorem dL_holds_77 : decode cL_holds 77 = .ok (.iload 10, 2) := by decide +kernel
theorem dL_holds_79 : decode cL_holds 79 = .ok (.iload 14, 2) := by decide +kernel
theorem dL_holds_81 : decode cL_holds 81 = .ok (.iconst 1, 1) := by decide +kernel
theorem dL_holds_82 : decode cL_holds 82 = .ok (.invokestatic 163, 3) := by decide +kernel
theorem dL_holds_85 : decode cL_holds 85 = .ok (.istore 15, 2) := by decide +kernel
theorem dL_holds_87 : decode cL_holds 87 = .ok (.iconst 0, 1) := by decide +kernel
theorem dL_holds_88 : decode cL_holds 88 = .ok (.istore 16, 2) := by decide +kernel
theorem dL_holds_90 : decode cL_holds 90 = .ok (.iconst 0, 1) := by decide +kernel
theorem dL_holds_91 : decode cL_holds 91 = .ok (.istore 17, 2) := by decide +kernel
theorem dL_holds_93 : decode cL_holds 93 = .ok (.iconst 0, 1) := by decide +kernel
theorem dL_holds_94 : decode cL_holds 94 = .ok (.istore 18, 2) := by decide +kernel
theorem dL_holds_96 : decode cL_holds 96 = .ok (.iload 18, 2) := by decide +kernel
theorem dL_holds_98 : decode cL_holds 98 = .ok (.iload 15, 2) := by decide +kernel
theorem dL_holds_100 : decode cL_holds 100 = .ok (.if_icmp .ge 133, 3) := by decide +kernel
theorem dL_holds_103 : decode cL_holds 103 = .ok (.iload 9, 2) := by decide +kernel
theorem dL_holds_105 : decode cL_holds 105 = .ok (.ifCond .eq 128, 3) := by decide +kernel
theorem dL_holds_108 : decode cL_holds 108 = .ok (.aload_n 0, 1) := by decide +kernel
theorem dL_holds_109 : decode cL_holds 109 = .ok (.iload 10, 2) := by decide +kernel
theorem dL_holds_111 : decode cL_holds 111 = .ok (.iload 14, 2) := by decide +kernel
theorem dL_holds_113 : decode cL_holds 113 = .ok (.iload 18, 2) := by decide +kernel
theorem dL_holds_115 : decode cL_holds 115 = .ok (.iconst 3, 1) := by decide +kernel
theorem dL_holds_116 : decode cL_holds 116 = .ok (.invokestatic 166, 3) := by decide +kernel
theorem dL_holds_119 : decode cL_holds 119 = .ok (.istore 19, 2) := by decide +kernel
theorem dL_holds_121 : decode cL_holds 121 = .ok (.aload_n 0, 1) := by decide +kernel
theorem dL_holds_122 : decode cL_holds 122 = .ok (.iload 10, 2) := by decide +kernel
theorem dL_holds_124 : decode cL_holds 124 = .ok (.iload 14, 2) := by decide +kernel
theorem dL_holds_126 : decode cL_holds 126 = .ok (.iload 18, 2) := by decide +kernel
theorem dL_holds_128 : decode cL_holds 128 = .ok (.iconst 4, 1) := by decide +kernel
theorem dL_holds_129 : decode cL_holds 129 = .ok (.invokestatic 166, 3) := by decide +kernel
theorem dL_holds_132 : decode cL_holds 132 = .ok (.istore 20, 2) := by decide +kernel
theorem dL_holds_134 : decode cL_holds 134 = .ok (.iload 16, 2) := by decide +kernel
theorem dL_holds_136 : decode cL_holds 136 = .ok (.iload 19, 2) := by decide +kernel
theorem dL_holds_138 : decode cL_holds 138 = .ok (.iadd, 1) := by decide +kernel
theorem dL_holds_139 : decode cL_holds 139 = .ok (.istore 16, 2) := by decide +kernel
theorem dL_holds_141 : decode cL_holds 141 = .ok (.iload 19, 2) := by decide +kernel
theorem dL_holds_143 : decode cL_holds 143 = .ok (.iload 17, 2) := by decide +kernel
theorem dL_holds_145 : decode cL_holds 145 = .ok (.if_icmp .le 8, 3) := by decide +kernel
theorem dL_holds_148 : decode cL_holds 148 = .ok (.iload 19, 2) := by decide +kernel
theorem dL_holds_150 : decode cL_holds 150 = .ok (.goto 5, 3) := by decide +kernel
theorem dL_holds_153 : decode cL_holds 153 = .ok (.iload 17, 2) := by decide +kernel
theorem dL_holds_155 : decode cL_holds 155 = .ok (.istore 17, 2) := by decide +kernel
theorem dL_holds_157 : decode cL_holds 157 = .ok (.iload 7, 2) := by decide +kernel
theorem dL_holds_159 : decode cL_holds 159 = .ok (.iload 20, 2) := by decide +kernel
theorem dL_holds_161 : decode cL_holds 161 = .ok (.ifCond .le 7, 3) := by decide +kernel
theorem dL_holds_164 : decode cL_holds 164 = .ok (.iconst 1, 1) := by decide +kernel
theorem dL_holds_165 : decode cL_holds 165 = .ok (.goto 4, 3) := by decide +kernel
theorem dL_holds_168 : decode cL_holds 168 = .ok (.iconst 0, 1) := by decide +kernel
theorem dL_holds_169 : decode cL_holds 169 = .ok (.iadd, 1) := by decide +kernel
theorem dL_holds_170 : decode cL_holds 170 = .ok (.istore 7, 2) := by decide +kernel
theorem dL_holds_172 : decode cL_holds 172 = .ok (.iload 19, 2) := by decide +kernel
theorem dL_holds_174 : decode cL_holds 174 = .ok (.ifCond .lt 50, 3) := by decide +kernel
theorem dL_holds_177 : decode cL_holds 177 = .ok (.iload 20, 2) := by decide +kernel
theorem dL_holds_179 : decode cL_holds 179 = .ok (.ifCond .lt 45, 3) := by decide +kernel
theorem dL_holds_182 : decode cL_holds 182 = .ok (.iload 20, 2) := by decide +kernel
theorem dL_holds_184 : decode cL_holds 184 = .ok (.iconst 5, 1) := by decide +kernel
theorem dL_holds_185 : decode cL_holds 185 = .ok (.if_icmp .gt 39, 3) := by decide +kernel
theorem dL_holds_188 : decode cL_holds 188 = .ok (.iload 20, 2) := by decide +kernel
theorem dL_holds_190 : decode cL_holds 190 = .ok (.iconst 2, 1) := by decide +kernel
theorem dL_holds_191 : decode cL_holds 191 = .ok (.if_icmp .lt 8, 3) := by decide +kernel
theorem dL_holds_194 : decode cL_holds 194 = .ok (.iload 19, 2) := by decide +kernel
theorem dL_holds_196 : decode cL_holds 196 = .ok (.ifCond .ne 28, 3) := by decide +kernel
theorem dL_holds_199 : decode cL_holds 199 = .ok (.iload 20, 2) := by decide +kernel
theorem dL_holds_201 : decode cL_holds 201 = .ok (.iconst 1, 1) := by decide +kernel
theorem dL_holds_202 : decode cL_holds 202 = .ok (.if_icmp .ne 18, 3) := by decide +kernel
theorem dL_holds_205 : decode cL_holds 205 = .ok (.aload_n 0, 1) := by decide +kernel
theorem dL_holds_206 : decode cL_holds 206 = .ok (.iload 10, 2) := by decide +kernel
theorem dL_holds_208 : decode cL_holds 208 = .ok (.iload 14, 2) := by decide +kernel
theorem dL_holds_210 : decode cL_holds 210 = .ok (.iload 18, 2) := by decide +kernel
theorem dL_holds_212 : decode cL_holds 212 = .ok (.iconst 1, 1) := by decide +kernel
theorem dL_holds_213 : decode cL_holds 213 = .ok (.invokestatic 166, 3) := by decide +kernel
theorem dL_holds_216 : decode cL_holds 216 = .ok (.iconst 2, 1) := by decide +kernel
theorem dL_holds_217 : decode cL_holds 217 = .ok (.if_icmp .le 7, 3) := by decide +kernel
theorem dL_holds_220 : decode cL_holds 220 = .ok (.iconst 1, 1) := by decide +kernel
theorem dL_holds_221 : decode cL_holds 221 = .ok (.goto 4, 3) := by decide +kernel
theorem dL_holds_224 : decode cL_holds 224 = .ok (.iconst 0, 1) := by decide +kernel
theorem dL_holds_225 : decode cL_holds 225 = .ok (.istore 9, 2) := by decide +kernel
theorem dL_holds_227 : decode cL_holds 227 = .ok (.iinc 18 1, 3) := by decide +kernel
theorem dL_holds_230 : decode cL_holds 230 = .ok (.goto (-134), 3) := by decide +kernel
theorem dL_holds_233 : decode cL_holds 233 = .ok (.aload_n 0, 1) := by decide +kernel
theorem dL_holds_234 : decode cL_holds 234 = .ok (.iconst 3, 1) := by decide +kernel
theorem dL_holds_235 : decode cL_holds 235 = .ok (.iload 10, 2) := by decide +kernel
theorem dL_holds_237 : decode cL_holds 237 = .ok (.iload 14, 2) := by decide +kernel
theorem dL_holds_239 : decode cL_holds 239 = .ok (.iconst 3, 1) := by decide +kernel
theorem dL_holds_240 : decode cL_holds 240 = .ok (.invokestatic 163, 3) := by decide +kernel
theorem dL_holds_243 : decode cL_holds 243 = .ok (.istore 18, 2) := by decide +kernel
theorem dL_holds_245 : decode cL_holds 245 = .ok (.aload_n 0, 1) := by decide +kernel
theorem dL_holds_246 : decode cL_holds 246 = .ok (.iconst 3, 1) := by decide +kernel
theorem dL_holds_247 : decode cL_holds 247 = .ok (.iload 10, 2) := by decide +kernel
theorem dL_holds_249 : decode cL_holds 249 = .ok (.iload 14, 2) := by decide +kernel
theorem dL_holds_251 : decode cL_holds 251 = .ok (.iconst 4, 1) := by decide +kernel
theorem dL_holds_252 : decode cL_holds 252 = .ok (.invokestatic 163, 3) := by decide +kernel
theorem dL_holds_255 : decode cL_holds 255 = .ok (.istore 19, 2) := by decide +kernel
theorem dL_holds_257 : decode cL_holds 257 = .ok (.aload_n 0, 1) := by decide +kernel
theorem dL_holds_258 : decode cL_holds 258 = .ok (.iconst 3, 1) := by decide +kernel
theorem dL_holds_259 : decode cL_holds 259 = .ok (.iload 10, 2) := by decide +kernel
theorem dL_holds_261 : decode cL_holds 261 = .ok (.iload 14, 2) := by decide +kernel
theorem dL_holds_263 : decode cL_holds 263 = .ok (.bipush 8, 2) := by decide +kernel
theorem dL_holds_265 : decode cL_holds 265 = .ok (.invokestatic 163, 3) := by decide +kernel
theorem dL_holds_268 : decode cL_holds 268 = .ok (.istore 20, 2) := by decide +kernel
theorem dL_holds_270 : decode cL_holds 270 = .ok (.iload 12, 2) := by decide +kernel
theorem dL_holds_272 : decode cL_holds 272 = .ok (.aload_n 0, 1) := by decide +kernel
theorem dL_holds_273 : decode cL_holds 273 = .ok (.iconst 3, 1) := by decide +kernel
theorem dL_holds_274 : decode cL_holds 274 = .ok (.iload 10, 2) := by decide +kernel
theorem dL_holds_276 : decode cL_holds 276 = .ok (.iload 14, 2) := by decide +kernel
theorem dL_holds_278 : decode cL_holds 278 = .ok (.iconst 5, 1) := by decide +kernel
theorem dL_holds_279 : decode cL_holds 279 = .ok (.invokestatic 163, 3) := by decide +kernel
theorem dL_holds_282 : decode cL_holds 282 = .ok (.iadd, 1) := by decide +kernel
theorem dL_holds_283 : decode cL_holds 283 = .ok (.istore 12, 2) := by decide +kernel
theorem dL_holds_285 : decode cL_holds 285 = .ok (.iload 13, 2) := by decide +kernel
theorem dL_holds_287 : decode cL_holds 287 = .ok (.aload_n 0, 1) := by decide +kernel
theorem dL_holds_288 : decode cL_holds 288 = .ok (.iconst 3, 1) := by decide +kernel
theorem dL_holds_289 : decode cL_holds 289 = .ok (.iload 10, 2) := by decide +kernel
theorem dL_holds_291 : decode cL_holds 291 = .ok (.iload 14, 2) := by decide +kernel
theorem dL_holds_293 : decode cL_holds 293 = .ok (.bipush 6, 2) := by decide +kernel
theorem dL_holds_295 : decode cL_holds 295 = .ok (.invokestatic 163, 3) := by decide +kernel
theorem dL_holds_298 : decode cL_holds 298 = .ok (.iadd, 1) := by decide +kernel
theorem dL_holds_299 : decode cL_holds 299 = .ok (.istore 13, 2) := by decide +kernel
theorem dL_holds_301 : decode cL_holds 301 = .ok (.iload 4, 2) := by decide +kernel
theorem dL_holds_303 : decode cL_holds 303 = .ok (.aload_n 0, 1) := by decide +kernel
theorem dL_holds_304 : decode cL_holds 304 = .ok (.iconst 3, 1) := by decide +kernel
theorem dL_holds_305 : decode cL_holds 305 = .ok (.iload 10, 2) := by decide +kernel
theorem dL_holds_307 : decode cL_holds 307 = .ok (.iload 14, 2) := by decide +kernel
theorem dL_holds_309 : decode cL_holds 309 = .ok (.bipush 7, 2) := by decide +kernel
theorem dL_holds_311 : decode cL_holds 311 = .ok (.invokestatic 163, 3) := by decide +kernel
theorem dL_holds_314 : decode cL_holds 314 = .ok (.iadd, 1) := by decide +kernel
theorem dL_holds_315 : decode cL_holds 315 = .ok (.istore 4, 2) := by decide +kernel
theorem dL_holds_317 : decode cL_holds 317 = .ok (.iload 9, 2) := by decide +kernel
theorem dL_holds_319 : decode cL_holds 319 = .ok (.ifCond .eq 140, 3) := by decide +kernel
theorem dL_holds_322 : decode cL_holds 322 = .ok (.iload 18, 2) := by decide +kernel
theorem dL_holds_324 : decode cL_holds 324 = .ok (.bipush (-15), 2) := by decide +kernel
theorem dL_holds_326 : decode cL_holds 326 = .ok (.if_icmp .lt 133, 3) := by decide +kernel
theorem dL_holds_329 : decode cL_holds 329 = .ok (.iload 18, 2) := by decide +kernel
theorem dL_holds_331 : decode cL_holds 331 = .ok (.bipush 15, 2) := by decide +kernel
theorem dL_holds_333 : decode cL_holds 333 = .ok (.if_icmp .gt 126, 3) := by decide +kernel
theorem dL_holds_336 : decode cL_holds 336 = .ok (.bipush 30, 2) := by decide +kernel
theorem dL_holds_338 : decode cL_holds 338 = .ok (.iload 19, 2) := by decide +kernel
theorem dL_holds_340 : decode cL_holds 340 = .ok (.imul, 1) := by decide +kernel
theorem dL_holds_341 : decode cL_holds 341 = .ok (.iload 18, 2) := by decide +kernel
theorem dL_holds_343 : decode cL_holds 343 = .ok (.iload 17, 2) := by decide +kernel
theorem dL_holds_345 : decode cL_holds 345 = .ok (.imul, 1) := by decide +kernel
theorem dL_holds_346 : decode cL_holds 346 = .ok (.isub, 1) := by decide +kernel
theorem dL_holds_347 : decode cL_holds 347 = .ok (.bipush 15, 2) := by decide +kernel
theorem dL_holds_349 : decode cL_holds 349 = .ok (.if_icmp .gt 110, 3) := by decide +kernel
theorem dL_holds_352 : decode cL_holds 352 = .ok (.iload 18, 2) := by decide +kernel
theorem dL_holds_354 : decode cL_holds 354 = .ok (.iload 17, 2) := by decide +kernel
theorem dL_holds_356 : decode cL_holds 356 = .ok (.imul, 1) := by decide +kernel
theorem dL_holds_357 : decode cL_holds 357 = .ok (.bipush 30, 2) := by decide +kernel
theorem dL_holds_359 : decode cL_holds 359 = .ok (.iload 19, 2) := by decide +kernel
theorem dL_holds_361 : decode cL_holds 361 = .ok (.imul, 1) := by decide +kernel
theorem dL_holds_362 : decode cL_holds 362 = .ok (.isub, 1) := by decide +kernel
theorem dL_holds_363 : decode cL_holds 363 = .ok (.bipush 15, 2) := by decide +kernel
theorem dL_holds_365 : decode cL_holds 365 = .ok (.if_icmp .gt 94, 3) := by decide +kernel
theorem dL_holds_368 : decode cL_holds 368 = .ok (.iload 20, 2) := by decide +kernel
theorem dL_holds_370 : decode cL_holds 370 = .ok (.iconst 1, 1) := by decide +kernel
theorem dL_holds_371 : decode cL_holds 371 = .ok (.if_icmp .ne 43, 3) := by decide +kernel
theorem dL_holds_374 : decode cL_holds 374 = .ok (.aload_n 0, 1) := by decide +kernel
theorem dL_holds_375 : decode cL_holds 375 = .ok (.iconst 3, 1) := by decide +kernel
theorem dL_holds_376 : decode cL_holds 376 = .ok (.iload 10, 2) := by decide +kernel
theorem dL_holds_378 : decode cL_holds 378 = .ok (.iload 14, 2) := by decide +kernel
theorem dL_holds_380 : decode cL_holds 380 = .ok (.iconst 2, 1) := by decide +kernel
theorem dL_holds_381 : decode cL_holds 381 = .ok (.invokestatic 163, 3) := by decide +kernel
theorem dL_holds_384 : decode cL_holds 384 = .ok (.iload 16, 2) := by decide +kernel
theorem dL_holds_386 : decode cL_holds 386 = .ok (.if_icmp .lt 73, 3) := by decide +kernel
theorem dL_holds_389 : decode cL_holds 389 = .ok (.aload_n 0, 1) := by decide +kernel
theorem dL_holds_390 : decode cL_holds 390 = .ok (.iconst 3, 1) := by decide +kernel
theorem dL_holds_391 : decode cL_holds 391 = .ok (.iload 10, 2) := by decide +kernel
theorem dL_holds_393 : decode cL_holds 393 = .ok (.iload 14, 2) := by decide +kernel
theorem dL_holds_395 : decode cL_holds 395 = .ok (.iconst 0, 1) := by decide +kernel
theorem dL_holds_396 : decode cL_holds 396 = .ok (.invokestatic 163, 3) := by decide +kernel
theorem dL_holds_399 : decode cL_holds 399 = .ok (.ifCond .ne 60, 3) := by decide +kernel
theorem dL_holds_402 : decode cL_holds 402 = .ok (.iconst 2, 1) := by decide +kernel
theorem dL_holds_403 : decode cL_holds 403 = .ok (.iload 14, 2) := by decide +kernel
theorem dL_holds_405 : decode cL_holds 405 = .ok (.imul, 1) := by decide +kernel
theorem dL_holds_406 : decode cL_holds 406 = .ok (.iload 11, 2) := by decide +kernel
theorem dL_holds_408 : decode cL_holds 408 = .ok (.if_icmp .lt 51, 3) := by decide +kernel
theorem dL_holds_411 : decode cL_holds 411 = .ok (.goto 18, 3) := by decide +kernel
theorem dL_holds_414 : decode cL_holds 414 = .ok (.aload_n 0, 1) := by decide +kernel
theorem dL_holds_415 : decode cL_holds 415 = .ok (.iconst 3, 1) := by decide +kernel
theorem dL_holds_416 : decode cL_holds 416 = .ok (.iload 10, 2) := by decide +kernel
theorem dL_holds_418 : decode cL_holds 418 = .ok (.iload 14, 2) := by decide +kernel
theorem dL_holds_420 : decode cL_holds 420 = .ok (.iconst 2, 1) := by decide +kernel
theorem dL_holds_421 : decode cL_holds 421 = .ok (.invokestatic 163, 3) := by decide +kernel
theorem dL_holds_424 : decode cL_holds 424 = .ok (.iload 16, 2) := by decide +kernel
theorem dL_holds_426 : decode cL_holds 426 = .ok (.if_icmp .ne 33, 3) := by decide +kernel
theorem dL_holds_429 : decode cL_holds 429 = .ok (.aload_n 0, 1) := by decide +kernel
theorem dL_holds_430 : decode cL_holds 430 = .ok (.iconst 3, 1) := by decide +kernel
theorem dL_holds_431 : decode cL_holds 431 = .ok (.iload 10, 2) := by decide +kernel
theorem dL_holds_433 : decode cL_holds 433 = .ok (.iload 14, 2) := by decide +kernel
theorem dL_holds_435 : decode cL_holds 435 = .ok (.iconst 5, 1) := by decide +kernel
theorem dL_holds_436 : decode cL_holds 436 = .ok (.invokestatic 163, 3) := by decide +kernel
theorem dL_holds_439 : decode cL_holds 439 = .ok (.aload_n 0, 1) := by decide +kernel
theorem dL_holds_440 : decode cL_holds 440 = .ok (.iconst 3, 1) := by decide +kernel
theorem dL_holds_441 : decode cL_holds 441 = .ok (.iload 10, 2) := by decide +kernel
theorem dL_holds_443 : decode cL_holds 443 = .ok (.iload 14, 2) := by decide +kernel
theorem dL_holds_445 : decode cL_holds 445 = .ok (.iconst 2, 1) := by decide +kernel
theorem dL_holds_446 : decode cL_holds 446 = .ok (.invokestatic 163, 3) := by decide +kernel
theorem dL_holds_449 : decode cL_holds 449 = .ok (.iload 19, 2) := by decide +kernel
theorem dL_holds_451 : decode cL_holds 451 = .ok (.iadd, 1) := by decide +kernel
theorem dL_holds_452 : decode cL_holds 452 = .ok (.if_icmp .ne 7, 3) := by decide +kernel
theorem dL_holds_455 : decode cL_holds 455 = .ok (.iconst 1, 1) := by decide +kernel
theorem dL_holds_456 : decode cL_holds 456 = .ok (.goto 4, 3) := by decide +kernel
theorem dL_holds_459 : decode cL_holds 459 = .ok (.iconst 0, 1) := by decide +kernel
theorem dL_holds_460 : decode cL_holds 460 = .ok (.istore 9, 2) := by decide +kernel
theorem dL_holds_462 : decode cL_holds 462 = .ok (.iinc 14 1, 3) := by decide +kernel
theorem dL_holds_465 : decode cL_holds 465 = .ok (.goto (-402), 3) := by decide +kernel
theorem dL_holds_468 : decode cL_holds 468 = .ok (.iload 6, 2) := by decide +kernel
theorem dL_holds_470 : decode cL_holds 470 = .ok (.iload 11, 2) := by decide +kernel
theorem dL_holds_472 : decode cL_holds 472 = .ok (.iadd, 1) := by decide +kernel
theorem dL_holds_473 : decode cL_holds 473 = .ok (.istore 6, 2) := by decide +kernel
theorem dL_holds_475 : decode cL_holds 475 = .ok (.iload 5, 2) := by decide +kernel
theorem dL_holds_477 : decode cL_holds 477 = .ok (.iload 13, 2) := by decide +kernel
theorem dL_holds_479 : decode cL_holds 479 = .ok (.iadd, 1) := by decide +kernel
theorem dL_holds_480 : decode cL_holds 480 = .ok (.istore 5, 2) := by decide +kernel
theorem dL_holds_482 : decode cL_holds 482 = .ok (.iload 8, 2) := by decide +kernel
theorem dL_holds_484 : decode cL_holds 484 = .ok (.iconst 1, 1) := by decide +kernel
theorem dL_holds_485 : decode cL_holds 485 = .ok (.aload_n 0, 1) := by decide +kernel
theorem dL_holds_486 : decode cL_holds 486 = .ok (.iconst 2, 1) := by decide +kernel
theorem dL_holds_487 : decode cL_holds 487 = .ok (.iload 10, 2) := by decide +kernel
theorem dL_holds_489 : decode cL_holds 489 = .ok (.iconst 5, 1) := by decide +kernel
theorem dL_holds_490 : decode cL_holds 490 = .ok (.iconst 0, 1) := by decide +kernel
theorem dL_holds_491 : decode cL_holds 491 = .ok (.invokestatic 163, 3) := by decide +kernel
theorem dL_holds_494 : decode cL_holds 494 = .ok (.ishl, 1) := by decide +kernel
theorem dL_holds_495 : decode cL_holds 495 = .ok (.iadd, 1) := by decide +kernel
theorem dL_holds_496 : decode cL_holds 496 = .ok (.istore 8, 2) := by decide +kernel
theorem dL_holds_498 : decode cL_holds 498 = .ok (.aload_n 0, 1) := by decide +kernel
theorem dL_holds_499 : decode cL_holds 499 = .ok (.iconst 2, 1) := by decide +kernel
theorem dL_holds_500 : decode cL_holds 500 = .ok (.iload 10, 2) := by decide +kernel
theorem dL_holds_502 : decode cL_holds 502 = .ok (.iconst 5, 1) := by decide +kernel
theorem dL_holds_503 : decode cL_holds 503 = .ok (.iconst 0, 1) := by decide +kernel
theorem dL_holds_504 : decode cL_holds 504 = .ok (.invokestatic 163, 3) := by decide +kernel
theorem dL_holds_507 : decode cL_holds 507 = .ok (.ifCond .ne 8, 3) := by decide +kernel
theorem dL_holds_510 : decode cL_holds 510 = .ok (.iload 10, 2) := by decide +kernel
theorem dL_holds_512 : decode cL_holds 512 = .ok (.goto 4, 3) := by decide +kernel
theorem dL_holds_515 : decode cL_holds 515 = .ok (.iload_n 3, 1) := by decide +kernel
theorem dL_holds_516 : decode cL_holds 516 = .ok (.istore_n 3, 1) := by decide +kernel
theorem dL_holds_517 : decode cL_holds 517 = .ok (.iload 9, 2) := by decide +kernel
theorem dL_holds_519 : decode cL_holds 519 = .ok (.ifCond .eq 87, 3) := by decide +kernel
theorem dL_holds_522 : decode cL_holds 522 = .ok (.aload_n 0, 1) := by decide +kernel
theorem dL_holds_523 : decode cL_holds 523 = .ok (.iconst 2, 1) := by decide +kernel
theorem dL_holds_524 : decode cL_holds 524 = .ok (.iload 10, 2) := by decide +kernel
theorem dL_holds_526 : decode cL_holds 526 = .ok (.iconst 1, 1) := by decide +kernel
theorem dL_holds_527 : decode cL_holds 527 = .ok (.iconst 0, 1) := by decide +kernel
theorem dL_holds_528 : decode cL_holds 528 = .ok (.invokestatic 163, 3) := by decide +kernel
theorem dL_holds_531 : decode cL_holds 531 = .ok (.iload 12, 2) := by decide +kernel
theorem dL_holds_533 : decode cL_holds 533 = .ok (.if_icmp .ne 73, 3) := by decide +kernel
theorem dL_holds_536 : decode cL_holds 536 = .ok (.aload_n 0, 1) := by decide +kernel
theorem dL_holds_537 : decode cL_holds 537 = .ok (.iconst 2, 1) := by decide +kernel
theorem dL_holds_538 : decode cL_holds 538 = .ok (.iload 10, 2) := by decide +kernel
theorem dL_holds_540 : decode cL_holds 540 = .ok (.bipush 6, 2) := by decide +kernel
theorem dL_holds_542 : decode cL_holds 542 = .ok (.iconst 0, 1) := by decide +kernel
theorem dL_holds_543 : decode cL_holds 543 = .ok (.invokestatic 163, 3) := by decide +kernel
theorem dL_holds_546 : decode cL_holds 546 = .ok (.iload 13, 2) := by decide +kernel
theorem dL_holds_548 : decode cL_holds 548 = .ok (.if_icmp .ne 58, 3) := by decide +kernel
theorem dL_holds_551 : decode cL_holds 551 = .ok (.aload_n 0, 1) := by decide +kernel
theorem dL_holds_552 : decode cL_holds 552 = .ok (.iconst 2, 1) := by decide +kernel
theorem dL_holds_553 : decode cL_holds 553 = .ok (.iload 10, 2) := by decide +kernel
theorem dL_holds_555 : decode cL_holds 555 = .ok (.iconst 3, 1) := by decide +kernel
theorem dL_holds_556 : decode cL_holds 556 = .ok (.iconst 0, 1) := by decide +kernel
theorem dL_holds_557 : decode cL_holds 557 = .ok (.invokestatic 163, 3) := by decide +kernel
theorem dL_holds_560 : decode cL_holds 560 = .ok (.bipush 100, 2) := by decide +kernel
theorem dL_holds_562 : decode cL_holds 562 = .ok (.iload 13, 2) := by decide +kernel
theorem dL_holds_564 : decode cL_holds 564 = .ok (.imul, 1) := by decide +kernel
theorem dL_holds_565 : decode cL_holds 565 = .ok (.if_icmp .lt 41, 3) := by decide +kernel
theorem dL_holds_568 : decode cL_holds 568 = .ok (.aload_n 0, 1) := by decide +kernel
theorem dL_holds_569 : decode cL_holds 569 = .ok (.iconst 2, 1) := by decide +kernel
theorem dL_holds_570 : decode cL_holds 570 = .ok (.iload 10, 2) := by decide +kernel
theorem dL_holds_572 : decode cL_holds 572 = .ok (.iconst 4, 1) := by decide +kernel
theorem dL_holds_573 : decode cL_holds 573 = .ok (.iconst 0, 1) := by decide +kernel
theorem dL_holds_574 : decode cL_holds 574 = .ok (.invokestatic 163, 3) := by decide +kernel
theorem dL_holds_577 : decode cL_holds 577 = .ok (.iload 12, 2) := by decide +kernel
theorem dL_holds_579 : decode cL_holds 579 = .ok (.aload_n 0, 1) := by decide +kernel
theorem dL_holds_580 : decode cL_holds 580 = .ok (.iconst 2, 1) := by decide +kernel
theorem dL_holds_581 : decode cL_holds 581 = .ok (.iload 10, 2) := by decide +kernel
theorem dL_holds_583 : decode cL_holds 583 = .ok (.iconst 2, 1) := by decide +kernel
theorem dL_holds_584 : decode cL_holds 584 = .ok (.iconst 0, 1) := by decide +kernel
theorem dL_holds_585 : decode cL_holds 585 = .ok (.invokestatic 163, 3) := by decide +kernel
theorem dL_holds_588 : decode cL_holds 588 = .ok (.iadd, 1) := by decide +kernel
theorem dL_holds_589 : decode cL_holds 589 = .ok (.aload_n 0, 1) := by decide +kernel
theorem dL_holds_590 : decode cL_holds 590 = .ok (.iconst 2, 1) := by decide +kernel
theorem dL_holds_591 : decode cL_holds 591 = .ok (.iload 10, 2) := by decide +kernel
theorem dL_holds_593 : decode cL_holds 593 = .ok (.iconst 3, 1) := by decide +kernel
theorem dL_holds_594 : decode cL_holds 594 = .ok (.iconst 0, 1) := by decide +kernel
theorem dL_holds_595 : decode cL_holds 595 = .ok (.invokestatic 163, 3) := by decide +kernel
theorem dL_holds_598 : decode cL_holds 598 = .ok (.isub, 1) := by decide +kernel
theorem dL_holds_599 : decode cL_holds 599 = .ok (.if_icmp .ne 7, 3) := by decide +kernel
theorem dL_holds_602 : decode cL_holds 602 = .ok (.iconst 1, 1) := by decide +kernel
theorem dL_holds_603 : decode cL_holds 603 = .ok (.goto 4, 3) := by decide +kernel
theorem dL_holds_606 : decode cL_holds 606 = .ok (.iconst 0, 1) := by decide +kernel
theorem dL_holds_607 : decode cL_holds 607 = .ok (.istore 9, 2) := by decide +kernel
theorem dL_holds_609 : decode cL_holds 609 = .ok (.iinc 10 1, 3) := by decide +kernel
theorem dL_holds_612 : decode cL_holds 612 = .ok (.goto (-580), 3) := by decide +kernel
theorem dL_holds_615 : decode cL_holds 615 = .ok (.iconst 0, 1) := by decide +kernel
theorem dL_holds_616 : decode cL_holds 616 = .ok (.istore 10, 2) := by decide +kernel
theorem dL_holds_618 : decode cL_holds 618 = .ok (.iload 10, 2) := by decide +kernel
theorem dL_holds_620 : decode cL_holds 620 = .ok (.iload_n 2, 1) := by decide +kernel
theorem dL_holds_621 : decode cL_holds 621 = .ok (.if_icmp .ge 61, 3) := by decide +kernel
theorem dL_holds_624 : decode cL_holds 624 = .ok (.iload 9, 2) := by decide +kernel
theorem dL_holds_626 : decode cL_holds 626 = .ok (.ifCond .eq 56, 3) := by decide +kernel
theorem dL_holds_629 : decode cL_holds 629 = .ok (.aload_n 0, 1) := by decide +kernel
theorem dL_holds_630 : decode cL_holds 630 = .ok (.bipush 15, 2) := by decide +kernel
theorem dL_holds_632 : decode cL_holds 632 = .ok (.iload 10, 2) := by decide +kernel
theorem dL_holds_634 : decode cL_holds 634 = .ok (.iconst 0, 1) := by decide +kernel
theorem dL_holds_635 : decode cL_holds 635 = .ok (.iconst 0, 1) := by decide +kernel
theorem dL_holds_636 : decode cL_holds 636 = .ok (.invokestatic 163, 3) := by decide +kernel
theorem dL_holds_639 : decode cL_holds 639 = .ok (.istore 11, 2) := by decide +kernel
theorem dL_holds_641 : decode cL_holds 641 = .ok (.iload 11, 2) := by decide +kernel
theorem dL_holds_643 : decode cL_holds 643 = .ok (.ifCond .lt 30, 3) := by decide +kernel
theorem dL_holds_646 : decode cL_holds 646 = .ok (.iload 11, 2) := by decide +kernel
theorem dL_holds_648 : decode cL_holds 648 = .ok (.aload_n 0, 1) := by decide +kernel
theorem dL_holds_649 : decode cL_holds 649 = .ok (.iconst 2, 1) := by decide +kernel
theorem dL_holds_650 : decode cL_holds 650 = .ok (.iload_n 3, 1) := by decide +kernel
theorem dL_holds_651 : decode cL_holds 651 = .ok (.iconst 4, 1) := by decide +kernel
theorem dL_holds_652 : decode cL_holds 652 = .ok (.iconst 0, 1) := by decide +kernel
theorem dL_holds_653 : decode cL_holds 653 = .ok (.invokestatic 163, 3) := by decide +kernel
theorem dL_holds_656 : decode cL_holds 656 = .ok (.aload_n 0, 1) := by decide +kernel
theorem dL_holds_657 : decode cL_holds 657 = .ok (.iconst 2, 1) := by decide +kernel
theorem dL_holds_658 : decode cL_holds 658 = .ok (.iload 10, 2) := by decide +kernel
theorem dL_holds_660 : decode cL_holds 660 = .ok (.iconst 4, 1) := by decide +kernel
theorem dL_holds_661 : decode cL_holds 661 = .ok (.iconst 0, 1) := by decide +kernel
theorem dL_holds_662 : decode cL_holds 662 = .ok (.invokestatic 163, 3) := by decide +kernel
theorem dL_holds_665 : decode cL_holds 665 = .ok (.isub, 1) := by decide +kernel
theorem dL_holds_666 : decode cL_holds 666 = .ok (.if_icmp .ne 7, 3) := by decide +kernel
theorem dL_holds_669 : decode cL_holds 669 = .ok (.iconst 1, 1) := by decide +kernel
theorem dL_holds_670 : decode cL_holds 670 = .ok (.goto 4, 3) := by decide +kernel
theorem dL_holds_673 : decode cL_holds 673 = .ok (.iconst 0, 1) := by decide +kernel
theorem dL_holds_674 : decode cL_holds 674 = .ok (.istore 9, 2) := by decide +kernel
theorem dL_holds_676 : decode cL_holds 676 = .ok (.iinc 10 1, 3) := by decide +kernel
theorem dL_holds_679 : decode cL_holds 679 = .ok (.goto (-61), 3) := by decide +kernel
theorem dL_holds_682 : decode cL_holds 682 = .ok (.iload 9, 2) := by decide +kernel
theorem dL_holds_684 : decode cL_holds 684 = .ok (.ifCond .eq 81, 3) := by decide +kernel
theorem dL_holds_687 : decode cL_holds 687 = .ok (.iload 8, 2) := by decide +kernel
theorem dL_holds_689 : decode cL_holds 689 = .ok (.iconst 1, 1) := by decide +kernel
theorem dL_holds_690 : decode cL_holds 690 = .ok (.iload_n 2, 1) := by decide +kernel
theorem dL_holds_691 : decode cL_holds 691 = .ok (.ishl, 1) := by decide +kernel
theorem dL_holds_692 : decode cL_holds 692 = .ok (.iconst 1, 1) := by decide +kernel
theorem dL_holds_693 : decode cL_holds 693 = .ok (.isub, 1) := by decide +kernel
theorem dL_holds_694 : decode cL_holds 694 = .ok (.if_icmp .ne 71, 3) := by decide +kernel
theorem dL_holds_697 : decode cL_holds 697 = .ok (.aload_n 0, 1) := by decide +kernel
theorem dL_holds_698 : decode cL_holds 698 = .ok (.iconst 1, 1) := by decide +kernel
theorem dL_holds_699 : decode cL_holds 699 = .ok (.iconst 1, 1) := by decide +kernel
theorem dL_holds_700 : decode cL_holds 700 = .ok (.iconst 0, 1) := by decide +kernel
theorem dL_holds_701 : decode cL_holds 701 = .ok (.iconst 0, 1) := by decide +kernel
theorem dL_holds_702 : decode cL_holds 702 = .ok (.invokestatic 163, 3) := by decide +kernel
theorem dL_holds_705 : decode cL_holds 705 = .ok (.iload 4, 2) := by decide +kernel
theorem dL_holds_707 : decode cL_holds 707 = .ok (.if_icmp .ne 58, 3) := by decide +kernel
theorem dL_holds_710 : decode cL_holds 710 = .ok (.aload_n 0, 1) := by decide +kernel
theorem dL_holds_711 : decode cL_holds 711 = .ok (.iconst 1, 1) := by decide +kernel
theorem dL_holds_712 : decode cL_holds 712 = .ok (.iconst 2, 1) := by decide +kernel
theorem dL_holds_713 : decode cL_holds 713 = .ok (.iconst 0, 1) := by decide +kernel
theorem dL_holds_714 : decode cL_holds 714 = .ok (.iconst 0, 1) := by decide +kernel
theorem dL_holds_715 : decode cL_holds 715 = .ok (.invokestatic 163, 3) := by decide +kernel
theorem dL_holds_718 : decode cL_holds 718 = .ok (.iload 5, 2) := by decide +kernel
theorem dL_holds_720 : decode cL_holds 720 = .ok (.if_icmp .ne 45, 3) := by decide +kernel
theorem dL_holds_723 : decode cL_holds 723 = .ok (.aload_n 0, 1) := by decide +kernel
theorem dL_holds_724 : decode cL_holds 724 = .ok (.iconst 1, 1) := by decide +kernel
theorem dL_holds_725 : decode cL_holds 725 = .ok (.iconst 3, 1) := by decide +kernel
theorem dL_holds_726 : decode cL_holds 726 = .ok (.iconst 0, 1) := by decide +kernel
theorem dL_holds_727 : decode cL_holds 727 = .ok (.iconst 0, 1) := by decide +kernel
theorem dL_holds_728 : decode cL_holds 728 = .ok (.invokestatic 163, 3) := by decide +kernel
theorem dL_holds_731 : decode cL_holds 731 = .ok (.iload 6, 2) := by decide +kernel
theorem dL_holds_733 : decode cL_holds 733 = .ok (.if_icmp .ne 32, 3) := by decide +kernel
theorem dL_holds_736 : decode cL_holds 736 = .ok (.aload_n 0, 1) := by decide +kernel
theorem dL_holds_737 : decode cL_holds 737 = .ok (.iconst 1, 1) := by decide +kernel
theorem dL_holds_738 : decode cL_holds 738 = .ok (.iconst 4, 1) := by decide +kernel
theorem dL_holds_739 : decode cL_holds 739 = .ok (.iconst 0, 1) := by decide +kernel
theorem dL_holds_740 : decode cL_holds 740 = .ok (.iconst 0, 1) := by decide +kernel
theorem dL_holds_741 : decode cL_holds 741 = .ok (.invokestatic 163, 3) := by decide +kernel
theorem dL_holds_744 : decode cL_holds 744 = .ok (.iload_n 3, 1) := by decide +kernel
theorem dL_holds_745 : decode cL_holds 745 = .ok (.if_icmp .ne 20, 3) := by decide +kernel
theorem dL_holds_748 : decode cL_holds 748 = .ok (.aload_n 0, 1) := by decide +kernel
theorem dL_holds_749 : decode cL_holds 749 = .ok (.iconst 1, 1) := by decide +kernel
theorem dL_holds_750 : decode cL_holds 750 = .ok (.iconst 5, 1) := by decide +kernel
theorem dL_holds_751 : decode cL_holds 751 = .ok (.iconst 0, 1) := by decide +kernel
theorem dL_holds_752 : decode cL_holds 752 = .ok (.iconst 0, 1) := by decide +kernel
theorem dL_holds_753 : decode cL_holds 753 = .ok (.invokestatic 163, 3) := by decide +kernel
theorem dL_holds_756 : decode cL_holds 756 = .ok (.iload 7, 2) := by decide +kernel
theorem dL_holds_758 : decode cL_holds 758 = .ok (.if_icmp .ne 7, 3) := by decide +kernel
theorem dL_holds_761 : decode cL_holds 761 = .ok (.iconst 1, 1) := by decide +kernel
theorem dL_holds_762 : decode cL_holds 762 = .ok (.goto 4, 3) := by decide +kernel
theorem dL_holds_765 : decode cL_holds 765 = .ok (.iconst 0, 1) := by decide +kernel
theorem dL_holds_766 : decode cL_holds 766 = .ok (.istore 9, 2) := by decide +kernel
theorem dL_holds_768 : decode cL_holds 768 = .ok (.iload_n 2, 1) := by decide +kernel
theorem dL_holds_769 : decode cL_holds 769 = .ok (.ifCond .eq 8, 3) := by decide +kernel
theorem dL_holds_772 : decode cL_holds 772 = .ok (.iload 9, 2) := by decide +kernel
theorem dL_holds_774 : decode cL_holds 774 = .ok (.ifCond .ne 6, 3) := by decide +kernel
theorem dL_holds_777 : decode cL_holds 777 = .ok (.iload 9, 2) := by decide +kernel
theorem dL_holds_779 : decode cL_holds 779 = .ok (.ireturn, 1) := by decide +kernel
theorem dL_holds_780 : decode cL_holds 780 = .ok (.iload_n 1, 1) := by decide +kernel
theorem dL_holds_781 : decode cL_holds 781 = .ok (.iload_n 2, 1) := by decide +kernel
theorem dL_holds_782 : decode cL_holds 782 = .ok (.irem, 1) := by decide +kernel
theorem dL_holds_783 : decode cL_holds 783 = .ok (.istore 10, 2) := by decide +kernel
theorem dL_holds_785 : decode cL_holds 785 = .ok (.aload_n 0, 1) := by decide +kernel
theorem dL_holds_786 : decode cL_holds 786 = .ok (.iconst 2, 1) := by decide +kernel
theorem dL_holds_787 : decode cL_holds 787 = .ok (.iload 10, 2) := by decide +kernel
theorem dL_holds_789 : decode cL_holds 789 = .ok (.iconst 0, 1) := by decide +kernel
theorem dL_holds_790 : decode cL_holds 790 = .ok (.iconst 0, 1) := by decide +kernel
theorem dL_holds_791 : decode cL_holds 791 = .ok (.invokestatic 163, 3) := by decide +kernel
theorem dL_holds_794 : decode cL_holds 794 = .ok (.istore 11, 2) := by decide +kernel
theorem dL_holds_796 : decode cL_holds 796 = .ok (.aload_n 0, 1) := by decide +kernel
theorem dL_holds_797 : decode cL_holds 797 = .ok (.bipush 13, 2) := by decide +kernel
theorem dL_holds_799 : decode cL_holds 799 = .ok (.iload 10, 2) := by decide +kernel
theorem dL_holds_801 : decode cL_holds 801 = .ok (.iconst 1, 1) := by decide +kernel
theorem dL_holds_802 : decode cL_holds 802 = .ok (.iconst 0, 1) := by decide +kernel
theorem dL_holds_803 : decode cL_holds 803 = .ok (.invokestatic 163, 3) := by decide +kernel
theorem dL_holds_806 : decode cL_holds 806 = .ok (.istore 12, 2) := by decide +kernel
theorem dL_holds_808 : decode cL_holds 808 = .ok (.aload_n 0, 1) := by decide +kernel
theorem dL_holds_809 : decode cL_holds 809 = .ok (.bipush 13, 2) := by decide +kernel
theorem dL_holds_811 : decode cL_holds 811 = .ok (.iload 10, 2) := by decide +kernel
theorem dL_holds_813 : decode cL_holds 813 = .ok (.iconst 2, 1) := by decide +kernel
theorem dL_holds_814 : decode cL_holds 814 = .ok (.iconst 0, 1) := by decide +kernel
theorem dL_holds_815 : decode cL_holds 815 = .ok (.invokestatic 163, 3) := by decide +kernel
theorem dL_holds_818 : decode cL_holds 818 = .ok (.istore 13, 2) := by decide +kernel
theorem dL_holds_820 : decode cL_holds 820 = .ok (.iload 11, 2) := by decide +kernel
theorem dL_holds_822 : decode cL_holds 822 = .ok (.iconst 2, 1) := by decide +kernel
theorem dL_holds_823 : decode cL_holds 823 = .ok (.if_icmp .ge 37, 3) := by decide +kernel
theorem dL_holds_826 : decode cL_holds 826 = .ok (.iload 12, 2) := by decide +kernel
theorem dL_holds_828 : decode cL_holds 828 = .ok (.iconst (-1), 1) := by decide +kernel
theorem dL_holds_829 : decode cL_holds 829 = .ok (.if_icmp .ne 27, 3) := by decide +kernel
theorem dL_holds_832 : decode cL_holds 832 = .ok (.iload 13, 2) := by decide +kernel
theorem dL_holds_834 : decode cL_holds 834 = .ok (.iconst (-1), 1) := by decide +kernel
theorem dL_holds_835 : decode cL_holds 835 = .ok (.if_icmp .ne 21, 3) := by decide +kernel
theorem dL_holds_838 : decode cL_holds 838 = .ok (.aload_n 0, 1) := by decide +kernel
theorem dL_holds_839 : decode cL_holds 839 = .ok (.bipush 13, 2) := by decide +kernel
theorem dL_holds_841 : decode cL_holds 841 = .ok (.iload 10, 2) := by decide +kernel
theorem dL_holds_843 : decode cL_holds 843 = .ok (.iconst 0, 1) := by decide +kernel
theorem dL_holds_844 : decode cL_holds 844 = .ok (.iconst 0, 1) := by decide +kernel
theorem dL_holds_845 : decode cL_holds 845 = .ok (.invokestatic 163, 3) := by decide +kernel
theorem dL_holds_848 : decode cL_holds 848 = .ok (.iconst (-1), 1) := by decide +kernel
theorem dL_holds_849 : decode cL_holds 849 = .ok (.if_icmp .ne 7, 3) := by decide +kernel
theorem dL_holds_852 : decode cL_holds 852 = .ok (.iconst 1, 1) := by decide +kernel
theorem dL_holds_853 : decode cL_holds 853 = .ok (.goto 31, 3) := by decide +kernel
theorem dL_holds_856 : decode cL_holds 856 = .ok (.iconst 0, 1) := by decide +kernel
theorem dL_holds_857 : decode cL_holds 857 = .ok (.goto 27, 3) := by decide +kernel
theorem dL_holds_860 : decode cL_holds 860 = .ok (.iload 12, 2) := by decide +kernel
theorem dL_holds_862 : decode cL_holds 862 = .ok (.ifCond .lt 21, 3) := by decide +kernel
theorem dL_holds_865 : decode cL_holds 865 = .ok (.iload 12, 2) := by decide +kernel
theorem dL_holds_867 : decode cL_holds 867 = .ok (.iload 13, 2) := by decide +kernel
theorem dL_holds_869 : decode cL_holds 869 = .ok (.if_icmp .ge 14, 3) := by decide +kernel
theorem dL_holds_872 : decode cL_holds 872 = .ok (.iload 13, 2) := by decide +kernel
theorem dL_holds_874 : decode cL_holds 874 = .ok (.iload 11, 2) := by decide +kernel
theorem dL_holds_876 : decode cL_holds 876 = .ok (.if_icmp .ge 7, 3) := by decide +kernel
theorem dL_holds_879 : decode cL_holds 879 = .ok (.iconst 1, 1) := by decide +kernel
theorem dL_holds_880 : decode cL_holds 880 = .ok (.goto 4, 3) := by decide +kernel
theorem dL_holds_883 : decode cL_holds 883 = .ok (.iconst 0, 1) := by decide +kernel
theorem dL_holds_884 : decode cL_holds 884 = .ok (.istore 9, 2) := by decide +kernel
theorem dL_holds_886 : decode cL_holds 886 = .ok (.iload 11, 2) := by decide +kernel
theorem dL_holds_888 : decode cL_holds 888 = .ok (.ifCond .eq 8, 3) := by decide +kernel
theorem dL_holds_891 : decode cL_holds 891 = .ok (.iload 9, 2) := by decide +kernel
theorem dL_holds_893 : decode cL_holds 893 = .ok (.ifCond .ne 6, 3) := by decide +kernel
theorem dL_holds_896 : decode cL_holds 896 = .ok (.iload 9, 2) := by decide +kernel
theorem dL_holds_898 : decode cL_holds 898 = .ok (.ireturn, 1) := by decide +kernel
theorem dL_holds_899 : decode cL_holds 899 = .ok (.iload_n 1, 1) := by decide +kernel
theorem dL_holds_900 : decode cL_holds 900 = .ok (.iconst 4, 1) := by decide +kernel
theorem dL_holds_901 : decode cL_holds 901 = .ok (.idiv, 1) := by decide +kernel
theorem dL_holds_902 : decode cL_holds 902 = .ok (.iload 11, 2) := by decide +kernel
theorem dL_holds_904 : decode cL_holds 904 = .ok (.irem, 1) := by decide +kernel
theorem dL_holds_905 : decode cL_holds 905 = .ok (.istore 14, 2) := by decide +kernel
theorem dL_holds_907 : decode cL_holds 907 = .ok (.aload_n 0, 1) := by decide +kernel
theorem dL_holds_908 : decode cL_holds 908 = .ok (.bipush 14, 2) := by decide +kernel
theorem dL_holds_910 : decode cL_holds 910 = .ok (.iload 10, 2) := by decide +kernel
theorem dL_holds_912 : decode cL_holds 912 = .ok (.iload 14, 2) := by decide +kernel
theorem dL_holds_914 : decode cL_holds 914 = .ok (.iconst 0, 1) := by decide +kernel
theorem dL_holds_915 : decode cL_holds 915 = .ok (.invokestatic 163, 3) := by decide +kernel
theorem dL_holds_918 : decode cL_holds 918 = .ok (.istore 15, 2) := by decide +kernel
theorem dL_holds_920 : decode cL_holds 920 = .ok (.bipush 100, 2) := by decide +kernel
theorem dL_holds_922 : decode cL_holds 922 = .ok (.aload_n 0, 1) := by decide +kernel
theorem dL_holds_923 : decode cL_holds 923 = .ok (.iconst 3, 1) := by decide +kernel
theorem dL_holds_924 : decode cL_holds 924 = .ok (.iload 10, 2) := by decide +kernel
theorem dL_holds_926 : decode cL_holds 926 = .ok (.iload 14, 2) := by decide +kernel
theorem dL_holds_928 : decode cL_holds 928 = .ok (.iconst 3, 1) := by decide +kernel
theorem dL_holds_929 : decode cL_holds 929 = .ok (.invokestatic 163, 3) := by decide +kernel
theorem dL_holds_932 : decode cL_holds 932 = .ok (.iadd, 1) := by decide +kernel
theorem dL_holds_933 : decode cL_holds 933 = .ok (.istore 16, 2) := by decide +kernel
theorem dL_holds_935 : decode cL_holds 935 = .ok (.iload 15, 2) := by decide +kernel
theorem dL_holds_937 : decode cL_holds 937 = .ok (.iconst (-1), 1) := by decide +kernel
theorem dL_holds_938 : decode cL_holds 938 = .ok (.if_icmp .ne 23, 3) := by decide +kernel
theorem dL_holds_941 : decode cL_holds 941 = .ok (.aload_n 0, 1) := by decide +kernel
theorem dL_holds_942 : decode cL_holds 942 = .ok (.iconst 2, 1) := by decide +kernel
theorem dL_holds_943 : decode cL_holds 943 = .ok (.iload 10, 2) := by decide +kernel
theorem dL_holds_945 : decode cL_holds 945 = .ok (.iconst 5, 1) := by decide +kernel
theorem dL_holds_946 : decode cL_holds 946 = .ok (.iconst 0, 1) := by decide +kernel
theorem dL_holds_947 : decode cL_holds 947 = .ok (.invokestatic 163, 3) := by decide +kernel
theorem dL_holds_950 : decode cL_holds 950 = .ok (.ifCond .le 7, 3) := by decide +kernel
theorem dL_holds_953 : decode cL_holds 953 = .ok (.iconst 1, 1) := by decide +kernel
theorem dL_holds_954 : decode cL_holds 954 = .ok (.goto 58, 3) := by decide +kernel
theorem dL_holds_957 : decode cL_holds 957 = .ok (.iconst 0, 1) := by decide +kernel
theorem dL_holds_958 : decode cL_holds 958 = .ok (.goto 54, 3) := by decide +kernel
theorem dL_holds_961 : decode cL_holds 961 = .ok (.iload 15, 2) := by decide +kernel
theorem dL_holds_963 : decode cL_holds 963 = .ok (.bipush 85, 2) := by decide +kernel
theorem dL_holds_965 : decode cL_holds 965 = .ok (.if_icmp .lt 46, 3) := by decide +kernel
theorem dL_holds_968 : decode cL_holds 968 = .ok (.iload 15, 2) := by decide +kernel
theorem dL_holds_970 : decode cL_holds 970 = .ok (.bipush 115, 2) := by decide +kernel
theorem dL_holds_972 : decode cL_holds 972 = .ok (.if_icmp .gt 39, 3) := by decide +kernel
theorem dL_holds_975 : decode cL_holds 975 = .ok (.aload_n 0, 1) := by decide +kernel
theorem dL_holds_976 : decode cL_holds 976 = .ok (.iconst 2, 1) := by decide +kernel
theorem dL_holds_977 : decode cL_holds 977 = .ok (.iload 10, 2) := by decide +kernel
theorem dL_holds_979 : decode cL_holds 979 = .ok (.iconst 5, 1) := by decide +kernel
theorem dL_holds_980 : decode cL_holds 980 = .ok (.iconst 0, 1) := by decide +kernel
theorem dL_holds_981 : decode cL_holds 981 = .ok (.invokestatic 163, 3) := by decide +kernel
theorem dL_holds_984 : decode cL_holds 984 = .ok (.ifCond .ne 7, 3) := by decide +kernel
theorem dL_holds_987 : decode cL_holds 987 = .ok (.iconst 1, 1) := by decide +kernel
theorem dL_holds_988 : decode cL_holds 988 = .ok (.goto 4, 3) := by decide +kernel
theorem dL_holds_991 : decode cL_holds 991 = .ok (.iconst 0, 1) := by decide +kernel
theorem dL_holds_992 : decode cL_holds 992 = .ok (.iload 15, 2) := by decide +kernel
theorem dL_holds_994 : decode cL_holds 994 = .ok (.iload 16, 2) := by decide +kernel
theorem dL_holds_996 : decode cL_holds 996 = .ok (.if_icmp .gt 7, 3) := by decide +kernel
theorem dL_holds_999 : decode cL_holds 999 = .ok (.iconst 1, 1) := by decide +kernel
theorem dL_holds_1000 : decode cL_holds 1000 = .ok (.goto 4, 3) := by decide +kernel
theorem dL_holds_1003 : decode cL_holds 1003 = .ok (.iconst 0, 1) := by decide +kernel
theorem dL_holds_1004 : decode cL_holds 1004 = .ok (.if_icmp .ne 7, 3) := by decide +kernel
theorem dL_holds_1007 : decode cL_holds 1007 = .ok (.iconst 1, 1) := by decide +kernel
theorem dL_holds_1008 : decode cL_holds 1008 = .ok (.goto 4, 3) := by decide +kernel
theorem dL_holds_1011 : decode cL_holds 1011 = .ok (.iconst 0, 1) := by decide +kernel
theorem dL_holds_1012 : decode cL_holds 1012 = .ok (.ireturn, 1) := by decide +kernel
theorem dL_type_0 : decode cL_type 0 = .ok (.aload_n 0, 1) := by decide +kernel
theorem dL_type_1 : decode cL_type 1 = .ok (.invokevirtual 193, 3) := by decide +kernel
theorem dL_type_4 : decode cL_type 4 = .ok (.ifCond .lt 7, 3) := by decide +kernel
theorem dL_type_7 : decode cL_type 7 = .ok (.iconst 1, 1) := by decide +kernel
theorem dL_type_8 : decode cL_type 8 = .ok (.goto 4, 3) := by decide +kernel
theorem dL_type_11 : decode cL_type 11 = .ok (.iconst 0, 1) := by decide +kernel
theorem dL_type_12 : decode cL_type 12 = .ok (.istore_n 2, 1) := by decide +kernel
theorem dL_type_13 : decode cL_type 13 = .ok (.iload_n 1, 1) := by decide +kernel
theorem dL_type_14 : decode cL_type 14 = .ok (.istore_n 3, 1) := by decide +kernel
theorem dL_type_15 : decode cL_type 15 = .ok (.iconst 0, 1) := by decide +kernel
theorem dL_type_16 : decode cL_type 16 = .ok (.istore 4, 2) := by decide +kernel
theorem dL_type_18 : decode cL_type 18 = .ok (.iload 4, 2) := by decide +kernel
theorem dL_type_20 : decode cL_type 20 = .ok (.iconst 5, 1) := by decide +kernel
theorem dL_type_21 : decode cL_type 21 = .ok (.if_icmp .ge 257, 3) := by decide +kernel
theorem dL_type_24 : decode cL_type 24 = .ok (.iload_n 2, 1) := by decide +kernel
theorem dL_type_25 : decode cL_type 25 = .ok (.ifCond .eq 253, 3) := by decide +kernel
theorem dL_type_28 : decode cL_type 28 = .ok (.iload_n 3, 1) := by decide +kernel
theorem dL_type_29 : decode cL_type 29 = .ok (.bipush 8, 2) := by decide +kernel
theorem dL_type_31 : decode cL_type 31 = .ok (.irem, 1) := by decide +kernel
theorem dL_type_32 : decode cL_type 32 = .ok (.istore 5, 2) := by decide +kernel
theorem dL_type_34 : decode cL_type 34 = .ok (.iload_n 3, 1) := by decide +kernel
theorem dL_type_35 : decode cL_type 35 = .ok (.bipush 8, 2) := by decide +kernel
theorem dL_type_37 : decode cL_type 37 = .ok (.idiv, 1) := by decide +kernel
theorem dL_type_38 : decode cL_type 38 = .ok (.bipush 6, 2) := by decide +kernel
theorem dL_type_40 : decode cL_type 40 = .ok (.irem, 1) := by decide +kernel
theorem dL_type_41 : decode cL_type 41 = .ok (.istore 6, 2) := by decide +kernel
theorem dL_type_43 : decode cL_type 43 = .ok (.iconst 1, 1) := by decide +kernel
theorem dL_type_44 : decode cL_type 44 = .ok (.iload_n 3, 1) := by decide +kernel
theorem dL_type_45 : decode cL_type 45 = .ok (.bipush 48, 2) := by decide +kernel
theorem dL_type_47 : decode cL_type 47 = .ok (.idiv, 1) := by decide +kernel
theorem dL_type_48 : decode cL_type 48 = .ok (.iconst 4, 1) := by decide +kernel
theorem dL_type_49 : decode cL_type 49 = .ok (.irem, 1) := by decide +kernel
theorem dL_type_50 : decode cL_type 50 = .ok (.iadd, 1) := by decide +kernel
theorem dL_type_51 : decode cL_type 51 = .ok (.istore 7, 2) := by decide +kernel
theorem dL_type_53 : decode cL_type 53 = .ok (.iload_n 3, 1) := by decide +kernel
theorem dL_type_54 : decode cL_type 54 = .ok (.iconst 3, 1) := by decide +kernel
theorem dL_type_55 : decode cL_type 55 = .ok (.idiv, 1) := by decide +kernel
theorem dL_type_56 : decode cL_type 56 = .ok (.bipush 7, 2) := by decide +kernel
theorem dL_type_58 : decode cL_type 58 = .ok (.iload 4, 2) := by decide +kernel
theorem dL_type_60 : decode cL_type 60 = .ok (.imul, 1) := by decide +kernel
theorem dL_type_61 : decode cL_type 61 = .ok (.iadd, 1) := by decide +kernel
theorem dL_type_62 : decode cL_type 62 = .ok (.istore_n 3, 1) := by decide +kernel
theorem dL_type_63 : decode cL_type 63 = .ok (.iload 4, 2) := by decide +kernel
theorem dL_type_65 : decode cL_type 65 = .ok (.ifCond .eq 26, 3) := by decide +kernel
theorem dL_type_68 : decode cL_type 68 = .ok (.aload_n 0, 1) := by decide +kernel
theorem dL_type_69 : decode cL_type 69 = .ok (.iconst 0, 1) := by decide +kernel
theorem dL_type_70 : decode cL_type 70 = .ok (.iload 5, 2) := by decide +kernel
theorem dL_type_72 : decode cL_type 72 = .ok (.iconst 3, 1) := by decide +kernel
theorem dL_type_73 : decode cL_type 73 = .ok (.if_icmp .ge 8, 3) := by decide +kernel
theorem dL_type_76 : decode cL_type 76 = .ok (.bipush 43, 2) := by decide +kernel
theorem dL_type_78 : decode cL_type 78 = .ok (.goto 5, 3) := by decide +kernel
theorem dL_type_81 : decode cL_type 81 = .ok (.bipush 59, 2) := by decide +kernel
theorem dL_type_83 : decode cL_type 83 = .ok (.iconst 0, 1) := by decide +kernel
theorem dL_type_84 : decode cL_type 84 = .ok (.iconst 0, 1) := by decide +kernel
theorem dL_type_85 : decode cL_type 85 = .ok (.invokestatic 163, 3) := by decide +kernel
theorem dL_type_88 : decode cL_type 88 = .ok (.ifCond .le 7, 3) := by decide +kernel
theorem dL_type_91 : decode cL_type 91 = .ok (.iconst 1, 1) := by decide +kernel
theorem dL_type_92 : decode cL_type 92 = .ok (.goto 4, 3) := by decide +kernel
theorem dL_type_95 : decode cL_type 95 = .ok (.iconst 0, 1) := by decide +kernel
theorem dL_type_96 : decode cL_type 96 = .ok (.istore_n 2, 1) := by decide +kernel
theorem dL_type_97 : decode cL_type 97 = .ok (.iload 5, 2) := by decide +kernel
theorem dL_type_99 : decode cL_type 99 = .ok (.bipush 7, 2) := by decide +kernel
theorem dL_type_101 : decode cL_type 101 = .ok (.if_icmp .eq 10, 3) := by decide +kernel
theorem dL_type_104 : decode cL_type 104 = .ok (.iload 5, 2) := by decide +kernel
theorem dL_type_106 : decode cL_type 106 = .ok (.bipush 6, 2) := by decide +kernel
theorem dL_type_108 : decode cL_type 108 = .ok (.if_icmp .ne 55, 3) := by decide +kernel
theorem dL_type_111 : decode cL_type 111 = .ok (.iload_n 2, 1) := by decide +kernel
theorem dL_type_112 : decode cL_type 112 = .ok (.ifCond .eq 46, 3) := by decide +kernel
theorem dL_type_115 : decode cL_type 115 = .ok (.aload_n 0, 1) := by decide +kernel
theorem dL_type_116 : decode cL_type 116 = .ok (.iconst 0, 1) := by decide +kernel
theorem dL_type_117 : decode cL_type 117 = .ok (.iload 5, 2) := by decide +kernel
theorem dL_type_119 : decode cL_type 119 = .ok (.bipush 7, 2) := by decide +kernel
theorem dL_type_121 : decode cL_type 121 = .ok (.if_icmp .ne 8, 3) := by decide +kernel
theorem dL_type_124 : decode cL_type 124 = .ok (.bipush 112, 2) := by decide +kernel
theorem dL_type_126 : decode cL_type 126 = .ok (.goto 5, 3) := by decide +kernel
theorem dL_type_129 : decode cL_type 129 = .ok (.bipush 115, 2) := by decide +kernel
theorem dL_type_131 : decode cL_type 131 = .ok (.iconst 0, 1) := by decide +kernel
theorem dL_type_132 : decode cL_type 132 = .ok (.iconst 0, 1) := by decide +kernel
theorem dL_type_133 : decode cL_type 133 = .ok (.invokestatic 163, 3) := by decide +kernel
theorem dL_type_136 : decode cL_type 136 = .ok (.ifCond .le 22, 3) := by decide +kernel
theorem dL_type_139 : decode cL_type 139 = .ok (.aload_n 0, 1) := by decide +kernel
theorem dL_type_140 : decode cL_type 140 = .ok (.iconst 0, 1) := by decide +kernel
theorem dL_type_141 : decode cL_type 141 = .ok (.bipush 48, 2) := by decide +kernel
theorem dL_type_143 : decode cL_type 143 = .ok (.iload 7, 2) := by decide +kernel
theorem dL_type_145 : decode cL_type 145 = .ok (.iadd, 1) := by decide +kernel
theorem dL_type_146 : decode cL_type 146 = .ok (.iconst 0, 1) := by decide +kernel
theorem dL_type_147 : decode cL_type 147 = .ok (.iconst 0, 1) := by decide +kernel
theorem dL_type_148 : decode cL_type 148 = .ok (.invokestatic 163, 3) := by decide +kernel
theorem dL_type_151 : decode cL_type 151 = .ok (.ifCond .le 7, 3) := by decide +kernel
theorem dL_type_154 : decode cL_type 154 = .ok (.iconst 1, 1) := by decide +kernel
theorem dL_type_155 : decode cL_type 155 = .ok (.goto 4, 3) := by decide +kernel
theorem dL_type_158 : decode cL_type 158 = .ok (.iconst 0, 1) := by decide +kernel
theorem dL_type_159 : decode cL_type 159 = .ok (.istore_n 2, 1) := by decide +kernel
theorem dL_type_160 : decode cL_type 160 = .ok (.goto 112, 3) := by decide +kernel
theorem dL_type_163 : decode cL_type 163 = .ok (.iload_n 2, 1) := by decide +kernel
theorem dL_type_164 : decode cL_type 164 = .ok (.ifCond .eq 106, 3) := by decide +kernel
theorem dL_type_167 : decode cL_type 167 = .ok (.aload_n 0, 1) := by decide +kernel
theorem dL_type_168 : decode cL_type 168 = .ok (.iconst 0, 1) := by decide +kernel
theorem dL_type_169 : decode cL_type 169 = .ok (.bipush 48, 2) := by decide +kernel
theorem dL_type_171 : decode cL_type 171 = .ok (.iload 7, 2) := by decide +kernel
theorem dL_type_173 : decode cL_type 173 = .ok (.iadd, 1) := by decide +kernel
theorem dL_type_174 : decode cL_type 174 = .ok (.iconst 0, 1) := by decide +kernel
theorem dL_type_175 : decode cL_type 175 = .ok (.iconst 0, 1) := by decide +kernel
theorem dL_type_176 : decode cL_type 176 = .ok (.invokestatic 163, 3) := by decide +kernel
theorem dL_type_179 : decode cL_type 179 = .ok (.ifCond .le 91, 3) := by decide +kernel
theorem dL_type_182 : decode cL_type 182 = .ok (.aload_n 0, 1) := by decide +kernel
theorem dL_type_183 : decode cL_type 183 = .ok (.iconst 0, 1) := by decide +kernel
theorem dL_type_184 : decode cL_type 184 = .ok (.iload 6, 2) := by decide +kernel
theorem dL_type_186 : decode cL_type 186 = .ok (.ifCond .ne 8, 3) := by decide +kernel
theorem dL_type_189 : decode cL_type 189 = .ok (.bipush 84, 2) := by decide +kernel
theorem dL_type_191 : decode cL_type 191 = .ok (.goto 49, 3) := by decide +kernel
theorem dL_type_194 : decode cL_type 194 = .ok (.iload 6, 2) := by decide +kernel
theorem dL_type_196 : decode cL_type 196 = .ok (.iconst 1, 1) := by decide +kernel
theorem dL_type_197 : decode cL_type 197 = .ok (.if_icmp .ne 8, 3) := by decide +kernel
theorem dL_type_200 : decode cL_type 200 = .ok (.bipush 83, 2) := by decide +kernel
theorem dL_type_202 : decode cL_type 202 = .ok (.goto 38, 3) := by decide +kernel
theorem dL_type_205 : decode cL_type 205 = .ok (.iload 6, 2) := by decide +kernel
theorem dL_type_207 : decode cL_type 207 = .ok (.iconst 2, 1) := by decide +kernel
theorem dL_type_208 : decode cL_type 208 = .ok (.if_icmp .ne 8, 3) := by decide +kernel
theorem dL_type_211 : decode cL_type 211 = .ok (.bipush 79, 2) := by decide +kernel
theorem dL_type_213 : decode cL_type 213 = .ok (.goto 27, 3) := by decide +kernel
theorem dL_type_216 : decode cL_type 216 = .ok (.iload 6, 2) := by decide +kernel
theorem dL_type_218 : decode cL_type 218 = .ok (.iconst 3, 1) := by decide +kernel
theorem dL_type_219 : decode cL_type 219 = .ok (.if_icmp .ne 8, 3) := by decide +kernel
theorem dL_type_222 : decode cL_type 222 = .ok (.bipush 70, 2) := by decide +kernel
theorem dL_type_224 : decode cL_type 224 = .ok (.goto 16, 3) := by decide +kernel
theorem dL_type_227 : decode cL_type 227 = .ok (.iload 6, 2) := by decide +kernel
theorem dL_type_229 : decode cL_type 229 = .ok (.iconst 4, 1) := by decide +kernel
theorem dL_type_230 : decode cL_type 230 = .ok (.if_icmp .ne 8, 3) := by decide +kernel
theorem dL_type_233 : decode cL_type 233 = .ok (.bipush 90, 2) := by decide +kernel
theorem dL_type_235 : decode cL_type 235 = .ok (.goto 5, 3) := by decide +kernel
theorem dL_type_238 : decode cL_type 238 = .ok (.bipush 65, 2) := by decide +kernel
theorem dL_type_240 : decode cL_type 240 = .ok (.iconst 0, 1) := by decide +kernel
theorem dL_type_241 : decode cL_type 241 = .ok (.iconst 0, 1) := by decide +kernel
theorem dL_type_242 : decode cL_type 242 = .ok (.invokestatic 163, 3) := by decide +kernel
theorem dL_type_245 : decode cL_type 245 = .ok (.ifCond .le 25, 3) := by decide +kernel
theorem dL_type_248 : decode cL_type 248 = .ok (.iload 5, 2) := by decide +kernel
theorem dL_type_250 : decode cL_type 250 = .ok (.iconst 5, 1) := by decide +kernel
theorem dL_type_251 : decode cL_type 251 = .ok (.if_icmp .ne 15, 3) := by decide +kernel
theorem dL_type_254 : decode cL_type 254 = .ok (.aload_n 0, 1) := by decide +kernel
theorem dL_type_255 : decode cL_type 255 = .ok (.iconst 0, 1) := by decide +kernel
theorem dL_type_256 : decode cL_type 256 = .ok (.bipush 60, 2) := by decide +kernel
theorem dL_type_258 : decode cL_type 258 = .ok (.iconst 0, 1) := by decide +kernel
theorem dL_type_259 : decode cL_type 259 = .ok (.iconst 0, 1) := by decide +kernel
theorem dL_type_260 : decode cL_type 260 = .ok (.invokestatic 163, 3) := by decide +kernel
theorem dL_type_263 : decode cL_type 263 = .ok (.ifCond .le 7, 3) := by decide +kernel
theorem dL_type_266 : decode cL_type 266 = .ok (.iconst 1, 1) := by decide +kernel
theorem dL_type_267 : decode cL_type 267 = .ok (.goto 4, 3) := by decide +kernel
theorem dL_type_270 : decode cL_type 270 = .ok (.iconst 0, 1) := by decide +kernel
theorem dL_type_271 : decode cL_type 271 = .ok (.istore_n 2, 1) := by decide +kernel
theorem dL_type_272 : decode cL_type 272 = .ok (.iinc 4 1, 3) := by decide +kernel
theorem dL_type_275 : decode cL_type 275 = .ok (.goto (-257), 3) := by decide +kernel
theorem dL_type_278 : decode cL_type 278 = .ok (.iload_n 2, 1) := by decide +kernel
theorem dL_type_279 : decode cL_type 279 = .ok (.ireturn, 1) := by decide +kernel
theorem dL_act_0 : decode cL_act 0 = .ok (.iload_n 1, 1) := by decide +kernel
theorem dL_act_1 : decode cL_act 1 = .ok (.bipush 16, 2) := by decide +kernel
theorem dL_act_3 : decode cL_act 3 = .ok (.idiv, 1) := by decide +kernel
theorem dL_act_4 : decode cL_act 4 = .ok (.iconst 4, 1) := by decide +kernel
theorem dL_act_5 : decode cL_act 5 = .ok (.irem, 1) := by decide +kernel
theorem dL_act_6 : decode cL_act 6 = .ok (.istore_n 2, 1) := by decide +kernel
theorem dL_act_7 : decode cL_act 7 = .ok (.iload_n 1, 1) := by decide +kernel
theorem dL_act_8 : decode cL_act 8 = .ok (.bipush 64, 2) := by decide +kernel
theorem dL_act_10 : decode cL_act 10 = .ok (.idiv, 1) := by decide +kernel
theorem dL_act_11 : decode cL_act 11 = .ok (.bipush 6, 2) := by decide +kernel
theorem dL_act_13 : decode cL_act 13 = .ok (.irem, 1) := by decide +kernel
theorem dL_act_14 : decode cL_act 14 = .ok (.istore_n 3, 1) := by decide +kernel
theorem dL_act_15 : decode cL_act 15 = .ok (.iload_n 1, 1) := by decide +kernel
theorem dL_act_16 : decode cL_act 16 = .ok (.bipush 16, 2) := by decide +kernel
theorem dL_act_18 : decode cL_act 18 = .ok (.irem, 1) := by decide +kernel
theorem dL_act_19 : decode cL_act 19 = .ok (.tableswitch 284 0 14 #[73, 73, 83, 92, 92, 92, 109, 127, 127, 148, 170, 192, 202, 246, 272], 73) := by decide +kernel
theorem dL_act_92 : decode cL_act 92 = .ok (.aload_n 0, 1) := by decide +kernel
theorem dL_act_93 : decode cL_act 93 = .ok (.bipush 6, 2) := by decide +kernel
theorem dL_act_95 : decode cL_act 95 = .ok (.iload_n 2, 1) := by decide +kernel
theorem dL_act_96 : decode cL_act 96 = .ok (.iconst 0, 1) := by decide +kernel
theorem dL_act_97 : decode cL_act 97 = .ok (.iconst 0, 1) := by decide +kernel
theorem dL_act_98 : decode cL_act 98 = .ok (.invokestatic 163, 3) := by decide +kernel
theorem dL_act_101 : decode cL_act 101 = .ok (.ireturn, 1) := by decide +kernel
theorem dL_act_102 : decode cL_act 102 = .ok (.aload_n 0, 1) := by decide +kernel
theorem dL_act_103 : decode cL_act 103 = .ok (.iconst 5, 1) := by decide +kernel
theorem dL_act_104 : decode cL_act 104 = .ok (.iconst 0, 1) := by decide +kernel
theorem dL_act_105 : decode cL_act 105 = .ok (.iconst 0, 1) := by decide +kernel
theorem dL_act_106 : decode cL_act 106 = .ok (.iconst 0, 1) := by decide +kernel
theorem dL_act_107 : decode cL_act 107 = .ok (.invokestatic 163, 3) := by decide +kernel
theorem dL_act_110 : decode cL_act 110 = .ok (.ireturn, 1) := by decide +kernel
theorem dL_act_111 : decode cL_act 111 = .ok (.aload_n 0, 1) := by decide +kernel
theorem dL_act_112 : decode cL_act 112 = .ok (.bipush 7, 2) := by decide +kernel
theorem dL_act_114 : decode cL_act 114 = .ok (.iload_n 2, 1) := by decide +kernel
theorem dL_act_115 : decode cL_act 115 = .ok (.iload_n 3, 1) := by decide +kernel
theorem dL_act_116 : decode cL_act 116 = .ok (.iload_n 1, 1) := by decide +kernel
theorem dL_act_117 : decode cL_act 117 = .ok (.sipush 400, 3) := by decide +kernel
theorem dL_act_120 : decode cL_act 120 = .ok (.idiv, 1) := by decide +kernel
theorem dL_act_121 : decode cL_act 121 = .ok (.ldc 196, 2) := by decide +kernel
theorem dL_act_123 : decode cL_act 123 = .ok (.irem, 1) := by decide +kernel
theorem dL_act_124 : decode cL_act 124 = .ok (.invokestatic 163, 3) := by decide +kernel
theorem dL_act_127 : decode cL_act 127 = .ok (.ireturn, 1) := by decide +kernel
theorem dL_act_128 : decode cL_act 128 = .ok (.aload_n 0, 1) := by decide +kernel
theorem dL_act_129 : decode cL_act 129 = .ok (.bipush 8, 2) := by decide +kernel
theorem dL_act_131 : decode cL_act 131 = .ok (.iload_n 2, 1) := by decide +kernel
theorem dL_act_132 : decode cL_act 132 = .ok (.iload_n 3, 1) := by decide +kernel
theorem dL_act_133 : decode cL_act 133 = .ok (.iconst 3, 1) := by decide +kernel
theorem dL_act_134 : decode cL_act 134 = .ok (.irem, 1) := by decide +kernel
theorem dL_act_135 : decode cL_act 135 = .ok (.iload_n 1, 1) := by decide +kernel
theorem dL_act_136 : decode cL_act 136 = .ok (.bipush 11, 2) := by decide +kernel
theorem dL_act_138 : decode cL_act 138 = .ok (.idiv, 1) := by decide +kernel
theorem dL_act_139 : decode cL_act 139 = .ok (.ldc 169, 2) := by decide +kernel
theorem dL_act_141 : decode cL_act 141 = .ok (.irem, 1) := by decide +kernel
theorem dL_act_142 : decode cL_act 142 = .ok (.invokestatic 163, 3) := by decide +kernel
theorem dL_act_145 : decode cL_act 145 = .ok (.ireturn, 1) := by decide +kernel
theorem dL_act_146 : decode cL_act 146 = .ok (.aload_n 0, 1) := by decide +kernel
theorem dL_act_147 : decode cL_act 147 = .ok (.iload_n 2, 1) := by decide +kernel
theorem dL_act_148 : decode cL_act 148 = .ok (.iload_n 3, 1) := by decide +kernel
theorem dL_act_149 : decode cL_act 149 = .ok (.iload_n 1, 1) := by decide +kernel
theorem dL_act_150 : decode cL_act 150 = .ok (.sipush 400, 3) := by decide +kernel
theorem dL_act_153 : decode cL_act 153 = .ok (.idiv, 1) := by decide +kernel
theorem dL_act_154 : decode cL_act 154 = .ok (.iconst 3, 1) := by decide +kernel
theorem dL_act_155 : decode cL_act 155 = .ok (.irem, 1) := by decide +kernel
theorem dL_act_156 : decode cL_act 156 = .ok (.iload_n 1, 1) := by decide +kernel
theorem dL_act_157 : decode cL_act 157 = .ok (.sipush 1200, 3) := by decide +kernel
theorem dL_act_160 : decode cL_act 160 = .ok (.idiv, 1) := by decide +kernel
theorem dL_act_161 : decode cL_act 161 = .ok (.iconst 4, 1) := by decide +kernel
theorem dL_act_162 : decode cL_act 162 = .ok (.irem, 1) := by decide +kernel
theorem dL_act_163 : decode cL_act 163 = .ok (.invokestatic 170, 3) := by decide +kernel
theorem dL_act_166 : decode cL_act 166 = .ok (.ireturn, 1) := by decide +kernel
theorem dL_act_167 : decode cL_act 167 = .ok (.aload_n 0, 1) := by decide +kernel
theorem dL_act_168 : decode cL_act 168 = .ok (.iload_n 2, 1) := by decide +kernel
theorem dL_act_169 : decode cL_act 169 = .ok (.iload_n 3, 1) := by decide +kernel
theorem dL_act_170 : decode cL_act 170 = .ok (.iload_n 1, 1) := by decide +kernel
theorem dL_act_171 : decode cL_act 171 = .ok (.sipush 400, 3) := by decide +kernel
theorem dL_act_174 : decode cL_act 174 = .ok (.idiv, 1) := by decide +kernel
theorem dL_act_175 : decode cL_act 175 = .ok (.iconst 2, 1) := by decide +kernel
theorem dL_act_176 : decode cL_act 176 = .ok (.irem, 1) := by decide +kernel
theorem dL_act_177 : decode cL_act 177 = .ok (.ifCond .ne 7, 3) := by decide +kernel
theorem dL_act_180 : decode cL_act 180 = .ok (.iconst 1, 1) := by decide +kernel
theorem dL_act_181 : decode cL_act 181 = .ok (.goto 4, 3) := by decide +kernel
theorem dL_act_184 : decode cL_act 184 = .ok (.iconst 0, 1) := by decide +kernel
theorem dL_act_185 : decode cL_act 185 = .ok (.invokestatic 176, 3) := by decide +kernel
theorem dL_act_188 : decode cL_act 188 = .ok (.ireturn, 1) := by decide +kernel
theorem dL_act_189 : decode cL_act 189 = .ok (.aload_n 0, 1) := by decide +kernel
theorem dL_act_190 : decode cL_act 190 = .ok (.iload_n 2, 1) := by decide +kernel
theorem dL_act_191 : decode cL_act 191 = .ok (.iload_n 3, 1) := by decide +kernel
theorem dL_act_192 : decode cL_act 192 = .ok (.iload_n 1, 1) := by decide +kernel
theorem dL_act_193 : decode cL_act 193 = .ok (.sipush 400, 3) := by decide +kernel
theorem dL_act_196 : decode cL_act 196 = .ok (.idiv, 1) := by decide +kernel
theorem dL_act_197 : decode cL_act 197 = .ok (.iconst 2, 1) := by decide +kernel
theorem dL_act_198 : decode cL_act 198 = .ok (.irem, 1) := by decide +kernel
theorem dL_act_199 : decode cL_act 199 = .ok (.ifCond .ne 7, 3) := by decide +kernel
theorem dL_act_202 : decode cL_act 202 = .ok (.iconst 1, 1) := by decide +kernel
theorem dL_act_203 : decode cL_act 203 = .ok (.goto 4, 3) := by decide +kernel
theorem dL_act_206 : decode cL_act 206 = .ok (.iconst 0, 1) := by decide +kernel
theorem dL_act_207 : decode cL_act 207 = .ok (.invokestatic 180, 3) := by decide +kernel
theorem dL_act_210 : decode cL_act 210 = .ok (.ireturn, 1) := by decide +kernel
theorem dL_act_211 : decode cL_act 211 = .ok (.aload_n 0, 1) := by decide +kernel
theorem dL_act_212 : decode cL_act 212 = .ok (.bipush 9, 2) := by decide +kernel
theorem dL_act_214 : decode cL_act 214 = .ok (.iload_n 2, 1) := by decide +kernel
theorem dL_act_215 : decode cL_act 215 = .ok (.iload_n 3, 1) := by decide +kernel
theorem dL_act_216 : decode cL_act 216 = .ok (.iconst 0, 1) := by decide +kernel
theorem dL_act_217 : decode cL_act 217 = .ok (.invokestatic 163, 3) := by decide +kernel
theorem dL_act_220 : decode cL_act 220 = .ok (.ireturn, 1) := by decide +kernel
theorem dL_act_221 : decode cL_act 221 = .ok (.aload_n 0, 1) := by decide +kernel
theorem dL_act_222 : decode cL_act 222 = .ok (.bipush 10, 2) := by decide +kernel
theorem dL_act_224 : decode cL_act 224 = .ok (.iload_n 1, 1) := by decide +kernel
theorem dL_act_225 : decode cL_act 225 = .ok (.bipush 16, 2) := by decide +kernel
theorem dL_act_227 : decode cL_act 227 = .ok (.idiv, 1) := by decide +kernel
theorem dL_act_228 : decode cL_act 228 = .ok (.iconst 5, 1) := by decide +kernel
theorem dL_act_229 : decode cL_act 229 = .ok (.irem, 1) := by decide +kernel
theorem dL_act_230 : decode cL_act 230 = .ok (.iload_n 1, 1) := by decide +kernel
theorem dL_act_231 : decode cL_act 231 = .ok (.bipush 16, 2) := by decide +kernel
theorem dL_act_233 : decode cL_act 233 = .ok (.idiv, 1) := by decide +kernel
theorem dL_act_234 : decode cL_act 234 = .ok (.iconst 5, 1) := by decide +kernel
theorem dL_act_235 : decode cL_act 235 = .ok (.irem, 1) := by decide +kernel
theorem dL_act_236 : decode cL_act 236 = .ok (.ifCond .ne 17, 3) := by decide +kernel
theorem dL_act_239 : decode cL_act 239 = .ok (.bipush 50, 2) := by decide +kernel
theorem dL_act_241 : decode cL_act 241 = .ok (.iload_n 1, 1) := by decide +kernel
theorem dL_act_242 : decode cL_act 242 = .ok (.bipush 80, 2) := by decide +kernel
theorem dL_act_244 : decode cL_act 244 = .ok (.idiv, 1) := by decide +kernel
theorem dL_act_245 : decode cL_act 245 = .ok (.sipush 251, 3) := by decide +kernel
theorem dL_act_248 : decode cL_act 248 = .ok (.irem, 1) := by decide +kernel
theorem dL_act_249 : decode cL_act 249 = .ok (.iadd, 1) := by decide +kernel
theorem dL_act_250 : decode cL_act 250 = .ok (.goto 10, 3) := by decide +kernel
theorem dL_act_253 : decode cL_act 253 = .ok (.iload_n 1, 1) := by decide +kernel
theorem dL_act_254 : decode cL_act 254 = .ok (.bipush 80, 2) := by decide +kernel
theorem dL_act_256 : decode cL_act 256 = .ok (.idiv, 1) := by decide +kernel
theorem dL_act_257 : decode cL_act 257 = .ok (.bipush 6, 2) := by decide +kernel
theorem dL_act_259 : decode cL_act 259 = .ok (.irem, 1) := by decide +kernel
theorem dL_act_260 : decode cL_act 260 = .ok (.iconst 0, 1) := by decide +kernel
theorem dL_act_261 : decode cL_act 261 = .ok (.invokestatic 163, 3) := by decide +kernel
theorem dL_act_264 : decode cL_act 264 = .ok (.ireturn, 1) := by decide +kernel
theorem dL_act_265 : decode cL_act 265 = .ok (.aload_n 0, 1) := by decide +kernel
theorem dL_act_266 : decode cL_act 266 = .ok (.iconst 1, 1) := by decide +kernel
theorem dL_act_267 : decode cL_act 267 = .ok (.iconst 0, 1) := by decide +kernel
theorem dL_act_268 : decode cL_act 268 = .ok (.iconst 0, 1) := by decide +kernel
theorem dL_act_269 : decode cL_act 269 = .ok (.iconst 0, 1) := by decide +kernel
theorem dL_act_270 : decode cL_act 270 = .ok (.invokestatic 163, 3) := by decide +kernel
theorem dL_act_273 : decode cL_act 273 = .ok (.iconst 2, 1) := by decide +kernel
theorem dL_act_274 : decode cL_act 274 = .ok (.if_icmp .ge 7, 3) := by decide +kernel
theorem dL_act_277 : decode cL_act 277 = .ok (.iconst (-1), 1) := by decide +kernel
theorem dL_act_278 : decode cL_act 278 = .ok (.goto 12, 3) := by decide +kernel
theorem dL_act_281 : decode cL_act 281 = .ok (.aload_n 0, 1) := by decide +kernel
theorem dL_act_282 : decode cL_act 282 = .ok (.bipush 11, 2) := by decide +kernel
theorem dL_act_284 : decode cL_act 284 = .ok (.iconst 0, 1) := by decide +kernel
theorem dL_act_285 : decode cL_act 285 = .ok (.iconst 0, 1) := by decide +kernel
theorem dL_act_286 : decode cL_act 286 = .ok (.iconst 0, 1) := by decide +kernel
theorem dL_act_287 : decode cL_act 287 = .ok (.invokestatic 163, 3) := by decide +kernel
theorem dL_act_290 : decode cL_act 290 = .ok (.ireturn, 1) := by decide +kernel
theorem dL_act_291 : decode cL_act 291 = .ok (.aload_n 0, 1) := by decide +kernel
theorem dL_act_292 : decode cL_act 292 = .ok (.bipush 16, 2) := by decide +kernel
theorem dL_act_294 : decode cL_act 294 = .ok (.iload_n 2, 1) := by decide +kernel
theorem dL_act_295 : decode cL_act 295 = .ok (.iconst 2, 1) := by decide +kernel
theorem dL_act_296 : decode cL_act 296 = .ok (.irem, 1) := by decide +kernel
theorem dL_act_297 : decode cL_act 297 = .ok (.iconst 0, 1) := by decide +kernel
theorem dL_act_298 : decode cL_act 298 = .ok (.iconst 0, 1) := by decide +kernel
theorem dL_act_299 : decode cL_act 299 = .ok (.invokestatic 163, 3) := by decide +kernel
theorem dL_act_302 : decode cL_act 302 = .ok (.ireturn, 1) := by decide +kernel
theorem dL_act_303 : decode cL_act 303 = .ok (.aload_n 0, 1) := by decide +kernel
theorem dL_act_304 : decode cL_act 304 = .ok (.bipush 17, 2) := by decide +kernel
theorem dL_act_306 : decode cL_act 306 = .ok (.iload_n 2, 1) := by decide +kernel
theorem dL_act_307 : decode cL_act 307 = .ok (.iconst 2, 1) := by decide +kernel
theorem dL_act_308 : decode cL_act 308 = .ok (.irem, 1) := by decide +kernel
theorem dL_act_309 : decode cL_act 309 = .ok (.iconst 0, 1) := by decide +kernel
theorem dL_act_310 : decode cL_act 310 = .ok (.iconst 0, 1) := by decide +kernel
theorem dL_act_311 : decode cL_act 311 = .ok (.invokestatic 163, 3) := by decide +kernel
theorem dL_act_314 : decode cL_act 314 = .ok (.ireturn, 1) := by decide +kernel
theorem dL_alike_0 : decode cL_alike 0 = .ok (.aload_n 0, 1) := by decide +kernel
theorem dL_alike_1 : decode cL_alike 1 = .ok (.iload_n 2, 1) := by decide +kernel
theorem dL_alike_2 : decode cL_alike 2 = .ok (.i2l, 1) := by decide +kernel
theorem dL_alike_3 : decode cL_alike 3 = .ok (.iconst 1, 1) := by decide +kernel
theorem dL_alike_4 : decode cL_alike 4 = .ok (.iload_n 2, 1) := by decide +kernel
theorem dL_alike_5 : decode cL_alike 5 = .ok (.bipush 40, 2) := by decide +kernel
theorem dL_alike_7 : decode cL_alike 7 = .ok (.irem, 1) := by decide +kernel
theorem dL_alike_8 : decode cL_alike 8 = .ok (.iadd, 1) := by decide +kernel
theorem dL_alike_9 : decode cL_alike 9 = .ok (.invokestatic 189, 3) := by decide +kernel
theorem dL_alike_12 : decode cL_alike 12 = .ok (.aload_n 1, 1) := by decide +kernel
theorem dL_alike_13 : decode cL_alike 13 = .ok (.iload_n 2, 1) := by decide +kernel
theorem dL_alike_14 : decode cL_alike 14 = .ok (.i2l, 1) := by decide +kernel
theorem dL_alike_15 : decode cL_alike 15 = .ok (.iconst 1, 1) := by decide +kernel
theorem dL_alike_16 : decode cL_alike 16 = .ok (.iload_n 2, 1) := by decide +kernel
theorem dL_alike_17 : decode cL_alike 17 = .ok (.bipush 40, 2) := by decide +kernel
theorem dL_alike_19 : decode cL_alike 19 = .ok (.irem, 1) := by decide +kernel
theorem dL_alike_20 : decode cL_alike 20 = .ok (.iadd, 1) := by decide +kernel
theorem dL_alike_21 : decode cL_alike 21 = .ok (.invokestatic 189, 3) := by decide +kernel
theorem dL_alike_24 : decode cL_alike 24 = .ok (.if_icmp .ne 18, 3) := by decide +kernel
theorem dL_alike_27 : decode cL_alike 27 = .ok (.aload_n 0, 1) := by decide +kernel
theorem dL_alike_28 : decode cL_alike 28 = .ok (.invokevirtual 197, 3) := by decide +kernel
theorem dL_alike_31 : decode cL_alike 31 = .ok (.aload_n 1, 1) := by decide +kernel
theorem dL_alike_32 : decode cL_alike 32 = .ok (.invokevirtual 197, 3) := by decide +kernel
theorem dL_alike_35 : decode cL_alike 35 = .ok (.if_icmp .ne 7, 3) := by decide +kernel
theorem dL_alike_38 : decode cL_alike 38 = .ok (.iconst 1, 1) := by decide +kernel
theorem dL_alike_39 : decode cL_alike 39 = .ok (.goto 4, 3) := by decide +kernel
theorem dL_alike_42 : decode cL_alike 42 = .ok (.iconst 0, 1) := by decide +kernel
theorem dL_alike_43 : decode cL_alike 43 = .ok (.istore_n 3, 1) := by decide +kernel
theorem dL_alike_44 : decode cL_alike 44 = .ok (.iconst 0, 1) := by decide +kernel
theorem dL_alike_45 : decode cL_alike 45 = .ok (.istore 4, 2) := by decide +kernel
theorem dL_alike_47 : decode cL_alike 47 = .ok (.iload 4, 2) := by decide +kernel
theorem dL_alike_49 : decode cL_alike 49 = .ok (.bipush 6, 2) := by decide +kernel
theorem dL_alike_51 : decode cL_alike 51 = .ok (.if_icmp .ge 169, 3) := by decide +kernel
theorem dL_alike_54 : decode cL_alike 54 = .ok (.iload_n 3, 1) := by decide +kernel
theorem dL_alike_55 : decode cL_alike 55 = .ok (.ifCond .eq 165, 3) := by decide +kernel
theorem dL_alike_58 : decode cL_alike 58 = .ok (.aload_n 0, 1) := by decide +kernel
theorem dL_alike_59 : decode cL_alike 59 = .ok (.iconst 1, 1) := by decide +kernel
theorem dL_alike_60 : decode cL_alike 60 = .ok (.iload 4, 2) := by decide +kernel
theorem dL_alike_62 : decode cL_alike 62 = .ok (.iconst 0, 1) := by decide +kernel
theorem dL_alike_63 : decode cL_alike 63 = .ok (.iconst 0, 1) := by decide +kernel
theorem dL_alike_64 : decode cL_alike 64 = .ok (.invokestatic 163, 3) := by decide +kernel
theorem dL_alike_67 : decode cL_alike 67 = .ok (.aload_n 1, 1) := by decide +kernel
theorem dL_alike_68 : decode cL_alike 68 = .ok (.iconst 1, 1) := by decide +kernel
theorem dL_alike_69 : decode cL_alike 69 = .ok (.iload 4, 2) := by decide +kernel
theorem dL_alike_71 : decode cL_alike 71 = .ok (.iconst 0, 1) := by decide +kernel
theorem dL_alike_72 : decode cL_alike 72 = .ok (.iconst 0, 1) := by decide +kernel
theorem dL_alike_73 : decode cL_alike 73 = .ok (.invokestatic 163, 3) := by decide +kernel
theorem dL_alike_76 : decode cL_alike 76 = .ok (.if_icmp .ne 28, 3) := by decide +kernel
theorem dL_alike_79 : decode cL_alike 79 = .ok (.aload_n 0, 1) := by decide +kernel
theorem dL_alike_80 : decode cL_alike 80 = .ok (.iconst 4, 1) := by decide +kernel
theorem dL_alike_81 : decode cL_alike 81 = .ok (.iload 4, 2) := by decide +kernel
theorem dL_alike_83 : decode cL_alike 83 = .ok (.iconst 0, 1) := by decide +kernel
theorem dL_alike_84 : decode cL_alike 84 = .ok (.iconst 0, 1) := by decide +kernel
theorem dL_alike_85 : decode cL_alike 85 = .ok (.invokestatic 163, 3) := by decide +kernel
theorem dL_alike_88 : decode cL_alike 88 = .ok (.aload_n 1, 1) := by decide +kernel
theorem dL_alike_89 : decode cL_alike 89 = .ok (.iconst 4, 1) := by decide +kernel
theorem dL_alike_90 : decode cL_alike 90 = .ok (.iload 4, 2) := by decide +kernel
theorem dL_alike_92 : decode cL_alike 92 = .ok (.iconst 0, 1) := by decide +kernel
theorem dL_alike_93 : decode cL_alike 93 = .ok (.iconst 0, 1) := by decide +kernel
theorem dL_alike_94 : decode cL_alike 94 = .ok (.invokestatic 163, 3) := by decide +kernel
theorem dL_alike_97 : decode cL_alike 97 = .ok (.if_icmp .ne 7, 3) := by decide +kernel
theorem dL_alike_100 : decode cL_alike 100 = .ok (.iconst 1, 1) := by decide +kernel
theorem dL_alike_101 : decode cL_alike 101 = .ok (.goto 4, 3) := by decide +kernel
theorem dL_alike_104 : decode cL_alike 104 = .ok (.iconst 0, 1) := by decide +kernel
theorem dL_alike_105 : decode cL_alike 105 = .ok (.istore_n 3, 1) := by decide +kernel
theorem dL_alike_106 : decode cL_alike 106 = .ok (.iconst 0, 1) := by decide +kernel
theorem dL_alike_107 : decode cL_alike 107 = .ok (.istore 5, 2) := by decide +kernel
theorem dL_alike_109 : decode cL_alike 109 = .ok (.iload 5, 2) := by decide +kernel
theorem dL_alike_111 : decode cL_alike 111 = .ok (.iconst 4, 1) := by decide +kernel
theorem dL_alike_112 : decode cL_alike 112 = .ok (.if_icmp .ge 102, 3) := by decide +kernel
theorem dL_alike_115 : decode cL_alike 115 = .ok (.iload_n 3, 1) := by decide +kernel
theorem dL_alike_116 : decode cL_alike 116 = .ok (.ifCond .eq 98, 3) := by decide +kernel
theorem dL_alike_119 : decode cL_alike 119 = .ok (.aload_n 0, 1) := by decide +kernel
theorem dL_alike_120 : decode cL_alike 120 = .ok (.iconst 2, 1) := by decide +kernel
theorem dL_alike_121 : decode cL_alike 121 = .ok (.iload 5, 2) := by decide +kernel
theorem dL_alike_123 : decode cL_alike 123 = .ok (.iload 4, 2) := by decide +kernel
theorem dL_alike_125 : decode cL_alike 125 = .ok (.iconst 0, 1) := by decide +kernel
theorem dL_alike_126 : decode cL_alike 126 = .ok (.invokestatic 163, 3) := by decide +kernel
theorem dL_alike_129 : decode cL_alike 129 = .ok (.aload_n 1, 1) := by decide +kernel
theorem dL_alike_130 : decode cL_alike 130 = .ok (.iconst 2, 1) := by decide +kernel
theorem dL_alike_131 : decode cL_alike 131 = .ok (.iload 5, 2) := by decide +kernel
theorem dL_alike_133 : decode cL_alike 133 = .ok (.iload 4, 2) := by decide +kernel
theorem dL_alike_135 : decode cL_alike 135 = .ok (.iconst 0, 1) := by decide +kernel
theorem dL_alike_136 : decode cL_alike 136 = .ok (.invokestatic 163, 3) := by decide +kernel
theorem dL_alike_139 : decode cL_alike 139 = .ok (.if_icmp .ne 67, 3) := by decide +kernel
theorem dL_alike_142 : decode cL_alike 142 = .ok (.aload_n 0, 1) := by decide +kernel
theorem dL_alike_143 : decode cL_alike 143 = .ok (.iconst 3, 1) := by decide +kernel
theorem dL_alike_144 : decode cL_alike 144 = .ok (.iload 5, 2) := by decide +kernel
theorem dL_alike_146 : decode cL_alike 146 = .ok (.iload 4, 2) := by decide +kernel
theorem dL_alike_148 : decode cL_alike 148 = .ok (.iload_n 2, 1) := by decide +kernel
theorem dL_alike_149 : decode cL_alike 149 = .ok (.bipush 9, 2) := by decide +kernel
theorem dL_alike_151 : decode cL_alike 151 = .ok (.irem, 1) := by decide +kernel
theorem dL_alike_152 : decode cL_alike 152 = .ok (.invokestatic 163, 3) := by decide +kernel
theorem dL_alike_155 : decode cL_alike 155 = .ok (.aload_n 1, 1) := by decide +kernel
theorem dL_alike_156 : decode cL_alike 156 = .ok (.iconst 3, 1) := by decide +kernel
theorem dL_alike_157 : decode cL_alike 157 = .ok (.iload 5, 2) := by decide +kernel
theorem dL_alike_159 : decode cL_alike 159 = .ok (.iload 4, 2) := by decide +kernel
theorem dL_alike_161 : decode cL_alike 161 = .ok (.iload_n 2, 1) := by decide +kernel
theorem dL_alike_162 : decode cL_alike 162 = .ok (.bipush 9, 2) := by decide +kernel
theorem dL_alike_164 : decode cL_alike 164 = .ok (.irem, 1) := by decide +kernel
theorem dL_alike_165 : decode cL_alike 165 = .ok (.invokestatic 163, 3) := by decide +kernel
theorem dL_alike_168 : decode cL_alike 168 = .ok (.if_icmp .ne 38, 3) := by decide +kernel
theorem dL_alike_171 : decode cL_alike 171 = .ok (.aload_n 0, 1) := by decide +kernel
theorem dL_alike_172 : decode cL_alike 172 = .ok (.iload 5, 2) := by decide +kernel
theorem dL_alike_174 : decode cL_alike 174 = .ok (.iload 4, 2) := by decide +kernel
theorem dL_alike_176 : decode cL_alike 176 = .ok (.iload_n 2, 1) := by decide +kernel
theorem dL_alike_177 : decode cL_alike 177 = .ok (.iconst 3, 1) := by decide +kernel
theorem dL_alike_178 : decode cL_alike 178 = .ok (.irem, 1) := by decide +kernel
theorem dL_alike_179 : decode cL_alike 179 = .ok (.iload_n 2, 1) := by decide +kernel
theorem dL_alike_180 : decode cL_alike 180 = .ok (.iconst 5, 1) := by decide +kernel
theorem dL_alike_181 : decode cL_alike 181 = .ok (.irem, 1) := by decide +kernel
theorem dL_alike_182 : decode cL_alike 182 = .ok (.invokestatic 166, 3) := by decide +kernel
theorem dL_alike_185 : decode cL_alike 185 = .ok (.aload_n 1, 1) := by decide +kernel
theorem dL_alike_186 : decode cL_alike 186 = .ok (.iload 5, 2) := by decide +kernel
theorem dL_alike_188 : decode cL_alike 188 = .ok (.iload 4, 2) := by decide +kernel
theorem dL_alike_190 : decode cL_alike 190 = .ok (.iload_n 2, 1) := by decide +kernel
theorem dL_alike_191 : decode cL_alike 191 = .ok (.iconst 3, 1) := by decide +kernel
theorem dL_alike_192 : decode cL_alike 192 = .ok (.irem, 1) := by decide +kernel
theorem dL_alike_193 : decode cL_alike 193 = .ok (.iload_n 2, 1) := by decide +kernel
theorem dL_alike_194 : decode cL_alike 194 = .ok (.iconst 5, 1) := by decide +kernel
theorem dL_alike_195 : decode cL_alike 195 = .ok (.irem, 1) := by decide +kernel
theorem dL_alike_196 : decode cL_alike 196 = .ok (.invokestatic 166, 3) := by decide +kernel
theorem dL_alike_199 : decode cL_alike 199 = .ok (.if_icmp .ne 7, 3) := by decide +kernel
theorem dL_alike_202 : decode cL_alike 202 = .ok (.iconst 1, 1) := by decide +kernel
theorem dL_alike_203 : decode cL_alike 203 = .ok (.goto 4, 3) := by decide +kernel
theorem dL_alike_206 : decode cL_alike 206 = .ok (.iconst 0, 1) := by decide +kernel
theorem dL_alike_207 : decode cL_alike 207 = .ok (.istore_n 3, 1) := by decide +kernel
theorem dL_alike_208 : decode cL_alike 208 = .ok (.iinc 5 1, 3) := by decide +kernel
theorem dL_alike_211 : decode cL_alike 211 = .ok (.goto (-102), 3) := by decide +kernel
theorem dL_alike_214 : decode cL_alike 214 = .ok (.iinc 4 1, 3) := by decide +kernel
theorem dL_alike_217 : decode cL_alike 217 = .ok (.goto (-170), 3) := by decide +kernel
theorem dL_alike_220 : decode cL_alike 220 = .ok (.iload_n 3, 1) := by decide +kernel
theorem dL_alike_221 : decode cL_alike 221 = .ok (.ireturn, 1) := by decide +kernel
theorem dL_law_0 : decode cL_law 0 = .ok (.new 8, 3) := by decide +kernel
theorem dL_law_3 : decode cL_law 3 = .ok (.dup, 1) := by decide +kernel
theorem dL_law_4 : decode cL_law 4 = .ok (.invokespecial 200, 3) := by decide +kernel
theorem dL_law_7 : decode cL_law 7 = .ok (.astore_n 1, 1) := by decide +kernel
theorem dL_law_8 : decode cL_law 8 = .ok (.new 8, 3) := by decide +kernel
theorem dL_law_11 : decode cL_law 11 = .ok (.dup, 1) := by decide +kernel
theorem dL_law_12 : decode cL_law 12 = .ok (.invokespecial 200, 3) := by decide +kernel
theorem dL_law_15 : decode cL_law 15 = .ok (.astore_n 2, 1) := by decide +kernel
theorem dL_law_16 : decode cL_law 16 = .ok (.iconst 1, 1) := by decide +kernel
theorem dL_law_17 : decode cL_law 17 = .ok (.istore_n 3, 1) := by decide +kernel
theorem dL_law_18 : decode cL_law 18 = .ok (.iconst 0, 1) := by decide +kernel
theorem dL_law_19 : decode cL_law 19 = .ok (.istore 4, 2) := by decide +kernel
theorem dL_law_21 : decode cL_law 21 = .ok (.iload 4, 2) := by decide +kernel
theorem dL_law_23 : decode cL_law 23 = .ok (.iconst 2, 1) := by decide +kernel
theorem dL_law_24 : decode cL_law 24 = .ok (.if_icmp .ge 94, 3) := by decide +kernel
theorem dL_law_27 : decode cL_law 27 = .ok (.iload_n 3, 1) := by decide +kernel
theorem dL_law_28 : decode cL_law 28 = .ok (.ifCond .eq 90, 3) := by decide +kernel
theorem dL_law_31 : decode cL_law 31 = .ok (.aload_n 1, 1) := by decide +kernel
theorem dL_law_32 : decode cL_law 32 = .ok (.iconst 5, 1) := by decide +kernel
theorem dL_law_33 : decode cL_law 33 = .ok (.iconst 0, 1) := by decide +kernel
theorem dL_law_34 : decode cL_law 34 = .ok (.iconst 0, 1) := by decide +kernel
theorem dL_law_35 : decode cL_law 35 = .ok (.iconst 0, 1) := by decide +kernel
theorem dL_law_36 : decode cL_law 36 = .ok (.invokestatic 163, 3) := by decide +kernel
theorem dL_law_39 : decode cL_law 39 = .ok (.iload 4, 2) := by decide +kernel
theorem dL_law_41 : decode cL_law 41 = .ok (.if_icmp .ne 69, 3) := by decide +kernel
theorem dL_law_44 : decode cL_law 44 = .ok (.aload_n 2, 1) := by decide +kernel
theorem dL_law_45 : decode cL_law 45 = .ok (.iconst 5, 1) := by decide +kernel
theorem dL_law_46 : decode cL_law 46 = .ok (.iconst 0, 1) := by decide +kernel
theorem dL_law_47 : decode cL_law 47 = .ok (.iconst 0, 1) := by decide +kernel
theorem dL_law_48 : decode cL_law 48 = .ok (.iconst 0, 1) := by decide +kernel
theorem dL_law_49 : decode cL_law 49 = .ok (.invokestatic 163, 3) := by decide +kernel
theorem dL_law_52 : decode cL_law 52 = .ok (.iload 4, 2) := by decide +kernel
theorem dL_law_54 : decode cL_law 54 = .ok (.if_icmp .ne 56, 3) := by decide +kernel
theorem dL_law_57 : decode cL_law 57 = .ok (.aload_n 1, 1) := by decide +kernel
theorem dL_law_58 : decode cL_law 58 = .ok (.aload_n 0, 1) := by decide +kernel
theorem dL_law_59 : decode cL_law 59 = .ok (.iload 4, 2) := by decide +kernel
theorem dL_law_61 : decode cL_law 61 = .ok (.invokestatic 201, 3) := by decide +kernel
theorem dL_law_64 : decode cL_law 64 = .ok (.invokestatic 205, 3) := by decide +kernel
theorem dL_law_67 : decode cL_law 67 = .ok (.ifCond .eq 43, 3) := by decide +kernel
theorem dL_law_70 : decode cL_law 70 = .ok (.aload_n 2, 1) := by decide +kernel
theorem dL_law_71 : decode cL_law 71 = .ok (.aload_n 0, 1) := by decide +kernel
theorem dL_law_72 : decode cL_law 72 = .ok (.iload 4, 2) := by decide +kernel
theorem dL_law_74 : decode cL_law 74 = .ok (.invokestatic 201, 3) := by decide +kernel
theorem dL_law_77 : decode cL_law 77 = .ok (.invokestatic 205, 3) := by decide +kernel
theorem dL_law_80 : decode cL_law 80 = .ok (.ifCond .eq 30, 3) := by decide +kernel
theorem dL_law_83 : decode cL_law 83 = .ok (.aload_n 1, 1) := by decide +kernel
theorem dL_law_84 : decode cL_law 84 = .ok (.bipush 6, 2) := by decide +kernel
theorem dL_law_86 : decode cL_law 86 = .ok (.iload 4, 2) := by decide +kernel
theorem dL_law_88 : decode cL_law 88 = .ok (.iconst 0, 1) := by decide +kernel
theorem dL_law_89 : decode cL_law 89 = .ok (.iconst 0, 1) := by decide +kernel
theorem dL_law_90 : decode cL_law 90 = .ok (.invokestatic 163, 3) := by decide +kernel
theorem dL_law_93 : decode cL_law 93 = .ok (.aload_n 2, 1) := by decide +kernel
theorem dL_law_94 : decode cL_law 94 = .ok (.bipush 6, 2) := by decide +kernel
theorem dL_law_96 : decode cL_law 96 = .ok (.iload 4, 2) := by decide +kernel
theorem dL_law_98 : decode cL_law 98 = .ok (.iconst 0, 1) := by decide +kernel
theorem dL_law_99 : decode cL_law 99 = .ok (.iconst 0, 1) := by decide +kernel
theorem dL_law_100 : decode cL_law 100 = .ok (.invokestatic 163, 3) := by decide +kernel
theorem dL_law_103 : decode cL_law 103 = .ok (.if_icmp .ne 7, 3) := by decide +kernel
theorem dL_law_106 : decode cL_law 106 = .ok (.iconst 1, 1) := by decide +kernel
theorem dL_law_107 : decode cL_law 107 = .ok (.goto 4, 3) := by decide +kernel
theorem dL_law_110 : decode cL_law 110 = .ok (.iconst 0, 1) := by decide +kernel
theorem dL_law_111 : decode cL_law 111 = .ok (.istore_n 3, 1) := by decide +kernel
theorem dL_law_112 : decode cL_law 112 = .ok (.iinc 4 1, 3) := by decide +kernel
theorem dL_law_115 : decode cL_law 115 = .ok (.goto (-94), 3) := by decide +kernel
theorem dL_law_118 : decode cL_law 118 = .ok (.bipush 8, 2) := by decide +kernel
theorem dL_law_120 : decode cL_law 120 = .ok (.aload_n 0, 1) := by decide +kernel
theorem dL_law_121 : decode cL_law 121 = .ok (.iconst 2, 1) := by decide +kernel
theorem dL_law_122 : decode cL_law 122 = .ok (.invokestatic 201, 3) := by decide +kernel
theorem dL_law_125 : decode cL_law 125 = .ok (.bipush 17, 2) := by decide +kernel
theorem dL_law_127 : decode cL_law 127 = .ok (.irem, 1) := by decide +kernel
theorem dL_law_128 : decode cL_law 128 = .ok (.iadd, 1) := by decide +kernel
theorem dL_law_129 : decode cL_law 129 = .ok (.istore 4, 2) := by decide +kernel
theorem dL_law_131 : decode cL_law 131 = .ok (.iconst 0, 1) := by decide +kernel
theorem dL_law_132 : decode cL_law 132 = .ok (.istore 5, 2) := by decide +kernel
theorem dL_law_134 : decode cL_law 134 = .ok (.iload 5, 2) := by decide +kernel
theorem dL_law_136 : decode cL_law 136 = .ok (.iload 4, 2) := by decide +kernel
theorem dL_law_138 : decode cL_law 138 = .ok (.if_icmp .ge 392, 3) := by decide +kernel
theorem dL_law_141 : decode cL_law 141 = .ok (.iload_n 3, 1) := by decide +kernel
theorem dL_law_142 : decode cL_law 142 = .ok (.ifCond .eq 388, 3) := by decide +kernel
theorem dL_law_145 : decode cL_law 145 = .ok (.aload_n 0, 1) := by decide +kernel
theorem dL_law_146 : decode cL_law 146 = .ok (.iconst 3, 1) := by decide +kernel
theorem dL_law_147 : decode cL_law 147 = .ok (.iload 5, 2) := by decide +kernel
theorem dL_law_149 : decode cL_law 149 = .ok (.iadd, 1) := by decide +kernel
theorem dL_law_150 : decode cL_law 150 = .ok (.invokestatic 201, 3) := by decide +kernel
theorem dL_law_153 : decode cL_law 153 = .ok (.istore 6, 2) := by decide +kernel
theorem dL_law_155 : decode cL_law 155 = .ok (.iload 6, 2) := by decide +kernel
theorem dL_law_157 : decode cL_law 157 = .ok (.iconst 5, 1) := by decide +kernel
theorem dL_law_158 : decode cL_law 158 = .ok (.irem, 1) := by decide +kernel
theorem dL_law_159 : decode cL_law 159 = .ok (.ifCond .ne 31, 3) := by decide +kernel
theorem dL_law_162 : decode cL_law 162 = .ok (.aload_n 1, 1) := by decide +kernel
theorem dL_law_163 : decode cL_law 163 = .ok (.iload 6, 2) := by decide +kernel
theorem dL_law_165 : decode cL_law 165 = .ok (.iconst 5, 1) := by decide +kernel
theorem dL_law_166 : decode cL_law 166 = .ok (.idiv, 1) := by decide +kernel
theorem dL_law_167 : decode cL_law 167 = .ok (.invokestatic 205, 3) := by decide +kernel
theorem dL_law_170 : decode cL_law 170 = .ok (.ifCond .eq 18, 3) := by decide +kernel
theorem dL_law_173 : decode cL_law 173 = .ok (.aload_n 2, 1) := by decide +kernel
theorem dL_law_174 : decode cL_law 174 = .ok (.iload 6, 2) := by decide +kernel
theorem dL_law_176 : decode cL_law 176 = .ok (.iconst 5, 1) := by decide +kernel
theorem dL_law_177 : decode cL_law 177 = .ok (.idiv, 1) := by decide +kernel
theorem dL_law_178 : decode cL_law 178 = .ok (.invokestatic 205, 3) := by decide +kernel
theorem dL_law_181 : decode cL_law 181 = .ok (.ifCond .eq 7, 3) := by decide +kernel
theorem dL_law_184 : decode cL_law 184 = .ok (.iconst 1, 1) := by decide +kernel
theorem dL_law_185 : decode cL_law 185 = .ok (.goto 4, 3) := by decide +kernel
theorem dL_law_188 : decode cL_law 188 = .ok (.iconst 0, 1) := by decide +kernel
theorem dL_law_189 : decode cL_law 189 = .ok (.istore_n 3, 1) := by decide +kernel
theorem dL_law_190 : decode cL_law 190 = .ok (.aload_n 1, 1) := by decide +kernel
theorem dL_law_191 : decode cL_law 191 = .ok (.iload 6, 2) := by decide +kernel
theorem dL_law_193 : decode cL_law 193 = .ok (.invokestatic 209, 3) := by decide +kernel
theorem dL_law_196 : decode cL_law 196 = .ok (.istore 7, 2) := by decide +kernel
theorem dL_law_198 : decode cL_law 198 = .ok (.iload_n 3, 1) := by decide +kernel
theorem dL_law_199 : decode cL_law 199 = .ok (.ifCond .eq 79, 3) := by decide +kernel
theorem dL_law_202 : decode cL_law 202 = .ok (.aload_n 2, 1) := by decide +kernel
theorem dL_law_203 : decode cL_law 203 = .ok (.iload 6, 2) := by decide +kernel
theorem dL_law_205 : decode cL_law 205 = .ok (.ldc 212, 2) := by decide +kernel
theorem dL_law_207 : decode cL_law 207 = .ok (.irem, 1) := by decide +kernel
theorem dL_law_208 : decode cL_law 208 = .ok (.invokestatic 213, 3) := by decide +kernel
theorem dL_law_211 : decode cL_law 211 = .ok (.ifCond .eq 67, 3) := by decide +kernel
theorem dL_law_214 : decode cL_law 214 = .ok (.aload_n 2, 1) := by decide +kernel
theorem dL_law_215 : decode cL_law 215 = .ok (.iload 6, 2) := by decide +kernel
theorem dL_law_217 : decode cL_law 217 = .ok (.invokestatic 209, 3) := by decide +kernel
theorem dL_law_220 : decode cL_law 220 = .ok (.iload 7, 2) := by decide +kernel
theorem dL_law_222 : decode cL_law 222 = .ok (.if_icmp .ne 56, 3) := by decide +kernel
theorem dL_law_225 : decode cL_law 225 = .ok (.aload_n 2, 1) := by decide +kernel
theorem dL_law_226 : decode cL_law 226 = .ok (.iload 6, 2) := by decide +kernel
theorem dL_law_228 : decode cL_law 228 = .ok (.sipush 1000, 3) := by decide +kernel
theorem dL_law_231 : decode cL_law 231 = .ok (.irem, 1) := by decide +kernel
theorem dL_law_232 : decode cL_law 232 = .ok (.invokestatic 213, 3) := by decide +kernel
theorem dL_law_235 : decode cL_law 235 = .ok (.ifCond .eq 43, 3) := by decide +kernel
theorem dL_law_238 : decode cL_law 238 = .ok (.aload_n 1, 1) := by decide +kernel
theorem dL_law_239 : decode cL_law 239 = .ok (.aload_n 2, 1) := by decide +kernel
theorem dL_law_240 : decode cL_law 240 = .ok (.iload 6, 2) := by decide +kernel
theorem dL_law_242 : decode cL_law 242 = .ok (.sipush 5000, 3) := by decide +kernel
theorem dL_law_245 : decode cL_law 245 = .ok (.irem, 1) := by decide +kernel
theorem dL_law_246 : decode cL_law 246 = .ok (.invokestatic 216, 3) := by decide +kernel
theorem dL_law_249 : decode cL_law 249 = .ok (.ifCond .eq 29, 3) := by decide +kernel
theorem dL_law_252 : decode cL_law 252 = .ok (.aload_n 1, 1) := by decide +kernel
theorem dL_law_253 : decode cL_law 253 = .ok (.iload 6, 2) := by decide +kernel
theorem dL_law_255 : decode cL_law 255 = .ok (.iconst 3, 1) := by decide +kernel
theorem dL_law_256 : decode cL_law 256 = .ok (.idiv, 1) := by decide +kernel
theorem dL_law_257 : decode cL_law 257 = .ok (.invokestatic 220, 3) := by decide +kernel
theorem dL_law_260 : decode cL_law 260 = .ok (.ifCond .eq 18, 3) := by decide +kernel
theorem dL_law_263 : decode cL_law 263 = .ok (.aload_n 2, 1) := by decide +kernel
theorem dL_law_264 : decode cL_law 264 = .ok (.iload 6, 2) := by decide +kernel
theorem dL_law_266 : decode cL_law 266 = .ok (.iconst 5, 1) := by decide +kernel
theorem dL_law_267 : decode cL_law 267 = .ok (.idiv, 1) := by decide +kernel
theorem dL_law_268 : decode cL_law 268 = .ok (.invokestatic 220, 3) := by decide +kernel
theorem dL_law_271 : decode cL_law 271 = .ok (.ifCond .eq 7, 3) := by decide +kernel
theorem dL_law_274 : decode cL_law 274 = .ok (.iconst 1, 1) := by decide +kernel
theorem dL_law_275 : decode cL_law 275 = .ok (.goto 4, 3) := by decide +kernel
theorem dL_law_278 : decode cL_law 278 = .ok (.iconst 0, 1) := by decide +kernel
theorem dL_law_279 : decode cL_law 279 = .ok (.istore_n 3, 1) := by decide +kernel
theorem dL_law_280 : decode cL_law 280 = .ok (.iload 6, 2) := by decide +kernel
theorem dL_law_282 : decode cL_law 282 = .ok (.bipush 7, 2) := by decide +kernel
theorem dL_law_284 : decode cL_law 284 = .ok (.idiv, 1) := by decide +kernel
theorem dL_law_285 : decode cL_law 285 = .ok (.iconst 2, 1) := by decide +kernel
theorem dL_law_286 : decode cL_law 286 = .ok (.irem, 1) := by decide +kernel
theorem dL_law_287 : decode cL_law 287 = .ok (.istore 8, 2) := by decide +kernel
theorem dL_law_289 : decode cL_law 289 = .ok (.iload 6, 2) := by decide +kernel
theorem dL_law_291 : decode cL_law 291 = .ok (.bipush 14, 2) := by decide +kernel
theorem dL_law_293 : decode cL_law 293 = .ok (.idiv, 1) := by decide +kernel
theorem dL_law_294 : decode cL_law 294 = .ok (.iconst 5, 1) := by decide +kernel
theorem dL_law_295 : decode cL_law 295 = .ok (.irem, 1) := by decide +kernel
theorem dL_law_296 : decode cL_law 296 = .ok (.istore 9, 2) := by decide +kernel
theorem dL_law_298 : decode cL_law 298 = .ok (.iload 6, 2) := by decide +kernel
theorem dL_law_300 : decode cL_law 300 = .ok (.bipush 70, 2) := by decide +kernel
theorem dL_law_302 : decode cL_law 302 = .ok (.idiv, 1) := by decide +kernel
theorem dL_law_303 : decode cL_law 303 = .ok (.iconst 3, 1) := by decide +kernel
theorem dL_law_304 : decode cL_law 304 = .ok (.irem, 1) := by decide +kernel
theorem dL_law_305 : decode cL_law 305 = .ok (.istore 10, 2) := by decide +kernel
theorem dL_law_307 : decode cL_law 307 = .ok (.iload 6, 2) := by decide +kernel
theorem dL_law_309 : decode cL_law 309 = .ok (.sipush 210, 3) := by decide +kernel
theorem dL_law_312 : decode cL_law 312 = .ok (.idiv, 1) := by decide +kernel
theorem dL_law_313 : decode cL_law 313 = .ok (.iconst 4, 1) := by decide +kernel
theorem dL_law_314 : decode cL_law 314 = .ok (.irem, 1) := by decide +kernel
theorem dL_law_315 : decode cL_law 315 = .ok (.istore 11, 2) := by decide +kernel
theorem dL_law_317 : decode cL_law 317 = .ok (.aload_n 1, 1) := by decide +kernel
theorem dL_law_318 : decode cL_law 318 = .ok (.iload 8, 2) := by decide +kernel
theorem dL_law_320 : decode cL_law 320 = .ok (.iload 9, 2) := by decide +kernel
theorem dL_law_322 : decode cL_law 322 = .ok (.iload 10, 2) := by decide +kernel
theorem dL_law_324 : decode cL_law 324 = .ok (.iload 11, 2) := by decide +kernel
theorem dL_law_326 : decode cL_law 326 = .ok (.invokestatic 173, 3) := by decide +kernel
theorem dL_law_329 : decode cL_law 329 = .ok (.istore 12, 2) := by decide +kernel
theorem dL_law_331 : decode cL_law 331 = .ok (.aload_n 1, 1) := by decide +kernel
theorem dL_law_332 : decode cL_law 332 = .ok (.iconst 2, 1) := by decide +kernel
theorem dL_law_333 : decode cL_law 333 = .ok (.iload 8, 2) := by decide +kernel
theorem dL_law_335 : decode cL_law 335 = .ok (.iconst 4, 1) := by decide +kernel
theorem dL_law_336 : decode cL_law 336 = .ok (.iconst 0, 1) := by decide +kernel
theorem dL_law_337 : decode cL_law 337 = .ok (.invokestatic 163, 3) := by decide +kernel
theorem dL_law_340 : decode cL_law 340 = .ok (.istore 13, 2) := by decide +kernel
theorem dL_law_342 : decode cL_law 342 = .ok (.aload_n 1, 1) := by decide +kernel
theorem dL_law_343 : decode cL_law 343 = .ok (.iload 8, 2) := by decide +kernel
theorem dL_law_345 : decode cL_law 345 = .ok (.iload 9, 2) := by decide +kernel
theorem dL_law_347 : decode cL_law 347 = .ok (.iload 10, 2) := by decide +kernel
theorem dL_law_349 : decode cL_law 349 = .ok (.iconst 2, 1) := by decide +kernel
theorem dL_law_350 : decode cL_law 350 = .ok (.invokestatic 166, 3) := by decide +kernel
theorem dL_law_353 : decode cL_law 353 = .ok (.istore 14, 2) := by decide +kernel
theorem dL_law_355 : decode cL_law 355 = .ok (.aload_n 1, 1) := by decide +kernel
theorem dL_law_356 : decode cL_law 356 = .ok (.iload 8, 2) := by decide +kernel
theorem dL_law_358 : decode cL_law 358 = .ok (.iload 9, 2) := by decide +kernel
theorem dL_law_360 : decode cL_law 360 = .ok (.iload 10, 2) := by decide +kernel
theorem dL_law_362 : decode cL_law 362 = .ok (.iload 11, 2) := by decide +kernel
theorem dL_law_364 : decode cL_law 364 = .ok (.invokestatic 170, 3) := by decide +kernel
theorem dL_law_367 : decode cL_law 367 = .ok (.istore 15, 2) := by decide +kernel
theorem dL_law_369 : decode cL_law 369 = .ok (.iload_n 3, 1) := by decide +kernel
theorem dL_law_370 : decode cL_law 370 = .ok (.ifCond .eq 37, 3) := by decide +kernel
theorem dL_law_373 : decode cL_law 373 = .ok (.iload 15, 2) := by decide +kernel
theorem dL_law_375 : decode cL_law 375 = .ok (.aload_n 2, 1) := by decide +kernel
theorem dL_law_376 : decode cL_law 376 = .ok (.iload 8, 2) := by decide +kernel
theorem dL_law_378 : decode cL_law 378 = .ok (.iload 9, 2) := by decide +kernel
theorem dL_law_380 : decode cL_law 380 = .ok (.iload 10, 2) := by decide +kernel
theorem dL_law_382 : decode cL_law 382 = .ok (.iload 11, 2) := by decide +kernel
theorem dL_law_384 : decode cL_law 384 = .ok (.invokestatic 170, 3) := by decide +kernel
theorem dL_law_387 : decode cL_law 387 = .ok (.if_icmp .ne 20, 3) := by decide +kernel
theorem dL_law_390 : decode cL_law 390 = .ok (.iload 12, 2) := by decide +kernel
theorem dL_law_392 : decode cL_law 392 = .ok (.invokestatic 223, 3) := by decide +kernel
theorem dL_law_395 : decode cL_law 395 = .ok (.iload 15, 2) := by decide +kernel
theorem dL_law_397 : decode cL_law 397 = .ok (.invokestatic 223, 3) := by decide +kernel
theorem dL_law_400 : decode cL_law 400 = .ok (.if_icmp .ne 7, 3) := by decide +kernel
theorem dL_law_403 : decode cL_law 403 = .ok (.iconst 1, 1) := by decide +kernel
theorem dL_law_404 : decode cL_law 404 = .ok (.goto 4, 3) := by decide +kernel
theorem dL_law_407 : decode cL_law 407 = .ok (.iconst 0, 1) := by decide +kernel
theorem dL_law_408 : decode cL_law 408 = .ok (.istore_n 3, 1) := by decide +kernel
theorem dL_law_409 : decode cL_law 409 = .ok (.iload_n 3, 1) := by decide +kernel
theorem dL_law_410 : decode cL_law 410 = .ok (.ifCond .eq 114, 3) := by decide +kernel
theorem dL_law_413 : decode cL_law 413 = .ok (.iload 15, 2) := by decide +kernel
theorem dL_law_415 : decode cL_law 415 = .ok (.invokestatic 223, 3) := by decide +kernel
theorem dL_law_418 : decode cL_law 418 = .ok (.ifCond .ne 106, 3) := by decide +kernel
theorem dL_law_421 : decode cL_law 421 = .ok (.iload 15, 2) := by decide +kernel
theorem dL_law_423 : decode cL_law 423 = .ok (.iload 14, 2) := by decide +kernel
theorem dL_law_425 : decode cL_law 425 = .ok (.if_icmp .ne 97, 3) := by decide +kernel
theorem dL_law_428 : decode cL_law 428 = .ok (.aload_n 1, 1) := by decide +kernel
theorem dL_law_429 : decode cL_law 429 = .ok (.iconst 2, 1) := by decide +kernel
theorem dL_law_430 : decode cL_law 430 = .ok (.iload 8, 2) := by decide +kernel
theorem dL_law_432 : decode cL_law 432 = .ok (.iconst 4, 1) := by decide +kernel
theorem dL_law_433 : decode cL_law 433 = .ok (.iconst 0, 1) := by decide +kernel
theorem dL_law_434 : decode cL_law 434 = .ok (.invokestatic 163, 3) := by decide +kernel
theorem dL_law_437 : decode cL_law 437 = .ok (.iload 12, 2) := by decide +kernel
theorem dL_law_439 : decode cL_law 439 = .ok (.if_icmp .ne 83, 3) := by decide +kernel
theorem dL_law_442 : decode cL_law 442 = .ok (.aload_n 1, 1) := by decide +kernel
theorem dL_law_443 : decode cL_law 443 = .ok (.iload 8, 2) := by decide +kernel
theorem dL_law_445 : decode cL_law 445 = .ok (.iload 9, 2) := by decide +kernel
theorem dL_law_447 : decode cL_law 447 = .ok (.iload 10, 2) := by decide +kernel
theorem dL_law_449 : decode cL_law 449 = .ok (.iconst 2, 1) := by decide +kernel
theorem dL_law_450 : decode cL_law 450 = .ok (.invokestatic 166, 3) := by decide +kernel
theorem dL_law_453 : decode cL_law 453 = .ok (.iload 11, 2) := by decide +kernel
theorem dL_law_455 : decode cL_law 455 = .ok (.if_icmp .ne 67, 3) := by decide +kernel
theorem dL_law_458 : decode cL_law 458 = .ok (.aload_n 1, 1) := by decide +kernel
theorem dL_law_459 : decode cL_law 459 = .ok (.bipush 11, 2) := by decide +kernel
theorem dL_law_461 : decode cL_law 461 = .ok (.iconst 0, 1) := by decide +kernel
theorem dL_law_462 : decode cL_law 462 = .ok (.iconst 0, 1) := by decide +kernel
theorem dL_law_463 : decode cL_law 463 = .ok (.iconst 0, 1) := by decide +kernel
theorem dL_law_464 : decode cL_law 464 = .ok (.invokestatic 163, 3) := by decide +kernel
theorem dL_law_467 : decode cL_law 467 = .ok (.invokestatic 223, 3) := by decide +kernel
theorem dL_law_470 : decode cL_law 470 = .ok (.ifCond .ne 52, 3) := by decide +kernel
theorem dL_law_473 : decode cL_law 473 = .ok (.aload_n 2, 1) := by decide +kernel
theorem dL_law_474 : decode cL_law 474 = .ok (.bipush 11, 2) := by decide +kernel
theorem dL_law_476 : decode cL_law 476 = .ok (.iconst 0, 1) := by decide +kernel
theorem dL_law_477 : decode cL_law 477 = .ok (.iconst 0, 1) := by decide +kernel
theorem dL_law_478 : decode cL_law 478 = .ok (.iconst 0, 1) := by decide +kernel
theorem dL_law_479 : decode cL_law 479 = .ok (.invokestatic 163, 3) := by decide +kernel
theorem dL_law_482 : decode cL_law 482 = .ok (.invokestatic 223, 3) := by decide +kernel
theorem dL_law_485 : decode cL_law 485 = .ok (.ifCond .ne 37, 3) := by decide +kernel
theorem dL_law_488 : decode cL_law 488 = .ok (.aload_n 1, 1) := by decide +kernel
theorem dL_law_489 : decode cL_law 489 = .ok (.iconst 2, 1) := by decide +kernel
theorem dL_law_490 : decode cL_law 490 = .ok (.iload 8, 2) := by decide +kernel
theorem dL_law_492 : decode cL_law 492 = .ok (.iconst 4, 1) := by decide +kernel
theorem dL_law_493 : decode cL_law 493 = .ok (.iconst 0, 1) := by decide +kernel
theorem dL_law_494 : decode cL_law 494 = .ok (.invokestatic 163, 3) := by decide +kernel
theorem dL_law_497 : decode cL_law 497 = .ok (.iload 13, 2) := by decide +kernel
theorem dL_law_499 : decode cL_law 499 = .ok (.if_icmp .ne 23, 3) := by decide +kernel
theorem dL_law_502 : decode cL_law 502 = .ok (.aload_n 1, 1) := by decide +kernel
theorem dL_law_503 : decode cL_law 503 = .ok (.iload 8, 2) := by decide +kernel
theorem dL_law_505 : decode cL_law 505 = .ok (.iload 9, 2) := by decide +kernel
theorem dL_law_507 : decode cL_law 507 = .ok (.iload 10, 2) := by decide +kernel
theorem dL_law_509 : decode cL_law 509 = .ok (.iconst 2, 1) := by decide +kernel
theorem dL_law_510 : decode cL_law 510 = .ok (.invokestatic 166, 3) := by decide +kernel
theorem dL_law_513 : decode cL_law 513 = .ok (.iload 14, 2) := by decide +kernel
theorem dL_law_515 : decode cL_law 515 = .ok (.if_icmp .ne 7, 3) := by decide +kernel
theorem dL_law_518 : decode cL_law 518 = .ok (.iconst 1, 1) := by decide +kernel
theorem dL_law_519 : decode cL_law 519 = .ok (.goto 4, 3) := by decide +kernel
theorem dL_law_522 : decode cL_law 522 = .ok (.iconst 0, 1) := by decide +kernel
theorem dL_law_523 : decode cL_law 523 = .ok (.istore_n 3, 1) := by decide +kernel
theorem dL_law_524 : decode cL_law 524 = .ok (.iinc 5 1, 3) := by decide +kernel
theorem dL_law_527 : decode cL_law 527 = .ok (.goto (-393), 3) := by decide +kernel
theorem dL_law_530 : decode cL_law 530 = .ok (.iload_n 3, 1) := by decide +kernel
theorem dL_law_531 : decode cL_law 531 = .ok (.ireturn, 1) := by decide +kernel
