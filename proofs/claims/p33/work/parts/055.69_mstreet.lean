theorem dX12_street_0 : decode cX12_street 0 = .ok (.aload_n 0, 1) := by decide +kernel
theorem dX12_street_1 : decode cX12_street 1 = .ok (.iconst 0, 1) := by decide +kernel
theorem dX12_street_10 : decode cX12_street 10 = .ok (.iload_n 1, 1) := by decide +kernel
theorem dX12_street_102 : decode cX12_street 102 = .ok (.iconst 0, 1) := by decide +kernel
theorem dX12_street_103 : decode cX12_street 103 = .ok (.iastore, 1) := by decide +kernel
theorem dX12_street_104 : decode cX12_street 104 = .ok (.iinc 2 1, 3) := by decide +kernel
theorem dX12_street_107 : decode cX12_street 107 = .ok (.goto (-46), 3) := by decide +kernel
theorem dX12_street_11 : decode cX12_street 11 = .ok (.aload_n 0, 1) := by decide +kernel
theorem dX12_street_110 : decode cX12_street 110 = .ok (.aload_n 0, 1) := by decide +kernel
theorem dX12_street_111 : decode cX12_street 111 = .ok (.getfield 26, 3) := by decide +kernel
theorem dX12_street_114 : decode cX12_street 114 = .ok (.iconst 0, 1) := by decide +kernel
theorem dX12_street_115 : decode cX12_street 115 = .ok (.bipush 8, 2) := by decide +kernel
theorem dX12_street_117 : decode cX12_street 117 = .ok (.iastore, 1) := by decide +kernel
theorem dX12_street_118 : decode cX12_street 118 = .ok (.aload_n 0, 1) := by decide +kernel
theorem dX12_street_119 : decode cX12_street 119 = .ok (.getfield 26, 3) := by decide +kernel
theorem dX12_street_12 : decode cX12_street 12 = .ok (.getfield 77, 3) := by decide +kernel
theorem dX12_street_122 : decode cX12_street 122 = .ok (.iconst 1, 1) := by decide +kernel
theorem dX12_street_123 : decode cX12_street 123 = .ok (.iconst 3, 1) := by decide +kernel
theorem dX12_street_124 : decode cX12_street 124 = .ok (.iastore, 1) := by decide +kernel
theorem dX12_street_125 : decode cX12_street 125 = .ok (.iconst 0, 1) := by decide +kernel
theorem dX12_street_126 : decode cX12_street 126 = .ok (.istore_n 2, 1) := by decide +kernel
theorem dX12_street_127 : decode cX12_street 127 = .ok (.aload_n 0, 1) := by decide +kernel
theorem dX12_street_128 : decode cX12_street 128 = .ok (.invokevirtual 109, 3) := by decide +kernel
theorem dX12_street_131 : decode cX12_street 131 = .ok (.ifCond .eq 226, 3) := by decide +kernel
theorem dX12_street_134 : decode cX12_street 134 = .ok (.aload_n 0, 1) := by decide +kernel
theorem dX12_street_135 : decode cX12_street 135 = .ok (.invokevirtual 182, 3) := by decide +kernel
theorem dX12_street_138 : decode cX12_street 138 = .ok (.ifCond .eq 219, 3) := by decide +kernel
theorem dX12_street_141 : decode cX12_street 141 = .ok (.aload_n 0, 1) := by decide +kernel
theorem dX12_street_142 : decode cX12_street 142 = .ok (.invokevirtual 145, 3) := by decide +kernel
theorem dX12_street_145 : decode cX12_street 145 = .ok (.istore_n 3, 1) := by decide +kernel
theorem dX12_street_146 : decode cX12_street 146 = .ok (.aload_n 0, 1) := by decide +kernel
theorem dX12_street_147 : decode cX12_street 147 = .ok (.ldc 185, 2) := by decide +kernel
theorem dX12_street_149 : decode cX12_street 149 = .ok (.invokevirtual 187, 3) := by decide +kernel
theorem dX12_street_15 : decode cX12_street 15 = .ok (.if_icmp .gt 7, 3) := by decide +kernel
theorem dX12_street_152 : decode cX12_street 152 = .ok (.istore 4, 2) := by decide +kernel
theorem dX12_street_154 : decode cX12_street 154 = .ok (.iload 4, 2) := by decide +kernel
theorem dX12_street_156 : decode cX12_street 156 = .ok (.ifCond .ne 59, 3) := by decide +kernel
theorem dX12_street_159 : decode cX12_street 159 = .ok (.iload_n 3, 1) := by decide +kernel
theorem dX12_street_160 : decode cX12_street 160 = .ok (.ldc 154, 2) := by decide +kernel
theorem dX12_street_162 : decode cX12_street 162 = .ok (.invokestatic 135, 3) := by decide +kernel
theorem dX12_street_165 : decode cX12_street 165 = .ok (.if_icmp .eq 50, 3) := by decide +kernel
theorem dX12_street_168 : decode cX12_street 168 = .ok (.iload_n 3, 1) := by decide +kernel
theorem dX12_street_169 : decode cX12_street 169 = .ok (.ldc 155, 2) := by decide +kernel
theorem dX12_street_171 : decode cX12_street 171 = .ok (.invokestatic 135, 3) := by decide +kernel
theorem dX12_street_174 : decode cX12_street 174 = .ok (.if_icmp .eq 41, 3) := by decide +kernel
theorem dX12_street_177 : decode cX12_street 177 = .ok (.iload_n 3, 1) := by decide +kernel
theorem dX12_street_178 : decode cX12_street 178 = .ok (.ldc 157, 2) := by decide +kernel
theorem dX12_street_18 : decode cX12_street 18 = .ok (.iconst 1, 1) := by decide +kernel
theorem dX12_street_180 : decode cX12_street 180 = .ok (.invokestatic 135, 3) := by decide +kernel
theorem dX12_street_183 : decode cX12_street 183 = .ok (.if_icmp .eq 32, 3) := by decide +kernel
theorem dX12_street_186 : decode cX12_street 186 = .ok (.iload_n 3, 1) := by decide +kernel
theorem dX12_street_187 : decode cX12_street 187 = .ok (.ldc 162, 2) := by decide +kernel
theorem dX12_street_189 : decode cX12_street 189 = .ok (.invokestatic 135, 3) := by decide +kernel
theorem dX12_street_19 : decode cX12_street 19 = .ok (.goto 4, 3) := by decide +kernel
theorem dX12_street_192 : decode cX12_street 192 = .ok (.if_icmp .eq 23, 3) := by decide +kernel
theorem dX12_street_195 : decode cX12_street 195 = .ok (.iload_n 3, 1) := by decide +kernel
theorem dX12_street_196 : decode cX12_street 196 = .ok (.invokestatic 167, 3) := by decide +kernel
theorem dX12_street_199 : decode cX12_street 199 = .ok (.iconst (-1), 1) := by decide +kernel
theorem dX12_street_2 : decode cX12_street 2 = .ok (.putfield 1, 3) := by decide +kernel
theorem dX12_street_200 : decode cX12_street 200 = .ok (.if_icmp .ne 15, 3) := by decide +kernel
theorem dX12_street_203 : decode cX12_street 203 = .ok (.aload_n 0, 1) := by decide +kernel
theorem dX12_street_204 : decode cX12_street 204 = .ok (.iconst 1, 1) := by decide +kernel
theorem dX12_street_205 : decode cX12_street 205 = .ok (.aload_n 0, 1) := by decide +kernel
theorem dX12_street_206 : decode cX12_street 206 = .ok (.getfield 86, 3) := by decide +kernel
theorem dX12_street_209 : decode cX12_street 209 = .ok (.invokevirtual 116, 3) := by decide +kernel
theorem dX12_street_212 : decode cX12_street 212 = .ok (.goto 117, 3) := by decide +kernel
theorem dX12_street_215 : decode cX12_street 215 = .ok (.iload_n 2, 1) := by decide +kernel
theorem dX12_street_216 : decode cX12_street 216 = .ok (.bipush 60, 2) := by decide +kernel
theorem dX12_street_218 : decode cX12_street 218 = .ok (.if_icmp .eq 77, 3) := by decide +kernel
theorem dX12_street_22 : decode cX12_street 22 = .ok (.iconst 0, 1) := by decide +kernel
theorem dX12_street_221 : decode cX12_street 221 = .ok (.iload_n 3, 1) := by decide +kernel
theorem dX12_street_222 : decode cX12_street 222 = .ok (.ldc 157, 2) := by decide +kernel
theorem dX12_street_224 : decode cX12_street 224 = .ok (.invokestatic 135, 3) := by decide +kernel
theorem dX12_street_227 : decode cX12_street 227 = .ok (.if_icmp .ne 14, 3) := by decide +kernel
theorem dX12_street_23 : decode cX12_street 23 = .ok (.iconst 1, 1) := by decide +kernel
theorem dX12_street_230 : decode cX12_street 230 = .ok (.aload_n 0, 1) := by decide +kernel
theorem dX12_street_231 : decode cX12_street 231 = .ok (.getfield 26, 3) := by decide +kernel
theorem dX12_street_234 : decode cX12_street 234 = .ok (.iconst 2, 1) := by decide +kernel
theorem dX12_street_235 : decode cX12_street 235 = .ok (.iaload, 1) := by decide +kernel
theorem dX12_street_236 : decode cX12_street 236 = .ok (.bipush 6, 2) := by decide +kernel
theorem dX12_street_238 : decode cX12_street 238 = .ok (.if_icmp .eq 57, 3) := by decide +kernel
theorem dX12_street_24 : decode cX12_street 24 = .ok (.iconst 2, 1) := by decide +kernel
theorem dX12_street_241 : decode cX12_street 241 = .ok (.iload_n 3, 1) := by decide +kernel
theorem dX12_street_242 : decode cX12_street 242 = .ok (.ldc 162, 2) := by decide +kernel
theorem dX12_street_244 : decode cX12_street 244 = .ok (.invokestatic 135, 3) := by decide +kernel
theorem dX12_street_247 : decode cX12_street 247 = .ok (.if_icmp .ne 14, 3) := by decide +kernel
theorem dX12_street_25 : decode cX12_street 25 = .ok (.invokevirtual 175, 3) := by decide +kernel
theorem dX12_street_250 : decode cX12_street 250 = .ok (.aload_n 0, 1) := by decide +kernel
theorem dX12_street_251 : decode cX12_street 251 = .ok (.getfield 26, 3) := by decide +kernel
theorem dX12_street_254 : decode cX12_street 254 = .ok (.iconst 3, 1) := by decide +kernel
theorem dX12_street_255 : decode cX12_street 255 = .ok (.iaload, 1) := by decide +kernel
theorem dX12_street_256 : decode cX12_street 256 = .ok (.bipush 8, 2) := by decide +kernel
theorem dX12_street_258 : decode cX12_street 258 = .ok (.if_icmp .eq 37, 3) := by decide +kernel
theorem dX12_street_261 : decode cX12_street 261 = .ok (.iload 4, 2) := by decide +kernel
theorem dX12_street_263 : decode cX12_street 263 = .ok (.ifCond .eq 13, 3) := by decide +kernel
theorem dX12_street_266 : decode cX12_street 266 = .ok (.aload_n 0, 1) := by decide +kernel
theorem dX12_street_267 : decode cX12_street 267 = .ok (.getfield 26, 3) := by decide +kernel
theorem dX12_street_270 : decode cX12_street 270 = .ok (.iconst 4, 1) := by decide +kernel
theorem dX12_street_271 : decode cX12_street 271 = .ok (.iaload, 1) := by decide +kernel
theorem dX12_street_272 : decode cX12_street 272 = .ok (.iconst 2, 1) := by decide +kernel
theorem dX12_street_273 : decode cX12_street 273 = .ok (.if_icmp .eq 22, 3) := by decide +kernel
theorem dX12_street_276 : decode cX12_street 276 = .ok (.iload_n 3, 1) := by decide +kernel
theorem dX12_street_277 : decode cX12_street 277 = .ok (.invokestatic 167, 3) := by decide +kernel
theorem dX12_street_28 : decode cX12_street 28 = .ok (.ifCond .ne 5, 3) := by decide +kernel
theorem dX12_street_280 : decode cX12_street 280 = .ok (.iconst (-1), 1) := by decide +kernel
theorem dX12_street_281 : decode cX12_street 281 = .ok (.if_icmp .eq 26, 3) := by decide +kernel
theorem dX12_street_284 : decode cX12_street 284 = .ok (.aload_n 0, 1) := by decide +kernel
theorem dX12_street_285 : decode cX12_street 285 = .ok (.getfield 26, 3) := by decide +kernel
theorem dX12_street_288 : decode cX12_street 288 = .ok (.iconst 5, 1) := by decide +kernel
theorem dX12_street_289 : decode cX12_street 289 = .ok (.iaload, 1) := by decide +kernel
theorem dX12_street_290 : decode cX12_street 290 = .ok (.bipush 8, 2) := by decide +kernel
theorem dX12_street_292 : decode cX12_street 292 = .ok (.if_icmp .ne 15, 3) := by decide +kernel
theorem dX12_street_295 : decode cX12_street 295 = .ok (.aload_n 0, 1) := by decide +kernel
theorem dX12_street_296 : decode cX12_street 296 = .ok (.iconst 3, 1) := by decide +kernel
theorem dX12_street_297 : decode cX12_street 297 = .ok (.aload_n 0, 1) := by decide +kernel
theorem dX12_street_298 : decode cX12_street 298 = .ok (.getfield 86, 3) := by decide +kernel
theorem dX12_street_301 : decode cX12_street 301 = .ok (.invokevirtual 116, 3) := by decide +kernel
theorem dX12_street_304 : decode cX12_street 304 = .ok (.goto 25, 3) := by decide +kernel
theorem dX12_street_307 : decode cX12_street 307 = .ok (.iload_n 3, 1) := by decide +kernel
theorem dX12_street_308 : decode cX12_street 308 = .ok (.ldc 154, 2) := by decide +kernel
theorem dX12_street_31 : decode cX12_street 31 = .ok (.iconst 0, 1) := by decide +kernel
theorem dX12_street_310 : decode cX12_street 310 = .ok (.invokestatic 135, 3) := by decide +kernel
theorem dX12_street_313 : decode cX12_street 313 = .ok (.if_icmp .ne 16, 3) := by decide +kernel
theorem dX12_street_316 : decode cX12_street 316 = .ok (.iload_n 2, 1) := by decide +kernel
theorem dX12_street_317 : decode cX12_street 317 = .ok (.ifCond .le 12, 3) := by decide +kernel
theorem dX12_street_32 : decode cX12_street 32 = .ok (.ireturn, 1) := by decide +kernel
theorem dX12_street_320 : decode cX12_street 320 = .ok (.aload_n 0, 1) := by decide +kernel
theorem dX12_street_321 : decode cX12_street 321 = .ok (.iconst 4, 1) := by decide +kernel
theorem dX12_street_322 : decode cX12_street 322 = .ok (.aload_n 0, 1) := by decide +kernel
theorem dX12_street_323 : decode cX12_street 323 = .ok (.getfield 86, 3) := by decide +kernel
theorem dX12_street_326 : decode cX12_street 326 = .ok (.invokevirtual 116, 3) := by decide +kernel
theorem dX12_street_329 : decode cX12_street 329 = .ok (.aload_n 0, 1) := by decide +kernel
theorem dX12_street_33 : decode cX12_street 33 = .ok (.aload_n 0, 1) := by decide +kernel
theorem dX12_street_330 : decode cX12_street 330 = .ok (.invokevirtual 109, 3) := by decide +kernel
theorem dX12_street_333 : decode cX12_street 333 = .ok (.ifCond .ne 6, 3) := by decide +kernel
theorem dX12_street_336 : decode cX12_street 336 = .ok (.goto 21, 3) := by decide +kernel
theorem dX12_street_339 : decode cX12_street 339 = .ok (.aload_n 0, 1) := by decide +kernel
theorem dX12_street_34 : decode cX12_street 34 = .ok (.iload_n 1, 1) := by decide +kernel
theorem dX12_street_340 : decode cX12_street 340 = .ok (.iload 4, 2) := by decide +kernel
theorem dX12_street_342 : decode cX12_street 342 = .ok (.invokevirtual 191, 3) := by decide +kernel
theorem dX12_street_345 : decode cX12_street 345 = .ok (.aload_n 0, 1) := by decide +kernel
theorem dX12_street_346 : decode cX12_street 346 = .ok (.bipush 59, 2) := by decide +kernel
theorem dX12_street_348 : decode cX12_street 348 = .ok (.invokevirtual 195, 3) := by decide +kernel
theorem dX12_street_35 : decode cX12_street 35 = .ok (.invokevirtual 179, 3) := by decide +kernel
theorem dX12_street_351 : decode cX12_street 351 = .ok (.iinc 2 1, 3) := by decide +kernel
theorem dX12_street_354 : decode cX12_street 354 = .ok (.goto (-227), 3) := by decide +kernel
theorem dX12_street_357 : decode cX12_street 357 = .ok (.aload_n 0, 1) := by decide +kernel
theorem dX12_street_358 : decode cX12_street 358 = .ok (.invokevirtual 109, 3) := by decide +kernel
theorem dX12_street_361 : decode cX12_street 361 = .ok (.ifCond .ne 9, 3) := by decide +kernel
theorem dX12_street_364 : decode cX12_street 364 = .ok (.aload_n 0, 1) := by decide +kernel
theorem dX12_street_365 : decode cX12_street 365 = .ok (.iconst 0, 1) := by decide +kernel
theorem dX12_street_366 : decode cX12_street 366 = .ok (.invokevirtual 198, 3) := by decide +kernel
theorem dX12_street_369 : decode cX12_street 369 = .ok (.ireturn, 1) := by decide +kernel
theorem dX12_street_370 : decode cX12_street 370 = .ok (.aload_n 0, 1) := by decide +kernel
theorem dX12_street_371 : decode cX12_street 371 = .ok (.getfield 32, 3) := by decide +kernel
theorem dX12_street_374 : decode cX12_street 374 = .ok (.sipush 215, 3) := by decide +kernel
theorem dX12_street_377 : decode cX12_street 377 = .ok (.aload_n 0, 1) := by decide +kernel
theorem dX12_street_378 : decode cX12_street 378 = .ok (.getfield 26, 3) := by decide +kernel
theorem dX12_street_38 : decode cX12_street 38 = .ok (.iconst 0, 1) := by decide +kernel
theorem dX12_street_381 : decode cX12_street 381 = .ok (.iconst 3, 1) := by decide +kernel
theorem dX12_street_382 : decode cX12_street 382 = .ok (.iaload, 1) := by decide +kernel
theorem dX12_street_383 : decode cX12_street 383 = .ok (.iastore, 1) := by decide +kernel
theorem dX12_street_384 : decode cX12_street 384 = .ok (.iconst 0, 1) := by decide +kernel
theorem dX12_street_385 : decode cX12_street 385 = .ok (.istore_n 3, 1) := by decide +kernel
theorem dX12_street_386 : decode cX12_street 386 = .ok (.iload_n 3, 1) := by decide +kernel
theorem dX12_street_387 : decode cX12_street 387 = .ok (.bipush 68, 2) := by decide +kernel
theorem dX12_street_389 : decode cX12_street 389 = .ok (.if_icmp .ge 21, 3) := by decide +kernel
theorem dX12_street_39 : decode cX12_street 39 = .ok (.istore_n 2, 1) := by decide +kernel
theorem dX12_street_392 : decode cX12_street 392 = .ok (.aload_n 0, 1) := by decide +kernel
theorem dX12_street_393 : decode cX12_street 393 = .ok (.getfield 23, 3) := by decide +kernel
theorem dX12_street_396 : decode cX12_street 396 = .ok (.iload_n 3, 1) := by decide +kernel
theorem dX12_street_397 : decode cX12_street 397 = .ok (.aload_n 0, 1) := by decide +kernel
theorem dX12_street_398 : decode cX12_street 398 = .ok (.getfield 26, 3) := by decide +kernel
theorem dX12_street_40 : decode cX12_street 40 = .ok (.iload_n 2, 1) := by decide +kernel
theorem dX12_street_401 : decode cX12_street 401 = .ok (.iload_n 3, 1) := by decide +kernel
theorem dX12_street_402 : decode cX12_street 402 = .ok (.iaload, 1) := by decide +kernel
theorem dX12_street_403 : decode cX12_street 403 = .ok (.iastore, 1) := by decide +kernel
theorem dX12_street_404 : decode cX12_street 404 = .ok (.iinc 3 1, 3) := by decide +kernel
theorem dX12_street_407 : decode cX12_street 407 = .ok (.goto (-21), 3) := by decide +kernel
theorem dX12_street_41 : decode cX12_street 41 = .ok (.bipush 68, 2) := by decide +kernel
theorem dX12_street_410 : decode cX12_street 410 = .ok (.iconst 0, 1) := by decide +kernel
theorem dX12_street_411 : decode cX12_street 411 = .ok (.istore_n 3, 1) := by decide +kernel
theorem dX12_street_412 : decode cX12_street 412 = .ok (.iload_n 3, 1) := by decide +kernel
theorem dX12_street_413 : decode cX12_street 413 = .ok (.sipush 389, 3) := by decide +kernel
theorem dX12_street_416 : decode cX12_street 416 = .ok (.if_icmp .ge 21, 3) := by decide +kernel
theorem dX12_street_419 : decode cX12_street 419 = .ok (.aload_n 0, 1) := by decide +kernel
theorem dX12_street_420 : decode cX12_street 420 = .ok (.getfield 29, 3) := by decide +kernel
theorem dX12_street_423 : decode cX12_street 423 = .ok (.iload_n 3, 1) := by decide +kernel
theorem dX12_street_424 : decode cX12_street 424 = .ok (.aload_n 0, 1) := by decide +kernel
theorem dX12_street_425 : decode cX12_street 425 = .ok (.getfield 32, 3) := by decide +kernel
theorem dX12_street_428 : decode cX12_street 428 = .ok (.iload_n 3, 1) := by decide +kernel
theorem dX12_street_429 : decode cX12_street 429 = .ok (.iaload, 1) := by decide +kernel
theorem dX12_street_43 : decode cX12_street 43 = .ok (.if_icmp .ge 16, 3) := by decide +kernel
theorem dX12_street_430 : decode cX12_street 430 = .ok (.iastore, 1) := by decide +kernel
theorem dX12_street_431 : decode cX12_street 431 = .ok (.iinc 3 1, 3) := by decide +kernel
theorem dX12_street_434 : decode cX12_street 434 = .ok (.goto (-22), 3) := by decide +kernel
theorem dX12_street_437 : decode cX12_street 437 = .ok (.aload_n 0, 1) := by decide +kernel
theorem dX12_street_438 : decode cX12_street 438 = .ok (.iconst 0, 1) := by decide +kernel
theorem dX12_street_439 : decode cX12_street 439 = .ok (.putfield 201, 3) := by decide +kernel
theorem dX12_street_442 : decode cX12_street 442 = .ok (.aload_n 0, 1) := by decide +kernel
theorem dX12_street_443 : decode cX12_street 443 = .ok (.aload_n 0, 1) := by decide +kernel
theorem dX12_street_444 : decode cX12_street 444 = .ok (.getfield 23, 3) := by decide +kernel
theorem dX12_street_447 : decode cX12_street 447 = .ok (.iconst 0, 1) := by decide +kernel
theorem dX12_street_448 : decode cX12_street 448 = .ok (.iaload, 1) := by decide +kernel
theorem dX12_street_449 : decode cX12_street 449 = .ok (.aload_n 0, 1) := by decide +kernel
theorem dX12_street_450 : decode cX12_street 450 = .ok (.getfield 23, 3) := by decide +kernel
theorem dX12_street_453 : decode cX12_street 453 = .ok (.iconst 1, 1) := by decide +kernel
theorem dX12_street_454 : decode cX12_street 454 = .ok (.iaload, 1) := by decide +kernel
theorem dX12_street_455 : decode cX12_street 455 = .ok (.imul, 1) := by decide +kernel
theorem dX12_street_456 : decode cX12_street 456 = .ok (.invokevirtual 198, 3) := by decide +kernel
theorem dX12_street_459 : decode cX12_street 459 = .ok (.ireturn, 1) := by decide +kernel
theorem dX12_street_46 : decode cX12_street 46 = .ok (.aload_n 0, 1) := by decide +kernel
theorem dX12_street_47 : decode cX12_street 47 = .ok (.getfield 26, 3) := by decide +kernel
theorem dX12_street_5 : decode cX12_street 5 = .ok (.aload_n 0, 1) := by decide +kernel
theorem dX12_street_50 : decode cX12_street 50 = .ok (.iload_n 2, 1) := by decide +kernel
theorem dX12_street_51 : decode cX12_street 51 = .ok (.iconst 0, 1) := by decide +kernel
theorem dX12_street_52 : decode cX12_street 52 = .ok (.iastore, 1) := by decide +kernel
theorem dX12_street_53 : decode cX12_street 53 = .ok (.iinc 2 1, 3) := by decide +kernel
theorem dX12_street_56 : decode cX12_street 56 = .ok (.goto (-16), 3) := by decide +kernel
theorem dX12_street_59 : decode cX12_street 59 = .ok (.iconst 0, 1) := by decide +kernel
theorem dX12_street_6 : decode cX12_street 6 = .ok (.iload_n 1, 1) := by decide +kernel
theorem dX12_street_60 : decode cX12_street 60 = .ok (.istore_n 2, 1) := by decide +kernel
theorem dX12_street_61 : decode cX12_street 61 = .ok (.iload_n 2, 1) := by decide +kernel
theorem dX12_street_62 : decode cX12_street 62 = .ok (.sipush 389, 3) := by decide +kernel
theorem dX12_street_65 : decode cX12_street 65 = .ok (.if_icmp .ge 45, 3) := by decide +kernel
theorem dX12_street_68 : decode cX12_street 68 = .ok (.aload_n 0, 1) := by decide +kernel
theorem dX12_street_69 : decode cX12_street 69 = .ok (.getfield 32, 3) := by decide +kernel
theorem dX12_street_7 : decode cX12_street 7 = .ok (.ifCond .lt 15, 3) := by decide +kernel
theorem dX12_street_72 : decode cX12_street 72 = .ok (.iload_n 2, 1) := by decide +kernel
theorem dX12_street_73 : decode cX12_street 73 = .ok (.iload_n 2, 1) := by decide +kernel
theorem dX12_street_74 : decode cX12_street 74 = .ok (.bipush 96, 2) := by decide +kernel
theorem dX12_street_76 : decode cX12_street 76 = .ok (.if_icmp .ge 8, 3) := by decide +kernel
theorem dX12_street_79 : decode cX12_street 79 = .ok (.bipush 50, 2) := by decide +kernel
theorem dX12_street_81 : decode cX12_street 81 = .ok (.goto 22, 3) := by decide +kernel
theorem dX12_street_84 : decode cX12_street 84 = .ok (.iload_n 2, 1) := by decide +kernel
theorem dX12_street_85 : decode cX12_street 85 = .ok (.sipush 353, 3) := by decide +kernel
theorem dX12_street_88 : decode cX12_street 88 = .ok (.if_icmp .lt 14, 3) := by decide +kernel
theorem dX12_street_91 : decode cX12_street 91 = .ok (.iload_n 2, 1) := by decide +kernel
theorem dX12_street_92 : decode cX12_street 92 = .ok (.sipush 357, 3) := by decide +kernel
theorem dX12_street_95 : decode cX12_street 95 = .ok (.if_icmp .ge 7, 3) := by decide +kernel
theorem dX12_street_98 : decode cX12_street 98 = .ok (.iconst 1, 1) := by decide +kernel
theorem dX12_street_99 : decode cX12_street 99 = .ok (.goto 4, 3) := by decide +kernel