theorem dL_acts_104 : decode cL_acts 104 = .ok (.iconst 1, 1) := by decide +kernel
theorem dL_acts_105 : decode cL_acts 105 = .ok (.iadd, 1) := by decide +kernel
theorem dL_acts_106 : decode cL_acts 106 = .ok (.iastore, 1) := by decide +kernel
theorem dL_acts_107 : decode cL_acts 107 = .ok (.aload 6, 2) := by decide +kernel
theorem dL_acts_109 : decode cL_acts 109 = .ok (.iconst 2, 1) := by decide +kernel
theorem dL_acts_110 : decode cL_acts 110 = .ok (.sipush 128, 3) := by decide +kernel
theorem dL_acts_113 : decode cL_acts 113 = .ok (.aload 6, 2) := by decide +kernel
theorem dL_acts_115 : decode cL_acts 115 = .ok (.iconst 2, 1) := by decide +kernel
theorem dL_acts_116 : decode cL_acts 116 = .ok (.iaload, 1) := by decide +kernel
theorem dL_acts_117 : decode cL_acts 117 = .ok (.imul, 1) := by decide +kernel
theorem dL_acts_118 : decode cL_acts 118 = .ok (.iload 13, 2) := by decide +kernel
theorem dL_acts_120 : decode cL_acts 120 = .ok (.iadd, 1) := by decide +kernel
theorem dL_acts_121 : decode cL_acts 121 = .ok (.iastore, 1) := by decide +kernel
theorem dL_acts_122 : decode cL_acts 122 = .ok (.aload_n 0, 1) := by decide +kernel
theorem dL_acts_123 : decode cL_acts 123 = .ok (.iload 13, 2) := by decide +kernel
theorem dL_acts_125 : decode cL_acts 125 = .ok (.invokestatic 112, 3) := by decide +kernel
theorem dL_acts_128 : decode cL_acts 128 = .ok (.aload 6, 2) := by decide +kernel
theorem dL_acts_130 : decode cL_acts 130 = .ok (.iconst 1, 1) := by decide +kernel
theorem dL_acts_131 : decode cL_acts 131 = .ok (.iaload, 1) := by decide +kernel
theorem dL_acts_132 : decode cL_acts 132 = .ok (.if_icmp .ne 7, 3) := by decide +kernel
theorem dL_acts_135 : decode cL_acts 135 = .ok (.iconst 1, 1) := by decide +kernel
theorem dL_acts_136 : decode cL_acts 136 = .ok (.goto 4, 3) := by decide +kernel
theorem dL_acts_139 : decode cL_acts 139 = .ok (.iconst 0, 1) := by decide +kernel
theorem dL_acts_140 : decode cL_acts 140 = .ok (.ireturn, 1) := by decide +kernel
theorem dL_acts_141 : decode cL_acts 141 = .ok (.iload 7, 2) := by decide +kernel
theorem dL_acts_143 : decode cL_acts 143 = .ok (.bipush 14, 2) := by decide +kernel
theorem dL_acts_145 : decode cL_acts 145 = .ok (.if_icmp .ge 159, 3) := by decide +kernel
theorem dL_acts_148 : decode cL_acts 148 = .ok (.aload 6, 2) := by decide +kernel
theorem dL_acts_150 : decode cL_acts 150 = .ok (.iconst 1, 1) := by decide +kernel
theorem dL_acts_151 : decode cL_acts 151 = .ok (.iaload, 1) := by decide +kernel
theorem dL_acts_152 : decode cL_acts 152 = .ok (.ifCond .ne 31, 3) := by decide +kernel
theorem dL_acts_155 : decode cL_acts 155 = .ok (.aload_n 0, 1) := by decide +kernel
theorem dL_acts_156 : decode cL_acts 156 = .ok (.iload 9, 2) := by decide +kernel
theorem dL_acts_158 : decode cL_acts 158 = .ok (.iload 10, 2) := by decide +kernel
theorem dL_acts_160 : decode cL_acts 160 = .ok (.iload 11, 2) := by decide +kernel
theorem dL_acts_162 : decode cL_acts 162 = .ok (.iconst 3, 1) := by decide +kernel
theorem dL_acts_163 : decode cL_acts 163 = .ok (.idiv, 1) := by decide +kernel
theorem dL_acts_164 : decode cL_acts 164 = .ok (.iload 11, 2) := by decide +kernel
theorem dL_acts_166 : decode cL_acts 166 = .ok (.iconst 3, 1) := by decide +kernel
theorem dL_acts_167 : decode cL_acts 167 = .ok (.irem, 1) := by decide +kernel
theorem dL_acts_168 : decode cL_acts 168 = .ok (.iconst 0, 1) := by decide +kernel
theorem dL_acts_169 : decode cL_acts 169 = .ok (.invokestatic 116, 3) := by decide +kernel
theorem dL_acts_172 : decode cL_acts 172 = .ok (.bipush (-5), 2) := by decide +kernel
theorem dL_acts_174 : decode cL_acts 174 = .ok (.if_icmp .ne 7, 3) := by decide +kernel
theorem dL_acts_177 : decode cL_acts 177 = .ok (.iconst 1, 1) := by decide +kernel
theorem dL_acts_178 : decode cL_acts 178 = .ok (.goto 4, 3) := by decide +kernel
theorem dL_acts_181 : decode cL_acts 181 = .ok (.iconst 0, 1) := by decide +kernel
theorem dL_acts_182 : decode cL_acts 182 = .ok (.ireturn, 1) := by decide +kernel
theorem dL_acts_183 : decode cL_acts 183 = .ok (.iload 8, 2) := by decide +kernel
theorem dL_acts_185 : decode cL_acts 185 = .ok (.sipush 162, 3) := by decide +kernel
theorem dL_acts_188 : decode cL_acts 188 = .ok (.idiv, 1) := by decide +kernel
theorem dL_acts_189 : decode cL_acts 189 = .ok (.iconst 3, 1) := by decide +kernel
theorem dL_acts_190 : decode cL_acts 190 = .ok (.irem, 1) := by decide +kernel
theorem dL_acts_191 : decode cL_acts 191 = .ok (.ifCond .ne 7, 3) := by decide +kernel
theorem dL_acts_194 : decode cL_acts 194 = .ok (.iconst 1, 1) := by decide +kernel
theorem dL_acts_195 : decode cL_acts 195 = .ok (.goto 4, 3) := by decide +kernel
theorem dL_acts_198 : decode cL_acts 198 = .ok (.iconst 0, 1) := by decide +kernel
theorem dL_acts_199 : decode cL_acts 199 = .ok (.istore 13, 2) := by decide +kernel
theorem dL_acts_201 : decode cL_acts 201 = .ok (.aload_n 1, 1) := by decide +kernel
theorem dL_acts_202 : decode cL_acts 202 = .ok (.aload_n 3, 1) := by decide +kernel
theorem dL_acts_203 : decode cL_acts 203 = .ok (.aload 4, 2) := by decide +kernel
theorem dL_acts_205 : decode cL_acts 205 = .ok (.aload 6, 2) := by decide +kernel
theorem dL_acts_207 : decode cL_acts 207 = .ok (.iload 9, 2) := by decide +kernel
theorem dL_acts_209 : decode cL_acts 209 = .ok (.iload 10, 2) := by decide +kernel
theorem dL_acts_211 : decode cL_acts 211 = .ok (.iload 11, 2) := by decide +kernel
theorem dL_acts_213 : decode cL_acts 213 = .ok (.invokestatic 119, 3) := by decide +kernel
theorem dL_acts_216 : decode cL_acts 216 = .ok (.aload_n 1, 1) := by decide +kernel
theorem dL_acts_217 : decode cL_acts 217 = .ok (.iload 12, 2) := by decide +kernel
theorem dL_acts_219 : decode cL_acts 219 = .ok (.aload 6, 2) := by decide +kernel
theorem dL_acts_221 : decode cL_acts 221 = .ok (.iconst 2, 1) := by decide +kernel
theorem dL_acts_222 : decode cL_acts 222 = .ok (.iaload, 1) := by decide +kernel
theorem dL_acts_223 : decode cL_acts 223 = .ok (.iastore, 1) := by decide +kernel
theorem dL_acts_224 : decode cL_acts 224 = .ok (.aload_n 2, 1) := by decide +kernel
theorem dL_acts_225 : decode cL_acts 225 = .ok (.iconst 3, 1) := by decide +kernel
theorem dL_acts_226 : decode cL_acts 226 = .ok (.iload 9, 2) := by decide +kernel
theorem dL_acts_228 : decode cL_acts 228 = .ok (.imul, 1) := by decide +kernel
theorem dL_acts_229 : decode cL_acts 229 = .ok (.iload 10, 2) := by decide +kernel
theorem dL_acts_231 : decode cL_acts 231 = .ok (.iadd, 1) := by decide +kernel
theorem dL_acts_232 : decode cL_acts 232 = .ok (.aload_n 2, 1) := by decide +kernel
theorem dL_acts_233 : decode cL_acts 233 = .ok (.iconst 3, 1) := by decide +kernel
theorem dL_acts_234 : decode cL_acts 234 = .ok (.iload 9, 2) := by decide +kernel
theorem dL_acts_236 : decode cL_acts 236 = .ok (.imul, 1) := by decide +kernel
theorem dL_acts_237 : decode cL_acts 237 = .ok (.iload 10, 2) := by decide +kernel
theorem dL_acts_239 : decode cL_acts 239 = .ok (.iadd, 1) := by decide +kernel
theorem dL_acts_240 : decode cL_acts 240 = .ok (.iaload, 1) := by decide +kernel
theorem dL_acts_241 : decode cL_acts 241 = .ok (.iconst 1, 1) := by decide +kernel
theorem dL_acts_242 : decode cL_acts 242 = .ok (.iload 11, 2) := by decide +kernel
theorem dL_acts_244 : decode cL_acts 244 = .ok (.ishl, 1) := by decide +kernel
theorem dL_acts_245 : decode cL_acts 245 = .ok (.iconst (-1), 1) := by decide +kernel
theorem dL_acts_246 : decode cL_acts 246 = .ok (.ixor, 1) := by decide +kernel
theorem dL_acts_247 : decode cL_acts 247 = .ok (.iand, 1) := by decide +kernel
theorem dL_acts_248 : decode cL_acts 248 = .ok (.iload 13, 2) := by decide +kernel
theorem dL_acts_250 : decode cL_acts 250 = .ok (.ifCond .eq 10, 3) := by decide +kernel
theorem dL_acts_253 : decode cL_acts 253 = .ok (.iconst 1, 1) := by decide +kernel
theorem dL_acts_254 : decode cL_acts 254 = .ok (.iload 11, 2) := by decide +kernel
theorem dL_acts_256 : decode cL_acts 256 = .ok (.ishl, 1) := by decide +kernel
theorem dL_acts_257 : decode cL_acts 257 = .ok (.goto 4, 3) := by decide +kernel
theorem dL_acts_260 : decode cL_acts 260 = .ok (.iconst 0, 1) := by decide +kernel
theorem dL_acts_261 : decode cL_acts 261 = .ok (.ior, 1) := by decide +kernel
theorem dL_acts_262 : decode cL_acts 262 = .ok (.iastore, 1) := by decide +kernel
theorem dL_acts_263 : decode cL_acts 263 = .ok (.aload 6, 2) := by decide +kernel
theorem dL_acts_265 : decode cL_acts 265 = .ok (.iconst 1, 1) := by decide +kernel
theorem dL_acts_266 : decode cL_acts 266 = .ok (.iconst 0, 1) := by decide +kernel
theorem dL_acts_267 : decode cL_acts 267 = .ok (.iastore, 1) := by decide +kernel
theorem dL_acts_268 : decode cL_acts 268 = .ok (.aload 6, 2) := by decide +kernel
theorem dL_acts_270 : decode cL_acts 270 = .ok (.iconst 2, 1) := by decide +kernel
theorem dL_acts_271 : decode cL_acts 271 = .ok (.iconst 0, 1) := by decide +kernel
theorem dL_acts_272 : decode cL_acts 272 = .ok (.iastore, 1) := by decide +kernel
theorem dL_acts_273 : decode cL_acts 273 = .ok (.aload_n 0, 1) := by decide +kernel
theorem dL_acts_274 : decode cL_acts 274 = .ok (.iload 9, 2) := by decide +kernel
theorem dL_acts_276 : decode cL_acts 276 = .ok (.iload 10, 2) := by decide +kernel
theorem dL_acts_278 : decode cL_acts 278 = .ok (.iload 11, 2) := by decide +kernel
theorem dL_acts_280 : decode cL_acts 280 = .ok (.iconst 3, 1) := by decide +kernel
theorem dL_acts_281 : decode cL_acts 281 = .ok (.idiv, 1) := by decide +kernel
theorem dL_acts_282 : decode cL_acts 282 = .ok (.iload 11, 2) := by decide +kernel
theorem dL_acts_284 : decode cL_acts 284 = .ok (.iconst 3, 1) := by decide +kernel
theorem dL_acts_285 : decode cL_acts 285 = .ok (.irem, 1) := by decide +kernel
theorem dL_acts_286 : decode cL_acts 286 = .ok (.iload 13, 2) := by decide +kernel
theorem dL_acts_288 : decode cL_acts 288 = .ok (.invokestatic 116, 3) := by decide +kernel
theorem dL_acts_291 : decode cL_acts 291 = .ok (.aload_n 3, 1) := by decide +kernel
theorem dL_acts_292 : decode cL_acts 292 = .ok (.iload 9, 2) := by decide +kernel
theorem dL_acts_294 : decode cL_acts 294 = .ok (.iaload, 1) := by decide +kernel
theorem dL_acts_295 : decode cL_acts 295 = .ok (.if_icmp .ne 7, 3) := by decide +kernel
theorem dL_acts_298 : decode cL_acts 298 = .ok (.iconst 1, 1) := by decide +kernel
theorem dL_acts_299 : decode cL_acts 299 = .ok (.goto 4, 3) := by decide +kernel
theorem dL_acts_302 : decode cL_acts 302 = .ok (.iconst 0, 1) := by decide +kernel
theorem dL_acts_303 : decode cL_acts 303 = .ok (.ireturn, 1) := by decide +kernel
theorem dL_acts_304 : decode cL_acts 304 = .ok (.iload 7, 2) := by decide +kernel
theorem dL_acts_306 : decode cL_acts 306 = .ok (.bipush 14, 2) := by decide +kernel
theorem dL_acts_308 : decode cL_acts 308 = .ok (.if_icmp .ne 76, 3) := by decide +kernel
theorem dL_acts_311 : decode cL_acts 311 = .ok (.aload_n 1, 1) := by decide +kernel
theorem dL_acts_312 : decode cL_acts 312 = .ok (.iload 12, 2) := by decide +kernel
theorem dL_acts_314 : decode cL_acts 314 = .ok (.iaload, 1) := by decide +kernel
theorem dL_acts_315 : decode cL_acts 315 = .ok (.ifCond .ne 8, 3) := by decide +kernel
theorem dL_acts_318 : decode cL_acts 318 = .ok (.bipush (-5), 2) := by decide +kernel
theorem dL_acts_320 : decode cL_acts 320 = .ok (.goto 10, 3) := by decide +kernel
theorem dL_acts_323 : decode cL_acts 323 = .ok (.aload_n 1, 1) := by decide +kernel
theorem dL_acts_324 : decode cL_acts 324 = .ok (.iload 12, 2) := by decide +kernel
theorem dL_acts_326 : decode cL_acts 326 = .ok (.iaload, 1) := by decide +kernel
theorem dL_acts_327 : decode cL_acts 327 = .ok (.invokestatic 23, 3) := by decide +kernel
theorem dL_acts_330 : decode cL_acts 330 = .ok (.istore 13, 2) := by decide +kernel
theorem dL_acts_332 : decode cL_acts 332 = .ok (.iload 13, 2) := by decide +kernel
theorem dL_acts_334 : decode cL_acts 334 = .ok (.ifCond .le 23, 3) := by decide +kernel
theorem dL_acts_337 : decode cL_acts 337 = .ok (.aload_n 1, 1) := by decide +kernel
theorem dL_acts_338 : decode cL_acts 338 = .ok (.aload_n 3, 1) := by decide +kernel
theorem dL_acts_339 : decode cL_acts 339 = .ok (.aload 4, 2) := by decide +kernel
theorem dL_acts_341 : decode cL_acts 341 = .ok (.aload 6, 2) := by decide +kernel
theorem dL_acts_343 : decode cL_acts 343 = .ok (.iload 9, 2) := by decide +kernel
theorem dL_acts_345 : decode cL_acts 345 = .ok (.iload 10, 2) := by decide +kernel
theorem dL_acts_347 : decode cL_acts 347 = .ok (.iload 11, 2) := by decide +kernel
theorem dL_acts_349 : decode cL_acts 349 = .ok (.invokestatic 119, 3) := by decide +kernel
theorem dL_acts_352 : decode cL_acts 352 = .ok (.aload_n 1, 1) := by decide +kernel
theorem dL_acts_353 : decode cL_acts 353 = .ok (.iload 12, 2) := by decide +kernel
theorem dL_acts_355 : decode cL_acts 355 = .ok (.iconst 0, 1) := by decide +kernel
theorem dL_acts_356 : decode cL_acts 356 = .ok (.iastore, 1) := by decide +kernel
theorem dL_acts_357 : decode cL_acts 357 = .ok (.aload_n 0, 1) := by decide +kernel
theorem dL_acts_358 : decode cL_acts 358 = .ok (.iload 9, 2) := by decide +kernel
theorem dL_acts_360 : decode cL_acts 360 = .ok (.iload 10, 2) := by decide +kernel
theorem dL_acts_362 : decode cL_acts 362 = .ok (.iload 11, 2) := by decide +kernel
theorem dL_acts_364 : decode cL_acts 364 = .ok (.iconst 3, 1) := by decide +kernel
theorem dL_acts_365 : decode cL_acts 365 = .ok (.idiv, 1) := by decide +kernel
theorem dL_acts_366 : decode cL_acts 366 = .ok (.iload 11, 2) := by decide +kernel
theorem dL_acts_368 : decode cL_acts 368 = .ok (.iconst 3, 1) := by decide +kernel
theorem dL_acts_369 : decode cL_acts 369 = .ok (.irem, 1) := by decide +kernel
theorem dL_acts_370 : decode cL_acts 370 = .ok (.invokestatic 123, 3) := by decide +kernel
theorem dL_acts_373 : decode cL_acts 373 = .ok (.iload 13, 2) := by decide +kernel
theorem dL_acts_375 : decode cL_acts 375 = .ok (.if_icmp .ne 7, 3) := by decide +kernel
theorem dL_acts_378 : decode cL_acts 378 = .ok (.iconst 1, 1) := by decide +kernel
theorem dL_acts_379 : decode cL_acts 379 = .ok (.goto 4, 3) := by decide +kernel
theorem dL_acts_382 : decode cL_acts 382 = .ok (.iconst 0, 1) := by decide +kernel
theorem dL_acts_383 : decode cL_acts 383 = .ok (.ireturn, 1) := by decide +kernel
theorem dL_acts_384 : decode cL_acts 384 = .ok (.iload 7, 2) := by decide +kernel
theorem dL_acts_386 : decode cL_acts 386 = .ok (.bipush 15, 2) := by decide +kernel
theorem dL_acts_388 : decode cL_acts 388 = .ok (.if_icmp .ne 56, 3) := by decide +kernel
theorem dL_acts_391 : decode cL_acts 391 = .ok (.aload 5, 2) := by decide +kernel
theorem dL_acts_393 : decode cL_acts 393 = .ok (.iconst 3, 1) := by decide +kernel
theorem dL_acts_394 : decode cL_acts 394 = .ok (.iload 10, 2) := by decide +kernel
theorem dL_acts_396 : decode cL_acts 396 = .ok (.iadd, 1) := by decide +kernel
theorem dL_acts_397 : decode cL_acts 397 = .ok (.iload 8, 2) := by decide +kernel
theorem dL_acts_399 : decode cL_acts 399 = .ok (.bipush 6, 2) := by decide +kernel
theorem dL_acts_401 : decode cL_acts 401 = .ok (.idiv, 1) := by decide +kernel
theorem dL_acts_402 : decode cL_acts 402 = .ok (.iconst 4, 1) := by decide +kernel
theorem dL_acts_403 : decode cL_acts 403 = .ok (.irem, 1) := by decide +kernel
theorem dL_acts_404 : decode cL_acts 404 = .ok (.iastore, 1) := by decide +kernel
theorem dL_acts_405 : decode cL_acts 405 = .ok (.aload 5, 2) := by decide +kernel
theorem dL_acts_407 : decode cL_acts 407 = .ok (.bipush 6, 2) := by decide +kernel
theorem dL_acts_409 : decode cL_acts 409 = .ok (.iload 10, 2) := by decide +kernel
theorem dL_acts_411 : decode cL_acts 411 = .ok (.iadd, 1) := by decide +kernel
theorem dL_acts_412 : decode cL_acts 412 = .ok (.iload 8, 2) := by decide +kernel
theorem dL_acts_414 : decode cL_acts 414 = .ok (.bipush 24, 2) := by decide +kernel
theorem dL_acts_416 : decode cL_acts 416 = .ok (.idiv, 1) := by decide +kernel
theorem dL_acts_417 : decode cL_acts 417 = .ok (.bipush 6, 2) := by decide +kernel
theorem dL_acts_419 : decode cL_acts 419 = .ok (.irem, 1) := by decide +kernel
theorem dL_acts_420 : decode cL_acts 420 = .ok (.iastore, 1) := by decide +kernel
theorem dL_acts_421 : decode cL_acts 421 = .ok (.aload_n 0, 1) := by decide +kernel
theorem dL_acts_422 : decode cL_acts 422 = .ok (.iload 10, 2) := by decide +kernel
theorem dL_acts_424 : decode cL_acts 424 = .ok (.aload 5, 2) := by decide +kernel
theorem dL_acts_426 : decode cL_acts 426 = .ok (.iconst 3, 1) := by decide +kernel
theorem dL_acts_427 : decode cL_acts 427 = .ok (.iload 10, 2) := by decide +kernel
theorem dL_acts_429 : decode cL_acts 429 = .ok (.iadd, 1) := by decide +kernel
theorem dL_acts_430 : decode cL_acts 430 = .ok (.iaload, 1) := by decide +kernel
theorem dL_acts_431 : decode cL_acts 431 = .ok (.aload 5, 2) := by decide +kernel
theorem dL_acts_433 : decode cL_acts 433 = .ok (.bipush 6, 2) := by decide +kernel
theorem dL_acts_435 : decode cL_acts 435 = .ok (.iload 10, 2) := by decide +kernel
theorem dL_acts_437 : decode cL_acts 437 = .ok (.iadd, 1) := by decide +kernel
theorem dL_acts_438 : decode cL_acts 438 = .ok (.iaload, 1) := by decide +kernel
theorem dL_acts_439 : decode cL_acts 439 = .ok (.invokevirtual 127, 3) := by decide +kernel
theorem dL_acts_442 : decode cL_acts 442 = .ok (.iconst 1, 1) := by decide +kernel
theorem dL_acts_443 : decode cL_acts 443 = .ok (.ireturn, 1) := by decide +kernel
theorem dL_acts_444 : decode cL_acts 444 = .ok (.iconst 1, 1) := by decide +kernel
theorem dL_acts_445 : decode cL_acts 445 = .ok (.iload 8, 2) := by decide +kernel
theorem dL_acts_447 : decode cL_acts 447 = .ok (.iconst 2, 1) := by decide +kernel
theorem dL_acts_448 : decode cL_acts 448 = .ok (.irem, 1) := by decide +kernel
theorem dL_acts_449 : decode cL_acts 449 = .ok (.iadd, 1) := by decide +kernel
theorem dL_acts_450 : decode cL_acts 450 = .ok (.istore 13, 2) := by decide +kernel
theorem dL_acts_452 : decode cL_acts 452 = .ok (.iload 8, 2) := by decide +kernel
theorem dL_acts_454 : decode cL_acts 454 = .ok (.iconst 2, 1) := by decide +kernel
theorem dL_acts_455 : decode cL_acts 455 = .ok (.idiv, 1) := by decide +kernel
theorem dL_acts_456 : decode cL_acts 456 = .ok (.iconst 3, 1) := by decide +kernel
theorem dL_acts_457 : decode cL_acts 457 = .ok (.irem, 1) := by decide +kernel
theorem dL_acts_458 : decode cL_acts 458 = .ok (.istore 14, 2) := by decide +kernel
theorem dL_acts_460 : decode cL_acts 460 = .ok (.iload 13, 2) := by decide +kernel
theorem dL_acts_462 : decode cL_acts 462 = .ok (.iload 14, 2) := by decide +kernel
theorem dL_acts_464 : decode cL_acts 464 = .ok (.if_icmp .eq 17, 3) := by decide +kernel
theorem dL_acts_467 : decode cL_acts 467 = .ok (.aload 5, 2) := by decide +kernel
theorem dL_acts_469 : decode cL_acts 469 = .ok (.iload 14, 2) := by decide +kernel
theorem dL_acts_471 : decode cL_acts 471 = .ok (.iaload, 1) := by decide +kernel
theorem dL_acts_472 : decode cL_acts 472 = .ok (.iload 13, 2) := by decide +kernel
theorem dL_acts_474 : decode cL_acts 474 = .ok (.if_icmp .eq 7, 3) := by decide +kernel
theorem dL_acts_477 : decode cL_acts 477 = .ok (.iconst 1, 1) := by decide +kernel
theorem dL_acts_478 : decode cL_acts 478 = .ok (.goto 4, 3) := by decide +kernel
theorem dL_acts_481 : decode cL_acts 481 = .ok (.iconst 0, 1) := by decide +kernel
theorem dL_acts_482 : decode cL_acts 482 = .ok (.istore 15, 2) := by decide +kernel
theorem dL_acts_484 : decode cL_acts 484 = .ok (.aload 5, 2) := by decide +kernel
theorem dL_acts_486 : decode cL_acts 486 = .ok (.iload 13, 2) := by decide +kernel
theorem dL_acts_488 : decode cL_acts 488 = .ok (.iaload, 1) := by decide +kernel
theorem dL_acts_489 : decode cL_acts 489 = .ok (.istore 16, 2) := by decide +kernel
theorem dL_acts_491 : decode cL_acts 491 = .ok (.aload 5, 2) := by decide +kernel
theorem dL_acts_493 : decode cL_acts 493 = .ok (.iload 13, 2) := by decide +kernel
theorem dL_acts_495 : decode cL_acts 495 = .ok (.iload 15, 2) := by decide +kernel
theorem dL_acts_497 : decode cL_acts 497 = .ok (.ifCond .eq 8, 3) := by decide +kernel
theorem dL_acts_500 : decode cL_acts 500 = .ok (.iload 14, 2) := by decide +kernel
theorem dL_acts_502 : decode cL_acts 502 = .ok (.goto 5, 3) := by decide +kernel
theorem dL_acts_505 : decode cL_acts 505 = .ok (.iload 16, 2) := by decide +kernel
theorem dL_acts_507 : decode cL_acts 507 = .ok (.iastore, 1) := by decide +kernel
theorem dL_acts_508 : decode cL_acts 508 = .ok (.aload_n 0, 1) := by decide +kernel
theorem dL_acts_509 : decode cL_acts 509 = .ok (.iload 13, 2) := by decide +kernel
theorem dL_acts_511 : decode cL_acts 511 = .ok (.iload 14, 2) := by decide +kernel
theorem dL_acts_513 : decode cL_acts 513 = .ok (.invokestatic 131, 3) := by decide +kernel
theorem dL_acts_516 : decode cL_acts 516 = .ok (.iload 15, 2) := by decide +kernel
theorem dL_acts_518 : decode cL_acts 518 = .ok (.ifCond .eq 8, 3) := by decide +kernel
theorem dL_acts_521 : decode cL_acts 521 = .ok (.iload 16, 2) := by decide +kernel
theorem dL_acts_523 : decode cL_acts 523 = .ok (.goto 5, 3) := by decide +kernel
theorem dL_acts_526 : decode cL_acts 526 = .ok (.bipush (-5), 2) := by decide +kernel
theorem dL_acts_528 : decode cL_acts 528 = .ok (.if_icmp .ne 7, 3) := by decide +kernel
theorem dL_acts_531 : decode cL_acts 531 = .ok (.iconst 1, 1) := by decide +kernel
theorem dL_acts_532 : decode cL_acts 532 = .ok (.goto 4, 3) := by decide +kernel
theorem dL_acts_535 : decode cL_acts 535 = .ok (.iconst 0, 1) := by decide +kernel
theorem dL_acts_536 : decode cL_acts 536 = .ok (.ireturn, 1) := by decide +kernel
set_option maxRecDepth 20000 in
theorem ggL_holds_X2_init : GoodIn wsL_holds wsX2_init := goodIn_r _ [8, 9, 10, 11, 4, 12, 13, 14, 15, 16, 17, 18, 19, 20, 21, 22, 23, 24, 25, 26, 27, 28, 29, 30, 31, 32, 33, 34, 35, 36, 37, 38, 39, 40, 41, 42, 43, 44, 403, 404, 405, 406, 407, 408, 409, 410, 411, 412, 413, 414, 415] (by decide +kernel) (by decide +kernel)
set_option maxRecDepth 20000 in
theorem gL_holds_X2_init : GoodIn wsL_holds (wsX2_init) := ggL_holds_X2_init
set_option maxRecDepth 20000 in
theorem ggL_holds_X2_pairs : GoodIn wsL_holds wsX2_pairs := goodIn_r _ [48, 24, 49, 50, 51, 23, 52, 53, 403, 404, 405, 406, 407, 408, 409, 410, 411, 412, 413, 414, 415] (by decide +kernel) (by decide +kernel)
set_option maxRecDepth 20000 in
theorem gL_holds_X2_pairs : GoodIn wsL_holds (wsV RL 99 RX2 yX2_pairs wsX2_pairs) := goodIn_app (goodIn_of _ (by decide +kernel)) ggL_holds_X2_pairs
set_option maxRecDepth 20000 in
theorem ggL_holds_X2_draft : GoodIn wsL_holds wsX2_draft := goodIn_r _ [57, 16, 403, 404, 405, 406, 407, 408, 409, 410, 411, 412] (by decide +kernel) (by decide +kernel)
set_option maxRecDepth 20000 in
theorem gL_holds_X2_draft : GoodIn wsL_holds (wsV RL 103 RX2 yX2_draft wsX2_draft) := goodIn_app (goodIn_of _ (by decide +kernel)) ggL_holds_X2_draft
set_option maxRecDepth 20000 in
theorem ggL_holds_L_from : GoodIn wsL_holds wsL_from := goodIn_r _ [61, 62, 63] (by decide +kernel) (by decide +kernel)
set_option maxRecDepth 20000 in
theorem gL_holds_L_from : GoodIn wsL_holds (va_wsS RL 136 yL_from wsL_from) := goodIn_app (goodIn_of _ (by decide +kernel)) ggL_holds_L_from
set_option maxRecDepth 20000 in
theorem zz_L_acts_r1 : GoodIn wsL_holds wsL_acts_r1 := goodIn_r _ [67, 68, 60, 69, 70, 71, 72, 73, 3, 74, 75, 76, 77, 78, 16, 15, 79, 80, 81, 82, 83, 84, 85, 86] (by decide +kernel) (by decide +kernel)
set_option maxRecDepth 20000 in
theorem zz_L_acts_r2 : GoodIn wsL_holds wsL_acts_r2 := goodIn_r _ [87, 88, 89, 90, 91, 17, 92, 93, 19, 94, 95, 96, 97, 98, 99, 100, 101, 102, 103, 104, 105, 106, 107, 108] (by decide +kernel) (by decide +kernel)
set_option maxRecDepth 20000 in
theorem zz_L_acts_r3 : GoodIn wsL_holds wsL_acts_r3 := goodIn_r _ [109, 28, 110, 111, 112, 113, 114, 115, 116, 4, 117, 118, 119, 120, 121, 122, 123, 124, 125, 126, 127, 128, 129, 130] (by decide +kernel) (by decide +kernel)
set_option maxRecDepth 20000 in
theorem zz_L_acts_r4 : GoodIn wsL_holds wsL_acts_r4 := goodIn_r _ [131, 10, 11, 132, 133, 134, 135, 136, 137, 138, 18, 20, 139, 140, 141, 142, 143, 144, 145, 146, 147, 148, 149, 150] (by decide +kernel) (by decide +kernel)
set_option maxRecDepth 20000 in
theorem zz_L_acts_r5 : GoodIn wsL_holds wsL_acts_r5 := goodIn_r _ [151, 152, 153, 154, 155, 156, 157, 158, 159, 160, 161, 162, 24, 49, 50, 51, 23, 52, 53, 163, 164, 165, 166, 34] (by decide +kernel) (by decide +kernel)
set_option maxRecDepth 20000 in
theorem zz_L_acts_r6 : GoodIn wsL_holds wsL_acts_r6 := goodIn_r _ [167, 168, 169, 170, 171, 172, 173, 174, 175, 176, 177, 178, 179, 180, 181, 182, 183, 184, 185, 186, 187, 188, 189, 190] (by decide +kernel) (by decide +kernel)
set_option maxRecDepth 20000 in
theorem zz_L_acts_r7 : GoodIn wsL_holds wsL_acts_r7 := goodIn_r _ [191, 192, 193, 194, 195, 196, 197, 33, 198, 199, 200, 201, 202, 203, 204, 205, 206, 207, 208, 209, 210, 211, 212, 213] (by decide +kernel) (by decide +kernel)
set_option maxRecDepth 20000 in
theorem zz_L_acts_r8 : GoodIn wsL_holds wsL_acts_r8 := goodIn_r _ [214, 215, 216, 217, 218, 219, 220, 221, 222, 223, 224, 225, 226, 227, 228, 229, 230, 231, 232, 233, 234, 235, 236, 237] (by decide +kernel) (by decide +kernel)
set_option maxRecDepth 20000 in
theorem zz_L_acts_r9 : GoodIn wsL_holds wsL_acts_r9 := goodIn_r _ [238, 239, 240, 13, 14, 241, 242, 243, 244, 245, 246, 247, 248, 249, 250, 251, 12, 252, 253, 254, 255] (by decide +kernel) (by decide +kernel)
set_option maxRecDepth 20000 in
theorem zz_L_acts_wsX20 : GoodIn wsL_holds wsX20 := goodIn_r _ [403, 404, 405, 406, 407, 408, 409, 410, 411, 412] (by decide +kernel) (by decide +kernel)
set_option maxRecDepth 20000 in
theorem zz_L_acts_wsX00 : GoodIn wsL_holds wsX00 := goodIn_r _ [416, 417, 418] (by decide +kernel) (by decide +kernel)
set_option maxRecDepth 20000 in
theorem zz_L_acts_wsX10 : GoodIn wsL_holds wsX10 := goodIn_r _ [419, 420, 421] (by decide +kernel) (by decide +kernel)
set_option maxRecDepth 20000 in
theorem zz_L_acts_wsJx4a65c0 : GoodIn wsL_holds wsJx4a65c0 := goodIn_r _ [413, 414, 415] (by decide +kernel) (by decide +kernel)
theorem zz_L_acts_cL_acts : GoodIn wsL_holds [(.code yL_acts cL_acts 17 (some .boolean) : Cond)] := fun w hw => by
  rcases List.mem_singleton.mp hw with rfl
  exact ⟨(List.mem_cons_of_mem _ (List.mem_append_left _ (List.mem_append_left _ (List.mem_append_left _ (List.mem_append_left _ (List.mem_append_left _ (List.mem_append_left _ (List.mem_append_left _ (List.mem_append_right _ (List.mem_append_right _ (List.mem_append_left _ (List.mem_of_getElem? (l := wsL_holds_r3) (i := 17) rfl)))))))))))), Or.inl rfl⟩
set_option maxRecDepth 20000 in
theorem ggL_holds_L_acts : GoodIn wsL_holds wsL_acts := goodIn_ca (goodIn_ca (goodIn_ca (goodIn_cons zz_L_acts_cL_acts (goodIn_app (goodIn_app (goodIn_app (goodIn_app (goodIn_app zz_L_acts_r1 (goodIn_app zz_L_acts_r2 (goodIn_app zz_L_acts_r3 (goodIn_app zz_L_acts_r4 (goodIn_app zz_L_acts_r5 (goodIn_app zz_L_acts_r6 (goodIn_app zz_L_acts_r7 (goodIn_app zz_L_acts_r8 zz_L_acts_r9)))))))) zz_L_acts_wsX20) zz_L_acts_wsX00) zz_L_acts_wsX10) zz_L_acts_wsJx4a65c0)) (goodIn_sub (fun _ h => List.mem_cons_of_mem _ (List.mem_append_left _ (List.mem_append_left _ (List.mem_append_right _ h)))) (by decide +kernel))) (goodIn_sub (fun _ h => List.mem_cons_of_mem _ (List.mem_append_left _ (List.mem_append_right _ h))) (by decide +kernel))) (goodIn_sub (fun _ h => List.mem_cons_of_mem _ (List.mem_append_right _ h)) (by decide +kernel))
set_option maxRecDepth 20000 in
theorem gL_holds_L_acts : GoodIn wsL_holds (va_wsS RL 140 yL_acts wsL_acts) := goodIn_app (goodIn_of _ (by decide +kernel)) ggL_holds_L_acts
set_option maxRecDepth 20000 in
theorem zz_L_isTold_r1 : GoodIn wsL_holds wsL_isTold_r1 := goodIn_r _ [259, 260, 60, 261, 262, 263, 264, 265, 266, 267, 268, 269, 270, 271, 272, 273, 3, 274, 275, 276, 277, 99, 100, 101] (by decide +kernel) (by decide +kernel)
set_option maxRecDepth 20000 in
theorem zz_L_isTold_r2 : GoodIn wsL_holds wsL_isTold_r2 := goodIn_r _ [97, 98, 102, 103, 104, 105, 106, 107, 278, 279, 280, 75, 76, 281, 282, 283, 284, 12, 285, 286, 287, 288, 289, 290] (by decide +kernel) (by decide +kernel)
set_option maxRecDepth 20000 in
theorem zz_L_isTold_r3 : GoodIn wsL_holds wsL_isTold_r3 := goodIn_r _ [291, 292, 13, 14, 293, 294, 295, 296, 18, 139, 140, 141, 142, 143, 144, 297, 298, 299, 300, 301, 302, 303, 304, 305] (by decide +kernel) (by decide +kernel)
set_option maxRecDepth 20000 in
theorem zz_L_isTold_r4 : GoodIn wsL_holds wsL_isTold_r4 := goodIn_r _ [306, 307, 308, 309, 310, 311, 312, 313, 314, 315, 316, 317, 318, 319, 320, 321, 252, 253, 254, 255, 322, 323, 324, 325] (by decide +kernel) (by decide +kernel)
set_option maxRecDepth 20000 in
theorem zz_L_isTold_r5 : GoodIn wsL_holds wsL_isTold_r5 := goodIn_r _ [326, 327, 328, 329, 330, 331, 332, 333, 334, 335, 336, 236, 226, 227, 228, 337, 338, 339, 340, 341, 342, 343, 344, 345] (by decide +kernel) (by decide +kernel)
set_option maxRecDepth 20000 in
theorem zz_L_isTold_r6 : GoodIn wsL_holds wsL_isTold_r6 := goodIn_r _ [4, 346, 347, 348, 349, 350, 351, 352, 353, 354, 355, 356, 357, 19, 20, 358, 359, 360, 361, 362, 363, 364, 365, 366] (by decide +kernel) (by decide +kernel)
set_option maxRecDepth 20000 in
theorem zz_L_isTold_r7 : GoodIn wsL_holds wsL_isTold_r7 := goodIn_r _ [367, 368, 369, 370, 371, 372, 373, 94, 95, 96, 45, 46, 47, 48, 24, 49, 50, 51, 23, 52, 53, 54, 55, 56] (by decide +kernel) (by decide +kernel)
set_option maxRecDepth 20000 in
theorem zz_L_isTold_r8 : GoodIn wsL_holds wsL_isTold_r8 := goodIn_r _ [57, 16, 374, 375, 376, 377, 378, 379, 380, 381, 382, 383, 384, 385, 386, 387, 388, 167, 168, 169, 170, 171, 172, 173] (by decide +kernel) (by decide +kernel)
set_option maxRecDepth 20000 in
theorem zz_L_isTold_r9 : GoodIn wsL_holds wsL_isTold_r9 := goodIn_r _ [174, 389, 390, 391, 392, 34, 393, 394, 395, 396, 25, 397, 118, 119, 120, 398, 399, 400, 401, 402] (by decide +kernel) (by decide +kernel)
set_option maxRecDepth 20000 in
theorem zz_L_isTold_wsX20 : GoodIn wsL_holds wsX20 := goodIn_r _ [403, 404, 405, 406, 407, 408, 409, 410, 411, 412] (by decide +kernel) (by decide +kernel)
set_option maxRecDepth 20000 in
theorem zz_L_isTold_wsX00 : GoodIn wsL_holds wsX00 := goodIn_r _ [416, 417, 418] (by decide +kernel) (by decide +kernel)
set_option maxRecDepth 20000 in
theorem zz_L_isTold_wsJx4a65c0 : GoodIn wsL_holds wsJx4a65c0 := goodIn_r _ [413, 414, 415] (by decide +kernel) (by decide +kernel)
set_option maxRecDepth 20000 in
theorem zz_L_isTold_wsX10 : GoodIn wsL_holds wsX10 := goodIn_r _ [419, 420, 421] (by decide +kernel) (by decide +kernel)
theorem zz_L_isTold_cL_isTold : GoodIn wsL_holds [(.code yL_isTold cL_isTold 22 (some .boolean) : Cond)] := fun w hw => by
  rcases List.mem_singleton.mp hw with rfl
  exact ⟨(List.mem_cons_of_mem _ (List.mem_append_left _ (List.mem_append_left _ (List.mem_append_left _ (List.mem_append_left _ (List.mem_append_left _ (List.mem_append_left _ (List.mem_append_left _ (List.mem_append_right _ (List.mem_append_right _ (List.mem_append_right _ (List.mem_append_right _ (List.mem_append_right _ (List.mem_append_right _ (List.mem_append_right _ (List.mem_append_right _ (List.mem_append_right _ (List.mem_append_right _ (List.mem_append_left _ (List.mem_of_getElem? (l := wsL_holds_r11) (i := 17) rfl)))))))))))))))))))), Or.inl rfl⟩
set_option maxRecDepth 20000 in
theorem ggL_holds_L_isTold : GoodIn wsL_holds wsL_isTold := goodIn_ca (goodIn_ca (goodIn_cons zz_L_isTold_cL_isTold (goodIn_app (goodIn_app (goodIn_app (goodIn_app (goodIn_app zz_L_isTold_r1 (goodIn_app zz_L_isTold_r2 (goodIn_app zz_L_isTold_r3 (goodIn_app zz_L_isTold_r4 (goodIn_app zz_L_isTold_r5 (goodIn_app zz_L_isTold_r6 (goodIn_app zz_L_isTold_r7 (goodIn_app zz_L_isTold_r8 zz_L_isTold_r9)))))))) zz_L_isTold_wsX20) zz_L_isTold_wsX00) zz_L_isTold_wsJx4a65c0) zz_L_isTold_wsX10)) (goodIn_sub (fun _ h => List.mem_cons_of_mem _ (List.mem_append_right _ h)) (by decide +kernel))) (goodIn_sub (fun _ h => List.mem_cons_of_mem _ (List.mem_append_left _ (List.mem_append_left _ (List.mem_append_right _ h)))) (by decide +kernel))
set_option maxRecDepth 20000 in
theorem gL_holds_L_isTold : GoodIn wsL_holds (va_wsS RL 144 yL_isTold wsL_isTold) := goodIn_app (goodIn_of _ (by decide +kernel)) ggL_holds_L_isTold
theorem dL_holds_0 : decode cL_holds 0 = .ok (.new 35, 3) := by decide +kernel
theorem dL_holds_3 : decode cL_holds 3 = .ok (.dup, 1) := by decide +kernel
theorem dL_holds_4 : decode cL_holds 4 = .ok (.invokespecial 135, 3) := by decide +kernel
theorem dL_holds_7 : decode cL_holds 7 = .ok (.astore_n 1, 1) := by decide +kernel
theorem dL_holds_8 : decode cL_holds 8 = .ok (.bipush 54, 2) := by decide +kernel
theorem dL_holds_10 : decode cL_holds 10 = .ok (.newarray .int, 2) := by decide +kernel
theorem dL_holds_12 : decode cL_holds 12 = .ok (.astore_n 2, 1) := by decide +kernel
theorem dL_holds_13 : decode cL_holds 13 = .ok (.bipush 6, 2) := by decide +kernel
theorem dL_holds_15 : decode cL_holds 15 = .ok (.newarray .int, 2) := by decide +kernel
theorem dL_holds_17 : decode cL_holds 17 = .ok (.astore_n 3, 1) := by decide +kernel
theorem dL_holds_18 : decode cL_holds 18 = .ok (.bipush 8, 2) := by decide +kernel
theorem dL_holds_20 : decode cL_holds 20 = .ok (.newarray .int, 2) := by decide +kernel
theorem dL_holds_22 : decode cL_holds 22 = .ok (.astore 4, 2) := by decide +kernel
theorem dL_holds_24 : decode cL_holds 24 = .ok (.bipush 60, 2) := by decide +kernel
theorem dL_holds_26 : decode cL_holds 26 = .ok (.newarray .int, 2) := by decide +kernel
theorem dL_holds_28 : decode cL_holds 28 = .ok (.astore 5, 2) := by decide +kernel
theorem dL_holds_30 : decode cL_holds 30 = .ok (.bipush 9, 2) := by decide +kernel
theorem dL_holds_32 : decode cL_holds 32 = .ok (.newarray .int, 2) := by decide +kernel
theorem dL_holds_34 : decode cL_holds 34 = .ok (.astore 6, 2) := by decide +kernel
theorem dL_holds_36 : decode cL_holds 36 = .ok (.iconst 3, 1) := by decide +kernel
theorem dL_holds_37 : decode cL_holds 37 = .ok (.newarray .int, 2) := by decide +kernel
theorem dL_holds_39 : decode cL_holds 39 = .ok (.astore 7, 2) := by decide +kernel
theorem dL_holds_41 : decode cL_holds 41 = .ok (.iconst 3, 1) := by decide +kernel
theorem dL_holds_42 : decode cL_holds 42 = .ok (.istore 8, 2) := by decide +kernel
theorem dL_holds_44 : decode cL_holds 44 = .ok (.iload 8, 2) := by decide +kernel
theorem dL_holds_46 : decode cL_holds 46 = .ok (.bipush 9, 2) := by decide +kernel
theorem dL_holds_48 : decode cL_holds 48 = .ok (.if_icmp .ge 15, 3) := by decide +kernel
theorem dL_holds_51 : decode cL_holds 51 = .ok (.aload 6, 2) := by decide +kernel
theorem dL_holds_53 : decode cL_holds 53 = .ok (.iload 8, 2) := by decide +kernel
theorem dL_holds_55 : decode cL_holds 55 = .ok (.iconst 1, 1) := by decide +kernel
theorem dL_holds_56 : decode cL_holds 56 = .ok (.iastore, 1) := by decide +kernel
theorem dL_holds_57 : decode cL_holds 57 = .ok (.iinc 8 1, 3) := by decide +kernel
theorem dL_holds_60 : decode cL_holds 60 = .ok (.goto (-16), 3) := by decide +kernel
theorem dL_holds_63 : decode cL_holds 63 = .ok (.aload_n 1, 1) := by decide +kernel
theorem dL_holds_64 : decode cL_holds 64 = .ok (.invokevirtual 99, 3) := by decide +kernel
theorem dL_holds_67 : decode cL_holds 67 = .ok (.ifCond .ne 14, 3) := by decide +kernel
theorem dL_holds_70 : decode cL_holds 70 = .ok (.aload_n 1, 1) := by decide +kernel
theorem dL_holds_71 : decode cL_holds 71 = .ok (.invokevirtual 103, 3) := by decide +kernel
theorem dL_holds_74 : decode cL_holds 74 = .ok (.ifCond .ne 7, 3) := by decide +kernel
theorem dL_holds_77 : decode cL_holds 77 = .ok (.iconst 1, 1) := by decide +kernel
theorem dL_holds_78 : decode cL_holds 78 = .ok (.goto 4, 3) := by decide +kernel
theorem dL_holds_81 : decode cL_holds 81 = .ok (.iconst 0, 1) := by decide +kernel
theorem dL_holds_82 : decode cL_holds 82 = .ok (.istore 8, 2) := by decide +kernel
theorem dL_holds_84 : decode cL_holds 84 = .ok (.iconst 0, 1) := by decide +kernel
theorem dL_holds_85 : decode cL_holds 85 = .ok (.istore 9, 2) := by decide +kernel
theorem dL_holds_87 : decode cL_holds 87 = .ok (.iload 9, 2) := by decide +kernel
theorem dL_holds_89 : decode cL_holds 89 = .ok (.sipush 160, 3) := by decide +kernel
theorem dL_holds_92 : decode cL_holds 92 = .ok (.if_icmp .ge 96, 3) := by decide +kernel
theorem dL_holds_95 : decode cL_holds 95 = .ok (.iload 8, 2) := by decide +kernel
theorem dL_holds_97 : decode cL_holds 97 = .ok (.ifCond .eq 91, 3) := by decide +kernel
theorem dL_holds_100 : decode cL_holds 100 = .ok (.aload_n 1, 1) := by decide +kernel
theorem dL_holds_101 : decode cL_holds 101 = .ok (.aload_n 2, 1) := by decide +kernel
theorem dL_holds_102 : decode cL_holds 102 = .ok (.aload_n 3, 1) := by decide +kernel
theorem dL_holds_103 : decode cL_holds 103 = .ok (.aload 4, 2) := by decide +kernel
theorem dL_holds_105 : decode cL_holds 105 = .ok (.aload 5, 2) := by decide +kernel
theorem dL_holds_107 : decode cL_holds 107 = .ok (.aload 6, 2) := by decide +kernel
theorem dL_holds_109 : decode cL_holds 109 = .ok (.aload 7, 2) := by decide +kernel
theorem dL_holds_111 : decode cL_holds 111 = .ok (.aload_n 0, 1) := by decide +kernel
theorem dL_holds_112 : decode cL_holds 112 = .ok (.iconst 2, 1) := by decide +kernel
theorem dL_holds_113 : decode cL_holds 113 = .ok (.iload 9, 2) := by decide +kernel
theorem dL_holds_115 : decode cL_holds 115 = .ok (.imul, 1) := by decide +kernel
theorem dL_holds_116 : decode cL_holds 116 = .ok (.bipush 17, 2) := by decide +kernel
theorem dL_holds_118 : decode cL_holds 118 = .ok (.invokestatic 136, 3) := by decide +kernel
theorem dL_holds_121 : decode cL_holds 121 = .ok (.aload_n 0, 1) := by decide +kernel
theorem dL_holds_122 : decode cL_holds 122 = .ok (.iconst 2, 1) := by decide +kernel
theorem dL_holds_123 : decode cL_holds 123 = .ok (.iload 9, 2) := by decide +kernel
theorem dL_holds_125 : decode cL_holds 125 = .ok (.imul, 1) := by decide +kernel
theorem dL_holds_126 : decode cL_holds 126 = .ok (.iconst 1, 1) := by decide +kernel
theorem dL_holds_127 : decode cL_holds 127 = .ok (.iadd, 1) := by decide +kernel
theorem dL_holds_128 : decode cL_holds 128 = .ok (.ldc 139, 2) := by decide +kernel
theorem dL_holds_130 : decode cL_holds 130 = .ok (.invokestatic 136, 3) := by decide +kernel
theorem dL_holds_133 : decode cL_holds 133 = .ok (.invokestatic 140, 3) := by decide +kernel
theorem dL_holds_136 : decode cL_holds 136 = .ok (.ifCond .eq 43, 3) := by decide +kernel
theorem dL_holds_139 : decode cL_holds 139 = .ok (.iload 9, 2) := by decide +kernel
theorem dL_holds_141 : decode cL_holds 141 = .ok (.iconst 2, 1) := by decide +kernel
theorem dL_holds_142 : decode cL_holds 142 = .ok (.irem, 1) := by decide +kernel
theorem dL_holds_143 : decode cL_holds 143 = .ok (.ifCond .eq 32, 3) := by decide +kernel
theorem dL_holds_146 : decode cL_holds 146 = .ok (.aload_n 1, 1) := by decide +kernel
theorem dL_holds_147 : decode cL_holds 147 = .ok (.aload_n 2, 1) := by decide +kernel
theorem dL_holds_148 : decode cL_holds 148 = .ok (.aload_n 3, 1) := by decide +kernel
theorem dL_holds_149 : decode cL_holds 149 = .ok (.aload 4, 2) := by decide +kernel
theorem dL_holds_151 : decode cL_holds 151 = .ok (.aload 5, 2) := by decide +kernel
theorem dL_holds_153 : decode cL_holds 153 = .ok (.aload 6, 2) := by decide +kernel
theorem dL_holds_155 : decode cL_holds 155 = .ok (.aload 7, 2) := by decide +kernel
theorem dL_holds_157 : decode cL_holds 157 = .ok (.aload_n 0, 1) := by decide +kernel
theorem dL_holds_158 : decode cL_holds 158 = .ok (.sipush 400, 3) := by decide +kernel
theorem dL_holds_161 : decode cL_holds 161 = .ok (.iload 9, 2) := by decide +kernel
theorem dL_holds_163 : decode cL_holds 163 = .ok (.iadd, 1) := by decide +kernel
theorem dL_holds_164 : decode cL_holds 164 = .ok (.ldc 139, 2) := by decide +kernel
theorem dL_holds_166 : decode cL_holds 166 = .ok (.invokestatic 136, 3) := by decide +kernel
theorem dL_holds_169 : decode cL_holds 169 = .ok (.invokestatic 144, 3) := by decide +kernel
theorem dL_holds_172 : decode cL_holds 172 = .ok (.ifCond .eq 7, 3) := by decide +kernel
theorem dL_holds_175 : decode cL_holds 175 = .ok (.iconst 1, 1) := by decide +kernel
theorem dL_holds_176 : decode cL_holds 176 = .ok (.goto 4, 3) := by decide +kernel
theorem dL_holds_179 : decode cL_holds 179 = .ok (.iconst 0, 1) := by decide +kernel
theorem dL_holds_180 : decode cL_holds 180 = .ok (.istore 8, 2) := by decide +kernel
theorem dL_holds_182 : decode cL_holds 182 = .ok (.iinc 9 1, 3) := by decide +kernel
theorem dL_holds_185 : decode cL_holds 185 = .ok (.goto (-98), 3) := by decide +kernel
theorem dL_holds_188 : decode cL_holds 188 = .ok (.iload 8, 2) := by decide +kernel
theorem dL_holds_190 : decode cL_holds 190 = .ok (.ireturn, 1) := by decide +kernel
set_option maxRecDepth 20000 in
theorem zz_L_holds_r1 : GoodIn wsL_isHeld wsL_holds_r1 := goodIn_r _ [7, 8, 9, 10, 11, 12, 13, 14, 15, 16, 17, 18, 19, 20, 21, 22, 23, 24, 25, 26, 27, 28, 29, 30] (by decide +kernel) (by decide +kernel)
set_option maxRecDepth 20000 in
theorem zz_L_holds_r2 : GoodIn wsL_isHeld wsL_holds_r2 := goodIn_r _ [31, 32, 33, 34, 35, 36, 37, 38, 39, 40, 41, 42, 43, 44, 45, 46, 47, 48, 49, 50, 51, 52, 53, 54] (by decide +kernel) (by decide +kernel)
theorem zz_L_holds_cL_acts : GoodIn wsL_isHeld [(.code yL_acts cL_acts 17 (some .boolean) : Cond)] := fun w hw => by
  rcases List.mem_singleton.mp hw with rfl
  exact ⟨(List.mem_cons_of_mem _ (List.mem_append_left _ (List.mem_append_left _ (List.mem_append_left _ (List.mem_append_left _ (List.mem_append_left _ (List.mem_append_left _ (List.mem_append_left _ (List.mem_append_right _ (List.mem_append_right _ (List.mem_append_left _ (List.mem_of_getElem? (l := wsL_isHeld_r3) (i := 22) rfl)))))))))))), Or.inl rfl⟩
def zz_L_holds_r3_1 : List Cond := [Cond.methodLink RX2 157 yJx4a65c_size_8abf5, Cond.instanceMethod yJx4a65c_size_8abf5, Cond.selects RJx4a65c yJx4a65c_size_8abf5 yJx4a65c_size_8abf5, Cond.code yJx4a65c_size_8abf5 cJx4a65c_size_8abf5 1 (some .int), Cond.fieldLink RJx4a65c 48 "java/util/ArrayList" "size" "I", Cond.methodLink RL 103 yX2_draft, Cond.instanceMethod yX2_draft, Cond.selects RX2 yX2_draft yX2_draft, Cond.code yX2_draft cX2_draft 1 (some .int), Cond.methodLink RL 136 yL_from, Cond.static yL_from, Cond.initialized RL, Cond.code yL_from cL_from 4 (some .int), Cond.constant RL 7 (159319), Cond.constant RL 8 (2147483647), Cond.methodLink RL 140 yL_acts, Cond.static yL_acts]
set_option maxRecDepth 20000 in
theorem zz_L_holds_r3_1g : GoodIn wsL_isHeld zz_L_holds_r3_1 := goodIn_r _ [55, 56, 57, 58, 59, 60, 61, 62, 63, 64, 65, 5, 66, 67, 68, 69, 70] (by decide +kernel) (by decide +kernel)
def zz_L_holds_r3_2 : List Cond := [Cond.methodLink RL 112 yL_signed, Cond.static yL_signed, Cond.codeWith yL_signed cL_signed 3 (some .int) [(0, 5, 6, 46)], Cond.classLink RL 46 "java/lang/IllegalStateException", Cond.methodLink RL 57 yX2_sign, Cond.instanceMethod yX2_sign]
set_option maxRecDepth 20000 in
theorem zz_L_holds_r3_2g : GoodIn wsL_isHeld zz_L_holds_r3_2 := goodIn_r _ [72, 73, 74, 75, 76, 77] (by decide +kernel) (by decide +kernel)
theorem zz_L_holds_r3 : GoodIn wsL_isHeld wsL_holds_r3 := ((goodIn_app zz_L_holds_r3_1g (goodIn_cons zz_L_holds_cL_acts zz_L_holds_r3_2g)) : GoodIn wsL_isHeld (zz_L_holds_r3_1 ++ ((.code yL_acts cL_acts 17 (some .boolean) : Cond) :: zz_L_holds_r3_2)))
set_option maxRecDepth 20000 in
theorem zz_L_holds_r4 : GoodIn wsL_isHeld wsL_holds_r4 := goodIn_r _ [78, 79, 80, 81, 82, 83, 84, 85, 86, 87, 88, 89, 90, 91, 92, 93, 94, 95, 96, 97, 98, 99, 100, 101] (by decide +kernel) (by decide +kernel)
set_option maxRecDepth 20000 in
theorem zz_L_holds_r5 : GoodIn wsL_isHeld wsL_holds_r5 := goodIn_r _ [102, 103, 104, 105, 106, 107, 108, 109, 110, 111, 112, 113, 114, 115, 116, 117, 118, 119, 120, 121, 122, 123, 124, 125] (by decide +kernel) (by decide +kernel)
set_option maxRecDepth 20000 in
theorem zz_L_holds_r6 : GoodIn wsL_isHeld wsL_holds_r6 := goodIn_r _ [126, 127, 128, 129, 130, 131, 132, 133, 134, 135, 136, 137, 138, 139, 140, 141, 142, 143, 144, 145, 146, 147, 148, 149] (by decide +kernel) (by decide +kernel)
set_option maxRecDepth 20000 in
theorem zz_L_holds_r7 : GoodIn wsL_isHeld wsL_holds_r7 := goodIn_r _ [150, 151, 152, 153, 154, 155, 156, 157, 158, 159, 160, 161, 162, 163, 164, 165, 166, 167, 168, 169, 170, 171, 172, 173] (by decide +kernel) (by decide +kernel)
set_option maxRecDepth 20000 in
theorem zz_L_holds_r8 : GoodIn wsL_isHeld wsL_holds_r8 := goodIn_r _ [174, 175, 176, 177, 178, 179, 180, 181, 182, 183, 184, 185, 186, 187, 188, 189, 190, 191, 192, 193, 194, 195, 196, 197] (by decide +kernel) (by decide +kernel)
set_option maxRecDepth 20000 in
theorem zz_L_holds_r9 : GoodIn wsL_isHeld wsL_holds_r9 := goodIn_r _ [198, 199, 200, 201, 202, 203, 204, 205, 206, 207, 208, 209, 210, 211, 212, 213, 214, 215, 216, 217, 218, 219, 220, 221] (by decide +kernel) (by decide +kernel)
set_option maxRecDepth 20000 in
theorem zz_L_holds_r10 : GoodIn wsL_isHeld wsL_holds_r10 := goodIn_r _ [222, 223, 224, 225, 226, 227, 228, 229, 230, 231, 232, 233, 234, 235, 236, 237, 238, 239, 240, 241, 242, 243, 244, 245] (by decide +kernel) (by decide +kernel)
theorem zz_L_holds_cL_isTold : GoodIn wsL_isHeld [(.code yL_isTold cL_isTold 22 (some .boolean) : Cond)] := fun w hw => by
  rcases List.mem_singleton.mp hw with rfl
  exact ⟨(List.mem_cons_of_mem _ (List.mem_append_left _ (List.mem_append_left _ (List.mem_append_left _ (List.mem_append_left _ (List.mem_append_left _ (List.mem_append_left _ (List.mem_append_left _ (List.mem_append_right _ (List.mem_append_right _ (List.mem_append_right _ (List.mem_append_right _ (List.mem_append_right _ (List.mem_append_right _ (List.mem_append_right _ (List.mem_append_right _ (List.mem_append_right _ (List.mem_append_right _ (List.mem_append_left _ (List.mem_of_getElem? (l := wsL_isHeld_r11) (i := 21) rfl)))))))))))))))))))), Or.inl rfl⟩
def zz_L_holds_r11_3 : List Cond := [Cond.methodLink RX2 74 yX2_requireNumberLimit, Cond.static yX2_requireNumberLimit, Cond.code yX2_requireNumberLimit cX2_requireNumberLimit 1 none, Cond.methodLink RL 131 yL_fallen, Cond.static yL_fallen, Cond.codeWith yL_fallen cL_fallen 4 (some .int) [(0, 6, 7, 51)], Cond.classLink RL 51 "java/lang/IllegalArgumentException", Cond.methodLink RL 48 yX2_setFallback, Cond.instanceMethod yX2_setFallback, Cond.selects RX2 yX2_setFallback yX2_setFallback, Cond.code yX2_setFallback cX2_setFallback 4 (some .int), Cond.methodLink RX2 65 yX2_chainPlace, Cond.instanceMethod yX2_chainPlace, Cond.selects RX2 yX2_chainPlace yX2_chainPlace, Cond.code yX2_chainPlace cX2_chainPlace 5 (some .int), Cond.methodLink RL 144 yL_isTold, Cond.static yL_isTold]
set_option maxRecDepth 20000 in
theorem zz_L_holds_r11_3g : GoodIn wsL_isHeld zz_L_holds_r11_3 := goodIn_r _ [246, 247, 248, 249, 250, 251, 2, 252, 253, 254, 255, 256, 257, 258, 259, 260, 261] (by decide +kernel) (by decide +kernel)
def zz_L_holds_r11_4 : List Cond := [Cond.methodLink RL 60 yL_told, Cond.static yL_told, Cond.code yL_told cL_told 15 (some .int), Cond.methodLink RL 15 yL_kind, Cond.static yL_kind, Cond.code yL_kind cL_kind 3 (some .int)]
set_option maxRecDepth 20000 in
theorem zz_L_holds_r11_4g : GoodIn wsL_isHeld zz_L_holds_r11_4 := goodIn_r _ [263, 264, 265, 266, 267, 268] (by decide +kernel) (by decide +kernel)
theorem zz_L_holds_r11 : GoodIn wsL_isHeld wsL_holds_r11 := ((goodIn_app zz_L_holds_r11_3g (goodIn_cons zz_L_holds_cL_isTold zz_L_holds_r11_4g)) : GoodIn wsL_isHeld (zz_L_holds_r11_3 ++ ((.code yL_isTold cL_isTold 22 (some .boolean) : Cond) :: zz_L_holds_r11_4)))
set_option maxRecDepth 20000 in
theorem zz_L_holds_r12 : GoodIn wsL_isHeld wsL_holds_r12 := goodIn_r _ [269, 270, 271, 272, 273, 274, 275, 276, 277, 278, 279, 280, 281, 282, 283, 284, 285, 286, 287, 288, 289, 290, 291, 292] (by decide +kernel) (by decide +kernel)
set_option maxRecDepth 20000 in
theorem zz_L_holds_r13 : GoodIn wsL_isHeld wsL_holds_r13 := goodIn_r _ [293, 294, 295, 296, 297, 298, 299, 300, 301, 302, 303, 304, 305, 306, 307, 308, 309, 310, 311, 312, 313, 314, 315, 316] (by decide +kernel) (by decide +kernel)
set_option maxRecDepth 20000 in
theorem zz_L_holds_r14 : GoodIn wsL_isHeld wsL_holds_r14 := goodIn_r _ [317, 318, 319, 320, 321, 322, 323, 324, 325, 326, 327, 328, 329, 330, 331, 332, 333, 334, 335, 1, 336, 337, 338, 339] (by decide +kernel) (by decide +kernel)
set_option maxRecDepth 20000 in
theorem zz_L_holds_r15 : GoodIn wsL_isHeld wsL_holds_r15 := goodIn_r _ [340, 341, 342, 343, 344, 345, 346, 347, 348, 349, 350, 351, 352, 353, 354, 355, 356, 357, 358, 359, 360, 361, 362, 363] (by decide +kernel) (by decide +kernel)
set_option maxRecDepth 20000 in
theorem zz_L_holds_r16 : GoodIn wsL_isHeld wsL_holds_r16 := goodIn_r _ [364, 365, 366, 367, 368, 369, 370, 371, 372, 373, 374, 375, 376, 377, 378, 379, 380, 381, 382, 383, 384, 385, 386, 387] (by decide +kernel) (by decide +kernel)
set_option maxRecDepth 20000 in
theorem zz_L_holds_r17 : GoodIn wsL_isHeld wsL_holds_r17 := goodIn_r _ [388, 389, 390, 391, 392, 393, 394, 395, 396, 397, 398, 399, 400, 401, 402, 403, 404, 405] (by decide +kernel) (by decide +kernel)
set_option maxRecDepth 20000 in
theorem zz_L_holds_wsX20 : GoodIn wsL_isHeld wsX20 := goodIn_r _ [406, 407, 408, 409, 410, 411, 412, 413, 414, 415] (by decide +kernel) (by decide +kernel)
set_option maxRecDepth 20000 in
theorem zz_L_holds_wsJx4a65c0 : GoodIn wsL_isHeld wsJx4a65c0 := goodIn_r _ [416, 417, 418] (by decide +kernel) (by decide +kernel)
set_option maxRecDepth 20000 in
theorem zz_L_holds_wsX00 : GoodIn wsL_isHeld wsX00 := goodIn_r _ [419, 420, 421] (by decide +kernel) (by decide +kernel)
set_option maxRecDepth 20000 in
theorem zz_L_holds_wsX10 : GoodIn wsL_isHeld wsX10 := goodIn_r _ [422, 423, 424] (by decide +kernel) (by decide +kernel)
set_option maxRecDepth 20000 in
theorem zz_L_holds_c : GoodIn wsL_isHeld [.code yL_holds cL_holds 10 (some .boolean)] := goodIn_r _ [6] (by decide +kernel) (by decide +kernel)
set_option maxRecDepth 20000 in
theorem ggL_isHeld_L_holds : GoodIn wsL_isHeld wsL_holds := goodIn_ca (goodIn_ca (goodIn_ca (goodIn_cons zz_L_holds_c (goodIn_app (goodIn_app (goodIn_app (goodIn_app (goodIn_app zz_L_holds_r1 (goodIn_app zz_L_holds_r2 (goodIn_app zz_L_holds_r3 (goodIn_app zz_L_holds_r4 (goodIn_app zz_L_holds_r5 (goodIn_app zz_L_holds_r6 (goodIn_app zz_L_holds_r7 (goodIn_app zz_L_holds_r8 (goodIn_app zz_L_holds_r9 (goodIn_app zz_L_holds_r10 (goodIn_app zz_L_holds_r11 (goodIn_app zz_L_holds_r12 (goodIn_app zz_L_holds_r13 (goodIn_app zz_L_holds_r14 (goodIn_app zz_L_holds_r15 (goodIn_app zz_L_holds_r16 zz_L_holds_r17)))))))))))))))) zz_L_holds_wsX20) zz_L_holds_wsJx4a65c0) zz_L_holds_wsX00) zz_L_holds_wsX10)) (goodIn_sub (fun _ h => List.mem_cons_of_mem _ (List.mem_append_left _ (List.mem_append_left _ (List.mem_append_right _ h)))) (by decide +kernel))) (goodIn_sub (fun _ h => List.mem_cons_of_mem _ (List.mem_append_left _ (List.mem_append_right _ h))) (by decide +kernel))) (goodIn_sub (fun _ h => List.mem_cons_of_mem _ (List.mem_append_right _ h)) (by decide +kernel))
set_option maxRecDepth 20000 in
theorem gL_isHeld_L_holds : GoodIn wsL_isHeld (va_wsS RL 148 yL_holds wsL_holds) := goodIn_app (goodIn_of _ (by decide +kernel)) ggL_isHeld_L_holds
theorem dL_isHeld_0 : decode cL_isHeld 0 = .ok (.aload_n 0, 1) := by decide +kernel
theorem dL_isHeld_1 : decode cL_isHeld 1 = .ok (.invokestatic 148, 3) := by decide +kernel
theorem dL_isHeld_4 : decode cL_isHeld 4 = .ok (.ireturn, 1) := by decide +kernel
theorem dL_isHeld_5 : decode cL_isHeld 5 = .ok (.astore_n 1, 1) := by decide +kernel
theorem dL_isHeld_6 : decode cL_isHeld 6 = .ok (.iconst 0, 1) := by decide +kernel
theorem dL_isHeld_7 : decode cL_isHeld 7 = .ok (.ireturn, 1) := by decide +kernel
theorem dL_isHeld_8 : decode cL_isHeld 8 = .ok (.astore_n 1, 1) := by decide +kernel
theorem dL_isHeld_9 : decode cL_isHeld 9 = .ok (.iconst 0, 1) := by decide +kernel
theorem dL_isHeld_10 : decode cL_isHeld 10 = .ok (.ireturn, 1) := by decide +kernel
theorem dL_isHeld_11 : decode cL_isHeld 11 = .ok (.astore_n 1, 1) := by decide +kernel
theorem dL_isHeld_12 : decode cL_isHeld 12 = .ok (.iconst 0, 1) := by decide +kernel
theorem dL_isHeld_13 : decode cL_isHeld 13 = .ok (.ireturn, 1) := by decide +kernel
set_option maxRecDepth 20000 in
theorem zz_L_isHeld_r1 : GoodIn wsL_law wsL_isHeld_r1 := goodIn_r _ [4, 5, 6, 7, 2, 8, 9, 10, 11, 12, 13, 14, 15, 16, 17, 18, 19, 20, 21, 22, 23, 24, 25, 26] (by decide +kernel) (by decide +kernel)
set_option maxRecDepth 20000 in
theorem zz_L_isHeld_r2 : GoodIn wsL_law wsL_isHeld_r2 := goodIn_r _ [27, 28, 29, 30, 31, 32, 33, 34, 35, 36, 37, 38, 39, 40, 41, 42, 43, 44, 45, 46, 47, 48, 49, 50] (by decide +kernel) (by decide +kernel)
theorem zz_L_isHeld_cL_acts : GoodIn wsL_law [(.code yL_acts cL_acts 17 (some .boolean) : Cond)] := fun w hw => by
  rcases List.mem_singleton.mp hw with rfl
  exact ⟨(List.mem_append_left _ (List.mem_append_left _ (List.mem_append_left _ (List.mem_append_left _ (List.mem_append_left _ (List.mem_append_left _ (List.mem_append_left _ (List.mem_append_left _ (List.mem_append_right _ (List.mem_append_right _ (List.mem_append_right _ (List.mem_append_left _ (List.mem_of_getElem? (l := wsL_law0_r4) (i := 1) rfl))))))))))))), Or.inl rfl⟩
def zz_L_isHeld_r3_1 : List Cond := [Cond.code yJxa1e45_init_da8c8 cJxa1e45_init_da8c8 1 none, Cond.methodLink RJxa1e45 1 objectInit, Cond.methodLink RL 99 yX2_pairs, Cond.instanceMethod yX2_pairs, Cond.selects RX2 yX2_pairs yX2_pairs, Cond.code yX2_pairs cX2_pairs 1 (some .int), Cond.methodLink RX2 157 yJx4a65c_size_8abf5, Cond.instanceMethod yJx4a65c_size_8abf5, Cond.selects RJx4a65c yJx4a65c_size_8abf5 yJx4a65c_size_8abf5, Cond.code yJx4a65c_size_8abf5 cJx4a65c_size_8abf5 1 (some .int), Cond.fieldLink RJx4a65c 48 "java/util/ArrayList" "size" "I", Cond.methodLink RL 103 yX2_draft, Cond.instanceMethod yX2_draft, Cond.selects RX2 yX2_draft yX2_draft, Cond.code yX2_draft cX2_draft 1 (some .int), Cond.methodLink RL 136 yL_from, Cond.static yL_from, Cond.code yL_from cL_from 4 (some .int), Cond.constant RL 7 (159319), Cond.constant RL 8 (2147483647), Cond.methodLink RL 140 yL_acts, Cond.static yL_acts]
set_option maxRecDepth 20000 in
theorem zz_L_isHeld_r3_1g : GoodIn wsL_law zz_L_isHeld_r3_1 := goodIn_r _ [51, 52, 53, 54, 55, 56, 57, 58, 59, 60, 61, 62, 63, 64, 65, 66, 67, 68, 69, 70, 71, 72] (by decide +kernel) (by decide +kernel)
def zz_L_isHeld_r3_2 : List Cond := [Cond.methodLink RL 112 yL_signed]
set_option maxRecDepth 20000 in
theorem zz_L_isHeld_r3_2g : GoodIn wsL_law zz_L_isHeld_r3_2 := goodIn_r _ [74] (by decide +kernel) (by decide +kernel)
theorem zz_L_isHeld_r3 : GoodIn wsL_law wsL_isHeld_r3 := ((goodIn_app zz_L_isHeld_r3_1g (goodIn_cons zz_L_isHeld_cL_acts zz_L_isHeld_r3_2g)) : GoodIn wsL_law (zz_L_isHeld_r3_1 ++ ((.code yL_acts cL_acts 17 (some .boolean) : Cond) :: zz_L_isHeld_r3_2)))
set_option maxRecDepth 20000 in
theorem zz_L_isHeld_r4 : GoodIn wsL_law wsL_isHeld_r4 := goodIn_r _ [75, 76, 77, 78, 79, 80, 81, 82, 83, 84, 85, 86, 87, 88, 89, 90, 91, 92, 93, 94, 95, 96, 97, 98] (by decide +kernel) (by decide +kernel)
set_option maxRecDepth 20000 in
theorem zz_L_isHeld_r5 : GoodIn wsL_law wsL_isHeld_r5 := goodIn_r _ [99, 100, 101, 102, 103, 104, 105, 106, 107, 108, 109, 110, 111, 112, 113, 114, 115, 116, 117, 118, 119, 120, 121, 122] (by decide +kernel) (by decide +kernel)
set_option maxRecDepth 20000 in
theorem zz_L_isHeld_r6 : GoodIn wsL_law wsL_isHeld_r6 := goodIn_r _ [123, 124, 125, 126, 127, 128, 129, 130, 131, 132, 133, 134, 135, 136, 137, 138, 139, 140, 141, 142, 143, 144, 145, 146] (by decide +kernel) (by decide +kernel)
set_option maxRecDepth 20000 in
theorem zz_L_isHeld_r7 : GoodIn wsL_law wsL_isHeld_r7 := goodIn_r _ [147, 148, 149, 150, 151, 152, 153, 154, 155, 156, 157, 158, 159, 160, 161, 162, 163, 164, 165, 166, 167, 168, 169, 170] (by decide +kernel) (by decide +kernel)
set_option maxRecDepth 20000 in
theorem zz_L_isHeld_r8 : GoodIn wsL_law wsL_isHeld_r8 := goodIn_r _ [171, 172, 173, 174, 175, 176, 177, 178, 179, 180, 181, 182, 183, 184, 185, 186, 187, 188, 189, 190, 191, 192, 193, 194] (by decide +kernel) (by decide +kernel)
set_option maxRecDepth 20000 in
theorem zz_L_isHeld_r9 : GoodIn wsL_law wsL_isHeld_r9 := goodIn_r _ [195, 196, 197, 198, 199, 200, 201, 202, 203, 204, 205, 206, 207, 208, 209, 210, 211, 212, 213, 214, 215, 216, 217, 218] (by decide +kernel) (by decide +kernel)
set_option maxRecDepth 20000 in
theorem zz_L_isHeld_r10 : GoodIn wsL_law wsL_isHeld_r10 := goodIn_r _ [219, 220, 221, 222, 223, 224, 225, 226, 227, 228, 229, 230, 231, 232, 233, 234, 235, 236, 237, 238, 239, 240, 241, 242] (by decide +kernel) (by decide +kernel)
theorem zz_L_isHeld_cL_isTold : GoodIn wsL_law [(.code yL_isTold cL_isTold 22 (some .boolean) : Cond)] := fun w hw => by
  rcases List.mem_singleton.mp hw with rfl
  exact ⟨(List.mem_append_left _ (List.mem_append_left _ (List.mem_append_left _ (List.mem_append_left _ (List.mem_append_left _ (List.mem_append_left _ (List.mem_append_left _ (List.mem_append_left _ (List.mem_append_right _ (List.mem_append_right _ (List.mem_append_right _ (List.mem_append_right _ (List.mem_append_right _ (List.mem_append_right _ (List.mem_append_right _ (List.mem_append_right _ (List.mem_append_right _ (List.mem_append_right _ (List.mem_append_right _ (List.mem_append_left _ (List.mem_of_getElem? (l := wsL_law0_r12) (i := 0) rfl))))))))))))))))))))), Or.inl rfl⟩
def zz_L_isHeld_r11_3 : List Cond := [Cond.fieldLink RX2 118 "PhraseCatalogue$Form" "signs" "[I", Cond.methodLink RL 127 yX2_setNumbers, Cond.instanceMethod yX2_setNumbers, Cond.selects RX2 yX2_setNumbers yX2_setNumbers, Cond.code yX2_setNumbers cX2_setNumbers 4 none, Cond.methodLink RX2 74 yX2_requireNumberLimit, Cond.static yX2_requireNumberLimit, Cond.code yX2_requireNumberLimit cX2_requireNumberLimit 1 none, Cond.methodLink RL 131 yL_fallen, Cond.static yL_fallen, Cond.codeWith yL_fallen cL_fallen 4 (some .int) [(0, 6, 7, 51)], Cond.methodLink RL 48 yX2_setFallback, Cond.instanceMethod yX2_setFallback, Cond.selects RX2 yX2_setFallback yX2_setFallback, Cond.code yX2_setFallback cX2_setFallback 4 (some .int), Cond.methodLink RX2 65 yX2_chainPlace, Cond.instanceMethod yX2_chainPlace, Cond.selects RX2 yX2_chainPlace yX2_chainPlace, Cond.code yX2_chainPlace cX2_chainPlace 5 (some .int), Cond.methodLink RL 144 yL_isTold, Cond.static yL_isTold]
set_option maxRecDepth 20000 in
theorem zz_L_isHeld_r11_3g : GoodIn wsL_law zz_L_isHeld_r11_3 := goodIn_r _ [243, 244, 245, 246, 247, 248, 249, 250, 251, 252, 253, 254, 255, 256, 257, 258, 259, 260, 261, 262, 263] (by decide +kernel) (by decide +kernel)
def zz_L_isHeld_r11_4 : List Cond := [Cond.methodLink RL 60 yL_told, Cond.static yL_told]
set_option maxRecDepth 20000 in
theorem zz_L_isHeld_r11_4g : GoodIn wsL_law zz_L_isHeld_r11_4 := goodIn_r _ [265, 266] (by decide +kernel) (by decide +kernel)
theorem zz_L_isHeld_r11 : GoodIn wsL_law wsL_isHeld_r11 := ((goodIn_app zz_L_isHeld_r11_3g (goodIn_cons zz_L_isHeld_cL_isTold zz_L_isHeld_r11_4g)) : GoodIn wsL_law (zz_L_isHeld_r11_3 ++ ((.code yL_isTold cL_isTold 22 (some .boolean) : Cond) :: zz_L_isHeld_r11_4)))
set_option maxRecDepth 20000 in
theorem zz_L_isHeld_r12 : GoodIn wsL_law wsL_isHeld_r12 := goodIn_r _ [267, 268, 269, 270, 271, 272, 273, 274, 275, 276, 277, 278, 279, 280, 281, 282, 283, 284, 285, 286, 287, 288, 289, 290] (by decide +kernel) (by decide +kernel)
set_option maxRecDepth 20000 in
theorem zz_L_isHeld_r13 : GoodIn wsL_law wsL_isHeld_r13 := goodIn_r _ [291, 292, 293, 294, 295, 296, 297, 298, 299, 300, 301, 302, 303, 304, 305, 306, 307, 308, 309, 310, 311, 312, 313, 314] (by decide +kernel) (by decide +kernel)
set_option maxRecDepth 20000 in
theorem zz_L_isHeld_r14 : GoodIn wsL_law wsL_isHeld_r14 := goodIn_r _ [315, 316, 317, 318, 319, 320, 321, 322, 323, 324, 325, 326, 327, 328, 329, 330, 331, 332, 333, 334, 335, 336, 337, 338] (by decide +kernel) (by decide +kernel)
set_option maxRecDepth 20000 in
theorem zz_L_isHeld_r15 : GoodIn wsL_law wsL_isHeld_r15 := goodIn_r _ [339, 340, 341, 342, 343, 344, 345, 346, 347, 348, 349, 350, 351, 352, 353, 354, 355, 356, 357, 358, 359, 360, 361, 362] (by decide +kernel) (by decide +kernel)
set_option maxRecDepth 20000 in
theorem zz_L_isHeld_r16 : GoodIn wsL_law wsL_isHeld_r16 := goodIn_r _ [363, 364, 365, 366, 367, 368, 369, 370, 371, 372, 373, 374, 375, 376, 377, 378, 379, 380, 381, 382, 383, 384, 385, 386] (by decide +kernel) (by decide +kernel)
set_option maxRecDepth 20000 in
theorem zz_L_isHeld_r17 : GoodIn wsL_law wsL_isHeld_r17 := goodIn_r _ [387, 388, 389, 390, 391, 392, 393, 394, 395, 396, 397, 398, 399, 400, 401, 402, 403, 404, 405, 406, 407] (by decide +kernel) (by decide +kernel)
set_option maxRecDepth 20000 in
theorem zz_L_isHeld_wsX20 : GoodIn wsL_law wsX20 := goodIn_r _ [408, 409, 410, 411, 412, 413, 414, 415, 416, 417] (by decide +kernel) (by decide +kernel)
set_option maxRecDepth 20000 in
theorem zz_L_isHeld_wsJx4a65c0 : GoodIn wsL_law wsJx4a65c0 := goodIn_r _ [418, 419, 420] (by decide +kernel) (by decide +kernel)
set_option maxRecDepth 20000 in
theorem zz_L_isHeld_wsX00 : GoodIn wsL_law wsX00 := goodIn_r _ [421, 422, 423] (by decide +kernel) (by decide +kernel)
set_option maxRecDepth 20000 in
theorem zz_L_isHeld_wsX10 : GoodIn wsL_law wsX10 := goodIn_r _ [424, 425, 426] (by decide +kernel) (by decide +kernel)
set_option maxRecDepth 20000 in
theorem zz_L_isHeld_c : GoodIn wsL_law [.codeWith yL_isHeld cL_isHeld 2 (some .boolean) [(0, 4, 5, 40), (0, 4, 8, 51), (0, 4, 11, 46)]] := goodIn_r _ [3] (by decide +kernel) (by decide +kernel)
set_option maxRecDepth 20000 in
theorem ggL_law_L_isHeld : GoodIn wsL_law wsL_isHeld := goodIn_ca (goodIn_ca (goodIn_ca (goodIn_cons zz_L_isHeld_c (goodIn_app (goodIn_app (goodIn_app (goodIn_app (goodIn_app zz_L_isHeld_r1 (goodIn_app zz_L_isHeld_r2 (goodIn_app zz_L_isHeld_r3 (goodIn_app zz_L_isHeld_r4 (goodIn_app zz_L_isHeld_r5 (goodIn_app zz_L_isHeld_r6 (goodIn_app zz_L_isHeld_r7 (goodIn_app zz_L_isHeld_r8 (goodIn_app zz_L_isHeld_r9 (goodIn_app zz_L_isHeld_r10 (goodIn_app zz_L_isHeld_r11 (goodIn_app zz_L_isHeld_r12 (goodIn_app zz_L_isHeld_r13 (goodIn_app zz_L_isHeld_r14 (goodIn_app zz_L_isHeld_r15 (goodIn_app zz_L_isHeld_r16 zz_L_isHeld_r17)))))))))))))))) zz_L_isHeld_wsX20) zz_L_isHeld_wsJx4a65c0) zz_L_isHeld_wsX00) zz_L_isHeld_wsX10)) (goodIn_sub (fun _ h => List.mem_append_left _ (List.mem_append_left _ (List.mem_append_right _ h))) (by decide +kernel))) (goodIn_sub (fun _ h => List.mem_append_left _ (List.mem_append_right _ h)) (by decide +kernel))) (goodIn_sub (fun _ h => List.mem_append_right _ h) (by decide +kernel))
set_option maxRecDepth 20000 in
theorem gL_law_L_isHeld : GoodIn wsL_law (va_wsS RL 152 yL_isHeld wsL_isHeld) := goodIn_app (goodIn_of _ (by decide +kernel)) ggL_law_L_isHeld
