theorem dL_culprits_147 : decode cL_culprits 147 = .ok (.iload 10, 2) := by decide +kernel
theorem dL_culprits_149 : decode cL_culprits 149 = .ok (.invokestatic 124, 3) := by decide +kernel
theorem dL_culprits_152 : decode cL_culprits 152 = .ok (.iload 4, 2) := by decide +kernel
theorem dL_culprits_154 : decode cL_culprits 154 = .ok (.ishr, 1) := by decide +kernel
theorem dL_culprits_155 : decode cL_culprits 155 = .ok (.iconst 1, 1) := by decide +kernel
theorem dL_culprits_156 : decode cL_culprits 156 = .ok (.iand, 1) := by decide +kernel
theorem dL_culprits_157 : decode cL_culprits 157 = .ok (.iconst 1, 1) := by decide +kernel
theorem dL_culprits_158 : decode cL_culprits 158 = .ok (.if_icmp .ne 7, 3) := by decide +kernel
theorem dL_culprits_161 : decode cL_culprits 161 = .ok (.iconst 1, 1) := by decide +kernel
theorem dL_culprits_162 : decode cL_culprits 162 = .ok (.goto 4, 3) := by decide +kernel
theorem dL_culprits_165 : decode cL_culprits 165 = .ok (.iconst 0, 1) := by decide +kernel
theorem dL_culprits_166 : decode cL_culprits 166 = .ok (.istore 11, 2) := by decide +kernel
theorem dL_culprits_168 : decode cL_culprits 168 = .ok (.aload_n 0, 1) := by decide +kernel
theorem dL_culprits_169 : decode cL_culprits 169 = .ok (.iload 4, 2) := by decide +kernel
theorem dL_culprits_171 : decode cL_culprits 171 = .ok (.iload 10, 2) := by decide +kernel
theorem dL_culprits_173 : decode cL_culprits 173 = .ok (.invokestatic 131, 3) := by decide +kernel
theorem dL_culprits_176 : decode cL_culprits 176 = .ok (.istore 12, 2) := by decide +kernel
theorem dL_culprits_178 : decode cL_culprits 178 = .ok (.lload 5, 2) := by decide +kernel
theorem dL_culprits_180 : decode cL_culprits 180 = .ok (.iload 11, 2) := by decide +kernel
theorem dL_culprits_182 : decode cL_culprits 182 = .ok (.ifCond .eq 10, 3) := by decide +kernel
theorem dL_culprits_185 : decode cL_culprits 185 = .ok (.lconst 1, 1) := by decide +kernel
theorem dL_culprits_186 : decode cL_culprits 186 = .ok (.iload 10, 2) := by decide +kernel
theorem dL_culprits_188 : decode cL_culprits 188 = .ok (.lshl, 1) := by decide +kernel
theorem dL_culprits_189 : decode cL_culprits 189 = .ok (.goto 4, 3) := by decide +kernel
theorem dL_culprits_192 : decode cL_culprits 192 = .ok (.lconst 0, 1) := by decide +kernel
theorem dL_culprits_193 : decode cL_culprits 193 = .ok (.lor, 1) := by decide +kernel
theorem dL_culprits_194 : decode cL_culprits 194 = .ok (.lstore 5, 2) := by decide +kernel
theorem dL_culprits_196 : decode cL_culprits 196 = .ok (.lload 7, 2) := by decide +kernel
theorem dL_culprits_198 : decode cL_culprits 198 = .ok (.iload 11, 2) := by decide +kernel
theorem dL_culprits_200 : decode cL_culprits 200 = .ok (.ifCond .eq 18, 3) := by decide +kernel
theorem dL_culprits_203 : decode cL_culprits 203 = .ok (.iload 12, 2) := by decide +kernel
theorem dL_culprits_205 : decode cL_culprits 205 = .ok (.aload_n 3, 1) := by decide +kernel
theorem dL_culprits_206 : decode cL_culprits 206 = .ok (.iconst 0, 1) := by decide +kernel
theorem dL_culprits_207 : decode cL_culprits 207 = .ok (.iaload, 1) := by decide +kernel
theorem dL_culprits_208 : decode cL_culprits 208 = .ok (.if_icmp .gt 10, 3) := by decide +kernel
theorem dL_culprits_211 : decode cL_culprits 211 = .ok (.lconst 1, 1) := by decide +kernel
theorem dL_culprits_212 : decode cL_culprits 212 = .ok (.iload 10, 2) := by decide +kernel
theorem dL_culprits_214 : decode cL_culprits 214 = .ok (.lshl, 1) := by decide +kernel
theorem dL_culprits_215 : decode cL_culprits 215 = .ok (.goto 4, 3) := by decide +kernel
theorem dL_culprits_218 : decode cL_culprits 218 = .ok (.lconst 0, 1) := by decide +kernel
theorem dL_culprits_219 : decode cL_culprits 219 = .ok (.lor, 1) := by decide +kernel
theorem dL_culprits_220 : decode cL_culprits 220 = .ok (.lstore 7, 2) := by decide +kernel
theorem dL_culprits_222 : decode cL_culprits 222 = .ok (.iload 11, 2) := by decide +kernel
theorem dL_culprits_224 : decode cL_culprits 224 = .ok (.ifCond .eq 26, 3) := by decide +kernel
theorem dL_culprits_227 : decode cL_culprits 227 = .ok (.iload 9, 2) := by decide +kernel
theorem dL_culprits_229 : decode cL_culprits 229 = .ok (.ifCond .lt 16, 3) := by decide +kernel
theorem dL_culprits_232 : decode cL_culprits 232 = .ok (.iload 12, 2) := by decide +kernel
theorem dL_culprits_234 : decode cL_culprits 234 = .ok (.aload_n 0, 1) := by decide +kernel
theorem dL_culprits_235 : decode cL_culprits 235 = .ok (.iload 4, 2) := by decide +kernel
theorem dL_culprits_237 : decode cL_culprits 237 = .ok (.iload 9, 2) := by decide +kernel
theorem dL_culprits_239 : decode cL_culprits 239 = .ok (.invokestatic 131, 3) := by decide +kernel
theorem dL_culprits_242 : decode cL_culprits 242 = .ok (.if_icmp .ge 8, 3) := by decide +kernel
theorem dL_culprits_245 : decode cL_culprits 245 = .ok (.iload 10, 2) := by decide +kernel
theorem dL_culprits_247 : decode cL_culprits 247 = .ok (.goto 5, 3) := by decide +kernel
theorem dL_culprits_250 : decode cL_culprits 250 = .ok (.iload 9, 2) := by decide +kernel
theorem dL_culprits_252 : decode cL_culprits 252 = .ok (.istore 9, 2) := by decide +kernel
theorem dL_culprits_254 : decode cL_culprits 254 = .ok (.iload 11, 2) := by decide +kernel
theorem dL_culprits_256 : decode cL_culprits 256 = .ok (.ifCond .eq 22, 3) := by decide +kernel
theorem dL_culprits_259 : decode cL_culprits 259 = .ok (.iload 12, 2) := by decide +kernel
theorem dL_culprits_261 : decode cL_culprits 261 = .ok (.ifCond .lt 23, 3) := by decide +kernel
theorem dL_culprits_264 : decode cL_culprits 264 = .ok (.iload 12, 2) := by decide +kernel
theorem dL_culprits_266 : decode cL_culprits 266 = .ok (.aload_n 0, 1) := by decide +kernel
theorem dL_culprits_267 : decode cL_culprits 267 = .ok (.iload 4, 2) := by decide +kernel
theorem dL_culprits_269 : decode cL_culprits 269 = .ok (.invokestatic 116, 3) := by decide +kernel
theorem dL_culprits_272 : decode cL_culprits 272 = .ok (.if_icmp .le 14, 3) := by decide +kernel
theorem dL_culprits_275 : decode cL_culprits 275 = .ok (.goto 9, 3) := by decide +kernel
theorem dL_culprits_278 : decode cL_culprits 278 = .ok (.iload 12, 2) := by decide +kernel
theorem dL_culprits_280 : decode cL_culprits 280 = .ok (.iconst (-1), 1) := by decide +kernel
theorem dL_culprits_281 : decode cL_culprits 281 = .ok (.if_icmp .eq 5, 3) := by decide +kernel
theorem dL_culprits_284 : decode cL_culprits 284 = .ok (.iconst 0, 1) := by decide +kernel
theorem dL_culprits_285 : decode cL_culprits 285 = .ok (.ireturn, 1) := by decide +kernel
theorem dL_culprits_286 : decode cL_culprits 286 = .ok (.iinc 10 1, 3) := by decide +kernel
theorem dL_culprits_289 : decode cL_culprits 289 = .ok (.goto (-170), 3) := by decide +kernel
theorem dL_culprits_292 : decode cL_culprits 292 = .ok (.aload_n 0, 1) := by decide +kernel
theorem dL_culprits_293 : decode cL_culprits 293 = .ok (.iload 4, 2) := by decide +kernel
theorem dL_culprits_295 : decode cL_culprits 295 = .ok (.invokestatic 135, 3) := by decide +kernel
theorem dL_culprits_298 : decode cL_culprits 298 = .ok (.istore 10, 2) := by decide +kernel
theorem dL_culprits_300 : decode cL_culprits 300 = .ok (.bipush 99, 2) := by decide +kernel
theorem dL_culprits_302 : decode cL_culprits 302 = .ok (.istore 11, 2) := by decide +kernel
theorem dL_culprits_304 : decode cL_culprits 304 = .ok (.aload_n 1, 1) := by decide +kernel
theorem dL_culprits_305 : decode cL_culprits 305 = .ok (.iload 4, 2) := by decide +kernel
theorem dL_culprits_307 : decode cL_culprits 307 = .ok (.iaload, 1) := by decide +kernel
theorem dL_culprits_308 : decode cL_culprits 308 = .ok (.iconst 1, 1) := by decide +kernel
theorem dL_culprits_309 : decode cL_culprits 309 = .ok (.iadd, 1) := by decide +kernel
theorem dL_culprits_310 : decode cL_culprits 310 = .ok (.istore 12, 2) := by decide +kernel
theorem dL_culprits_312 : decode cL_culprits 312 = .ok (.iload 12, 2) := by decide +kernel
theorem dL_culprits_314 : decode cL_culprits 314 = .ok (.aload_n 2, 1) := by decide +kernel
theorem dL_culprits_315 : decode cL_culprits 315 = .ok (.iload 4, 2) := by decide +kernel
theorem dL_culprits_317 : decode cL_culprits 317 = .ok (.iaload, 1) := by decide +kernel
theorem dL_culprits_318 : decode cL_culprits 318 = .ok (.if_icmp .ge 69, 3) := by decide +kernel
theorem dL_culprits_321 : decode cL_culprits 321 = .ok (.lload 7, 2) := by decide +kernel
theorem dL_culprits_323 : decode cL_culprits 323 = .ok (.ldc2_w 141, 3) := by decide +kernel
theorem dL_culprits_326 : decode cL_culprits 326 = .ok (.iload 12, 2) := by decide +kernel
theorem dL_culprits_328 : decode cL_culprits 328 = .ok (.lshl, 1) := by decide +kernel
theorem dL_culprits_329 : decode cL_culprits 329 = .ok (.lconst 1, 1) := by decide +kernel
theorem dL_culprits_330 : decode cL_culprits 330 = .ok (.lsub, 1) := by decide +kernel
theorem dL_culprits_331 : decode cL_culprits 331 = .ok (.land, 1) := by decide +kernel
theorem dL_culprits_332 : decode cL_culprits 332 = .ok (.invokestatic 143, 3) := by decide +kernel
theorem dL_culprits_335 : decode cL_culprits 335 = .ok (.istore 13, 2) := by decide +kernel
theorem dL_culprits_337 : decode cL_culprits 337 = .ok (.iload 13, 2) := by decide +kernel
theorem dL_culprits_339 : decode cL_culprits 339 = .ok (.lload 7, 2) := by decide +kernel
theorem dL_culprits_341 : decode cL_culprits 341 = .ok (.invokestatic 143, 3) := by decide +kernel
theorem dL_culprits_344 : decode cL_culprits 344 = .ok (.iload 13, 2) := by decide +kernel
theorem dL_culprits_346 : decode cL_culprits 346 = .ok (.isub, 1) := by decide +kernel
theorem dL_culprits_347 : decode cL_culprits 347 = .ok (.if_icmp .le 8, 3) := by decide +kernel
theorem dL_culprits_350 : decode cL_culprits 350 = .ok (.iload 13, 2) := by decide +kernel
theorem dL_culprits_352 : decode cL_culprits 352 = .ok (.goto 11, 3) := by decide +kernel
theorem dL_culprits_355 : decode cL_culprits 355 = .ok (.lload 7, 2) := by decide +kernel
theorem dL_culprits_357 : decode cL_culprits 357 = .ok (.invokestatic 143, 3) := by decide +kernel
theorem dL_culprits_360 : decode cL_culprits 360 = .ok (.iload 13, 2) := by decide +kernel
theorem dL_culprits_362 : decode cL_culprits 362 = .ok (.isub, 1) := by decide +kernel
theorem dL_culprits_363 : decode cL_culprits 363 = .ok (.istore 14, 2) := by decide +kernel
theorem dL_culprits_365 : decode cL_culprits 365 = .ok (.iload 14, 2) := by decide +kernel
theorem dL_culprits_367 : decode cL_culprits 367 = .ok (.iload 11, 2) := by decide +kernel
theorem dL_culprits_369 : decode cL_culprits 369 = .ok (.if_icmp .ge 8, 3) := by decide +kernel
theorem dL_culprits_372 : decode cL_culprits 372 = .ok (.iload 14, 2) := by decide +kernel
theorem dL_culprits_374 : decode cL_culprits 374 = .ok (.goto 5, 3) := by decide +kernel
theorem dL_culprits_377 : decode cL_culprits 377 = .ok (.iload 11, 2) := by decide +kernel
theorem dL_culprits_379 : decode cL_culprits 379 = .ok (.istore 11, 2) := by decide +kernel
theorem dL_culprits_381 : decode cL_culprits 381 = .ok (.iinc 12 1, 3) := by decide +kernel
theorem dL_culprits_384 : decode cL_culprits 384 = .ok (.goto (-72), 3) := by decide +kernel
theorem dL_culprits_387 : decode cL_culprits 387 = .ok (.iload 10, 2) := by decide +kernel
theorem dL_culprits_389 : decode cL_culprits 389 = .ok (.ifCond .lt 74, 3) := by decide +kernel
theorem dL_culprits_392 : decode cL_culprits 392 = .ok (.lload 7, 2) := by decide +kernel
theorem dL_culprits_394 : decode cL_culprits 394 = .ok (.ldc2_w 141, 3) := by decide +kernel
theorem dL_culprits_397 : decode cL_culprits 397 = .ok (.iload 10, 2) := by decide +kernel
theorem dL_culprits_399 : decode cL_culprits 399 = .ok (.lshl, 1) := by decide +kernel
theorem dL_culprits_400 : decode cL_culprits 400 = .ok (.lconst 1, 1) := by decide +kernel
theorem dL_culprits_401 : decode cL_culprits 401 = .ok (.lsub, 1) := by decide +kernel
theorem dL_culprits_402 : decode cL_culprits 402 = .ok (.land, 1) := by decide +kernel
theorem dL_culprits_403 : decode cL_culprits 403 = .ok (.invokestatic 143, 3) := by decide +kernel
theorem dL_culprits_406 : decode cL_culprits 406 = .ok (.istore 12, 2) := by decide +kernel
theorem dL_culprits_408 : decode cL_culprits 408 = .ok (.iload 12, 2) := by decide +kernel
theorem dL_culprits_410 : decode cL_culprits 410 = .ok (.lload 7, 2) := by decide +kernel
theorem dL_culprits_412 : decode cL_culprits 412 = .ok (.invokestatic 143, 3) := by decide +kernel
theorem dL_culprits_415 : decode cL_culprits 415 = .ok (.iload 12, 2) := by decide +kernel
theorem dL_culprits_417 : decode cL_culprits 417 = .ok (.isub, 1) := by decide +kernel
theorem dL_culprits_418 : decode cL_culprits 418 = .ok (.if_icmp .le 8, 3) := by decide +kernel
theorem dL_culprits_421 : decode cL_culprits 421 = .ok (.iload 12, 2) := by decide +kernel
theorem dL_culprits_423 : decode cL_culprits 423 = .ok (.goto 11, 3) := by decide +kernel
theorem dL_culprits_426 : decode cL_culprits 426 = .ok (.lload 7, 2) := by decide +kernel
theorem dL_culprits_428 : decode cL_culprits 428 = .ok (.invokestatic 143, 3) := by decide +kernel
theorem dL_culprits_431 : decode cL_culprits 431 = .ok (.iload 12, 2) := by decide +kernel
theorem dL_culprits_433 : decode cL_culprits 433 = .ok (.isub, 1) := by decide +kernel
theorem dL_culprits_434 : decode cL_culprits 434 = .ok (.istore 13, 2) := by decide +kernel
theorem dL_culprits_436 : decode cL_culprits 436 = .ok (.iload 10, 2) := by decide +kernel
theorem dL_culprits_438 : decode cL_culprits 438 = .ok (.aload_n 1, 1) := by decide +kernel
theorem dL_culprits_439 : decode cL_culprits 439 = .ok (.iload 4, 2) := by decide +kernel
theorem dL_culprits_441 : decode cL_culprits 441 = .ok (.iaload, 1) := by decide +kernel
theorem dL_culprits_442 : decode cL_culprits 442 = .ok (.if_icmp .le 19, 3) := by decide +kernel
theorem dL_culprits_445 : decode cL_culprits 445 = .ok (.iload 10, 2) := by decide +kernel
theorem dL_culprits_447 : decode cL_culprits 447 = .ok (.aload_n 2, 1) := by decide +kernel
theorem dL_culprits_448 : decode cL_culprits 448 = .ok (.iload 4, 2) := by decide +kernel
theorem dL_culprits_450 : decode cL_culprits 450 = .ok (.iaload, 1) := by decide +kernel
theorem dL_culprits_451 : decode cL_culprits 451 = .ok (.if_icmp .ge 10, 3) := by decide +kernel
theorem dL_culprits_454 : decode cL_culprits 454 = .ok (.iload 13, 2) := by decide +kernel
theorem dL_culprits_456 : decode cL_culprits 456 = .ok (.iload 11, 2) := by decide +kernel
theorem dL_culprits_458 : decode cL_culprits 458 = .ok (.if_icmp .eq 5, 3) := by decide +kernel
theorem dL_culprits_461 : decode cL_culprits 461 = .ok (.iconst 0, 1) := by decide +kernel
theorem dL_culprits_462 : decode cL_culprits 462 = .ok (.ireturn, 1) := by decide +kernel
theorem dL_culprits_463 : decode cL_culprits 463 = .ok (.aload_n 0, 1) := by decide +kernel
theorem dL_culprits_464 : decode cL_culprits 464 = .ok (.iload 4, 2) := by decide +kernel
theorem dL_culprits_466 : decode cL_culprits 466 = .ok (.invokestatic 126, 3) := by decide +kernel
theorem dL_culprits_469 : decode cL_culprits 469 = .ok (.lload 5, 2) := by decide +kernel
theorem dL_culprits_471 : decode cL_culprits 471 = .ok (.lcmp, 1) := by decide +kernel
theorem dL_culprits_472 : decode cL_culprits 472 = .ok (.ifCond .ne 75, 3) := by decide +kernel
theorem dL_culprits_475 : decode cL_culprits 475 = .ok (.aload_n 0, 1) := by decide +kernel
theorem dL_culprits_476 : decode cL_culprits 476 = .ok (.iload 4, 2) := by decide +kernel
theorem dL_culprits_478 : decode cL_culprits 478 = .ok (.invokestatic 129, 3) := by decide +kernel
theorem dL_culprits_481 : decode cL_culprits 481 = .ok (.lload 7, 2) := by decide +kernel
theorem dL_culprits_483 : decode cL_culprits 483 = .ok (.lcmp, 1) := by decide +kernel
theorem dL_culprits_484 : decode cL_culprits 484 = .ok (.ifCond .ne 63, 3) := by decide +kernel
theorem dL_culprits_487 : decode cL_culprits 487 = .ok (.aload_n 0, 1) := by decide +kernel
theorem dL_culprits_488 : decode cL_culprits 488 = .ok (.iload 4, 2) := by decide +kernel
theorem dL_culprits_490 : decode cL_culprits 490 = .ok (.invokestatic 133, 3) := by decide +kernel
theorem dL_culprits_493 : decode cL_culprits 493 = .ok (.iload 9, 2) := by decide +kernel
theorem dL_culprits_495 : decode cL_culprits 495 = .ok (.if_icmp .ne 52, 3) := by decide +kernel
theorem dL_culprits_498 : decode cL_culprits 498 = .ok (.iload 10, 2) := by decide +kernel
theorem dL_culprits_500 : decode cL_culprits 500 = .ok (.iconst (-1), 1) := by decide +kernel
theorem dL_culprits_501 : decode cL_culprits 501 = .ok (.if_icmp .ne 7, 3) := by decide +kernel
theorem dL_culprits_504 : decode cL_culprits 504 = .ok (.iconst 1, 1) := by decide +kernel
theorem dL_culprits_505 : decode cL_culprits 505 = .ok (.goto 4, 3) := by decide +kernel
theorem dL_culprits_508 : decode cL_culprits 508 = .ok (.iconst 0, 1) := by decide +kernel
theorem dL_culprits_509 : decode cL_culprits 509 = .ok (.aload_n 2, 1) := by decide +kernel
theorem dL_culprits_510 : decode cL_culprits 510 = .ok (.iload 4, 2) := by decide +kernel
theorem dL_culprits_512 : decode cL_culprits 512 = .ok (.iaload, 1) := by decide +kernel
theorem dL_culprits_513 : decode cL_culprits 513 = .ok (.aload_n 1, 1) := by decide +kernel
theorem dL_culprits_514 : decode cL_culprits 514 = .ok (.iload 4, 2) := by decide +kernel
theorem dL_culprits_516 : decode cL_culprits 516 = .ok (.iaload, 1) := by decide +kernel
theorem dL_culprits_517 : decode cL_culprits 517 = .ok (.iconst 1, 1) := by decide +kernel
theorem dL_culprits_518 : decode cL_culprits 518 = .ok (.iadd, 1) := by decide +kernel
theorem dL_culprits_519 : decode cL_culprits 519 = .ok (.if_icmp .ne 7, 3) := by decide +kernel
theorem dL_culprits_522 : decode cL_culprits 522 = .ok (.iconst 1, 1) := by decide +kernel
theorem dL_culprits_523 : decode cL_culprits 523 = .ok (.goto 4, 3) := by decide +kernel
theorem dL_culprits_526 : decode cL_culprits 526 = .ok (.iconst 0, 1) := by decide +kernel
theorem dL_culprits_527 : decode cL_culprits 527 = .ok (.if_icmp .ne 20, 3) := by decide +kernel
theorem dL_culprits_530 : decode cL_culprits 530 = .ok (.iload 10, 2) := by decide +kernel
theorem dL_culprits_532 : decode cL_culprits 532 = .ok (.iconst (-1), 1) := by decide +kernel
theorem dL_culprits_533 : decode cL_culprits 533 = .ok (.if_icmp .lt 14, 3) := by decide +kernel
theorem dL_culprits_536 : decode cL_culprits 536 = .ok (.iload 10, 2) := by decide +kernel
theorem dL_culprits_538 : decode cL_culprits 538 = .ok (.bipush 40, 2) := by decide +kernel
theorem dL_culprits_540 : decode cL_culprits 540 = .ok (.if_icmp .ge 7, 3) := by decide +kernel
theorem dL_culprits_543 : decode cL_culprits 543 = .ok (.iconst 1, 1) := by decide +kernel
theorem dL_culprits_544 : decode cL_culprits 544 = .ok (.goto 4, 3) := by decide +kernel
theorem dL_culprits_547 : decode cL_culprits 547 = .ok (.iconst 0, 1) := by decide +kernel
theorem dL_culprits_548 : decode cL_culprits 548 = .ok (.ireturn, 1) := by decide +kernel
theorem dL_records_0 : decode cL_records 0 = .ok (.aload_n 0, 1) := by decide +kernel
theorem dL_records_1 : decode cL_records 1 = .ok (.iload 4, 2) := by decide +kernel
theorem dL_records_3 : decode cL_records 3 = .ok (.iload 5, 2) := by decide +kernel
theorem dL_records_5 : decode cL_records 5 = .ok (.invokestatic 113, 3) := by decide +kernel
theorem dL_records_8 : decode cL_records 8 = .ok (.istore 7, 2) := by decide +kernel
theorem dL_records_10 : decode cL_records 10 = .ok (.aload_n 0, 1) := by decide +kernel
theorem dL_records_11 : decode cL_records 11 = .ok (.iload 4, 2) := by decide +kernel
theorem dL_records_13 : decode cL_records 13 = .ok (.invokestatic 116, 3) := by decide +kernel
theorem dL_records_16 : decode cL_records 16 = .ok (.istore 8, 2) := by decide +kernel
theorem dL_records_18 : decode cL_records 18 = .ok (.lconst 0, 1) := by decide +kernel
theorem dL_records_19 : decode cL_records 19 = .ok (.lstore 9, 2) := by decide +kernel
theorem dL_records_21 : decode cL_records 21 = .ok (.lconst 0, 1) := by decide +kernel
theorem dL_records_22 : decode cL_records 22 = .ok (.lstore 11, 2) := by decide +kernel
theorem dL_records_24 : decode cL_records 24 = .ok (.iconst 0, 1) := by decide +kernel
theorem dL_records_25 : decode cL_records 25 = .ok (.istore 13, 2) := by decide +kernel
theorem dL_records_27 : decode cL_records 27 = .ok (.iload 13, 2) := by decide +kernel
theorem dL_records_29 : decode cL_records 29 = .ok (.aload_n 0, 1) := by decide +kernel
theorem dL_records_30 : decode cL_records 30 = .ok (.invokevirtual 110, 3) := by decide +kernel
theorem dL_records_33 : decode cL_records 33 = .ok (.if_icmp .ge 102, 3) := by decide +kernel
theorem dL_records_36 : decode cL_records 36 = .ok (.aload_n 1, 1) := by decide +kernel
theorem dL_records_37 : decode cL_records 37 = .ok (.iload 4, 2) := by decide +kernel
theorem dL_records_39 : decode cL_records 39 = .ok (.iaload, 1) := by decide +kernel
theorem dL_records_40 : decode cL_records 40 = .ok (.ifCond .lt 95, 3) := by decide +kernel
theorem dL_records_43 : decode cL_records 43 = .ok (.aload_n 0, 1) := by decide +kernel
theorem dL_records_44 : decode cL_records 44 = .ok (.iload 4, 2) := by decide +kernel
theorem dL_records_46 : decode cL_records 46 = .ok (.iload 13, 2) := by decide +kernel
theorem dL_records_48 : decode cL_records 48 = .ok (.invokestatic 131, 3) := by decide +kernel
theorem dL_records_51 : decode cL_records 51 = .ok (.istore 14, 2) := by decide +kernel
theorem dL_records_53 : decode cL_records 53 = .ok (.iload 14, 2) := by decide +kernel
theorem dL_records_55 : decode cL_records 55 = .ok (.ifCond .lt 47, 3) := by decide +kernel
theorem dL_records_58 : decode cL_records 58 = .ok (.iload 5, 2) := by decide +kernel
theorem dL_records_60 : decode cL_records 60 = .ok (.aload_n 1, 1) := by decide +kernel
theorem dL_records_61 : decode cL_records 61 = .ok (.iload 4, 2) := by decide +kernel
theorem dL_records_63 : decode cL_records 63 = .ok (.iaload, 1) := by decide +kernel
theorem dL_records_64 : decode cL_records 64 = .ok (.if_icmp .lt 38, 3) := by decide +kernel
theorem dL_records_67 : decode cL_records 67 = .ok (.iload 5, 2) := by decide +kernel
theorem dL_records_69 : decode cL_records 69 = .ok (.aload_n 2, 1) := by decide +kernel
theorem dL_records_70 : decode cL_records 70 = .ok (.iload 4, 2) := by decide +kernel
theorem dL_records_72 : decode cL_records 72 = .ok (.iaload, 1) := by decide +kernel
theorem dL_records_73 : decode cL_records 73 = .ok (.if_icmp .gt 29, 3) := by decide +kernel
theorem dL_records_76 : decode cL_records 76 = .ok (.iload 6, 2) := by decide +kernel
theorem dL_records_78 : decode cL_records 78 = .ok (.ifCond .eq 13, 3) := by decide +kernel
theorem dL_records_81 : decode cL_records 81 = .ok (.iload 5, 2) := by decide +kernel
theorem dL_records_83 : decode cL_records 83 = .ok (.iload 13, 2) := by decide +kernel
theorem dL_records_85 : decode cL_records 85 = .ok (.if_icmp .lt 17, 3) := by decide +kernel
theorem dL_records_88 : decode cL_records 88 = .ok (.goto 10, 3) := by decide +kernel
theorem dL_records_91 : decode cL_records 91 = .ok (.iload 5, 2) := by decide +kernel
theorem dL_records_93 : decode cL_records 93 = .ok (.iload 13, 2) := by decide +kernel
theorem dL_records_95 : decode cL_records 95 = .ok (.if_icmp .ge 7, 3) := by decide +kernel
theorem dL_records_98 : decode cL_records 98 = .ok (.iconst 1, 1) := by decide +kernel
theorem dL_records_99 : decode cL_records 99 = .ok (.goto 4, 3) := by decide +kernel
theorem dL_records_102 : decode cL_records 102 = .ok (.iconst 0, 1) := by decide +kernel
theorem dL_records_103 : decode cL_records 103 = .ok (.istore 15, 2) := by decide +kernel
theorem dL_records_105 : decode cL_records 105 = .ok (.ldc2_w 147, 3) := by decide +kernel
theorem dL_records_108 : decode cL_records 108 = .ok (.lload 11, 2) := by decide +kernel
theorem dL_records_110 : decode cL_records 110 = .ok (.lmul, 1) := by decide +kernel
theorem dL_records_111 : decode cL_records 111 = .ok (.iload 14, 2) := by decide +kernel
theorem dL_records_113 : decode cL_records 113 = .ok (.i2l, 1) := by decide +kernel
theorem dL_records_114 : decode cL_records 114 = .ok (.ladd, 1) := by decide +kernel
theorem dL_records_115 : decode cL_records 115 = .ok (.iload 15, 2) := by decide +kernel
theorem dL_records_117 : decode cL_records 117 = .ok (.ifCond .eq 7, 3) := by decide +kernel
theorem dL_records_120 : decode cL_records 120 = .ok (.iconst 1, 1) := by decide +kernel
theorem dL_records_121 : decode cL_records 121 = .ok (.goto 4, 3) := by decide +kernel
theorem dL_records_124 : decode cL_records 124 = .ok (.iconst 0, 1) := by decide +kernel
theorem dL_records_125 : decode cL_records 125 = .ok (.i2l, 1) := by decide +kernel
theorem dL_records_126 : decode cL_records 126 = .ok (.ladd, 1) := by decide +kernel
theorem dL_records_127 : decode cL_records 127 = .ok (.lstore 11, 2) := by decide +kernel
theorem dL_records_129 : decode cL_records 129 = .ok (.iinc 13 1, 3) := by decide +kernel
theorem dL_records_132 : decode cL_records 132 = .ok (.goto (-105), 3) := by decide +kernel
theorem dL_records_135 : decode cL_records 135 = .ok (.aload_n 0, 1) := by decide +kernel
theorem dL_records_136 : decode cL_records 136 = .ok (.iload 4, 2) := by decide +kernel
theorem dL_records_138 : decode cL_records 138 = .ok (.iload 5, 2) := by decide +kernel
theorem dL_records_140 : decode cL_records 140 = .ok (.iload 6, 2) := by decide +kernel
theorem dL_records_142 : decode cL_records 142 = .ok (.invokestatic 149, 3) := by decide +kernel
theorem dL_records_145 : decode cL_records 145 = .ok (.istore 13, 2) := by decide +kernel
theorem dL_records_147 : decode cL_records 147 = .ok (.iload 8, 2) := by decide +kernel
theorem dL_records_149 : decode cL_records 149 = .ok (.sipush 200, 3) := by decide +kernel
theorem dL_records_152 : decode cL_records 152 = .ok (.if_icmp .ne 28, 3) := by decide +kernel
theorem dL_records_155 : decode cL_records 155 = .ok (.iload 13, 2) := by decide +kernel
theorem dL_records_157 : decode cL_records 157 = .ok (.ldc 28, 2) := by decide +kernel
theorem dL_records_159 : decode cL_records 159 = .ok (.if_icmp .ne 19, 3) := by decide +kernel
theorem dL_records_162 : decode cL_records 162 = .ok (.aload_n 0, 1) := by decide +kernel
theorem dL_records_163 : decode cL_records 163 = .ok (.iload 4, 2) := by decide +kernel
theorem dL_records_165 : decode cL_records 165 = .ok (.invokestatic 116, 3) := by decide +kernel
theorem dL_records_168 : decode cL_records 168 = .ok (.sipush 200, 3) := by decide +kernel
theorem dL_records_171 : decode cL_records 171 = .ok (.if_icmp .ne 7, 3) := by decide +kernel
theorem dL_records_174 : decode cL_records 174 = .ok (.iconst 1, 1) := by decide +kernel
theorem dL_records_175 : decode cL_records 175 = .ok (.goto 4, 3) := by decide +kernel
theorem dL_records_178 : decode cL_records 178 = .ok (.iconst 0, 1) := by decide +kernel
theorem dL_records_179 : decode cL_records 179 = .ok (.ireturn, 1) := by decide +kernel
theorem dL_records_180 : decode cL_records 180 = .ok (.aload_n 3, 1) := by decide +kernel
theorem dL_records_181 : decode cL_records 181 = .ok (.iload 4, 2) := by decide +kernel
theorem dL_records_183 : decode cL_records 183 = .ok (.dup2, 1) := by decide +kernel
theorem dL_records_184 : decode cL_records 184 = .ok (.iaload, 1) := by decide +kernel
theorem dL_records_185 : decode cL_records 185 = .ok (.iload 6, 2) := by decide +kernel
theorem dL_records_187 : decode cL_records 187 = .ok (.ifCond .eq 7, 3) := by decide +kernel
theorem dL_records_190 : decode cL_records 190 = .ok (.iconst 0, 1) := by decide +kernel
theorem dL_records_191 : decode cL_records 191 = .ok (.goto 4, 3) := by decide +kernel
theorem dL_records_194 : decode cL_records 194 = .ok (.iconst 1, 1) := by decide +kernel
theorem dL_records_195 : decode cL_records 195 = .ok (.iadd, 1) := by decide +kernel
theorem dL_records_196 : decode cL_records 196 = .ok (.iastore, 1) := by decide +kernel
theorem dL_records_197 : decode cL_records 197 = .ok (.iconst 0, 1) := by decide +kernel
theorem dL_records_198 : decode cL_records 198 = .ok (.istore 14, 2) := by decide +kernel
theorem dL_records_200 : decode cL_records 200 = .ok (.iload 14, 2) := by decide +kernel
theorem dL_records_202 : decode cL_records 202 = .ok (.aload_n 0, 1) := by decide +kernel
theorem dL_records_203 : decode cL_records 203 = .ok (.invokevirtual 110, 3) := by decide +kernel
theorem dL_records_206 : decode cL_records 206 = .ok (.if_icmp .ge 34, 3) := by decide +kernel
theorem dL_records_209 : decode cL_records 209 = .ok (.aload_n 1, 1) := by decide +kernel
theorem dL_records_210 : decode cL_records 210 = .ok (.iload 4, 2) := by decide +kernel
theorem dL_records_212 : decode cL_records 212 = .ok (.iaload, 1) := by decide +kernel
theorem dL_records_213 : decode cL_records 213 = .ok (.ifCond .lt 27, 3) := by decide +kernel
theorem dL_records_216 : decode cL_records 216 = .ok (.ldc2_w 147, 3) := by decide +kernel
theorem dL_records_219 : decode cL_records 219 = .ok (.lload 9, 2) := by decide +kernel
theorem dL_records_221 : decode cL_records 221 = .ok (.lmul, 1) := by decide +kernel
theorem dL_records_222 : decode cL_records 222 = .ok (.aload_n 0, 1) := by decide +kernel
theorem dL_records_223 : decode cL_records 223 = .ok (.iload 4, 2) := by decide +kernel
theorem dL_records_225 : decode cL_records 225 = .ok (.iload 14, 2) := by decide +kernel
theorem dL_records_227 : decode cL_records 227 = .ok (.invokestatic 131, 3) := by decide +kernel
theorem dL_records_230 : decode cL_records 230 = .ok (.i2l, 1) := by decide +kernel
theorem dL_records_231 : decode cL_records 231 = .ok (.ladd, 1) := by decide +kernel
theorem dL_records_232 : decode cL_records 232 = .ok (.lstore 9, 2) := by decide +kernel
theorem dL_records_234 : decode cL_records 234 = .ok (.iinc 14 1, 3) := by decide +kernel
theorem dL_records_237 : decode cL_records 237 = .ok (.goto (-37), 3) := by decide +kernel
theorem dL_records_240 : decode cL_records 240 = .ok (.iload 13, 2) := by decide +kernel
theorem dL_records_242 : decode cL_records 242 = .ok (.iload 7, 2) := by decide +kernel
theorem dL_records_244 : decode cL_records 244 = .ok (.iload 6, 2) := by decide +kernel
theorem dL_records_246 : decode cL_records 246 = .ok (.ifCond .eq 7, 3) := by decide +kernel
theorem dL_records_249 : decode cL_records 249 = .ok (.iconst 1, 1) := by decide +kernel
theorem dL_records_250 : decode cL_records 250 = .ok (.goto 4, 3) := by decide +kernel
theorem dL_records_253 : decode cL_records 253 = .ok (.iconst 2, 1) := by decide +kernel
theorem dL_records_254 : decode cL_records 254 = .ok (.ior, 1) := by decide +kernel
theorem dL_records_255 : decode cL_records 255 = .ok (.if_icmp .ne 41, 3) := by decide +kernel
theorem dL_records_258 : decode cL_records 258 = .ok (.aload_n 0, 1) := by decide +kernel
theorem dL_records_259 : decode cL_records 259 = .ok (.iload 4, 2) := by decide +kernel
theorem dL_records_261 : decode cL_records 261 = .ok (.iload 5, 2) := by decide +kernel
theorem dL_records_263 : decode cL_records 263 = .ok (.invokestatic 113, 3) := by decide +kernel
theorem dL_records_266 : decode cL_records 266 = .ok (.iload 13, 2) := by decide +kernel
theorem dL_records_268 : decode cL_records 268 = .ok (.if_icmp .ne 28, 3) := by decide +kernel
theorem dL_records_271 : decode cL_records 271 = .ok (.aload_n 0, 1) := by decide +kernel
theorem dL_records_272 : decode cL_records 272 = .ok (.iload 4, 2) := by decide +kernel
theorem dL_records_274 : decode cL_records 274 = .ok (.invokestatic 116, 3) := by decide +kernel
theorem dL_records_277 : decode cL_records 277 = .ok (.iload 8, 2) := by decide +kernel
theorem dL_records_279 : decode cL_records 279 = .ok (.iconst 1, 1) := by decide +kernel
theorem dL_records_280 : decode cL_records 280 = .ok (.iadd, 1) := by decide +kernel
theorem dL_records_281 : decode cL_records 281 = .ok (.if_icmp .ne 15, 3) := by decide +kernel
theorem dL_records_284 : decode cL_records 284 = .ok (.lload 9, 2) := by decide +kernel
theorem dL_records_286 : decode cL_records 286 = .ok (.lload 11, 2) := by decide +kernel
theorem dL_records_288 : decode cL_records 288 = .ok (.lcmp, 1) := by decide +kernel
theorem dL_records_289 : decode cL_records 289 = .ok (.ifCond .ne 7, 3) := by decide +kernel
theorem dL_records_292 : decode cL_records 292 = .ok (.iconst 1, 1) := by decide +kernel
theorem dL_records_293 : decode cL_records 293 = .ok (.goto 4, 3) := by decide +kernel
theorem dL_records_296 : decode cL_records 296 = .ok (.iconst 0, 1) := by decide +kernel
theorem dL_records_297 : decode cL_records 297 = .ok (.ireturn, 1) := by decide +kernel
theorem dL_takes_0 : decode cL_takes 0 = .ok (.aload_n 2, 1) := by decide +kernel
theorem dL_takes_1 : decode cL_takes 1 = .ok (.iconst 4, 1) := by decide +kernel
theorem dL_takes_2 : decode cL_takes 2 = .ok (.iaload, 1) := by decide +kernel
theorem dL_takes_3 : decode cL_takes 3 = .ok (.ifCond .eq 9, 3) := by decide +kernel
theorem dL_takes_6 : decode cL_takes 6 = .ok (.aload_n 2, 1) := by decide +kernel
theorem dL_takes_7 : decode cL_takes 7 = .ok (.iconst 3, 1) := by decide +kernel
theorem dL_takes_8 : decode cL_takes 8 = .ok (.iaload, 1) := by decide +kernel
theorem dL_takes_9 : decode cL_takes 9 = .ok (.ifCond .ne 18, 3) := by decide +kernel
theorem dL_takes_12 : decode cL_takes 12 = .ok (.aload_n 0, 1) := by decide +kernel
theorem dL_takes_13 : decode cL_takes 13 = .ok (.invokestatic 152, 3) := by decide +kernel
theorem dL_takes_16 : decode cL_takes 16 = .ok (.ldc 28, 2) := by decide +kernel
theorem dL_takes_18 : decode cL_takes 18 = .ok (.if_icmp .ne 7, 3) := by decide +kernel
theorem dL_takes_21 : decode cL_takes 21 = .ok (.iconst 1, 1) := by decide +kernel
theorem dL_takes_22 : decode cL_takes 22 = .ok (.goto 4, 3) := by decide +kernel
theorem dL_takes_25 : decode cL_takes 25 = .ok (.iconst 0, 1) := by decide +kernel
theorem dL_takes_26 : decode cL_takes 26 = .ok (.ireturn, 1) := by decide +kernel
theorem dL_takes_27 : decode cL_takes 27 = .ok (.aload_n 1, 1) := by decide +kernel
theorem dL_takes_28 : decode cL_takes 28 = .ok (.iconst 0, 1) := by decide +kernel
theorem dL_takes_29 : decode cL_takes 29 = .ok (.iaload, 1) := by decide +kernel
theorem dL_takes_30 : decode cL_takes 30 = .ok (.istore_n 3, 1) := by decide +kernel
theorem dL_takes_31 : decode cL_takes 31 = .ok (.aload_n 0, 1) := by decide +kernel
theorem dL_takes_32 : decode cL_takes 32 = .ok (.iload_n 3, 1) := by decide +kernel
theorem dL_takes_33 : decode cL_takes 33 = .ok (.invokestatic 129, 3) := by decide +kernel
theorem dL_takes_36 : decode cL_takes 36 = .ok (.invokestatic 143, 3) := by decide +kernel
theorem dL_takes_39 : decode cL_takes 39 = .ok (.iconst 1, 1) := by decide +kernel
theorem dL_takes_40 : decode cL_takes 40 = .ok (.if_icmp .le 7, 3) := by decide +kernel
theorem dL_takes_43 : decode cL_takes 43 = .ok (.iconst 1, 1) := by decide +kernel
theorem dL_takes_44 : decode cL_takes 44 = .ok (.goto 4, 3) := by decide +kernel
theorem dL_takes_47 : decode cL_takes 47 = .ok (.iconst 0, 1) := by decide +kernel
theorem dL_takes_48 : decode cL_takes 48 = .ok (.istore 4, 2) := by decide +kernel
theorem dL_takes_50 : decode cL_takes 50 = .ok (.iconst 1, 1) := by decide +kernel
theorem dL_takes_51 : decode cL_takes 51 = .ok (.istore 5, 2) := by decide +kernel
theorem dL_takes_53 : decode cL_takes 53 = .ok (.iload 5, 2) := by decide +kernel
theorem dL_takes_55 : decode cL_takes 55 = .ok (.aload_n 2, 1) := by decide +kernel
theorem dL_takes_56 : decode cL_takes 56 = .ok (.iconst 4, 1) := by decide +kernel
theorem dL_takes_57 : decode cL_takes 57 = .ok (.iaload, 1) := by decide +kernel
theorem dL_takes_58 : decode cL_takes 58 = .ok (.if_icmp .ge 19, 3) := by decide +kernel
theorem dL_takes_61 : decode cL_takes 61 = .ok (.aload_n 1, 1) := by decide +kernel
theorem dL_takes_62 : decode cL_takes 62 = .ok (.iload 5, 2) := by decide +kernel
theorem dL_takes_64 : decode cL_takes 64 = .ok (.iconst 1, 1) := by decide +kernel
theorem dL_takes_65 : decode cL_takes 65 = .ok (.isub, 1) := by decide +kernel
theorem dL_takes_66 : decode cL_takes 66 = .ok (.aload_n 1, 1) := by decide +kernel
theorem dL_takes_67 : decode cL_takes 67 = .ok (.iload 5, 2) := by decide +kernel
theorem dL_takes_69 : decode cL_takes 69 = .ok (.iaload, 1) := by decide +kernel
theorem dL_takes_70 : decode cL_takes 70 = .ok (.iastore, 1) := by decide +kernel
theorem dL_takes_71 : decode cL_takes 71 = .ok (.iinc 5 1, 3) := by decide +kernel
theorem dL_takes_74 : decode cL_takes 74 = .ok (.goto (-21), 3) := by decide +kernel
theorem dL_takes_77 : decode cL_takes 77 = .ok (.aload_n 1, 1) := by decide +kernel
theorem dL_takes_78 : decode cL_takes 78 = .ok (.aload_n 2, 1) := by decide +kernel
theorem dL_takes_79 : decode cL_takes 79 = .ok (.iconst 4, 1) := by decide +kernel
theorem dL_takes_80 : decode cL_takes 80 = .ok (.iaload, 1) := by decide +kernel
theorem dL_takes_81 : decode cL_takes 81 = .ok (.iconst 1, 1) := by decide +kernel
theorem dL_takes_82 : decode cL_takes 82 = .ok (.isub, 1) := by decide +kernel
theorem dL_takes_83 : decode cL_takes 83 = .ok (.iload_n 3, 1) := by decide +kernel
theorem dL_takes_84 : decode cL_takes 84 = .ok (.iastore, 1) := by decide +kernel
theorem dL_takes_85 : decode cL_takes 85 = .ok (.aload_n 2, 1) := by decide +kernel
theorem dL_takes_86 : decode cL_takes 86 = .ok (.iconst 4, 1) := by decide +kernel
theorem dL_takes_87 : decode cL_takes 87 = .ok (.dup2, 1) := by decide +kernel
theorem dL_takes_88 : decode cL_takes 88 = .ok (.iaload, 1) := by decide +kernel
theorem dL_takes_89 : decode cL_takes 89 = .ok (.iload 4, 2) := by decide +kernel
theorem dL_takes_91 : decode cL_takes 91 = .ok (.ifCond .eq 7, 3) := by decide +kernel
theorem dL_takes_94 : decode cL_takes 94 = .ok (.iconst 0, 1) := by decide +kernel
theorem dL_takes_95 : decode cL_takes 95 = .ok (.goto 4, 3) := by decide +kernel
theorem dL_takes_98 : decode cL_takes 98 = .ok (.iconst 1, 1) := by decide +kernel
theorem dL_takes_99 : decode cL_takes 99 = .ok (.isub, 1) := by decide +kernel
theorem dL_takes_100 : decode cL_takes 100 = .ok (.iastore, 1) := by decide +kernel
theorem dL_takes_101 : decode cL_takes 101 = .ok (.aload_n 2, 1) := by decide +kernel
theorem dL_takes_102 : decode cL_takes 102 = .ok (.iconst 3, 1) := by decide +kernel
theorem dL_takes_103 : decode cL_takes 103 = .ok (.dup2, 1) := by decide +kernel
theorem dL_takes_104 : decode cL_takes 104 = .ok (.iaload, 1) := by decide +kernel
theorem dL_takes_105 : decode cL_takes 105 = .ok (.iconst 1, 1) := by decide +kernel
theorem dL_takes_106 : decode cL_takes 106 = .ok (.isub, 1) := by decide +kernel
theorem dL_takes_107 : decode cL_takes 107 = .ok (.iastore, 1) := by decide +kernel
theorem dL_takes_108 : decode cL_takes 108 = .ok (.aload_n 0, 1) := by decide +kernel
theorem dL_takes_109 : decode cL_takes 109 = .ok (.invokestatic 152, 3) := by decide +kernel
theorem dL_takes_112 : decode cL_takes 112 = .ok (.iload_n 3, 1) := by decide +kernel
theorem dL_takes_113 : decode cL_takes 113 = .ok (.if_icmp .ne 7, 3) := by decide +kernel
theorem dL_takes_116 : decode cL_takes 116 = .ok (.iconst 1, 1) := by decide +kernel
theorem dL_takes_117 : decode cL_takes 117 = .ok (.goto 4, 3) := by decide +kernel
theorem dL_takes_120 : decode cL_takes 120 = .ok (.iconst 0, 1) := by decide +kernel
theorem dL_takes_121 : decode cL_takes 121 = .ok (.ireturn, 1) := by decide +kernel
theorem dL_leaves_0 : decode cL_leaves 0 = .ok (.aload_n 0, 1) := by decide +kernel
theorem dL_leaves_1 : decode cL_leaves 1 = .ok (.iload 4, 2) := by decide +kernel
theorem dL_leaves_3 : decode cL_leaves 3 = .ok (.invokestatic 129, 3) := by decide +kernel
theorem dL_leaves_6 : decode cL_leaves 6 = .ok (.lstore 5, 2) := by decide +kernel
theorem dL_leaves_8 : decode cL_leaves 8 = .ok (.iconst 0, 1) := by decide +kernel
theorem dL_leaves_9 : decode cL_leaves 9 = .ok (.istore 7, 2) := by decide +kernel
theorem dL_leaves_11 : decode cL_leaves 11 = .ok (.iload 7, 2) := by decide +kernel
theorem dL_leaves_13 : decode cL_leaves 13 = .ok (.bipush 40, 2) := by decide +kernel
theorem dL_leaves_15 : decode cL_leaves 15 = .ok (.if_icmp .ge 21, 3) := by decide +kernel
theorem dL_leaves_18 : decode cL_leaves 18 = .ok (.lload 5, 2) := by decide +kernel
theorem dL_leaves_20 : decode cL_leaves 20 = .ok (.iload 7, 2) := by decide +kernel
theorem dL_leaves_22 : decode cL_leaves 22 = .ok (.lshr, 1) := by decide +kernel
theorem dL_leaves_23 : decode cL_leaves 23 = .ok (.lconst 1, 1) := by decide +kernel
theorem dL_leaves_24 : decode cL_leaves 24 = .ok (.land, 1) := by decide +kernel
theorem dL_leaves_25 : decode cL_leaves 25 = .ok (.lconst 0, 1) := by decide +kernel
theorem dL_leaves_26 : decode cL_leaves 26 = .ok (.lcmp, 1) := by decide +kernel
theorem dL_leaves_27 : decode cL_leaves 27 = .ok (.ifCond .ne 9, 3) := by decide +kernel
theorem dL_leaves_30 : decode cL_leaves 30 = .ok (.iinc 7 1, 3) := by decide +kernel
theorem dL_leaves_33 : decode cL_leaves 33 = .ok (.goto (-22), 3) := by decide +kernel
theorem dL_leaves_36 : decode cL_leaves 36 = .ok (.iconst 0, 1) := by decide +kernel
theorem dL_leaves_37 : decode cL_leaves 37 = .ok (.istore 8, 2) := by decide +kernel
theorem dL_leaves_39 : decode cL_leaves 39 = .ok (.iconst 0, 1) := by decide +kernel
theorem dL_leaves_40 : decode cL_leaves 40 = .ok (.istore 9, 2) := by decide +kernel
theorem dL_leaves_42 : decode cL_leaves 42 = .ok (.iload 9, 2) := by decide +kernel
theorem dL_leaves_44 : decode cL_leaves 44 = .ok (.aload_n 3, 1) := by decide +kernel
theorem dL_leaves_45 : decode cL_leaves 45 = .ok (.iconst 4, 1) := by decide +kernel
theorem dL_leaves_46 : decode cL_leaves 46 = .ok (.iaload, 1) := by decide +kernel
theorem dL_leaves_47 : decode cL_leaves 47 = .ok (.if_icmp .ge 36, 3) := by decide +kernel
theorem dL_leaves_50 : decode cL_leaves 50 = .ok (.aload_n 2, 1) := by decide +kernel
theorem dL_leaves_51 : decode cL_leaves 51 = .ok (.iload 8, 2) := by decide +kernel
theorem dL_leaves_53 : decode cL_leaves 53 = .ok (.aload_n 2, 1) := by decide +kernel
theorem dL_leaves_54 : decode cL_leaves 54 = .ok (.iload 9, 2) := by decide +kernel
theorem dL_leaves_56 : decode cL_leaves 56 = .ok (.iaload, 1) := by decide +kernel
theorem dL_leaves_57 : decode cL_leaves 57 = .ok (.iastore, 1) := by decide +kernel
theorem dL_leaves_58 : decode cL_leaves 58 = .ok (.iload 8, 2) := by decide +kernel
theorem dL_leaves_60 : decode cL_leaves 60 = .ok (.aload_n 2, 1) := by decide +kernel
theorem dL_leaves_61 : decode cL_leaves 61 = .ok (.iload 9, 2) := by decide +kernel
theorem dL_leaves_63 : decode cL_leaves 63 = .ok (.iaload, 1) := by decide +kernel
theorem dL_leaves_64 : decode cL_leaves 64 = .ok (.iload 4, 2) := by decide +kernel
theorem dL_leaves_66 : decode cL_leaves 66 = .ok (.if_icmp .ne 7, 3) := by decide +kernel
theorem dL_leaves_69 : decode cL_leaves 69 = .ok (.iconst 0, 1) := by decide +kernel
theorem dL_leaves_70 : decode cL_leaves 70 = .ok (.goto 4, 3) := by decide +kernel
theorem dL_leaves_73 : decode cL_leaves 73 = .ok (.iconst 1, 1) := by decide +kernel
theorem dL_leaves_74 : decode cL_leaves 74 = .ok (.iadd, 1) := by decide +kernel
theorem dL_leaves_75 : decode cL_leaves 75 = .ok (.istore 8, 2) := by decide +kernel
theorem dL_leaves_77 : decode cL_leaves 77 = .ok (.iinc 9 1, 3) := by decide +kernel
theorem dL_leaves_80 : decode cL_leaves 80 = .ok (.goto (-38), 3) := by decide +kernel
theorem dL_leaves_83 : decode cL_leaves 83 = .ok (.aload_n 3, 1) := by decide +kernel
theorem dL_leaves_84 : decode cL_leaves 84 = .ok (.iconst 4, 1) := by decide +kernel
theorem dL_leaves_85 : decode cL_leaves 85 = .ok (.iload 8, 2) := by decide +kernel
theorem dL_leaves_87 : decode cL_leaves 87 = .ok (.iastore, 1) := by decide +kernel
theorem dL_leaves_88 : decode cL_leaves 88 = .ok (.aload_n 1, 1) := by decide +kernel
theorem dL_leaves_89 : decode cL_leaves 89 = .ok (.iload 4, 2) := by decide +kernel
theorem dL_leaves_91 : decode cL_leaves 91 = .ok (.iconst (-1), 1) := by decide +kernel
theorem dL_leaves_92 : decode cL_leaves 92 = .ok (.iastore, 1) := by decide +kernel
theorem dL_leaves_93 : decode cL_leaves 93 = .ok (.aload_n 0, 1) := by decide +kernel
theorem dL_leaves_94 : decode cL_leaves 94 = .ok (.iload 4, 2) := by decide +kernel
theorem dL_leaves_96 : decode cL_leaves 96 = .ok (.invokestatic 139, 3) := by decide +kernel
theorem dL_leaves_99 : decode cL_leaves 99 = .ok (.lload 5, 2) := by decide +kernel
theorem dL_leaves_101 : decode cL_leaves 101 = .ok (.invokestatic 143, 3) := by decide +kernel
theorem dL_leaves_104 : decode cL_leaves 104 = .ok (.iconst 1, 1) := by decide +kernel
theorem dL_leaves_105 : decode cL_leaves 105 = .ok (.if_icmp .ne 8, 3) := by decide +kernel
theorem dL_leaves_108 : decode cL_leaves 108 = .ok (.iload 7, 2) := by decide +kernel
theorem dL_leaves_110 : decode cL_leaves 110 = .ok (.goto 4, 3) := by decide +kernel
theorem dL_leaves_113 : decode cL_leaves 113 = .ok (.iconst (-1), 1) := by decide +kernel
theorem dL_leaves_114 : decode cL_leaves 114 = .ok (.if_icmp .ne 7, 3) := by decide +kernel
theorem dL_leaves_117 : decode cL_leaves 117 = .ok (.iconst 1, 1) := by decide +kernel
theorem dL_leaves_118 : decode cL_leaves 118 = .ok (.goto 4, 3) := by decide +kernel
theorem dL_leaves_121 : decode cL_leaves 121 = .ok (.iconst 0, 1) := by decide +kernel
theorem dL_leaves_122 : decode cL_leaves 122 = .ok (.ireturn, 1) := by decide +kernel
theorem dL_acts_0 : decode cL_acts 0 = .ok (.iload 9, 2) := by decide +kernel
theorem dL_acts_2 : decode cL_acts 2 = .ok (.bipush 24, 2) := by decide +kernel
theorem dL_acts_4 : decode cL_acts 4 = .ok (.invokestatic 155, 3) := by decide +kernel
theorem dL_acts_7 : decode cL_acts 7 = .ok (.istore 11, 2) := by decide +kernel
theorem dL_acts_9 : decode cL_acts 9 = .ok (.aload_n 0, 1) := by decide +kernel
theorem dL_acts_10 : decode cL_acts 10 = .ok (.invokevirtual 107, 3) := by decide +kernel
theorem dL_acts_13 : decode cL_acts 13 = .ok (.istore 12, 2) := by decide +kernel
theorem dL_acts_15 : decode cL_acts 15 = .ok (.aload_n 0, 1) := by decide +kernel
theorem dL_acts_16 : decode cL_acts 16 = .ok (.invokevirtual 110, 3) := by decide +kernel
theorem dL_acts_19 : decode cL_acts 19 = .ok (.istore 13, 2) := by decide +kernel
theorem dL_acts_21 : decode cL_acts 21 = .ok (.iconst 1, 1) := by decide +kernel
theorem dL_acts_22 : decode cL_acts 22 = .ok (.iload 10, 2) := by decide +kernel
theorem dL_acts_24 : decode cL_acts 24 = .ok (.bipush 16, 2) := by decide +kernel
theorem dL_acts_26 : decode cL_acts 26 = .ok (.invokestatic 155, 3) := by decide +kernel
theorem dL_acts_29 : decode cL_acts 29 = .ok (.ishl, 1) := by decide +kernel
theorem dL_acts_30 : decode cL_acts 30 = .ok (.iconst 1, 1) := by decide +kernel
theorem dL_acts_31 : decode cL_acts 31 = .ok (.iload 10, 2) := by decide +kernel
theorem dL_acts_33 : decode cL_acts 33 = .ok (.iconst 4, 1) := by decide +kernel
theorem dL_acts_34 : decode cL_acts 34 = .ok (.ishr, 1) := by decide +kernel
theorem dL_acts_35 : decode cL_acts 35 = .ok (.bipush 6, 2) := by decide +kernel
theorem dL_acts_37 : decode cL_acts 37 = .ok (.invokestatic 155, 3) := by decide +kernel
theorem dL_acts_40 : decode cL_acts 40 = .ok (.ishl, 1) := by decide +kernel
theorem dL_acts_41 : decode cL_acts 41 = .ok (.ior, 1) := by decide +kernel
theorem dL_acts_42 : decode cL_acts 42 = .ok (.iload 10, 2) := by decide +kernel
theorem dL_acts_44 : decode cL_acts 44 = .ok (.bipush 8, 2) := by decide +kernel
theorem dL_acts_46 : decode cL_acts 46 = .ok (.ishr, 1) := by decide +kernel
theorem dL_acts_47 : decode cL_acts 47 = .ok (.iconst 3, 1) := by decide +kernel
theorem dL_acts_48 : decode cL_acts 48 = .ok (.invokestatic 155, 3) := by decide +kernel
theorem dL_acts_51 : decode cL_acts 51 = .ok (.ifCond .ne 18, 3) := by decide +kernel
theorem dL_acts_54 : decode cL_acts 54 = .ok (.iconst 1, 1) := by decide +kernel
theorem dL_acts_55 : decode cL_acts 55 = .ok (.iload 10, 2) := by decide +kernel
theorem dL_acts_57 : decode cL_acts 57 = .ok (.bipush 10, 2) := by decide +kernel
theorem dL_acts_59 : decode cL_acts 59 = .ok (.ishr, 1) := by decide +kernel
theorem dL_acts_60 : decode cL_acts 60 = .ok (.bipush 16, 2) := by decide +kernel
theorem dL_acts_62 : decode cL_acts 62 = .ok (.invokestatic 155, 3) := by decide +kernel
theorem dL_acts_65 : decode cL_acts 65 = .ok (.ishl, 1) := by decide +kernel
theorem dL_acts_66 : decode cL_acts 66 = .ok (.goto 4, 3) := by decide +kernel
theorem dL_acts_69 : decode cL_acts 69 = .ok (.iconst 0, 1) := by decide +kernel
theorem dL_acts_70 : decode cL_acts 70 = .ok (.ior, 1) := by decide +kernel
theorem dL_acts_71 : decode cL_acts 71 = .ok (.istore 14, 2) := by decide +kernel
theorem dL_acts_73 : decode cL_acts 73 = .ok (.iload 11, 2) := by decide +kernel
theorem dL_acts_75 : decode cL_acts 75 = .ok (.ifCond .eq 8, 3) := by decide +kernel
theorem dL_acts_78 : decode cL_acts 78 = .ok (.iload 12, 2) := by decide +kernel
theorem dL_acts_80 : decode cL_acts 80 = .ok (.ifCond .ne 62, 3) := by decide +kernel
theorem dL_acts_83 : decode cL_acts 83 = .ok (.iload 12, 2) := by decide +kernel
theorem dL_acts_85 : decode cL_acts 85 = .ok (.bipush 12, 2) := by decide +kernel
theorem dL_acts_87 : decode cL_acts 87 = .ok (.if_icmp .ge 15, 3) := by decide +kernel
theorem dL_acts_90 : decode cL_acts 90 = .ok (.aload_n 3, 1) := by decide +kernel
theorem dL_acts_91 : decode cL_acts 91 = .ok (.iload 12, 2) := by decide +kernel
theorem dL_acts_93 : decode cL_acts 93 = .ok (.iload 14, 2) := by decide +kernel
theorem dL_acts_95 : decode cL_acts 95 = .ok (.iastore, 1) := by decide +kernel
theorem dL_acts_96 : decode cL_acts 96 = .ok (.aload 4, 2) := by decide +kernel
theorem dL_acts_98 : decode cL_acts 98 = .ok (.iload 12, 2) := by decide +kernel
theorem dL_acts_100 : decode cL_acts 100 = .ok (.iconst (-1), 1) := by decide +kernel
theorem dL_acts_101 : decode cL_acts 101 = .ok (.iastore, 1) := by decide +kernel
theorem dL_acts_102 : decode cL_acts 102 = .ok (.aload_n 0, 1) := by decide +kernel
theorem dL_acts_103 : decode cL_acts 103 = .ok (.iload 14, 2) := by decide +kernel
theorem dL_acts_105 : decode cL_acts 105 = .ok (.invokestatic 158, 3) := by decide +kernel
theorem dL_acts_108 : decode cL_acts 108 = .ok (.iload 12, 2) := by decide +kernel
theorem dL_acts_110 : decode cL_acts 110 = .ok (.bipush 12, 2) := by decide +kernel
theorem dL_acts_112 : decode cL_acts 112 = .ok (.if_icmp .ge 8, 3) := by decide +kernel
theorem dL_acts_115 : decode cL_acts 115 = .ok (.iload 12, 2) := by decide +kernel
theorem dL_acts_117 : decode cL_acts 117 = .ok (.goto 5, 3) := by decide +kernel
theorem dL_acts_120 : decode cL_acts 120 = .ok (.ldc 28, 2) := by decide +kernel
theorem dL_acts_122 : decode cL_acts 122 = .ok (.if_icmp .ne 18, 3) := by decide +kernel
theorem dL_acts_125 : decode cL_acts 125 = .ok (.aload_n 0, 1) := by decide +kernel
theorem dL_acts_126 : decode cL_acts 126 = .ok (.ldc 160, 2) := by decide +kernel
theorem dL_acts_128 : decode cL_acts 128 = .ok (.invokestatic 158, 3) := by decide +kernel
theorem dL_acts_131 : decode cL_acts 131 = .ok (.ldc 21, 2) := by decide +kernel
theorem dL_acts_133 : decode cL_acts 133 = .ok (.if_icmp .ne 7, 3) := by decide +kernel
theorem dL_acts_136 : decode cL_acts 136 = .ok (.iconst 1, 1) := by decide +kernel
theorem dL_acts_137 : decode cL_acts 137 = .ok (.goto 4, 3) := by decide +kernel
theorem dL_acts_140 : decode cL_acts 140 = .ok (.iconst 0, 1) := by decide +kernel
theorem dL_acts_141 : decode cL_acts 141 = .ok (.ireturn, 1) := by decide +kernel
theorem dL_acts_142 : decode cL_acts 142 = .ok (.iload 11, 2) := by decide +kernel
theorem dL_acts_144 : decode cL_acts 144 = .ok (.bipush 6, 2) := by decide +kernel
theorem dL_acts_146 : decode cL_acts 146 = .ok (.if_icmp .lt 8, 3) := by decide +kernel
theorem dL_acts_149 : decode cL_acts 149 = .ok (.iload 13, 2) := by decide +kernel
theorem dL_acts_151 : decode cL_acts 151 = .ok (.ifCond .ne 55, 3) := by decide +kernel
theorem dL_acts_154 : decode cL_acts 154 = .ok (.iload 13, 2) := by decide +kernel
theorem dL_acts_156 : decode cL_acts 156 = .ok (.bipush 40, 2) := by decide +kernel
theorem dL_acts_158 : decode cL_acts 158 = .ok (.if_icmp .ge 9, 3) := by decide +kernel
theorem dL_acts_161 : decode cL_acts 161 = .ok (.aload_n 2, 1) := by decide +kernel
theorem dL_acts_162 : decode cL_acts 162 = .ok (.iload 13, 2) := by decide +kernel
theorem dL_acts_164 : decode cL_acts 164 = .ok (.iload 14, 2) := by decide +kernel
