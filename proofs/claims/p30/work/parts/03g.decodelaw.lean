theorem dL_acts_166 : decode cL_acts 166 = .ok (.iastore, 1) := by decide +kernel
theorem dL_acts_167 : decode cL_acts 167 = .ok (.aload_n 0, 1) := by decide +kernel
theorem dL_acts_168 : decode cL_acts 168 = .ok (.iload 14, 2) := by decide +kernel
theorem dL_acts_170 : decode cL_acts 170 = .ok (.invokestatic 161, 3) := by decide +kernel
theorem dL_acts_173 : decode cL_acts 173 = .ok (.iload 13, 2) := by decide +kernel
theorem dL_acts_175 : decode cL_acts 175 = .ok (.bipush 40, 2) := by decide +kernel
theorem dL_acts_177 : decode cL_acts 177 = .ok (.if_icmp .ge 8, 3) := by decide +kernel
theorem dL_acts_180 : decode cL_acts 180 = .ok (.iload 13, 2) := by decide +kernel
theorem dL_acts_182 : decode cL_acts 182 = .ok (.goto 5, 3) := by decide +kernel
theorem dL_acts_185 : decode cL_acts 185 = .ok (.ldc 28, 2) := by decide +kernel
theorem dL_acts_187 : decode cL_acts 187 = .ok (.if_icmp .ne 17, 3) := by decide +kernel
theorem dL_acts_190 : decode cL_acts 190 = .ok (.aload_n 0, 1) := by decide +kernel
theorem dL_acts_191 : decode cL_acts 191 = .ok (.iconst (-1), 1) := by decide +kernel
theorem dL_acts_192 : decode cL_acts 192 = .ok (.invokestatic 161, 3) := by decide +kernel
theorem dL_acts_195 : decode cL_acts 195 = .ok (.ldc 21, 2) := by decide +kernel
theorem dL_acts_197 : decode cL_acts 197 = .ok (.if_icmp .ne 7, 3) := by decide +kernel
theorem dL_acts_200 : decode cL_acts 200 = .ok (.iconst 1, 1) := by decide +kernel
theorem dL_acts_201 : decode cL_acts 201 = .ok (.goto 4, 3) := by decide +kernel
theorem dL_acts_204 : decode cL_acts 204 = .ok (.iconst 0, 1) := by decide +kernel
theorem dL_acts_205 : decode cL_acts 205 = .ok (.ireturn, 1) := by decide +kernel
theorem dL_acts_206 : decode cL_acts 206 = .ok (.iload 9, 2) := by decide +kernel
theorem dL_acts_208 : decode cL_acts 208 = .ok (.iconst 5, 1) := by decide +kernel
theorem dL_acts_209 : decode cL_acts 209 = .ok (.ishr, 1) := by decide +kernel
theorem dL_acts_210 : decode cL_acts 210 = .ok (.iload 12, 2) := by decide +kernel
theorem dL_acts_212 : decode cL_acts 212 = .ok (.invokestatic 155, 3) := by decide +kernel
theorem dL_acts_215 : decode cL_acts 215 = .ok (.istore 15, 2) := by decide +kernel
theorem dL_acts_217 : decode cL_acts 217 = .ok (.iload 10, 2) := by decide +kernel
theorem dL_acts_219 : decode cL_acts 219 = .ok (.iload 13, 2) := by decide +kernel
theorem dL_acts_221 : decode cL_acts 221 = .ok (.invokestatic 155, 3) := by decide +kernel
theorem dL_acts_224 : decode cL_acts 224 = .ok (.istore 16, 2) := by decide +kernel
theorem dL_acts_226 : decode cL_acts 226 = .ok (.iload 11, 2) := by decide +kernel
theorem dL_acts_228 : decode cL_acts 228 = .ok (.bipush 6, 2) := by decide +kernel
theorem dL_acts_230 : decode cL_acts 230 = .ok (.if_icmp .ne 87, 3) := by decide +kernel
theorem dL_acts_233 : decode cL_acts 233 = .ok (.iload 10, 2) := by decide +kernel
theorem dL_acts_235 : decode cL_acts 235 = .ok (.iconst 4, 1) := by decide +kernel
theorem dL_acts_236 : decode cL_acts 236 = .ok (.ishr, 1) := by decide +kernel
theorem dL_acts_237 : decode cL_acts 237 = .ok (.bipush 16, 2) := by decide +kernel
theorem dL_acts_239 : decode cL_acts 239 = .ok (.invokestatic 155, 3) := by decide +kernel
theorem dL_acts_242 : decode cL_acts 242 = .ok (.istore 17, 2) := by decide +kernel
theorem dL_acts_244 : decode cL_acts 244 = .ok (.aload_n 1, 1) := by decide +kernel
theorem dL_acts_245 : decode cL_acts 245 = .ok (.iload 17, 2) := by decide +kernel
theorem dL_acts_247 : decode cL_acts 247 = .ok (.iaload, 1) := by decide +kernel
theorem dL_acts_248 : decode cL_acts 248 = .ok (.istore 18, 2) := by decide +kernel
theorem dL_acts_250 : decode cL_acts 250 = .ok (.aload_n 1, 1) := by decide +kernel
theorem dL_acts_251 : decode cL_acts 251 = .ok (.iload 17, 2) := by decide +kernel
theorem dL_acts_253 : decode cL_acts 253 = .ok (.iload 10, 2) := by decide +kernel
theorem dL_acts_255 : decode cL_acts 255 = .ok (.bipush 8, 2) := by decide +kernel
theorem dL_acts_257 : decode cL_acts 257 = .ok (.ishr, 1) := by decide +kernel
theorem dL_acts_258 : decode cL_acts 258 = .ok (.iconst 3, 1) := by decide +kernel
theorem dL_acts_259 : decode cL_acts 259 = .ok (.invokestatic 155, 3) := by decide +kernel
theorem dL_acts_262 : decode cL_acts 262 = .ok (.ifCond .ne 7, 3) := by decide +kernel
theorem dL_acts_265 : decode cL_acts 265 = .ok (.iconst 0, 1) := by decide +kernel
theorem dL_acts_266 : decode cL_acts 266 = .ok (.goto 5, 3) := by decide +kernel
theorem dL_acts_269 : decode cL_acts 269 = .ok (.iload 14, 2) := by decide +kernel
theorem dL_acts_271 : decode cL_acts 271 = .ok (.iastore, 1) := by decide +kernel
theorem dL_acts_272 : decode cL_acts 272 = .ok (.aload_n 0, 1) := by decide +kernel
theorem dL_acts_273 : decode cL_acts 273 = .ok (.iload 17, 2) := by decide +kernel
theorem dL_acts_275 : decode cL_acts 275 = .ok (.aload_n 1, 1) := by decide +kernel
theorem dL_acts_276 : decode cL_acts 276 = .ok (.iload 17, 2) := by decide +kernel
theorem dL_acts_278 : decode cL_acts 278 = .ok (.iaload, 1) := by decide +kernel
theorem dL_acts_279 : decode cL_acts 279 = .ok (.invokestatic 163, 3) := by decide +kernel
theorem dL_acts_282 : decode cL_acts 282 = .ok (.iload 18, 2) := by decide +kernel
theorem dL_acts_284 : decode cL_acts 284 = .ok (.if_icmp .ne 31, 3) := by decide +kernel
theorem dL_acts_287 : decode cL_acts 287 = .ok (.aload_n 0, 1) := by decide +kernel
theorem dL_acts_288 : decode cL_acts 288 = .ok (.bipush 16, 2) := by decide +kernel
theorem dL_acts_290 : decode cL_acts 290 = .ok (.iconst (-1), 1) := by decide +kernel
theorem dL_acts_291 : decode cL_acts 291 = .ok (.invokestatic 163, 3) := by decide +kernel
theorem dL_acts_294 : decode cL_acts 294 = .ok (.ldc 18, 2) := by decide +kernel
theorem dL_acts_296 : decode cL_acts 296 = .ok (.if_icmp .ne 19, 3) := by decide +kernel
theorem dL_acts_299 : decode cL_acts 299 = .ok (.aload_n 0, 1) := by decide +kernel
theorem dL_acts_300 : decode cL_acts 300 = .ok (.iconst 0, 1) := by decide +kernel
theorem dL_acts_301 : decode cL_acts 301 = .ok (.ldc 160, 2) := by decide +kernel
theorem dL_acts_303 : decode cL_acts 303 = .ok (.invokestatic 163, 3) := by decide +kernel
theorem dL_acts_306 : decode cL_acts 306 = .ok (.ldc 21, 2) := by decide +kernel
theorem dL_acts_308 : decode cL_acts 308 = .ok (.if_icmp .ne 7, 3) := by decide +kernel
theorem dL_acts_311 : decode cL_acts 311 = .ok (.iconst 1, 1) := by decide +kernel
theorem dL_acts_312 : decode cL_acts 312 = .ok (.goto 4, 3) := by decide +kernel
theorem dL_acts_315 : decode cL_acts 315 = .ok (.iconst 0, 1) := by decide +kernel
theorem dL_acts_316 : decode cL_acts 316 = .ok (.ireturn, 1) := by decide +kernel
theorem dL_acts_317 : decode cL_acts 317 = .ok (.iload 11, 2) := by decide +kernel
theorem dL_acts_319 : decode cL_acts 319 = .ok (.bipush 7, 2) := by decide +kernel
theorem dL_acts_321 : decode cL_acts 321 = .ok (.if_icmp .ne 134, 3) := by decide +kernel
theorem dL_acts_324 : decode cL_acts 324 = .ok (.aload 8, 2) := by decide +kernel
theorem dL_acts_326 : decode cL_acts 326 = .ok (.iconst 1, 1) := by decide +kernel
theorem dL_acts_327 : decode cL_acts 327 = .ok (.iconst 1, 1) := by decide +kernel
theorem dL_acts_328 : decode cL_acts 328 = .ok (.iload 10, 2) := by decide +kernel
theorem dL_acts_330 : decode cL_acts 330 = .ok (.iconst 3, 1) := by decide +kernel
theorem dL_acts_331 : decode cL_acts 331 = .ok (.invokestatic 155, 3) := by decide +kernel
theorem dL_acts_334 : decode cL_acts 334 = .ok (.iadd, 1) := by decide +kernel
theorem dL_acts_335 : decode cL_acts 335 = .ok (.iastore, 1) := by decide +kernel
theorem dL_acts_336 : decode cL_acts 336 = .ok (.aload 8, 2) := by decide +kernel
theorem dL_acts_338 : decode cL_acts 338 = .ok (.iconst 2, 1) := by decide +kernel
theorem dL_acts_339 : decode cL_acts 339 = .ok (.iconst 1, 1) := by decide +kernel
theorem dL_acts_340 : decode cL_acts 340 = .ok (.iload 10, 2) := by decide +kernel
theorem dL_acts_342 : decode cL_acts 342 = .ok (.iconst 3, 1) := by decide +kernel
theorem dL_acts_343 : decode cL_acts 343 = .ok (.ishr, 1) := by decide +kernel
theorem dL_acts_344 : decode cL_acts 344 = .ok (.iload 10, 2) := by decide +kernel
theorem dL_acts_346 : decode cL_acts 346 = .ok (.bipush 9, 2) := by decide +kernel
theorem dL_acts_348 : decode cL_acts 348 = .ok (.ishr, 1) := by decide +kernel
theorem dL_acts_349 : decode cL_acts 349 = .ok (.iconst 2, 1) := by decide +kernel
theorem dL_acts_350 : decode cL_acts 350 = .ok (.invokestatic 155, 3) := by decide +kernel
theorem dL_acts_353 : decode cL_acts 353 = .ok (.ifCond .ne 8, 3) := by decide +kernel
theorem dL_acts_356 : decode cL_acts 356 = .ok (.bipush 40, 2) := by decide +kernel
theorem dL_acts_358 : decode cL_acts 358 = .ok (.goto 5, 3) := by decide +kernel
theorem dL_acts_361 : decode cL_acts 361 = .ok (.bipush 6, 2) := by decide +kernel
theorem dL_acts_363 : decode cL_acts 363 = .ok (.invokestatic 155, 3) := by decide +kernel
theorem dL_acts_366 : decode cL_acts 366 = .ok (.iadd, 1) := by decide +kernel
theorem dL_acts_367 : decode cL_acts 367 = .ok (.iastore, 1) := by decide +kernel
theorem dL_acts_368 : decode cL_acts 368 = .ok (.aload 8, 2) := by decide +kernel
theorem dL_acts_370 : decode cL_acts 370 = .ok (.iconst 0, 1) := by decide +kernel
theorem dL_acts_371 : decode cL_acts 371 = .ok (.iaload, 1) := by decide +kernel
theorem dL_acts_372 : decode cL_acts 372 = .ok (.istore 17, 2) := by decide +kernel
theorem dL_acts_374 : decode cL_acts 374 = .ok (.aload 8, 2) := by decide +kernel
theorem dL_acts_376 : decode cL_acts 376 = .ok (.iconst 0, 1) := by decide +kernel
theorem dL_acts_377 : decode cL_acts 377 = .ok (.iload 10, 2) := by decide +kernel
theorem dL_acts_379 : decode cL_acts 379 = .ok (.bipush 10, 2) := by decide +kernel
theorem dL_acts_381 : decode cL_acts 381 = .ok (.ishr, 1) := by decide +kernel
theorem dL_acts_382 : decode cL_acts 382 = .ok (.iconst 4, 1) := by decide +kernel
theorem dL_acts_383 : decode cL_acts 383 = .ok (.invokestatic 155, 3) := by decide +kernel
theorem dL_acts_386 : decode cL_acts 386 = .ok (.iastore, 1) := by decide +kernel
theorem dL_acts_387 : decode cL_acts 387 = .ok (.aload_n 0, 1) := by decide +kernel
theorem dL_acts_388 : decode cL_acts 388 = .ok (.aload 8, 2) := by decide +kernel
theorem dL_acts_390 : decode cL_acts 390 = .ok (.iconst 1, 1) := by decide +kernel
theorem dL_acts_391 : decode cL_acts 391 = .ok (.iaload, 1) := by decide +kernel
theorem dL_acts_392 : decode cL_acts 392 = .ok (.aload 8, 2) := by decide +kernel
theorem dL_acts_394 : decode cL_acts 394 = .ok (.iconst 2, 1) := by decide +kernel
theorem dL_acts_395 : decode cL_acts 395 = .ok (.iaload, 1) := by decide +kernel
theorem dL_acts_396 : decode cL_acts 396 = .ok (.invokestatic 165, 3) := by decide +kernel
theorem dL_acts_399 : decode cL_acts 399 = .ok (.ifCond .ne 54, 3) := by decide +kernel
theorem dL_acts_402 : decode cL_acts 402 = .ok (.aload_n 0, 1) := by decide +kernel
theorem dL_acts_403 : decode cL_acts 403 = .ok (.aload 8, 2) := by decide +kernel
theorem dL_acts_405 : decode cL_acts 405 = .ok (.iconst 0, 1) := by decide +kernel
theorem dL_acts_406 : decode cL_acts 406 = .ok (.iaload, 1) := by decide +kernel
theorem dL_acts_407 : decode cL_acts 407 = .ok (.invokestatic 167, 3) := by decide +kernel
theorem dL_acts_410 : decode cL_acts 410 = .ok (.iload 17, 2) := by decide +kernel
theorem dL_acts_412 : decode cL_acts 412 = .ok (.if_icmp .ne 41, 3) := by decide +kernel
theorem dL_acts_415 : decode cL_acts 415 = .ok (.aload_n 0, 1) := by decide +kernel
theorem dL_acts_416 : decode cL_acts 416 = .ok (.iconst 0, 1) := by decide +kernel
theorem dL_acts_417 : decode cL_acts 417 = .ok (.iconst 1, 1) := by decide +kernel
theorem dL_acts_418 : decode cL_acts 418 = .ok (.invokestatic 165, 3) := by decide +kernel
theorem dL_acts_421 : decode cL_acts 421 = .ok (.ldc 21, 2) := by decide +kernel
theorem dL_acts_423 : decode cL_acts 423 = .ok (.if_icmp .ne 30, 3) := by decide +kernel
theorem dL_acts_426 : decode cL_acts 426 = .ok (.aload_n 0, 1) := by decide +kernel
theorem dL_acts_427 : decode cL_acts 427 = .ok (.iconst 1, 1) := by decide +kernel
theorem dL_acts_428 : decode cL_acts 428 = .ok (.bipush 41, 2) := by decide +kernel
theorem dL_acts_430 : decode cL_acts 430 = .ok (.invokestatic 165, 3) := by decide +kernel
theorem dL_acts_433 : decode cL_acts 433 = .ok (.ldc 21, 2) := by decide +kernel
theorem dL_acts_435 : decode cL_acts 435 = .ok (.if_icmp .ne 18, 3) := by decide +kernel
theorem dL_acts_438 : decode cL_acts 438 = .ok (.aload_n 0, 1) := by decide +kernel
theorem dL_acts_439 : decode cL_acts 439 = .ok (.bipush 21, 2) := by decide +kernel
theorem dL_acts_441 : decode cL_acts 441 = .ok (.invokestatic 167, 3) := by decide +kernel
theorem dL_acts_444 : decode cL_acts 444 = .ok (.ldc 21, 2) := by decide +kernel
theorem dL_acts_446 : decode cL_acts 446 = .ok (.if_icmp .ne 7, 3) := by decide +kernel
theorem dL_acts_449 : decode cL_acts 449 = .ok (.iconst 1, 1) := by decide +kernel
theorem dL_acts_450 : decode cL_acts 450 = .ok (.goto 4, 3) := by decide +kernel
theorem dL_acts_453 : decode cL_acts 453 = .ok (.iconst 0, 1) := by decide +kernel
theorem dL_acts_454 : decode cL_acts 454 = .ok (.ireturn, 1) := by decide +kernel
theorem dL_acts_455 : decode cL_acts 455 = .ok (.iload 11, 2) := by decide +kernel
theorem dL_acts_457 : decode cL_acts 457 = .ok (.bipush 10, 2) := by decide +kernel
theorem dL_acts_459 : decode cL_acts 459 = .ok (.if_icmp .ge 121, 3) := by decide +kernel
theorem dL_acts_462 : decode cL_acts 462 = .ok (.iload 10, 2) := by decide +kernel
theorem dL_acts_464 : decode cL_acts 464 = .ok (.bipush 9, 2) := by decide +kernel
theorem dL_acts_466 : decode cL_acts 466 = .ok (.ishr, 1) := by decide +kernel
theorem dL_acts_467 : decode cL_acts 467 = .ok (.iload 13, 2) := by decide +kernel
theorem dL_acts_469 : decode cL_acts 469 = .ok (.invokestatic 155, 3) := by decide +kernel
theorem dL_acts_472 : decode cL_acts 472 = .ok (.istore 17, 2) := by decide +kernel
theorem dL_acts_474 : decode cL_acts 474 = .ok (.iload 17, 2) := by decide +kernel
theorem dL_acts_476 : decode cL_acts 476 = .ok (.iload 16, 2) := by decide +kernel
theorem dL_acts_478 : decode cL_acts 478 = .ok (.if_icmp .le 7, 3) := by decide +kernel
theorem dL_acts_481 : decode cL_acts 481 = .ok (.iconst 1, 1) := by decide +kernel
theorem dL_acts_482 : decode cL_acts 482 = .ok (.goto 4, 3) := by decide +kernel
theorem dL_acts_485 : decode cL_acts 485 = .ok (.iconst 0, 1) := by decide +kernel
theorem dL_acts_486 : decode cL_acts 486 = .ok (.istore 18, 2) := by decide +kernel
theorem dL_acts_488 : decode cL_acts 488 = .ok (.aload 4, 2) := by decide +kernel
theorem dL_acts_490 : decode cL_acts 490 = .ok (.iload 15, 2) := by decide +kernel
theorem dL_acts_492 : decode cL_acts 492 = .ok (.iload 18, 2) := by decide +kernel
theorem dL_acts_494 : decode cL_acts 494 = .ok (.ifCond .eq 8, 3) := by decide +kernel
theorem dL_acts_497 : decode cL_acts 497 = .ok (.iload 16, 2) := by decide +kernel
theorem dL_acts_499 : decode cL_acts 499 = .ok (.goto 8, 3) := by decide +kernel
theorem dL_acts_502 : decode cL_acts 502 = .ok (.aload 4, 2) := by decide +kernel
theorem dL_acts_504 : decode cL_acts 504 = .ok (.iload 15, 2) := by decide +kernel
theorem dL_acts_506 : decode cL_acts 506 = .ok (.iaload, 1) := by decide +kernel
theorem dL_acts_507 : decode cL_acts 507 = .ok (.iastore, 1) := by decide +kernel
theorem dL_acts_508 : decode cL_acts 508 = .ok (.aload 5, 2) := by decide +kernel
theorem dL_acts_510 : decode cL_acts 510 = .ok (.iload 15, 2) := by decide +kernel
theorem dL_acts_512 : decode cL_acts 512 = .ok (.iload 18, 2) := by decide +kernel
theorem dL_acts_514 : decode cL_acts 514 = .ok (.ifCond .eq 8, 3) := by decide +kernel
theorem dL_acts_517 : decode cL_acts 517 = .ok (.iload 17, 2) := by decide +kernel
theorem dL_acts_519 : decode cL_acts 519 = .ok (.goto 8, 3) := by decide +kernel
theorem dL_acts_522 : decode cL_acts 522 = .ok (.aload 5, 2) := by decide +kernel
theorem dL_acts_524 : decode cL_acts 524 = .ok (.iload 15, 2) := by decide +kernel
theorem dL_acts_526 : decode cL_acts 526 = .ok (.iaload, 1) := by decide +kernel
theorem dL_acts_527 : decode cL_acts 527 = .ok (.iastore, 1) := by decide +kernel
theorem dL_acts_528 : decode cL_acts 528 = .ok (.aload_n 0, 1) := by decide +kernel
theorem dL_acts_529 : decode cL_acts 529 = .ok (.iload 15, 2) := by decide +kernel
theorem dL_acts_531 : decode cL_acts 531 = .ok (.iload 16, 2) := by decide +kernel
theorem dL_acts_533 : decode cL_acts 533 = .ok (.iload 17, 2) := by decide +kernel
theorem dL_acts_535 : decode cL_acts 535 = .ok (.invokestatic 169, 3) := by decide +kernel
theorem dL_acts_538 : decode cL_acts 538 = .ok (.istore 19, 2) := by decide +kernel
theorem dL_acts_540 : decode cL_acts 540 = .ok (.iload 18, 2) := by decide +kernel
theorem dL_acts_542 : decode cL_acts 542 = .ok (.ifCond .eq 25, 3) := by decide +kernel
theorem dL_acts_545 : decode cL_acts 545 = .ok (.iload 19, 2) := by decide +kernel
theorem dL_acts_547 : decode cL_acts 547 = .ok (.aload_n 0, 1) := by decide +kernel
theorem dL_acts_548 : decode cL_acts 548 = .ok (.iload 15, 2) := by decide +kernel
theorem dL_acts_550 : decode cL_acts 550 = .ok (.invokestatic 129, 3) := by decide +kernel
theorem dL_acts_553 : decode cL_acts 553 = .ok (.invokestatic 143, 3) := by decide +kernel
theorem dL_acts_556 : decode cL_acts 556 = .ok (.if_icmp .ne 7, 3) := by decide +kernel
theorem dL_acts_559 : decode cL_acts 559 = .ok (.iconst 1, 1) := by decide +kernel
theorem dL_acts_560 : decode cL_acts 560 = .ok (.goto 19, 3) := by decide +kernel
theorem dL_acts_563 : decode cL_acts 563 = .ok (.iconst 0, 1) := by decide +kernel
theorem dL_acts_564 : decode cL_acts 564 = .ok (.goto 15, 3) := by decide +kernel
theorem dL_acts_567 : decode cL_acts 567 = .ok (.iload 19, 2) := by decide +kernel
theorem dL_acts_569 : decode cL_acts 569 = .ok (.ldc 21, 2) := by decide +kernel
theorem dL_acts_571 : decode cL_acts 571 = .ok (.if_icmp .ne 7, 3) := by decide +kernel
theorem dL_acts_574 : decode cL_acts 574 = .ok (.iconst 1, 1) := by decide +kernel
theorem dL_acts_575 : decode cL_acts 575 = .ok (.goto 4, 3) := by decide +kernel
theorem dL_acts_578 : decode cL_acts 578 = .ok (.iconst 0, 1) := by decide +kernel
theorem dL_acts_579 : decode cL_acts 579 = .ok (.ireturn, 1) := by decide +kernel
theorem dL_acts_580 : decode cL_acts 580 = .ok (.iload 11, 2) := by decide +kernel
theorem dL_acts_582 : decode cL_acts 582 = .ok (.bipush 10, 2) := by decide +kernel
theorem dL_acts_584 : decode cL_acts 584 = .ok (.if_icmp .ne 43, 3) := by decide +kernel
theorem dL_acts_587 : decode cL_acts 587 = .ok (.aload 4, 2) := by decide +kernel
theorem dL_acts_589 : decode cL_acts 589 = .ok (.iload 15, 2) := by decide +kernel
theorem dL_acts_591 : decode cL_acts 591 = .ok (.iaload, 1) := by decide +kernel
theorem dL_acts_592 : decode cL_acts 592 = .ok (.ifCond .ge 22, 3) := by decide +kernel
theorem dL_acts_595 : decode cL_acts 595 = .ok (.aload_n 0, 1) := by decide +kernel
theorem dL_acts_596 : decode cL_acts 596 = .ok (.iload 15, 2) := by decide +kernel
theorem dL_acts_598 : decode cL_acts 598 = .ok (.invokestatic 139, 3) := by decide +kernel
theorem dL_acts_601 : decode cL_acts 601 = .ok (.ldc 28, 2) := by decide +kernel
theorem dL_acts_603 : decode cL_acts 603 = .ok (.if_icmp .ne 7, 3) := by decide +kernel
theorem dL_acts_606 : decode cL_acts 606 = .ok (.iconst 1, 1) := by decide +kernel
theorem dL_acts_607 : decode cL_acts 607 = .ok (.goto 19, 3) := by decide +kernel
theorem dL_acts_610 : decode cL_acts 610 = .ok (.iconst 0, 1) := by decide +kernel
theorem dL_acts_611 : decode cL_acts 611 = .ok (.goto 15, 3) := by decide +kernel
theorem dL_acts_614 : decode cL_acts 614 = .ok (.aload_n 0, 1) := by decide +kernel
theorem dL_acts_615 : decode cL_acts 615 = .ok (.aload 4, 2) := by decide +kernel
theorem dL_acts_617 : decode cL_acts 617 = .ok (.aload 7, 2) := by decide +kernel
theorem dL_acts_619 : decode cL_acts 619 = .ok (.aload 8, 2) := by decide +kernel
theorem dL_acts_621 : decode cL_acts 621 = .ok (.iload 15, 2) := by decide +kernel
theorem dL_acts_623 : decode cL_acts 623 = .ok (.invokestatic 172, 3) := by decide +kernel
theorem dL_acts_626 : decode cL_acts 626 = .ok (.ireturn, 1) := by decide +kernel
theorem dL_acts_627 : decode cL_acts 627 = .ok (.iload 11, 2) := by decide +kernel
theorem dL_acts_629 : decode cL_acts 629 = .ok (.bipush 13, 2) := by decide +kernel
theorem dL_acts_631 : decode cL_acts 631 = .ok (.if_icmp .ge 112, 3) := by decide +kernel
theorem dL_acts_634 : decode cL_acts 634 = .ok (.iconst 0, 1) := by decide +kernel
theorem dL_acts_635 : decode cL_acts 635 = .ok (.istore 17, 2) := by decide +kernel
theorem dL_acts_637 : decode cL_acts 637 = .ok (.iconst 0, 1) := by decide +kernel
theorem dL_acts_638 : decode cL_acts 638 = .ok (.istore 18, 2) := by decide +kernel
theorem dL_acts_640 : decode cL_acts 640 = .ok (.iload 18, 2) := by decide +kernel
theorem dL_acts_642 : decode cL_acts 642 = .ok (.aload 8, 2) := by decide +kernel
theorem dL_acts_644 : decode cL_acts 644 = .ok (.iconst 4, 1) := by decide +kernel
theorem dL_acts_645 : decode cL_acts 645 = .ok (.iaload, 1) := by decide +kernel
theorem dL_acts_646 : decode cL_acts 646 = .ok (.if_icmp .ge 31, 3) := by decide +kernel
theorem dL_acts_649 : decode cL_acts 649 = .ok (.iload 17, 2) := by decide +kernel
theorem dL_acts_651 : decode cL_acts 651 = .ok (.ifCond .ne 13, 3) := by decide +kernel
theorem dL_acts_654 : decode cL_acts 654 = .ok (.aload 7, 2) := by decide +kernel
theorem dL_acts_656 : decode cL_acts 656 = .ok (.iload 18, 2) := by decide +kernel
theorem dL_acts_658 : decode cL_acts 658 = .ok (.iaload, 1) := by decide +kernel
theorem dL_acts_659 : decode cL_acts 659 = .ok (.iload 15, 2) := by decide +kernel
theorem dL_acts_661 : decode cL_acts 661 = .ok (.if_icmp .ne 7, 3) := by decide +kernel
theorem dL_acts_664 : decode cL_acts 664 = .ok (.iconst 1, 1) := by decide +kernel
theorem dL_acts_665 : decode cL_acts 665 = .ok (.goto 4, 3) := by decide +kernel
theorem dL_acts_668 : decode cL_acts 668 = .ok (.iconst 0, 1) := by decide +kernel
theorem dL_acts_669 : decode cL_acts 669 = .ok (.istore 17, 2) := by decide +kernel
theorem dL_acts_671 : decode cL_acts 671 = .ok (.iinc 18 1, 3) := by decide +kernel
theorem dL_acts_674 : decode cL_acts 674 = .ok (.goto (-34), 3) := by decide +kernel
theorem dL_acts_677 : decode cL_acts 677 = .ok (.aload 4, 2) := by decide +kernel
theorem dL_acts_679 : decode cL_acts 679 = .ok (.iload 15, 2) := by decide +kernel
theorem dL_acts_681 : decode cL_acts 681 = .ok (.iaload, 1) := by decide +kernel
theorem dL_acts_682 : decode cL_acts 682 = .ok (.ifCond .lt 8, 3) := by decide +kernel
theorem dL_acts_685 : decode cL_acts 685 = .ok (.iload 17, 2) := by decide +kernel
theorem dL_acts_687 : decode cL_acts 687 = .ok (.ifCond .eq 20, 3) := by decide +kernel
theorem dL_acts_690 : decode cL_acts 690 = .ok (.aload_n 0, 1) := by decide +kernel
theorem dL_acts_691 : decode cL_acts 691 = .ok (.iload 15, 2) := by decide +kernel
theorem dL_acts_693 : decode cL_acts 693 = .ok (.invokestatic 137, 3) := by decide +kernel
theorem dL_acts_696 : decode cL_acts 696 = .ok (.ldc 28, 2) := by decide +kernel
theorem dL_acts_698 : decode cL_acts 698 = .ok (.if_icmp .ne 7, 3) := by decide +kernel
theorem dL_acts_701 : decode cL_acts 701 = .ok (.iconst 1, 1) := by decide +kernel
theorem dL_acts_702 : decode cL_acts 702 = .ok (.goto 4, 3) := by decide +kernel
theorem dL_acts_705 : decode cL_acts 705 = .ok (.iconst 0, 1) := by decide +kernel
theorem dL_acts_706 : decode cL_acts 706 = .ok (.ireturn, 1) := by decide +kernel
theorem dL_acts_707 : decode cL_acts 707 = .ok (.aload 7, 2) := by decide +kernel
theorem dL_acts_709 : decode cL_acts 709 = .ok (.aload 8, 2) := by decide +kernel
theorem dL_acts_711 : decode cL_acts 711 = .ok (.iconst 4, 1) := by decide +kernel
theorem dL_acts_712 : decode cL_acts 712 = .ok (.iaload, 1) := by decide +kernel
theorem dL_acts_713 : decode cL_acts 713 = .ok (.iload 15, 2) := by decide +kernel
theorem dL_acts_715 : decode cL_acts 715 = .ok (.iastore, 1) := by decide +kernel
theorem dL_acts_716 : decode cL_acts 716 = .ok (.aload 8, 2) := by decide +kernel
theorem dL_acts_718 : decode cL_acts 718 = .ok (.iconst 4, 1) := by decide +kernel
theorem dL_acts_719 : decode cL_acts 719 = .ok (.dup2, 1) := by decide +kernel
theorem dL_acts_720 : decode cL_acts 720 = .ok (.iaload, 1) := by decide +kernel
theorem dL_acts_721 : decode cL_acts 721 = .ok (.iconst 1, 1) := by decide +kernel
theorem dL_acts_722 : decode cL_acts 722 = .ok (.iadd, 1) := by decide +kernel
theorem dL_acts_723 : decode cL_acts 723 = .ok (.iastore, 1) := by decide +kernel
theorem dL_acts_724 : decode cL_acts 724 = .ok (.aload_n 0, 1) := by decide +kernel
theorem dL_acts_725 : decode cL_acts 725 = .ok (.iload 15, 2) := by decide +kernel
theorem dL_acts_727 : decode cL_acts 727 = .ok (.invokestatic 137, 3) := by decide +kernel
theorem dL_acts_730 : decode cL_acts 730 = .ok (.aload 8, 2) := by decide +kernel
theorem dL_acts_732 : decode cL_acts 732 = .ok (.iconst 4, 1) := by decide +kernel
theorem dL_acts_733 : decode cL_acts 733 = .ok (.iaload, 1) := by decide +kernel
theorem dL_acts_734 : decode cL_acts 734 = .ok (.if_icmp .ne 7, 3) := by decide +kernel
theorem dL_acts_737 : decode cL_acts 737 = .ok (.iconst 1, 1) := by decide +kernel
theorem dL_acts_738 : decode cL_acts 738 = .ok (.goto 4, 3) := by decide +kernel
theorem dL_acts_741 : decode cL_acts 741 = .ok (.iconst 0, 1) := by decide +kernel
theorem dL_acts_742 : decode cL_acts 742 = .ok (.ireturn, 1) := by decide +kernel
theorem dL_acts_743 : decode cL_acts 743 = .ok (.iload 11, 2) := by decide +kernel
theorem dL_acts_745 : decode cL_acts 745 = .ok (.bipush 13, 2) := by decide +kernel
theorem dL_acts_747 : decode cL_acts 747 = .ok (.if_icmp .ne 59, 3) := by decide +kernel
theorem dL_acts_750 : decode cL_acts 750 = .ok (.aload 8, 2) := by decide +kernel
theorem dL_acts_752 : decode cL_acts 752 = .ok (.iconst 3, 1) := by decide +kernel
theorem dL_acts_753 : decode cL_acts 753 = .ok (.iaload, 1) := by decide +kernel
theorem dL_acts_754 : decode cL_acts 754 = .ok (.istore 17, 2) := by decide +kernel
theorem dL_acts_756 : decode cL_acts 756 = .ok (.aload 8, 2) := by decide +kernel
theorem dL_acts_758 : decode cL_acts 758 = .ok (.iconst 3, 1) := by decide +kernel
theorem dL_acts_759 : decode cL_acts 759 = .ok (.iload 10, 2) := by decide +kernel
theorem dL_acts_761 : decode cL_acts 761 = .ok (.iconst 5, 1) := by decide +kernel
theorem dL_acts_762 : decode cL_acts 762 = .ok (.invokestatic 155, 3) := by decide +kernel
theorem dL_acts_765 : decode cL_acts 765 = .ok (.iastore, 1) := by decide +kernel
theorem dL_acts_766 : decode cL_acts 766 = .ok (.aload_n 0, 1) := by decide +kernel
theorem dL_acts_767 : decode cL_acts 767 = .ok (.aload 8, 2) := by decide +kernel
theorem dL_acts_769 : decode cL_acts 769 = .ok (.iconst 3, 1) := by decide +kernel
theorem dL_acts_770 : decode cL_acts 770 = .ok (.iaload, 1) := by decide +kernel
theorem dL_acts_771 : decode cL_acts 771 = .ok (.invokestatic 176, 3) := by decide +kernel
theorem dL_acts_774 : decode cL_acts 774 = .ok (.iload 17, 2) := by decide +kernel
theorem dL_acts_776 : decode cL_acts 776 = .ok (.if_icmp .ne 28, 3) := by decide +kernel
theorem dL_acts_779 : decode cL_acts 779 = .ok (.aload_n 0, 1) := by decide +kernel
theorem dL_acts_780 : decode cL_acts 780 = .ok (.bipush 101, 2) := by decide +kernel
theorem dL_acts_782 : decode cL_acts 782 = .ok (.invokestatic 176, 3) := by decide +kernel
theorem dL_acts_785 : decode cL_acts 785 = .ok (.ldc 21, 2) := by decide +kernel
theorem dL_acts_787 : decode cL_acts 787 = .ok (.if_icmp .ne 17, 3) := by decide +kernel
theorem dL_acts_790 : decode cL_acts 790 = .ok (.aload_n 0, 1) := by decide +kernel
theorem dL_acts_791 : decode cL_acts 791 = .ok (.iconst (-1), 1) := by decide +kernel
theorem dL_acts_792 : decode cL_acts 792 = .ok (.invokestatic 176, 3) := by decide +kernel
theorem dL_acts_795 : decode cL_acts 795 = .ok (.ldc 21, 2) := by decide +kernel
theorem dL_acts_797 : decode cL_acts 797 = .ok (.if_icmp .ne 7, 3) := by decide +kernel
theorem dL_acts_800 : decode cL_acts 800 = .ok (.iconst 1, 1) := by decide +kernel
theorem dL_acts_801 : decode cL_acts 801 = .ok (.goto 4, 3) := by decide +kernel
theorem dL_acts_804 : decode cL_acts 804 = .ok (.iconst 0, 1) := by decide +kernel
theorem dL_acts_805 : decode cL_acts 805 = .ok (.ireturn, 1) := by decide +kernel
theorem dL_acts_806 : decode cL_acts 806 = .ok (.iload 11, 2) := by decide +kernel
theorem dL_acts_808 : decode cL_acts 808 = .ok (.bipush 16, 2) := by decide +kernel
theorem dL_acts_810 : decode cL_acts 810 = .ok (.if_icmp .ge 12, 3) := by decide +kernel
theorem dL_acts_813 : decode cL_acts 813 = .ok (.aload_n 0, 1) := by decide +kernel
theorem dL_acts_814 : decode cL_acts 814 = .ok (.aload 7, 2) := by decide +kernel
theorem dL_acts_816 : decode cL_acts 816 = .ok (.aload 8, 2) := by decide +kernel
theorem dL_acts_818 : decode cL_acts 818 = .ok (.invokestatic 178, 3) := by decide +kernel
theorem dL_acts_821 : decode cL_acts 821 = .ok (.ireturn, 1) := by decide +kernel
theorem dL_acts_822 : decode cL_acts 822 = .ok (.aload_n 0, 1) := by decide +kernel
theorem dL_acts_823 : decode cL_acts 823 = .ok (.iload 12, 2) := by decide +kernel
theorem dL_acts_825 : decode cL_acts 825 = .ok (.iload 16, 2) := by decide +kernel
theorem dL_acts_827 : decode cL_acts 827 = .ok (.iconst 1, 1) := by decide +kernel
theorem dL_acts_828 : decode cL_acts 828 = .ok (.invokestatic 149, 3) := by decide +kernel
theorem dL_acts_831 : decode cL_acts 831 = .ok (.ldc 18, 2) := by decide +kernel
theorem dL_acts_833 : decode cL_acts 833 = .ok (.if_icmp .ne 21, 3) := by decide +kernel
theorem dL_acts_836 : decode cL_acts 836 = .ok (.aload_n 0, 1) := by decide +kernel
theorem dL_acts_837 : decode cL_acts 837 = .ok (.iload 15, 2) := by decide +kernel
theorem dL_acts_839 : decode cL_acts 839 = .ok (.iload 13, 2) := by decide +kernel
theorem dL_acts_841 : decode cL_acts 841 = .ok (.iconst 1, 1) := by decide +kernel
theorem dL_acts_842 : decode cL_acts 842 = .ok (.invokestatic 149, 3) := by decide +kernel
theorem dL_acts_845 : decode cL_acts 845 = .ok (.ldc 18, 2) := by decide +kernel
theorem dL_acts_847 : decode cL_acts 847 = .ok (.if_icmp .ne 7, 3) := by decide +kernel
theorem dL_acts_850 : decode cL_acts 850 = .ok (.iconst 1, 1) := by decide +kernel
theorem dL_acts_851 : decode cL_acts 851 = .ok (.goto 4, 3) := by decide +kernel
theorem dL_acts_854 : decode cL_acts 854 = .ok (.iconst 0, 1) := by decide +kernel
theorem dL_acts_855 : decode cL_acts 855 = .ok (.istore 17, 2) := by decide +kernel
theorem dL_acts_857 : decode cL_acts 857 = .ok (.iconst 0, 1) := by decide +kernel
theorem dL_acts_858 : decode cL_acts 858 = .ok (.istore 18, 2) := by decide +kernel
theorem dL_acts_860 : decode cL_acts 860 = .ok (.iload 18, 2) := by decide +kernel
theorem dL_acts_862 : decode cL_acts 862 = .ok (.iconst 4, 1) := by decide +kernel
theorem dL_acts_863 : decode cL_acts 863 = .ok (.if_icmp .ge 70, 3) := by decide +kernel
theorem dL_acts_866 : decode cL_acts 866 = .ok (.iload 17, 2) := by decide +kernel
theorem dL_acts_868 : decode cL_acts 868 = .ok (.ifCond .eq 65, 3) := by decide +kernel
theorem dL_acts_871 : decode cL_acts 871 = .ok (.iload 10, 2) := by decide +kernel
theorem dL_acts_873 : decode cL_acts 873 = .ok (.iconst 5, 1) := by decide +kernel
theorem dL_acts_874 : decode cL_acts 874 = .ok (.iload 18, 2) := by decide +kernel
theorem dL_acts_876 : decode cL_acts 876 = .ok (.imul, 1) := by decide +kernel
theorem dL_acts_877 : decode cL_acts 877 = .ok (.ishr, 1) := by decide +kernel
theorem dL_acts_878 : decode cL_acts 878 = .ok (.iload 13, 2) := by decide +kernel
theorem dL_acts_880 : decode cL_acts 880 = .ok (.invokestatic 155, 3) := by decide +kernel
theorem dL_acts_883 : decode cL_acts 883 = .ok (.istore 19, 2) := by decide +kernel
theorem dL_acts_885 : decode cL_acts 885 = .ok (.aload_n 0, 1) := by decide +kernel
theorem dL_acts_886 : decode cL_acts 886 = .ok (.aload 4, 2) := by decide +kernel
theorem dL_acts_888 : decode cL_acts 888 = .ok (.aload 5, 2) := by decide +kernel
theorem dL_acts_890 : decode cL_acts 890 = .ok (.aload 6, 2) := by decide +kernel
theorem dL_acts_892 : decode cL_acts 892 = .ok (.iload 15, 2) := by decide +kernel
theorem dL_acts_894 : decode cL_acts 894 = .ok (.iload 19, 2) := by decide +kernel
theorem dL_acts_896 : decode cL_acts 896 = .ok (.iload 10, 2) := by decide +kernel
theorem dL_acts_898 : decode cL_acts 898 = .ok (.iconst 5, 1) := by decide +kernel
theorem dL_acts_899 : decode cL_acts 899 = .ok (.iload 18, 2) := by decide +kernel
theorem dL_acts_901 : decode cL_acts 901 = .ok (.imul, 1) := by decide +kernel
theorem dL_acts_902 : decode cL_acts 902 = .ok (.iconst 3, 1) := by decide +kernel
theorem dL_acts_903 : decode cL_acts 903 = .ok (.iadd, 1) := by decide +kernel
theorem dL_acts_904 : decode cL_acts 904 = .ok (.ishr, 1) := by decide +kernel
theorem dL_acts_905 : decode cL_acts 905 = .ok (.iload 13, 2) := by decide +kernel
theorem dL_acts_907 : decode cL_acts 907 = .ok (.iconst 4, 1) := by decide +kernel
theorem dL_acts_908 : decode cL_acts 908 = .ok (.iadd, 1) := by decide +kernel
theorem dL_acts_909 : decode cL_acts 909 = .ok (.invokestatic 155, 3) := by decide +kernel
theorem dL_acts_912 : decode cL_acts 912 = .ok (.iload 19, 2) := by decide +kernel
theorem dL_acts_914 : decode cL_acts 914 = .ok (.if_icmp .le 7, 3) := by decide +kernel
theorem dL_acts_917 : decode cL_acts 917 = .ok (.iconst 1, 1) := by decide +kernel
theorem dL_acts_918 : decode cL_acts 918 = .ok (.goto 4, 3) := by decide +kernel
theorem dL_acts_921 : decode cL_acts 921 = .ok (.iconst 0, 1) := by decide +kernel
theorem dL_acts_922 : decode cL_acts 922 = .ok (.invokestatic 182, 3) := by decide +kernel
theorem dL_acts_925 : decode cL_acts 925 = .ok (.istore 17, 2) := by decide +kernel
theorem dL_acts_927 : decode cL_acts 927 = .ok (.iinc 18 1, 3) := by decide +kernel
theorem dL_acts_930 : decode cL_acts 930 = .ok (.goto (-70), 3) := by decide +kernel
theorem dL_acts_933 : decode cL_acts 933 = .ok (.iload 17, 2) := by decide +kernel
theorem dL_acts_935 : decode cL_acts 935 = .ok (.ireturn, 1) := by decide +kernel
theorem dL_law_0 : decode cL_law 0 = .ok (.new 11, 3) := by decide +kernel
theorem dL_law_3 : decode cL_law 3 = .ok (.dup, 1) := by decide +kernel
theorem dL_law_4 : decode cL_law 4 = .ok (.invokespecial 186, 3) := by decide +kernel
theorem dL_law_7 : decode cL_law 7 = .ok (.astore_n 1, 1) := by decide +kernel
theorem dL_law_8 : decode cL_law 8 = .ok (.bipush 16, 2) := by decide +kernel
theorem dL_law_10 : decode cL_law 10 = .ok (.newarray .int, 2) := by decide +kernel
theorem dL_law_12 : decode cL_law 12 = .ok (.astore_n 2, 1) := by decide +kernel
theorem dL_law_13 : decode cL_law 13 = .ok (.bipush 40, 2) := by decide +kernel
theorem dL_law_15 : decode cL_law 15 = .ok (.newarray .int, 2) := by decide +kernel
theorem dL_law_17 : decode cL_law 17 = .ok (.astore_n 3, 1) := by decide +kernel
theorem dL_law_18 : decode cL_law 18 = .ok (.bipush 12, 2) := by decide +kernel
theorem dL_law_20 : decode cL_law 20 = .ok (.newarray .int, 2) := by decide +kernel
theorem dL_law_22 : decode cL_law 22 = .ok (.astore 4, 2) := by decide +kernel
theorem dL_law_24 : decode cL_law 24 = .ok (.bipush 12, 2) := by decide +kernel
theorem dL_law_26 : decode cL_law 26 = .ok (.newarray .int, 2) := by decide +kernel
theorem dL_law_28 : decode cL_law 28 = .ok (.astore 5, 2) := by decide +kernel
theorem dL_law_30 : decode cL_law 30 = .ok (.bipush 12, 2) := by decide +kernel
theorem dL_law_32 : decode cL_law 32 = .ok (.newarray .int, 2) := by decide +kernel
theorem dL_law_34 : decode cL_law 34 = .ok (.astore 6, 2) := by decide +kernel
theorem dL_law_36 : decode cL_law 36 = .ok (.bipush 12, 2) := by decide +kernel
theorem dL_law_38 : decode cL_law 38 = .ok (.newarray .int, 2) := by decide +kernel
theorem dL_law_40 : decode cL_law 40 = .ok (.astore 7, 2) := by decide +kernel
theorem dL_law_42 : decode cL_law 42 = .ok (.bipush 12, 2) := by decide +kernel
theorem dL_law_44 : decode cL_law 44 = .ok (.newarray .int, 2) := by decide +kernel
theorem dL_law_46 : decode cL_law 46 = .ok (.astore 8, 2) := by decide +kernel
theorem dL_law_48 : decode cL_law 48 = .ok (.iconst 5, 1) := by decide +kernel
theorem dL_law_49 : decode cL_law 49 = .ok (.newarray .int, 2) := by decide +kernel
theorem dL_law_51 : decode cL_law 51 = .ok (.astore 9, 2) := by decide +kernel
theorem dL_law_53 : decode cL_law 53 = .ok (.aload 9, 2) := by decide +kernel
theorem dL_law_55 : decode cL_law 55 = .ok (.iconst 1, 1) := by decide +kernel
theorem dL_law_56 : decode cL_law 56 = .ok (.iconst 2, 1) := by decide +kernel
theorem dL_law_57 : decode cL_law 57 = .ok (.iastore, 1) := by decide +kernel
theorem dL_law_58 : decode cL_law 58 = .ok (.aload 9, 2) := by decide +kernel
theorem dL_law_60 : decode cL_law 60 = .ok (.iconst 2, 1) := by decide +kernel
theorem dL_law_61 : decode cL_law 61 = .ok (.bipush 10, 2) := by decide +kernel
theorem dL_law_63 : decode cL_law 63 = .ok (.iastore, 1) := by decide +kernel
theorem dL_law_64 : decode cL_law 64 = .ok (.aload_n 1, 1) := by decide +kernel
theorem dL_law_65 : decode cL_law 65 = .ok (.invokevirtual 110, 3) := by decide +kernel
theorem dL_law_68 : decode cL_law 68 = .ok (.ifCond .ne 47, 3) := by decide +kernel
theorem dL_law_71 : decode cL_law 71 = .ok (.aload_n 1, 1) := by decide +kernel
theorem dL_law_72 : decode cL_law 72 = .ok (.invokevirtual 107, 3) := by decide +kernel
theorem dL_law_75 : decode cL_law 75 = .ok (.ifCond .ne 40, 3) := by decide +kernel
theorem dL_law_78 : decode cL_law 78 = .ok (.aload_n 1, 1) := by decide +kernel
theorem dL_law_79 : decode cL_law 79 = .ok (.invokevirtual 187, 3) := by decide +kernel
theorem dL_law_82 : decode cL_law 82 = .ok (.ifCond .ne 33, 3) := by decide +kernel
theorem dL_law_85 : decode cL_law 85 = .ok (.aload_n 1, 1) := by decide +kernel
theorem dL_law_86 : decode cL_law 86 = .ok (.invokevirtual 190, 3) := by decide +kernel
theorem dL_law_89 : decode cL_law 89 = .ok (.ifCond .ne 26, 3) := by decide +kernel
theorem dL_law_92 : decode cL_law 92 = .ok (.aload_n 1, 1) := by decide +kernel
theorem dL_law_93 : decode cL_law 93 = .ok (.invokestatic 152, 3) := by decide +kernel
theorem dL_law_96 : decode cL_law 96 = .ok (.ldc 28, 2) := by decide +kernel
theorem dL_law_98 : decode cL_law 98 = .ok (.if_icmp .ne 17, 3) := by decide +kernel
theorem dL_law_101 : decode cL_law 101 = .ok (.aload_n 1, 1) := by decide +kernel
theorem dL_law_102 : decode cL_law 102 = .ok (.iconst 0, 1) := by decide +kernel
theorem dL_law_103 : decode cL_law 103 = .ok (.invokestatic 102, 3) := by decide +kernel
theorem dL_law_106 : decode cL_law 106 = .ok (.ldc 18, 2) := by decide +kernel
theorem dL_law_108 : decode cL_law 108 = .ok (.if_icmp .ne 7, 3) := by decide +kernel
theorem dL_law_111 : decode cL_law 111 = .ok (.iconst 1, 1) := by decide +kernel
theorem dL_law_112 : decode cL_law 112 = .ok (.goto 4, 3) := by decide +kernel
theorem dL_law_115 : decode cL_law 115 = .ok (.iconst 0, 1) := by decide +kernel
theorem dL_law_116 : decode cL_law 116 = .ok (.istore 10, 2) := by decide +kernel
theorem dL_law_118 : decode cL_law 118 = .ok (.iconst 0, 1) := by decide +kernel
theorem dL_law_119 : decode cL_law 119 = .ok (.istore 11, 2) := by decide +kernel
theorem dL_law_121 : decode cL_law 121 = .ok (.iload 11, 2) := by decide +kernel
theorem dL_law_123 : decode cL_law 123 = .ok (.bipush 80, 2) := by decide +kernel
theorem dL_law_125 : decode cL_law 125 = .ok (.if_icmp .ge 185, 3) := by decide +kernel
theorem dL_law_128 : decode cL_law 128 = .ok (.iload 10, 2) := by decide +kernel
theorem dL_law_130 : decode cL_law 130 = .ok (.ifCond .eq 180, 3) := by decide +kernel
theorem dL_law_133 : decode cL_law 133 = .ok (.aload_n 0, 1) := by decide +kernel
theorem dL_law_134 : decode cL_law 134 = .ok (.iconst 2, 1) := by decide +kernel
theorem dL_law_135 : decode cL_law 135 = .ok (.iload 11, 2) := by decide +kernel
theorem dL_law_137 : decode cL_law 137 = .ok (.imul, 1) := by decide +kernel
theorem dL_law_138 : decode cL_law 138 = .ok (.invokestatic 193, 3) := by decide +kernel
theorem dL_law_141 : decode cL_law 141 = .ok (.istore 12, 2) := by decide +kernel
theorem dL_law_143 : decode cL_law 143 = .ok (.aload_n 0, 1) := by decide +kernel
theorem dL_law_144 : decode cL_law 144 = .ok (.iconst 2, 1) := by decide +kernel
theorem dL_law_145 : decode cL_law 145 = .ok (.iload 11, 2) := by decide +kernel
theorem dL_law_147 : decode cL_law 147 = .ok (.imul, 1) := by decide +kernel
theorem dL_law_148 : decode cL_law 148 = .ok (.iconst 1, 1) := by decide +kernel
theorem dL_law_149 : decode cL_law 149 = .ok (.iadd, 1) := by decide +kernel
theorem dL_law_150 : decode cL_law 150 = .ok (.invokestatic 193, 3) := by decide +kernel
theorem dL_law_153 : decode cL_law 153 = .ok (.istore 13, 2) := by decide +kernel
theorem dL_law_155 : decode cL_law 155 = .ok (.aload_n 1, 1) := by decide +kernel
theorem dL_law_156 : decode cL_law 156 = .ok (.aload_n 2, 1) := by decide +kernel
theorem dL_law_157 : decode cL_law 157 = .ok (.aload_n 3, 1) := by decide +kernel
theorem dL_law_158 : decode cL_law 158 = .ok (.aload 4, 2) := by decide +kernel
theorem dL_law_160 : decode cL_law 160 = .ok (.aload 5, 2) := by decide +kernel
theorem dL_law_162 : decode cL_law 162 = .ok (.aload 6, 2) := by decide +kernel
theorem dL_law_164 : decode cL_law 164 = .ok (.aload 7, 2) := by decide +kernel
theorem dL_law_166 : decode cL_law 166 = .ok (.aload 8, 2) := by decide +kernel
theorem dL_law_168 : decode cL_law 168 = .ok (.aload 9, 2) := by decide +kernel
theorem dL_law_170 : decode cL_law 170 = .ok (.iload 11, 2) := by decide +kernel
theorem dL_law_172 : decode cL_law 172 = .ok (.bipush 12, 2) := by decide +kernel
theorem dL_law_174 : decode cL_law 174 = .ok (.if_icmp .ge 10, 3) := by decide +kernel
theorem dL_law_177 : decode cL_law 177 = .ok (.iload 11, 2) := by decide +kernel
theorem dL_law_179 : decode cL_law 179 = .ok (.iconst 5, 1) := by decide +kernel
theorem dL_law_180 : decode cL_law 180 = .ok (.irem, 1) := by decide +kernel
theorem dL_law_181 : decode cL_law 181 = .ok (.goto 5, 3) := by decide +kernel
theorem dL_law_184 : decode cL_law 184 = .ok (.iload 12, 2) := by decide +kernel
theorem dL_law_186 : decode cL_law 186 = .ok (.iload 13, 2) := by decide +kernel
theorem dL_law_188 : decode cL_law 188 = .ok (.invokestatic 197, 3) := by decide +kernel
theorem dL_law_191 : decode cL_law 191 = .ok (.ifCond .eq 29, 3) := by decide +kernel
theorem dL_law_194 : decode cL_law 194 = .ok (.aload_n 1, 1) := by decide +kernel
theorem dL_law_195 : decode cL_law 195 = .ok (.invokevirtual 187, 3) := by decide +kernel
theorem dL_law_198 : decode cL_law 198 = .ok (.aload 9, 2) := by decide +kernel
theorem dL_law_200 : decode cL_law 200 = .ok (.iconst 3, 1) := by decide +kernel
theorem dL_law_201 : decode cL_law 201 = .ok (.iaload, 1) := by decide +kernel
theorem dL_law_202 : decode cL_law 202 = .ok (.if_icmp .ne 18, 3) := by decide +kernel
theorem dL_law_205 : decode cL_law 205 = .ok (.aload_n 1, 1) := by decide +kernel
theorem dL_law_206 : decode cL_law 206 = .ok (.invokevirtual 190, 3) := by decide +kernel
theorem dL_law_209 : decode cL_law 209 = .ok (.aload 9, 2) := by decide +kernel
theorem dL_law_211 : decode cL_law 211 = .ok (.iconst 4, 1) := by decide +kernel
theorem dL_law_212 : decode cL_law 212 = .ok (.iaload, 1) := by decide +kernel
theorem dL_law_213 : decode cL_law 213 = .ok (.if_icmp .ne 7, 3) := by decide +kernel
theorem dL_law_216 : decode cL_law 216 = .ok (.iconst 1, 1) := by decide +kernel
theorem dL_law_217 : decode cL_law 217 = .ok (.goto 4, 3) := by decide +kernel
theorem dL_law_220 : decode cL_law 220 = .ok (.iconst 0, 1) := by decide +kernel
theorem dL_law_221 : decode cL_law 221 = .ok (.istore 10, 2) := by decide +kernel
theorem dL_law_223 : decode cL_law 223 = .ok (.iload 10, 2) := by decide +kernel
theorem dL_law_225 : decode cL_law 225 = .ok (.ifCond .eq 79, 3) := by decide +kernel
theorem dL_law_228 : decode cL_law 228 = .ok (.iload 11, 2) := by decide +kernel
theorem dL_law_230 : decode cL_law 230 = .ok (.iconst 4, 1) := by decide +kernel
theorem dL_law_231 : decode cL_law 231 = .ok (.irem, 1) := by decide +kernel
theorem dL_law_232 : decode cL_law 232 = .ok (.iconst 3, 1) := by decide +kernel
theorem dL_law_233 : decode cL_law 233 = .ok (.if_icmp .ne 71, 3) := by decide +kernel
theorem dL_law_236 : decode cL_law 236 = .ok (.aload_n 1, 1) := by decide +kernel
theorem dL_law_237 : decode cL_law 237 = .ok (.aload_n 3, 1) := by decide +kernel
theorem dL_law_238 : decode cL_law 238 = .ok (.aload 7, 2) := by decide +kernel
theorem dL_law_240 : decode cL_law 240 = .ok (.aload 9, 2) := by decide +kernel
theorem dL_law_242 : decode cL_law 242 = .ok (.invokestatic 201, 3) := by decide +kernel
theorem dL_law_245 : decode cL_law 245 = .ok (.istore 10, 2) := by decide +kernel
theorem dL_law_247 : decode cL_law 247 = .ok (.iconst 0, 1) := by decide +kernel
theorem dL_law_248 : decode cL_law 248 = .ok (.istore 14, 2) := by decide +kernel
theorem dL_law_250 : decode cL_law 250 = .ok (.iload 14, 2) := by decide +kernel
theorem dL_law_252 : decode cL_law 252 = .ok (.aload_n 1, 1) := by decide +kernel
theorem dL_law_253 : decode cL_law 253 = .ok (.invokevirtual 107, 3) := by decide +kernel
theorem dL_law_256 : decode cL_law 256 = .ok (.if_icmp .ge 48, 3) := by decide +kernel
theorem dL_law_259 : decode cL_law 259 = .ok (.iload 10, 2) := by decide +kernel
theorem dL_law_261 : decode cL_law 261 = .ok (.ifCond .eq 43, 3) := by decide +kernel
theorem dL_law_264 : decode cL_law 264 = .ok (.aload_n 1, 1) := by decide +kernel
theorem dL_law_265 : decode cL_law 265 = .ok (.aload_n 2, 1) := by decide +kernel
theorem dL_law_266 : decode cL_law 266 = .ok (.aload 4, 2) := by decide +kernel
theorem dL_law_268 : decode cL_law 268 = .ok (.iload 14, 2) := by decide +kernel
theorem dL_law_270 : decode cL_law 270 = .ok (.invokestatic 205, 3) := by decide +kernel
theorem dL_law_273 : decode cL_law 273 = .ok (.ifCond .eq 22, 3) := by decide +kernel
theorem dL_law_276 : decode cL_law 276 = .ok (.aload_n 1, 1) := by decide +kernel
theorem dL_law_277 : decode cL_law 277 = .ok (.aload 5, 2) := by decide +kernel
theorem dL_law_279 : decode cL_law 279 = .ok (.aload 6, 2) := by decide +kernel
theorem dL_law_281 : decode cL_law 281 = .ok (.aload 9, 2) := by decide +kernel
theorem dL_law_283 : decode cL_law 283 = .ok (.iload 14, 2) := by decide +kernel
theorem dL_law_285 : decode cL_law 285 = .ok (.invokestatic 209, 3) := by decide +kernel
theorem dL_law_288 : decode cL_law 288 = .ok (.ifCond .eq 7, 3) := by decide +kernel
theorem dL_law_291 : decode cL_law 291 = .ok (.iconst 1, 1) := by decide +kernel
theorem dL_law_292 : decode cL_law 292 = .ok (.goto 4, 3) := by decide +kernel
theorem dL_law_295 : decode cL_law 295 = .ok (.iconst 0, 1) := by decide +kernel
theorem dL_law_296 : decode cL_law 296 = .ok (.istore 10, 2) := by decide +kernel
theorem dL_law_298 : decode cL_law 298 = .ok (.iinc 14 1, 3) := by decide +kernel
theorem dL_law_301 : decode cL_law 301 = .ok (.goto (-51), 3) := by decide +kernel
theorem dL_law_304 : decode cL_law 304 = .ok (.iinc 11 1, 3) := by decide +kernel
theorem dL_law_307 : decode cL_law 307 = .ok (.goto (-186), 3) := by decide +kernel
theorem dL_law_310 : decode cL_law 310 = .ok (.iload 10, 2) := by decide +kernel
theorem dL_law_312 : decode cL_law 312 = .ok (.ifCond .eq 51, 3) := by decide +kernel
theorem dL_law_315 : decode cL_law 315 = .ok (.aload_n 1, 1) := by decide +kernel
theorem dL_law_316 : decode cL_law 316 = .ok (.bipush 12, 2) := by decide +kernel
theorem dL_law_318 : decode cL_law 318 = .ok (.invokestatic 126, 3) := by decide +kernel
theorem dL_law_321 : decode cL_law 321 = .ok (.ldc2_w 86, 3) := by decide +kernel
theorem dL_law_324 : decode cL_law 324 = .ok (.lcmp, 1) := by decide +kernel
theorem dL_law_325 : decode cL_law 325 = .ok (.ifCond .ne 38, 3) := by decide +kernel
theorem dL_law_328 : decode cL_law 328 = .ok (.aload_n 1, 1) := by decide +kernel
theorem dL_law_329 : decode cL_law 329 = .ok (.iconst (-1), 1) := by decide +kernel
theorem dL_law_330 : decode cL_law 330 = .ok (.invokestatic 139, 3) := by decide +kernel
theorem dL_law_333 : decode cL_law 333 = .ok (.ldc 18, 2) := by decide +kernel
theorem dL_law_335 : decode cL_law 335 = .ok (.if_icmp .ne 28, 3) := by decide +kernel
theorem dL_law_338 : decode cL_law 338 = .ok (.aload_n 1, 1) := by decide +kernel
theorem dL_law_339 : decode cL_law 339 = .ok (.bipush 12, 2) := by decide +kernel
theorem dL_law_341 : decode cL_law 341 = .ok (.invokestatic 137, 3) := by decide +kernel
theorem dL_law_344 : decode cL_law 344 = .ok (.ldc 18, 2) := by decide +kernel
theorem dL_law_346 : decode cL_law 346 = .ok (.if_icmp .ne 17, 3) := by decide +kernel
theorem dL_law_349 : decode cL_law 349 = .ok (.aload_n 1, 1) := by decide +kernel
theorem dL_law_350 : decode cL_law 350 = .ok (.iconst (-1), 1) := by decide +kernel
theorem dL_law_351 : decode cL_law 351 = .ok (.invokestatic 135, 3) := by decide +kernel
theorem dL_law_354 : decode cL_law 354 = .ok (.ldc 18, 2) := by decide +kernel
theorem dL_law_356 : decode cL_law 356 = .ok (.if_icmp .ne 7, 3) := by decide +kernel
theorem dL_law_359 : decode cL_law 359 = .ok (.iconst 1, 1) := by decide +kernel
theorem dL_law_360 : decode cL_law 360 = .ok (.goto 4, 3) := by decide +kernel
theorem dL_law_363 : decode cL_law 363 = .ok (.iconst 0, 1) := by decide +kernel
theorem dL_law_364 : decode cL_law 364 = .ok (.ireturn, 1) := by decide +kernel
abbrev vwCl : List vw_C := [(RX0, TX0, 5), (RX1, TX1, 15)]
