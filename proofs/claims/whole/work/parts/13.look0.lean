theorem i0_0 : lk (mi_ins m0) 0 = some (.aload_n 2, 1, []) := by decide +kernel
theorem i0_1 : lk (mi_ins m0) 1 = some (.iconst 0, 1, []) := by decide +kernel
theorem i0_2 : lk (mi_ins m0) 2 = some (.aload_n 0, 1, []) := by decide +kernel
theorem i0_3 : lk (mi_ins m0) 3 = some (.iload_n 1, 1, []) := by decide +kernel
theorem i0_4 : lk (mi_ins m0) 4 = some (.invokevirtual 7, 3, []) := by decide +kernel
theorem i0_7 : lk (mi_ins m0) 7 = some (.i2l, 1, []) := by decide +kernel
theorem i0_8 : lk (mi_ins m0) 8 = some (.lastore, 1, []) := by decide +kernel
theorem i0_9 : lk (mi_ins m0) 9 = some (.goto 6, 3, []) := by decide +kernel
theorem i0_12 : lk (mi_ins m0) 12 = some (.astore_n 3, 1, []) := by decide +kernel
theorem i0_13 : lk (mi_ins m0) 13 = some (.iconst 1, 1, []) := by decide +kernel
theorem i0_14 : lk (mi_ins m0) 14 = some (.ireturn, 1, []) := by decide +kernel
theorem i0_15 : lk (mi_ins m0) 15 = some (.iconst 0, 1, []) := by decide +kernel
theorem i0_16 : lk (mi_ins m0) 16 = some (.ireturn, 1, []) := by decide +kernel
theorem i1_0 : lk (mi_ins m1) 0 = some (.new 8, 3, []) := by decide +kernel
theorem i1_3 : lk (mi_ins m1) 3 = some (.dup, 1, []) := by decide +kernel
theorem i1_4 : lk (mi_ins m1) 4 = some (.invokespecial 15, 3, []) := by decide +kernel
theorem i1_7 : lk (mi_ins m1) 7 = some (.astore_n 1, 1, []) := by decide +kernel
theorem i1_8 : lk (mi_ins m1) 8 = some (.new 16, 3, []) := by decide +kernel
theorem i1_11 : lk (mi_ins m1) 11 = some (.dup, 1, []) := by decide +kernel
theorem i1_12 : lk (mi_ins m1) 12 = some (.invokespecial 18, 3, []) := by decide +kernel
theorem i1_15 : lk (mi_ins m1) 15 = some (.astore_n 2, 1, []) := by decide +kernel
theorem i1_16 : lk (mi_ins m1) 16 = some (.iconst 1, 1, []) := by decide +kernel
theorem i1_17 : lk (mi_ins m1) 17 = some (.newarray .long, 2, []) := by decide +kernel
theorem i1_19 : lk (mi_ins m1) 19 = some (.astore_n 3, 1, []) := by decide +kernel
theorem i1_20 : lk (mi_ins m1) 20 = some (.iconst 0, 1, []) := by decide +kernel
theorem i1_21 : lk (mi_ins m1) 21 = some (.istore 4, 2, []) := by decide +kernel
theorem i1_23 : lk (mi_ins m1) 23 = some (.iload 4, 2, [5, 6]) := by decide +kernel
theorem i1_25 : lk (mi_ins m1) 25 = some (.aload_n 0, 1, []) := by decide +kernel
theorem i1_26 : lk (mi_ins m1) 26 = some (.arraylength, 1, []) := by decide +kernel
theorem i1_27 : lk (mi_ins m1) 27 = some (.bipush 6, 2, []) := by decide +kernel
theorem i1_29 : lk (mi_ins m1) 29 = some (.isub, 1, []) := by decide +kernel
theorem i1_30 : lk (mi_ins m1) 30 = some (.if_icmp .gt 1759, 3, []) := by decide +kernel
theorem i1_33 : lk (mi_ins m1) 33 = some (.aload_n 0, 1, []) := by decide +kernel
theorem i1_34 : lk (mi_ins m1) 34 = some (.iload 4, 2, []) := by decide +kernel
theorem i1_36 : lk (mi_ins m1) 36 = some (.iaload, 1, []) := by decide +kernel
theorem i1_37 : lk (mi_ins m1) 37 = some (.bipush 63, 2, []) := by decide +kernel
theorem i1_39 : lk (mi_ins m1) 39 = some (.iand, 1, []) := by decide +kernel
theorem i1_40 : lk (mi_ins m1) 40 = some (.tableswitch 1743 0 52 #[228, 301, 326, 339, 352, 389, 426, 463, 500, 513, 526, 539, 564, 601, 626, 651, 664, 713, 738, 763, 776, 801, 838, 875, 900, 937, 950, 975, 988, 1001, 1014, 1027, 1040, 1065, 1090, 1156, 1222, 1247, 1313, 1362, 1399, 1436, 1473, 1510, 1535, 1560, 1573, 1598, 1611, 1624, 1649, 1705, 1730], 228, []) := by decide +kernel
theorem i1_268 : lk (mi_ins m1) 268 = some (.aload_n 1, 1, []) := by decide +kernel
theorem i1_269 : lk (mi_ins m1) 269 = some (.aload_n 0, 1, []) := by decide +kernel
theorem i1_270 : lk (mi_ins m1) 270 = some (.iload 4, 2, []) := by decide +kernel
theorem i1_272 : lk (mi_ins m1) 272 = some (.iconst 1, 1, []) := by decide +kernel
theorem i1_273 : lk (mi_ins m1) 273 = some (.iadd, 1, []) := by decide +kernel
theorem i1_274 : lk (mi_ins m1) 274 = some (.iaload, 1, []) := by decide +kernel
theorem i1_275 : lk (mi_ins m1) 275 = some (.aload_n 0, 1, []) := by decide +kernel
theorem i1_276 : lk (mi_ins m1) 276 = some (.iload 4, 2, []) := by decide +kernel
theorem i1_278 : lk (mi_ins m1) 278 = some (.iconst 2, 1, []) := by decide +kernel
theorem i1_279 : lk (mi_ins m1) 279 = some (.iadd, 1, []) := by decide +kernel
theorem i1_280 : lk (mi_ins m1) 280 = some (.iaload, 1, []) := by decide +kernel
theorem i1_281 : lk (mi_ins m1) 281 = some (.aload_n 0, 1, []) := by decide +kernel
theorem i1_282 : lk (mi_ins m1) 282 = some (.iload 4, 2, []) := by decide +kernel
theorem i1_284 : lk (mi_ins m1) 284 = some (.iconst 3, 1, []) := by decide +kernel
theorem i1_285 : lk (mi_ins m1) 285 = some (.iadd, 1, []) := by decide +kernel
theorem i1_286 : lk (mi_ins m1) 286 = some (.iaload, 1, []) := by decide +kernel
theorem i1_287 : lk (mi_ins m1) 287 = some (.aload_n 0, 1, []) := by decide +kernel
theorem i1_288 : lk (mi_ins m1) 288 = some (.iload 4, 2, []) := by decide +kernel
theorem i1_290 : lk (mi_ins m1) 290 = some (.iconst 4, 1, []) := by decide +kernel
theorem i1_291 : lk (mi_ins m1) 291 = some (.iadd, 1, []) := by decide +kernel
theorem i1_292 : lk (mi_ins m1) 292 = some (.iaload, 1, []) := by decide +kernel
theorem i1_293 : lk (mi_ins m1) 293 = some (.aload_n 0, 1, []) := by decide +kernel
theorem i1_294 : lk (mi_ins m1) 294 = some (.iload 4, 2, []) := by decide +kernel
theorem i1_296 : lk (mi_ins m1) 296 = some (.iconst 5, 1, []) := by decide +kernel
theorem i1_297 : lk (mi_ins m1) 297 = some (.iadd, 1, []) := by decide +kernel
theorem i1_298 : lk (mi_ins m1) 298 = some (.iaload, 1, []) := by decide +kernel
theorem i1_299 : lk (mi_ins m1) 299 = some (.invokevirtual 19, 3, []) := by decide +kernel
theorem i1_302 : lk (mi_ins m1) 302 = some (.aload_n 2, 1, []) := by decide +kernel
theorem i1_303 : lk (mi_ins m1) 303 = some (.aload_n 0, 1, []) := by decide +kernel
theorem i1_304 : lk (mi_ins m1) 304 = some (.iload 4, 2, []) := by decide +kernel
theorem i1_306 : lk (mi_ins m1) 306 = some (.iconst 1, 1, []) := by decide +kernel
theorem i1_307 : lk (mi_ins m1) 307 = some (.iadd, 1, []) := by decide +kernel
theorem i1_308 : lk (mi_ins m1) 308 = some (.iaload, 1, []) := by decide +kernel
theorem i1_309 : lk (mi_ins m1) 309 = some (.aload_n 0, 1, []) := by decide +kernel
theorem i1_310 : lk (mi_ins m1) 310 = some (.iload 4, 2, []) := by decide +kernel
theorem i1_312 : lk (mi_ins m1) 312 = some (.iconst 2, 1, []) := by decide +kernel
theorem i1_313 : lk (mi_ins m1) 313 = some (.iadd, 1, []) := by decide +kernel
theorem i1_314 : lk (mi_ins m1) 314 = some (.iaload, 1, []) := by decide +kernel
theorem i1_315 : lk (mi_ins m1) 315 = some (.aload_n 0, 1, []) := by decide +kernel
theorem i1_316 : lk (mi_ins m1) 316 = some (.iload 4, 2, []) := by decide +kernel
theorem i1_318 : lk (mi_ins m1) 318 = some (.iconst 3, 1, []) := by decide +kernel
theorem i1_319 : lk (mi_ins m1) 319 = some (.iadd, 1, []) := by decide +kernel
theorem i1_320 : lk (mi_ins m1) 320 = some (.iaload, 1, []) := by decide +kernel
theorem i1_321 : lk (mi_ins m1) 321 = some (.aload_n 0, 1, []) := by decide +kernel
theorem i1_322 : lk (mi_ins m1) 322 = some (.iload 4, 2, []) := by decide +kernel
theorem i1_324 : lk (mi_ins m1) 324 = some (.iconst 4, 1, []) := by decide +kernel
theorem i1_325 : lk (mi_ins m1) 325 = some (.iadd, 1, []) := by decide +kernel
theorem i1_326 : lk (mi_ins m1) 326 = some (.iaload, 1, []) := by decide +kernel
theorem i1_327 : lk (mi_ins m1) 327 = some (.aload_n 0, 1, []) := by decide +kernel
theorem i1_328 : lk (mi_ins m1) 328 = some (.iload 4, 2, []) := by decide +kernel
theorem i1_330 : lk (mi_ins m1) 330 = some (.iconst 5, 1, []) := by decide +kernel
theorem i1_331 : lk (mi_ins m1) 331 = some (.iadd, 1, []) := by decide +kernel
theorem i1_332 : lk (mi_ins m1) 332 = some (.iaload, 1, []) := by decide +kernel
theorem i1_333 : lk (mi_ins m1) 333 = some (.invokevirtual 23, 3, []) := by decide +kernel
theorem i1_336 : lk (mi_ins m1) 336 = some (.if_icmp .eq 1447, 3, []) := by decide +kernel
theorem i1_339 : lk (mi_ins m1) 339 = some (.iconst 0, 1, []) := by decide +kernel
theorem i1_340 : lk (mi_ins m1) 340 = some (.ireturn, 1, []) := by decide +kernel
theorem i1_341 : lk (mi_ins m1) 341 = some (.aload_n 1, 1, []) := by decide +kernel
theorem i1_342 : lk (mi_ins m1) 342 = some (.aload_n 0, 1, []) := by decide +kernel
theorem i1_343 : lk (mi_ins m1) 343 = some (.iload 4, 2, []) := by decide +kernel
theorem i1_345 : lk (mi_ins m1) 345 = some (.iconst 1, 1, []) := by decide +kernel
theorem i1_346 : lk (mi_ins m1) 346 = some (.iadd, 1, []) := by decide +kernel
theorem i1_347 : lk (mi_ins m1) 347 = some (.iaload, 1, []) := by decide +kernel
theorem i1_348 : lk (mi_ins m1) 348 = some (.invokevirtual 24, 3, []) := by decide +kernel
theorem i1_351 : lk (mi_ins m1) 351 = some (.aload_n 2, 1, []) := by decide +kernel
theorem i1_352 : lk (mi_ins m1) 352 = some (.aload_n 0, 1, []) := by decide +kernel
theorem i1_353 : lk (mi_ins m1) 353 = some (.iload 4, 2, []) := by decide +kernel
theorem i1_355 : lk (mi_ins m1) 355 = some (.iconst 1, 1, []) := by decide +kernel
theorem i1_356 : lk (mi_ins m1) 356 = some (.iadd, 1, []) := by decide +kernel
theorem i1_357 : lk (mi_ins m1) 357 = some (.iaload, 1, []) := by decide +kernel
theorem i1_358 : lk (mi_ins m1) 358 = some (.invokevirtual 27, 3, []) := by decide +kernel
theorem i1_361 : lk (mi_ins m1) 361 = some (.if_icmp .eq 1422, 3, []) := by decide +kernel
theorem i1_364 : lk (mi_ins m1) 364 = some (.iconst 0, 1, []) := by decide +kernel
theorem i1_365 : lk (mi_ins m1) 365 = some (.ireturn, 1, []) := by decide +kernel
theorem i1_366 : lk (mi_ins m1) 366 = some (.aload_n 1, 1, []) := by decide +kernel
theorem i1_367 : lk (mi_ins m1) 367 = some (.invokevirtual 28, 3, []) := by decide +kernel
theorem i1_370 : lk (mi_ins m1) 370 = some (.aload_n 2, 1, []) := by decide +kernel
theorem i1_371 : lk (mi_ins m1) 371 = some (.invokevirtual 32, 3, []) := by decide +kernel
theorem i1_374 : lk (mi_ins m1) 374 = some (.if_icmp .eq 1409, 3, []) := by decide +kernel
theorem i1_377 : lk (mi_ins m1) 377 = some (.iconst 0, 1, []) := by decide +kernel
theorem i1_378 : lk (mi_ins m1) 378 = some (.ireturn, 1, []) := by decide +kernel
theorem i1_379 : lk (mi_ins m1) 379 = some (.aload_n 1, 1, []) := by decide +kernel
theorem i1_380 : lk (mi_ins m1) 380 = some (.invokevirtual 33, 3, []) := by decide +kernel
theorem i1_383 : lk (mi_ins m1) 383 = some (.aload_n 2, 1, []) := by decide +kernel
theorem i1_384 : lk (mi_ins m1) 384 = some (.invokevirtual 36, 3, []) := by decide +kernel
theorem i1_387 : lk (mi_ins m1) 387 = some (.if_icmp .eq 1396, 3, []) := by decide +kernel
theorem i1_390 : lk (mi_ins m1) 390 = some (.iconst 0, 1, []) := by decide +kernel
theorem i1_391 : lk (mi_ins m1) 391 = some (.ireturn, 1, []) := by decide +kernel
theorem i1_392 : lk (mi_ins m1) 392 = some (.aload_n 1, 1, []) := by decide +kernel
theorem i1_393 : lk (mi_ins m1) 393 = some (.aload_n 0, 1, []) := by decide +kernel
theorem i1_394 : lk (mi_ins m1) 394 = some (.iload 4, 2, []) := by decide +kernel
theorem i1_396 : lk (mi_ins m1) 396 = some (.iconst 1, 1, []) := by decide +kernel
theorem i1_397 : lk (mi_ins m1) 397 = some (.iadd, 1, []) := by decide +kernel
theorem i1_398 : lk (mi_ins m1) 398 = some (.iaload, 1, []) := by decide +kernel
theorem i1_399 : lk (mi_ins m1) 399 = some (.aload_n 0, 1, []) := by decide +kernel
theorem i1_400 : lk (mi_ins m1) 400 = some (.iload 4, 2, []) := by decide +kernel
theorem i1_402 : lk (mi_ins m1) 402 = some (.iconst 2, 1, []) := by decide +kernel
theorem i1_403 : lk (mi_ins m1) 403 = some (.iadd, 1, []) := by decide +kernel
theorem i1_404 : lk (mi_ins m1) 404 = some (.iaload, 1, []) := by decide +kernel
theorem i1_405 : lk (mi_ins m1) 405 = some (.invokevirtual 37, 3, []) := by decide +kernel
theorem i1_408 : lk (mi_ins m1) 408 = some (.aload_n 2, 1, []) := by decide +kernel
theorem i1_409 : lk (mi_ins m1) 409 = some (.aload_n 0, 1, []) := by decide +kernel
theorem i1_410 : lk (mi_ins m1) 410 = some (.iload 4, 2, []) := by decide +kernel
theorem i1_412 : lk (mi_ins m1) 412 = some (.iconst 1, 1, []) := by decide +kernel
theorem i1_413 : lk (mi_ins m1) 413 = some (.iadd, 1, []) := by decide +kernel
theorem i1_414 : lk (mi_ins m1) 414 = some (.iaload, 1, []) := by decide +kernel
theorem i1_415 : lk (mi_ins m1) 415 = some (.aload_n 0, 1, []) := by decide +kernel
theorem i1_416 : lk (mi_ins m1) 416 = some (.iload 4, 2, []) := by decide +kernel
theorem i1_418 : lk (mi_ins m1) 418 = some (.iconst 2, 1, []) := by decide +kernel
theorem i1_419 : lk (mi_ins m1) 419 = some (.iadd, 1, []) := by decide +kernel
theorem i1_420 : lk (mi_ins m1) 420 = some (.iaload, 1, []) := by decide +kernel
theorem i1_421 : lk (mi_ins m1) 421 = some (.invokevirtual 41, 3, []) := by decide +kernel
theorem i1_424 : lk (mi_ins m1) 424 = some (.if_icmp .eq 1359, 3, []) := by decide +kernel
theorem i1_427 : lk (mi_ins m1) 427 = some (.iconst 0, 1, []) := by decide +kernel
theorem i1_428 : lk (mi_ins m1) 428 = some (.ireturn, 1, []) := by decide +kernel
theorem i1_429 : lk (mi_ins m1) 429 = some (.aload_n 1, 1, []) := by decide +kernel
theorem i1_430 : lk (mi_ins m1) 430 = some (.aload_n 0, 1, []) := by decide +kernel
theorem i1_431 : lk (mi_ins m1) 431 = some (.iload 4, 2, []) := by decide +kernel
theorem i1_433 : lk (mi_ins m1) 433 = some (.iconst 1, 1, []) := by decide +kernel
theorem i1_434 : lk (mi_ins m1) 434 = some (.iadd, 1, []) := by decide +kernel
theorem i1_435 : lk (mi_ins m1) 435 = some (.iaload, 1, []) := by decide +kernel
theorem i1_436 : lk (mi_ins m1) 436 = some (.aload_n 0, 1, []) := by decide +kernel
theorem i1_437 : lk (mi_ins m1) 437 = some (.iload 4, 2, []) := by decide +kernel
theorem i1_439 : lk (mi_ins m1) 439 = some (.iconst 2, 1, []) := by decide +kernel
theorem i1_440 : lk (mi_ins m1) 440 = some (.iadd, 1, []) := by decide +kernel
theorem i1_441 : lk (mi_ins m1) 441 = some (.iaload, 1, []) := by decide +kernel
theorem i1_442 : lk (mi_ins m1) 442 = some (.invokevirtual 42, 3, []) := by decide +kernel
theorem i1_445 : lk (mi_ins m1) 445 = some (.aload_n 2, 1, []) := by decide +kernel
theorem i1_446 : lk (mi_ins m1) 446 = some (.aload_n 0, 1, []) := by decide +kernel
theorem i1_447 : lk (mi_ins m1) 447 = some (.iload 4, 2, []) := by decide +kernel
theorem i1_449 : lk (mi_ins m1) 449 = some (.iconst 1, 1, []) := by decide +kernel
theorem i1_450 : lk (mi_ins m1) 450 = some (.iadd, 1, []) := by decide +kernel
theorem i1_451 : lk (mi_ins m1) 451 = some (.iaload, 1, []) := by decide +kernel
theorem i1_452 : lk (mi_ins m1) 452 = some (.aload_n 0, 1, []) := by decide +kernel
theorem i1_453 : lk (mi_ins m1) 453 = some (.iload 4, 2, []) := by decide +kernel
theorem i1_455 : lk (mi_ins m1) 455 = some (.iconst 2, 1, []) := by decide +kernel
theorem i1_456 : lk (mi_ins m1) 456 = some (.iadd, 1, []) := by decide +kernel
theorem i1_457 : lk (mi_ins m1) 457 = some (.iaload, 1, []) := by decide +kernel
theorem i1_458 : lk (mi_ins m1) 458 = some (.invokevirtual 45, 3, []) := by decide +kernel
theorem i1_461 : lk (mi_ins m1) 461 = some (.if_icmp .eq 1322, 3, []) := by decide +kernel
theorem i1_464 : lk (mi_ins m1) 464 = some (.iconst 0, 1, []) := by decide +kernel
theorem i1_465 : lk (mi_ins m1) 465 = some (.ireturn, 1, []) := by decide +kernel
theorem i1_466 : lk (mi_ins m1) 466 = some (.aload_n 1, 1, []) := by decide +kernel
theorem i1_467 : lk (mi_ins m1) 467 = some (.aload_n 0, 1, []) := by decide +kernel
theorem i1_468 : lk (mi_ins m1) 468 = some (.iload 4, 2, []) := by decide +kernel
theorem i1_470 : lk (mi_ins m1) 470 = some (.iconst 1, 1, []) := by decide +kernel
theorem i1_471 : lk (mi_ins m1) 471 = some (.iadd, 1, []) := by decide +kernel
theorem i1_472 : lk (mi_ins m1) 472 = some (.iaload, 1, []) := by decide +kernel
theorem i1_473 : lk (mi_ins m1) 473 = some (.aload_n 0, 1, []) := by decide +kernel
theorem i1_474 : lk (mi_ins m1) 474 = some (.iload 4, 2, []) := by decide +kernel
theorem i1_476 : lk (mi_ins m1) 476 = some (.iconst 2, 1, []) := by decide +kernel
theorem i1_477 : lk (mi_ins m1) 477 = some (.iadd, 1, []) := by decide +kernel
theorem i1_478 : lk (mi_ins m1) 478 = some (.iaload, 1, []) := by decide +kernel
theorem i1_479 : lk (mi_ins m1) 479 = some (.invokevirtual 46, 3, []) := by decide +kernel
theorem i1_482 : lk (mi_ins m1) 482 = some (.aload_n 2, 1, []) := by decide +kernel
theorem i1_483 : lk (mi_ins m1) 483 = some (.aload_n 0, 1, []) := by decide +kernel
theorem i1_484 : lk (mi_ins m1) 484 = some (.iload 4, 2, []) := by decide +kernel
theorem i1_486 : lk (mi_ins m1) 486 = some (.iconst 1, 1, []) := by decide +kernel
theorem i1_487 : lk (mi_ins m1) 487 = some (.iadd, 1, []) := by decide +kernel
theorem i1_488 : lk (mi_ins m1) 488 = some (.iaload, 1, []) := by decide +kernel
theorem i1_489 : lk (mi_ins m1) 489 = some (.aload_n 0, 1, []) := by decide +kernel
theorem i1_490 : lk (mi_ins m1) 490 = some (.iload 4, 2, []) := by decide +kernel
theorem i1_492 : lk (mi_ins m1) 492 = some (.iconst 2, 1, []) := by decide +kernel
theorem i1_493 : lk (mi_ins m1) 493 = some (.iadd, 1, []) := by decide +kernel
theorem i1_494 : lk (mi_ins m1) 494 = some (.iaload, 1, []) := by decide +kernel
theorem i1_495 : lk (mi_ins m1) 495 = some (.invokevirtual 49, 3, []) := by decide +kernel
theorem i1_498 : lk (mi_ins m1) 498 = some (.if_icmp .eq 1285, 3, []) := by decide +kernel
theorem i1_501 : lk (mi_ins m1) 501 = some (.iconst 0, 1, []) := by decide +kernel
theorem i1_502 : lk (mi_ins m1) 502 = some (.ireturn, 1, []) := by decide +kernel
theorem i1_503 : lk (mi_ins m1) 503 = some (.aload_n 1, 1, []) := by decide +kernel
theorem i1_504 : lk (mi_ins m1) 504 = some (.aload_n 0, 1, []) := by decide +kernel
theorem i1_505 : lk (mi_ins m1) 505 = some (.iload 4, 2, []) := by decide +kernel
theorem i1_507 : lk (mi_ins m1) 507 = some (.iconst 1, 1, []) := by decide +kernel
theorem i1_508 : lk (mi_ins m1) 508 = some (.iadd, 1, []) := by decide +kernel
theorem i1_509 : lk (mi_ins m1) 509 = some (.iaload, 1, []) := by decide +kernel
theorem i1_510 : lk (mi_ins m1) 510 = some (.aload_n 0, 1, []) := by decide +kernel
theorem i1_511 : lk (mi_ins m1) 511 = some (.iload 4, 2, []) := by decide +kernel
theorem i1_513 : lk (mi_ins m1) 513 = some (.iconst 2, 1, []) := by decide +kernel
theorem i1_514 : lk (mi_ins m1) 514 = some (.iadd, 1, []) := by decide +kernel
theorem i1_515 : lk (mi_ins m1) 515 = some (.iaload, 1, []) := by decide +kernel
theorem i1_516 : lk (mi_ins m1) 516 = some (.invokevirtual 50, 3, []) := by decide +kernel
theorem i1_519 : lk (mi_ins m1) 519 = some (.aload_n 2, 1, []) := by decide +kernel
theorem i1_520 : lk (mi_ins m1) 520 = some (.aload_n 0, 1, []) := by decide +kernel
theorem i1_521 : lk (mi_ins m1) 521 = some (.iload 4, 2, []) := by decide +kernel
theorem i1_523 : lk (mi_ins m1) 523 = some (.iconst 1, 1, []) := by decide +kernel
theorem i1_524 : lk (mi_ins m1) 524 = some (.iadd, 1, []) := by decide +kernel
theorem i1_525 : lk (mi_ins m1) 525 = some (.iaload, 1, []) := by decide +kernel
theorem i1_526 : lk (mi_ins m1) 526 = some (.aload_n 0, 1, []) := by decide +kernel
theorem i1_527 : lk (mi_ins m1) 527 = some (.iload 4, 2, []) := by decide +kernel
theorem i1_529 : lk (mi_ins m1) 529 = some (.iconst 2, 1, []) := by decide +kernel
theorem i1_530 : lk (mi_ins m1) 530 = some (.iadd, 1, []) := by decide +kernel
theorem i1_531 : lk (mi_ins m1) 531 = some (.iaload, 1, []) := by decide +kernel
theorem i1_532 : lk (mi_ins m1) 532 = some (.invokevirtual 53, 3, []) := by decide +kernel
theorem i1_535 : lk (mi_ins m1) 535 = some (.if_icmp .eq 1248, 3, []) := by decide +kernel
theorem i1_538 : lk (mi_ins m1) 538 = some (.iconst 0, 1, []) := by decide +kernel
theorem i1_539 : lk (mi_ins m1) 539 = some (.ireturn, 1, []) := by decide +kernel
theorem i1_540 : lk (mi_ins m1) 540 = some (.aload_n 1, 1, []) := by decide +kernel
theorem i1_541 : lk (mi_ins m1) 541 = some (.invokevirtual 54, 3, []) := by decide +kernel
theorem i1_544 : lk (mi_ins m1) 544 = some (.aload_n 2, 1, []) := by decide +kernel
theorem i1_545 : lk (mi_ins m1) 545 = some (.invokevirtual 57, 3, []) := by decide +kernel
theorem i1_548 : lk (mi_ins m1) 548 = some (.if_icmp .eq 1235, 3, []) := by decide +kernel
theorem i1_551 : lk (mi_ins m1) 551 = some (.iconst 0, 1, []) := by decide +kernel
theorem i1_552 : lk (mi_ins m1) 552 = some (.ireturn, 1, []) := by decide +kernel
theorem i1_553 : lk (mi_ins m1) 553 = some (.aload_n 1, 1, []) := by decide +kernel
theorem i1_554 : lk (mi_ins m1) 554 = some (.invokevirtual 58, 3, []) := by decide +kernel
theorem i1_557 : lk (mi_ins m1) 557 = some (.aload_n 2, 1, []) := by decide +kernel
theorem i1_558 : lk (mi_ins m1) 558 = some (.invokevirtual 61, 3, []) := by decide +kernel
theorem i1_561 : lk (mi_ins m1) 561 = some (.if_icmp .eq 1222, 3, []) := by decide +kernel
theorem i1_564 : lk (mi_ins m1) 564 = some (.iconst 0, 1, []) := by decide +kernel
theorem i1_565 : lk (mi_ins m1) 565 = some (.ireturn, 1, []) := by decide +kernel
theorem i1_566 : lk (mi_ins m1) 566 = some (.aload_n 1, 1, []) := by decide +kernel
theorem i1_567 : lk (mi_ins m1) 567 = some (.invokevirtual 62, 3, []) := by decide +kernel
theorem i1_570 : lk (mi_ins m1) 570 = some (.aload_n 2, 1, []) := by decide +kernel
theorem i1_571 : lk (mi_ins m1) 571 = some (.invokevirtual 65, 3, []) := by decide +kernel
theorem i1_574 : lk (mi_ins m1) 574 = some (.if_icmp .eq 1209, 3, []) := by decide +kernel
theorem i1_577 : lk (mi_ins m1) 577 = some (.iconst 0, 1, []) := by decide +kernel
theorem i1_578 : lk (mi_ins m1) 578 = some (.ireturn, 1, []) := by decide +kernel
theorem i1_579 : lk (mi_ins m1) 579 = some (.aload_n 1, 1, []) := by decide +kernel
theorem i1_580 : lk (mi_ins m1) 580 = some (.aload_n 0, 1, []) := by decide +kernel
theorem i1_581 : lk (mi_ins m1) 581 = some (.iload 4, 2, []) := by decide +kernel
theorem i1_583 : lk (mi_ins m1) 583 = some (.iconst 1, 1, []) := by decide +kernel
theorem i1_584 : lk (mi_ins m1) 584 = some (.iadd, 1, []) := by decide +kernel
theorem i1_585 : lk (mi_ins m1) 585 = some (.iaload, 1, []) := by decide +kernel
theorem i1_586 : lk (mi_ins m1) 586 = some (.invokevirtual 66, 3, []) := by decide +kernel
theorem i1_589 : lk (mi_ins m1) 589 = some (.aload_n 2, 1, []) := by decide +kernel
theorem i1_590 : lk (mi_ins m1) 590 = some (.aload_n 0, 1, []) := by decide +kernel
theorem i1_591 : lk (mi_ins m1) 591 = some (.iload 4, 2, []) := by decide +kernel
theorem i1_593 : lk (mi_ins m1) 593 = some (.iconst 1, 1, []) := by decide +kernel
theorem i1_594 : lk (mi_ins m1) 594 = some (.iadd, 1, []) := by decide +kernel
theorem i1_595 : lk (mi_ins m1) 595 = some (.iaload, 1, []) := by decide +kernel
theorem i1_596 : lk (mi_ins m1) 596 = some (.invokevirtual 69, 3, []) := by decide +kernel
theorem i1_599 : lk (mi_ins m1) 599 = some (.if_icmp .eq 1184, 3, []) := by decide +kernel
theorem i1_602 : lk (mi_ins m1) 602 = some (.iconst 0, 1, []) := by decide +kernel
theorem i1_603 : lk (mi_ins m1) 603 = some (.ireturn, 1, []) := by decide +kernel
theorem i1_604 : lk (mi_ins m1) 604 = some (.aload_n 1, 1, []) := by decide +kernel
theorem i1_605 : lk (mi_ins m1) 605 = some (.aload_n 0, 1, []) := by decide +kernel
theorem i1_606 : lk (mi_ins m1) 606 = some (.iload 4, 2, []) := by decide +kernel
theorem i1_608 : lk (mi_ins m1) 608 = some (.iconst 1, 1, []) := by decide +kernel
theorem i1_609 : lk (mi_ins m1) 609 = some (.iadd, 1, []) := by decide +kernel
theorem i1_610 : lk (mi_ins m1) 610 = some (.iaload, 1, []) := by decide +kernel
theorem i1_611 : lk (mi_ins m1) 611 = some (.aload_n 0, 1, []) := by decide +kernel
theorem i1_612 : lk (mi_ins m1) 612 = some (.iload 4, 2, []) := by decide +kernel
theorem i1_614 : lk (mi_ins m1) 614 = some (.iconst 2, 1, []) := by decide +kernel
theorem i1_615 : lk (mi_ins m1) 615 = some (.iadd, 1, []) := by decide +kernel
theorem i1_616 : lk (mi_ins m1) 616 = some (.iaload, 1, []) := by decide +kernel
theorem i1_617 : lk (mi_ins m1) 617 = some (.invokevirtual 70, 3, []) := by decide +kernel
theorem i1_620 : lk (mi_ins m1) 620 = some (.aload_n 2, 1, []) := by decide +kernel
theorem i1_621 : lk (mi_ins m1) 621 = some (.aload_n 0, 1, []) := by decide +kernel
theorem i1_622 : lk (mi_ins m1) 622 = some (.iload 4, 2, []) := by decide +kernel
theorem i1_624 : lk (mi_ins m1) 624 = some (.iconst 1, 1, []) := by decide +kernel
theorem i1_625 : lk (mi_ins m1) 625 = some (.iadd, 1, []) := by decide +kernel
theorem i1_626 : lk (mi_ins m1) 626 = some (.iaload, 1, []) := by decide +kernel
theorem i1_627 : lk (mi_ins m1) 627 = some (.aload_n 0, 1, []) := by decide +kernel
theorem i1_628 : lk (mi_ins m1) 628 = some (.iload 4, 2, []) := by decide +kernel
theorem i1_630 : lk (mi_ins m1) 630 = some (.iconst 2, 1, []) := by decide +kernel
theorem i1_631 : lk (mi_ins m1) 631 = some (.iadd, 1, []) := by decide +kernel
theorem i1_632 : lk (mi_ins m1) 632 = some (.iaload, 1, []) := by decide +kernel
theorem i1_633 : lk (mi_ins m1) 633 = some (.invokevirtual 73, 3, []) := by decide +kernel
theorem i1_636 : lk (mi_ins m1) 636 = some (.if_icmp .eq 1147, 3, []) := by decide +kernel
theorem i1_639 : lk (mi_ins m1) 639 = some (.iconst 0, 1, []) := by decide +kernel
theorem i1_640 : lk (mi_ins m1) 640 = some (.ireturn, 1, []) := by decide +kernel
theorem i1_641 : lk (mi_ins m1) 641 = some (.aload_n 1, 1, []) := by decide +kernel
theorem i1_642 : lk (mi_ins m1) 642 = some (.aload_n 0, 1, []) := by decide +kernel
theorem i1_643 : lk (mi_ins m1) 643 = some (.iload 4, 2, []) := by decide +kernel
theorem i1_645 : lk (mi_ins m1) 645 = some (.iconst 1, 1, []) := by decide +kernel
theorem i1_646 : lk (mi_ins m1) 646 = some (.iadd, 1, []) := by decide +kernel
theorem i1_647 : lk (mi_ins m1) 647 = some (.iaload, 1, []) := by decide +kernel
theorem i1_648 : lk (mi_ins m1) 648 = some (.invokevirtual 74, 3, []) := by decide +kernel
theorem i1_651 : lk (mi_ins m1) 651 = some (.aload_n 2, 1, []) := by decide +kernel
theorem i1_652 : lk (mi_ins m1) 652 = some (.aload_n 0, 1, []) := by decide +kernel
theorem i1_653 : lk (mi_ins m1) 653 = some (.iload 4, 2, []) := by decide +kernel
theorem i1_655 : lk (mi_ins m1) 655 = some (.iconst 1, 1, []) := by decide +kernel
theorem i1_656 : lk (mi_ins m1) 656 = some (.iadd, 1, []) := by decide +kernel
theorem i1_657 : lk (mi_ins m1) 657 = some (.iaload, 1, []) := by decide +kernel
theorem i1_658 : lk (mi_ins m1) 658 = some (.invokevirtual 77, 3, []) := by decide +kernel
theorem i1_661 : lk (mi_ins m1) 661 = some (.if_icmp .eq 1122, 3, []) := by decide +kernel
theorem i1_664 : lk (mi_ins m1) 664 = some (.iconst 0, 1, []) := by decide +kernel
theorem i1_665 : lk (mi_ins m1) 665 = some (.ireturn, 1, []) := by decide +kernel
theorem i1_666 : lk (mi_ins m1) 666 = some (.aload_n 1, 1, []) := by decide +kernel
theorem i1_667 : lk (mi_ins m1) 667 = some (.aload_n 0, 1, []) := by decide +kernel
theorem i1_668 : lk (mi_ins m1) 668 = some (.iload 4, 2, []) := by decide +kernel
theorem i1_670 : lk (mi_ins m1) 670 = some (.iconst 1, 1, []) := by decide +kernel
theorem i1_671 : lk (mi_ins m1) 671 = some (.iadd, 1, []) := by decide +kernel
theorem i1_672 : lk (mi_ins m1) 672 = some (.iaload, 1, []) := by decide +kernel
theorem i1_673 : lk (mi_ins m1) 673 = some (.invokevirtual 78, 3, []) := by decide +kernel
theorem i1_676 : lk (mi_ins m1) 676 = some (.aload_n 2, 1, []) := by decide +kernel
theorem i1_677 : lk (mi_ins m1) 677 = some (.aload_n 0, 1, []) := by decide +kernel
theorem i1_678 : lk (mi_ins m1) 678 = some (.iload 4, 2, []) := by decide +kernel
theorem i1_680 : lk (mi_ins m1) 680 = some (.iconst 1, 1, []) := by decide +kernel
theorem i1_681 : lk (mi_ins m1) 681 = some (.iadd, 1, []) := by decide +kernel
theorem i1_682 : lk (mi_ins m1) 682 = some (.iaload, 1, []) := by decide +kernel
theorem i1_683 : lk (mi_ins m1) 683 = some (.invokevirtual 81, 3, []) := by decide +kernel
theorem i1_686 : lk (mi_ins m1) 686 = some (.if_icmp .eq 1097, 3, []) := by decide +kernel
theorem i1_689 : lk (mi_ins m1) 689 = some (.iconst 0, 1, []) := by decide +kernel
theorem i1_690 : lk (mi_ins m1) 690 = some (.ireturn, 1, []) := by decide +kernel
theorem i1_691 : lk (mi_ins m1) 691 = some (.aload_n 1, 1, []) := by decide +kernel
theorem i1_692 : lk (mi_ins m1) 692 = some (.invokevirtual 82, 3, []) := by decide +kernel
theorem i1_695 : lk (mi_ins m1) 695 = some (.aload_n 2, 1, []) := by decide +kernel
theorem i1_696 : lk (mi_ins m1) 696 = some (.invokevirtual 85, 3, []) := by decide +kernel
theorem i1_699 : lk (mi_ins m1) 699 = some (.if_icmp .eq 1084, 3, []) := by decide +kernel
theorem i1_702 : lk (mi_ins m1) 702 = some (.iconst 0, 1, []) := by decide +kernel
theorem i1_703 : lk (mi_ins m1) 703 = some (.ireturn, 1, []) := by decide +kernel
theorem i1_704 : lk (mi_ins m1) 704 = some (.aload_n 1, 1, []) := by decide +kernel
theorem i1_705 : lk (mi_ins m1) 705 = some (.aload_n 0, 1, []) := by decide +kernel
theorem i1_706 : lk (mi_ins m1) 706 = some (.iload 4, 2, []) := by decide +kernel
theorem i1_708 : lk (mi_ins m1) 708 = some (.iconst 1, 1, []) := by decide +kernel
theorem i1_709 : lk (mi_ins m1) 709 = some (.iadd, 1, []) := by decide +kernel
theorem i1_710 : lk (mi_ins m1) 710 = some (.iaload, 1, []) := by decide +kernel
theorem i1_711 : lk (mi_ins m1) 711 = some (.aload_n 0, 1, []) := by decide +kernel
theorem i1_712 : lk (mi_ins m1) 712 = some (.iload 4, 2, []) := by decide +kernel
theorem i1_714 : lk (mi_ins m1) 714 = some (.iconst 2, 1, []) := by decide +kernel
theorem i1_715 : lk (mi_ins m1) 715 = some (.iadd, 1, []) := by decide +kernel
theorem i1_716 : lk (mi_ins m1) 716 = some (.iaload, 1, []) := by decide +kernel
theorem i1_717 : lk (mi_ins m1) 717 = some (.aload_n 0, 1, []) := by decide +kernel
theorem i1_718 : lk (mi_ins m1) 718 = some (.iload 4, 2, []) := by decide +kernel
theorem i1_720 : lk (mi_ins m1) 720 = some (.iconst 3, 1, []) := by decide +kernel
theorem i1_721 : lk (mi_ins m1) 721 = some (.iadd, 1, []) := by decide +kernel
theorem i1_722 : lk (mi_ins m1) 722 = some (.iaload, 1, []) := by decide +kernel
theorem i1_723 : lk (mi_ins m1) 723 = some (.invokevirtual 86, 3, []) := by decide +kernel
theorem i1_726 : lk (mi_ins m1) 726 = some (.aload_n 2, 1, []) := by decide +kernel
theorem i1_727 : lk (mi_ins m1) 727 = some (.aload_n 0, 1, []) := by decide +kernel
theorem i1_728 : lk (mi_ins m1) 728 = some (.iload 4, 2, []) := by decide +kernel
theorem i1_730 : lk (mi_ins m1) 730 = some (.iconst 1, 1, []) := by decide +kernel
theorem i1_731 : lk (mi_ins m1) 731 = some (.iadd, 1, []) := by decide +kernel
theorem i1_732 : lk (mi_ins m1) 732 = some (.iaload, 1, []) := by decide +kernel
theorem i1_733 : lk (mi_ins m1) 733 = some (.aload_n 0, 1, []) := by decide +kernel
theorem i1_734 : lk (mi_ins m1) 734 = some (.iload 4, 2, []) := by decide +kernel
theorem i1_736 : lk (mi_ins m1) 736 = some (.iconst 2, 1, []) := by decide +kernel
theorem i1_737 : lk (mi_ins m1) 737 = some (.iadd, 1, []) := by decide +kernel
theorem i1_738 : lk (mi_ins m1) 738 = some (.iaload, 1, []) := by decide +kernel
theorem i1_739 : lk (mi_ins m1) 739 = some (.aload_n 0, 1, []) := by decide +kernel
theorem i1_740 : lk (mi_ins m1) 740 = some (.iload 4, 2, []) := by decide +kernel
theorem i1_742 : lk (mi_ins m1) 742 = some (.iconst 3, 1, []) := by decide +kernel
theorem i1_743 : lk (mi_ins m1) 743 = some (.iadd, 1, []) := by decide +kernel
theorem i1_744 : lk (mi_ins m1) 744 = some (.iaload, 1, []) := by decide +kernel
theorem i1_745 : lk (mi_ins m1) 745 = some (.invokevirtual 90, 3, []) := by decide +kernel
theorem i1_748 : lk (mi_ins m1) 748 = some (.if_icmp .eq 1035, 3, []) := by decide +kernel
theorem i1_751 : lk (mi_ins m1) 751 = some (.iconst 0, 1, []) := by decide +kernel
theorem i1_752 : lk (mi_ins m1) 752 = some (.ireturn, 1, []) := by decide +kernel
theorem i1_753 : lk (mi_ins m1) 753 = some (.aload_n 1, 1, []) := by decide +kernel
theorem i1_754 : lk (mi_ins m1) 754 = some (.aload_n 0, 1, []) := by decide +kernel
theorem i1_755 : lk (mi_ins m1) 755 = some (.iload 4, 2, []) := by decide +kernel
theorem i1_757 : lk (mi_ins m1) 757 = some (.iconst 1, 1, []) := by decide +kernel
theorem i1_758 : lk (mi_ins m1) 758 = some (.iadd, 1, []) := by decide +kernel
theorem i1_759 : lk (mi_ins m1) 759 = some (.iaload, 1, []) := by decide +kernel
theorem i1_760 : lk (mi_ins m1) 760 = some (.invokevirtual 91, 3, []) := by decide +kernel
theorem i1_763 : lk (mi_ins m1) 763 = some (.aload_n 2, 1, []) := by decide +kernel
theorem i1_764 : lk (mi_ins m1) 764 = some (.aload_n 0, 1, []) := by decide +kernel
theorem i1_765 : lk (mi_ins m1) 765 = some (.iload 4, 2, []) := by decide +kernel
theorem i1_767 : lk (mi_ins m1) 767 = some (.iconst 1, 1, []) := by decide +kernel
theorem i1_768 : lk (mi_ins m1) 768 = some (.iadd, 1, []) := by decide +kernel
theorem i1_769 : lk (mi_ins m1) 769 = some (.iaload, 1, []) := by decide +kernel
theorem i1_770 : lk (mi_ins m1) 770 = some (.invokevirtual 94, 3, []) := by decide +kernel
theorem i1_773 : lk (mi_ins m1) 773 = some (.if_icmp .eq 1010, 3, []) := by decide +kernel
theorem i1_776 : lk (mi_ins m1) 776 = some (.iconst 0, 1, []) := by decide +kernel
theorem i1_777 : lk (mi_ins m1) 777 = some (.ireturn, 1, []) := by decide +kernel
theorem i1_778 : lk (mi_ins m1) 778 = some (.aload_n 1, 1, []) := by decide +kernel
theorem i1_779 : lk (mi_ins m1) 779 = some (.aload_n 0, 1, []) := by decide +kernel
theorem i1_780 : lk (mi_ins m1) 780 = some (.iload 4, 2, []) := by decide +kernel
theorem i1_782 : lk (mi_ins m1) 782 = some (.iconst 1, 1, []) := by decide +kernel
theorem i1_783 : lk (mi_ins m1) 783 = some (.iadd, 1, []) := by decide +kernel
theorem i1_784 : lk (mi_ins m1) 784 = some (.iaload, 1, []) := by decide +kernel
theorem i1_785 : lk (mi_ins m1) 785 = some (.invokevirtual 95, 3, []) := by decide +kernel
theorem i1_788 : lk (mi_ins m1) 788 = some (.aload_n 2, 1, []) := by decide +kernel
theorem i1_789 : lk (mi_ins m1) 789 = some (.aload_n 0, 1, []) := by decide +kernel
theorem i1_790 : lk (mi_ins m1) 790 = some (.iload 4, 2, []) := by decide +kernel
theorem i1_792 : lk (mi_ins m1) 792 = some (.iconst 1, 1, []) := by decide +kernel
theorem i1_793 : lk (mi_ins m1) 793 = some (.iadd, 1, []) := by decide +kernel
theorem i1_794 : lk (mi_ins m1) 794 = some (.iaload, 1, []) := by decide +kernel
theorem i1_795 : lk (mi_ins m1) 795 = some (.invokevirtual 98, 3, []) := by decide +kernel
theorem i1_798 : lk (mi_ins m1) 798 = some (.if_icmp .eq 985, 3, []) := by decide +kernel
theorem i1_801 : lk (mi_ins m1) 801 = some (.iconst 0, 1, []) := by decide +kernel
theorem i1_802 : lk (mi_ins m1) 802 = some (.ireturn, 1, []) := by decide +kernel
theorem i1_803 : lk (mi_ins m1) 803 = some (.aload_n 1, 1, []) := by decide +kernel
theorem i1_804 : lk (mi_ins m1) 804 = some (.invokevirtual 99, 3, []) := by decide +kernel
theorem i1_807 : lk (mi_ins m1) 807 = some (.aload_n 2, 1, []) := by decide +kernel
theorem i1_808 : lk (mi_ins m1) 808 = some (.invokevirtual 102, 3, []) := by decide +kernel
theorem i1_811 : lk (mi_ins m1) 811 = some (.if_icmp .eq 972, 3, []) := by decide +kernel
theorem i1_814 : lk (mi_ins m1) 814 = some (.iconst 0, 1, []) := by decide +kernel
theorem i1_815 : lk (mi_ins m1) 815 = some (.ireturn, 1, []) := by decide +kernel
theorem i1_816 : lk (mi_ins m1) 816 = some (.aload_n 1, 1, []) := by decide +kernel
theorem i1_817 : lk (mi_ins m1) 817 = some (.aload_n 0, 1, []) := by decide +kernel
theorem i1_818 : lk (mi_ins m1) 818 = some (.iload 4, 2, []) := by decide +kernel
theorem i1_820 : lk (mi_ins m1) 820 = some (.iconst 1, 1, []) := by decide +kernel
theorem i1_821 : lk (mi_ins m1) 821 = some (.iadd, 1, []) := by decide +kernel
theorem i1_822 : lk (mi_ins m1) 822 = some (.iaload, 1, []) := by decide +kernel
theorem i1_823 : lk (mi_ins m1) 823 = some (.invokevirtual 103, 3, []) := by decide +kernel
theorem i1_826 : lk (mi_ins m1) 826 = some (.aload_n 2, 1, []) := by decide +kernel
theorem i1_827 : lk (mi_ins m1) 827 = some (.aload_n 0, 1, []) := by decide +kernel
theorem i1_828 : lk (mi_ins m1) 828 = some (.iload 4, 2, []) := by decide +kernel
theorem i1_830 : lk (mi_ins m1) 830 = some (.iconst 1, 1, []) := by decide +kernel
theorem i1_831 : lk (mi_ins m1) 831 = some (.iadd, 1, []) := by decide +kernel
theorem i1_832 : lk (mi_ins m1) 832 = some (.iaload, 1, []) := by decide +kernel
theorem i1_833 : lk (mi_ins m1) 833 = some (.invokevirtual 106, 3, []) := by decide +kernel
theorem i1_836 : lk (mi_ins m1) 836 = some (.if_icmp .eq 947, 3, []) := by decide +kernel
theorem i1_839 : lk (mi_ins m1) 839 = some (.iconst 0, 1, []) := by decide +kernel
theorem i1_840 : lk (mi_ins m1) 840 = some (.ireturn, 1, []) := by decide +kernel
theorem i1_841 : lk (mi_ins m1) 841 = some (.aload_n 1, 1, []) := by decide +kernel
theorem i1_842 : lk (mi_ins m1) 842 = some (.aload_n 0, 1, []) := by decide +kernel
theorem i1_843 : lk (mi_ins m1) 843 = some (.iload 4, 2, []) := by decide +kernel
theorem i1_845 : lk (mi_ins m1) 845 = some (.iconst 1, 1, []) := by decide +kernel
theorem i1_846 : lk (mi_ins m1) 846 = some (.iadd, 1, []) := by decide +kernel
theorem i1_847 : lk (mi_ins m1) 847 = some (.iaload, 1, []) := by decide +kernel
theorem i1_848 : lk (mi_ins m1) 848 = some (.aload_n 0, 1, []) := by decide +kernel
theorem i1_849 : lk (mi_ins m1) 849 = some (.iload 4, 2, []) := by decide +kernel
theorem i1_851 : lk (mi_ins m1) 851 = some (.iconst 2, 1, []) := by decide +kernel
theorem i1_852 : lk (mi_ins m1) 852 = some (.iadd, 1, []) := by decide +kernel
theorem i1_853 : lk (mi_ins m1) 853 = some (.iaload, 1, []) := by decide +kernel
theorem i1_854 : lk (mi_ins m1) 854 = some (.invokevirtual 107, 3, []) := by decide +kernel
theorem i1_857 : lk (mi_ins m1) 857 = some (.aload_n 2, 1, []) := by decide +kernel
theorem i1_858 : lk (mi_ins m1) 858 = some (.aload_n 0, 1, []) := by decide +kernel
theorem i1_859 : lk (mi_ins m1) 859 = some (.iload 4, 2, []) := by decide +kernel
theorem i1_861 : lk (mi_ins m1) 861 = some (.iconst 1, 1, []) := by decide +kernel
theorem i1_862 : lk (mi_ins m1) 862 = some (.iadd, 1, []) := by decide +kernel
theorem i1_863 : lk (mi_ins m1) 863 = some (.iaload, 1, []) := by decide +kernel
theorem i1_864 : lk (mi_ins m1) 864 = some (.aload_n 0, 1, []) := by decide +kernel
theorem i1_865 : lk (mi_ins m1) 865 = some (.iload 4, 2, []) := by decide +kernel
theorem i1_867 : lk (mi_ins m1) 867 = some (.iconst 2, 1, []) := by decide +kernel
theorem i1_868 : lk (mi_ins m1) 868 = some (.iadd, 1, []) := by decide +kernel
theorem i1_869 : lk (mi_ins m1) 869 = some (.iaload, 1, []) := by decide +kernel
theorem i1_870 : lk (mi_ins m1) 870 = some (.invokevirtual 110, 3, []) := by decide +kernel
theorem i1_873 : lk (mi_ins m1) 873 = some (.if_icmp .eq 910, 3, []) := by decide +kernel
theorem i1_876 : lk (mi_ins m1) 876 = some (.iconst 0, 1, []) := by decide +kernel
theorem i1_877 : lk (mi_ins m1) 877 = some (.ireturn, 1, []) := by decide +kernel
theorem i1_878 : lk (mi_ins m1) 878 = some (.aload_n 1, 1, []) := by decide +kernel
theorem i1_879 : lk (mi_ins m1) 879 = some (.aload_n 0, 1, []) := by decide +kernel
theorem i1_880 : lk (mi_ins m1) 880 = some (.iload 4, 2, []) := by decide +kernel
theorem i1_882 : lk (mi_ins m1) 882 = some (.iconst 1, 1, []) := by decide +kernel
theorem i1_883 : lk (mi_ins m1) 883 = some (.iadd, 1, []) := by decide +kernel
theorem i1_884 : lk (mi_ins m1) 884 = some (.iaload, 1, []) := by decide +kernel
theorem i1_885 : lk (mi_ins m1) 885 = some (.aload_n 0, 1, []) := by decide +kernel
theorem i1_886 : lk (mi_ins m1) 886 = some (.iload 4, 2, []) := by decide +kernel
theorem i1_888 : lk (mi_ins m1) 888 = some (.iconst 2, 1, []) := by decide +kernel
theorem i1_889 : lk (mi_ins m1) 889 = some (.iadd, 1, []) := by decide +kernel
theorem i1_890 : lk (mi_ins m1) 890 = some (.iaload, 1, []) := by decide +kernel
theorem i1_891 : lk (mi_ins m1) 891 = some (.invokevirtual 111, 3, []) := by decide +kernel
theorem i1_894 : lk (mi_ins m1) 894 = some (.aload_n 2, 1, []) := by decide +kernel
theorem i1_895 : lk (mi_ins m1) 895 = some (.aload_n 0, 1, []) := by decide +kernel
theorem i1_896 : lk (mi_ins m1) 896 = some (.iload 4, 2, []) := by decide +kernel
theorem i1_898 : lk (mi_ins m1) 898 = some (.iconst 1, 1, []) := by decide +kernel
theorem i1_899 : lk (mi_ins m1) 899 = some (.iadd, 1, []) := by decide +kernel
theorem i1_900 : lk (mi_ins m1) 900 = some (.iaload, 1, []) := by decide +kernel
theorem i1_901 : lk (mi_ins m1) 901 = some (.aload_n 0, 1, []) := by decide +kernel
theorem i1_902 : lk (mi_ins m1) 902 = some (.iload 4, 2, []) := by decide +kernel
theorem i1_904 : lk (mi_ins m1) 904 = some (.iconst 2, 1, []) := by decide +kernel
theorem i1_905 : lk (mi_ins m1) 905 = some (.iadd, 1, []) := by decide +kernel
theorem i1_906 : lk (mi_ins m1) 906 = some (.iaload, 1, []) := by decide +kernel
theorem i1_907 : lk (mi_ins m1) 907 = some (.invokevirtual 114, 3, []) := by decide +kernel
theorem i1_910 : lk (mi_ins m1) 910 = some (.if_icmp .eq 873, 3, []) := by decide +kernel
theorem i1_913 : lk (mi_ins m1) 913 = some (.iconst 0, 1, []) := by decide +kernel
theorem i1_914 : lk (mi_ins m1) 914 = some (.ireturn, 1, []) := by decide +kernel
theorem i1_915 : lk (mi_ins m1) 915 = some (.aload_n 1, 1, []) := by decide +kernel
theorem i1_916 : lk (mi_ins m1) 916 = some (.aload_n 0, 1, []) := by decide +kernel
theorem i1_917 : lk (mi_ins m1) 917 = some (.iload 4, 2, []) := by decide +kernel
theorem i1_919 : lk (mi_ins m1) 919 = some (.iconst 1, 1, []) := by decide +kernel
theorem i1_920 : lk (mi_ins m1) 920 = some (.iadd, 1, []) := by decide +kernel
theorem i1_921 : lk (mi_ins m1) 921 = some (.iaload, 1, []) := by decide +kernel
theorem i1_922 : lk (mi_ins m1) 922 = some (.invokevirtual 115, 3, []) := by decide +kernel
theorem i1_925 : lk (mi_ins m1) 925 = some (.aload_n 2, 1, []) := by decide +kernel
theorem i1_926 : lk (mi_ins m1) 926 = some (.aload_n 0, 1, []) := by decide +kernel
theorem i1_927 : lk (mi_ins m1) 927 = some (.iload 4, 2, []) := by decide +kernel
theorem i1_929 : lk (mi_ins m1) 929 = some (.iconst 1, 1, []) := by decide +kernel
theorem i1_930 : lk (mi_ins m1) 930 = some (.iadd, 1, []) := by decide +kernel
theorem i1_931 : lk (mi_ins m1) 931 = some (.iaload, 1, []) := by decide +kernel
theorem i1_932 : lk (mi_ins m1) 932 = some (.invokevirtual 118, 3, []) := by decide +kernel
theorem i1_935 : lk (mi_ins m1) 935 = some (.if_icmp .eq 848, 3, []) := by decide +kernel
theorem i1_938 : lk (mi_ins m1) 938 = some (.iconst 0, 1, []) := by decide +kernel
theorem i1_939 : lk (mi_ins m1) 939 = some (.ireturn, 1, []) := by decide +kernel
theorem i1_940 : lk (mi_ins m1) 940 = some (.aload_n 1, 1, []) := by decide +kernel
theorem i1_941 : lk (mi_ins m1) 941 = some (.aload_n 0, 1, []) := by decide +kernel
theorem i1_942 : lk (mi_ins m1) 942 = some (.iload 4, 2, []) := by decide +kernel
theorem i1_944 : lk (mi_ins m1) 944 = some (.iconst 1, 1, []) := by decide +kernel
theorem i1_945 : lk (mi_ins m1) 945 = some (.iadd, 1, []) := by decide +kernel
theorem i1_946 : lk (mi_ins m1) 946 = some (.iaload, 1, []) := by decide +kernel
theorem i1_947 : lk (mi_ins m1) 947 = some (.aload_n 0, 1, []) := by decide +kernel
theorem i1_948 : lk (mi_ins m1) 948 = some (.iload 4, 2, []) := by decide +kernel
theorem i1_950 : lk (mi_ins m1) 950 = some (.iconst 2, 1, []) := by decide +kernel
theorem i1_951 : lk (mi_ins m1) 951 = some (.iadd, 1, []) := by decide +kernel
theorem i1_952 : lk (mi_ins m1) 952 = some (.iaload, 1, []) := by decide +kernel
theorem i1_953 : lk (mi_ins m1) 953 = some (.invokevirtual 119, 3, []) := by decide +kernel
theorem i1_956 : lk (mi_ins m1) 956 = some (.aload_n 2, 1, []) := by decide +kernel
theorem i1_957 : lk (mi_ins m1) 957 = some (.aload_n 0, 1, []) := by decide +kernel
theorem i1_958 : lk (mi_ins m1) 958 = some (.iload 4, 2, []) := by decide +kernel
theorem i1_960 : lk (mi_ins m1) 960 = some (.iconst 1, 1, []) := by decide +kernel
theorem i1_961 : lk (mi_ins m1) 961 = some (.iadd, 1, []) := by decide +kernel
theorem i1_962 : lk (mi_ins m1) 962 = some (.iaload, 1, []) := by decide +kernel
theorem i1_963 : lk (mi_ins m1) 963 = some (.aload_n 0, 1, []) := by decide +kernel
theorem i1_964 : lk (mi_ins m1) 964 = some (.iload 4, 2, []) := by decide +kernel
theorem i1_966 : lk (mi_ins m1) 966 = some (.iconst 2, 1, []) := by decide +kernel
theorem i1_967 : lk (mi_ins m1) 967 = some (.iadd, 1, []) := by decide +kernel
theorem i1_968 : lk (mi_ins m1) 968 = some (.iaload, 1, []) := by decide +kernel
theorem i1_969 : lk (mi_ins m1) 969 = some (.invokevirtual 122, 3, []) := by decide +kernel
theorem i1_972 : lk (mi_ins m1) 972 = some (.if_icmp .eq 811, 3, []) := by decide +kernel
theorem i1_975 : lk (mi_ins m1) 975 = some (.iconst 0, 1, []) := by decide +kernel
theorem i1_976 : lk (mi_ins m1) 976 = some (.ireturn, 1, []) := by decide +kernel
theorem i1_977 : lk (mi_ins m1) 977 = some (.aload_n 1, 1, []) := by decide +kernel
theorem i1_978 : lk (mi_ins m1) 978 = some (.invokevirtual 123, 3, []) := by decide +kernel
theorem i1_981 : lk (mi_ins m1) 981 = some (.aload_n 2, 1, []) := by decide +kernel
theorem i1_982 : lk (mi_ins m1) 982 = some (.invokevirtual 126, 3, []) := by decide +kernel
theorem i1_985 : lk (mi_ins m1) 985 = some (.if_icmp .eq 798, 3, []) := by decide +kernel
theorem i1_988 : lk (mi_ins m1) 988 = some (.iconst 0, 1, []) := by decide +kernel
theorem i1_989 : lk (mi_ins m1) 989 = some (.ireturn, 1, []) := by decide +kernel
theorem i1_990 : lk (mi_ins m1) 990 = some (.aload_n 1, 1, []) := by decide +kernel
theorem i1_991 : lk (mi_ins m1) 991 = some (.aload_n 0, 1, []) := by decide +kernel
theorem i1_992 : lk (mi_ins m1) 992 = some (.iload 4, 2, []) := by decide +kernel
theorem i1_994 : lk (mi_ins m1) 994 = some (.iconst 1, 1, []) := by decide +kernel
theorem i1_995 : lk (mi_ins m1) 995 = some (.iadd, 1, []) := by decide +kernel
theorem i1_996 : lk (mi_ins m1) 996 = some (.iaload, 1, []) := by decide +kernel
theorem i1_997 : lk (mi_ins m1) 997 = some (.invokevirtual 127, 3, []) := by decide +kernel
theorem i1_1000 : lk (mi_ins m1) 1000 = some (.aload_n 2, 1, []) := by decide +kernel
theorem i1_1001 : lk (mi_ins m1) 1001 = some (.aload_n 0, 1, []) := by decide +kernel
theorem i1_1002 : lk (mi_ins m1) 1002 = some (.iload 4, 2, []) := by decide +kernel
theorem i1_1004 : lk (mi_ins m1) 1004 = some (.iconst 1, 1, []) := by decide +kernel
theorem i1_1005 : lk (mi_ins m1) 1005 = some (.iadd, 1, []) := by decide +kernel
theorem i1_1006 : lk (mi_ins m1) 1006 = some (.iaload, 1, []) := by decide +kernel
theorem i1_1007 : lk (mi_ins m1) 1007 = some (.invokevirtual 130, 3, []) := by decide +kernel
theorem i1_1010 : lk (mi_ins m1) 1010 = some (.if_icmp .eq 773, 3, []) := by decide +kernel
theorem i1_1013 : lk (mi_ins m1) 1013 = some (.iconst 0, 1, []) := by decide +kernel
theorem i1_1014 : lk (mi_ins m1) 1014 = some (.ireturn, 1, []) := by decide +kernel
theorem i1_1015 : lk (mi_ins m1) 1015 = some (.aload_n 1, 1, []) := by decide +kernel
theorem i1_1016 : lk (mi_ins m1) 1016 = some (.invokevirtual 131, 3, []) := by decide +kernel
theorem i1_1019 : lk (mi_ins m1) 1019 = some (.aload_n 2, 1, []) := by decide +kernel
theorem i1_1020 : lk (mi_ins m1) 1020 = some (.invokevirtual 134, 3, []) := by decide +kernel
theorem i1_1023 : lk (mi_ins m1) 1023 = some (.if_icmp .eq 760, 3, []) := by decide +kernel
theorem i1_1026 : lk (mi_ins m1) 1026 = some (.iconst 0, 1, []) := by decide +kernel
theorem i1_1027 : lk (mi_ins m1) 1027 = some (.ireturn, 1, []) := by decide +kernel
theorem i1_1028 : lk (mi_ins m1) 1028 = some (.aload_n 1, 1, []) := by decide +kernel
theorem i1_1029 : lk (mi_ins m1) 1029 = some (.invokevirtual 135, 3, []) := by decide +kernel
theorem i1_1032 : lk (mi_ins m1) 1032 = some (.aload_n 2, 1, []) := by decide +kernel
theorem i1_1033 : lk (mi_ins m1) 1033 = some (.invokevirtual 138, 3, []) := by decide +kernel
theorem i1_1036 : lk (mi_ins m1) 1036 = some (.if_icmp .eq 747, 3, []) := by decide +kernel
theorem i1_1039 : lk (mi_ins m1) 1039 = some (.iconst 0, 1, []) := by decide +kernel
theorem i1_1040 : lk (mi_ins m1) 1040 = some (.ireturn, 1, []) := by decide +kernel
theorem i1_1041 : lk (mi_ins m1) 1041 = some (.aload_n 1, 1, []) := by decide +kernel
theorem i1_1042 : lk (mi_ins m1) 1042 = some (.invokevirtual 139, 3, []) := by decide +kernel
theorem i1_1045 : lk (mi_ins m1) 1045 = some (.aload_n 2, 1, []) := by decide +kernel
theorem i1_1046 : lk (mi_ins m1) 1046 = some (.invokevirtual 142, 3, []) := by decide +kernel
theorem i1_1049 : lk (mi_ins m1) 1049 = some (.if_icmp .eq 734, 3, []) := by decide +kernel
theorem i1_1052 : lk (mi_ins m1) 1052 = some (.iconst 0, 1, []) := by decide +kernel
theorem i1_1053 : lk (mi_ins m1) 1053 = some (.ireturn, 1, []) := by decide +kernel
theorem i1_1054 : lk (mi_ins m1) 1054 = some (.aload_n 1, 1, []) := by decide +kernel
theorem i1_1055 : lk (mi_ins m1) 1055 = some (.invokevirtual 143, 3, []) := by decide +kernel
theorem i1_1058 : lk (mi_ins m1) 1058 = some (.aload_n 2, 1, []) := by decide +kernel
theorem i1_1059 : lk (mi_ins m1) 1059 = some (.invokevirtual 146, 3, []) := by decide +kernel
theorem i1_1062 : lk (mi_ins m1) 1062 = some (.if_icmp .eq 721, 3, []) := by decide +kernel
theorem i1_1065 : lk (mi_ins m1) 1065 = some (.iconst 0, 1, []) := by decide +kernel
theorem i1_1066 : lk (mi_ins m1) 1066 = some (.ireturn, 1, []) := by decide +kernel
theorem i1_1067 : lk (mi_ins m1) 1067 = some (.aload_n 1, 1, []) := by decide +kernel
theorem i1_1068 : lk (mi_ins m1) 1068 = some (.invokevirtual 147, 3, []) := by decide +kernel
theorem i1_1071 : lk (mi_ins m1) 1071 = some (.aload_n 2, 1, []) := by decide +kernel
theorem i1_1072 : lk (mi_ins m1) 1072 = some (.invokevirtual 150, 3, []) := by decide +kernel
theorem i1_1075 : lk (mi_ins m1) 1075 = some (.if_icmp .eq 708, 3, []) := by decide +kernel
theorem i1_1078 : lk (mi_ins m1) 1078 = some (.iconst 0, 1, []) := by decide +kernel
theorem i1_1079 : lk (mi_ins m1) 1079 = some (.ireturn, 1, []) := by decide +kernel
theorem i1_1080 : lk (mi_ins m1) 1080 = some (.aload_n 1, 1, []) := by decide +kernel
theorem i1_1081 : lk (mi_ins m1) 1081 = some (.aload_n 0, 1, []) := by decide +kernel
theorem i1_1082 : lk (mi_ins m1) 1082 = some (.iload 4, 2, []) := by decide +kernel
theorem i1_1084 : lk (mi_ins m1) 1084 = some (.iconst 1, 1, []) := by decide +kernel
theorem i1_1085 : lk (mi_ins m1) 1085 = some (.iadd, 1, []) := by decide +kernel
theorem i1_1086 : lk (mi_ins m1) 1086 = some (.iaload, 1, []) := by decide +kernel
theorem i1_1087 : lk (mi_ins m1) 1087 = some (.invokevirtual 151, 3, []) := by decide +kernel
theorem i1_1090 : lk (mi_ins m1) 1090 = some (.aload_n 2, 1, []) := by decide +kernel
theorem i1_1091 : lk (mi_ins m1) 1091 = some (.aload_n 0, 1, []) := by decide +kernel
theorem i1_1092 : lk (mi_ins m1) 1092 = some (.iload 4, 2, []) := by decide +kernel
theorem i1_1094 : lk (mi_ins m1) 1094 = some (.iconst 1, 1, []) := by decide +kernel
theorem i1_1095 : lk (mi_ins m1) 1095 = some (.iadd, 1, []) := by decide +kernel
theorem i1_1096 : lk (mi_ins m1) 1096 = some (.iaload, 1, []) := by decide +kernel
theorem i1_1097 : lk (mi_ins m1) 1097 = some (.invokevirtual 154, 3, []) := by decide +kernel
theorem i1_1100 : lk (mi_ins m1) 1100 = some (.if_icmp .eq 683, 3, []) := by decide +kernel
theorem i1_1103 : lk (mi_ins m1) 1103 = some (.iconst 0, 1, []) := by decide +kernel
theorem i1_1104 : lk (mi_ins m1) 1104 = some (.ireturn, 1, []) := by decide +kernel
theorem i1_1105 : lk (mi_ins m1) 1105 = some (.aload_n 1, 1, []) := by decide +kernel
theorem i1_1106 : lk (mi_ins m1) 1106 = some (.aload_n 0, 1, []) := by decide +kernel
theorem i1_1107 : lk (mi_ins m1) 1107 = some (.iload 4, 2, []) := by decide +kernel
theorem i1_1109 : lk (mi_ins m1) 1109 = some (.iconst 1, 1, []) := by decide +kernel
theorem i1_1110 : lk (mi_ins m1) 1110 = some (.iadd, 1, []) := by decide +kernel
theorem i1_1111 : lk (mi_ins m1) 1111 = some (.iaload, 1, []) := by decide +kernel
theorem i1_1112 : lk (mi_ins m1) 1112 = some (.invokevirtual 155, 3, []) := by decide +kernel
theorem i1_1115 : lk (mi_ins m1) 1115 = some (.aload_n 2, 1, []) := by decide +kernel
theorem i1_1116 : lk (mi_ins m1) 1116 = some (.aload_n 0, 1, []) := by decide +kernel
theorem i1_1117 : lk (mi_ins m1) 1117 = some (.iload 4, 2, []) := by decide +kernel
theorem i1_1119 : lk (mi_ins m1) 1119 = some (.iconst 1, 1, []) := by decide +kernel
theorem i1_1120 : lk (mi_ins m1) 1120 = some (.iadd, 1, []) := by decide +kernel
theorem i1_1121 : lk (mi_ins m1) 1121 = some (.iaload, 1, []) := by decide +kernel
theorem i1_1122 : lk (mi_ins m1) 1122 = some (.invokevirtual 158, 3, []) := by decide +kernel
theorem i1_1125 : lk (mi_ins m1) 1125 = some (.if_icmp .eq 658, 3, []) := by decide +kernel
theorem i1_1128 : lk (mi_ins m1) 1128 = some (.iconst 0, 1, []) := by decide +kernel
theorem i1_1129 : lk (mi_ins m1) 1129 = some (.ireturn, 1, []) := by decide +kernel
theorem i1_1130 : lk (mi_ins m1) 1130 = some (.aload_n 1, 1, []) := by decide +kernel
theorem i1_1131 : lk (mi_ins m1) 1131 = some (.aload_n 0, 1, []) := by decide +kernel
theorem i1_1132 : lk (mi_ins m1) 1132 = some (.iload 4, 2, []) := by decide +kernel
theorem i1_1134 : lk (mi_ins m1) 1134 = some (.iconst 1, 1, []) := by decide +kernel
theorem i1_1135 : lk (mi_ins m1) 1135 = some (.iadd, 1, []) := by decide +kernel
theorem i1_1136 : lk (mi_ins m1) 1136 = some (.iaload, 1, []) := by decide +kernel
theorem i1_1137 : lk (mi_ins m1) 1137 = some (.aload_n 0, 1, []) := by decide +kernel
theorem i1_1138 : lk (mi_ins m1) 1138 = some (.iload 4, 2, []) := by decide +kernel
theorem i1_1140 : lk (mi_ins m1) 1140 = some (.iconst 2, 1, []) := by decide +kernel
theorem i1_1141 : lk (mi_ins m1) 1141 = some (.iadd, 1, []) := by decide +kernel
theorem i1_1142 : lk (mi_ins m1) 1142 = some (.iaload, 1, []) := by decide +kernel
theorem i1_1143 : lk (mi_ins m1) 1143 = some (.aload_n 0, 1, []) := by decide +kernel
theorem i1_1144 : lk (mi_ins m1) 1144 = some (.iload 4, 2, []) := by decide +kernel
theorem i1_1146 : lk (mi_ins m1) 1146 = some (.iconst 3, 1, []) := by decide +kernel
theorem i1_1147 : lk (mi_ins m1) 1147 = some (.iadd, 1, []) := by decide +kernel
theorem i1_1148 : lk (mi_ins m1) 1148 = some (.iaload, 1, []) := by decide +kernel
theorem i1_1149 : lk (mi_ins m1) 1149 = some (.ifCond .eq 7, 3, []) := by decide +kernel
theorem i1_1152 : lk (mi_ins m1) 1152 = some (.iconst 1, 1, []) := by decide +kernel
theorem i1_1153 : lk (mi_ins m1) 1153 = some (.goto 4, 3, []) := by decide +kernel
theorem i1_1156 : lk (mi_ins m1) 1156 = some (.iconst 0, 1, []) := by decide +kernel
theorem i1_1157 : lk (mi_ins m1) 1157 = some (.invokevirtual 159, 3, [5, 6]) := by decide +kernel
theorem i1_1160 : lk (mi_ins m1) 1160 = some (.aload_n 2, 1, []) := by decide +kernel
theorem i1_1161 : lk (mi_ins m1) 1161 = some (.aload_n 0, 1, []) := by decide +kernel
theorem i1_1162 : lk (mi_ins m1) 1162 = some (.iload 4, 2, []) := by decide +kernel
theorem i1_1164 : lk (mi_ins m1) 1164 = some (.iconst 1, 1, []) := by decide +kernel
theorem i1_1165 : lk (mi_ins m1) 1165 = some (.iadd, 1, []) := by decide +kernel
theorem i1_1166 : lk (mi_ins m1) 1166 = some (.iaload, 1, []) := by decide +kernel
theorem i1_1167 : lk (mi_ins m1) 1167 = some (.aload_n 0, 1, []) := by decide +kernel
theorem i1_1168 : lk (mi_ins m1) 1168 = some (.iload 4, 2, []) := by decide +kernel
theorem i1_1170 : lk (mi_ins m1) 1170 = some (.iconst 2, 1, []) := by decide +kernel
theorem i1_1171 : lk (mi_ins m1) 1171 = some (.iadd, 1, []) := by decide +kernel
theorem i1_1172 : lk (mi_ins m1) 1172 = some (.iaload, 1, []) := by decide +kernel
theorem i1_1173 : lk (mi_ins m1) 1173 = some (.aload_n 0, 1, []) := by decide +kernel
theorem i1_1174 : lk (mi_ins m1) 1174 = some (.iload 4, 2, []) := by decide +kernel
theorem i1_1176 : lk (mi_ins m1) 1176 = some (.iconst 3, 1, []) := by decide +kernel
theorem i1_1177 : lk (mi_ins m1) 1177 = some (.iadd, 1, []) := by decide +kernel
theorem i1_1178 : lk (mi_ins m1) 1178 = some (.iaload, 1, []) := by decide +kernel
theorem i1_1179 : lk (mi_ins m1) 1179 = some (.ifCond .eq 7, 3, []) := by decide +kernel
theorem i1_1182 : lk (mi_ins m1) 1182 = some (.iconst 1, 1, []) := by decide +kernel
theorem i1_1183 : lk (mi_ins m1) 1183 = some (.goto 4, 3, []) := by decide +kernel
theorem i1_1186 : lk (mi_ins m1) 1186 = some (.iconst 0, 1, []) := by decide +kernel
theorem i1_1187 : lk (mi_ins m1) 1187 = some (.invokevirtual 163, 3, [5, 6]) := by decide +kernel
theorem i1_1190 : lk (mi_ins m1) 1190 = some (.lcmp, 1, []) := by decide +kernel
theorem i1_1191 : lk (mi_ins m1) 1191 = some (.ifCond .eq 592, 3, []) := by decide +kernel
theorem i1_1194 : lk (mi_ins m1) 1194 = some (.iconst 0, 1, []) := by decide +kernel
theorem i1_1195 : lk (mi_ins m1) 1195 = some (.ireturn, 1, []) := by decide +kernel
theorem i1_1196 : lk (mi_ins m1) 1196 = some (.aload_n 1, 1, []) := by decide +kernel
theorem i1_1197 : lk (mi_ins m1) 1197 = some (.aload_n 0, 1, []) := by decide +kernel
theorem i1_1198 : lk (mi_ins m1) 1198 = some (.iload 4, 2, []) := by decide +kernel
theorem i1_1200 : lk (mi_ins m1) 1200 = some (.iconst 1, 1, []) := by decide +kernel
theorem i1_1201 : lk (mi_ins m1) 1201 = some (.iadd, 1, []) := by decide +kernel
theorem i1_1202 : lk (mi_ins m1) 1202 = some (.iaload, 1, []) := by decide +kernel
theorem i1_1203 : lk (mi_ins m1) 1203 = some (.aload_n 0, 1, []) := by decide +kernel
theorem i1_1204 : lk (mi_ins m1) 1204 = some (.iload 4, 2, []) := by decide +kernel
theorem i1_1206 : lk (mi_ins m1) 1206 = some (.iconst 2, 1, []) := by decide +kernel
theorem i1_1207 : lk (mi_ins m1) 1207 = some (.iadd, 1, []) := by decide +kernel
theorem i1_1208 : lk (mi_ins m1) 1208 = some (.iaload, 1, []) := by decide +kernel
theorem i1_1209 : lk (mi_ins m1) 1209 = some (.aload_n 0, 1, []) := by decide +kernel
theorem i1_1210 : lk (mi_ins m1) 1210 = some (.iload 4, 2, []) := by decide +kernel
theorem i1_1212 : lk (mi_ins m1) 1212 = some (.iconst 3, 1, []) := by decide +kernel
theorem i1_1213 : lk (mi_ins m1) 1213 = some (.iadd, 1, []) := by decide +kernel
theorem i1_1214 : lk (mi_ins m1) 1214 = some (.iaload, 1, []) := by decide +kernel
theorem i1_1215 : lk (mi_ins m1) 1215 = some (.ifCond .eq 7, 3, []) := by decide +kernel
theorem i1_1218 : lk (mi_ins m1) 1218 = some (.iconst 1, 1, []) := by decide +kernel
theorem i1_1219 : lk (mi_ins m1) 1219 = some (.goto 4, 3, []) := by decide +kernel
theorem i1_1222 : lk (mi_ins m1) 1222 = some (.iconst 0, 1, []) := by decide +kernel
theorem i1_1223 : lk (mi_ins m1) 1223 = some (.invokevirtual 164, 3, [5, 6]) := by decide +kernel
theorem i1_1226 : lk (mi_ins m1) 1226 = some (.aload_n 2, 1, []) := by decide +kernel
theorem i1_1227 : lk (mi_ins m1) 1227 = some (.aload_n 0, 1, []) := by decide +kernel
theorem i1_1228 : lk (mi_ins m1) 1228 = some (.iload 4, 2, []) := by decide +kernel
theorem i1_1230 : lk (mi_ins m1) 1230 = some (.iconst 1, 1, []) := by decide +kernel
theorem i1_1231 : lk (mi_ins m1) 1231 = some (.iadd, 1, []) := by decide +kernel
theorem i1_1232 : lk (mi_ins m1) 1232 = some (.iaload, 1, []) := by decide +kernel
theorem i1_1233 : lk (mi_ins m1) 1233 = some (.aload_n 0, 1, []) := by decide +kernel
theorem i1_1234 : lk (mi_ins m1) 1234 = some (.iload 4, 2, []) := by decide +kernel
theorem i1_1236 : lk (mi_ins m1) 1236 = some (.iconst 2, 1, []) := by decide +kernel
theorem i1_1237 : lk (mi_ins m1) 1237 = some (.iadd, 1, []) := by decide +kernel
theorem i1_1238 : lk (mi_ins m1) 1238 = some (.iaload, 1, []) := by decide +kernel
theorem i1_1239 : lk (mi_ins m1) 1239 = some (.aload_n 0, 1, []) := by decide +kernel
theorem i1_1240 : lk (mi_ins m1) 1240 = some (.iload 4, 2, []) := by decide +kernel
theorem i1_1242 : lk (mi_ins m1) 1242 = some (.iconst 3, 1, []) := by decide +kernel
theorem i1_1243 : lk (mi_ins m1) 1243 = some (.iadd, 1, []) := by decide +kernel
theorem i1_1244 : lk (mi_ins m1) 1244 = some (.iaload, 1, []) := by decide +kernel
theorem i1_1245 : lk (mi_ins m1) 1245 = some (.ifCond .eq 7, 3, []) := by decide +kernel
theorem i1_1248 : lk (mi_ins m1) 1248 = some (.iconst 1, 1, []) := by decide +kernel
theorem i1_1249 : lk (mi_ins m1) 1249 = some (.goto 4, 3, []) := by decide +kernel
theorem i1_1252 : lk (mi_ins m1) 1252 = some (.iconst 0, 1, []) := by decide +kernel
theorem i1_1253 : lk (mi_ins m1) 1253 = some (.invokevirtual 167, 3, [5, 6]) := by decide +kernel
theorem i1_1256 : lk (mi_ins m1) 1256 = some (.lcmp, 1, []) := by decide +kernel
theorem i1_1257 : lk (mi_ins m1) 1257 = some (.ifCond .eq 526, 3, []) := by decide +kernel
theorem i1_1260 : lk (mi_ins m1) 1260 = some (.iconst 0, 1, []) := by decide +kernel
theorem i1_1261 : lk (mi_ins m1) 1261 = some (.ireturn, 1, []) := by decide +kernel
theorem i1_1262 : lk (mi_ins m1) 1262 = some (.aload_n 1, 1, []) := by decide +kernel
theorem i1_1263 : lk (mi_ins m1) 1263 = some (.aload_n 0, 1, []) := by decide +kernel
theorem i1_1264 : lk (mi_ins m1) 1264 = some (.iload 4, 2, []) := by decide +kernel
theorem i1_1266 : lk (mi_ins m1) 1266 = some (.iconst 1, 1, []) := by decide +kernel
theorem i1_1267 : lk (mi_ins m1) 1267 = some (.iadd, 1, []) := by decide +kernel
theorem i1_1268 : lk (mi_ins m1) 1268 = some (.iaload, 1, []) := by decide +kernel
theorem i1_1269 : lk (mi_ins m1) 1269 = some (.invokevirtual 168, 3, []) := by decide +kernel
theorem i1_1272 : lk (mi_ins m1) 1272 = some (.aload_n 2, 1, []) := by decide +kernel
theorem i1_1273 : lk (mi_ins m1) 1273 = some (.aload_n 0, 1, []) := by decide +kernel
theorem i1_1274 : lk (mi_ins m1) 1274 = some (.iload 4, 2, []) := by decide +kernel
theorem i1_1276 : lk (mi_ins m1) 1276 = some (.iconst 1, 1, []) := by decide +kernel
theorem i1_1277 : lk (mi_ins m1) 1277 = some (.iadd, 1, []) := by decide +kernel
theorem i1_1278 : lk (mi_ins m1) 1278 = some (.iaload, 1, []) := by decide +kernel
theorem i1_1279 : lk (mi_ins m1) 1279 = some (.invokevirtual 171, 3, []) := by decide +kernel
theorem i1_1282 : lk (mi_ins m1) 1282 = some (.if_icmp .eq 501, 3, []) := by decide +kernel
theorem i1_1285 : lk (mi_ins m1) 1285 = some (.iconst 0, 1, []) := by decide +kernel
theorem i1_1286 : lk (mi_ins m1) 1286 = some (.ireturn, 1, []) := by decide +kernel
theorem i1_1287 : lk (mi_ins m1) 1287 = some (.aload_n 1, 1, []) := by decide +kernel
theorem i1_1288 : lk (mi_ins m1) 1288 = some (.aload_n 0, 1, []) := by decide +kernel
theorem i1_1289 : lk (mi_ins m1) 1289 = some (.iload 4, 2, []) := by decide +kernel
theorem i1_1291 : lk (mi_ins m1) 1291 = some (.iconst 1, 1, []) := by decide +kernel
theorem i1_1292 : lk (mi_ins m1) 1292 = some (.iadd, 1, []) := by decide +kernel
theorem i1_1293 : lk (mi_ins m1) 1293 = some (.iaload, 1, []) := by decide +kernel
theorem i1_1294 : lk (mi_ins m1) 1294 = some (.aload_n 0, 1, []) := by decide +kernel
theorem i1_1295 : lk (mi_ins m1) 1295 = some (.iload 4, 2, []) := by decide +kernel
theorem i1_1297 : lk (mi_ins m1) 1297 = some (.iconst 2, 1, []) := by decide +kernel
theorem i1_1298 : lk (mi_ins m1) 1298 = some (.iadd, 1, []) := by decide +kernel
theorem i1_1299 : lk (mi_ins m1) 1299 = some (.iaload, 1, []) := by decide +kernel
theorem i1_1300 : lk (mi_ins m1) 1300 = some (.aload_n 0, 1, []) := by decide +kernel
theorem i1_1301 : lk (mi_ins m1) 1301 = some (.iload 4, 2, []) := by decide +kernel
theorem i1_1303 : lk (mi_ins m1) 1303 = some (.iconst 3, 1, []) := by decide +kernel
theorem i1_1304 : lk (mi_ins m1) 1304 = some (.iadd, 1, []) := by decide +kernel
theorem i1_1305 : lk (mi_ins m1) 1305 = some (.iaload, 1, []) := by decide +kernel
theorem i1_1306 : lk (mi_ins m1) 1306 = some (.ifCond .eq 7, 3, []) := by decide +kernel
theorem i1_1309 : lk (mi_ins m1) 1309 = some (.iconst 1, 1, []) := by decide +kernel
theorem i1_1310 : lk (mi_ins m1) 1310 = some (.goto 4, 3, []) := by decide +kernel
theorem i1_1313 : lk (mi_ins m1) 1313 = some (.iconst 0, 1, []) := by decide +kernel
theorem i1_1314 : lk (mi_ins m1) 1314 = some (.invokevirtual 172, 3, [5, 6]) := by decide +kernel
theorem i1_1317 : lk (mi_ins m1) 1317 = some (.aload_n 2, 1, []) := by decide +kernel
theorem i1_1318 : lk (mi_ins m1) 1318 = some (.aload_n 0, 1, []) := by decide +kernel
theorem i1_1319 : lk (mi_ins m1) 1319 = some (.iload 4, 2, []) := by decide +kernel
theorem i1_1321 : lk (mi_ins m1) 1321 = some (.iconst 1, 1, []) := by decide +kernel
theorem i1_1322 : lk (mi_ins m1) 1322 = some (.iadd, 1, []) := by decide +kernel
theorem i1_1323 : lk (mi_ins m1) 1323 = some (.iaload, 1, []) := by decide +kernel
theorem i1_1324 : lk (mi_ins m1) 1324 = some (.aload_n 0, 1, []) := by decide +kernel
theorem i1_1325 : lk (mi_ins m1) 1325 = some (.iload 4, 2, []) := by decide +kernel
theorem i1_1327 : lk (mi_ins m1) 1327 = some (.iconst 2, 1, []) := by decide +kernel
theorem i1_1328 : lk (mi_ins m1) 1328 = some (.iadd, 1, []) := by decide +kernel
theorem i1_1329 : lk (mi_ins m1) 1329 = some (.iaload, 1, []) := by decide +kernel
theorem i1_1330 : lk (mi_ins m1) 1330 = some (.aload_n 0, 1, []) := by decide +kernel
theorem i1_1331 : lk (mi_ins m1) 1331 = some (.iload 4, 2, []) := by decide +kernel
theorem i1_1333 : lk (mi_ins m1) 1333 = some (.iconst 3, 1, []) := by decide +kernel
theorem i1_1334 : lk (mi_ins m1) 1334 = some (.iadd, 1, []) := by decide +kernel
theorem i1_1335 : lk (mi_ins m1) 1335 = some (.iaload, 1, []) := by decide +kernel
theorem i1_1336 : lk (mi_ins m1) 1336 = some (.ifCond .eq 7, 3, []) := by decide +kernel
theorem i1_1339 : lk (mi_ins m1) 1339 = some (.iconst 1, 1, []) := by decide +kernel
theorem i1_1340 : lk (mi_ins m1) 1340 = some (.goto 4, 3, []) := by decide +kernel
theorem i1_1343 : lk (mi_ins m1) 1343 = some (.iconst 0, 1, []) := by decide +kernel
theorem i1_1344 : lk (mi_ins m1) 1344 = some (.invokevirtual 175, 3, [5, 6]) := by decide +kernel
theorem i1_1347 : lk (mi_ins m1) 1347 = some (.lcmp, 1, []) := by decide +kernel
theorem i1_1348 : lk (mi_ins m1) 1348 = some (.ifCond .eq 435, 3, []) := by decide +kernel
theorem i1_1351 : lk (mi_ins m1) 1351 = some (.iconst 0, 1, []) := by decide +kernel
theorem i1_1352 : lk (mi_ins m1) 1352 = some (.ireturn, 1, []) := by decide +kernel
theorem i1_1353 : lk (mi_ins m1) 1353 = some (.aload_n 1, 1, []) := by decide +kernel
theorem i1_1354 : lk (mi_ins m1) 1354 = some (.aload_n 0, 1, []) := by decide +kernel
theorem i1_1355 : lk (mi_ins m1) 1355 = some (.iload 4, 2, []) := by decide +kernel
theorem i1_1357 : lk (mi_ins m1) 1357 = some (.iconst 1, 1, []) := by decide +kernel
theorem i1_1358 : lk (mi_ins m1) 1358 = some (.iadd, 1, []) := by decide +kernel
theorem i1_1359 : lk (mi_ins m1) 1359 = some (.iaload, 1, []) := by decide +kernel
theorem i1_1360 : lk (mi_ins m1) 1360 = some (.aload_n 0, 1, []) := by decide +kernel
theorem i1_1361 : lk (mi_ins m1) 1361 = some (.iload 4, 2, []) := by decide +kernel
theorem i1_1363 : lk (mi_ins m1) 1363 = some (.iconst 2, 1, []) := by decide +kernel
theorem i1_1364 : lk (mi_ins m1) 1364 = some (.iadd, 1, []) := by decide +kernel
theorem i1_1365 : lk (mi_ins m1) 1365 = some (.iaload, 1, []) := by decide +kernel
theorem i1_1366 : lk (mi_ins m1) 1366 = some (.aload_n 0, 1, []) := by decide +kernel
theorem i1_1367 : lk (mi_ins m1) 1367 = some (.iload 4, 2, []) := by decide +kernel
theorem i1_1369 : lk (mi_ins m1) 1369 = some (.iconst 3, 1, []) := by decide +kernel
theorem i1_1370 : lk (mi_ins m1) 1370 = some (.iadd, 1, []) := by decide +kernel
theorem i1_1371 : lk (mi_ins m1) 1371 = some (.iaload, 1, []) := by decide +kernel
theorem i1_1372 : lk (mi_ins m1) 1372 = some (.invokevirtual 176, 3, []) := by decide +kernel
theorem i1_1375 : lk (mi_ins m1) 1375 = some (.aload_n 2, 1, []) := by decide +kernel
theorem i1_1376 : lk (mi_ins m1) 1376 = some (.aload_n 0, 1, []) := by decide +kernel
theorem i1_1377 : lk (mi_ins m1) 1377 = some (.iload 4, 2, []) := by decide +kernel
theorem i1_1379 : lk (mi_ins m1) 1379 = some (.iconst 1, 1, []) := by decide +kernel
theorem i1_1380 : lk (mi_ins m1) 1380 = some (.iadd, 1, []) := by decide +kernel
theorem i1_1381 : lk (mi_ins m1) 1381 = some (.iaload, 1, []) := by decide +kernel
theorem i1_1382 : lk (mi_ins m1) 1382 = some (.aload_n 0, 1, []) := by decide +kernel
theorem i1_1383 : lk (mi_ins m1) 1383 = some (.iload 4, 2, []) := by decide +kernel
theorem i1_1385 : lk (mi_ins m1) 1385 = some (.iconst 2, 1, []) := by decide +kernel
theorem i1_1386 : lk (mi_ins m1) 1386 = some (.iadd, 1, []) := by decide +kernel
theorem i1_1387 : lk (mi_ins m1) 1387 = some (.iaload, 1, []) := by decide +kernel
theorem i1_1388 : lk (mi_ins m1) 1388 = some (.aload_n 0, 1, []) := by decide +kernel
theorem i1_1389 : lk (mi_ins m1) 1389 = some (.iload 4, 2, []) := by decide +kernel
theorem i1_1391 : lk (mi_ins m1) 1391 = some (.iconst 3, 1, []) := by decide +kernel
theorem i1_1392 : lk (mi_ins m1) 1392 = some (.iadd, 1, []) := by decide +kernel
theorem i1_1393 : lk (mi_ins m1) 1393 = some (.iaload, 1, []) := by decide +kernel
theorem i1_1394 : lk (mi_ins m1) 1394 = some (.invokevirtual 179, 3, []) := by decide +kernel
theorem i1_1397 : lk (mi_ins m1) 1397 = some (.if_icmp .eq 386, 3, []) := by decide +kernel
theorem i1_1400 : lk (mi_ins m1) 1400 = some (.iconst 0, 1, []) := by decide +kernel
theorem i1_1401 : lk (mi_ins m1) 1401 = some (.ireturn, 1, []) := by decide +kernel
theorem i1_1402 : lk (mi_ins m1) 1402 = some (.aload_n 1, 1, []) := by decide +kernel
theorem i1_1403 : lk (mi_ins m1) 1403 = some (.aload_n 0, 1, []) := by decide +kernel
theorem i1_1404 : lk (mi_ins m1) 1404 = some (.iload 4, 2, []) := by decide +kernel
theorem i1_1406 : lk (mi_ins m1) 1406 = some (.iconst 1, 1, []) := by decide +kernel
theorem i1_1407 : lk (mi_ins m1) 1407 = some (.iadd, 1, []) := by decide +kernel
theorem i1_1408 : lk (mi_ins m1) 1408 = some (.iaload, 1, []) := by decide +kernel
theorem i1_1409 : lk (mi_ins m1) 1409 = some (.aload_n 0, 1, []) := by decide +kernel
theorem i1_1410 : lk (mi_ins m1) 1410 = some (.iload 4, 2, []) := by decide +kernel
theorem i1_1412 : lk (mi_ins m1) 1412 = some (.iconst 2, 1, []) := by decide +kernel
theorem i1_1413 : lk (mi_ins m1) 1413 = some (.iadd, 1, []) := by decide +kernel
theorem i1_1414 : lk (mi_ins m1) 1414 = some (.iaload, 1, []) := by decide +kernel
theorem i1_1415 : lk (mi_ins m1) 1415 = some (.invokevirtual 180, 3, []) := by decide +kernel
theorem i1_1418 : lk (mi_ins m1) 1418 = some (.aload_n 2, 1, []) := by decide +kernel
theorem i1_1419 : lk (mi_ins m1) 1419 = some (.aload_n 0, 1, []) := by decide +kernel
theorem i1_1420 : lk (mi_ins m1) 1420 = some (.iload 4, 2, []) := by decide +kernel
theorem i1_1422 : lk (mi_ins m1) 1422 = some (.iconst 1, 1, []) := by decide +kernel
theorem i1_1423 : lk (mi_ins m1) 1423 = some (.iadd, 1, []) := by decide +kernel
theorem i1_1424 : lk (mi_ins m1) 1424 = some (.iaload, 1, []) := by decide +kernel
theorem i1_1425 : lk (mi_ins m1) 1425 = some (.aload_n 0, 1, []) := by decide +kernel
theorem i1_1426 : lk (mi_ins m1) 1426 = some (.iload 4, 2, []) := by decide +kernel
theorem i1_1428 : lk (mi_ins m1) 1428 = some (.iconst 2, 1, []) := by decide +kernel
theorem i1_1429 : lk (mi_ins m1) 1429 = some (.iadd, 1, []) := by decide +kernel
theorem i1_1430 : lk (mi_ins m1) 1430 = some (.iaload, 1, []) := by decide +kernel
theorem i1_1431 : lk (mi_ins m1) 1431 = some (.invokevirtual 183, 3, []) := by decide +kernel
theorem i1_1434 : lk (mi_ins m1) 1434 = some (.if_icmp .eq 349, 3, []) := by decide +kernel
theorem i1_1437 : lk (mi_ins m1) 1437 = some (.iconst 0, 1, []) := by decide +kernel
theorem i1_1438 : lk (mi_ins m1) 1438 = some (.ireturn, 1, []) := by decide +kernel
theorem i1_1439 : lk (mi_ins m1) 1439 = some (.aload_n 1, 1, []) := by decide +kernel
theorem i1_1440 : lk (mi_ins m1) 1440 = some (.aload_n 0, 1, []) := by decide +kernel
theorem i1_1441 : lk (mi_ins m1) 1441 = some (.iload 4, 2, []) := by decide +kernel
theorem i1_1443 : lk (mi_ins m1) 1443 = some (.iconst 1, 1, []) := by decide +kernel
theorem i1_1444 : lk (mi_ins m1) 1444 = some (.iadd, 1, []) := by decide +kernel
theorem i1_1445 : lk (mi_ins m1) 1445 = some (.iaload, 1, []) := by decide +kernel
theorem i1_1446 : lk (mi_ins m1) 1446 = some (.aload_n 0, 1, []) := by decide +kernel
theorem i1_1447 : lk (mi_ins m1) 1447 = some (.iload 4, 2, []) := by decide +kernel
theorem i1_1449 : lk (mi_ins m1) 1449 = some (.iconst 2, 1, []) := by decide +kernel
theorem i1_1450 : lk (mi_ins m1) 1450 = some (.iadd, 1, []) := by decide +kernel
theorem i1_1451 : lk (mi_ins m1) 1451 = some (.iaload, 1, []) := by decide +kernel
theorem i1_1452 : lk (mi_ins m1) 1452 = some (.invokevirtual 184, 3, []) := by decide +kernel
theorem i1_1455 : lk (mi_ins m1) 1455 = some (.aload_n 2, 1, []) := by decide +kernel
theorem i1_1456 : lk (mi_ins m1) 1456 = some (.aload_n 0, 1, []) := by decide +kernel
theorem i1_1457 : lk (mi_ins m1) 1457 = some (.iload 4, 2, []) := by decide +kernel
theorem i1_1459 : lk (mi_ins m1) 1459 = some (.iconst 1, 1, []) := by decide +kernel
theorem i1_1460 : lk (mi_ins m1) 1460 = some (.iadd, 1, []) := by decide +kernel
theorem i1_1461 : lk (mi_ins m1) 1461 = some (.iaload, 1, []) := by decide +kernel
theorem i1_1462 : lk (mi_ins m1) 1462 = some (.aload_n 0, 1, []) := by decide +kernel
theorem i1_1463 : lk (mi_ins m1) 1463 = some (.iload 4, 2, []) := by decide +kernel
theorem i1_1465 : lk (mi_ins m1) 1465 = some (.iconst 2, 1, []) := by decide +kernel
theorem i1_1466 : lk (mi_ins m1) 1466 = some (.iadd, 1, []) := by decide +kernel
theorem i1_1467 : lk (mi_ins m1) 1467 = some (.iaload, 1, []) := by decide +kernel
theorem i1_1468 : lk (mi_ins m1) 1468 = some (.invokevirtual 187, 3, []) := by decide +kernel
theorem i1_1471 : lk (mi_ins m1) 1471 = some (.if_icmp .eq 312, 3, []) := by decide +kernel
theorem i1_1474 : lk (mi_ins m1) 1474 = some (.iconst 0, 1, []) := by decide +kernel
theorem i1_1475 : lk (mi_ins m1) 1475 = some (.ireturn, 1, []) := by decide +kernel
theorem i1_1476 : lk (mi_ins m1) 1476 = some (.aload_n 1, 1, []) := by decide +kernel
theorem i1_1477 : lk (mi_ins m1) 1477 = some (.aload_n 0, 1, []) := by decide +kernel
theorem i1_1478 : lk (mi_ins m1) 1478 = some (.iload 4, 2, []) := by decide +kernel
theorem i1_1480 : lk (mi_ins m1) 1480 = some (.iconst 1, 1, []) := by decide +kernel
theorem i1_1481 : lk (mi_ins m1) 1481 = some (.iadd, 1, []) := by decide +kernel
theorem i1_1482 : lk (mi_ins m1) 1482 = some (.iaload, 1, []) := by decide +kernel
theorem i1_1483 : lk (mi_ins m1) 1483 = some (.aload_n 0, 1, []) := by decide +kernel
theorem i1_1484 : lk (mi_ins m1) 1484 = some (.iload 4, 2, []) := by decide +kernel
theorem i1_1486 : lk (mi_ins m1) 1486 = some (.iconst 2, 1, []) := by decide +kernel
theorem i1_1487 : lk (mi_ins m1) 1487 = some (.iadd, 1, []) := by decide +kernel
theorem i1_1488 : lk (mi_ins m1) 1488 = some (.iaload, 1, []) := by decide +kernel
theorem i1_1489 : lk (mi_ins m1) 1489 = some (.invokevirtual 188, 3, []) := by decide +kernel
theorem i1_1492 : lk (mi_ins m1) 1492 = some (.aload_n 2, 1, []) := by decide +kernel
theorem i1_1493 : lk (mi_ins m1) 1493 = some (.aload_n 0, 1, []) := by decide +kernel
theorem i1_1494 : lk (mi_ins m1) 1494 = some (.iload 4, 2, []) := by decide +kernel
theorem i1_1496 : lk (mi_ins m1) 1496 = some (.iconst 1, 1, []) := by decide +kernel
theorem i1_1497 : lk (mi_ins m1) 1497 = some (.iadd, 1, []) := by decide +kernel
theorem i1_1498 : lk (mi_ins m1) 1498 = some (.iaload, 1, []) := by decide +kernel
theorem i1_1499 : lk (mi_ins m1) 1499 = some (.aload_n 0, 1, []) := by decide +kernel
theorem i1_1500 : lk (mi_ins m1) 1500 = some (.iload 4, 2, []) := by decide +kernel
theorem i1_1502 : lk (mi_ins m1) 1502 = some (.iconst 2, 1, []) := by decide +kernel
theorem i1_1503 : lk (mi_ins m1) 1503 = some (.iadd, 1, []) := by decide +kernel
theorem i1_1504 : lk (mi_ins m1) 1504 = some (.iaload, 1, []) := by decide +kernel
theorem i1_1505 : lk (mi_ins m1) 1505 = some (.invokevirtual 191, 3, []) := by decide +kernel
theorem i1_1508 : lk (mi_ins m1) 1508 = some (.if_icmp .eq 275, 3, []) := by decide +kernel
theorem i1_1511 : lk (mi_ins m1) 1511 = some (.iconst 0, 1, []) := by decide +kernel
theorem i1_1512 : lk (mi_ins m1) 1512 = some (.ireturn, 1, []) := by decide +kernel
theorem i1_1513 : lk (mi_ins m1) 1513 = some (.aload_n 1, 1, []) := by decide +kernel
theorem i1_1514 : lk (mi_ins m1) 1514 = some (.aload_n 0, 1, []) := by decide +kernel
theorem i1_1515 : lk (mi_ins m1) 1515 = some (.iload 4, 2, []) := by decide +kernel
theorem i1_1517 : lk (mi_ins m1) 1517 = some (.iconst 1, 1, []) := by decide +kernel
theorem i1_1518 : lk (mi_ins m1) 1518 = some (.iadd, 1, []) := by decide +kernel
theorem i1_1519 : lk (mi_ins m1) 1519 = some (.iaload, 1, []) := by decide +kernel
theorem i1_1520 : lk (mi_ins m1) 1520 = some (.aload_n 0, 1, []) := by decide +kernel
theorem i1_1521 : lk (mi_ins m1) 1521 = some (.iload 4, 2, []) := by decide +kernel
theorem i1_1523 : lk (mi_ins m1) 1523 = some (.iconst 2, 1, []) := by decide +kernel
theorem i1_1524 : lk (mi_ins m1) 1524 = some (.iadd, 1, []) := by decide +kernel
theorem i1_1525 : lk (mi_ins m1) 1525 = some (.iaload, 1, []) := by decide +kernel
theorem i1_1526 : lk (mi_ins m1) 1526 = some (.invokevirtual 192, 3, []) := by decide +kernel
theorem i1_1529 : lk (mi_ins m1) 1529 = some (.aload_n 2, 1, []) := by decide +kernel
theorem i1_1530 : lk (mi_ins m1) 1530 = some (.aload_n 0, 1, []) := by decide +kernel
theorem i1_1531 : lk (mi_ins m1) 1531 = some (.iload 4, 2, []) := by decide +kernel
theorem i1_1533 : lk (mi_ins m1) 1533 = some (.iconst 1, 1, []) := by decide +kernel
theorem i1_1534 : lk (mi_ins m1) 1534 = some (.iadd, 1, []) := by decide +kernel
theorem i1_1535 : lk (mi_ins m1) 1535 = some (.iaload, 1, []) := by decide +kernel
theorem i1_1536 : lk (mi_ins m1) 1536 = some (.aload_n 0, 1, []) := by decide +kernel
theorem i1_1537 : lk (mi_ins m1) 1537 = some (.iload 4, 2, []) := by decide +kernel
theorem i1_1539 : lk (mi_ins m1) 1539 = some (.iconst 2, 1, []) := by decide +kernel
theorem i1_1540 : lk (mi_ins m1) 1540 = some (.iadd, 1, []) := by decide +kernel
theorem i1_1541 : lk (mi_ins m1) 1541 = some (.iaload, 1, []) := by decide +kernel
theorem i1_1542 : lk (mi_ins m1) 1542 = some (.invokevirtual 196, 3, []) := by decide +kernel
theorem i1_1545 : lk (mi_ins m1) 1545 = some (.if_icmp .eq 238, 3, []) := by decide +kernel
theorem i1_1548 : lk (mi_ins m1) 1548 = some (.iconst 0, 1, []) := by decide +kernel
theorem i1_1549 : lk (mi_ins m1) 1549 = some (.ireturn, 1, []) := by decide +kernel
theorem i1_1550 : lk (mi_ins m1) 1550 = some (.aload_n 1, 1, []) := by decide +kernel
theorem i1_1551 : lk (mi_ins m1) 1551 = some (.aload_n 0, 1, []) := by decide +kernel
theorem i1_1552 : lk (mi_ins m1) 1552 = some (.iload 4, 2, []) := by decide +kernel
theorem i1_1554 : lk (mi_ins m1) 1554 = some (.iconst 1, 1, []) := by decide +kernel
theorem i1_1555 : lk (mi_ins m1) 1555 = some (.iadd, 1, []) := by decide +kernel
theorem i1_1556 : lk (mi_ins m1) 1556 = some (.iaload, 1, []) := by decide +kernel
theorem i1_1557 : lk (mi_ins m1) 1557 = some (.invokevirtual 197, 3, []) := by decide +kernel
theorem i1_1560 : lk (mi_ins m1) 1560 = some (.aload_n 2, 1, []) := by decide +kernel
theorem i1_1561 : lk (mi_ins m1) 1561 = some (.aload_n 0, 1, []) := by decide +kernel
theorem i1_1562 : lk (mi_ins m1) 1562 = some (.iload 4, 2, []) := by decide +kernel
theorem i1_1564 : lk (mi_ins m1) 1564 = some (.iconst 1, 1, []) := by decide +kernel
theorem i1_1565 : lk (mi_ins m1) 1565 = some (.iadd, 1, []) := by decide +kernel
theorem i1_1566 : lk (mi_ins m1) 1566 = some (.iaload, 1, []) := by decide +kernel
theorem i1_1567 : lk (mi_ins m1) 1567 = some (.invokevirtual 201, 3, []) := by decide +kernel
theorem i1_1570 : lk (mi_ins m1) 1570 = some (.if_icmp .eq 213, 3, []) := by decide +kernel
theorem i1_1573 : lk (mi_ins m1) 1573 = some (.iconst 0, 1, []) := by decide +kernel
theorem i1_1574 : lk (mi_ins m1) 1574 = some (.ireturn, 1, []) := by decide +kernel
theorem i1_1575 : lk (mi_ins m1) 1575 = some (.aload_n 1, 1, []) := by decide +kernel
theorem i1_1576 : lk (mi_ins m1) 1576 = some (.aload_n 0, 1, []) := by decide +kernel
theorem i1_1577 : lk (mi_ins m1) 1577 = some (.iload 4, 2, []) := by decide +kernel
theorem i1_1579 : lk (mi_ins m1) 1579 = some (.iconst 1, 1, []) := by decide +kernel
theorem i1_1580 : lk (mi_ins m1) 1580 = some (.iadd, 1, []) := by decide +kernel
theorem i1_1581 : lk (mi_ins m1) 1581 = some (.iaload, 1, []) := by decide +kernel
theorem i1_1582 : lk (mi_ins m1) 1582 = some (.invokevirtual 202, 3, []) := by decide +kernel
theorem i1_1585 : lk (mi_ins m1) 1585 = some (.aload_n 2, 1, []) := by decide +kernel
theorem i1_1586 : lk (mi_ins m1) 1586 = some (.aload_n 0, 1, []) := by decide +kernel
theorem i1_1587 : lk (mi_ins m1) 1587 = some (.iload 4, 2, []) := by decide +kernel
theorem i1_1589 : lk (mi_ins m1) 1589 = some (.iconst 1, 1, []) := by decide +kernel
theorem i1_1590 : lk (mi_ins m1) 1590 = some (.iadd, 1, []) := by decide +kernel
theorem i1_1591 : lk (mi_ins m1) 1591 = some (.iaload, 1, []) := by decide +kernel
theorem i1_1592 : lk (mi_ins m1) 1592 = some (.invokevirtual 205, 3, []) := by decide +kernel
theorem i1_1595 : lk (mi_ins m1) 1595 = some (.if_icmp .eq 188, 3, []) := by decide +kernel
theorem i1_1598 : lk (mi_ins m1) 1598 = some (.iconst 0, 1, []) := by decide +kernel
theorem i1_1599 : lk (mi_ins m1) 1599 = some (.ireturn, 1, []) := by decide +kernel
theorem i1_1600 : lk (mi_ins m1) 1600 = some (.aload_n 1, 1, []) := by decide +kernel
theorem i1_1601 : lk (mi_ins m1) 1601 = some (.invokevirtual 206, 3, []) := by decide +kernel
theorem i1_1604 : lk (mi_ins m1) 1604 = some (.aload_n 2, 1, []) := by decide +kernel
theorem i1_1605 : lk (mi_ins m1) 1605 = some (.invokevirtual 209, 3, []) := by decide +kernel
theorem i1_1608 : lk (mi_ins m1) 1608 = some (.if_icmp .eq 175, 3, []) := by decide +kernel
theorem i1_1611 : lk (mi_ins m1) 1611 = some (.iconst 0, 1, []) := by decide +kernel
theorem i1_1612 : lk (mi_ins m1) 1612 = some (.ireturn, 1, []) := by decide +kernel
theorem i1_1613 : lk (mi_ins m1) 1613 = some (.aload_n 1, 1, []) := by decide +kernel
theorem i1_1614 : lk (mi_ins m1) 1614 = some (.aload_n 0, 1, []) := by decide +kernel
theorem i1_1615 : lk (mi_ins m1) 1615 = some (.iload 4, 2, []) := by decide +kernel
theorem i1_1617 : lk (mi_ins m1) 1617 = some (.iconst 1, 1, []) := by decide +kernel
theorem i1_1618 : lk (mi_ins m1) 1618 = some (.iadd, 1, []) := by decide +kernel
theorem i1_1619 : lk (mi_ins m1) 1619 = some (.iaload, 1, []) := by decide +kernel
theorem i1_1620 : lk (mi_ins m1) 1620 = some (.invokevirtual 210, 3, []) := by decide +kernel
theorem i1_1623 : lk (mi_ins m1) 1623 = some (.aload_n 2, 1, []) := by decide +kernel
theorem i1_1624 : lk (mi_ins m1) 1624 = some (.aload_n 0, 1, []) := by decide +kernel
theorem i1_1625 : lk (mi_ins m1) 1625 = some (.iload 4, 2, []) := by decide +kernel
theorem i1_1627 : lk (mi_ins m1) 1627 = some (.iconst 1, 1, []) := by decide +kernel
theorem i1_1628 : lk (mi_ins m1) 1628 = some (.iadd, 1, []) := by decide +kernel
theorem i1_1629 : lk (mi_ins m1) 1629 = some (.iaload, 1, []) := by decide +kernel
theorem i1_1630 : lk (mi_ins m1) 1630 = some (.invokevirtual 213, 3, []) := by decide +kernel
theorem i1_1633 : lk (mi_ins m1) 1633 = some (.if_icmp .eq 150, 3, []) := by decide +kernel
theorem i1_1636 : lk (mi_ins m1) 1636 = some (.iconst 0, 1, []) := by decide +kernel
theorem i1_1637 : lk (mi_ins m1) 1637 = some (.ireturn, 1, []) := by decide +kernel
theorem i1_1638 : lk (mi_ins m1) 1638 = some (.aload_n 1, 1, []) := by decide +kernel
theorem i1_1639 : lk (mi_ins m1) 1639 = some (.invokevirtual 214, 3, []) := by decide +kernel
theorem i1_1642 : lk (mi_ins m1) 1642 = some (.aload_n 2, 1, []) := by decide +kernel
theorem i1_1643 : lk (mi_ins m1) 1643 = some (.invokevirtual 218, 3, []) := by decide +kernel
theorem i1_1646 : lk (mi_ins m1) 1646 = some (.if_icmp .eq 137, 3, []) := by decide +kernel
theorem i1_1649 : lk (mi_ins m1) 1649 = some (.iconst 0, 1, []) := by decide +kernel
theorem i1_1650 : lk (mi_ins m1) 1650 = some (.ireturn, 1, []) := by decide +kernel
theorem i1_1651 : lk (mi_ins m1) 1651 = some (.aload_n 1, 1, []) := by decide +kernel
theorem i1_1652 : lk (mi_ins m1) 1652 = some (.invokevirtual 219, 3, []) := by decide +kernel
theorem i1_1655 : lk (mi_ins m1) 1655 = some (.aload_n 2, 1, []) := by decide +kernel
theorem i1_1656 : lk (mi_ins m1) 1656 = some (.invokevirtual 222, 3, []) := by decide +kernel
theorem i1_1659 : lk (mi_ins m1) 1659 = some (.if_icmp .eq 124, 3, []) := by decide +kernel
theorem i1_1662 : lk (mi_ins m1) 1662 = some (.iconst 0, 1, []) := by decide +kernel
theorem i1_1663 : lk (mi_ins m1) 1663 = some (.ireturn, 1, []) := by decide +kernel
theorem i1_1664 : lk (mi_ins m1) 1664 = some (.aload_n 1, 1, []) := by decide +kernel
theorem i1_1665 : lk (mi_ins m1) 1665 = some (.aload_n 0, 1, []) := by decide +kernel
theorem i1_1666 : lk (mi_ins m1) 1666 = some (.iload 4, 2, []) := by decide +kernel
theorem i1_1668 : lk (mi_ins m1) 1668 = some (.iconst 1, 1, []) := by decide +kernel
theorem i1_1669 : lk (mi_ins m1) 1669 = some (.iadd, 1, []) := by decide +kernel
theorem i1_1670 : lk (mi_ins m1) 1670 = some (.iaload, 1, []) := by decide +kernel
theorem i1_1671 : lk (mi_ins m1) 1671 = some (.invokevirtual 223, 3, []) := by decide +kernel
theorem i1_1674 : lk (mi_ins m1) 1674 = some (.aload_n 2, 1, []) := by decide +kernel
theorem i1_1675 : lk (mi_ins m1) 1675 = some (.aload_n 0, 1, []) := by decide +kernel
theorem i1_1676 : lk (mi_ins m1) 1676 = some (.iload 4, 2, []) := by decide +kernel
theorem i1_1678 : lk (mi_ins m1) 1678 = some (.iconst 1, 1, []) := by decide +kernel
theorem i1_1679 : lk (mi_ins m1) 1679 = some (.iadd, 1, []) := by decide +kernel
theorem i1_1680 : lk (mi_ins m1) 1680 = some (.iaload, 1, []) := by decide +kernel
theorem i1_1681 : lk (mi_ins m1) 1681 = some (.invokevirtual 226, 3, []) := by decide +kernel
theorem i1_1684 : lk (mi_ins m1) 1684 = some (.if_icmp .eq 99, 3, []) := by decide +kernel
theorem i1_1687 : lk (mi_ins m1) 1687 = some (.iconst 0, 1, []) := by decide +kernel
theorem i1_1688 : lk (mi_ins m1) 1688 = some (.ireturn, 1, []) := by decide +kernel
theorem i1_1689 : lk (mi_ins m1) 1689 = some (.aload_n 1, 1, []) := by decide +kernel
theorem i1_1690 : lk (mi_ins m1) 1690 = some (.aload_n 0, 1, []) := by decide +kernel
theorem i1_1691 : lk (mi_ins m1) 1691 = some (.iload 4, 2, []) := by decide +kernel
theorem i1_1693 : lk (mi_ins m1) 1693 = some (.iconst 1, 1, []) := by decide +kernel
theorem i1_1694 : lk (mi_ins m1) 1694 = some (.iadd, 1, []) := by decide +kernel
theorem i1_1695 : lk (mi_ins m1) 1695 = some (.iaload, 1, []) := by decide +kernel
theorem i1_1696 : lk (mi_ins m1) 1696 = some (.aload_n 3, 1, []) := by decide +kernel
theorem i1_1697 : lk (mi_ins m1) 1697 = some (.invokestatic 227, 3, []) := by decide +kernel
theorem i1_1700 : lk (mi_ins m1) 1700 = some (.istore 5, 2, []) := by decide +kernel
theorem i1_1702 : lk (mi_ins m1) 1702 = some (.aload_n 2, 1, []) := by decide +kernel
theorem i1_1703 : lk (mi_ins m1) 1703 = some (.aload_n 0, 1, []) := by decide +kernel
theorem i1_1704 : lk (mi_ins m1) 1704 = some (.iload 4, 2, []) := by decide +kernel
theorem i1_1706 : lk (mi_ins m1) 1706 = some (.iconst 1, 1, []) := by decide +kernel
theorem i1_1707 : lk (mi_ins m1) 1707 = some (.iadd, 1, []) := by decide +kernel
theorem i1_1708 : lk (mi_ins m1) 1708 = some (.iaload, 1, []) := by decide +kernel
theorem i1_1709 : lk (mi_ins m1) 1709 = some (.invokevirtual 232, 3, []) := by decide +kernel
theorem i1_1712 : lk (mi_ins m1) 1712 = some (.istore 6, 2, []) := by decide +kernel
theorem i1_1714 : lk (mi_ins m1) 1714 = some (.aload_n 2, 1, []) := by decide +kernel
theorem i1_1715 : lk (mi_ins m1) 1715 = some (.invokevirtual 233, 3, []) := by decide +kernel
theorem i1_1718 : lk (mi_ins m1) 1718 = some (.iload 5, 2, []) := by decide +kernel
theorem i1_1720 : lk (mi_ins m1) 1720 = some (.if_icmp .eq 5, 3, []) := by decide +kernel
theorem i1_1723 : lk (mi_ins m1) 1723 = some (.iconst 0, 1, []) := by decide +kernel
theorem i1_1724 : lk (mi_ins m1) 1724 = some (.ireturn, 1, []) := by decide +kernel
theorem i1_1725 : lk (mi_ins m1) 1725 = some (.iload 5, 2, []) := by decide +kernel
theorem i1_1727 : lk (mi_ins m1) 1727 = some (.ifCond .ne 15, 3, []) := by decide +kernel
theorem i1_1730 : lk (mi_ins m1) 1730 = some (.aload_n 3, 1, []) := by decide +kernel
theorem i1_1731 : lk (mi_ins m1) 1731 = some (.iconst 0, 1, []) := by decide +kernel
theorem i1_1732 : lk (mi_ins m1) 1732 = some (.laload, 1, []) := by decide +kernel
theorem i1_1733 : lk (mi_ins m1) 1733 = some (.iload 6, 2, []) := by decide +kernel
theorem i1_1735 : lk (mi_ins m1) 1735 = some (.i2l, 1, []) := by decide +kernel
theorem i1_1736 : lk (mi_ins m1) 1736 = some (.lcmp, 1, []) := by decide +kernel
theorem i1_1737 : lk (mi_ins m1) 1737 = some (.ifCond .eq 5, 3, []) := by decide +kernel
theorem i1_1740 : lk (mi_ins m1) 1740 = some (.iconst 0, 1, []) := by decide +kernel
theorem i1_1741 : lk (mi_ins m1) 1741 = some (.ireturn, 1, []) := by decide +kernel
theorem i1_1742 : lk (mi_ins m1) 1742 = some (.goto 41, 3, [5, 6]) := by decide +kernel
theorem i1_1745 : lk (mi_ins m1) 1745 = some (.aload_n 1, 1, []) := by decide +kernel
theorem i1_1746 : lk (mi_ins m1) 1746 = some (.aload_n 0, 1, []) := by decide +kernel
theorem i1_1747 : lk (mi_ins m1) 1747 = some (.iload 4, 2, []) := by decide +kernel
theorem i1_1749 : lk (mi_ins m1) 1749 = some (.iconst 1, 1, []) := by decide +kernel
theorem i1_1750 : lk (mi_ins m1) 1750 = some (.iadd, 1, []) := by decide +kernel
theorem i1_1751 : lk (mi_ins m1) 1751 = some (.iaload, 1, []) := by decide +kernel
theorem i1_1752 : lk (mi_ins m1) 1752 = some (.invokevirtual 236, 3, []) := by decide +kernel
theorem i1_1755 : lk (mi_ins m1) 1755 = some (.aload_n 2, 1, []) := by decide +kernel
theorem i1_1756 : lk (mi_ins m1) 1756 = some (.aload_n 0, 1, []) := by decide +kernel
theorem i1_1757 : lk (mi_ins m1) 1757 = some (.iload 4, 2, []) := by decide +kernel
theorem i1_1759 : lk (mi_ins m1) 1759 = some (.iconst 1, 1, []) := by decide +kernel
theorem i1_1760 : lk (mi_ins m1) 1760 = some (.iadd, 1, []) := by decide +kernel
theorem i1_1761 : lk (mi_ins m1) 1761 = some (.iaload, 1, []) := by decide +kernel
theorem i1_1762 : lk (mi_ins m1) 1762 = some (.invokevirtual 239, 3, []) := by decide +kernel
theorem i1_1765 : lk (mi_ins m1) 1765 = some (.if_icmp .eq 18, 3, []) := by decide +kernel
theorem i1_1768 : lk (mi_ins m1) 1768 = some (.iconst 0, 1, []) := by decide +kernel
theorem i1_1769 : lk (mi_ins m1) 1769 = some (.ireturn, 1, []) := by decide +kernel
theorem i1_1770 : lk (mi_ins m1) 1770 = some (.aload_n 1, 1, []) := by decide +kernel
theorem i1_1771 : lk (mi_ins m1) 1771 = some (.invokevirtual 240, 3, []) := by decide +kernel
theorem i1_1774 : lk (mi_ins m1) 1774 = some (.aload_n 2, 1, []) := by decide +kernel
theorem i1_1775 : lk (mi_ins m1) 1775 = some (.invokevirtual 243, 3, []) := by decide +kernel
theorem i1_1778 : lk (mi_ins m1) 1778 = some (.if_icmp .eq 5, 3, []) := by decide +kernel
theorem i1_1781 : lk (mi_ins m1) 1781 = some (.iconst 0, 1, []) := by decide +kernel
theorem i1_1782 : lk (mi_ins m1) 1782 = some (.ireturn, 1, []) := by decide +kernel
theorem i1_1783 : lk (mi_ins m1) 1783 = some (.iinc 4 6, 3, [5, 6]) := by decide +kernel
theorem i1_1786 : lk (mi_ins m1) 1786 = some (.goto (-1763), 3, []) := by decide +kernel
theorem i1_1789 : lk (mi_ins m1) 1789 = some (.iconst 1, 1, [0, 1, 2, 3, 4, 5, 6]) := by decide +kernel
theorem i1_1790 : lk (mi_ins m1) 1790 = some (.ireturn, 1, []) := by decide +kernel
theorem i2_0 : lk (mi_ins m2) 0 = some (.aload_n 0, 1, []) := by decide +kernel
theorem i2_1 : lk (mi_ins m2) 1 = some (.invokespecial 1, 3, []) := by decide +kernel
theorem i2_4 : lk (mi_ins m2) 4 = some (.aload_n 0, 1, []) := by decide +kernel
theorem i2_5 : lk (mi_ins m2) 5 = some (.sipush 1000, 3, []) := by decide +kernel
theorem i2_8 : lk (mi_ins m2) 8 = some (.newarray .byte, 2, []) := by decide +kernel
theorem i2_10 : lk (mi_ins m2) 10 = some (.putfield 9, 3, []) := by decide +kernel
theorem i2_13 : lk (mi_ins m2) 13 = some (.aload_n 0, 1, []) := by decide +kernel
theorem i2_14 : lk (mi_ins m2) 14 = some (.new 13, 3, []) := by decide +kernel
theorem i2_17 : lk (mi_ins m2) 17 = some (.dup, 1, []) := by decide +kernel
theorem i2_18 : lk (mi_ins m2) 18 = some (.invokespecial 15, 3, []) := by decide +kernel
theorem i2_21 : lk (mi_ins m2) 21 = some (.putfield 16, 3, []) := by decide +kernel
theorem i2_24 : lk (mi_ins m2) 24 = some (.aload_n 0, 1, []) := by decide +kernel
theorem i2_25 : lk (mi_ins m2) 25 = some (.new 20, 3, []) := by decide +kernel
theorem i2_28 : lk (mi_ins m2) 28 = some (.dup, 1, []) := by decide +kernel
theorem i2_29 : lk (mi_ins m2) 29 = some (.invokespecial 22, 3, []) := by decide +kernel
theorem i2_32 : lk (mi_ins m2) 32 = some (.putfield 23, 3, []) := by decide +kernel
theorem i2_35 : lk (mi_ins m2) 35 = some (.aload_n 0, 1, []) := by decide +kernel
theorem i2_36 : lk (mi_ins m2) 36 = some (.new 27, 3, []) := by decide +kernel
theorem i2_39 : lk (mi_ins m2) 39 = some (.dup, 1, []) := by decide +kernel
theorem i2_40 : lk (mi_ins m2) 40 = some (.invokespecial 29, 3, []) := by decide +kernel
theorem i2_43 : lk (mi_ins m2) 43 = some (.putfield 30, 3, []) := by decide +kernel
theorem i2_46 : lk (mi_ins m2) 46 = some (.aload_n 0, 1, []) := by decide +kernel
theorem i2_47 : lk (mi_ins m2) 47 = some (.new 27, 3, []) := by decide +kernel
theorem i2_50 : lk (mi_ins m2) 50 = some (.dup, 1, []) := by decide +kernel
theorem i2_51 : lk (mi_ins m2) 51 = some (.invokespecial 29, 3, []) := by decide +kernel
theorem i2_54 : lk (mi_ins m2) 54 = some (.putfield 34, 3, []) := by decide +kernel
theorem i2_57 : lk (mi_ins m2) 57 = some (.aload_n 0, 1, []) := by decide +kernel
theorem i2_58 : lk (mi_ins m2) 58 = some (.new 37, 3, []) := by decide +kernel
theorem i2_61 : lk (mi_ins m2) 61 = some (.dup, 1, []) := by decide +kernel
theorem i2_62 : lk (mi_ins m2) 62 = some (.invokespecial 39, 3, []) := by decide +kernel
theorem i2_65 : lk (mi_ins m2) 65 = some (.putfield 40, 3, []) := by decide +kernel
theorem i2_68 : lk (mi_ins m2) 68 = some (.aload_n 0, 1, []) := by decide +kernel
theorem i2_69 : lk (mi_ins m2) 69 = some (.new 44, 3, []) := by decide +kernel
theorem i2_72 : lk (mi_ins m2) 72 = some (.dup, 1, []) := by decide +kernel
theorem i2_73 : lk (mi_ins m2) 73 = some (.invokespecial 46, 3, []) := by decide +kernel
theorem i2_76 : lk (mi_ins m2) 76 = some (.putfield 47, 3, []) := by decide +kernel
theorem i2_79 : lk (mi_ins m2) 79 = some (.aload_n 0, 1, []) := by decide +kernel
theorem i2_80 : lk (mi_ins m2) 80 = some (.new 51, 3, []) := by decide +kernel
theorem i2_83 : lk (mi_ins m2) 83 = some (.dup, 1, []) := by decide +kernel
theorem i2_84 : lk (mi_ins m2) 84 = some (.invokespecial 53, 3, []) := by decide +kernel
theorem i2_87 : lk (mi_ins m2) 87 = some (.putfield 54, 3, []) := by decide +kernel
theorem i2_90 : lk (mi_ins m2) 90 = some (.aload_n 0, 1, []) := by decide +kernel
theorem i2_91 : lk (mi_ins m2) 91 = some (.new 58, 3, []) := by decide +kernel
theorem i2_94 : lk (mi_ins m2) 94 = some (.dup, 1, []) := by decide +kernel
theorem i2_95 : lk (mi_ins m2) 95 = some (.invokespecial 60, 3, []) := by decide +kernel
theorem i2_98 : lk (mi_ins m2) 98 = some (.putfield 61, 3, []) := by decide +kernel
theorem i2_101 : lk (mi_ins m2) 101 = some (.aload_n 0, 1, []) := by decide +kernel
theorem i2_102 : lk (mi_ins m2) 102 = some (.new 65, 3, []) := by decide +kernel
theorem i2_105 : lk (mi_ins m2) 105 = some (.dup, 1, []) := by decide +kernel
theorem i2_106 : lk (mi_ins m2) 106 = some (.invokespecial 67, 3, []) := by decide +kernel
theorem i2_109 : lk (mi_ins m2) 109 = some (.putfield 68, 3, []) := by decide +kernel
theorem i2_112 : lk (mi_ins m2) 112 = some (.aload_n 0, 1, []) := by decide +kernel
theorem i2_113 : lk (mi_ins m2) 113 = some (.new 72, 3, []) := by decide +kernel
theorem i2_116 : lk (mi_ins m2) 116 = some (.dup, 1, []) := by decide +kernel
theorem i2_117 : lk (mi_ins m2) 117 = some (.invokespecial 74, 3, []) := by decide +kernel
theorem i2_120 : lk (mi_ins m2) 120 = some (.putfield 75, 3, []) := by decide +kernel
theorem i2_123 : lk (mi_ins m2) 123 = some (.return_, 1, []) := by decide +kernel
theorem i3_0 : lk (mi_ins m3) 0 = some (.aload_n 0, 1, []) := by decide +kernel
theorem i3_1 : lk (mi_ins m3) 1 = some (.invokespecial 5, 3, []) := by decide +kernel
theorem i3_4 : lk (mi_ins m3) 4 = some (.aload_n 0, 1, []) := by decide +kernel
theorem i3_5 : lk (mi_ins m3) 5 = some (.new 11, 3, []) := by decide +kernel
theorem i3_8 : lk (mi_ins m3) 8 = some (.dup, 1, []) := by decide +kernel
theorem i3_9 : lk (mi_ins m3) 9 = some (.invokespecial 13, 3, []) := by decide +kernel
theorem i3_12 : lk (mi_ins m3) 12 = some (.putfield 14, 3, []) := by decide +kernel
theorem i3_15 : lk (mi_ins m3) 15 = some (.aload_n 0, 1, []) := by decide +kernel
theorem i3_16 : lk (mi_ins m3) 16 = some (.new 1, 3, []) := by decide +kernel
theorem i3_19 : lk (mi_ins m3) 19 = some (.dup, 1, []) := by decide +kernel
theorem i3_20 : lk (mi_ins m3) 20 = some (.invokespecial 20, 3, []) := by decide +kernel
theorem i3_23 : lk (mi_ins m3) 23 = some (.putfield 21, 3, []) := by decide +kernel
theorem i3_26 : lk (mi_ins m3) 26 = some (.aload_n 0, 1, []) := by decide +kernel
theorem i3_27 : lk (mi_ins m3) 27 = some (.bipush 11, 2, []) := by decide +kernel
theorem i3_29 : lk (mi_ins m3) 29 = some (.newarray .long, 2, []) := by decide +kernel
theorem i3_31 : lk (mi_ins m3) 31 = some (.putfield 25, 3, []) := by decide +kernel
theorem i3_34 : lk (mi_ins m3) 34 = some (.aload_n 0, 1, []) := by decide +kernel
theorem i3_35 : lk (mi_ins m3) 35 = some (.bipush 11, 2, []) := by decide +kernel
theorem i3_37 : lk (mi_ins m3) 37 = some (.newarray .int, 2, []) := by decide +kernel
theorem i3_39 : lk (mi_ins m3) 39 = some (.putfield 29, 3, []) := by decide +kernel
theorem i3_42 : lk (mi_ins m3) 42 = some (.aload_n 0, 1, []) := by decide +kernel
theorem i3_43 : lk (mi_ins m3) 43 = some (.bipush 11, 2, []) := by decide +kernel
theorem i3_45 : lk (mi_ins m3) 45 = some (.newarray .int, 2, []) := by decide +kernel
theorem i3_47 : lk (mi_ins m3) 47 = some (.putfield 33, 3, []) := by decide +kernel
theorem i3_50 : lk (mi_ins m3) 50 = some (.return_, 1, []) := by decide +kernel
theorem i4_0 : lk (mi_ins m4) 0 = some (.aload_n 0, 1, []) := by decide +kernel
theorem i4_1 : lk (mi_ins m4) 1 = some (.invokespecial 1, 3, []) := by decide +kernel
theorem i4_4 : lk (mi_ins m4) 4 = some (.aload_n 0, 1, []) := by decide +kernel
theorem i4_5 : lk (mi_ins m4) 5 = some (.iconst 0, 1, []) := by decide +kernel
theorem i4_6 : lk (mi_ins m4) 6 = some (.newarray .byte, 2, []) := by decide +kernel
theorem i4_8 : lk (mi_ins m4) 8 = some (.putfield 7, 3, []) := by decide +kernel
theorem i4_11 : lk (mi_ins m4) 11 = some (.return_, 1, []) := by decide +kernel
theorem i5_0 : lk (mi_ins m5) 0 = some (.aload_n 0, 1, []) := by decide +kernel
theorem i5_1 : lk (mi_ins m5) 1 = some (.invokespecial 1, 3, []) := by decide +kernel
theorem i5_4 : lk (mi_ins m5) 4 = some (.aload_n 0, 1, []) := by decide +kernel
theorem i5_5 : lk (mi_ins m5) 5 = some (.iconst 5, 1, []) := by decide +kernel
theorem i5_6 : lk (mi_ins m5) 6 = some (.newarray .int, 2, []) := by decide +kernel
theorem i5_8 : lk (mi_ins m5) 8 = some (.putfield 9, 3, []) := by decide +kernel
theorem i5_11 : lk (mi_ins m5) 11 = some (.aload_n 0, 1, []) := by decide +kernel
theorem i5_12 : lk (mi_ins m5) 12 = some (.bipush 25, 2, []) := by decide +kernel
theorem i5_14 : lk (mi_ins m5) 14 = some (.newarray .int, 2, []) := by decide +kernel
theorem i5_16 : lk (mi_ins m5) 16 = some (.putfield 15, 3, []) := by decide +kernel
theorem i5_19 : lk (mi_ins m5) 19 = some (.aload_n 0, 1, []) := by decide +kernel
theorem i5_20 : lk (mi_ins m5) 20 = some (.iconst 5, 1, []) := by decide +kernel
theorem i5_21 : lk (mi_ins m5) 21 = some (.newarray .int, 2, []) := by decide +kernel
theorem i5_23 : lk (mi_ins m5) 23 = some (.putfield 18, 3, []) := by decide +kernel
theorem i5_26 : lk (mi_ins m5) 26 = some (.aload_n 0, 1, []) := by decide +kernel
theorem i5_27 : lk (mi_ins m5) 27 = some (.iconst 5, 1, []) := by decide +kernel
theorem i5_28 : lk (mi_ins m5) 28 = some (.newarray .int, 2, []) := by decide +kernel
theorem i5_30 : lk (mi_ins m5) 30 = some (.putfield 21, 3, []) := by decide +kernel
theorem i5_33 : lk (mi_ins m5) 33 = some (.aload_n 0, 1, []) := by decide +kernel
theorem i5_34 : lk (mi_ins m5) 34 = some (.iconst 3, 1, []) := by decide +kernel
theorem i5_35 : lk (mi_ins m5) 35 = some (.newarray .int, 2, []) := by decide +kernel
theorem i5_37 : lk (mi_ins m5) 37 = some (.putfield 24, 3, []) := by decide +kernel
theorem i5_40 : lk (mi_ins m5) 40 = some (.aload_n 0, 1, []) := by decide +kernel
theorem i5_41 : lk (mi_ins m5) 41 = some (.iconst 3, 1, []) := by decide +kernel
theorem i5_42 : lk (mi_ins m5) 42 = some (.newarray .int, 2, []) := by decide +kernel
theorem i5_44 : lk (mi_ins m5) 44 = some (.putfield 27, 3, []) := by decide +kernel
theorem i5_47 : lk (mi_ins m5) 47 = some (.aload_n 0, 1, []) := by decide +kernel
theorem i5_48 : lk (mi_ins m5) 48 = some (.iconst 3, 1, []) := by decide +kernel
theorem i5_49 : lk (mi_ins m5) 49 = some (.newarray .int, 2, []) := by decide +kernel
theorem i5_51 : lk (mi_ins m5) 51 = some (.putfield 30, 3, []) := by decide +kernel
theorem i5_54 : lk (mi_ins m5) 54 = some (.aload_n 0, 1, []) := by decide +kernel
theorem i5_55 : lk (mi_ins m5) 55 = some (.iconst 3, 1, []) := by decide +kernel
theorem i5_56 : lk (mi_ins m5) 56 = some (.newarray .int, 2, []) := by decide +kernel
theorem i5_58 : lk (mi_ins m5) 58 = some (.putfield 33, 3, []) := by decide +kernel
theorem i5_61 : lk (mi_ins m5) 61 = some (.aload_n 0, 1, []) := by decide +kernel
theorem i5_62 : lk (mi_ins m5) 62 = some (.iconst 4, 1, []) := by decide +kernel
theorem i5_63 : lk (mi_ins m5) 63 = some (.newarray .int, 2, []) := by decide +kernel
theorem i5_65 : lk (mi_ins m5) 65 = some (.putfield 36, 3, []) := by decide +kernel
theorem i5_68 : lk (mi_ins m5) 68 = some (.aload_n 0, 1, []) := by decide +kernel
theorem i5_69 : lk (mi_ins m5) 69 = some (.iconst 4, 1, []) := by decide +kernel
theorem i5_70 : lk (mi_ins m5) 70 = some (.newarray .int, 2, []) := by decide +kernel
theorem i5_72 : lk (mi_ins m5) 72 = some (.putfield 39, 3, []) := by decide +kernel
theorem i5_75 : lk (mi_ins m5) 75 = some (.aload_n 0, 1, []) := by decide +kernel
theorem i5_76 : lk (mi_ins m5) 76 = some (.iconst 4, 1, []) := by decide +kernel
theorem i5_77 : lk (mi_ins m5) 77 = some (.newarray .int, 2, []) := by decide +kernel
theorem i5_79 : lk (mi_ins m5) 79 = some (.putfield 42, 3, []) := by decide +kernel
theorem i5_82 : lk (mi_ins m5) 82 = some (.aload_n 0, 1, []) := by decide +kernel
theorem i5_83 : lk (mi_ins m5) 83 = some (.new 45, 3, []) := by decide +kernel
theorem i5_86 : lk (mi_ins m5) 86 = some (.dup, 1, []) := by decide +kernel
theorem i5_87 : lk (mi_ins m5) 87 = some (.invokespecial 47, 3, []) := by decide +kernel
theorem i5_90 : lk (mi_ins m5) 90 = some (.putfield 48, 3, []) := by decide +kernel
theorem i5_93 : lk (mi_ins m5) 93 = some (.return_, 1, []) := by decide +kernel
theorem i6_0 : lk (mi_ins m6) 0 = some (.aload_n 0, 1, []) := by decide +kernel
theorem i6_1 : lk (mi_ins m6) 1 = some (.invokespecial 1, 3, []) := by decide +kernel
theorem i6_4 : lk (mi_ins m6) 4 = some (.aload_n 0, 1, []) := by decide +kernel
theorem i6_5 : lk (mi_ins m6) 5 = some (.iconst 4, 1, []) := by decide +kernel
theorem i6_6 : lk (mi_ins m6) 6 = some (.newarray .int, 2, []) := by decide +kernel
theorem i6_8 : lk (mi_ins m6) 8 = some (.putfield 9, 3, []) := by decide +kernel
theorem i6_11 : lk (mi_ins m6) 11 = some (.aload_n 0, 1, []) := by decide +kernel
theorem i6_12 : lk (mi_ins m6) 12 = some (.iconst 4, 1, []) := by decide +kernel
theorem i6_13 : lk (mi_ins m6) 13 = some (.newarray .int, 2, []) := by decide +kernel
theorem i6_15 : lk (mi_ins m6) 15 = some (.putfield 13, 3, []) := by decide +kernel
theorem i6_18 : lk (mi_ins m6) 18 = some (.aload_n 0, 1, []) := by decide +kernel
theorem i6_19 : lk (mi_ins m6) 19 = some (.iconst 4, 1, []) := by decide +kernel
theorem i6_20 : lk (mi_ins m6) 20 = some (.newarray .int, 2, []) := by decide +kernel
theorem i6_22 : lk (mi_ins m6) 22 = some (.putfield 16, 3, []) := by decide +kernel
theorem i6_25 : lk (mi_ins m6) 25 = some (.aload_n 0, 1, []) := by decide +kernel
theorem i6_26 : lk (mi_ins m6) 26 = some (.iconst 5, 1, []) := by decide +kernel
theorem i6_27 : lk (mi_ins m6) 27 = some (.newarray .int, 2, []) := by decide +kernel
theorem i6_29 : lk (mi_ins m6) 29 = some (.putfield 21, 3, []) := by decide +kernel
theorem i6_32 : lk (mi_ins m6) 32 = some (.aload_n 0, 1, []) := by decide +kernel
theorem i6_33 : lk (mi_ins m6) 33 = some (.iconst 5, 1, []) := by decide +kernel
theorem i6_34 : lk (mi_ins m6) 34 = some (.newarray .int, 2, []) := by decide +kernel
theorem i6_36 : lk (mi_ins m6) 36 = some (.putfield 24, 3, []) := by decide +kernel
theorem i6_39 : lk (mi_ins m6) 39 = some (.return_, 1, []) := by decide +kernel
theorem i7_0 : lk (mi_ins m7) 0 = some (.aload_n 0, 1, []) := by decide +kernel
theorem i7_1 : lk (mi_ins m7) 1 = some (.invokespecial 5, 3, []) := by decide +kernel
theorem i7_4 : lk (mi_ins m7) 4 = some (.aload_n 0, 1, []) := by decide +kernel
theorem i7_5 : lk (mi_ins m7) 5 = some (.bipush 25, 2, []) := by decide +kernel
theorem i7_7 : lk (mi_ins m7) 7 = some (.newarray .int, 2, []) := by decide +kernel
theorem i7_9 : lk (mi_ins m7) 9 = some (.putfield 11, 3, []) := by decide +kernel
theorem i7_12 : lk (mi_ins m7) 12 = some (.aload_n 0, 1, []) := by decide +kernel
theorem i7_13 : lk (mi_ins m7) 13 = some (.iconst 3, 1, []) := by decide +kernel
theorem i7_14 : lk (mi_ins m7) 14 = some (.newarray .int, 2, []) := by decide +kernel
theorem i7_16 : lk (mi_ins m7) 16 = some (.putfield 15, 3, []) := by decide +kernel
theorem i7_19 : lk (mi_ins m7) 19 = some (.return_, 1, []) := by decide +kernel
theorem i8_0 : lk (mi_ins m8) 0 = some (.aload_n 0, 1, []) := by decide +kernel
theorem i8_1 : lk (mi_ins m8) 1 = some (.invokespecial 1, 3, []) := by decide +kernel
theorem i8_4 : lk (mi_ins m8) 4 = some (.aload_n 0, 1, []) := by decide +kernel
theorem i8_5 : lk (mi_ins m8) 5 = some (.iconst 5, 1, []) := by decide +kernel
theorem i8_6 : lk (mi_ins m8) 6 = some (.newarray .int, 2, []) := by decide +kernel
theorem i8_8 : lk (mi_ins m8) 8 = some (.putfield 9, 3, []) := by decide +kernel
theorem i8_11 : lk (mi_ins m8) 11 = some (.aload_n 0, 1, []) := by decide +kernel
theorem i8_12 : lk (mi_ins m8) 12 = some (.iconst 5, 1, []) := by decide +kernel
theorem i8_13 : lk (mi_ins m8) 13 = some (.newarray .int, 2, []) := by decide +kernel
theorem i8_15 : lk (mi_ins m8) 15 = some (.putfield 15, 3, []) := by decide +kernel
theorem i8_18 : lk (mi_ins m8) 18 = some (.aload_n 0, 1, []) := by decide +kernel
theorem i8_19 : lk (mi_ins m8) 19 = some (.iconst 5, 1, []) := by decide +kernel
theorem i8_20 : lk (mi_ins m8) 20 = some (.newarray .int, 2, []) := by decide +kernel
theorem i8_22 : lk (mi_ins m8) 22 = some (.putfield 18, 3, []) := by decide +kernel
theorem i8_25 : lk (mi_ins m8) 25 = some (.return_, 1, []) := by decide +kernel
theorem i9_0 : lk (mi_ins m9) 0 = some (.aload_n 0, 1, []) := by decide +kernel
theorem i9_1 : lk (mi_ins m9) 1 = some (.invokespecial 1, 3, []) := by decide +kernel
theorem i9_4 : lk (mi_ins m9) 4 = some (.aload_n 0, 1, []) := by decide +kernel
theorem i9_5 : lk (mi_ins m9) 5 = some (.sipush 496, 3, []) := by decide +kernel
theorem i9_8 : lk (mi_ins m9) 8 = some (.newarray .int, 2, []) := by decide +kernel
theorem i9_10 : lk (mi_ins m9) 10 = some (.putfield 11, 3, []) := by decide +kernel
theorem i9_13 : lk (mi_ins m9) 13 = some (.aload_n 0, 1, []) := by decide +kernel
theorem i9_14 : lk (mi_ins m9) 14 = some (.bipush 93, 2, []) := by decide +kernel
theorem i9_16 : lk (mi_ins m9) 16 = some (.newarray .int, 2, []) := by decide +kernel
theorem i9_18 : lk (mi_ins m9) 18 = some (.putfield 15, 3, []) := by decide +kernel
theorem i9_21 : lk (mi_ins m9) 21 = some (.return_, 1, []) := by decide +kernel
theorem i10_0 : lk (mi_ins m10) 0 = some (.aload_n 0, 1, []) := by decide +kernel
theorem i10_1 : lk (mi_ins m10) 1 = some (.invokespecial 3, 3, []) := by decide +kernel
theorem i10_4 : lk (mi_ins m10) 4 = some (.aload_n 0, 1, []) := by decide +kernel
theorem i10_5 : lk (mi_ins m10) 5 = some (.new 9, 3, []) := by decide +kernel
theorem i10_8 : lk (mi_ins m10) 8 = some (.dup, 1, []) := by decide +kernel
theorem i10_9 : lk (mi_ins m10) 9 = some (.invokespecial 11, 3, []) := by decide +kernel
theorem i10_12 : lk (mi_ins m10) 12 = some (.putfield 12, 3, []) := by decide +kernel
theorem i10_15 : lk (mi_ins m10) 15 = some (.aload_n 0, 1, []) := by decide +kernel
theorem i10_16 : lk (mi_ins m10) 16 = some (.new 18, 3, []) := by decide +kernel
theorem i10_19 : lk (mi_ins m10) 19 = some (.dup, 1, []) := by decide +kernel
theorem i10_20 : lk (mi_ins m10) 20 = some (.invokespecial 20, 3, []) := by decide +kernel
theorem i10_23 : lk (mi_ins m10) 23 = some (.putfield 21, 3, []) := by decide +kernel
theorem i10_26 : lk (mi_ins m10) 26 = some (.aload_n 0, 1, []) := by decide +kernel
theorem i10_27 : lk (mi_ins m10) 27 = some (.bipush 20, 2, []) := by decide +kernel
theorem i10_29 : lk (mi_ins m10) 29 = some (.newarray .int, 2, []) := by decide +kernel
theorem i10_31 : lk (mi_ins m10) 31 = some (.putfield 27, 3, []) := by decide +kernel
theorem i10_34 : lk (mi_ins m10) 34 = some (.aload_n 0, 1, []) := by decide +kernel
theorem i10_35 : lk (mi_ins m10) 35 = some (.iconst 3, 1, []) := by decide +kernel
theorem i10_36 : lk (mi_ins m10) 36 = some (.newarray .int, 2, []) := by decide +kernel
theorem i10_38 : lk (mi_ins m10) 38 = some (.putfield 31, 3, []) := by decide +kernel
theorem i10_41 : lk (mi_ins m10) 41 = some (.aload_n 0, 1, []) := by decide +kernel
theorem i10_42 : lk (mi_ins m10) 42 = some (.iconst 3, 1, []) := by decide +kernel
theorem i10_43 : lk (mi_ins m10) 43 = some (.newarray .int, 2, []) := by decide +kernel
theorem i10_45 : lk (mi_ins m10) 45 = some (.putfield 34, 3, []) := by decide +kernel
theorem i10_48 : lk (mi_ins m10) 48 = some (.aload_n 0, 1, []) := by decide +kernel
theorem i10_49 : lk (mi_ins m10) 49 = some (.iconst 3, 1, []) := by decide +kernel
theorem i10_50 : lk (mi_ins m10) 50 = some (.newarray .int, 2, []) := by decide +kernel
theorem i10_52 : lk (mi_ins m10) 52 = some (.putfield 37, 3, []) := by decide +kernel
theorem i10_55 : lk (mi_ins m10) 55 = some (.aload_n 0, 1, []) := by decide +kernel
theorem i10_56 : lk (mi_ins m10) 56 = some (.iconst 3, 1, []) := by decide +kernel
theorem i10_57 : lk (mi_ins m10) 57 = some (.newarray .int, 2, []) := by decide +kernel
theorem i10_59 : lk (mi_ins m10) 59 = some (.putfield 40, 3, []) := by decide +kernel
theorem i10_62 : lk (mi_ins m10) 62 = some (.return_, 1, []) := by decide +kernel
theorem i11_0 : lk (mi_ins m11) 0 = some (.aload_n 0, 1, []) := by decide +kernel
theorem i11_1 : lk (mi_ins m11) 1 = some (.invokespecial 3, 3, []) := by decide +kernel
theorem i11_4 : lk (mi_ins m11) 4 = some (.aload_n 0, 1, []) := by decide +kernel
theorem i11_5 : lk (mi_ins m11) 5 = some (.bipush 8, 2, []) := by decide +kernel
theorem i11_7 : lk (mi_ins m11) 7 = some (.newarray .int, 2, []) := by decide +kernel
theorem i11_9 : lk (mi_ins m11) 9 = some (.putfield 11, 3, []) := by decide +kernel
theorem i11_12 : lk (mi_ins m11) 12 = some (.aload_n 0, 1, []) := by decide +kernel
theorem i11_13 : lk (mi_ins m11) 13 = some (.new 17, 3, []) := by decide +kernel
theorem i11_16 : lk (mi_ins m11) 16 = some (.dup, 1, []) := by decide +kernel
theorem i11_17 : lk (mi_ins m11) 17 = some (.invokespecial 19, 3, []) := by decide +kernel
theorem i11_20 : lk (mi_ins m11) 20 = some (.putfield 20, 3, []) := by decide +kernel
theorem i11_23 : lk (mi_ins m11) 23 = some (.aload_n 0, 1, []) := by decide +kernel
theorem i11_24 : lk (mi_ins m11) 24 = some (.new 24, 3, []) := by decide +kernel
theorem i11_27 : lk (mi_ins m11) 27 = some (.dup, 1, []) := by decide +kernel
theorem i11_28 : lk (mi_ins m11) 28 = some (.invokespecial 26, 3, []) := by decide +kernel
theorem i11_31 : lk (mi_ins m11) 31 = some (.putfield 27, 3, []) := by decide +kernel
theorem i11_34 : lk (mi_ins m11) 34 = some (.return_, 1, []) := by decide +kernel
theorem i12_0 : lk (mi_ins m12) 0 = some (.aload_n 0, 1, []) := by decide +kernel
theorem i12_1 : lk (mi_ins m12) 1 = some (.invokespecial 3, 3, []) := by decide +kernel
theorem i12_4 : lk (mi_ins m12) 4 = some (.aload_n 0, 1, []) := by decide +kernel
theorem i12_5 : lk (mi_ins m12) 5 = some (.new 9, 3, []) := by decide +kernel
theorem i12_8 : lk (mi_ins m12) 8 = some (.dup, 1, []) := by decide +kernel
theorem i12_9 : lk (mi_ins m12) 9 = some (.invokespecial 11, 3, []) := by decide +kernel
theorem i12_12 : lk (mi_ins m12) 12 = some (.putfield 12, 3, []) := by decide +kernel
theorem i12_15 : lk (mi_ins m12) 15 = some (.return_, 1, []) := by decide +kernel
theorem i13_0 : lk (mi_ins m13) 0 = some (.aload_n 0, 1, []) := by decide +kernel
theorem i13_1 : lk (mi_ins m13) 1 = some (.invokespecial 1, 3, []) := by decide +kernel
theorem i13_4 : lk (mi_ins m13) 4 = some (.aload_n 0, 1, []) := by decide +kernel
theorem i13_5 : lk (mi_ins m13) 5 = some (.new 7, 3, []) := by decide +kernel
theorem i13_8 : lk (mi_ins m13) 8 = some (.dup, 1, []) := by decide +kernel
theorem i13_9 : lk (mi_ins m13) 9 = some (.invokespecial 9, 3, []) := by decide +kernel
theorem i13_12 : lk (mi_ins m13) 12 = some (.putfield 10, 3, []) := by decide +kernel
theorem i13_15 : lk (mi_ins m13) 15 = some (.return_, 1, []) := by decide +kernel
theorem i14_0 : lk (mi_ins m14) 0 = some (.aload_n 0, 1, []) := by decide +kernel
theorem i14_1 : lk (mi_ins m14) 1 = some (.getfield 79, 3, []) := by decide +kernel
theorem i14_4 : lk (mi_ins m14) 4 = some (.bipush 20, 2, []) := by decide +kernel
theorem i14_6 : lk (mi_ins m14) 6 = some (.iadd, 1, []) := by decide +kernel
theorem i14_7 : lk (mi_ins m14) 7 = some (.sipush 1000, 3, []) := by decide +kernel
theorem i14_10 : lk (mi_ins m14) 10 = some (.if_icmp .le 5, 3, []) := by decide +kernel
theorem i14_13 : lk (mi_ins m14) 13 = some (.iconst (-1), 1, []) := by decide +kernel
theorem i14_14 : lk (mi_ins m14) 14 = some (.ireturn, 1, []) := by decide +kernel
theorem i14_15 : lk (mi_ins m14) 15 = some (.aload_n 0, 1, []) := by decide +kernel
theorem i14_16 : lk (mi_ins m14) 16 = some (.iload_n 1, 1, []) := by decide +kernel
theorem i14_17 : lk (mi_ins m14) 17 = some (.invokevirtual 83, 3, []) := by decide +kernel
theorem i14_20 : lk (mi_ins m14) 20 = some (.aload_n 0, 1, []) := by decide +kernel
theorem i14_21 : lk (mi_ins m14) 21 = some (.iload_n 2, 1, []) := by decide +kernel
theorem i14_22 : lk (mi_ins m14) 22 = some (.invokevirtual 83, 3, []) := by decide +kernel
theorem i14_25 : lk (mi_ins m14) 25 = some (.aload_n 0, 1, []) := by decide +kernel
theorem i14_26 : lk (mi_ins m14) 26 = some (.iload_n 3, 1, []) := by decide +kernel
theorem i14_27 : lk (mi_ins m14) 27 = some (.invokevirtual 83, 3, []) := by decide +kernel
theorem i14_30 : lk (mi_ins m14) 30 = some (.aload_n 0, 1, []) := by decide +kernel
theorem i14_31 : lk (mi_ins m14) 31 = some (.iload 4, 2, []) := by decide +kernel
theorem i14_33 : lk (mi_ins m14) 33 = some (.invokevirtual 83, 3, []) := by decide +kernel
theorem i14_36 : lk (mi_ins m14) 36 = some (.aload_n 0, 1, []) := by decide +kernel
theorem i14_37 : lk (mi_ins m14) 37 = some (.iload 5, 2, []) := by decide +kernel
theorem i14_39 : lk (mi_ins m14) 39 = some (.invokevirtual 83, 3, []) := by decide +kernel
theorem i14_42 : lk (mi_ins m14) 42 = some (.aload_n 0, 1, []) := by decide +kernel
theorem i14_43 : lk (mi_ins m14) 43 = some (.getfield 79, 3, []) := by decide +kernel
theorem i14_46 : lk (mi_ins m14) 46 = some (.ireturn, 1, []) := by decide +kernel
theorem i15_0 : lk (mi_ins m15) 0 = some (.bipush 24, 2, []) := by decide +kernel
theorem i15_2 : lk (mi_ins m15) 2 = some (.istore_n 2, 1, []) := by decide +kernel
theorem i15_3 : lk (mi_ins m15) 3 = some (.iload_n 2, 1, []) := by decide +kernel
theorem i15_4 : lk (mi_ins m15) 4 = some (.ifCond .lt 42, 3, []) := by decide +kernel
theorem i15_7 : lk (mi_ins m15) 7 = some (.aload_n 0, 1, []) := by decide +kernel
theorem i15_8 : lk (mi_ins m15) 8 = some (.getfield 79, 3, []) := by decide +kernel
theorem i15_11 : lk (mi_ins m15) 11 = some (.sipush 1000, 3, []) := by decide +kernel
theorem i15_14 : lk (mi_ins m15) 14 = some (.if_icmp .ge 32, 3, []) := by decide +kernel
theorem i15_17 : lk (mi_ins m15) 17 = some (.aload_n 0, 1, []) := by decide +kernel
theorem i15_18 : lk (mi_ins m15) 18 = some (.getfield 9, 3, []) := by decide +kernel
theorem i15_21 : lk (mi_ins m15) 21 = some (.aload_n 0, 1, []) := by decide +kernel
theorem i15_22 : lk (mi_ins m15) 22 = some (.getfield 79, 3, []) := by decide +kernel
theorem i15_25 : lk (mi_ins m15) 25 = some (.iload_n 1, 1, []) := by decide +kernel
theorem i15_26 : lk (mi_ins m15) 26 = some (.iload_n 2, 1, []) := by decide +kernel
theorem i15_27 : lk (mi_ins m15) 27 = some (.ishr, 1, []) := by decide +kernel
theorem i15_28 : lk (mi_ins m15) 28 = some (.i2b, 1, []) := by decide +kernel
theorem i15_29 : lk (mi_ins m15) 29 = some (.bastore, 1, []) := by decide +kernel
theorem i15_30 : lk (mi_ins m15) 30 = some (.aload_n 0, 1, []) := by decide +kernel
theorem i15_31 : lk (mi_ins m15) 31 = some (.dup, 1, []) := by decide +kernel
theorem i15_32 : lk (mi_ins m15) 32 = some (.getfield 79, 3, []) := by decide +kernel
theorem i15_35 : lk (mi_ins m15) 35 = some (.iconst 1, 1, []) := by decide +kernel
theorem i15_36 : lk (mi_ins m15) 36 = some (.iadd, 1, []) := by decide +kernel
theorem i15_37 : lk (mi_ins m15) 37 = some (.putfield 79, 3, []) := by decide +kernel
theorem i15_40 : lk (mi_ins m15) 40 = some (.iinc 2 (-8), 3, []) := by decide +kernel
theorem i15_43 : lk (mi_ins m15) 43 = some (.goto (-40), 3, []) := by decide +kernel
theorem i15_46 : lk (mi_ins m15) 46 = some (.return_, 1, [0, 1, 2]) := by decide +kernel
theorem i16_0 : lk (mi_ins m16) 0 = some (.aload_n 0, 1, []) := by decide +kernel
theorem i16_1 : lk (mi_ins m16) 1 = some (.iconst 0, 1, []) := by decide +kernel
theorem i16_2 : lk (mi_ins m16) 2 = some (.iload_n 1, 1, []) := by decide +kernel
theorem i16_3 : lk (mi_ins m16) 3 = some (.iconst 0, 1, []) := by decide +kernel
theorem i16_4 : lk (mi_ins m16) 4 = some (.aload_n 0, 1, []) := by decide +kernel
theorem i16_5 : lk (mi_ins m16) 5 = some (.getfield 79, 3, []) := by decide +kernel
theorem i16_8 : lk (mi_ins m16) 8 = some (.invokestatic 87, 3, []) := by decide +kernel
theorem i16_11 : lk (mi_ins m16) 11 = some (.invokevirtual 91, 3, []) := by decide +kernel
theorem i16_14 : lk (mi_ins m16) 14 = some (.ifCond .eq 5, 3, []) := by decide +kernel
theorem i16_17 : lk (mi_ins m16) 17 = some (.iconst (-1), 1, []) := by decide +kernel
theorem i16_18 : lk (mi_ins m16) 18 = some (.ireturn, 1, []) := by decide +kernel
theorem i16_19 : lk (mi_ins m16) 19 = some (.aload_n 0, 1, []) := by decide +kernel
theorem i16_20 : lk (mi_ins m16) 20 = some (.iconst 0, 1, []) := by decide +kernel
theorem i16_21 : lk (mi_ins m16) 21 = some (.putfield 79, 3, []) := by decide +kernel
theorem i16_24 : lk (mi_ins m16) 24 = some (.aload_n 0, 1, []) := by decide +kernel
theorem i16_25 : lk (mi_ins m16) 25 = some (.getfield 16, 3, []) := by decide +kernel
theorem i16_28 : lk (mi_ins m16) 28 = some (.aload_n 0, 1, []) := by decide +kernel
theorem i16_29 : lk (mi_ins m16) 29 = some (.getfield 9, 3, []) := by decide +kernel
theorem i16_32 : lk (mi_ins m16) 32 = some (.iload_n 1, 1, []) := by decide +kernel
theorem i16_33 : lk (mi_ins m16) 33 = some (.invokevirtual 95, 3, []) := by decide +kernel
theorem i16_36 : lk (mi_ins m16) 36 = some (.aload_n 0, 1, []) := by decide +kernel
theorem i16_37 : lk (mi_ins m16) 37 = some (.iconst 4, 1, []) := by decide +kernel
theorem i16_38 : lk (mi_ins m16) 38 = some (.aload_n 0, 1, []) := by decide +kernel
theorem i16_39 : lk (mi_ins m16) 39 = some (.getfield 16, 3, []) := by decide +kernel
theorem i16_42 : lk (mi_ins m16) 42 = some (.getfield 99, 3, []) := by decide +kernel
theorem i16_45 : lk (mi_ins m16) 45 = some (.ifCond .eq 7, 3, []) := by decide +kernel
theorem i16_48 : lk (mi_ins m16) 48 = some (.iconst 1, 1, []) := by decide +kernel
theorem i16_49 : lk (mi_ins m16) 49 = some (.goto 4, 3, []) := by decide +kernel
theorem i16_52 : lk (mi_ins m16) 52 = some (.iconst 0, 1, []) := by decide +kernel
theorem i16_53 : lk (mi_ins m16) 53 = some (.invokevirtual 102, 3, [1]) := by decide +kernel
theorem i16_56 : lk (mi_ins m16) 56 = some (.ifCond .eq 5, 3, []) := by decide +kernel
theorem i16_59 : lk (mi_ins m16) 59 = some (.iconst (-1), 1, []) := by decide +kernel
theorem i16_60 : lk (mi_ins m16) 60 = some (.ireturn, 1, []) := by decide +kernel
theorem i16_61 : lk (mi_ins m16) 61 = some (.aload_n 0, 1, []) := by decide +kernel
theorem i16_62 : lk (mi_ins m16) 62 = some (.aload_n 0, 1, []) := by decide +kernel
theorem i16_63 : lk (mi_ins m16) 63 = some (.getfield 16, 3, []) := by decide +kernel
theorem i16_66 : lk (mi_ins m16) 66 = some (.aload_n 0, 1, []) := by decide +kernel
theorem i16_67 : lk (mi_ins m16) 67 = some (.getfield 23, 3, []) := by decide +kernel
theorem i16_70 : lk (mi_ins m16) 70 = some (.invokevirtual 106, 3, []) := by decide +kernel
theorem i16_73 : lk (mi_ins m16) 73 = some (.putfield 23, 3, []) := by decide +kernel
theorem i16_76 : lk (mi_ins m16) 76 = some (.aload_n 0, 1, []) := by decide +kernel
theorem i16_77 : lk (mi_ins m16) 77 = some (.getfield 23, 3, []) := by decide +kernel
theorem i16_80 : lk (mi_ins m16) 80 = some (.aload_n 0, 1, []) := by decide +kernel
theorem i16_81 : lk (mi_ins m16) 81 = some (.getfield 30, 3, []) := by decide +kernel
theorem i16_84 : lk (mi_ins m16) 84 = some (.iconst 0, 1, []) := by decide +kernel
theorem i16_85 : lk (mi_ins m16) 85 = some (.invokevirtual 110, 3, []) := by decide +kernel
theorem i16_88 : lk (mi_ins m16) 88 = some (.aload_n 0, 1, []) := by decide +kernel
theorem i16_89 : lk (mi_ins m16) 89 = some (.getfield 47, 3, []) := by decide +kernel
theorem i16_92 : lk (mi_ins m16) 92 = some (.invokevirtual 114, 3, []) := by decide +kernel
theorem i16_95 : lk (mi_ins m16) 95 = some (.aload_n 0, 1, []) := by decide +kernel
theorem i16_96 : lk (mi_ins m16) 96 = some (.getfield 23, 3, []) := by decide +kernel
theorem i16_99 : lk (mi_ins m16) 99 = some (.getfield 117, 3, []) := by decide +kernel
theorem i16_102 : lk (mi_ins m16) 102 = some (.ireturn, 1, []) := by decide +kernel
theorem i17_0 : lk (mi_ins m17) 0 = some (.iload_n 0, 1, []) := by decide +kernel
theorem i17_1 : lk (mi_ins m17) 1 = some (.iload_n 1, 1, []) := by decide +kernel
theorem i17_2 : lk (mi_ins m17) 2 = some (.if_icmp .lt 8, 3, []) := by decide +kernel
theorem i17_5 : lk (mi_ins m17) 5 = some (.iload_n 0, 1, []) := by decide +kernel
theorem i17_6 : lk (mi_ins m17) 6 = some (.iload_n 2, 1, []) := by decide +kernel
theorem i17_7 : lk (mi_ins m17) 7 = some (.if_icmp .le 7, 3, []) := by decide +kernel
theorem i17_10 : lk (mi_ins m17) 10 = some (.iconst 1, 1, [0, 1, 2]) := by decide +kernel
theorem i17_11 : lk (mi_ins m17) 11 = some (.goto 4, 3, []) := by decide +kernel
theorem i17_14 : lk (mi_ins m17) 14 = some (.iconst 0, 1, []) := by decide +kernel
theorem i17_15 : lk (mi_ins m17) 15 = some (.ireturn, 1, [0, 1, 2]) := by decide +kernel
theorem i18_0 : lk (mi_ins m18) 0 = some (.aload_n 0, 1, []) := by decide +kernel
theorem i18_1 : lk (mi_ins m18) 1 = some (.iload_n 1, 1, []) := by decide +kernel
theorem i18_2 : lk (mi_ins m18) 2 = some (.ifCond .eq 7, 3, []) := by decide +kernel
theorem i18_5 : lk (mi_ins m18) 5 = some (.iconst 1, 1, []) := by decide +kernel
theorem i18_6 : lk (mi_ins m18) 6 = some (.goto 12, 3, []) := by decide +kernel
theorem i18_9 : lk (mi_ins m18) 9 = some (.iload_n 2, 1, []) := by decide +kernel
theorem i18_10 : lk (mi_ins m18) 10 = some (.ifCond .eq 7, 3, []) := by decide +kernel
theorem i18_13 : lk (mi_ins m18) 13 = some (.iconst 2, 1, []) := by decide +kernel
theorem i18_14 : lk (mi_ins m18) 14 = some (.goto 4, 3, []) := by decide +kernel
theorem i18_17 : lk (mi_ins m18) 17 = some (.iconst 0, 1, []) := by decide +kernel
theorem i18_18 : lk (mi_ins m18) 18 = some (.putfield 120, 3, [1, 2]) := by decide +kernel
theorem i18_21 : lk (mi_ins m18) 21 = some (.aload_n 0, 1, []) := by decide +kernel
theorem i18_22 : lk (mi_ins m18) 22 = some (.getfield 120, 3, []) := by decide +kernel
theorem i18_25 : lk (mi_ins m18) 25 = some (.ifCond .eq 7, 3, []) := by decide +kernel
theorem i18_28 : lk (mi_ins m18) 28 = some (.iconst 1, 1, []) := by decide +kernel
theorem i18_29 : lk (mi_ins m18) 29 = some (.goto 4, 3, []) := by decide +kernel
theorem i18_32 : lk (mi_ins m18) 32 = some (.iconst 0, 1, []) := by decide +kernel
theorem i18_33 : lk (mi_ins m18) 33 = some (.ireturn, 1, [0, 1, 2]) := by decide +kernel
theorem i19_0 : lk (mi_ins m19) 0 = some (.aload_n 0, 1, []) := by decide +kernel
theorem i19_1 : lk (mi_ins m19) 1 = some (.getfield 21, 3, []) := by decide +kernel
theorem i19_4 : lk (mi_ins m19) 4 = some (.invokevirtual 36, 3, []) := by decide +kernel
theorem i19_7 : lk (mi_ins m19) 7 = some (.aload_n 0, 1, []) := by decide +kernel
theorem i19_8 : lk (mi_ins m19) 8 = some (.iconst 0, 1, []) := by decide +kernel
theorem i19_9 : lk (mi_ins m19) 9 = some (.putfield 39, 3, []) := by decide +kernel
theorem i19_12 : lk (mi_ins m19) 12 = some (.aload_n 0, 1, []) := by decide +kernel
theorem i19_13 : lk (mi_ins m19) 13 = some (.iconst 0, 1, []) := by decide +kernel
theorem i19_14 : lk (mi_ins m19) 14 = some (.putfield 43, 3, []) := by decide +kernel
theorem i19_17 : lk (mi_ins m19) 17 = some (.aload_n 0, 1, []) := by decide +kernel
theorem i19_18 : lk (mi_ins m19) 18 = some (.iconst 0, 1, []) := by decide +kernel
theorem i19_19 : lk (mi_ins m19) 19 = some (.putfield 46, 3, []) := by decide +kernel
theorem i19_22 : lk (mi_ins m19) 22 = some (.aload_n 0, 1, []) := by decide +kernel
theorem i19_23 : lk (mi_ins m19) 23 = some (.iconst 0, 1, []) := by decide +kernel
theorem i19_24 : lk (mi_ins m19) 24 = some (.putfield 50, 3, []) := by decide +kernel
theorem i19_27 : lk (mi_ins m19) 27 = some (.aload_n 0, 1, []) := by decide +kernel
theorem i19_28 : lk (mi_ins m19) 28 = some (.getfield 14, 3, []) := by decide +kernel
theorem i19_31 : lk (mi_ins m19) 31 = some (.aload_n 1, 1, []) := by decide +kernel
theorem i19_32 : lk (mi_ins m19) 32 = some (.iload_n 2, 1, []) := by decide +kernel
theorem i19_33 : lk (mi_ins m19) 33 = some (.invokevirtual 53, 3, []) := by decide +kernel
theorem i19_36 : lk (mi_ins m19) 36 = some (.iconst 1, 1, []) := by decide +kernel
theorem i19_37 : lk (mi_ins m19) 37 = some (.istore_n 3, 1, []) := by decide +kernel
theorem i19_38 : lk (mi_ins m19) 38 = some (.iconst 0, 1, []) := by decide +kernel
theorem i19_39 : lk (mi_ins m19) 39 = some (.istore 4, 2, []) := by decide +kernel
theorem i19_41 : lk (mi_ins m19) 41 = some (.iload 4, 2, [1, 2]) := by decide +kernel
theorem i19_43 : lk (mi_ins m19) 43 = some (.sipush 1000, 3, []) := by decide +kernel
theorem i19_46 : lk (mi_ins m19) 46 = some (.if_icmp .ge 49, 3, []) := by decide +kernel
theorem i19_49 : lk (mi_ins m19) 49 = some (.iload_n 3, 1, []) := by decide +kernel
theorem i19_50 : lk (mi_ins m19) 50 = some (.ifCond .eq 45, 3, []) := by decide +kernel
theorem i19_53 : lk (mi_ins m19) 53 = some (.aload_n 0, 1, []) := by decide +kernel
theorem i19_54 : lk (mi_ins m19) 54 = some (.invokevirtual 57, 3, []) := by decide +kernel
theorem i19_57 : lk (mi_ins m19) 57 = some (.ifCond .ne 4, 3, []) := by decide +kernel
theorem i19_60 : lk (mi_ins m19) 60 = some (.return_, 1, []) := by decide +kernel
theorem i19_61 : lk (mi_ins m19) 61 = some (.aload_n 0, 1, []) := by decide +kernel
theorem i19_62 : lk (mi_ins m19) 62 = some (.getfield 14, 3, []) := by decide +kernel
theorem i19_65 : lk (mi_ins m19) 65 = some (.getfield 61, 3, []) := by decide +kernel
theorem i19_68 : lk (mi_ins m19) 68 = some (.iconst 2, 1, []) := by decide +kernel
theorem i19_69 : lk (mi_ins m19) 69 = some (.if_icmp .ne 7, 3, []) := by decide +kernel
theorem i19_72 : lk (mi_ins m19) 72 = some (.iconst 1, 1, []) := by decide +kernel
theorem i19_73 : lk (mi_ins m19) 73 = some (.goto 4, 3, []) := by decide +kernel
theorem i19_76 : lk (mi_ins m19) 76 = some (.iconst 0, 1, []) := by decide +kernel
theorem i19_77 : lk (mi_ins m19) 77 = some (.istore_n 3, 1, [1, 2, 3]) := by decide +kernel
theorem i19_78 : lk (mi_ins m19) 78 = some (.iload_n 3, 1, []) := by decide +kernel
theorem i19_79 : lk (mi_ins m19) 79 = some (.ifCond .eq 10, 3, []) := by decide +kernel
theorem i19_82 : lk (mi_ins m19) 82 = some (.aload_n 0, 1, []) := by decide +kernel
theorem i19_83 : lk (mi_ins m19) 83 = some (.getfield 14, 3, []) := by decide +kernel
theorem i19_86 : lk (mi_ins m19) 86 = some (.invokevirtual 64, 3, []) := by decide +kernel
theorem i19_89 : lk (mi_ins m19) 89 = some (.iinc 4 1, 3, [1, 2]) := by decide +kernel
theorem i19_92 : lk (mi_ins m19) 92 = some (.goto (-51), 3, []) := by decide +kernel
theorem i19_95 : lk (mi_ins m19) 95 = some (.aload_n 0, 1, [1, 2, 3, 4]) := by decide +kernel
theorem i19_96 : lk (mi_ins m19) 96 = some (.getfield 14, 3, []) := by decide +kernel
theorem i19_99 : lk (mi_ins m19) 99 = some (.getfield 61, 3, []) := by decide +kernel
theorem i19_102 : lk (mi_ins m19) 102 = some (.iconst 3, 1, []) := by decide +kernel
theorem i19_103 : lk (mi_ins m19) 103 = some (.if_icmp .eq 12, 3, []) := by decide +kernel
theorem i19_106 : lk (mi_ins m19) 106 = some (.aload_n 0, 1, []) := by decide +kernel
theorem i19_107 : lk (mi_ins m19) 107 = some (.iconst 1, 1, []) := by decide +kernel
theorem i19_108 : lk (mi_ins m19) 108 = some (.invokevirtual 67, 3, []) := by decide +kernel
theorem i19_111 : lk (mi_ins m19) 111 = some (.pop, 1, []) := by decide +kernel
theorem i19_112 : lk (mi_ins m19) 112 = some (.goto 20, 3, []) := by decide +kernel
theorem i19_115 : lk (mi_ins m19) 115 = some (.aload_n 0, 1, []) := by decide +kernel
theorem i19_116 : lk (mi_ins m19) 116 = some (.getfield 21, 3, []) := by decide +kernel
theorem i19_119 : lk (mi_ins m19) 119 = some (.getfield 71, 3, []) := by decide +kernel
theorem i19_122 : lk (mi_ins m19) 122 = some (.ifCond .ne 10, 3, []) := by decide +kernel
theorem i19_125 : lk (mi_ins m19) 125 = some (.aload_n 0, 1, []) := by decide +kernel
theorem i19_126 : lk (mi_ins m19) 126 = some (.bipush 6, 2, []) := by decide +kernel
theorem i19_128 : lk (mi_ins m19) 128 = some (.invokevirtual 67, 3, []) := by decide +kernel
theorem i19_131 : lk (mi_ins m19) 131 = some (.pop, 1, []) := by decide +kernel
theorem i19_132 : lk (mi_ins m19) 132 = some (.return_, 1, [0, 1, 2, 3, 4]) := by decide +kernel
theorem i20_0 : lk (mi_ins m20) 0 = some (.aload_n 0, 1, []) := by decide +kernel
theorem i20_1 : lk (mi_ins m20) 1 = some (.iconst 0, 1, []) := by decide +kernel
theorem i20_2 : lk (mi_ins m20) 2 = some (.putfield 52, 3, []) := by decide +kernel
theorem i20_5 : lk (mi_ins m20) 5 = some (.aload_n 0, 1, []) := by decide +kernel
theorem i20_6 : lk (mi_ins m20) 6 = some (.iconst 0, 1, []) := by decide +kernel
theorem i20_7 : lk (mi_ins m20) 7 = some (.putfield 56, 3, []) := by decide +kernel
theorem i20_10 : lk (mi_ins m20) 10 = some (.aload_n 0, 1, []) := by decide +kernel
theorem i20_11 : lk (mi_ins m20) 11 = some (.iconst 0, 1, []) := by decide +kernel
theorem i20_12 : lk (mi_ins m20) 12 = some (.putfield 59, 3, []) := by decide +kernel
theorem i20_15 : lk (mi_ins m20) 15 = some (.aload_n 0, 1, []) := by decide +kernel
theorem i20_16 : lk (mi_ins m20) 16 = some (.iconst 0, 1, []) := by decide +kernel
theorem i20_17 : lk (mi_ins m20) 17 = some (.putfield 62, 3, []) := by decide +kernel
theorem i20_20 : lk (mi_ins m20) 20 = some (.aload_n 0, 1, []) := by decide +kernel
theorem i20_21 : lk (mi_ins m20) 21 = some (.iconst 0, 1, []) := by decide +kernel
theorem i20_22 : lk (mi_ins m20) 22 = some (.putfield 65, 3, []) := by decide +kernel
theorem i20_25 : lk (mi_ins m20) 25 = some (.aload_n 0, 1, []) := by decide +kernel
theorem i20_26 : lk (mi_ins m20) 26 = some (.iconst 0, 1, []) := by decide +kernel
theorem i20_27 : lk (mi_ins m20) 27 = some (.putfield 68, 3, []) := by decide +kernel
theorem i20_30 : lk (mi_ins m20) 30 = some (.aload_n 0, 1, []) := by decide +kernel
theorem i20_31 : lk (mi_ins m20) 31 = some (.iconst 0, 1, []) := by decide +kernel
theorem i20_32 : lk (mi_ins m20) 32 = some (.putfield 71, 3, []) := by decide +kernel
theorem i20_35 : lk (mi_ins m20) 35 = some (.iconst 0, 1, []) := by decide +kernel
theorem i20_36 : lk (mi_ins m20) 36 = some (.istore_n 1, 1, []) := by decide +kernel
theorem i20_37 : lk (mi_ins m20) 37 = some (.iload_n 1, 1, []) := by decide +kernel
theorem i20_38 : lk (mi_ins m20) 38 = some (.aload_n 0, 1, []) := by decide +kernel
theorem i20_39 : lk (mi_ins m20) 39 = some (.getfield 15, 3, []) := by decide +kernel
theorem i20_42 : lk (mi_ins m20) 42 = some (.arraylength, 1, []) := by decide +kernel
theorem i20_43 : lk (mi_ins m20) 43 = some (.if_icmp .ge 16, 3, []) := by decide +kernel
theorem i20_46 : lk (mi_ins m20) 46 = some (.aload_n 0, 1, []) := by decide +kernel
theorem i20_47 : lk (mi_ins m20) 47 = some (.getfield 15, 3, []) := by decide +kernel
theorem i20_50 : lk (mi_ins m20) 50 = some (.iload_n 1, 1, []) := by decide +kernel
theorem i20_51 : lk (mi_ins m20) 51 = some (.iconst 0, 1, []) := by decide +kernel
theorem i20_52 : lk (mi_ins m20) 52 = some (.iastore, 1, []) := by decide +kernel
theorem i20_53 : lk (mi_ins m20) 53 = some (.iinc 1 1, 3, []) := by decide +kernel
theorem i20_56 : lk (mi_ins m20) 56 = some (.goto (-19), 3, []) := by decide +kernel
theorem i20_59 : lk (mi_ins m20) 59 = some (.aload_n 0, 1, [1]) := by decide +kernel
theorem i20_60 : lk (mi_ins m20) 60 = some (.getfield 48, 3, []) := by decide +kernel
theorem i20_63 : lk (mi_ins m20) 63 = some (.iconst 0, 1, []) := by decide +kernel
theorem i20_64 : lk (mi_ins m20) 64 = some (.putfield 74, 3, []) := by decide +kernel
theorem i20_67 : lk (mi_ins m20) 67 = some (.aload_n 0, 1, []) := by decide +kernel
theorem i20_68 : lk (mi_ins m20) 68 = some (.getfield 48, 3, []) := by decide +kernel
theorem i20_71 : lk (mi_ins m20) 71 = some (.iconst 0, 1, []) := by decide +kernel
theorem i20_72 : lk (mi_ins m20) 72 = some (.putfield 77, 3, []) := by decide +kernel
theorem i20_75 : lk (mi_ins m20) 75 = some (.return_, 1, []) := by decide +kernel
theorem i21_0 : lk (mi_ins m21) 0 = some (.aload_n 0, 1, []) := by decide +kernel
theorem i21_1 : lk (mi_ins m21) 1 = some (.aload_n 1, 1, []) := by decide +kernel
theorem i21_2 : lk (mi_ins m21) 2 = some (.putfield 7, 3, []) := by decide +kernel
theorem i21_5 : lk (mi_ins m21) 5 = some (.aload_n 0, 1, []) := by decide +kernel
theorem i21_6 : lk (mi_ins m21) 6 = some (.iload_n 2, 1, []) := by decide +kernel
theorem i21_7 : lk (mi_ins m21) 7 = some (.aload_n 0, 1, []) := by decide +kernel
theorem i21_8 : lk (mi_ins m21) 8 = some (.getfield 7, 3, []) := by decide +kernel
theorem i21_11 : lk (mi_ins m21) 11 = some (.arraylength, 1, []) := by decide +kernel
theorem i21_12 : lk (mi_ins m21) 12 = some (.invokestatic 13, 3, []) := by decide +kernel
theorem i21_15 : lk (mi_ins m21) 15 = some (.putfield 19, 3, []) := by decide +kernel
theorem i21_18 : lk (mi_ins m21) 18 = some (.aload_n 0, 1, []) := by decide +kernel
theorem i21_19 : lk (mi_ins m21) 19 = some (.iconst 0, 1, []) := by decide +kernel
theorem i21_20 : lk (mi_ins m21) 20 = some (.putfield 23, 3, []) := by decide +kernel
theorem i21_23 : lk (mi_ins m21) 23 = some (.aload_n 0, 1, []) := by decide +kernel
theorem i21_24 : lk (mi_ins m21) 24 = some (.invokevirtual 26, 3, []) := by decide +kernel
theorem i21_27 : lk (mi_ins m21) 27 = some (.return_, 1, []) := by decide +kernel
theorem i22_0 : lk (mi_ins m22) 0 = some (.iload_n 0, 1, []) := by decide +kernel
theorem i22_1 : lk (mi_ins m22) 1 = some (.iload_n 1, 1, []) := by decide +kernel
theorem i22_2 : lk (mi_ins m22) 2 = some (.if_icmp .gt 7, 3, []) := by decide +kernel
theorem i22_5 : lk (mi_ins m22) 5 = some (.iload_n 0, 1, []) := by decide +kernel
theorem i22_6 : lk (mi_ins m22) 6 = some (.goto 4, 3, []) := by decide +kernel
theorem i22_9 : lk (mi_ins m22) 9 = some (.iload_n 1, 1, []) := by decide +kernel
theorem i22_10 : lk (mi_ins m22) 10 = some (.ireturn, 1, [0, 1]) := by decide +kernel
theorem i23_0 : lk (mi_ins m23) 0 = some (.aload_n 0, 1, []) := by decide +kernel
theorem i23_1 : lk (mi_ins m23) 1 = some (.aload_n 0, 1, []) := by decide +kernel
theorem i23_2 : lk (mi_ins m23) 2 = some (.getfield 23, 3, []) := by decide +kernel
theorem i23_5 : lk (mi_ins m23) 5 = some (.putfield 29, 3, []) := by decide +kernel
theorem i23_8 : lk (mi_ins m23) 8 = some (.aload_n 0, 1, []) := by decide +kernel
theorem i23_9 : lk (mi_ins m23) 9 = some (.getfield 29, 3, []) := by decide +kernel
theorem i23_12 : lk (mi_ins m23) 12 = some (.aload_n 0, 1, []) := by decide +kernel
theorem i23_13 : lk (mi_ins m23) 13 = some (.getfield 19, 3, []) := by decide +kernel
theorem i23_16 : lk (mi_ins m23) 16 = some (.if_icmp .ge 30, 3, []) := by decide +kernel
theorem i23_19 : lk (mi_ins m23) 19 = some (.aload_n 0, 1, []) := by decide +kernel
theorem i23_20 : lk (mi_ins m23) 20 = some (.getfield 7, 3, []) := by decide +kernel
theorem i23_23 : lk (mi_ins m23) 23 = some (.aload_n 0, 1, []) := by decide +kernel
theorem i23_24 : lk (mi_ins m23) 24 = some (.getfield 29, 3, []) := by decide +kernel
theorem i23_27 : lk (mi_ins m23) 27 = some (.baload, 1, []) := by decide +kernel
theorem i23_28 : lk (mi_ins m23) 28 = some (.bipush 32, 2, []) := by decide +kernel
theorem i23_30 : lk (mi_ins m23) 30 = some (.if_icmp .ne 16, 3, []) := by decide +kernel
theorem i23_33 : lk (mi_ins m23) 33 = some (.aload_n 0, 1, []) := by decide +kernel
theorem i23_34 : lk (mi_ins m23) 34 = some (.dup, 1, []) := by decide +kernel
theorem i23_35 : lk (mi_ins m23) 35 = some (.getfield 29, 3, []) := by decide +kernel
theorem i23_38 : lk (mi_ins m23) 38 = some (.iconst 1, 1, []) := by decide +kernel
theorem i23_39 : lk (mi_ins m23) 39 = some (.iadd, 1, []) := by decide +kernel
theorem i23_40 : lk (mi_ins m23) 40 = some (.putfield 29, 3, []) := by decide +kernel
theorem i23_43 : lk (mi_ins m23) 43 = some (.goto (-35), 3, []) := by decide +kernel
theorem i23_46 : lk (mi_ins m23) 46 = some (.aload_n 0, 1, []) := by decide +kernel
theorem i23_47 : lk (mi_ins m23) 47 = some (.aload_n 0, 1, []) := by decide +kernel
theorem i23_48 : lk (mi_ins m23) 48 = some (.getfield 29, 3, []) := by decide +kernel
theorem i23_51 : lk (mi_ins m23) 51 = some (.putfield 23, 3, []) := by decide +kernel
theorem i23_54 : lk (mi_ins m23) 54 = some (.aload_n 0, 1, []) := by decide +kernel
theorem i23_55 : lk (mi_ins m23) 55 = some (.lconst 0, 1, []) := by decide +kernel
theorem i23_56 : lk (mi_ins m23) 56 = some (.putfield 32, 3, []) := by decide +kernel
theorem i23_59 : lk (mi_ins m23) 59 = some (.aload_n 0, 1, []) := by decide +kernel
theorem i23_60 : lk (mi_ins m23) 60 = some (.getfield 23, 3, []) := by decide +kernel
theorem i23_63 : lk (mi_ins m23) 63 = some (.aload_n 0, 1, []) := by decide +kernel
theorem i23_64 : lk (mi_ins m23) 64 = some (.getfield 19, 3, []) := by decide +kernel
theorem i23_67 : lk (mi_ins m23) 67 = some (.if_icmp .ge 59, 3, []) := by decide +kernel
theorem i23_70 : lk (mi_ins m23) 70 = some (.aload_n 0, 1, []) := by decide +kernel
theorem i23_71 : lk (mi_ins m23) 71 = some (.getfield 7, 3, []) := by decide +kernel
theorem i23_74 : lk (mi_ins m23) 74 = some (.aload_n 0, 1, []) := by decide +kernel
theorem i23_75 : lk (mi_ins m23) 75 = some (.getfield 23, 3, []) := by decide +kernel
theorem i23_78 : lk (mi_ins m23) 78 = some (.baload, 1, []) := by decide +kernel
theorem i23_79 : lk (mi_ins m23) 79 = some (.invokestatic 36, 3, []) := by decide +kernel
theorem i23_82 : lk (mi_ins m23) 82 = some (.ifCond .eq 44, 3, []) := by decide +kernel
theorem i23_85 : lk (mi_ins m23) 85 = some (.aload_n 0, 1, []) := by decide +kernel
theorem i23_86 : lk (mi_ins m23) 86 = some (.aload_n 0, 1, []) := by decide +kernel
theorem i23_87 : lk (mi_ins m23) 87 = some (.getfield 32, 3, []) := by decide +kernel
theorem i23_90 : lk (mi_ins m23) 90 = some (.ldc2_w 40, 3, []) := by decide +kernel
theorem i23_93 : lk (mi_ins m23) 93 = some (.lmul, 1, []) := by decide +kernel
theorem i23_94 : lk (mi_ins m23) 94 = some (.aload_n 0, 1, []) := by decide +kernel
theorem i23_95 : lk (mi_ins m23) 95 = some (.getfield 7, 3, []) := by decide +kernel
theorem i23_98 : lk (mi_ins m23) 98 = some (.aload_n 0, 1, []) := by decide +kernel
theorem i23_99 : lk (mi_ins m23) 99 = some (.getfield 23, 3, []) := by decide +kernel
theorem i23_102 : lk (mi_ins m23) 102 = some (.baload, 1, []) := by decide +kernel
theorem i23_103 : lk (mi_ins m23) 103 = some (.bipush 97, 2, []) := by decide +kernel
theorem i23_105 : lk (mi_ins m23) 105 = some (.isub, 1, []) := by decide +kernel
theorem i23_106 : lk (mi_ins m23) 106 = some (.iconst 1, 1, []) := by decide +kernel
theorem i23_107 : lk (mi_ins m23) 107 = some (.iadd, 1, []) := by decide +kernel
theorem i23_108 : lk (mi_ins m23) 108 = some (.i2l, 1, []) := by decide +kernel
theorem i23_109 : lk (mi_ins m23) 109 = some (.ladd, 1, []) := by decide +kernel
theorem i23_110 : lk (mi_ins m23) 110 = some (.putfield 32, 3, []) := by decide +kernel
theorem i23_113 : lk (mi_ins m23) 113 = some (.aload_n 0, 1, []) := by decide +kernel
theorem i23_114 : lk (mi_ins m23) 114 = some (.dup, 1, []) := by decide +kernel
theorem i23_115 : lk (mi_ins m23) 115 = some (.getfield 23, 3, []) := by decide +kernel
theorem i23_118 : lk (mi_ins m23) 118 = some (.iconst 1, 1, []) := by decide +kernel
theorem i23_119 : lk (mi_ins m23) 119 = some (.iadd, 1, []) := by decide +kernel
theorem i23_120 : lk (mi_ins m23) 120 = some (.putfield 23, 3, []) := by decide +kernel
theorem i23_123 : lk (mi_ins m23) 123 = some (.goto (-64), 3, []) := by decide +kernel
theorem i23_126 : lk (mi_ins m23) 126 = some (.aload_n 0, 1, []) := by decide +kernel
theorem i23_127 : lk (mi_ins m23) 127 = some (.getfield 23, 3, []) := by decide +kernel
theorem i23_130 : lk (mi_ins m23) 130 = some (.aload_n 0, 1, []) := by decide +kernel
theorem i23_131 : lk (mi_ins m23) 131 = some (.getfield 29, 3, []) := by decide +kernel
theorem i23_134 : lk (mi_ins m23) 134 = some (.if_icmp .le 27, 3, []) := by decide +kernel
theorem i23_137 : lk (mi_ins m23) 137 = some (.aload_n 0, 1, []) := by decide +kernel
theorem i23_138 : lk (mi_ins m23) 138 = some (.aload_n 0, 1, []) := by decide +kernel
theorem i23_139 : lk (mi_ins m23) 139 = some (.getfield 23, 3, []) := by decide +kernel
theorem i23_142 : lk (mi_ins m23) 142 = some (.aload_n 0, 1, []) := by decide +kernel
theorem i23_143 : lk (mi_ins m23) 143 = some (.getfield 29, 3, []) := by decide +kernel
theorem i23_146 : lk (mi_ins m23) 146 = some (.isub, 1, []) := by decide +kernel
theorem i23_147 : lk (mi_ins m23) 147 = some (.bipush 8, 2, []) := by decide +kernel
theorem i23_149 : lk (mi_ins m23) 149 = some (.if_icmp .gt 7, 3, []) := by decide +kernel
theorem i23_152 : lk (mi_ins m23) 152 = some (.iconst 0, 1, []) := by decide +kernel
theorem i23_153 : lk (mi_ins m23) 153 = some (.goto 4, 3, []) := by decide +kernel
theorem i23_156 : lk (mi_ins m23) 156 = some (.iconst 4, 1, []) := by decide +kernel
theorem i23_157 : lk (mi_ins m23) 157 = some (.putfield 42, 3, [0]) := by decide +kernel
theorem i23_160 : lk (mi_ins m23) 160 = some (.return_, 1, []) := by decide +kernel
theorem i23_161 : lk (mi_ins m23) 161 = some (.aload_n 0, 1, []) := by decide +kernel
theorem i23_162 : lk (mi_ins m23) 162 = some (.iconst 0, 1, []) := by decide +kernel
theorem i23_163 : lk (mi_ins m23) 163 = some (.putfield 45, 3, []) := by decide +kernel
theorem i23_166 : lk (mi_ins m23) 166 = some (.aload_n 0, 1, []) := by decide +kernel
theorem i23_167 : lk (mi_ins m23) 167 = some (.getfield 23, 3, []) := by decide +kernel
theorem i23_170 : lk (mi_ins m23) 170 = some (.aload_n 0, 1, []) := by decide +kernel
theorem i23_171 : lk (mi_ins m23) 171 = some (.getfield 19, 3, []) := by decide +kernel
theorem i23_174 : lk (mi_ins m23) 174 = some (.if_icmp .ge 55, 3, []) := by decide +kernel
theorem i23_177 : lk (mi_ins m23) 177 = some (.aload_n 0, 1, []) := by decide +kernel
theorem i23_178 : lk (mi_ins m23) 178 = some (.getfield 7, 3, []) := by decide +kernel
theorem i23_181 : lk (mi_ins m23) 181 = some (.aload_n 0, 1, []) := by decide +kernel
theorem i23_182 : lk (mi_ins m23) 182 = some (.getfield 23, 3, []) := by decide +kernel
theorem i23_185 : lk (mi_ins m23) 185 = some (.baload, 1, []) := by decide +kernel
theorem i23_186 : lk (mi_ins m23) 186 = some (.invokestatic 48, 3, []) := by decide +kernel
theorem i23_189 : lk (mi_ins m23) 189 = some (.ifCond .eq 40, 3, []) := by decide +kernel
theorem i23_192 : lk (mi_ins m23) 192 = some (.aload_n 0, 1, []) := by decide +kernel
theorem i23_193 : lk (mi_ins m23) 193 = some (.aload_n 0, 1, []) := by decide +kernel
theorem i23_194 : lk (mi_ins m23) 194 = some (.getfield 45, 3, []) := by decide +kernel
theorem i23_197 : lk (mi_ins m23) 197 = some (.bipush 10, 2, []) := by decide +kernel
theorem i23_199 : lk (mi_ins m23) 199 = some (.imul, 1, []) := by decide +kernel
theorem i23_200 : lk (mi_ins m23) 200 = some (.aload_n 0, 1, []) := by decide +kernel
theorem i23_201 : lk (mi_ins m23) 201 = some (.getfield 7, 3, []) := by decide +kernel
theorem i23_204 : lk (mi_ins m23) 204 = some (.aload_n 0, 1, []) := by decide +kernel
theorem i23_205 : lk (mi_ins m23) 205 = some (.getfield 23, 3, []) := by decide +kernel
theorem i23_208 : lk (mi_ins m23) 208 = some (.baload, 1, []) := by decide +kernel
theorem i23_209 : lk (mi_ins m23) 209 = some (.bipush 48, 2, []) := by decide +kernel
theorem i23_211 : lk (mi_ins m23) 211 = some (.isub, 1, []) := by decide +kernel
theorem i23_212 : lk (mi_ins m23) 212 = some (.iadd, 1, []) := by decide +kernel
theorem i23_213 : lk (mi_ins m23) 213 = some (.putfield 45, 3, []) := by decide +kernel
theorem i23_216 : lk (mi_ins m23) 216 = some (.aload_n 0, 1, []) := by decide +kernel
theorem i23_217 : lk (mi_ins m23) 217 = some (.dup, 1, []) := by decide +kernel
theorem i23_218 : lk (mi_ins m23) 218 = some (.getfield 23, 3, []) := by decide +kernel
theorem i23_221 : lk (mi_ins m23) 221 = some (.iconst 1, 1, []) := by decide +kernel
theorem i23_222 : lk (mi_ins m23) 222 = some (.iadd, 1, []) := by decide +kernel
theorem i23_223 : lk (mi_ins m23) 223 = some (.putfield 23, 3, []) := by decide +kernel
theorem i23_226 : lk (mi_ins m23) 226 = some (.goto (-60), 3, []) := by decide +kernel
theorem i23_229 : lk (mi_ins m23) 229 = some (.aload_n 0, 1, []) := by decide +kernel
theorem i23_230 : lk (mi_ins m23) 230 = some (.getfield 23, 3, []) := by decide +kernel
theorem i23_233 : lk (mi_ins m23) 233 = some (.aload_n 0, 1, []) := by decide +kernel
theorem i23_234 : lk (mi_ins m23) 234 = some (.getfield 29, 3, []) := by decide +kernel
theorem i23_237 : lk (mi_ins m23) 237 = some (.if_icmp .le 28, 3, []) := by decide +kernel
theorem i23_240 : lk (mi_ins m23) 240 = some (.aload_n 0, 1, []) := by decide +kernel
theorem i23_241 : lk (mi_ins m23) 241 = some (.aload_n 0, 1, []) := by decide +kernel
theorem i23_242 : lk (mi_ins m23) 242 = some (.getfield 23, 3, []) := by decide +kernel
theorem i23_245 : lk (mi_ins m23) 245 = some (.aload_n 0, 1, []) := by decide +kernel
theorem i23_246 : lk (mi_ins m23) 246 = some (.getfield 29, 3, []) := by decide +kernel
theorem i23_249 : lk (mi_ins m23) 249 = some (.isub, 1, []) := by decide +kernel
theorem i23_250 : lk (mi_ins m23) 250 = some (.iconst 3, 1, []) := by decide +kernel
theorem i23_251 : lk (mi_ins m23) 251 = some (.if_icmp .gt 7, 3, []) := by decide +kernel
theorem i23_254 : lk (mi_ins m23) 254 = some (.iconst 1, 1, []) := by decide +kernel
theorem i23_255 : lk (mi_ins m23) 255 = some (.goto 4, 3, []) := by decide +kernel
theorem i23_258 : lk (mi_ins m23) 258 = some (.iconst 4, 1, []) := by decide +kernel
theorem i23_259 : lk (mi_ins m23) 259 = some (.putfield 42, 3, [0]) := by decide +kernel
theorem i23_262 : lk (mi_ins m23) 262 = some (.goto 55, 3, []) := by decide +kernel
theorem i23_265 : lk (mi_ins m23) 265 = some (.aload_n 0, 1, []) := by decide +kernel
theorem i23_266 : lk (mi_ins m23) 266 = some (.getfield 29, 3, []) := by decide +kernel
theorem i23_269 : lk (mi_ins m23) 269 = some (.aload_n 0, 1, []) := by decide +kernel
theorem i23_270 : lk (mi_ins m23) 270 = some (.getfield 19, 3, []) := by decide +kernel
theorem i23_273 : lk (mi_ins m23) 273 = some (.if_icmp .lt 11, 3, []) := by decide +kernel
theorem i23_276 : lk (mi_ins m23) 276 = some (.aload_n 0, 1, []) := by decide +kernel
theorem i23_277 : lk (mi_ins m23) 277 = some (.iconst 3, 1, []) := by decide +kernel
theorem i23_278 : lk (mi_ins m23) 278 = some (.putfield 42, 3, []) := by decide +kernel
theorem i23_281 : lk (mi_ins m23) 281 = some (.goto 36, 3, []) := by decide +kernel
theorem i23_284 : lk (mi_ins m23) 284 = some (.aload_n 0, 1, []) := by decide +kernel
theorem i23_285 : lk (mi_ins m23) 285 = some (.aload_n 0, 1, []) := by decide +kernel
theorem i23_286 : lk (mi_ins m23) 286 = some (.getfield 7, 3, []) := by decide +kernel
theorem i23_289 : lk (mi_ins m23) 289 = some (.aload_n 0, 1, []) := by decide +kernel
theorem i23_290 : lk (mi_ins m23) 290 = some (.getfield 29, 3, []) := by decide +kernel
theorem i23_293 : lk (mi_ins m23) 293 = some (.baload, 1, []) := by decide +kernel
theorem i23_294 : lk (mi_ins m23) 294 = some (.bipush 59, 2, []) := by decide +kernel
theorem i23_296 : lk (mi_ins m23) 296 = some (.if_icmp .ne 7, 3, []) := by decide +kernel
theorem i23_299 : lk (mi_ins m23) 299 = some (.iconst 2, 1, []) := by decide +kernel
theorem i23_300 : lk (mi_ins m23) 300 = some (.goto 4, 3, []) := by decide +kernel
theorem i23_303 : lk (mi_ins m23) 303 = some (.iconst 4, 1, []) := by decide +kernel
theorem i23_304 : lk (mi_ins m23) 304 = some (.putfield 42, 3, []) := by decide +kernel
theorem i23_307 : lk (mi_ins m23) 307 = some (.aload_n 0, 1, []) := by decide +kernel
theorem i23_308 : lk (mi_ins m23) 308 = some (.dup, 1, []) := by decide +kernel
theorem i23_309 : lk (mi_ins m23) 309 = some (.getfield 23, 3, []) := by decide +kernel
theorem i23_312 : lk (mi_ins m23) 312 = some (.iconst 1, 1, []) := by decide +kernel
theorem i23_313 : lk (mi_ins m23) 313 = some (.iadd, 1, []) := by decide +kernel
theorem i23_314 : lk (mi_ins m23) 314 = some (.putfield 23, 3, []) := by decide +kernel
theorem i23_317 : lk (mi_ins m23) 317 = some (.return_, 1, [0]) := by decide +kernel
theorem i24_0 : lk (mi_ins m24) 0 = some (.iload_n 0, 1, []) := by decide +kernel
theorem i24_1 : lk (mi_ins m24) 1 = some (.bipush 97, 2, []) := by decide +kernel
theorem i24_3 : lk (mi_ins m24) 3 = some (.if_icmp .lt 13, 3, []) := by decide +kernel
theorem i24_6 : lk (mi_ins m24) 6 = some (.iload_n 0, 1, []) := by decide +kernel
theorem i24_7 : lk (mi_ins m24) 7 = some (.bipush 122, 2, []) := by decide +kernel
theorem i24_9 : lk (mi_ins m24) 9 = some (.if_icmp .gt 7, 3, []) := by decide +kernel
theorem i24_12 : lk (mi_ins m24) 12 = some (.iconst 1, 1, []) := by decide +kernel
theorem i24_13 : lk (mi_ins m24) 13 = some (.goto 4, 3, []) := by decide +kernel
theorem i24_16 : lk (mi_ins m24) 16 = some (.iconst 0, 1, [0]) := by decide +kernel
theorem i24_17 : lk (mi_ins m24) 17 = some (.ireturn, 1, [0]) := by decide +kernel
theorem i25_0 : lk (mi_ins m25) 0 = some (.iload_n 0, 1, []) := by decide +kernel
theorem i25_1 : lk (mi_ins m25) 1 = some (.bipush 48, 2, []) := by decide +kernel
theorem i25_3 : lk (mi_ins m25) 3 = some (.if_icmp .lt 13, 3, []) := by decide +kernel
theorem i25_6 : lk (mi_ins m25) 6 = some (.iload_n 0, 1, []) := by decide +kernel
theorem i25_7 : lk (mi_ins m25) 7 = some (.bipush 57, 2, []) := by decide +kernel
theorem i25_9 : lk (mi_ins m25) 9 = some (.if_icmp .gt 7, 3, []) := by decide +kernel
theorem i25_12 : lk (mi_ins m25) 12 = some (.iconst 1, 1, []) := by decide +kernel
theorem i25_13 : lk (mi_ins m25) 13 = some (.goto 4, 3, []) := by decide +kernel
theorem i25_16 : lk (mi_ins m25) 16 = some (.iconst 0, 1, [0]) := by decide +kernel
theorem i25_17 : lk (mi_ins m25) 17 = some (.ireturn, 1, [0]) := by decide +kernel
theorem i26_0 : lk (mi_ins m26) 0 = some (.aload_n 0, 1, []) := by decide +kernel
theorem i26_1 : lk (mi_ins m26) 1 = some (.invokevirtual 77, 3, []) := by decide +kernel
theorem i26_4 : lk (mi_ins m26) 4 = some (.istore_n 1, 1, []) := by decide +kernel
theorem i26_5 : lk (mi_ins m26) 5 = some (.iload_n 1, 1, []) := by decide +kernel
theorem i26_6 : lk (mi_ins m26) 6 = some (.iconst (-1), 1, []) := by decide +kernel
theorem i26_7 : lk (mi_ins m26) 7 = some (.if_icmp .ne 9, 3, []) := by decide +kernel
theorem i26_10 : lk (mi_ins m26) 10 = some (.aload_n 0, 1, []) := by decide +kernel
theorem i26_11 : lk (mi_ins m26) 11 = some (.iconst 1, 1, []) := by decide +kernel
theorem i26_12 : lk (mi_ins m26) 12 = some (.invokevirtual 67, 3, []) := by decide +kernel
theorem i26_15 : lk (mi_ins m26) 15 = some (.ireturn, 1, []) := by decide +kernel
theorem i26_16 : lk (mi_ins m26) 16 = some (.iload_n 1, 1, []) := by decide +kernel
theorem i26_17 : lk (mi_ins m26) 17 = some (.ifCond .ne 16, 3, []) := by decide +kernel
theorem i26_20 : lk (mi_ins m26) 20 = some (.aload_n 0, 1, []) := by decide +kernel
theorem i26_21 : lk (mi_ins m26) 21 = some (.getfield 46, 3, []) := by decide +kernel
theorem i26_24 : lk (mi_ins m26) 24 = some (.ifCond .eq 9, 3, []) := by decide +kernel
theorem i26_27 : lk (mi_ins m26) 27 = some (.aload_n 0, 1, []) := by decide +kernel
theorem i26_28 : lk (mi_ins m26) 28 = some (.iconst 3, 1, []) := by decide +kernel
theorem i26_29 : lk (mi_ins m26) 29 = some (.invokevirtual 67, 3, []) := by decide +kernel
theorem i26_32 : lk (mi_ins m26) 32 = some (.ireturn, 1, []) := by decide +kernel
theorem i26_33 : lk (mi_ins m26) 33 = some (.iload_n 1, 1, []) := by decide +kernel
theorem i26_34 : lk (mi_ins m26) 34 = some (.ifCond .eq 17, 3, []) := by decide +kernel
theorem i26_37 : lk (mi_ins m26) 37 = some (.aload_n 0, 1, []) := by decide +kernel
theorem i26_38 : lk (mi_ins m26) 38 = some (.getfield 46, 3, []) := by decide +kernel
theorem i26_41 : lk (mi_ins m26) 41 = some (.ifCond .ne 10, 3, []) := by decide +kernel
theorem i26_44 : lk (mi_ins m26) 44 = some (.aload_n 0, 1, []) := by decide +kernel
theorem i26_45 : lk (mi_ins m26) 45 = some (.bipush 6, 2, []) := by decide +kernel
theorem i26_47 : lk (mi_ins m26) 47 = some (.invokevirtual 67, 3, []) := by decide +kernel
theorem i26_50 : lk (mi_ins m26) 50 = some (.ireturn, 1, []) := by decide +kernel
theorem i26_51 : lk (mi_ins m26) 51 = some (.aload_n 0, 1, []) := by decide +kernel
theorem i26_52 : lk (mi_ins m26) 52 = some (.iload_n 1, 1, []) := by decide +kernel
theorem i26_53 : lk (mi_ins m26) 53 = some (.invokevirtual 81, 3, []) := by decide +kernel
theorem i26_56 : lk (mi_ins m26) 56 = some (.ifCond .ne 9, 3, []) := by decide +kernel
theorem i26_59 : lk (mi_ins m26) 59 = some (.aload_n 0, 1, []) := by decide +kernel
theorem i26_60 : lk (mi_ins m26) 60 = some (.iconst 5, 1, []) := by decide +kernel
theorem i26_61 : lk (mi_ins m26) 61 = some (.invokevirtual 67, 3, []) := by decide +kernel
theorem i26_64 : lk (mi_ins m26) 64 = some (.ireturn, 1, []) := by decide +kernel
theorem i26_65 : lk (mi_ins m26) 65 = some (.aload_n 0, 1, []) := by decide +kernel
theorem i26_66 : lk (mi_ins m26) 66 = some (.getfield 14, 3, []) := by decide +kernel
theorem i26_69 : lk (mi_ins m26) 69 = some (.invokevirtual 64, 3, []) := by decide +kernel
theorem i26_72 : lk (mi_ins m26) 72 = some (.iload_n 1, 1, []) := by decide +kernel
theorem i26_73 : lk (mi_ins m26) 73 = some (.tableswitch 87 0 7 #[47, 52, 57, 62, 67, 72, 77, 82], 47, []) := by decide +kernel
theorem i26_120 : lk (mi_ins m26) 120 = some (.aload_n 0, 1, []) := by decide +kernel
theorem i26_121 : lk (mi_ins m26) 121 = some (.invokevirtual 84, 3, []) := by decide +kernel
theorem i26_124 : lk (mi_ins m26) 124 = some (.ireturn, 1, []) := by decide +kernel
theorem i26_125 : lk (mi_ins m26) 125 = some (.aload_n 0, 1, []) := by decide +kernel
theorem i26_126 : lk (mi_ins m26) 126 = some (.invokevirtual 87, 3, []) := by decide +kernel
theorem i26_129 : lk (mi_ins m26) 129 = some (.ireturn, 1, []) := by decide +kernel
theorem i26_130 : lk (mi_ins m26) 130 = some (.aload_n 0, 1, []) := by decide +kernel
theorem i26_131 : lk (mi_ins m26) 131 = some (.invokevirtual 90, 3, []) := by decide +kernel
theorem i26_134 : lk (mi_ins m26) 134 = some (.ireturn, 1, []) := by decide +kernel
theorem i26_135 : lk (mi_ins m26) 135 = some (.aload_n 0, 1, []) := by decide +kernel
theorem i26_136 : lk (mi_ins m26) 136 = some (.invokevirtual 93, 3, []) := by decide +kernel
theorem i26_139 : lk (mi_ins m26) 139 = some (.ireturn, 1, []) := by decide +kernel
theorem i26_140 : lk (mi_ins m26) 140 = some (.aload_n 0, 1, []) := by decide +kernel
theorem i26_141 : lk (mi_ins m26) 141 = some (.invokevirtual 96, 3, []) := by decide +kernel
theorem i26_144 : lk (mi_ins m26) 144 = some (.ireturn, 1, []) := by decide +kernel
theorem i26_145 : lk (mi_ins m26) 145 = some (.aload_n 0, 1, []) := by decide +kernel
theorem i26_146 : lk (mi_ins m26) 146 = some (.invokevirtual 99, 3, []) := by decide +kernel
theorem i26_149 : lk (mi_ins m26) 149 = some (.ireturn, 1, []) := by decide +kernel
theorem i26_150 : lk (mi_ins m26) 150 = some (.aload_n 0, 1, []) := by decide +kernel
theorem i26_151 : lk (mi_ins m26) 151 = some (.invokevirtual 102, 3, []) := by decide +kernel
theorem i26_154 : lk (mi_ins m26) 154 = some (.ireturn, 1, []) := by decide +kernel
theorem i26_155 : lk (mi_ins m26) 155 = some (.aload_n 0, 1, []) := by decide +kernel
theorem i26_156 : lk (mi_ins m26) 156 = some (.invokevirtual 105, 3, []) := by decide +kernel
theorem i26_159 : lk (mi_ins m26) 159 = some (.ireturn, 1, []) := by decide +kernel
theorem i26_160 : lk (mi_ins m26) 160 = some (.aload_n 0, 1, []) := by decide +kernel
theorem i26_161 : lk (mi_ins m26) 161 = some (.invokevirtual 108, 3, []) := by decide +kernel
theorem i26_164 : lk (mi_ins m26) 164 = some (.ireturn, 1, []) := by decide +kernel
theorem i27_0 : lk (mi_ins m27) 0 = some (.aload_n 0, 1, []) := by decide +kernel
theorem i27_1 : lk (mi_ins m27) 1 = some (.getfield 14, 3, []) := by decide +kernel
theorem i27_4 : lk (mi_ins m27) 4 = some (.ldc 111, 2, []) := by decide +kernel
theorem i27_6 : lk (mi_ins m27) 6 = some (.invokevirtual 113, 3, []) := by decide +kernel
theorem i27_9 : lk (mi_ins m27) 9 = some (.ifCond .eq 5, 3, []) := by decide +kernel
theorem i27_12 : lk (mi_ins m27) 12 = some (.iconst 0, 1, []) := by decide +kernel
theorem i27_13 : lk (mi_ins m27) 13 = some (.ireturn, 1, []) := by decide +kernel
theorem i27_14 : lk (mi_ins m27) 14 = some (.aload_n 0, 1, []) := by decide +kernel
theorem i27_15 : lk (mi_ins m27) 15 = some (.getfield 14, 3, []) := by decide +kernel
theorem i27_18 : lk (mi_ins m27) 18 = some (.ldc 117, 2, []) := by decide +kernel
theorem i27_20 : lk (mi_ins m27) 20 = some (.invokevirtual 113, 3, []) := by decide +kernel
theorem i27_23 : lk (mi_ins m27) 23 = some (.ifCond .eq 5, 3, []) := by decide +kernel
theorem i27_26 : lk (mi_ins m27) 26 = some (.iconst 1, 1, []) := by decide +kernel
theorem i27_27 : lk (mi_ins m27) 27 = some (.ireturn, 1, []) := by decide +kernel
theorem i27_28 : lk (mi_ins m27) 28 = some (.aload_n 0, 1, []) := by decide +kernel
theorem i27_29 : lk (mi_ins m27) 29 = some (.getfield 14, 3, []) := by decide +kernel
theorem i27_32 : lk (mi_ins m27) 32 = some (.ldc 119, 2, []) := by decide +kernel
theorem i27_34 : lk (mi_ins m27) 34 = some (.invokevirtual 113, 3, []) := by decide +kernel
theorem i27_37 : lk (mi_ins m27) 37 = some (.ifCond .eq 5, 3, []) := by decide +kernel
theorem i27_40 : lk (mi_ins m27) 40 = some (.iconst 2, 1, []) := by decide +kernel
theorem i27_41 : lk (mi_ins m27) 41 = some (.ireturn, 1, []) := by decide +kernel
theorem i27_42 : lk (mi_ins m27) 42 = some (.aload_n 0, 1, []) := by decide +kernel
theorem i27_43 : lk (mi_ins m27) 43 = some (.getfield 14, 3, []) := by decide +kernel
theorem i27_46 : lk (mi_ins m27) 46 = some (.ldc 121, 2, []) := by decide +kernel
theorem i27_48 : lk (mi_ins m27) 48 = some (.invokevirtual 113, 3, []) := by decide +kernel
theorem i27_51 : lk (mi_ins m27) 51 = some (.ifCond .eq 5, 3, []) := by decide +kernel
theorem i27_54 : lk (mi_ins m27) 54 = some (.iconst 3, 1, []) := by decide +kernel
theorem i27_55 : lk (mi_ins m27) 55 = some (.ireturn, 1, []) := by decide +kernel
theorem i27_56 : lk (mi_ins m27) 56 = some (.aload_n 0, 1, []) := by decide +kernel
theorem i27_57 : lk (mi_ins m27) 57 = some (.getfield 14, 3, []) := by decide +kernel
theorem i27_60 : lk (mi_ins m27) 60 = some (.ldc 123, 2, []) := by decide +kernel
theorem i27_62 : lk (mi_ins m27) 62 = some (.invokevirtual 113, 3, []) := by decide +kernel
theorem i27_65 : lk (mi_ins m27) 65 = some (.ifCond .eq 5, 3, []) := by decide +kernel
theorem i27_68 : lk (mi_ins m27) 68 = some (.iconst 4, 1, []) := by decide +kernel
theorem i27_69 : lk (mi_ins m27) 69 = some (.ireturn, 1, []) := by decide +kernel
theorem i27_70 : lk (mi_ins m27) 70 = some (.aload_n 0, 1, []) := by decide +kernel
theorem i27_71 : lk (mi_ins m27) 71 = some (.getfield 14, 3, []) := by decide +kernel
theorem i27_74 : lk (mi_ins m27) 74 = some (.ldc 125, 2, []) := by decide +kernel
theorem i27_76 : lk (mi_ins m27) 76 = some (.invokevirtual 113, 3, []) := by decide +kernel
theorem i27_79 : lk (mi_ins m27) 79 = some (.ifCond .eq 5, 3, []) := by decide +kernel
theorem i27_82 : lk (mi_ins m27) 82 = some (.iconst 5, 1, []) := by decide +kernel
theorem i27_83 : lk (mi_ins m27) 83 = some (.ireturn, 1, []) := by decide +kernel
theorem i27_84 : lk (mi_ins m27) 84 = some (.aload_n 0, 1, []) := by decide +kernel
theorem i27_85 : lk (mi_ins m27) 85 = some (.getfield 14, 3, []) := by decide +kernel
theorem i27_88 : lk (mi_ins m27) 88 = some (.ldc 127, 2, []) := by decide +kernel
theorem i27_90 : lk (mi_ins m27) 90 = some (.invokevirtual 113, 3, []) := by decide +kernel
theorem i27_93 : lk (mi_ins m27) 93 = some (.ifCond .eq 6, 3, []) := by decide +kernel
theorem i27_96 : lk (mi_ins m27) 96 = some (.bipush 6, 2, []) := by decide +kernel
theorem i27_98 : lk (mi_ins m27) 98 = some (.ireturn, 1, []) := by decide +kernel
theorem i27_99 : lk (mi_ins m27) 99 = some (.aload_n 0, 1, []) := by decide +kernel
theorem i27_100 : lk (mi_ins m27) 100 = some (.getfield 14, 3, []) := by decide +kernel
theorem i27_103 : lk (mi_ins m27) 103 = some (.ldc 129, 2, []) := by decide +kernel
theorem i27_105 : lk (mi_ins m27) 105 = some (.invokevirtual 113, 3, []) := by decide +kernel
theorem i27_108 : lk (mi_ins m27) 108 = some (.ifCond .eq 6, 3, []) := by decide +kernel
theorem i27_111 : lk (mi_ins m27) 111 = some (.bipush 7, 2, []) := by decide +kernel
theorem i27_113 : lk (mi_ins m27) 113 = some (.ireturn, 1, []) := by decide +kernel
theorem i27_114 : lk (mi_ins m27) 114 = some (.aload_n 0, 1, []) := by decide +kernel
theorem i27_115 : lk (mi_ins m27) 115 = some (.getfield 14, 3, []) := by decide +kernel
theorem i27_118 : lk (mi_ins m27) 118 = some (.ldc 131, 2, []) := by decide +kernel
theorem i27_120 : lk (mi_ins m27) 120 = some (.invokevirtual 113, 3, []) := by decide +kernel
theorem i27_123 : lk (mi_ins m27) 123 = some (.ifCond .eq 8, 3, []) := by decide +kernel
theorem i27_126 : lk (mi_ins m27) 126 = some (.bipush 8, 2, []) := by decide +kernel
theorem i27_128 : lk (mi_ins m27) 128 = some (.goto 4, 3, []) := by decide +kernel
theorem i27_131 : lk (mi_ins m27) 131 = some (.iconst (-1), 1, []) := by decide +kernel
theorem i27_132 : lk (mi_ins m27) 132 = some (.ireturn, 1, [0]) := by decide +kernel
theorem i28_0 : lk (mi_ins m28) 0 = some (.aload_n 0, 1, []) := by decide +kernel
theorem i28_1 : lk (mi_ins m28) 1 = some (.getfield 42, 3, []) := by decide +kernel
theorem i28_4 : lk (mi_ins m28) 4 = some (.ifCond .ne 19, 3, []) := by decide +kernel
theorem i28_7 : lk (mi_ins m28) 7 = some (.aload_n 1, 1, []) := by decide +kernel
theorem i28_8 : lk (mi_ins m28) 8 = some (.invokevirtual 51, 3, []) := by decide +kernel
theorem i28_11 : lk (mi_ins m28) 11 = some (.aload_n 0, 1, []) := by decide +kernel
theorem i28_12 : lk (mi_ins m28) 12 = some (.getfield 23, 3, []) := by decide +kernel
theorem i28_15 : lk (mi_ins m28) 15 = some (.aload_n 0, 1, []) := by decide +kernel
theorem i28_16 : lk (mi_ins m28) 16 = some (.getfield 29, 3, []) := by decide +kernel
theorem i28_19 : lk (mi_ins m28) 19 = some (.isub, 1, []) := by decide +kernel
theorem i28_20 : lk (mi_ins m28) 20 = some (.if_icmp .eq 5, 3, []) := by decide +kernel
theorem i28_23 : lk (mi_ins m28) 23 = some (.iconst 0, 1, [0, 1, 2]) := by decide +kernel
theorem i28_24 : lk (mi_ins m28) 24 = some (.ireturn, 1, []) := by decide +kernel
theorem i28_25 : lk (mi_ins m28) 25 = some (.iconst 0, 1, []) := by decide +kernel
theorem i28_26 : lk (mi_ins m28) 26 = some (.istore_n 2, 1, []) := by decide +kernel
theorem i28_27 : lk (mi_ins m28) 27 = some (.iload_n 2, 1, []) := by decide +kernel
theorem i28_28 : lk (mi_ins m28) 28 = some (.aload_n 1, 1, []) := by decide +kernel
theorem i28_29 : lk (mi_ins m28) 29 = some (.invokevirtual 51, 3, []) := by decide +kernel
theorem i28_32 : lk (mi_ins m28) 32 = some (.if_icmp .ge 30, 3, []) := by decide +kernel
theorem i28_35 : lk (mi_ins m28) 35 = some (.aload_n 1, 1, []) := by decide +kernel
theorem i28_36 : lk (mi_ins m28) 36 = some (.iload_n 2, 1, []) := by decide +kernel
theorem i28_37 : lk (mi_ins m28) 37 = some (.invokevirtual 57, 3, []) := by decide +kernel
theorem i28_40 : lk (mi_ins m28) 40 = some (.aload_n 0, 1, []) := by decide +kernel
theorem i28_41 : lk (mi_ins m28) 41 = some (.getfield 7, 3, []) := by decide +kernel
theorem i28_44 : lk (mi_ins m28) 44 = some (.aload_n 0, 1, []) := by decide +kernel
theorem i28_45 : lk (mi_ins m28) 45 = some (.getfield 29, 3, []) := by decide +kernel
theorem i28_48 : lk (mi_ins m28) 48 = some (.iload_n 2, 1, []) := by decide +kernel
theorem i28_49 : lk (mi_ins m28) 49 = some (.iadd, 1, []) := by decide +kernel
theorem i28_50 : lk (mi_ins m28) 50 = some (.baload, 1, []) := by decide +kernel
theorem i28_51 : lk (mi_ins m28) 51 = some (.if_icmp .eq 5, 3, []) := by decide +kernel
theorem i28_54 : lk (mi_ins m28) 54 = some (.iconst 0, 1, []) := by decide +kernel
theorem i28_55 : lk (mi_ins m28) 55 = some (.ireturn, 1, []) := by decide +kernel
theorem i28_56 : lk (mi_ins m28) 56 = some (.iinc 2 1, 3, []) := by decide +kernel
theorem i28_59 : lk (mi_ins m28) 59 = some (.goto (-32), 3, []) := by decide +kernel
theorem i28_62 : lk (mi_ins m28) 62 = some (.iconst 1, 1, [0, 1, 2]) := by decide +kernel
theorem i28_63 : lk (mi_ins m28) 63 = some (.ireturn, 1, []) := by decide +kernel
theorem i29_0 : lk (mi_ins m29) 0 = some (.aload_n 0, 1, []) := by decide +kernel
theorem i29_1 : lk (mi_ins m29) 1 = some (.getfield 9, 3, []) := by decide +kernel
theorem i29_4 : lk (mi_ins m29) 4 = some (.arraylength, 1, []) := by decide +kernel
theorem i29_5 : lk (mi_ins m29) 5 = some (.aload_n 0, 1, []) := by decide +kernel
theorem i29_6 : lk (mi_ins m29) 6 = some (.invokevirtual 335, 3, []) := by decide +kernel
theorem i29_9 : lk (mi_ins m29) 9 = some (.ishr, 1, []) := by decide +kernel
theorem i29_10 : lk (mi_ins m29) 10 = some (.ireturn, 1, []) := by decide +kernel
theorem i30_0 : lk (mi_ins m30) 0 = some (.getstatic 38, 3, []) := by decide +kernel
theorem i30_3 : lk (mi_ins m30) 3 = some (.ifCond .eq 10, 3, []) := by decide +kernel
theorem i30_6 : lk (mi_ins m30) 6 = some (.aload_n 0, 1, []) := by decide +kernel
theorem i30_7 : lk (mi_ins m30) 7 = some (.getfield 15, 3, []) := by decide +kernel
theorem i30_10 : lk (mi_ins m30) 10 = some (.goto 4, 3, []) := by decide +kernel
theorem i30_13 : lk (mi_ins m30) 13 = some (.iconst 1, 1, []) := by decide +kernel
theorem i30_14 : lk (mi_ins m30) 14 = some (.ireturn, 1, [0]) := by decide +kernel
theorem i31_0 : lk (mi_ins m31) 0 = some (.aload_n 0, 1, []) := by decide +kernel
theorem i31_1 : lk (mi_ins m31) 1 = some (.invokevirtual 492, 3, []) := by decide +kernel
theorem i31_4 : lk (mi_ins m31) 4 = some (.ifCond .eq 12, 3, []) := by decide +kernel
theorem i31_7 : lk (mi_ins m31) 7 = some (.aload_n 0, 1, []) := by decide +kernel
theorem i31_8 : lk (mi_ins m31) 8 = some (.getfield 9, 3, []) := by decide +kernel
theorem i31_11 : lk (mi_ins m31) 11 = some (.iload_n 1, 1, []) := by decide +kernel
theorem i31_12 : lk (mi_ins m31) 12 = some (.invokestatic 495, 3, []) := by decide +kernel
theorem i31_15 : lk (mi_ins m31) 15 = some (.ireturn, 1, []) := by decide +kernel
theorem i31_16 : lk (mi_ins m31) 16 = some (.aload_n 0, 1, []) := by decide +kernel
theorem i31_17 : lk (mi_ins m31) 17 = some (.getfield 9, 3, []) := by decide +kernel
theorem i31_20 : lk (mi_ins m31) 20 = some (.iload_n 1, 1, []) := by decide +kernel
theorem i31_21 : lk (mi_ins m31) 21 = some (.invokestatic 498, 3, []) := by decide +kernel
theorem i32_0 : lk (mi_ins m32) 0 = some (.getstatic 38, 3, []) := by decide +kernel
theorem i32_3 : lk (mi_ins m32) 3 = some (.ifCond .eq 14, 3, []) := by decide +kernel
theorem i32_6 : lk (mi_ins m32) 6 = some (.aload_n 0, 1, []) := by decide +kernel
theorem i32_7 : lk (mi_ins m32) 7 = some (.getfield 15, 3, []) := by decide +kernel
theorem i32_10 : lk (mi_ins m32) 10 = some (.ifCond .ne 7, 3, []) := by decide +kernel
theorem i32_13 : lk (mi_ins m32) 13 = some (.iconst 1, 1, []) := by decide +kernel
theorem i32_14 : lk (mi_ins m32) 14 = some (.goto 4, 3, []) := by decide +kernel
theorem i32_17 : lk (mi_ins m32) 17 = some (.iconst 0, 1, [0]) := by decide +kernel
theorem i32_18 : lk (mi_ins m32) 18 = some (.ireturn, 1, [0]) := by decide +kernel
theorem i33_0 : lk (mi_ins m33) 0 = some (.iload_n 1, 1, []) := by decide +kernel
theorem i33_1 : lk (mi_ins m33) 1 = some (.aload_n 0, 1, []) := by decide +kernel
theorem i33_2 : lk (mi_ins m33) 2 = some (.arraylength, 1, []) := by decide +kernel
theorem i33_3 : lk (mi_ins m33) 3 = some (.invokestatic 9, 3, []) := by decide +kernel
theorem i33_6 : lk (mi_ins m33) 6 = some (.aload_n 0, 1, []) := by decide +kernel
theorem i33_7 : lk (mi_ins m33) 7 = some (.iload_n 1, 1, []) := by decide +kernel
theorem i33_8 : lk (mi_ins m33) 8 = some (.baload, 1, []) := by decide +kernel
theorem i33_9 : lk (mi_ins m33) 9 = some (.sipush 255, 3, []) := by decide +kernel
theorem i33_12 : lk (mi_ins m33) 12 = some (.iand, 1, []) := by decide +kernel
theorem i33_13 : lk (mi_ins m33) 13 = some (.i2c, 1, []) := by decide +kernel
theorem i33_14 : lk (mi_ins m33) 14 = some (.ireturn, 1, []) := by decide +kernel
theorem i34_0 : lk (mi_ins m34) 0 = some (.iload_n 0, 1, []) := by decide +kernel
theorem i34_1 : lk (mi_ins m34) 1 = some (.iload_n 1, 1, []) := by decide +kernel
theorem i34_2 : lk (mi_ins m34) 2 = some (.getstatic 1053, 3, []) := by decide +kernel
theorem i34_5 : lk (mi_ins m34) 5 = some (.invokestatic 1059, 3, []) := by decide +kernel
theorem i34_8 : lk (mi_ins m34) 8 = some (.pop, 1, []) := by decide +kernel
theorem i34_9 : lk (mi_ins m34) 9 = some (.return_, 1, []) := by decide +kernel
theorem i35_0 : lk (mi_ins m35) 0 = some (.iload_n 0, 1, []) := by decide +kernel
theorem i35_1 : lk (mi_ins m35) 1 = some (.ifCond .lt 8, 3, []) := by decide +kernel
theorem i35_4 : lk (mi_ins m35) 4 = some (.iload_n 0, 1, []) := by decide +kernel
theorem i35_5 : lk (mi_ins m35) 5 = some (.iload_n 1, 1, []) := by decide +kernel
theorem i35_6 : lk (mi_ins m35) 6 = some (.if_icmp .lt 10, 3, []) := by decide +kernel
theorem i35_9 : lk (mi_ins m35) 9 = some (.aload_n 2, 1, []) := by decide +kernel
theorem i35_10 : lk (mi_ins m35) 10 = some (.iload_n 0, 1, []) := by decide +kernel
theorem i35_11 : lk (mi_ins m35) 11 = some (.iload_n 1, 1, []) := by decide +kernel
theorem i35_12 : lk (mi_ins m35) 12 = some (.invokestatic 95, 3, []) := by decide +kernel
theorem i35_16 : lk (mi_ins m35) 16 = some (.iload_n 0, 1, []) := by decide +kernel
theorem i35_17 : lk (mi_ins m35) 17 = some (.ireturn, 1, []) := by decide +kernel
theorem i36_0 : lk (mi_ins m36) 0 = some (.aload_n 0, 1, []) := by decide +kernel
theorem i36_1 : lk (mi_ins m36) 1 = some (.iload_n 1, 1, []) := by decide +kernel
theorem i36_2 : lk (mi_ins m36) 2 = some (.putfield 39, 3, []) := by decide +kernel
theorem i36_5 : lk (mi_ins m36) 5 = some (.aload_n 0, 1, []) := by decide +kernel
theorem i36_6 : lk (mi_ins m36) 6 = some (.aload_n 0, 1, []) := by decide +kernel
theorem i36_7 : lk (mi_ins m36) 7 = some (.getfield 14, 3, []) := by decide +kernel
theorem i36_10 : lk (mi_ins m36) 10 = some (.getfield 74, 3, []) := by decide +kernel
theorem i36_13 : lk (mi_ins m36) 13 = some (.putfield 43, 3, []) := by decide +kernel
theorem i36_16 : lk (mi_ins m36) 16 = some (.iconst 0, 1, []) := by decide +kernel
theorem i36_17 : lk (mi_ins m36) 17 = some (.ireturn, 1, []) := by decide +kernel
theorem i37_0 : lk (mi_ins m37) 0 = some (.iload_n 1, 1, []) := by decide +kernel
theorem i37_1 : lk (mi_ins m37) 1 = some (.tableswitch 148 1 7 #[43, 60, 148, 77, 94, 111, 128], 43, []) := by decide +kernel
theorem i37_44 : lk (mi_ins m37) 44 = some (.aload_n 0, 1, []) := by decide +kernel
theorem i37_45 : lk (mi_ins m37) 45 = some (.getfield 21, 3, []) := by decide +kernel
theorem i37_48 : lk (mi_ins m37) 48 = some (.getfield 71, 3, []) := by decide +kernel
theorem i37_51 : lk (mi_ins m37) 51 = some (.iconst 5, 1, []) := by decide +kernel
theorem i37_52 : lk (mi_ins m37) 52 = some (.if_icmp .ge 7, 3, []) := by decide +kernel
theorem i37_55 : lk (mi_ins m37) 55 = some (.iconst 1, 1, []) := by decide +kernel
theorem i37_56 : lk (mi_ins m37) 56 = some (.goto 4, 3, []) := by decide +kernel
theorem i37_59 : lk (mi_ins m37) 59 = some (.iconst 0, 1, []) := by decide +kernel
theorem i37_60 : lk (mi_ins m37) 60 = some (.ireturn, 1, [0, 1]) := by decide +kernel
theorem i37_61 : lk (mi_ins m37) 61 = some (.aload_n 0, 1, []) := by decide +kernel
theorem i37_62 : lk (mi_ins m37) 62 = some (.getfield 21, 3, []) := by decide +kernel
theorem i37_65 : lk (mi_ins m37) 65 = some (.getfield 133, 3, []) := by decide +kernel
theorem i37_68 : lk (mi_ins m37) 68 = some (.iconst 5, 1, []) := by decide +kernel
theorem i37_69 : lk (mi_ins m37) 69 = some (.if_icmp .ge 7, 3, []) := by decide +kernel
theorem i37_72 : lk (mi_ins m37) 72 = some (.iconst 1, 1, []) := by decide +kernel
theorem i37_73 : lk (mi_ins m37) 73 = some (.goto 4, 3, []) := by decide +kernel
theorem i37_76 : lk (mi_ins m37) 76 = some (.iconst 0, 1, []) := by decide +kernel
theorem i37_77 : lk (mi_ins m37) 77 = some (.ireturn, 1, [0, 1]) := by decide +kernel
theorem i37_78 : lk (mi_ins m37) 78 = some (.aload_n 0, 1, []) := by decide +kernel
theorem i37_79 : lk (mi_ins m37) 79 = some (.getfield 21, 3, []) := by decide +kernel
theorem i37_82 : lk (mi_ins m37) 82 = some (.getfield 136, 3, []) := by decide +kernel
theorem i37_85 : lk (mi_ins m37) 85 = some (.iconst 3, 1, []) := by decide +kernel
theorem i37_86 : lk (mi_ins m37) 86 = some (.if_icmp .ge 7, 3, []) := by decide +kernel
theorem i37_89 : lk (mi_ins m37) 89 = some (.iconst 1, 1, []) := by decide +kernel
theorem i37_90 : lk (mi_ins m37) 90 = some (.goto 4, 3, []) := by decide +kernel
theorem i37_93 : lk (mi_ins m37) 93 = some (.iconst 0, 1, []) := by decide +kernel
theorem i37_94 : lk (mi_ins m37) 94 = some (.ireturn, 1, [0, 1]) := by decide +kernel
theorem i37_95 : lk (mi_ins m37) 95 = some (.aload_n 0, 1, []) := by decide +kernel
theorem i37_96 : lk (mi_ins m37) 96 = some (.getfield 21, 3, []) := by decide +kernel
theorem i37_99 : lk (mi_ins m37) 99 = some (.getfield 139, 3, []) := by decide +kernel
theorem i37_102 : lk (mi_ins m37) 102 = some (.iconst 3, 1, []) := by decide +kernel
theorem i37_103 : lk (mi_ins m37) 103 = some (.if_icmp .ge 7, 3, []) := by decide +kernel
theorem i37_106 : lk (mi_ins m37) 106 = some (.iconst 1, 1, []) := by decide +kernel
theorem i37_107 : lk (mi_ins m37) 107 = some (.goto 4, 3, []) := by decide +kernel
theorem i37_110 : lk (mi_ins m37) 110 = some (.iconst 0, 1, []) := by decide +kernel
theorem i37_111 : lk (mi_ins m37) 111 = some (.ireturn, 1, [0, 1]) := by decide +kernel
theorem i37_112 : lk (mi_ins m37) 112 = some (.aload_n 0, 1, []) := by decide +kernel
theorem i37_113 : lk (mi_ins m37) 113 = some (.getfield 21, 3, []) := by decide +kernel
theorem i37_116 : lk (mi_ins m37) 116 = some (.getfield 142, 3, []) := by decide +kernel
theorem i37_119 : lk (mi_ins m37) 119 = some (.iconst 4, 1, []) := by decide +kernel
theorem i37_120 : lk (mi_ins m37) 120 = some (.if_icmp .ge 7, 3, []) := by decide +kernel
theorem i37_123 : lk (mi_ins m37) 123 = some (.iconst 1, 1, []) := by decide +kernel
theorem i37_124 : lk (mi_ins m37) 124 = some (.goto 4, 3, []) := by decide +kernel
theorem i37_127 : lk (mi_ins m37) 127 = some (.iconst 0, 1, []) := by decide +kernel
theorem i37_128 : lk (mi_ins m37) 128 = some (.ireturn, 1, [0, 1]) := by decide +kernel
theorem i37_129 : lk (mi_ins m37) 129 = some (.aload_n 0, 1, []) := by decide +kernel
theorem i37_130 : lk (mi_ins m37) 130 = some (.getfield 21, 3, []) := by decide +kernel
theorem i37_133 : lk (mi_ins m37) 133 = some (.getfield 145, 3, []) := by decide +kernel
theorem i37_136 : lk (mi_ins m37) 136 = some (.getfield 149, 3, []) := by decide +kernel
theorem i37_139 : lk (mi_ins m37) 139 = some (.iconst 4, 1, []) := by decide +kernel
theorem i37_140 : lk (mi_ins m37) 140 = some (.if_icmp .ge 7, 3, []) := by decide +kernel
theorem i37_143 : lk (mi_ins m37) 143 = some (.iconst 1, 1, []) := by decide +kernel
theorem i37_144 : lk (mi_ins m37) 144 = some (.goto 4, 3, []) := by decide +kernel
theorem i37_147 : lk (mi_ins m37) 147 = some (.iconst 0, 1, []) := by decide +kernel
theorem i37_148 : lk (mi_ins m37) 148 = some (.ireturn, 1, [0, 1]) := by decide +kernel
theorem i37_149 : lk (mi_ins m37) 149 = some (.iconst 1, 1, [0, 1]) := by decide +kernel
theorem i37_150 : lk (mi_ins m37) 150 = some (.ireturn, 1, []) := by decide +kernel
theorem i38_0 : lk (mi_ins m38) 0 = some (.aload_n 0, 1, []) := by decide +kernel
theorem i38_1 : lk (mi_ins m38) 1 = some (.ldc 153, 2, []) := by decide +kernel
theorem i38_3 : lk (mi_ins m38) 3 = some (.invokevirtual 155, 3, []) := by decide +kernel
theorem i38_6 : lk (mi_ins m38) 6 = some (.ifCond .eq 13, 3, []) := by decide +kernel
theorem i38_9 : lk (mi_ins m38) 9 = some (.aload_n 0, 1, []) := by decide +kernel
theorem i38_10 : lk (mi_ins m38) 10 = some (.iconst 0, 1, []) := by decide +kernel
theorem i38_11 : lk (mi_ins m38) 11 = some (.bipush 100, 2, []) := by decide +kernel
theorem i38_13 : lk (mi_ins m38) 13 = some (.invokevirtual 158, 3, []) := by decide +kernel
theorem i38_16 : lk (mi_ins m38) 16 = some (.ifCond .ne 5, 3, []) := by decide +kernel
theorem i38_19 : lk (mi_ins m38) 19 = some (.iconst 0, 1, [0]) := by decide +kernel
theorem i38_20 : lk (mi_ins m38) 20 = some (.ireturn, 1, []) := by decide +kernel
theorem i38_21 : lk (mi_ins m38) 21 = some (.aload_n 0, 1, []) := by decide +kernel
theorem i38_22 : lk (mi_ins m38) 22 = some (.getfield 21, 3, []) := by decide +kernel
theorem i38_25 : lk (mi_ins m38) 25 = some (.aload_n 0, 1, []) := by decide +kernel
theorem i38_26 : lk (mi_ins m38) 26 = some (.getfield 162, 3, []) := by decide +kernel
theorem i38_29 : lk (mi_ins m38) 29 = some (.putfield 165, 3, []) := by decide +kernel
theorem i38_32 : lk (mi_ins m38) 32 = some (.aload_n 0, 1, []) := by decide +kernel
theorem i38_33 : lk (mi_ins m38) 33 = some (.iconst 1, 1, []) := by decide +kernel
theorem i38_34 : lk (mi_ins m38) 34 = some (.putfield 46, 3, []) := by decide +kernel
theorem i38_37 : lk (mi_ins m38) 37 = some (.iconst 1, 1, []) := by decide +kernel
theorem i38_38 : lk (mi_ins m38) 38 = some (.ireturn, 1, []) := by decide +kernel
theorem i39_0 : lk (mi_ins m39) 0 = some (.aload_n 0, 1, []) := by decide +kernel
theorem i39_1 : lk (mi_ins m39) 1 = some (.getfield 14, 3, []) := by decide +kernel
theorem i39_4 : lk (mi_ins m39) 4 = some (.aload_n 1, 1, []) := by decide +kernel
theorem i39_5 : lk (mi_ins m39) 5 = some (.invokevirtual 113, 3, []) := by decide +kernel
theorem i39_8 : lk (mi_ins m39) 8 = some (.ifCond .ne 9, 3, []) := by decide +kernel
theorem i39_11 : lk (mi_ins m39) 11 = some (.aload_n 0, 1, []) := by decide +kernel
theorem i39_12 : lk (mi_ins m39) 12 = some (.iconst 1, 1, []) := by decide +kernel
theorem i39_13 : lk (mi_ins m39) 13 = some (.invokevirtual 67, 3, []) := by decide +kernel
theorem i39_16 : lk (mi_ins m39) 16 = some (.ireturn, 1, []) := by decide +kernel
theorem i39_17 : lk (mi_ins m39) 17 = some (.aload_n 0, 1, []) := by decide +kernel
theorem i39_18 : lk (mi_ins m39) 18 = some (.getfield 14, 3, []) := by decide +kernel
theorem i39_21 : lk (mi_ins m39) 21 = some (.invokevirtual 64, 3, []) := by decide +kernel
theorem i39_24 : lk (mi_ins m39) 24 = some (.iconst 1, 1, []) := by decide +kernel
theorem i39_25 : lk (mi_ins m39) 25 = some (.ireturn, 1, []) := by decide +kernel
theorem i40_0 : lk (mi_ins m40) 0 = some (.aload_n 0, 1, []) := by decide +kernel
theorem i40_1 : lk (mi_ins m40) 1 = some (.getfield 14, 3, []) := by decide +kernel
theorem i40_4 : lk (mi_ins m40) 4 = some (.getfield 61, 3, []) := by decide +kernel
theorem i40_7 : lk (mi_ins m40) 7 = some (.iconst 1, 1, []) := by decide +kernel
theorem i40_8 : lk (mi_ins m40) 8 = some (.if_icmp .eq 9, 3, []) := by decide +kernel
theorem i40_11 : lk (mi_ins m40) 11 = some (.aload_n 0, 1, []) := by decide +kernel
theorem i40_12 : lk (mi_ins m40) 12 = some (.iconst 1, 1, []) := by decide +kernel
theorem i40_13 : lk (mi_ins m40) 13 = some (.invokevirtual 67, 3, []) := by decide +kernel
theorem i40_16 : lk (mi_ins m40) 16 = some (.ireturn, 1, []) := by decide +kernel
theorem i40_17 : lk (mi_ins m40) 17 = some (.aload_n 0, 1, []) := by decide +kernel
theorem i40_18 : lk (mi_ins m40) 18 = some (.getfield 14, 3, []) := by decide +kernel
theorem i40_21 : lk (mi_ins m40) 21 = some (.getfield 261, 3, []) := by decide +kernel
theorem i40_24 : lk (mi_ins m40) 24 = some (.iload_n 1, 1, []) := by decide +kernel
theorem i40_25 : lk (mi_ins m40) 25 = some (.if_icmp .lt 14, 3, []) := by decide +kernel
theorem i40_28 : lk (mi_ins m40) 28 = some (.aload_n 0, 1, []) := by decide +kernel
theorem i40_29 : lk (mi_ins m40) 29 = some (.getfield 14, 3, []) := by decide +kernel
theorem i40_32 : lk (mi_ins m40) 32 = some (.getfield 261, 3, []) := by decide +kernel
theorem i40_35 : lk (mi_ins m40) 35 = some (.iload_n 2, 1, []) := by decide +kernel
theorem i40_36 : lk (mi_ins m40) 36 = some (.if_icmp .le 9, 3, []) := by decide +kernel
theorem i40_39 : lk (mi_ins m40) 39 = some (.aload_n 0, 1, [1, 2]) := by decide +kernel
theorem i40_40 : lk (mi_ins m40) 40 = some (.iconst 4, 1, []) := by decide +kernel
theorem i40_41 : lk (mi_ins m40) 41 = some (.invokevirtual 67, 3, []) := by decide +kernel
theorem i40_44 : lk (mi_ins m40) 44 = some (.ireturn, 1, []) := by decide +kernel
theorem i40_45 : lk (mi_ins m40) 45 = some (.aload_n 0, 1, []) := by decide +kernel
theorem i40_46 : lk (mi_ins m40) 46 = some (.aload_n 0, 1, []) := by decide +kernel
theorem i40_47 : lk (mi_ins m40) 47 = some (.getfield 14, 3, []) := by decide +kernel
theorem i40_50 : lk (mi_ins m40) 50 = some (.getfield 261, 3, []) := by decide +kernel
theorem i40_53 : lk (mi_ins m40) 53 = some (.putfield 162, 3, []) := by decide +kernel
theorem i40_56 : lk (mi_ins m40) 56 = some (.aload_n 0, 1, []) := by decide +kernel
theorem i40_57 : lk (mi_ins m40) 57 = some (.getfield 14, 3, []) := by decide +kernel
theorem i40_60 : lk (mi_ins m40) 60 = some (.invokevirtual 64, 3, []) := by decide +kernel
theorem i40_63 : lk (mi_ins m40) 63 = some (.iconst 1, 1, []) := by decide +kernel
theorem i40_64 : lk (mi_ins m40) 64 = some (.ireturn, 1, []) := by decide +kernel
theorem i41_0 : lk (mi_ins m41) 0 = some (.aload_n 0, 1, []) := by decide +kernel
theorem i41_1 : lk (mi_ins m41) 1 = some (.getfield 21, 3, []) := by decide +kernel
theorem i41_4 : lk (mi_ins m41) 4 = some (.getfield 71, 3, []) := by decide +kernel
theorem i41_7 : lk (mi_ins m41) 7 = some (.istore_n 1, 1, []) := by decide +kernel
theorem i41_8 : lk (mi_ins m41) 8 = some (.aload_n 0, 1, []) := by decide +kernel
theorem i41_9 : lk (mi_ins m41) 9 = some (.iconst 1, 1, []) := by decide +kernel
theorem i41_10 : lk (mi_ins m41) 10 = some (.iload_n 1, 1, []) := by decide +kernel
theorem i41_11 : lk (mi_ins m41) 11 = some (.invokevirtual 167, 3, []) := by decide +kernel
theorem i41_14 : lk (mi_ins m41) 14 = some (.ifCond .ne 5, 3, []) := by decide +kernel
theorem i41_17 : lk (mi_ins m41) 17 = some (.iconst 0, 1, []) := by decide +kernel
theorem i41_18 : lk (mi_ins m41) 18 = some (.ireturn, 1, []) := by decide +kernel
theorem i41_19 : lk (mi_ins m41) 19 = some (.aload_n 0, 1, []) := by decide +kernel
theorem i41_20 : lk (mi_ins m41) 20 = some (.getfield 14, 3, []) := by decide +kernel
theorem i41_23 : lk (mi_ins m41) 23 = some (.ldc 170, 2, []) := by decide +kernel
theorem i41_25 : lk (mi_ins m41) 25 = some (.invokevirtual 113, 3, []) := by decide +kernel
theorem i41_28 : lk (mi_ins m41) 28 = some (.ifCond .eq 21, 3, []) := by decide +kernel
theorem i41_31 : lk (mi_ins m41) 31 = some (.aload_n 0, 1, []) := by decide +kernel
theorem i41_32 : lk (mi_ins m41) 32 = some (.getfield 21, 3, []) := by decide +kernel
theorem i41_35 : lk (mi_ins m41) 35 = some (.dup, 1, []) := by decide +kernel
theorem i41_36 : lk (mi_ins m41) 36 = some (.getfield 172, 3, []) := by decide +kernel
theorem i41_39 : lk (mi_ins m41) 39 = some (.iconst 1, 1, []) := by decide +kernel
theorem i41_40 : lk (mi_ins m41) 40 = some (.iload_n 1, 1, []) := by decide +kernel
theorem i41_41 : lk (mi_ins m41) 41 = some (.ishl, 1, []) := by decide +kernel
theorem i41_42 : lk (mi_ins m41) 42 = some (.ior, 1, []) := by decide +kernel
theorem i41_43 : lk (mi_ins m41) 43 = some (.putfield 172, 3, []) := by decide +kernel
theorem i41_46 : lk (mi_ins m41) 46 = some (.goto 21, 3, []) := by decide +kernel
theorem i41_49 : lk (mi_ins m41) 49 = some (.aload_n 0, 1, []) := by decide +kernel
theorem i41_50 : lk (mi_ins m41) 50 = some (.getfield 14, 3, []) := by decide +kernel
theorem i41_53 : lk (mi_ins m41) 53 = some (.ldc 175, 2, []) := by decide +kernel
theorem i41_55 : lk (mi_ins m41) 55 = some (.invokevirtual 113, 3, []) := by decide +kernel
theorem i41_58 : lk (mi_ins m41) 58 = some (.ifCond .ne 9, 3, []) := by decide +kernel
theorem i41_61 : lk (mi_ins m41) 61 = some (.aload_n 0, 1, []) := by decide +kernel
theorem i41_62 : lk (mi_ins m41) 62 = some (.iconst 1, 1, []) := by decide +kernel
theorem i41_63 : lk (mi_ins m41) 63 = some (.invokevirtual 67, 3, []) := by decide +kernel
theorem i41_66 : lk (mi_ins m41) 66 = some (.ireturn, 1, []) := by decide +kernel
theorem i41_67 : lk (mi_ins m41) 67 = some (.aload_n 0, 1, []) := by decide +kernel
theorem i41_68 : lk (mi_ins m41) 68 = some (.getfield 14, 3, []) := by decide +kernel
theorem i41_71 : lk (mi_ins m41) 71 = some (.invokevirtual 64, 3, []) := by decide +kernel
theorem i41_74 : lk (mi_ins m41) 74 = some (.aload_n 0, 1, []) := by decide +kernel
theorem i41_75 : lk (mi_ins m41) 75 = some (.ldc 177, 2, []) := by decide +kernel
theorem i41_77 : lk (mi_ins m41) 77 = some (.invokevirtual 155, 3, []) := by decide +kernel
theorem i41_80 : lk (mi_ins m41) 80 = some (.ifCond .eq 13, 3, []) := by decide +kernel
theorem i41_83 : lk (mi_ins m41) 83 = some (.aload_n 0, 1, []) := by decide +kernel
theorem i41_84 : lk (mi_ins m41) 84 = some (.iconst 0, 1, []) := by decide +kernel
theorem i41_85 : lk (mi_ins m41) 85 = some (.bipush 99, 2, []) := by decide +kernel
theorem i41_87 : lk (mi_ins m41) 87 = some (.invokevirtual 158, 3, []) := by decide +kernel
theorem i41_90 : lk (mi_ins m41) 90 = some (.ifCond .ne 5, 3, []) := by decide +kernel
theorem i41_93 : lk (mi_ins m41) 93 = some (.iconst 0, 1, [0, 1]) := by decide +kernel
theorem i41_94 : lk (mi_ins m41) 94 = some (.ireturn, 1, []) := by decide +kernel
theorem i41_95 : lk (mi_ins m41) 95 = some (.aload_n 0, 1, []) := by decide +kernel
theorem i41_96 : lk (mi_ins m41) 96 = some (.getfield 21, 3, []) := by decide +kernel
theorem i41_99 : lk (mi_ins m41) 99 = some (.getfield 179, 3, []) := by decide +kernel
theorem i41_102 : lk (mi_ins m41) 102 = some (.iload_n 1, 1, []) := by decide +kernel
theorem i41_103 : lk (mi_ins m41) 103 = some (.aload_n 0, 1, []) := by decide +kernel
theorem i41_104 : lk (mi_ins m41) 104 = some (.getfield 162, 3, []) := by decide +kernel
theorem i41_107 : lk (mi_ins m41) 107 = some (.iastore, 1, []) := by decide +kernel
theorem i41_108 : lk (mi_ins m41) 108 = some (.aload_n 0, 1, []) := by decide +kernel
theorem i41_109 : lk (mi_ins m41) 109 = some (.getfield 21, 3, []) := by decide +kernel
theorem i41_112 : lk (mi_ins m41) 112 = some (.dup, 1, []) := by decide +kernel
theorem i41_113 : lk (mi_ins m41) 113 = some (.getfield 71, 3, []) := by decide +kernel
theorem i41_116 : lk (mi_ins m41) 116 = some (.iconst 1, 1, []) := by decide +kernel
theorem i41_117 : lk (mi_ins m41) 117 = some (.iadd, 1, []) := by decide +kernel
theorem i41_118 : lk (mi_ins m41) 118 = some (.putfield 71, 3, []) := by decide +kernel
theorem i41_121 : lk (mi_ins m41) 121 = some (.iconst 1, 1, []) := by decide +kernel
theorem i41_122 : lk (mi_ins m41) 122 = some (.ireturn, 1, []) := by decide +kernel
theorem i42_0 : lk (mi_ins m42) 0 = some (.aload_n 0, 1, []) := by decide +kernel
theorem i42_1 : lk (mi_ins m42) 1 = some (.getfield 14, 3, []) := by decide +kernel
theorem i42_4 : lk (mi_ins m42) 4 = some (.getfield 61, 3, []) := by decide +kernel
theorem i42_7 : lk (mi_ins m42) 7 = some (.ifCond .ne 11, 3, []) := by decide +kernel
theorem i42_10 : lk (mi_ins m42) 10 = some (.aload_n 0, 1, []) := by decide +kernel
theorem i42_11 : lk (mi_ins m42) 11 = some (.invokevirtual 77, 3, []) := by decide +kernel
theorem i42_14 : lk (mi_ins m42) 14 = some (.iconst (-1), 1, []) := by decide +kernel
theorem i42_15 : lk (mi_ins m42) 15 = some (.if_icmp .eq 9, 3, []) := by decide +kernel
theorem i42_18 : lk (mi_ins m42) 18 = some (.aload_n 0, 1, [1, 2]) := by decide +kernel
theorem i42_19 : lk (mi_ins m42) 19 = some (.iconst 1, 1, []) := by decide +kernel
theorem i42_20 : lk (mi_ins m42) 20 = some (.invokevirtual 67, 3, []) := by decide +kernel
theorem i42_23 : lk (mi_ins m42) 23 = some (.ireturn, 1, []) := by decide +kernel
theorem i42_24 : lk (mi_ins m42) 24 = some (.aload_n 0, 1, []) := by decide +kernel
theorem i42_25 : lk (mi_ins m42) 25 = some (.invokevirtual 264, 3, []) := by decide +kernel
theorem i42_28 : lk (mi_ins m42) 28 = some (.ifCond .lt 9, 3, []) := by decide +kernel
theorem i42_31 : lk (mi_ins m42) 31 = some (.aload_n 0, 1, []) := by decide +kernel
theorem i42_32 : lk (mi_ins m42) 32 = some (.iconst 3, 1, []) := by decide +kernel
theorem i42_33 : lk (mi_ins m42) 33 = some (.invokevirtual 67, 3, []) := by decide +kernel
theorem i42_36 : lk (mi_ins m42) 36 = some (.ireturn, 1, []) := by decide +kernel
theorem i42_37 : lk (mi_ins m42) 37 = some (.aload_n 0, 1, []) := by decide +kernel
theorem i42_38 : lk (mi_ins m42) 38 = some (.getfield 50, 3, []) := by decide +kernel
theorem i42_41 : lk (mi_ins m42) 41 = some (.bipush 11, 2, []) := by decide +kernel
theorem i42_43 : lk (mi_ins m42) 43 = some (.if_icmp .lt 9, 3, []) := by decide +kernel
theorem i42_46 : lk (mi_ins m42) 46 = some (.aload_n 0, 1, []) := by decide +kernel
theorem i42_47 : lk (mi_ins m42) 47 = some (.iconst 5, 1, []) := by decide +kernel
theorem i42_48 : lk (mi_ins m42) 48 = some (.invokevirtual 67, 3, []) := by decide +kernel
theorem i42_51 : lk (mi_ins m42) 51 = some (.ireturn, 1, []) := by decide +kernel
theorem i42_52 : lk (mi_ins m42) 52 = some (.aload_n 0, 1, []) := by decide +kernel
theorem i42_53 : lk (mi_ins m42) 53 = some (.getfield 25, 3, []) := by decide +kernel
theorem i42_56 : lk (mi_ins m42) 56 = some (.aload_n 0, 1, []) := by decide +kernel
theorem i42_57 : lk (mi_ins m42) 57 = some (.getfield 50, 3, []) := by decide +kernel
theorem i42_60 : lk (mi_ins m42) 60 = some (.aload_n 0, 1, []) := by decide +kernel
theorem i42_61 : lk (mi_ins m42) 61 = some (.getfield 14, 3, []) := by decide +kernel
theorem i42_64 : lk (mi_ins m42) 64 = some (.getfield 267, 3, []) := by decide +kernel
theorem i42_67 : lk (mi_ins m42) 67 = some (.lastore, 1, []) := by decide +kernel
theorem i42_68 : lk (mi_ins m42) 68 = some (.aload_n 0, 1, []) := by decide +kernel
theorem i42_69 : lk (mi_ins m42) 69 = some (.getfield 29, 3, []) := by decide +kernel
theorem i42_72 : lk (mi_ins m42) 72 = some (.aload_n 0, 1, []) := by decide +kernel
theorem i42_73 : lk (mi_ins m42) 73 = some (.getfield 50, 3, []) := by decide +kernel
theorem i42_76 : lk (mi_ins m42) 76 = some (.iload_n 1, 1, []) := by decide +kernel
theorem i42_77 : lk (mi_ins m42) 77 = some (.iastore, 1, []) := by decide +kernel
theorem i42_78 : lk (mi_ins m42) 78 = some (.aload_n 0, 1, []) := by decide +kernel
theorem i42_79 : lk (mi_ins m42) 79 = some (.getfield 33, 3, []) := by decide +kernel
theorem i42_82 : lk (mi_ins m42) 82 = some (.aload_n 0, 1, []) := by decide +kernel
theorem i42_83 : lk (mi_ins m42) 83 = some (.getfield 50, 3, []) := by decide +kernel
theorem i42_86 : lk (mi_ins m42) 86 = some (.iload_n 2, 1, []) := by decide +kernel
theorem i42_87 : lk (mi_ins m42) 87 = some (.iastore, 1, []) := by decide +kernel
theorem i42_88 : lk (mi_ins m42) 88 = some (.aload_n 0, 1, []) := by decide +kernel
theorem i42_89 : lk (mi_ins m42) 89 = some (.dup, 1, []) := by decide +kernel
theorem i42_90 : lk (mi_ins m42) 90 = some (.getfield 50, 3, []) := by decide +kernel
theorem i42_93 : lk (mi_ins m42) 93 = some (.iconst 1, 1, []) := by decide +kernel
theorem i42_94 : lk (mi_ins m42) 94 = some (.iadd, 1, []) := by decide +kernel
theorem i42_95 : lk (mi_ins m42) 95 = some (.putfield 50, 3, []) := by decide +kernel
theorem i42_98 : lk (mi_ins m42) 98 = some (.aload_n 0, 1, []) := by decide +kernel
theorem i42_99 : lk (mi_ins m42) 99 = some (.getfield 14, 3, []) := by decide +kernel
theorem i42_102 : lk (mi_ins m42) 102 = some (.invokevirtual 64, 3, []) := by decide +kernel
theorem i42_105 : lk (mi_ins m42) 105 = some (.iconst 1, 1, []) := by decide +kernel
theorem i42_106 : lk (mi_ins m42) 106 = some (.ireturn, 1, []) := by decide +kernel
theorem i43_0 : lk (mi_ins m43) 0 = some (.iconst 0, 1, []) := by decide +kernel
theorem i43_1 : lk (mi_ins m43) 1 = some (.istore_n 1, 1, []) := by decide +kernel
theorem i43_2 : lk (mi_ins m43) 2 = some (.iload_n 1, 1, []) := by decide +kernel
theorem i43_3 : lk (mi_ins m43) 3 = some (.aload_n 0, 1, []) := by decide +kernel
theorem i43_4 : lk (mi_ins m43) 4 = some (.getfield 50, 3, []) := by decide +kernel
theorem i43_7 : lk (mi_ins m43) 7 = some (.if_icmp .ge 28, 3, []) := by decide +kernel
theorem i43_10 : lk (mi_ins m43) 10 = some (.aload_n 0, 1, []) := by decide +kernel
theorem i43_11 : lk (mi_ins m43) 11 = some (.getfield 25, 3, []) := by decide +kernel
theorem i43_14 : lk (mi_ins m43) 14 = some (.iload_n 1, 1, []) := by decide +kernel
theorem i43_15 : lk (mi_ins m43) 15 = some (.laload, 1, []) := by decide +kernel
theorem i43_16 : lk (mi_ins m43) 16 = some (.aload_n 0, 1, []) := by decide +kernel
theorem i43_17 : lk (mi_ins m43) 17 = some (.getfield 14, 3, []) := by decide +kernel
theorem i43_20 : lk (mi_ins m43) 20 = some (.getfield 267, 3, []) := by decide +kernel
theorem i43_23 : lk (mi_ins m43) 23 = some (.lcmp, 1, []) := by decide +kernel
theorem i43_24 : lk (mi_ins m43) 24 = some (.ifCond .ne 5, 3, []) := by decide +kernel
theorem i43_27 : lk (mi_ins m43) 27 = some (.iload_n 1, 1, []) := by decide +kernel
theorem i43_28 : lk (mi_ins m43) 28 = some (.ireturn, 1, []) := by decide +kernel
theorem i43_29 : lk (mi_ins m43) 29 = some (.iinc 1 1, 3, []) := by decide +kernel
theorem i43_32 : lk (mi_ins m43) 32 = some (.goto (-30), 3, []) := by decide +kernel
theorem i43_35 : lk (mi_ins m43) 35 = some (.iconst (-1), 1, [0, 1]) := by decide +kernel
theorem i43_36 : lk (mi_ins m43) 36 = some (.ireturn, 1, []) := by decide +kernel
theorem i44_0 : lk (mi_ins m44) 0 = some (.aload_n 0, 1, []) := by decide +kernel
theorem i44_1 : lk (mi_ins m44) 1 = some (.iconst 1, 1, []) := by decide +kernel
theorem i44_2 : lk (mi_ins m44) 2 = some (.invokevirtual 181, 3, []) := by decide +kernel
theorem i44_5 : lk (mi_ins m44) 5 = some (.istore_n 1, 1, []) := by decide +kernel
theorem i44_6 : lk (mi_ins m44) 6 = some (.iload_n 1, 1, []) := by decide +kernel
theorem i44_7 : lk (mi_ins m44) 7 = some (.ifCond .ge 5, 3, []) := by decide +kernel
theorem i44_10 : lk (mi_ins m44) 10 = some (.iconst 0, 1, []) := by decide +kernel
theorem i44_11 : lk (mi_ins m44) 11 = some (.ireturn, 1, []) := by decide +kernel
theorem i44_12 : lk (mi_ins m44) 12 = some (.aload_n 0, 1, []) := by decide +kernel
theorem i44_13 : lk (mi_ins m44) 13 = some (.getfield 14, 3, []) := by decide +kernel
theorem i44_16 : lk (mi_ins m44) 16 = some (.invokevirtual 64, 3, []) := by decide +kernel
theorem i44_19 : lk (mi_ins m44) 19 = some (.aload_n 0, 1, []) := by decide +kernel
theorem i44_20 : lk (mi_ins m44) 20 = some (.iconst 1, 1, []) := by decide +kernel
theorem i44_21 : lk (mi_ins m44) 21 = some (.invokevirtual 181, 3, []) := by decide +kernel
theorem i44_24 : lk (mi_ins m44) 24 = some (.istore_n 2, 1, []) := by decide +kernel
theorem i44_25 : lk (mi_ins m44) 25 = some (.iload_n 2, 1, []) := by decide +kernel
theorem i44_26 : lk (mi_ins m44) 26 = some (.ifCond .ge 5, 3, []) := by decide +kernel
theorem i44_29 : lk (mi_ins m44) 29 = some (.iconst 0, 1, []) := by decide +kernel
theorem i44_30 : lk (mi_ins m44) 30 = some (.ireturn, 1, []) := by decide +kernel
theorem i44_31 : lk (mi_ins m44) 31 = some (.iload_n 1, 1, []) := by decide +kernel
theorem i44_32 : lk (mi_ins m44) 32 = some (.iload_n 2, 1, []) := by decide +kernel
theorem i44_33 : lk (mi_ins m44) 33 = some (.if_icmp .eq 15, 3, []) := by decide +kernel
theorem i44_36 : lk (mi_ins m44) 36 = some (.aload_n 0, 1, []) := by decide +kernel
theorem i44_37 : lk (mi_ins m44) 37 = some (.getfield 21, 3, []) := by decide +kernel
theorem i44_40 : lk (mi_ins m44) 40 = some (.iload_n 1, 1, []) := by decide +kernel
theorem i44_41 : lk (mi_ins m44) 41 = some (.iload_n 2, 1, []) := by decide +kernel
theorem i44_42 : lk (mi_ins m44) 42 = some (.invokevirtual 185, 3, []) := by decide +kernel
theorem i44_45 : lk (mi_ins m44) 45 = some (.ifCond .eq 9, 3, []) := by decide +kernel
theorem i44_48 : lk (mi_ins m44) 48 = some (.aload_n 0, 1, [1, 2]) := by decide +kernel
theorem i44_49 : lk (mi_ins m44) 49 = some (.iconst 3, 1, []) := by decide +kernel
theorem i44_50 : lk (mi_ins m44) 50 = some (.invokevirtual 67, 3, []) := by decide +kernel
theorem i44_53 : lk (mi_ins m44) 53 = some (.ireturn, 1, []) := by decide +kernel
theorem i44_54 : lk (mi_ins m44) 54 = some (.aload_n 0, 1, []) := by decide +kernel
theorem i44_55 : lk (mi_ins m44) 55 = some (.getfield 14, 3, []) := by decide +kernel
theorem i44_58 : lk (mi_ins m44) 58 = some (.invokevirtual 64, 3, []) := by decide +kernel
theorem i44_61 : lk (mi_ins m44) 61 = some (.aload_n 0, 1, []) := by decide +kernel
theorem i44_62 : lk (mi_ins m44) 62 = some (.getfield 21, 3, []) := by decide +kernel
theorem i44_65 : lk (mi_ins m44) 65 = some (.getfield 188, 3, []) := by decide +kernel
theorem i44_68 : lk (mi_ins m44) 68 = some (.aload_n 0, 1, []) := by decide +kernel
theorem i44_69 : lk (mi_ins m44) 69 = some (.getfield 21, 3, []) := by decide +kernel
theorem i44_72 : lk (mi_ins m44) 72 = some (.getfield 133, 3, []) := by decide +kernel
theorem i44_75 : lk (mi_ins m44) 75 = some (.iload_n 1, 1, []) := by decide +kernel
theorem i44_76 : lk (mi_ins m44) 76 = some (.iload_n 2, 1, []) := by decide +kernel
theorem i44_77 : lk (mi_ins m44) 77 = some (.invokestatic 191, 3, []) := by decide +kernel
theorem i44_80 : lk (mi_ins m44) 80 = some (.iastore, 1, []) := by decide +kernel
theorem i44_81 : lk (mi_ins m44) 81 = some (.aload_n 0, 1, []) := by decide +kernel
theorem i44_82 : lk (mi_ins m44) 82 = some (.getfield 21, 3, []) := by decide +kernel
theorem i44_85 : lk (mi_ins m44) 85 = some (.getfield 197, 3, []) := by decide +kernel
theorem i44_88 : lk (mi_ins m44) 88 = some (.aload_n 0, 1, []) := by decide +kernel
theorem i44_89 : lk (mi_ins m44) 89 = some (.getfield 21, 3, []) := by decide +kernel
theorem i44_92 : lk (mi_ins m44) 92 = some (.getfield 133, 3, []) := by decide +kernel
theorem i44_95 : lk (mi_ins m44) 95 = some (.iload_n 1, 1, []) := by decide +kernel
theorem i44_96 : lk (mi_ins m44) 96 = some (.iload_n 2, 1, []) := by decide +kernel
theorem i44_97 : lk (mi_ins m44) 97 = some (.invokestatic 200, 3, []) := by decide +kernel
theorem i44_100 : lk (mi_ins m44) 100 = some (.iastore, 1, []) := by decide +kernel
theorem i44_101 : lk (mi_ins m44) 101 = some (.aload_n 0, 1, []) := by decide +kernel
theorem i44_102 : lk (mi_ins m44) 102 = some (.getfield 21, 3, []) := by decide +kernel
theorem i44_105 : lk (mi_ins m44) 105 = some (.dup, 1, []) := by decide +kernel
theorem i44_106 : lk (mi_ins m44) 106 = some (.getfield 133, 3, []) := by decide +kernel
theorem i44_109 : lk (mi_ins m44) 109 = some (.iconst 1, 1, []) := by decide +kernel
theorem i44_110 : lk (mi_ins m44) 110 = some (.iadd, 1, []) := by decide +kernel
theorem i44_111 : lk (mi_ins m44) 111 = some (.putfield 133, 3, []) := by decide +kernel
theorem i44_114 : lk (mi_ins m44) 114 = some (.iconst 1, 1, []) := by decide +kernel
theorem i44_115 : lk (mi_ins m44) 115 = some (.ireturn, 1, []) := by decide +kernel
theorem i45_0 : lk (mi_ins m45) 0 = some (.aload_n 0, 1, []) := by decide +kernel
theorem i45_1 : lk (mi_ins m45) 1 = some (.getfield 14, 3, []) := by decide +kernel
theorem i45_4 : lk (mi_ins m45) 4 = some (.getfield 61, 3, []) := by decide +kernel
theorem i45_7 : lk (mi_ins m45) 7 = some (.ifCond .ne 11, 3, []) := by decide +kernel
theorem i45_10 : lk (mi_ins m45) 10 = some (.aload_n 0, 1, []) := by decide +kernel
theorem i45_11 : lk (mi_ins m45) 11 = some (.invokevirtual 77, 3, []) := by decide +kernel
theorem i45_14 : lk (mi_ins m45) 14 = some (.iconst (-1), 1, []) := by decide +kernel
theorem i45_15 : lk (mi_ins m45) 15 = some (.if_icmp .eq 11, 3, []) := by decide +kernel
theorem i45_18 : lk (mi_ins m45) 18 = some (.aload_n 0, 1, [1, 2]) := by decide +kernel
theorem i45_19 : lk (mi_ins m45) 19 = some (.iconst 1, 1, []) := by decide +kernel
theorem i45_20 : lk (mi_ins m45) 20 = some (.invokevirtual 67, 3, []) := by decide +kernel
theorem i45_23 : lk (mi_ins m45) 23 = some (.pop, 1, []) := by decide +kernel
theorem i45_24 : lk (mi_ins m45) 24 = some (.iconst (-1), 1, []) := by decide +kernel
theorem i45_25 : lk (mi_ins m45) 25 = some (.ireturn, 1, []) := by decide +kernel
theorem i45_26 : lk (mi_ins m45) 26 = some (.aload_n 0, 1, []) := by decide +kernel
theorem i45_27 : lk (mi_ins m45) 27 = some (.invokevirtual 264, 3, []) := by decide +kernel
theorem i45_30 : lk (mi_ins m45) 30 = some (.istore_n 2, 1, []) := by decide +kernel
theorem i45_31 : lk (mi_ins m45) 31 = some (.iload_n 2, 1, []) := by decide +kernel
theorem i45_32 : lk (mi_ins m45) 32 = some (.ifCond .lt 13, 3, []) := by decide +kernel
theorem i45_35 : lk (mi_ins m45) 35 = some (.aload_n 0, 1, []) := by decide +kernel
theorem i45_36 : lk (mi_ins m45) 36 = some (.getfield 29, 3, []) := by decide +kernel
theorem i45_39 : lk (mi_ins m45) 39 = some (.iload_n 2, 1, []) := by decide +kernel
theorem i45_40 : lk (mi_ins m45) 40 = some (.iaload, 1, []) := by decide +kernel
theorem i45_41 : lk (mi_ins m45) 41 = some (.iload_n 1, 1, []) := by decide +kernel
theorem i45_42 : lk (mi_ins m45) 42 = some (.if_icmp .eq 11, 3, []) := by decide +kernel
theorem i45_45 : lk (mi_ins m45) 45 = some (.aload_n 0, 1, [1, 2]) := by decide +kernel
theorem i45_46 : lk (mi_ins m45) 46 = some (.iconst 2, 1, []) := by decide +kernel
theorem i45_47 : lk (mi_ins m45) 47 = some (.invokevirtual 67, 3, []) := by decide +kernel
theorem i45_50 : lk (mi_ins m45) 50 = some (.pop, 1, []) := by decide +kernel
theorem i45_51 : lk (mi_ins m45) 51 = some (.iconst (-1), 1, []) := by decide +kernel
theorem i45_52 : lk (mi_ins m45) 52 = some (.ireturn, 1, []) := by decide +kernel
theorem i45_53 : lk (mi_ins m45) 53 = some (.aload_n 0, 1, []) := by decide +kernel
theorem i45_54 : lk (mi_ins m45) 54 = some (.getfield 33, 3, []) := by decide +kernel
theorem i45_57 : lk (mi_ins m45) 57 = some (.iload_n 2, 1, []) := by decide +kernel
theorem i45_58 : lk (mi_ins m45) 58 = some (.iaload, 1, []) := by decide +kernel
theorem i45_59 : lk (mi_ins m45) 59 = some (.ireturn, 1, []) := by decide +kernel
theorem i46_0 : lk (mi_ins m46) 0 = some (.iconst 0, 1, []) := by decide +kernel
theorem i46_1 : lk (mi_ins m46) 1 = some (.istore_n 3, 1, []) := by decide +kernel
theorem i46_2 : lk (mi_ins m46) 2 = some (.iload_n 3, 1, []) := by decide +kernel
theorem i46_3 : lk (mi_ins m46) 3 = some (.aload_n 0, 1, []) := by decide +kernel
theorem i46_4 : lk (mi_ins m46) 4 = some (.getfield 62, 3, []) := by decide +kernel
theorem i46_7 : lk (mi_ins m46) 7 = some (.if_icmp .ge 39, 3, []) := by decide +kernel
theorem i46_10 : lk (mi_ins m46) 10 = some (.aload_n 0, 1, []) := by decide +kernel
theorem i46_11 : lk (mi_ins m46) 11 = some (.getfield 18, 3, []) := by decide +kernel
theorem i46_14 : lk (mi_ins m46) 14 = some (.iload_n 3, 1, []) := by decide +kernel
theorem i46_15 : lk (mi_ins m46) 15 = some (.iaload, 1, []) := by decide +kernel
theorem i46_16 : lk (mi_ins m46) 16 = some (.iload_n 1, 1, []) := by decide +kernel
theorem i46_17 : lk (mi_ins m46) 17 = some (.iload_n 2, 1, []) := by decide +kernel
theorem i46_18 : lk (mi_ins m46) 18 = some (.invokestatic 80, 3, []) := by decide +kernel
theorem i46_21 : lk (mi_ins m46) 21 = some (.if_icmp .ne 19, 3, []) := by decide +kernel
theorem i46_24 : lk (mi_ins m46) 24 = some (.aload_n 0, 1, []) := by decide +kernel
theorem i46_25 : lk (mi_ins m46) 25 = some (.getfield 21, 3, []) := by decide +kernel
theorem i46_28 : lk (mi_ins m46) 28 = some (.iload_n 3, 1, []) := by decide +kernel
theorem i46_29 : lk (mi_ins m46) 29 = some (.iaload, 1, []) := by decide +kernel
theorem i46_30 : lk (mi_ins m46) 30 = some (.iload_n 1, 1, []) := by decide +kernel
theorem i46_31 : lk (mi_ins m46) 31 = some (.iload_n 2, 1, []) := by decide +kernel
theorem i46_32 : lk (mi_ins m46) 32 = some (.invokestatic 86, 3, []) := by decide +kernel
theorem i46_35 : lk (mi_ins m46) 35 = some (.if_icmp .ne 5, 3, []) := by decide +kernel
theorem i46_38 : lk (mi_ins m46) 38 = some (.iconst 1, 1, []) := by decide +kernel
theorem i46_39 : lk (mi_ins m46) 39 = some (.ireturn, 1, []) := by decide +kernel
theorem i46_40 : lk (mi_ins m46) 40 = some (.iinc 3 1, 3, []) := by decide +kernel
theorem i46_43 : lk (mi_ins m46) 43 = some (.goto (-41), 3, []) := by decide +kernel
theorem i46_46 : lk (mi_ins m46) 46 = some (.iconst 0, 1, [0, 1, 2, 3]) := by decide +kernel
theorem i46_47 : lk (mi_ins m46) 47 = some (.ireturn, 1, []) := by decide +kernel
theorem i47_0 : lk (mi_ins m47) 0 = some (.iload_n 0, 1, []) := by decide +kernel
theorem i47_1 : lk (mi_ins m47) 1 = some (.iload_n 1, 1, []) := by decide +kernel
theorem i47_2 : lk (mi_ins m47) 2 = some (.if_icmp .lt 7, 3, []) := by decide +kernel
theorem i47_5 : lk (mi_ins m47) 5 = some (.iload_n 0, 1, []) := by decide +kernel
theorem i47_6 : lk (mi_ins m47) 6 = some (.goto 4, 3, []) := by decide +kernel
theorem i47_9 : lk (mi_ins m47) 9 = some (.iload_n 1, 1, []) := by decide +kernel
theorem i47_10 : lk (mi_ins m47) 10 = some (.ireturn, 1, [0, 1]) := by decide +kernel
theorem i48_0 : lk (mi_ins m48) 0 = some (.aload_n 0, 1, []) := by decide +kernel
theorem i48_1 : lk (mi_ins m48) 1 = some (.iconst 1, 1, []) := by decide +kernel
theorem i48_2 : lk (mi_ins m48) 2 = some (.invokevirtual 181, 3, []) := by decide +kernel
theorem i48_5 : lk (mi_ins m48) 5 = some (.istore_n 1, 1, []) := by decide +kernel
theorem i48_6 : lk (mi_ins m48) 6 = some (.iload_n 1, 1, []) := by decide +kernel
theorem i48_7 : lk (mi_ins m48) 7 = some (.ifCond .ge 5, 3, []) := by decide +kernel
theorem i48_10 : lk (mi_ins m48) 10 = some (.iconst 0, 1, []) := by decide +kernel
theorem i48_11 : lk (mi_ins m48) 11 = some (.ireturn, 1, []) := by decide +kernel
theorem i48_12 : lk (mi_ins m48) 12 = some (.aload_n 0, 1, []) := by decide +kernel
theorem i48_13 : lk (mi_ins m48) 13 = some (.getfield 14, 3, []) := by decide +kernel
theorem i48_16 : lk (mi_ins m48) 16 = some (.invokevirtual 64, 3, []) := by decide +kernel
theorem i48_19 : lk (mi_ins m48) 19 = some (.aload_n 0, 1, []) := by decide +kernel
theorem i48_20 : lk (mi_ins m48) 20 = some (.invokevirtual 203, 3, []) := by decide +kernel
theorem i48_23 : lk (mi_ins m48) 23 = some (.istore_n 2, 1, []) := by decide +kernel
theorem i48_24 : lk (mi_ins m48) 24 = some (.iload_n 2, 1, []) := by decide +kernel
theorem i48_25 : lk (mi_ins m48) 25 = some (.ifCond .ge 9, 3, []) := by decide +kernel
theorem i48_28 : lk (mi_ins m48) 28 = some (.aload_n 0, 1, []) := by decide +kernel
theorem i48_29 : lk (mi_ins m48) 29 = some (.iconst 1, 1, []) := by decide +kernel
theorem i48_30 : lk (mi_ins m48) 30 = some (.invokevirtual 67, 3, []) := by decide +kernel
theorem i48_33 : lk (mi_ins m48) 33 = some (.ireturn, 1, []) := by decide +kernel
theorem i48_34 : lk (mi_ins m48) 34 = some (.aload_n 0, 1, []) := by decide +kernel
theorem i48_35 : lk (mi_ins m48) 35 = some (.getfield 21, 3, []) := by decide +kernel
theorem i48_38 : lk (mi_ins m48) 38 = some (.getfield 206, 3, []) := by decide +kernel
theorem i48_41 : lk (mi_ins m48) 41 = some (.iload_n 1, 1, []) := by decide +kernel
theorem i48_42 : lk (mi_ins m48) 42 = some (.iconst 5, 1, []) := by decide +kernel
theorem i48_43 : lk (mi_ins m48) 43 = some (.imul, 1, []) := by decide +kernel
theorem i48_44 : lk (mi_ins m48) 44 = some (.iload_n 2, 1, []) := by decide +kernel
theorem i48_45 : lk (mi_ins m48) 45 = some (.iadd, 1, []) := by decide +kernel
theorem i48_46 : lk (mi_ins m48) 46 = some (.iaload, 1, []) := by decide +kernel
theorem i48_47 : lk (mi_ins m48) 47 = some (.ifCond .le 9, 3, []) := by decide +kernel
theorem i48_50 : lk (mi_ins m48) 50 = some (.aload_n 0, 1, []) := by decide +kernel
theorem i48_51 : lk (mi_ins m48) 51 = some (.iconst 3, 1, []) := by decide +kernel
theorem i48_52 : lk (mi_ins m48) 52 = some (.invokevirtual 67, 3, []) := by decide +kernel
theorem i48_55 : lk (mi_ins m48) 55 = some (.ireturn, 1, []) := by decide +kernel
theorem i48_56 : lk (mi_ins m48) 56 = some (.aload_n 0, 1, []) := by decide +kernel
theorem i48_57 : lk (mi_ins m48) 57 = some (.getfield 14, 3, []) := by decide +kernel
theorem i48_60 : lk (mi_ins m48) 60 = some (.invokevirtual 64, 3, []) := by decide +kernel
theorem i48_63 : lk (mi_ins m48) 63 = some (.aload_n 0, 1, []) := by decide +kernel
theorem i48_64 : lk (mi_ins m48) 64 = some (.iconst 1, 1, []) := by decide +kernel
theorem i48_65 : lk (mi_ins m48) 65 = some (.bipush 30, 2, []) := by decide +kernel
theorem i48_67 : lk (mi_ins m48) 67 = some (.invokevirtual 158, 3, []) := by decide +kernel
theorem i48_70 : lk (mi_ins m48) 70 = some (.ifCond .ne 5, 3, []) := by decide +kernel
theorem i48_73 : lk (mi_ins m48) 73 = some (.iconst 0, 1, []) := by decide +kernel
theorem i48_74 : lk (mi_ins m48) 74 = some (.ireturn, 1, []) := by decide +kernel
theorem i48_75 : lk (mi_ins m48) 75 = some (.aload_n 0, 1, []) := by decide +kernel
theorem i48_76 : lk (mi_ins m48) 76 = some (.getfield 21, 3, []) := by decide +kernel
theorem i48_79 : lk (mi_ins m48) 79 = some (.getfield 206, 3, []) := by decide +kernel
theorem i48_82 : lk (mi_ins m48) 82 = some (.iload_n 1, 1, []) := by decide +kernel
theorem i48_83 : lk (mi_ins m48) 83 = some (.iconst 5, 1, []) := by decide +kernel
theorem i48_84 : lk (mi_ins m48) 84 = some (.imul, 1, []) := by decide +kernel
theorem i48_85 : lk (mi_ins m48) 85 = some (.iload_n 2, 1, []) := by decide +kernel
theorem i48_86 : lk (mi_ins m48) 86 = some (.iadd, 1, []) := by decide +kernel
theorem i48_87 : lk (mi_ins m48) 87 = some (.aload_n 0, 1, []) := by decide +kernel
theorem i48_88 : lk (mi_ins m48) 88 = some (.getfield 162, 3, []) := by decide +kernel
theorem i48_91 : lk (mi_ins m48) 91 = some (.iastore, 1, []) := by decide +kernel
theorem i48_92 : lk (mi_ins m48) 92 = some (.iconst 1, 1, []) := by decide +kernel
theorem i48_93 : lk (mi_ins m48) 93 = some (.ireturn, 1, []) := by decide +kernel
theorem i49_0 : lk (mi_ins m49) 0 = some (.aload_n 0, 1, []) := by decide +kernel
theorem i49_1 : lk (mi_ins m49) 1 = some (.getfield 14, 3, []) := by decide +kernel
theorem i49_4 : lk (mi_ins m49) 4 = some (.ldc_w 271, 3, []) := by decide +kernel
theorem i49_7 : lk (mi_ins m49) 7 = some (.invokevirtual 113, 3, []) := by decide +kernel
theorem i49_10 : lk (mi_ins m49) 10 = some (.ifCond .eq 5, 3, []) := by decide +kernel
theorem i49_13 : lk (mi_ins m49) 13 = some (.iconst 0, 1, []) := by decide +kernel
theorem i49_14 : lk (mi_ins m49) 14 = some (.ireturn, 1, []) := by decide +kernel
theorem i49_15 : lk (mi_ins m49) 15 = some (.aload_n 0, 1, []) := by decide +kernel
theorem i49_16 : lk (mi_ins m49) 16 = some (.getfield 14, 3, []) := by decide +kernel
theorem i49_19 : lk (mi_ins m49) 19 = some (.ldc_w 273, 3, []) := by decide +kernel
theorem i49_22 : lk (mi_ins m49) 22 = some (.invokevirtual 113, 3, []) := by decide +kernel
theorem i49_25 : lk (mi_ins m49) 25 = some (.ifCond .eq 5, 3, []) := by decide +kernel
theorem i49_28 : lk (mi_ins m49) 28 = some (.iconst 1, 1, []) := by decide +kernel
theorem i49_29 : lk (mi_ins m49) 29 = some (.ireturn, 1, []) := by decide +kernel
theorem i49_30 : lk (mi_ins m49) 30 = some (.aload_n 0, 1, []) := by decide +kernel
theorem i49_31 : lk (mi_ins m49) 31 = some (.getfield 14, 3, []) := by decide +kernel
theorem i49_34 : lk (mi_ins m49) 34 = some (.ldc_w 275, 3, []) := by decide +kernel
theorem i49_37 : lk (mi_ins m49) 37 = some (.invokevirtual 113, 3, []) := by decide +kernel
theorem i49_40 : lk (mi_ins m49) 40 = some (.ifCond .eq 5, 3, []) := by decide +kernel
theorem i49_43 : lk (mi_ins m49) 43 = some (.iconst 2, 1, []) := by decide +kernel
theorem i49_44 : lk (mi_ins m49) 44 = some (.ireturn, 1, []) := by decide +kernel
theorem i49_45 : lk (mi_ins m49) 45 = some (.aload_n 0, 1, []) := by decide +kernel
theorem i49_46 : lk (mi_ins m49) 46 = some (.getfield 14, 3, []) := by decide +kernel
theorem i49_49 : lk (mi_ins m49) 49 = some (.ldc_w 277, 3, []) := by decide +kernel
theorem i49_52 : lk (mi_ins m49) 52 = some (.invokevirtual 113, 3, []) := by decide +kernel
theorem i49_55 : lk (mi_ins m49) 55 = some (.ifCond .eq 5, 3, []) := by decide +kernel
theorem i49_58 : lk (mi_ins m49) 58 = some (.iconst 3, 1, []) := by decide +kernel
theorem i49_59 : lk (mi_ins m49) 59 = some (.ireturn, 1, []) := by decide +kernel
theorem i49_60 : lk (mi_ins m49) 60 = some (.aload_n 0, 1, []) := by decide +kernel
theorem i49_61 : lk (mi_ins m49) 61 = some (.getfield 14, 3, []) := by decide +kernel
theorem i49_64 : lk (mi_ins m49) 64 = some (.ldc_w 279, 3, []) := by decide +kernel
theorem i49_67 : lk (mi_ins m49) 67 = some (.invokevirtual 113, 3, []) := by decide +kernel
theorem i49_70 : lk (mi_ins m49) 70 = some (.ifCond .eq 7, 3, []) := by decide +kernel
theorem i49_73 : lk (mi_ins m49) 73 = some (.iconst 4, 1, []) := by decide +kernel
theorem i49_74 : lk (mi_ins m49) 74 = some (.goto 4, 3, []) := by decide +kernel
theorem i49_77 : lk (mi_ins m49) 77 = some (.iconst (-1), 1, []) := by decide +kernel
theorem i49_78 : lk (mi_ins m49) 78 = some (.ireturn, 1, [0]) := by decide +kernel
theorem i50_0 : lk (mi_ins m50) 0 = some (.aload_n 0, 1, []) := by decide +kernel
theorem i50_1 : lk (mi_ins m50) 1 = some (.getfield 21, 3, []) := by decide +kernel
theorem i50_4 : lk (mi_ins m50) 4 = some (.getfield 136, 3, []) := by decide +kernel
theorem i50_7 : lk (mi_ins m50) 7 = some (.istore_n 1, 1, []) := by decide +kernel
theorem i50_8 : lk (mi_ins m50) 8 = some (.aload_n 0, 1, []) := by decide +kernel
theorem i50_9 : lk (mi_ins m50) 9 = some (.iconst 4, 1, []) := by decide +kernel
theorem i50_10 : lk (mi_ins m50) 10 = some (.iload_n 1, 1, []) := by decide +kernel
theorem i50_11 : lk (mi_ins m50) 11 = some (.invokevirtual 167, 3, []) := by decide +kernel
theorem i50_14 : lk (mi_ins m50) 14 = some (.ifCond .eq 31, 3, []) := by decide +kernel
theorem i50_17 : lk (mi_ins m50) 17 = some (.aload_n 0, 1, []) := by decide +kernel
theorem i50_18 : lk (mi_ins m50) 18 = some (.ldc 177, 2, []) := by decide +kernel
theorem i50_20 : lk (mi_ins m50) 20 = some (.invokevirtual 155, 3, []) := by decide +kernel
theorem i50_23 : lk (mi_ins m50) 23 = some (.ifCond .eq 22, 3, []) := by decide +kernel
theorem i50_26 : lk (mi_ins m50) 26 = some (.aload_n 0, 1, []) := by decide +kernel
theorem i50_27 : lk (mi_ins m50) 27 = some (.iconst 1, 1, []) := by decide +kernel
theorem i50_28 : lk (mi_ins m50) 28 = some (.bipush 50, 2, []) := by decide +kernel
theorem i50_30 : lk (mi_ins m50) 30 = some (.invokevirtual 158, 3, []) := by decide +kernel
theorem i50_33 : lk (mi_ins m50) 33 = some (.ifCond .eq 12, 3, []) := by decide +kernel
theorem i50_36 : lk (mi_ins m50) 36 = some (.aload_n 0, 1, []) := by decide +kernel
theorem i50_37 : lk (mi_ins m50) 37 = some (.ldc 210, 2, []) := by decide +kernel
theorem i50_39 : lk (mi_ins m50) 39 = some (.invokevirtual 155, 3, []) := by decide +kernel
theorem i50_42 : lk (mi_ins m50) 42 = some (.ifCond .ne 5, 3, []) := by decide +kernel
theorem i50_45 : lk (mi_ins m50) 45 = some (.iconst 0, 1, [0, 1, 2]) := by decide +kernel
theorem i50_46 : lk (mi_ins m50) 46 = some (.ireturn, 1, []) := by decide +kernel
theorem i50_47 : lk (mi_ins m50) 47 = some (.aload_n 0, 1, []) := by decide +kernel
theorem i50_48 : lk (mi_ins m50) 48 = some (.iconst 1, 1, []) := by decide +kernel
theorem i50_49 : lk (mi_ins m50) 49 = some (.invokevirtual 181, 3, []) := by decide +kernel
theorem i50_52 : lk (mi_ins m50) 52 = some (.istore_n 2, 1, []) := by decide +kernel
theorem i50_53 : lk (mi_ins m50) 53 = some (.iload_n 2, 1, []) := by decide +kernel
theorem i50_54 : lk (mi_ins m50) 54 = some (.ifCond .ge 5, 3, []) := by decide +kernel
theorem i50_57 : lk (mi_ins m50) 57 = some (.iconst 0, 1, []) := by decide +kernel
theorem i50_58 : lk (mi_ins m50) 58 = some (.ireturn, 1, []) := by decide +kernel
theorem i50_59 : lk (mi_ins m50) 59 = some (.aload_n 0, 1, []) := by decide +kernel
theorem i50_60 : lk (mi_ins m50) 60 = some (.getfield 14, 3, []) := by decide +kernel
theorem i50_63 : lk (mi_ins m50) 63 = some (.invokevirtual 64, 3, []) := by decide +kernel
theorem i50_66 : lk (mi_ins m50) 66 = some (.aload_n 0, 1, []) := by decide +kernel
theorem i50_67 : lk (mi_ins m50) 67 = some (.getfield 21, 3, []) := by decide +kernel
theorem i50_70 : lk (mi_ins m50) 70 = some (.getfield 211, 3, []) := by decide +kernel
theorem i50_73 : lk (mi_ins m50) 73 = some (.iload_n 1, 1, []) := by decide +kernel
theorem i50_74 : lk (mi_ins m50) 74 = some (.aload_n 0, 1, []) := by decide +kernel
theorem i50_75 : lk (mi_ins m50) 75 = some (.getfield 162, 3, []) := by decide +kernel
theorem i50_78 : lk (mi_ins m50) 78 = some (.iastore, 1, []) := by decide +kernel
theorem i50_79 : lk (mi_ins m50) 79 = some (.aload_n 0, 1, []) := by decide +kernel
theorem i50_80 : lk (mi_ins m50) 80 = some (.getfield 21, 3, []) := by decide +kernel
theorem i50_83 : lk (mi_ins m50) 83 = some (.getfield 214, 3, []) := by decide +kernel
theorem i50_86 : lk (mi_ins m50) 86 = some (.iload_n 1, 1, []) := by decide +kernel
theorem i50_87 : lk (mi_ins m50) 87 = some (.iload_n 2, 1, []) := by decide +kernel
theorem i50_88 : lk (mi_ins m50) 88 = some (.iastore, 1, []) := by decide +kernel
theorem i50_89 : lk (mi_ins m50) 89 = some (.aload_n 0, 1, []) := by decide +kernel
theorem i50_90 : lk (mi_ins m50) 90 = some (.getfield 21, 3, []) := by decide +kernel
theorem i50_93 : lk (mi_ins m50) 93 = some (.dup, 1, []) := by decide +kernel
theorem i50_94 : lk (mi_ins m50) 94 = some (.getfield 136, 3, []) := by decide +kernel
theorem i50_97 : lk (mi_ins m50) 97 = some (.iconst 1, 1, []) := by decide +kernel
theorem i50_98 : lk (mi_ins m50) 98 = some (.iadd, 1, []) := by decide +kernel
theorem i50_99 : lk (mi_ins m50) 99 = some (.putfield 136, 3, []) := by decide +kernel
theorem i50_102 : lk (mi_ins m50) 102 = some (.iconst 1, 1, []) := by decide +kernel
theorem i50_103 : lk (mi_ins m50) 103 = some (.ireturn, 1, []) := by decide +kernel
theorem i51_0 : lk (mi_ins m51) 0 = some (.aload_n 0, 1, []) := by decide +kernel
theorem i51_1 : lk (mi_ins m51) 1 = some (.getfield 21, 3, []) := by decide +kernel
theorem i51_4 : lk (mi_ins m51) 4 = some (.getfield 139, 3, []) := by decide +kernel
theorem i51_7 : lk (mi_ins m51) 7 = some (.istore_n 1, 1, []) := by decide +kernel
theorem i51_8 : lk (mi_ins m51) 8 = some (.aload_n 0, 1, []) := by decide +kernel
theorem i51_9 : lk (mi_ins m51) 9 = some (.iconst 5, 1, []) := by decide +kernel
theorem i51_10 : lk (mi_ins m51) 10 = some (.iload_n 1, 1, []) := by decide +kernel
theorem i51_11 : lk (mi_ins m51) 11 = some (.invokevirtual 167, 3, []) := by decide +kernel
theorem i51_14 : lk (mi_ins m51) 14 = some (.ifCond .ne 5, 3, []) := by decide +kernel
theorem i51_17 : lk (mi_ins m51) 17 = some (.iconst 0, 1, []) := by decide +kernel
theorem i51_18 : lk (mi_ins m51) 18 = some (.ireturn, 1, []) := by decide +kernel
theorem i51_19 : lk (mi_ins m51) 19 = some (.aload_n 0, 1, []) := by decide +kernel
theorem i51_20 : lk (mi_ins m51) 20 = some (.invokevirtual 203, 3, []) := by decide +kernel
theorem i51_23 : lk (mi_ins m51) 23 = some (.istore_n 2, 1, []) := by decide +kernel
theorem i51_24 : lk (mi_ins m51) 24 = some (.iload_n 2, 1, []) := by decide +kernel
theorem i51_25 : lk (mi_ins m51) 25 = some (.ifCond .eq 19, 3, []) := by decide +kernel
theorem i51_28 : lk (mi_ins m51) 28 = some (.iload_n 2, 1, []) := by decide +kernel
theorem i51_29 : lk (mi_ins m51) 29 = some (.iconst 3, 1, []) := by decide +kernel
theorem i51_30 : lk (mi_ins m51) 30 = some (.if_icmp .eq 14, 3, []) := by decide +kernel
theorem i51_33 : lk (mi_ins m51) 33 = some (.iload_n 2, 1, []) := by decide +kernel
theorem i51_34 : lk (mi_ins m51) 34 = some (.iconst 4, 1, []) := by decide +kernel
theorem i51_35 : lk (mi_ins m51) 35 = some (.if_icmp .eq 9, 3, []) := by decide +kernel
theorem i51_38 : lk (mi_ins m51) 38 = some (.aload_n 0, 1, []) := by decide +kernel
theorem i51_39 : lk (mi_ins m51) 39 = some (.iconst 1, 1, []) := by decide +kernel
theorem i51_40 : lk (mi_ins m51) 40 = some (.invokevirtual 67, 3, []) := by decide +kernel
theorem i51_43 : lk (mi_ins m51) 43 = some (.ireturn, 1, []) := by decide +kernel
theorem i51_44 : lk (mi_ins m51) 44 = some (.aload_n 0, 1, []) := by decide +kernel
theorem i51_45 : lk (mi_ins m51) 45 = some (.getfield 14, 3, []) := by decide +kernel
theorem i51_48 : lk (mi_ins m51) 48 = some (.invokevirtual 64, 3, []) := by decide +kernel
theorem i51_51 : lk (mi_ins m51) 51 = some (.aload_n 0, 1, []) := by decide +kernel
theorem i51_52 : lk (mi_ins m51) 52 = some (.ldc 217, 2, []) := by decide +kernel
theorem i51_54 : lk (mi_ins m51) 54 = some (.invokevirtual 155, 3, []) := by decide +kernel
theorem i51_57 : lk (mi_ins m51) 57 = some (.ifCond .eq 13, 3, []) := by decide +kernel
theorem i51_60 : lk (mi_ins m51) 60 = some (.aload_n 0, 1, []) := by decide +kernel
theorem i51_61 : lk (mi_ins m51) 61 = some (.iconst 1, 1, []) := by decide +kernel
theorem i51_62 : lk (mi_ins m51) 62 = some (.bipush 9, 2, []) := by decide +kernel
theorem i51_64 : lk (mi_ins m51) 64 = some (.invokevirtual 158, 3, []) := by decide +kernel
theorem i51_67 : lk (mi_ins m51) 67 = some (.ifCond .ne 5, 3, []) := by decide +kernel
theorem i51_70 : lk (mi_ins m51) 70 = some (.iconst 0, 1, [0, 1, 2]) := by decide +kernel
theorem i51_71 : lk (mi_ins m51) 71 = some (.ireturn, 1, []) := by decide +kernel
theorem i51_72 : lk (mi_ins m51) 72 = some (.aload_n 0, 1, []) := by decide +kernel
theorem i51_73 : lk (mi_ins m51) 73 = some (.getfield 21, 3, []) := by decide +kernel
theorem i51_76 : lk (mi_ins m51) 76 = some (.getfield 219, 3, []) := by decide +kernel
theorem i51_79 : lk (mi_ins m51) 79 = some (.iload_n 1, 1, []) := by decide +kernel
theorem i51_80 : lk (mi_ins m51) 80 = some (.iload_n 2, 1, []) := by decide +kernel
theorem i51_81 : lk (mi_ins m51) 81 = some (.iastore, 1, []) := by decide +kernel
theorem i51_82 : lk (mi_ins m51) 82 = some (.aload_n 0, 1, []) := by decide +kernel
theorem i51_83 : lk (mi_ins m51) 83 = some (.getfield 21, 3, []) := by decide +kernel
theorem i51_86 : lk (mi_ins m51) 86 = some (.getfield 222, 3, []) := by decide +kernel
theorem i51_89 : lk (mi_ins m51) 89 = some (.iload_n 1, 1, []) := by decide +kernel
theorem i51_90 : lk (mi_ins m51) 90 = some (.aload_n 0, 1, []) := by decide +kernel
theorem i51_91 : lk (mi_ins m51) 91 = some (.getfield 162, 3, []) := by decide +kernel
theorem i51_94 : lk (mi_ins m51) 94 = some (.iastore, 1, []) := by decide +kernel
theorem i51_95 : lk (mi_ins m51) 95 = some (.aload_n 0, 1, []) := by decide +kernel
theorem i51_96 : lk (mi_ins m51) 96 = some (.getfield 21, 3, []) := by decide +kernel
theorem i51_99 : lk (mi_ins m51) 99 = some (.dup, 1, []) := by decide +kernel
theorem i51_100 : lk (mi_ins m51) 100 = some (.getfield 139, 3, []) := by decide +kernel
theorem i51_103 : lk (mi_ins m51) 103 = some (.iconst 1, 1, []) := by decide +kernel
theorem i51_104 : lk (mi_ins m51) 104 = some (.iadd, 1, []) := by decide +kernel
theorem i51_105 : lk (mi_ins m51) 105 = some (.putfield 139, 3, []) := by decide +kernel
theorem i51_108 : lk (mi_ins m51) 108 = some (.iconst 1, 1, []) := by decide +kernel
theorem i51_109 : lk (mi_ins m51) 109 = some (.ireturn, 1, []) := by decide +kernel
theorem i52_0 : lk (mi_ins m52) 0 = some (.aload_n 0, 1, []) := by decide +kernel
theorem i52_1 : lk (mi_ins m52) 1 = some (.getfield 21, 3, []) := by decide +kernel
theorem i52_4 : lk (mi_ins m52) 4 = some (.getfield 142, 3, []) := by decide +kernel
theorem i52_7 : lk (mi_ins m52) 7 = some (.istore_n 1, 1, []) := by decide +kernel
theorem i52_8 : lk (mi_ins m52) 8 = some (.aload_n 0, 1, []) := by decide +kernel
theorem i52_9 : lk (mi_ins m52) 9 = some (.iconst 1, 1, []) := by decide +kernel
theorem i52_10 : lk (mi_ins m52) 10 = some (.invokevirtual 181, 3, []) := by decide +kernel
theorem i52_13 : lk (mi_ins m52) 13 = some (.istore_n 2, 1, []) := by decide +kernel
theorem i52_14 : lk (mi_ins m52) 14 = some (.iload_n 2, 1, []) := by decide +kernel
theorem i52_15 : lk (mi_ins m52) 15 = some (.ifCond .ge 5, 3, []) := by decide +kernel
theorem i52_18 : lk (mi_ins m52) 18 = some (.iconst 0, 1, []) := by decide +kernel
theorem i52_19 : lk (mi_ins m52) 19 = some (.ireturn, 1, []) := by decide +kernel
theorem i52_20 : lk (mi_ins m52) 20 = some (.aload_n 0, 1, []) := by decide +kernel
theorem i52_21 : lk (mi_ins m52) 21 = some (.getfield 14, 3, []) := by decide +kernel
theorem i52_24 : lk (mi_ins m52) 24 = some (.invokevirtual 64, 3, []) := by decide +kernel
theorem i52_27 : lk (mi_ins m52) 27 = some (.aload_n 0, 1, []) := by decide +kernel
theorem i52_28 : lk (mi_ins m52) 28 = some (.ldc 224, 2, []) := by decide +kernel
theorem i52_30 : lk (mi_ins m52) 30 = some (.invokevirtual 155, 3, []) := by decide +kernel
theorem i52_33 : lk (mi_ins m52) 33 = some (.ifCond .eq 13, 3, []) := by decide +kernel
theorem i52_36 : lk (mi_ins m52) 36 = some (.aload_n 0, 1, []) := by decide +kernel
theorem i52_37 : lk (mi_ins m52) 37 = some (.iconst 0, 1, []) := by decide +kernel
theorem i52_38 : lk (mi_ins m52) 38 = some (.bipush 9, 2, []) := by decide +kernel
theorem i52_40 : lk (mi_ins m52) 40 = some (.invokevirtual 158, 3, []) := by decide +kernel
theorem i52_43 : lk (mi_ins m52) 43 = some (.ifCond .ne 5, 3, []) := by decide +kernel
theorem i52_46 : lk (mi_ins m52) 46 = some (.iconst 0, 1, [0, 1, 2]) := by decide +kernel
theorem i52_47 : lk (mi_ins m52) 47 = some (.ireturn, 1, []) := by decide +kernel
theorem i52_48 : lk (mi_ins m52) 48 = some (.aload_n 0, 1, []) := by decide +kernel
theorem i52_49 : lk (mi_ins m52) 49 = some (.getfield 21, 3, []) := by decide +kernel
theorem i52_52 : lk (mi_ins m52) 52 = some (.getfield 226, 3, []) := by decide +kernel
theorem i52_55 : lk (mi_ins m52) 55 = some (.iload_n 1, 1, []) := by decide +kernel
theorem i52_56 : lk (mi_ins m52) 56 = some (.aload_n 0, 1, []) := by decide +kernel
theorem i52_57 : lk (mi_ins m52) 57 = some (.getfield 162, 3, []) := by decide +kernel
theorem i52_60 : lk (mi_ins m52) 60 = some (.iastore, 1, []) := by decide +kernel
theorem i52_61 : lk (mi_ins m52) 61 = some (.aload_n 0, 1, []) := by decide +kernel
theorem i52_62 : lk (mi_ins m52) 62 = some (.ldc 229, 2, []) := by decide +kernel
theorem i52_64 : lk (mi_ins m52) 64 = some (.invokevirtual 155, 3, []) := by decide +kernel
theorem i52_67 : lk (mi_ins m52) 67 = some (.ifCond .eq 13, 3, []) := by decide +kernel
theorem i52_70 : lk (mi_ins m52) 70 = some (.aload_n 0, 1, []) := by decide +kernel
theorem i52_71 : lk (mi_ins m52) 71 = some (.iconst 0, 1, []) := by decide +kernel
theorem i52_72 : lk (mi_ins m52) 72 = some (.bipush 50, 2, []) := by decide +kernel
theorem i52_74 : lk (mi_ins m52) 74 = some (.invokevirtual 158, 3, []) := by decide +kernel
theorem i52_77 : lk (mi_ins m52) 77 = some (.ifCond .ne 5, 3, []) := by decide +kernel
theorem i52_80 : lk (mi_ins m52) 80 = some (.iconst 0, 1, [0, 1, 2]) := by decide +kernel
theorem i52_81 : lk (mi_ins m52) 81 = some (.ireturn, 1, []) := by decide +kernel
theorem i52_82 : lk (mi_ins m52) 82 = some (.aload_n 0, 1, []) := by decide +kernel
theorem i52_83 : lk (mi_ins m52) 83 = some (.getfield 21, 3, []) := by decide +kernel
theorem i52_86 : lk (mi_ins m52) 86 = some (.getfield 231, 3, []) := by decide +kernel
theorem i52_89 : lk (mi_ins m52) 89 = some (.iload_n 1, 1, []) := by decide +kernel
theorem i52_90 : lk (mi_ins m52) 90 = some (.aload_n 0, 1, []) := by decide +kernel
theorem i52_91 : lk (mi_ins m52) 91 = some (.getfield 162, 3, []) := by decide +kernel
theorem i52_94 : lk (mi_ins m52) 94 = some (.iastore, 1, []) := by decide +kernel
theorem i52_95 : lk (mi_ins m52) 95 = some (.aload_n 0, 1, []) := by decide +kernel
theorem i52_96 : lk (mi_ins m52) 96 = some (.getfield 21, 3, []) := by decide +kernel
theorem i52_99 : lk (mi_ins m52) 99 = some (.getfield 234, 3, []) := by decide +kernel
theorem i52_102 : lk (mi_ins m52) 102 = some (.iload_n 1, 1, []) := by decide +kernel
theorem i52_103 : lk (mi_ins m52) 103 = some (.iload_n 2, 1, []) := by decide +kernel
theorem i52_104 : lk (mi_ins m52) 104 = some (.iastore, 1, []) := by decide +kernel
theorem i52_105 : lk (mi_ins m52) 105 = some (.aload_n 0, 1, []) := by decide +kernel
theorem i52_106 : lk (mi_ins m52) 106 = some (.getfield 21, 3, []) := by decide +kernel
theorem i52_109 : lk (mi_ins m52) 109 = some (.dup, 1, []) := by decide +kernel
theorem i52_110 : lk (mi_ins m52) 110 = some (.getfield 142, 3, []) := by decide +kernel
theorem i52_113 : lk (mi_ins m52) 113 = some (.iconst 1, 1, []) := by decide +kernel
theorem i52_114 : lk (mi_ins m52) 114 = some (.iadd, 1, []) := by decide +kernel
theorem i52_115 : lk (mi_ins m52) 115 = some (.putfield 142, 3, []) := by decide +kernel
theorem i52_118 : lk (mi_ins m52) 118 = some (.iconst 1, 1, []) := by decide +kernel
theorem i52_119 : lk (mi_ins m52) 119 = some (.ireturn, 1, []) := by decide +kernel
theorem i53_0 : lk (mi_ins m53) 0 = some (.aload_n 0, 1, []) := by decide +kernel
theorem i53_1 : lk (mi_ins m53) 1 = some (.iconst 5, 1, []) := by decide +kernel
theorem i53_2 : lk (mi_ins m53) 2 = some (.invokevirtual 181, 3, []) := by decide +kernel
theorem i53_5 : lk (mi_ins m53) 5 = some (.istore_n 1, 1, []) := by decide +kernel
theorem i53_6 : lk (mi_ins m53) 6 = some (.iload_n 1, 1, []) := by decide +kernel
theorem i53_7 : lk (mi_ins m53) 7 = some (.ifCond .ge 5, 3, []) := by decide +kernel
theorem i53_10 : lk (mi_ins m53) 10 = some (.iconst 0, 1, []) := by decide +kernel
theorem i53_11 : lk (mi_ins m53) 11 = some (.ireturn, 1, []) := by decide +kernel
theorem i53_12 : lk (mi_ins m53) 12 = some (.aload_n 0, 1, []) := by decide +kernel
theorem i53_13 : lk (mi_ins m53) 13 = some (.getfield 14, 3, []) := by decide +kernel
theorem i53_16 : lk (mi_ins m53) 16 = some (.invokevirtual 64, 3, []) := by decide +kernel
theorem i53_19 : lk (mi_ins m53) 19 = some (.aload_n 0, 1, []) := by decide +kernel
theorem i53_20 : lk (mi_ins m53) 20 = some (.iconst 1, 1, []) := by decide +kernel
theorem i53_21 : lk (mi_ins m53) 21 = some (.invokevirtual 181, 3, []) := by decide +kernel
theorem i53_24 : lk (mi_ins m53) 24 = some (.istore_n 2, 1, []) := by decide +kernel
theorem i53_25 : lk (mi_ins m53) 25 = some (.iload_n 2, 1, []) := by decide +kernel
theorem i53_26 : lk (mi_ins m53) 26 = some (.ifCond .ge 5, 3, []) := by decide +kernel
theorem i53_29 : lk (mi_ins m53) 29 = some (.iconst 0, 1, []) := by decide +kernel
theorem i53_30 : lk (mi_ins m53) 30 = some (.ireturn, 1, []) := by decide +kernel
theorem i53_31 : lk (mi_ins m53) 31 = some (.aload_n 0, 1, []) := by decide +kernel
theorem i53_32 : lk (mi_ins m53) 32 = some (.getfield 14, 3, []) := by decide +kernel
theorem i53_35 : lk (mi_ins m53) 35 = some (.invokevirtual 64, 3, []) := by decide +kernel
theorem i53_38 : lk (mi_ins m53) 38 = some (.aload_n 0, 1, []) := by decide +kernel
theorem i53_39 : lk (mi_ins m53) 39 = some (.iconst 1, 1, []) := by decide +kernel
theorem i53_40 : lk (mi_ins m53) 40 = some (.bipush 20, 2, []) := by decide +kernel
theorem i53_42 : lk (mi_ins m53) 42 = some (.invokevirtual 158, 3, []) := by decide +kernel
theorem i53_45 : lk (mi_ins m53) 45 = some (.ifCond .ne 5, 3, []) := by decide +kernel
theorem i53_48 : lk (mi_ins m53) 48 = some (.iconst 0, 1, []) := by decide +kernel
theorem i53_49 : lk (mi_ins m53) 49 = some (.ireturn, 1, []) := by decide +kernel
theorem i53_50 : lk (mi_ins m53) 50 = some (.aload_n 0, 1, []) := by decide +kernel
theorem i53_51 : lk (mi_ins m53) 51 = some (.getfield 21, 3, []) := by decide +kernel
theorem i53_54 : lk (mi_ins m53) 54 = some (.getfield 145, 3, []) := by decide +kernel
theorem i53_57 : lk (mi_ins m53) 57 = some (.astore_n 3, 1, []) := by decide +kernel
theorem i53_58 : lk (mi_ins m53) 58 = some (.aload_n 3, 1, []) := by decide +kernel
theorem i53_59 : lk (mi_ins m53) 59 = some (.getfield 237, 3, []) := by decide +kernel
theorem i53_62 : lk (mi_ins m53) 62 = some (.aload_n 3, 1, []) := by decide +kernel
theorem i53_63 : lk (mi_ins m53) 63 = some (.getfield 149, 3, []) := by decide +kernel
theorem i53_66 : lk (mi_ins m53) 66 = some (.iload_n 1, 1, []) := by decide +kernel
theorem i53_67 : lk (mi_ins m53) 67 = some (.iastore, 1, []) := by decide +kernel
theorem i53_68 : lk (mi_ins m53) 68 = some (.aload_n 3, 1, []) := by decide +kernel
theorem i53_69 : lk (mi_ins m53) 69 = some (.getfield 240, 3, []) := by decide +kernel
theorem i53_72 : lk (mi_ins m53) 72 = some (.aload_n 3, 1, []) := by decide +kernel
theorem i53_73 : lk (mi_ins m53) 73 = some (.getfield 149, 3, []) := by decide +kernel
theorem i53_76 : lk (mi_ins m53) 76 = some (.iload_n 2, 1, []) := by decide +kernel
theorem i53_77 : lk (mi_ins m53) 77 = some (.iastore, 1, []) := by decide +kernel
theorem i53_78 : lk (mi_ins m53) 78 = some (.aload_n 3, 1, []) := by decide +kernel
theorem i53_79 : lk (mi_ins m53) 79 = some (.getfield 243, 3, []) := by decide +kernel
theorem i53_82 : lk (mi_ins m53) 82 = some (.aload_n 3, 1, []) := by decide +kernel
theorem i53_83 : lk (mi_ins m53) 83 = some (.getfield 149, 3, []) := by decide +kernel
theorem i53_86 : lk (mi_ins m53) 86 = some (.aload_n 0, 1, []) := by decide +kernel
theorem i53_87 : lk (mi_ins m53) 87 = some (.getfield 162, 3, []) := by decide +kernel
theorem i53_90 : lk (mi_ins m53) 90 = some (.iastore, 1, []) := by decide +kernel
theorem i53_91 : lk (mi_ins m53) 91 = some (.aload_n 3, 1, []) := by decide +kernel
theorem i53_92 : lk (mi_ins m53) 92 = some (.dup, 1, []) := by decide +kernel
theorem i53_93 : lk (mi_ins m53) 93 = some (.getfield 149, 3, []) := by decide +kernel
theorem i53_96 : lk (mi_ins m53) 96 = some (.iconst 1, 1, []) := by decide +kernel
theorem i53_97 : lk (mi_ins m53) 97 = some (.iadd, 1, []) := by decide +kernel
theorem i53_98 : lk (mi_ins m53) 98 = some (.putfield 149, 3, []) := by decide +kernel
theorem i53_101 : lk (mi_ins m53) 101 = some (.iconst 1, 1, []) := by decide +kernel
theorem i53_102 : lk (mi_ins m53) 102 = some (.ireturn, 1, []) := by decide +kernel
theorem i54_0 : lk (mi_ins m54) 0 = some (.aload_n 0, 1, []) := by decide +kernel
theorem i54_1 : lk (mi_ins m54) 1 = some (.getfield 21, 3, []) := by decide +kernel
theorem i54_4 : lk (mi_ins m54) 4 = some (.getfield 145, 3, []) := by decide +kernel
theorem i54_7 : lk (mi_ins m54) 7 = some (.astore_n 1, 1, []) := by decide +kernel
theorem i54_8 : lk (mi_ins m54) 8 = some (.aload_n 0, 1, []) := by decide +kernel
theorem i54_9 : lk (mi_ins m54) 9 = some (.iconst 1, 1, []) := by decide +kernel
theorem i54_10 : lk (mi_ins m54) 10 = some (.invokevirtual 181, 3, []) := by decide +kernel
theorem i54_13 : lk (mi_ins m54) 13 = some (.istore_n 2, 1, []) := by decide +kernel
theorem i54_14 : lk (mi_ins m54) 14 = some (.iload_n 2, 1, []) := by decide +kernel
theorem i54_15 : lk (mi_ins m54) 15 = some (.ifCond .ge 5, 3, []) := by decide +kernel
theorem i54_18 : lk (mi_ins m54) 18 = some (.iconst 0, 1, []) := by decide +kernel
theorem i54_19 : lk (mi_ins m54) 19 = some (.ireturn, 1, []) := by decide +kernel
theorem i54_20 : lk (mi_ins m54) 20 = some (.aload_n 1, 1, []) := by decide +kernel
theorem i54_21 : lk (mi_ins m54) 21 = some (.iload_n 2, 1, []) := by decide +kernel
theorem i54_22 : lk (mi_ins m54) 22 = some (.invokevirtual 246, 3, []) := by decide +kernel
theorem i54_25 : lk (mi_ins m54) 25 = some (.ifCond .eq 9, 3, []) := by decide +kernel
theorem i54_28 : lk (mi_ins m54) 28 = some (.aload_n 0, 1, []) := by decide +kernel
theorem i54_29 : lk (mi_ins m54) 29 = some (.iconst 3, 1, []) := by decide +kernel
theorem i54_30 : lk (mi_ins m54) 30 = some (.invokevirtual 67, 3, []) := by decide +kernel
theorem i54_33 : lk (mi_ins m54) 33 = some (.ireturn, 1, []) := by decide +kernel
theorem i54_34 : lk (mi_ins m54) 34 = some (.aload_n 0, 1, []) := by decide +kernel
theorem i54_35 : lk (mi_ins m54) 35 = some (.getfield 14, 3, []) := by decide +kernel
theorem i54_38 : lk (mi_ins m54) 38 = some (.invokevirtual 64, 3, []) := by decide +kernel
theorem i54_41 : lk (mi_ins m54) 41 = some (.aload_n 0, 1, []) := by decide +kernel
theorem i54_42 : lk (mi_ins m54) 42 = some (.getfield 14, 3, []) := by decide +kernel
theorem i54_45 : lk (mi_ins m54) 45 = some (.ldc 249, 2, []) := by decide +kernel
theorem i54_47 : lk (mi_ins m54) 47 = some (.invokevirtual 113, 3, []) := by decide +kernel
theorem i54_50 : lk (mi_ins m54) 50 = some (.istore_n 3, 1, []) := by decide +kernel
theorem i54_51 : lk (mi_ins m54) 51 = some (.iload_n 3, 1, []) := by decide +kernel
theorem i54_52 : lk (mi_ins m54) 52 = some (.ifCond .ne 21, 3, []) := by decide +kernel
theorem i54_55 : lk (mi_ins m54) 55 = some (.aload_n 0, 1, []) := by decide +kernel
theorem i54_56 : lk (mi_ins m54) 56 = some (.getfield 14, 3, []) := by decide +kernel
theorem i54_59 : lk (mi_ins m54) 59 = some (.ldc 251, 2, []) := by decide +kernel
theorem i54_61 : lk (mi_ins m54) 61 = some (.invokevirtual 113, 3, []) := by decide +kernel
theorem i54_64 : lk (mi_ins m54) 64 = some (.ifCond .ne 9, 3, []) := by decide +kernel
theorem i54_67 : lk (mi_ins m54) 67 = some (.aload_n 0, 1, []) := by decide +kernel
theorem i54_68 : lk (mi_ins m54) 68 = some (.iconst 1, 1, []) := by decide +kernel
theorem i54_69 : lk (mi_ins m54) 69 = some (.invokevirtual 67, 3, []) := by decide +kernel
theorem i54_72 : lk (mi_ins m54) 72 = some (.ireturn, 1, []) := by decide +kernel
theorem i54_73 : lk (mi_ins m54) 73 = some (.aload_n 0, 1, []) := by decide +kernel
theorem i54_74 : lk (mi_ins m54) 74 = some (.getfield 14, 3, []) := by decide +kernel
theorem i54_77 : lk (mi_ins m54) 77 = some (.invokevirtual 64, 3, []) := by decide +kernel
theorem i54_80 : lk (mi_ins m54) 80 = some (.aload_n 0, 1, []) := by decide +kernel
theorem i54_81 : lk (mi_ins m54) 81 = some (.iload_n 3, 1, []) := by decide +kernel
theorem i54_82 : lk (mi_ins m54) 82 = some (.ifCond .eq 7, 3, []) := by decide +kernel
theorem i54_85 : lk (mi_ins m54) 85 = some (.iconst 1, 1, []) := by decide +kernel
theorem i54_86 : lk (mi_ins m54) 86 = some (.goto 4, 3, []) := by decide +kernel
theorem i54_89 : lk (mi_ins m54) 89 = some (.iconst 0, 1, []) := by decide +kernel
theorem i54_90 : lk (mi_ins m54) 90 = some (.sipush 200, 3, []) := by decide +kernel
theorem i54_93 : lk (mi_ins m54) 93 = some (.invokevirtual 158, 3, []) := by decide +kernel
theorem i54_96 : lk (mi_ins m54) 96 = some (.ifCond .ne 5, 3, []) := by decide +kernel
theorem i54_99 : lk (mi_ins m54) 99 = some (.iconst 0, 1, []) := by decide +kernel
theorem i54_100 : lk (mi_ins m54) 100 = some (.ireturn, 1, []) := by decide +kernel
theorem i54_101 : lk (mi_ins m54) 101 = some (.aload_n 1, 1, []) := by decide +kernel
theorem i54_102 : lk (mi_ins m54) 102 = some (.getfield 253, 3, []) := by decide +kernel
theorem i54_105 : lk (mi_ins m54) 105 = some (.aload_n 1, 1, []) := by decide +kernel
theorem i54_106 : lk (mi_ins m54) 106 = some (.getfield 256, 3, []) := by decide +kernel
theorem i54_109 : lk (mi_ins m54) 109 = some (.iload_n 2, 1, []) := by decide +kernel
theorem i54_110 : lk (mi_ins m54) 110 = some (.iastore, 1, []) := by decide +kernel
theorem i54_111 : lk (mi_ins m54) 111 = some (.aload_n 1, 1, []) := by decide +kernel
theorem i54_112 : lk (mi_ins m54) 112 = some (.getfield 258, 3, []) := by decide +kernel
theorem i54_115 : lk (mi_ins m54) 115 = some (.aload_n 1, 1, []) := by decide +kernel
theorem i54_116 : lk (mi_ins m54) 116 = some (.getfield 256, 3, []) := by decide +kernel
theorem i54_119 : lk (mi_ins m54) 119 = some (.iload_n 3, 1, []) := by decide +kernel
theorem i54_120 : lk (mi_ins m54) 120 = some (.ifCond .eq 11, 3, []) := by decide +kernel
theorem i54_123 : lk (mi_ins m54) 123 = some (.aload_n 0, 1, []) := by decide +kernel
theorem i54_124 : lk (mi_ins m54) 124 = some (.getfield 162, 3, []) := by decide +kernel
theorem i54_127 : lk (mi_ins m54) 127 = some (.ineg, 1, []) := by decide +kernel
theorem i54_128 : lk (mi_ins m54) 128 = some (.goto 7, 3, []) := by decide +kernel
theorem i54_131 : lk (mi_ins m54) 131 = some (.aload_n 0, 1, []) := by decide +kernel
theorem i54_132 : lk (mi_ins m54) 132 = some (.getfield 162, 3, []) := by decide +kernel
theorem i54_135 : lk (mi_ins m54) 135 = some (.iastore, 1, [0, 2, 3]) := by decide +kernel
theorem i54_136 : lk (mi_ins m54) 136 = some (.aload_n 1, 1, []) := by decide +kernel
theorem i54_137 : lk (mi_ins m54) 137 = some (.dup, 1, []) := by decide +kernel
theorem i54_138 : lk (mi_ins m54) 138 = some (.getfield 256, 3, []) := by decide +kernel
theorem i54_141 : lk (mi_ins m54) 141 = some (.iconst 1, 1, []) := by decide +kernel
theorem i54_142 : lk (mi_ins m54) 142 = some (.iadd, 1, []) := by decide +kernel
theorem i54_143 : lk (mi_ins m54) 143 = some (.putfield 256, 3, []) := by decide +kernel
theorem i54_146 : lk (mi_ins m54) 146 = some (.iconst 1, 1, []) := by decide +kernel
theorem i54_147 : lk (mi_ins m54) 147 = some (.ireturn, 1, []) := by decide +kernel
theorem i55_0 : lk (mi_ins m55) 0 = some (.iconst 0, 1, []) := by decide +kernel
theorem i55_1 : lk (mi_ins m55) 1 = some (.istore_n 2, 1, []) := by decide +kernel
theorem i55_2 : lk (mi_ins m55) 2 = some (.iload_n 2, 1, []) := by decide +kernel
theorem i55_3 : lk (mi_ins m55) 3 = some (.aload_n 0, 1, []) := by decide +kernel
theorem i55_4 : lk (mi_ins m55) 4 = some (.getfield 27, 3, []) := by decide +kernel
theorem i55_7 : lk (mi_ins m55) 7 = some (.if_icmp .ge 21, 3, []) := by decide +kernel
theorem i55_10 : lk (mi_ins m55) 10 = some (.aload_n 0, 1, []) := by decide +kernel
theorem i55_11 : lk (mi_ins m55) 11 = some (.getfield 21, 3, []) := by decide +kernel
theorem i55_14 : lk (mi_ins m55) 14 = some (.iload_n 2, 1, []) := by decide +kernel
theorem i55_15 : lk (mi_ins m55) 15 = some (.iaload, 1, []) := by decide +kernel
theorem i55_16 : lk (mi_ins m55) 16 = some (.iload_n 1, 1, []) := by decide +kernel
theorem i55_17 : lk (mi_ins m55) 17 = some (.if_icmp .ne 5, 3, []) := by decide +kernel
theorem i55_20 : lk (mi_ins m55) 20 = some (.iconst 1, 1, []) := by decide +kernel
theorem i55_21 : lk (mi_ins m55) 21 = some (.ireturn, 1, []) := by decide +kernel
theorem i55_22 : lk (mi_ins m55) 22 = some (.iinc 2 1, 3, []) := by decide +kernel
theorem i55_25 : lk (mi_ins m55) 25 = some (.goto (-23), 3, []) := by decide +kernel
theorem i55_28 : lk (mi_ins m55) 28 = some (.iconst 0, 1, [0, 1, 2]) := by decide +kernel
theorem i55_29 : lk (mi_ins m55) 29 = some (.ireturn, 1, []) := by decide +kernel
theorem i56_0 : lk (mi_ins m56) 0 = some (.aload_n 0, 1, []) := by decide +kernel
theorem i56_1 : lk (mi_ins m56) 1 = some (.iload_n 2, 1, []) := by decide +kernel
theorem i56_2 : lk (mi_ins m56) 2 = some (.ifCond .eq 7, 3, []) := by decide +kernel
theorem i56_5 : lk (mi_ins m56) 5 = some (.iload_n 1, 1, []) := by decide +kernel
theorem i56_6 : lk (mi_ins m56) 6 = some (.goto 4, 3, []) := by decide +kernel
theorem i56_9 : lk (mi_ins m56) 9 = some (.iconst 0, 1, []) := by decide +kernel
theorem i56_10 : lk (mi_ins m56) 10 = some (.putfield 120, 3, [0, 1]) := by decide +kernel
theorem i56_13 : lk (mi_ins m56) 13 = some (.iload_n 2, 1, []) := by decide +kernel
theorem i56_14 : lk (mi_ins m56) 14 = some (.ireturn, 1, []) := by decide +kernel
theorem i57_0 : lk (mi_ins m57) 0 = some (.aload_n 0, 1, []) := by decide +kernel
theorem i57_1 : lk (mi_ins m57) 1 = some (.getfield 21, 3, []) := by decide +kernel
theorem i57_4 : lk (mi_ins m57) 4 = some (.astore_n 2, 1, []) := by decide +kernel
theorem i57_5 : lk (mi_ins m57) 5 = some (.aload_n 0, 1, []) := by decide +kernel
theorem i57_6 : lk (mi_ins m57) 6 = some (.aload_n 1, 1, []) := by decide +kernel
theorem i57_7 : lk (mi_ins m57) 7 = some (.putfield 21, 3, []) := by decide +kernel
theorem i57_10 : lk (mi_ins m57) 10 = some (.aload_n 2, 1, []) := by decide +kernel
theorem i57_11 : lk (mi_ins m57) 11 = some (.areturn, 1, []) := by decide +kernel
theorem i58_0 : lk (mi_ins m58) 0 = some (.aload_n 0, 1, []) := by decide +kernel
theorem i58_1 : lk (mi_ins m58) 1 = some (.getfield 15, 3, []) := by decide +kernel
theorem i58_4 : lk (mi_ins m58) 4 = some (.iconst 0, 1, []) := by decide +kernel
theorem i58_5 : lk (mi_ins m58) 5 = some (.aload_n 1, 1, []) := by decide +kernel
theorem i58_6 : lk (mi_ins m58) 6 = some (.getfield 90, 3, []) := by decide +kernel
theorem i58_9 : lk (mi_ins m58) 9 = some (.iconst 0, 1, []) := by decide +kernel
theorem i58_10 : lk (mi_ins m58) 10 = some (.aload_n 0, 1, []) := by decide +kernel
theorem i58_11 : lk (mi_ins m58) 11 = some (.getfield 15, 3, []) := by decide +kernel
theorem i58_14 : lk (mi_ins m58) 14 = some (.arraylength, 1, []) := by decide +kernel
theorem i58_15 : lk (mi_ins m58) 15 = some (.invokestatic 91, 3, []) := by decide +kernel
theorem i58_18 : lk (mi_ins m58) 18 = some (.aload_n 0, 1, []) := by decide +kernel
theorem i58_19 : lk (mi_ins m58) 19 = some (.getfield 27, 3, []) := by decide +kernel
theorem i58_22 : lk (mi_ins m58) 22 = some (.iconst 0, 1, []) := by decide +kernel
theorem i58_23 : lk (mi_ins m58) 23 = some (.aload_n 1, 1, []) := by decide +kernel
theorem i58_24 : lk (mi_ins m58) 24 = some (.getfield 89, 3, []) := by decide +kernel
theorem i58_27 : lk (mi_ins m58) 27 = some (.iconst 0, 1, []) := by decide +kernel
theorem i58_28 : lk (mi_ins m58) 28 = some (.aload_n 0, 1, []) := by decide +kernel
theorem i58_29 : lk (mi_ins m58) 29 = some (.getfield 27, 3, []) := by decide +kernel
theorem i58_32 : lk (mi_ins m58) 32 = some (.arraylength, 1, []) := by decide +kernel
theorem i58_33 : lk (mi_ins m58) 33 = some (.invokestatic 91, 3, []) := by decide +kernel
theorem i58_36 : lk (mi_ins m58) 36 = some (.iconst 0, 1, []) := by decide +kernel
theorem i58_37 : lk (mi_ins m58) 37 = some (.istore_n 3, 1, []) := by decide +kernel
theorem i58_38 : lk (mi_ins m58) 38 = some (.iload_n 3, 1, [4]) := by decide +kernel
theorem i58_39 : lk (mi_ins m58) 39 = some (.aload_n 0, 1, []) := by decide +kernel
theorem i58_40 : lk (mi_ins m58) 40 = some (.getfield 48, 3, []) := by decide +kernel
theorem i58_43 : lk (mi_ins m58) 43 = some (.getfield 74, 3, []) := by decide +kernel
theorem i58_46 : lk (mi_ins m58) 46 = some (.if_icmp .ge 65, 3, []) := by decide +kernel
theorem i58_49 : lk (mi_ins m58) 49 = some (.aload_n 0, 1, []) := by decide +kernel
theorem i58_50 : lk (mi_ins m58) 50 = some (.getfield 48, 3, []) := by decide +kernel
theorem i58_53 : lk (mi_ins m58) 53 = some (.getfield 97, 3, []) := by decide +kernel
theorem i58_56 : lk (mi_ins m58) 56 = some (.iload_n 3, 1, []) := by decide +kernel
theorem i58_57 : lk (mi_ins m58) 57 = some (.iaload, 1, []) := by decide +kernel
theorem i58_58 : lk (mi_ins m58) 58 = some (.istore 4, 2, []) := by decide +kernel
theorem i58_60 : lk (mi_ins m58) 60 = some (.iload_n 2, 1, []) := by decide +kernel
theorem i58_61 : lk (mi_ins m58) 61 = some (.iload 4, 2, []) := by decide +kernel
theorem i58_63 : lk (mi_ins m58) 63 = some (.ishr, 1, []) := by decide +kernel
theorem i58_64 : lk (mi_ins m58) 64 = some (.iconst 1, 1, []) := by decide +kernel
theorem i58_65 : lk (mi_ins m58) 65 = some (.iand, 1, []) := by decide +kernel
theorem i58_66 : lk (mi_ins m58) 66 = some (.ifCond .ne 39, 3, []) := by decide +kernel
theorem i58_69 : lk (mi_ins m58) 69 = some (.aload_n 1, 1, []) := by decide +kernel
theorem i58_70 : lk (mi_ins m58) 70 = some (.getfield 90, 3, []) := by decide +kernel
theorem i58_73 : lk (mi_ins m58) 73 = some (.aload_n 0, 1, []) := by decide +kernel
theorem i58_74 : lk (mi_ins m58) 74 = some (.getfield 48, 3, []) := by decide +kernel
theorem i58_77 : lk (mi_ins m58) 77 = some (.getfield 100, 3, []) := by decide +kernel
theorem i58_80 : lk (mi_ins m58) 80 = some (.iload_n 3, 1, []) := by decide +kernel
theorem i58_81 : lk (mi_ins m58) 81 = some (.iaload, 1, []) := by decide +kernel
theorem i58_82 : lk (mi_ins m58) 82 = some (.iconst 5, 1, []) := by decide +kernel
theorem i58_83 : lk (mi_ins m58) 83 = some (.imul, 1, []) := by decide +kernel
theorem i58_84 : lk (mi_ins m58) 84 = some (.aload_n 0, 1, []) := by decide +kernel
theorem i58_85 : lk (mi_ins m58) 85 = some (.getfield 30, 3, []) := by decide +kernel
theorem i58_88 : lk (mi_ins m58) 88 = some (.iload 4, 2, []) := by decide +kernel
theorem i58_90 : lk (mi_ins m58) 90 = some (.iaload, 1, []) := by decide +kernel
theorem i58_91 : lk (mi_ins m58) 91 = some (.iadd, 1, []) := by decide +kernel
theorem i58_92 : lk (mi_ins m58) 92 = some (.dup2, 1, []) := by decide +kernel
theorem i58_93 : lk (mi_ins m58) 93 = some (.iaload, 1, []) := by decide +kernel
theorem i58_94 : lk (mi_ins m58) 94 = some (.aload_n 0, 1, []) := by decide +kernel
theorem i58_95 : lk (mi_ins m58) 95 = some (.getfield 48, 3, []) := by decide +kernel
theorem i58_98 : lk (mi_ins m58) 98 = some (.getfield 103, 3, []) := by decide +kernel
theorem i58_101 : lk (mi_ins m58) 101 = some (.iload_n 3, 1, []) := by decide +kernel
theorem i58_102 : lk (mi_ins m58) 102 = some (.iaload, 1, []) := by decide +kernel
theorem i58_103 : lk (mi_ins m58) 103 = some (.iadd, 1, []) := by decide +kernel
theorem i58_104 : lk (mi_ins m58) 104 = some (.iastore, 1, []) := by decide +kernel
theorem i58_105 : lk (mi_ins m58) 105 = some (.iinc 3 1, 3, [4]) := by decide +kernel
theorem i58_108 : lk (mi_ins m58) 108 = some (.goto (-70), 3, []) := by decide +kernel
theorem i58_111 : lk (mi_ins m58) 111 = some (.aload_n 1, 1, [2, 3, 4]) := by decide +kernel
theorem i58_112 : lk (mi_ins m58) 112 = some (.iconst 1, 1, []) := by decide +kernel
theorem i58_113 : lk (mi_ins m58) 113 = some (.aload_n 0, 1, []) := by decide +kernel
theorem i58_114 : lk (mi_ins m58) 114 = some (.getfield 62, 3, []) := by decide +kernel
theorem i58_117 : lk (mi_ins m58) 117 = some (.ishl, 1, []) := by decide +kernel
theorem i58_118 : lk (mi_ins m58) 118 = some (.iconst 1, 1, []) := by decide +kernel
theorem i58_119 : lk (mi_ins m58) 119 = some (.isub, 1, []) := by decide +kernel
theorem i58_120 : lk (mi_ins m58) 120 = some (.putfield 106, 3, []) := by decide +kernel
theorem i58_123 : lk (mi_ins m58) 123 = some (.aload_n 1, 1, []) := by decide +kernel
theorem i58_124 : lk (mi_ins m58) 124 = some (.iconst 0, 1, []) := by decide +kernel
theorem i58_125 : lk (mi_ins m58) 125 = some (.putfield 109, 3, []) := by decide +kernel
theorem i58_128 : lk (mi_ins m58) 128 = some (.aload_n 1, 1, []) := by decide +kernel
theorem i58_129 : lk (mi_ins m58) 129 = some (.iconst 0, 1, []) := by decide +kernel
theorem i58_130 : lk (mi_ins m58) 130 = some (.putfield 112, 3, []) := by decide +kernel
theorem i58_133 : lk (mi_ins m58) 133 = some (.return_, 1, []) := by decide +kernel
theorem i59_0 : lk (mi_ins m59) 0 = some (.aload_n 0, 1, []) := by decide +kernel
theorem i59_1 : lk (mi_ins m59) 1 = some (.iconst 0, 1, []) := by decide +kernel
theorem i59_2 : lk (mi_ins m59) 2 = some (.putfield 18, 3, []) := by decide +kernel
theorem i59_5 : lk (mi_ins m59) 5 = some (.aload_n 0, 1, []) := by decide +kernel
theorem i59_6 : lk (mi_ins m59) 6 = some (.iconst 0, 1, []) := by decide +kernel
theorem i59_7 : lk (mi_ins m59) 7 = some (.putfield 22, 3, []) := by decide +kernel
theorem i59_10 : lk (mi_ins m59) 10 = some (.aload_n 0, 1, []) := by decide +kernel
theorem i59_11 : lk (mi_ins m59) 11 = some (.iconst 0, 1, []) := by decide +kernel
theorem i59_12 : lk (mi_ins m59) 12 = some (.putfield 25, 3, []) := by decide +kernel
theorem i59_15 : lk (mi_ins m59) 15 = some (.return_, 1, []) := by decide +kernel
theorem i60_0 : lk (mi_ins m60) 0 = some (.aload_n 0, 1, []) := by decide +kernel
theorem i60_1 : lk (mi_ins m60) 1 = some (.getfield 16, 3, []) := by decide +kernel
theorem i60_4 : lk (mi_ins m60) 4 = some (.getfield 99, 3, []) := by decide +kernel
theorem i60_7 : lk (mi_ins m60) 7 = some (.ireturn, 1, []) := by decide +kernel
theorem i61_0 : lk (mi_ins m61) 0 = some (.aload_n 0, 1, []) := by decide +kernel
theorem i61_1 : lk (mi_ins m61) 1 = some (.getfield 120, 3, []) := by decide +kernel
theorem i61_4 : lk (mi_ins m61) 4 = some (.iconst 4, 1, []) := by decide +kernel
theorem i61_5 : lk (mi_ins m61) 5 = some (.if_icmp .ne 13, 3, []) := by decide +kernel
theorem i61_8 : lk (mi_ins m61) 8 = some (.aload_n 0, 1, []) := by decide +kernel
theorem i61_9 : lk (mi_ins m61) 9 = some (.getfield 16, 3, []) := by decide +kernel
theorem i61_12 : lk (mi_ins m61) 12 = some (.getfield 123, 3, []) := by decide +kernel
theorem i61_15 : lk (mi_ins m61) 15 = some (.goto 4, 3, []) := by decide +kernel
theorem i61_18 : lk (mi_ins m61) 18 = some (.iconst (-1), 1, []) := by decide +kernel
theorem i61_19 : lk (mi_ins m61) 19 = some (.ireturn, 1, [0]) := by decide +kernel
theorem i62_0 : lk (mi_ins m62) 0 = some (.aload_n 0, 1, []) := by decide +kernel
theorem i62_1 : lk (mi_ins m62) 1 = some (.aload_n 0, 1, []) := by decide +kernel
theorem i62_2 : lk (mi_ins m62) 2 = some (.iload_n 1, 1, []) := by decide +kernel
theorem i62_3 : lk (mi_ins m62) 3 = some (.invokevirtual 126, 3, []) := by decide +kernel
theorem i62_6 : lk (mi_ins m62) 6 = some (.ifCond .ne 12, 3, []) := by decide +kernel
theorem i62_9 : lk (mi_ins m62) 9 = some (.iload_n 2, 1, []) := by decide +kernel
theorem i62_10 : lk (mi_ins m62) 10 = some (.iconst 0, 1, []) := by decide +kernel
theorem i62_11 : lk (mi_ins m62) 11 = some (.iconst 5, 1, []) := by decide +kernel
theorem i62_12 : lk (mi_ins m62) 12 = some (.invokestatic 87, 3, []) := by decide +kernel
theorem i62_15 : lk (mi_ins m62) 15 = some (.ifCond .eq 7, 3, []) := by decide +kernel
theorem i62_18 : lk (mi_ins m62) 18 = some (.iconst 1, 1, []) := by decide +kernel
theorem i62_19 : lk (mi_ins m62) 19 = some (.goto 4, 3, []) := by decide +kernel
theorem i62_22 : lk (mi_ins m62) 22 = some (.iconst 0, 1, []) := by decide +kernel
theorem i62_23 : lk (mi_ins m62) 23 = some (.iconst 0, 1, []) := by decide +kernel
theorem i62_24 : lk (mi_ins m62) 24 = some (.invokevirtual 91, 3, []) := by decide +kernel
theorem i62_27 : lk (mi_ins m62) 27 = some (.ifCond .eq 5, 3, []) := by decide +kernel
theorem i62_30 : lk (mi_ins m62) 30 = some (.iconst (-1), 1, []) := by decide +kernel
theorem i62_31 : lk (mi_ins m62) 31 = some (.ireturn, 1, []) := by decide +kernel
theorem i62_32 : lk (mi_ins m62) 32 = some (.aload_n 0, 1, []) := by decide +kernel
theorem i62_33 : lk (mi_ins m62) 33 = some (.getfield 40, 3, []) := by decide +kernel
theorem i62_36 : lk (mi_ins m62) 36 = some (.aload_n 0, 1, []) := by decide +kernel
theorem i62_37 : lk (mi_ins m62) 37 = some (.getfield 23, 3, []) := by decide +kernel
theorem i62_40 : lk (mi_ins m62) 40 = some (.aload_n 0, 1, []) := by decide +kernel
theorem i62_41 : lk (mi_ins m62) 41 = some (.getfield 30, 3, []) := by decide +kernel
theorem i62_44 : lk (mi_ins m62) 44 = some (.invokevirtual 130, 3, []) := by decide +kernel
theorem i62_47 : lk (mi_ins m62) 47 = some (.iload_n 2, 1, []) := by decide +kernel
theorem i62_48 : lk (mi_ins m62) 48 = some (.tableswitch 99 0 4 #[36, 53, 66, 75, 89], 36, []) := by decide +kernel
theorem i62_84 : lk (mi_ins m62) 84 = some (.aload_n 0, 1, []) := by decide +kernel
theorem i62_85 : lk (mi_ins m62) 85 = some (.getfield 23, 3, []) := by decide +kernel
theorem i62_88 : lk (mi_ins m62) 88 = some (.iload_n 1, 1, []) := by decide +kernel
theorem i62_89 : lk (mi_ins m62) 89 = some (.invokevirtual 134, 3, []) := by decide +kernel
theorem i62_92 : lk (mi_ins m62) 92 = some (.ifCond .eq 7, 3, []) := by decide +kernel
theorem i62_95 : lk (mi_ins m62) 95 = some (.iconst 0, 1, []) := by decide +kernel
theorem i62_96 : lk (mi_ins m62) 96 = some (.goto 4, 3, []) := by decide +kernel
theorem i62_99 : lk (mi_ins m62) 99 = some (.iconst 1, 1, []) := by decide +kernel
theorem i62_100 : lk (mi_ins m62) 100 = some (.ireturn, 1, [0, 1, 2]) := by decide +kernel
theorem i62_101 : lk (mi_ins m62) 101 = some (.aload_n 0, 1, []) := by decide +kernel
theorem i62_102 : lk (mi_ins m62) 102 = some (.getfield 23, 3, []) := by decide +kernel
theorem i62_105 : lk (mi_ins m62) 105 = some (.iload_n 1, 1, []) := by decide +kernel
theorem i62_106 : lk (mi_ins m62) 106 = some (.aload_n 0, 1, []) := by decide +kernel
theorem i62_107 : lk (mi_ins m62) 107 = some (.getfield 30, 3, []) := by decide +kernel
theorem i62_110 : lk (mi_ins m62) 110 = some (.invokevirtual 137, 3, []) := by decide +kernel
theorem i62_113 : lk (mi_ins m62) 113 = some (.ireturn, 1, []) := by decide +kernel
theorem i62_114 : lk (mi_ins m62) 114 = some (.aload_n 0, 1, []) := by decide +kernel
theorem i62_115 : lk (mi_ins m62) 115 = some (.getfield 30, 3, []) := by decide +kernel
theorem i62_118 : lk (mi_ins m62) 118 = some (.iload_n 1, 1, []) := by decide +kernel
theorem i62_119 : lk (mi_ins m62) 119 = some (.invokevirtual 141, 3, []) := by decide +kernel
theorem i62_122 : lk (mi_ins m62) 122 = some (.ireturn, 1, []) := by decide +kernel
theorem i62_123 : lk (mi_ins m62) 123 = some (.aload_n 0, 1, []) := by decide +kernel
theorem i62_124 : lk (mi_ins m62) 124 = some (.getfield 40, 3, []) := by decide +kernel
theorem i62_127 : lk (mi_ins m62) 127 = some (.getfield 145, 3, []) := by decide +kernel
theorem i62_130 : lk (mi_ins m62) 130 = some (.iload_n 1, 1, []) := by decide +kernel
theorem i62_131 : lk (mi_ins m62) 131 = some (.iaload, 1, []) := by decide +kernel
theorem i62_132 : lk (mi_ins m62) 132 = some (.sipush 1000, 3, []) := by decide +kernel
theorem i62_135 : lk (mi_ins m62) 135 = some (.iadd, 1, []) := by decide +kernel
theorem i62_136 : lk (mi_ins m62) 136 = some (.ireturn, 1, []) := by decide +kernel
theorem i62_137 : lk (mi_ins m62) 137 = some (.aload_n 0, 1, []) := by decide +kernel
theorem i62_138 : lk (mi_ins m62) 138 = some (.getfield 40, 3, []) := by decide +kernel
theorem i62_141 : lk (mi_ins m62) 141 = some (.getfield 149, 3, []) := by decide +kernel
theorem i62_144 : lk (mi_ins m62) 144 = some (.iload_n 1, 1, []) := by decide +kernel
theorem i62_145 : lk (mi_ins m62) 145 = some (.iaload, 1, []) := by decide +kernel
theorem i62_146 : lk (mi_ins m62) 146 = some (.ireturn, 1, []) := by decide +kernel
theorem i62_147 : lk (mi_ins m62) 147 = some (.aload_n 0, 1, []) := by decide +kernel
theorem i62_148 : lk (mi_ins m62) 148 = some (.iload_n 1, 1, []) := by decide +kernel
theorem i62_149 : lk (mi_ins m62) 149 = some (.invokevirtual 152, 3, []) := by decide +kernel
theorem i62_152 : lk (mi_ins m62) 152 = some (.ireturn, 1, []) := by decide +kernel
theorem i63_0 : lk (mi_ins m63) 0 = some (.iload_n 1, 1, []) := by decide +kernel
theorem i63_1 : lk (mi_ins m63) 1 = some (.iconst 0, 1, []) := by decide +kernel
theorem i63_2 : lk (mi_ins m63) 2 = some (.aload_n 0, 1, []) := by decide +kernel
theorem i63_3 : lk (mi_ins m63) 3 = some (.getfield 23, 3, []) := by decide +kernel
theorem i63_6 : lk (mi_ins m63) 6 = some (.getfield 117, 3, []) := by decide +kernel
theorem i63_9 : lk (mi_ins m63) 9 = some (.iconst 1, 1, []) := by decide +kernel
theorem i63_10 : lk (mi_ins m63) 10 = some (.isub, 1, []) := by decide +kernel
theorem i63_11 : lk (mi_ins m63) 11 = some (.invokestatic 87, 3, []) := by decide +kernel
theorem i63_14 : lk (mi_ins m63) 14 = some (.ireturn, 1, []) := by decide +kernel
theorem i64_0 : lk (mi_ins m64) 0 = some (.aload_n 0, 1, []) := by decide +kernel
theorem i64_1 : lk (mi_ins m64) 1 = some (.aload_n 1, 1, []) := by decide +kernel
theorem i64_2 : lk (mi_ins m64) 2 = some (.aload_n 2, 1, []) := by decide +kernel
theorem i64_3 : lk (mi_ins m64) 3 = some (.invokevirtual 21, 3, []) := by decide +kernel
theorem i64_6 : lk (mi_ins m64) 6 = some (.aload_n 0, 1, []) := by decide +kernel
theorem i64_7 : lk (mi_ins m64) 7 = some (.aload_n 1, 1, []) := by decide +kernel
theorem i64_8 : lk (mi_ins m64) 8 = some (.aload_n 2, 1, []) := by decide +kernel
theorem i64_9 : lk (mi_ins m64) 9 = some (.getfield 25, 3, []) := by decide +kernel
theorem i64_12 : lk (mi_ins m64) 12 = some (.invokevirtual 31, 3, []) := by decide +kernel
theorem i64_15 : lk (mi_ins m64) 15 = some (.aload_n 0, 1, []) := by decide +kernel
theorem i64_16 : lk (mi_ins m64) 16 = some (.invokevirtual 35, 3, []) := by decide +kernel
theorem i64_19 : lk (mi_ins m64) 19 = some (.return_, 1, []) := by decide +kernel
theorem i65_0 : lk (mi_ins m65) 0 = some (.aload_n 0, 1, []) := by decide +kernel
theorem i65_1 : lk (mi_ins m65) 1 = some (.aload_n 1, 1, []) := by decide +kernel
theorem i65_2 : lk (mi_ins m65) 2 = some (.getfield 38, 3, []) := by decide +kernel
theorem i65_5 : lk (mi_ins m65) 5 = some (.putfield 41, 3, []) := by decide +kernel
theorem i65_8 : lk (mi_ins m65) 8 = some (.iconst 0, 1, []) := by decide +kernel
theorem i65_9 : lk (mi_ins m65) 9 = some (.istore_n 3, 1, []) := by decide +kernel
theorem i65_10 : lk (mi_ins m65) 10 = some (.iload_n 3, 1, []) := by decide +kernel
theorem i65_11 : lk (mi_ins m65) 11 = some (.aload_n 0, 1, []) := by decide +kernel
theorem i65_12 : lk (mi_ins m65) 12 = some (.getfield 41, 3, []) := by decide +kernel
theorem i65_15 : lk (mi_ins m65) 15 = some (.if_icmp .ge 27, 3, []) := by decide +kernel
theorem i65_18 : lk (mi_ins m65) 18 = some (.aload_n 0, 1, []) := by decide +kernel
theorem i65_19 : lk (mi_ins m65) 19 = some (.getfield 9, 3, []) := by decide +kernel
theorem i65_22 : lk (mi_ins m65) 22 = some (.iload_n 3, 1, []) := by decide +kernel
theorem i65_23 : lk (mi_ins m65) 23 = some (.aload_n 2, 1, []) := by decide +kernel
theorem i65_24 : lk (mi_ins m65) 24 = some (.iload_n 3, 1, []) := by decide +kernel
theorem i65_25 : lk (mi_ins m65) 25 = some (.invokevirtual 42, 3, []) := by decide +kernel
theorem i65_28 : lk (mi_ins m65) 28 = some (.aload_n 1, 1, []) := by decide +kernel
theorem i65_29 : lk (mi_ins m65) 29 = some (.iload_n 3, 1, []) := by decide +kernel
theorem i65_30 : lk (mi_ins m65) 30 = some (.aload_n 2, 1, []) := by decide +kernel
theorem i65_31 : lk (mi_ins m65) 31 = some (.invokevirtual 46, 3, []) := by decide +kernel
theorem i65_34 : lk (mi_ins m65) 34 = some (.isub, 1, []) := by decide +kernel
theorem i65_35 : lk (mi_ins m65) 35 = some (.iastore, 1, []) := by decide +kernel
theorem i65_36 : lk (mi_ins m65) 36 = some (.iinc 3 1, 3, []) := by decide +kernel
theorem i65_39 : lk (mi_ins m65) 39 = some (.goto (-29), 3, []) := by decide +kernel
theorem i65_42 : lk (mi_ins m65) 42 = some (.return_, 1, [0, 1, 2, 3]) := by decide +kernel
theorem i66_0 : lk (mi_ins m66) 0 = some (.iconst 0, 1, []) := by decide +kernel
theorem i66_1 : lk (mi_ins m66) 1 = some (.istore_n 2, 1, []) := by decide +kernel
theorem i66_2 : lk (mi_ins m66) 2 = some (.iconst 0, 1, []) := by decide +kernel
theorem i66_3 : lk (mi_ins m66) 3 = some (.istore_n 3, 1, []) := by decide +kernel
theorem i66_4 : lk (mi_ins m66) 4 = some (.iload_n 3, 1, []) := by decide +kernel
theorem i66_5 : lk (mi_ins m66) 5 = some (.iconst 5, 1, []) := by decide +kernel
theorem i66_6 : lk (mi_ins m66) 6 = some (.if_icmp .ge 28, 3, []) := by decide +kernel
theorem i66_9 : lk (mi_ins m66) 9 = some (.iload_n 2, 1, []) := by decide +kernel
theorem i66_10 : lk (mi_ins m66) 10 = some (.aload_n 0, 1, []) := by decide +kernel
theorem i66_11 : lk (mi_ins m66) 11 = some (.getfield 11, 3, []) := by decide +kernel
theorem i66_14 : lk (mi_ins m66) 14 = some (.iload_n 1, 1, []) := by decide +kernel
theorem i66_15 : lk (mi_ins m66) 15 = some (.iconst 5, 1, []) := by decide +kernel
theorem i66_16 : lk (mi_ins m66) 16 = some (.imul, 1, []) := by decide +kernel
theorem i66_17 : lk (mi_ins m66) 17 = some (.iload_n 3, 1, []) := by decide +kernel
theorem i66_18 : lk (mi_ins m66) 18 = some (.iadd, 1, []) := by decide +kernel
theorem i66_19 : lk (mi_ins m66) 19 = some (.iaload, 1, []) := by decide +kernel
theorem i66_20 : lk (mi_ins m66) 20 = some (.getstatic 18, 3, []) := by decide +kernel
theorem i66_23 : lk (mi_ins m66) 23 = some (.iload_n 3, 1, []) := by decide +kernel
theorem i66_24 : lk (mi_ins m66) 24 = some (.iaload, 1, []) := by decide +kernel
theorem i66_25 : lk (mi_ins m66) 25 = some (.imul, 1, []) := by decide +kernel
theorem i66_26 : lk (mi_ins m66) 26 = some (.iadd, 1, []) := by decide +kernel
theorem i66_27 : lk (mi_ins m66) 27 = some (.istore_n 2, 1, []) := by decide +kernel
theorem i66_28 : lk (mi_ins m66) 28 = some (.iinc 3 1, 3, []) := by decide +kernel
theorem i66_31 : lk (mi_ins m66) 31 = some (.goto (-27), 3, []) := by decide +kernel
theorem i66_34 : lk (mi_ins m66) 34 = some (.iload_n 2, 1, [0, 1, 3]) := by decide +kernel
theorem i66_35 : lk (mi_ins m66) 35 = some (.ireturn, 1, []) := by decide +kernel
theorem i67_0 : lk (mi_ins m67) 0 = some (.aload_n 0, 1, []) := by decide +kernel
theorem i67_1 : lk (mi_ins m67) 1 = some (.getfield 9, 3, []) := by decide +kernel
theorem i67_4 : lk (mi_ins m67) 4 = some (.iload_n 1, 1, []) := by decide +kernel
theorem i67_5 : lk (mi_ins m67) 5 = some (.iaload, 1, []) := by decide +kernel
theorem i67_6 : lk (mi_ins m67) 6 = some (.istore_n 3, 1, []) := by decide +kernel
theorem i67_7 : lk (mi_ins m67) 7 = some (.iconst 0, 1, []) := by decide +kernel
theorem i67_8 : lk (mi_ins m67) 8 = some (.istore 4, 2, []) := by decide +kernel
theorem i67_10 : lk (mi_ins m67) 10 = some (.iload 4, 2, []) := by decide +kernel
theorem i67_12 : lk (mi_ins m67) 12 = some (.aload_n 0, 1, []) := by decide +kernel
theorem i67_13 : lk (mi_ins m67) 13 = some (.getfield 65, 3, []) := by decide +kernel
theorem i67_16 : lk (mi_ins m67) 16 = some (.if_icmp .ge 30, 3, []) := by decide +kernel
theorem i67_19 : lk (mi_ins m67) 19 = some (.aload_n 2, 1, []) := by decide +kernel
theorem i67_20 : lk (mi_ins m67) 20 = some (.getfield 89, 3, []) := by decide +kernel
theorem i67_23 : lk (mi_ins m67) 23 = some (.iload 4, 2, []) := by decide +kernel
theorem i67_25 : lk (mi_ins m67) 25 = some (.iaload, 1, []) := by decide +kernel
theorem i67_26 : lk (mi_ins m67) 26 = some (.iload_n 1, 1, []) := by decide +kernel
theorem i67_27 : lk (mi_ins m67) 27 = some (.if_icmp .ne 13, 3, []) := by decide +kernel
theorem i67_30 : lk (mi_ins m67) 30 = some (.iload_n 3, 1, []) := by decide +kernel
theorem i67_31 : lk (mi_ins m67) 31 = some (.aload_n 0, 1, []) := by decide +kernel
theorem i67_32 : lk (mi_ins m67) 32 = some (.getfield 24, 3, []) := by decide +kernel
theorem i67_35 : lk (mi_ins m67) 35 = some (.iload 4, 2, []) := by decide +kernel
theorem i67_37 : lk (mi_ins m67) 37 = some (.iaload, 1, []) := by decide +kernel
theorem i67_38 : lk (mi_ins m67) 38 = some (.iadd, 1, []) := by decide +kernel
theorem i67_39 : lk (mi_ins m67) 39 = some (.istore_n 3, 1, []) := by decide +kernel
theorem i67_40 : lk (mi_ins m67) 40 = some (.iinc 4 1, 3, []) := by decide +kernel
theorem i67_43 : lk (mi_ins m67) 43 = some (.goto (-33), 3, []) := by decide +kernel
theorem i67_46 : lk (mi_ins m67) 46 = some (.iload_n 3, 1, [0, 1, 2, 4]) := by decide +kernel
theorem i67_47 : lk (mi_ins m67) 47 = some (.ireturn, 1, []) := by decide +kernel
theorem i68_0 : lk (mi_ins m68) 0 = some (.iconst 0, 1, []) := by decide +kernel
theorem i68_1 : lk (mi_ins m68) 1 = some (.istore_n 3, 1, []) := by decide +kernel
theorem i68_2 : lk (mi_ins m68) 2 = some (.iload_n 3, 1, []) := by decide +kernel
theorem i68_3 : lk (mi_ins m68) 3 = some (.aload_n 0, 1, []) := by decide +kernel
theorem i68_4 : lk (mi_ins m68) 4 = some (.getfield 41, 3, []) := by decide +kernel
theorem i68_7 : lk (mi_ins m68) 7 = some (.if_icmp .ge 18, 3, []) := by decide +kernel
theorem i68_10 : lk (mi_ins m68) 10 = some (.aload_n 0, 1, []) := by decide +kernel
theorem i68_11 : lk (mi_ins m68) 11 = some (.getfield 15, 3, []) := by decide +kernel
theorem i68_14 : lk (mi_ins m68) 14 = some (.iload_n 3, 1, []) := by decide +kernel
theorem i68_15 : lk (mi_ins m68) 15 = some (.iconst 1, 1, []) := by decide +kernel
theorem i68_16 : lk (mi_ins m68) 16 = some (.iload_n 3, 1, []) := by decide +kernel
theorem i68_17 : lk (mi_ins m68) 17 = some (.ishl, 1, []) := by decide +kernel
theorem i68_18 : lk (mi_ins m68) 18 = some (.iastore, 1, []) := by decide +kernel
theorem i68_19 : lk (mi_ins m68) 19 = some (.iinc 3 1, 3, []) := by decide +kernel
theorem i68_22 : lk (mi_ins m68) 22 = some (.goto (-20), 3, []) := by decide +kernel
theorem i68_25 : lk (mi_ins m68) 25 = some (.iconst 0, 1, [3]) := by decide +kernel
theorem i68_26 : lk (mi_ins m68) 26 = some (.istore_n 3, 1, []) := by decide +kernel
theorem i68_27 : lk (mi_ins m68) 27 = some (.iload_n 3, 1, []) := by decide +kernel
theorem i68_28 : lk (mi_ins m68) 28 = some (.aload_n 1, 1, []) := by decide +kernel
theorem i68_29 : lk (mi_ins m68) 29 = some (.getfield 50, 3, []) := by decide +kernel
theorem i68_32 : lk (mi_ins m68) 32 = some (.if_icmp .ge 44, 3, []) := by decide +kernel
theorem i68_35 : lk (mi_ins m68) 35 = some (.iload_n 2, 1, []) := by decide +kernel
theorem i68_36 : lk (mi_ins m68) 36 = some (.iload_n 3, 1, []) := by decide +kernel
theorem i68_37 : lk (mi_ins m68) 37 = some (.ishr, 1, []) := by decide +kernel
theorem i68_38 : lk (mi_ins m68) 38 = some (.iconst 1, 1, []) := by decide +kernel
theorem i68_39 : lk (mi_ins m68) 39 = some (.iand, 1, []) := by decide +kernel
theorem i68_40 : lk (mi_ins m68) 40 = some (.ifCond .eq 30, 3, []) := by decide +kernel
theorem i68_43 : lk (mi_ins m68) 43 = some (.aload_n 0, 1, []) := by decide +kernel
theorem i68_44 : lk (mi_ins m68) 44 = some (.aload_n 0, 1, []) := by decide +kernel
theorem i68_45 : lk (mi_ins m68) 45 = some (.getfield 15, 3, []) := by decide +kernel
theorem i68_48 : lk (mi_ins m68) 48 = some (.aload_n 1, 1, []) := by decide +kernel
theorem i68_49 : lk (mi_ins m68) 49 = some (.getfield 53, 3, []) := by decide +kernel
theorem i68_52 : lk (mi_ins m68) 52 = some (.iload_n 3, 1, []) := by decide +kernel
theorem i68_53 : lk (mi_ins m68) 53 = some (.iaload, 1, []) := by decide +kernel
theorem i68_54 : lk (mi_ins m68) 54 = some (.iaload, 1, []) := by decide +kernel
theorem i68_55 : lk (mi_ins m68) 55 = some (.aload_n 0, 1, []) := by decide +kernel
theorem i68_56 : lk (mi_ins m68) 56 = some (.getfield 15, 3, []) := by decide +kernel
theorem i68_59 : lk (mi_ins m68) 59 = some (.aload_n 1, 1, []) := by decide +kernel
theorem i68_60 : lk (mi_ins m68) 60 = some (.getfield 56, 3, []) := by decide +kernel
theorem i68_63 : lk (mi_ins m68) 63 = some (.iload_n 3, 1, []) := by decide +kernel
theorem i68_64 : lk (mi_ins m68) 64 = some (.iaload, 1, []) := by decide +kernel
theorem i68_65 : lk (mi_ins m68) 65 = some (.iaload, 1, []) := by decide +kernel
theorem i68_66 : lk (mi_ins m68) 66 = some (.ior, 1, []) := by decide +kernel
theorem i68_67 : lk (mi_ins m68) 67 = some (.invokevirtual 59, 3, []) := by decide +kernel
theorem i68_70 : lk (mi_ins m68) 70 = some (.iinc 3 1, 3, []) := by decide +kernel
theorem i68_73 : lk (mi_ins m68) 73 = some (.goto (-46), 3, []) := by decide +kernel
theorem i68_76 : lk (mi_ins m68) 76 = some (.return_, 1, [0, 1, 2, 3]) := by decide +kernel
theorem i69_0 : lk (mi_ins m69) 0 = some (.iconst 0, 1, []) := by decide +kernel
theorem i69_1 : lk (mi_ins m69) 1 = some (.istore_n 2, 1, []) := by decide +kernel
theorem i69_2 : lk (mi_ins m69) 2 = some (.iload_n 2, 1, []) := by decide +kernel
theorem i69_3 : lk (mi_ins m69) 3 = some (.aload_n 0, 1, []) := by decide +kernel
theorem i69_4 : lk (mi_ins m69) 4 = some (.getfield 41, 3, []) := by decide +kernel
theorem i69_7 : lk (mi_ins m69) 7 = some (.if_icmp .ge 24, 3, []) := by decide +kernel
theorem i69_10 : lk (mi_ins m69) 10 = some (.iload_n 1, 1, []) := by decide +kernel
theorem i69_11 : lk (mi_ins m69) 11 = some (.iload_n 2, 1, []) := by decide +kernel
theorem i69_12 : lk (mi_ins m69) 12 = some (.ishr, 1, []) := by decide +kernel
theorem i69_13 : lk (mi_ins m69) 13 = some (.iconst 1, 1, []) := by decide +kernel
theorem i69_14 : lk (mi_ins m69) 14 = some (.iand, 1, []) := by decide +kernel
theorem i69_15 : lk (mi_ins m69) 15 = some (.ifCond .eq 10, 3, []) := by decide +kernel
theorem i69_18 : lk (mi_ins m69) 18 = some (.aload_n 0, 1, []) := by decide +kernel
theorem i69_19 : lk (mi_ins m69) 19 = some (.getfield 15, 3, []) := by decide +kernel
theorem i69_22 : lk (mi_ins m69) 22 = some (.iload_n 2, 1, []) := by decide +kernel
theorem i69_23 : lk (mi_ins m69) 23 = some (.iload_n 1, 1, []) := by decide +kernel
theorem i69_24 : lk (mi_ins m69) 24 = some (.iastore, 1, []) := by decide +kernel
theorem i69_25 : lk (mi_ins m69) 25 = some (.iinc 2 1, 3, []) := by decide +kernel
theorem i69_28 : lk (mi_ins m69) 28 = some (.goto (-26), 3, []) := by decide +kernel
theorem i69_31 : lk (mi_ins m69) 31 = some (.return_, 1, [0, 1, 2]) := by decide +kernel
theorem i70_0 : lk (mi_ins m70) 0 = some (.iconst 0, 1, []) := by decide +kernel
theorem i70_1 : lk (mi_ins m70) 1 = some (.istore_n 1, 1, []) := by decide +kernel
theorem i70_2 : lk (mi_ins m70) 2 = some (.iload_n 1, 1, [2, 3]) := by decide +kernel
theorem i70_3 : lk (mi_ins m70) 3 = some (.aload_n 0, 1, []) := by decide +kernel
theorem i70_4 : lk (mi_ins m70) 4 = some (.getfield 41, 3, []) := by decide +kernel
theorem i70_7 : lk (mi_ins m70) 7 = some (.if_icmp .ge 64, 3, []) := by decide +kernel
theorem i70_10 : lk (mi_ins m70) 10 = some (.aload_n 0, 1, []) := by decide +kernel
theorem i70_11 : lk (mi_ins m70) 11 = some (.iload_n 1, 1, []) := by decide +kernel
theorem i70_12 : lk (mi_ins m70) 12 = some (.invokevirtual 63, 3, []) := by decide +kernel
theorem i70_15 : lk (mi_ins m70) 15 = some (.istore_n 2, 1, []) := by decide +kernel
theorem i70_16 : lk (mi_ins m70) 16 = some (.iload_n 2, 1, []) := by decide +kernel
theorem i70_17 : lk (mi_ins m70) 17 = some (.iload_n 1, 1, []) := by decide +kernel
theorem i70_18 : lk (mi_ins m70) 18 = some (.if_icmp .ge 18, 3, []) := by decide +kernel
theorem i70_21 : lk (mi_ins m70) 21 = some (.aload_n 0, 1, []) := by decide +kernel
theorem i70_22 : lk (mi_ins m70) 22 = some (.getfield 18, 3, []) := by decide +kernel
theorem i70_25 : lk (mi_ins m70) 25 = some (.iload_n 1, 1, []) := by decide +kernel
theorem i70_26 : lk (mi_ins m70) 26 = some (.aload_n 0, 1, []) := by decide +kernel
theorem i70_27 : lk (mi_ins m70) 27 = some (.getfield 18, 3, []) := by decide +kernel
theorem i70_30 : lk (mi_ins m70) 30 = some (.iload_n 2, 1, []) := by decide +kernel
theorem i70_31 : lk (mi_ins m70) 31 = some (.iaload, 1, []) := by decide +kernel
theorem i70_32 : lk (mi_ins m70) 32 = some (.iastore, 1, []) := by decide +kernel
theorem i70_33 : lk (mi_ins m70) 33 = some (.goto 32, 3, []) := by decide +kernel
theorem i70_36 : lk (mi_ins m70) 36 = some (.aload_n 0, 1, []) := by decide +kernel
theorem i70_37 : lk (mi_ins m70) 37 = some (.iload_n 1, 1, []) := by decide +kernel
theorem i70_38 : lk (mi_ins m70) 38 = some (.invokevirtual 66, 3, []) := by decide +kernel
theorem i70_41 : lk (mi_ins m70) 41 = some (.istore_n 3, 1, []) := by decide +kernel
theorem i70_42 : lk (mi_ins m70) 42 = some (.aload_n 0, 1, []) := by decide +kernel
theorem i70_43 : lk (mi_ins m70) 43 = some (.getfield 18, 3, []) := by decide +kernel
theorem i70_46 : lk (mi_ins m70) 46 = some (.iload_n 1, 1, []) := by decide +kernel
theorem i70_47 : lk (mi_ins m70) 47 = some (.iload_n 3, 1, []) := by decide +kernel
theorem i70_48 : lk (mi_ins m70) 48 = some (.ifCond .le 15, 3, []) := by decide +kernel
theorem i70_51 : lk (mi_ins m70) 51 = some (.aload_n 0, 1, []) := by decide +kernel
theorem i70_52 : lk (mi_ins m70) 52 = some (.iload_n 1, 1, []) := by decide +kernel
theorem i70_53 : lk (mi_ins m70) 53 = some (.invokevirtual 69, 3, []) := by decide +kernel
theorem i70_56 : lk (mi_ins m70) 56 = some (.iload_n 3, 1, []) := by decide +kernel
theorem i70_57 : lk (mi_ins m70) 57 = some (.invokestatic 72, 3, []) := by decide +kernel
theorem i70_60 : lk (mi_ins m70) 60 = some (.goto 4, 3, []) := by decide +kernel
theorem i70_63 : lk (mi_ins m70) 63 = some (.iconst 0, 1, []) := by decide +kernel
theorem i70_64 : lk (mi_ins m70) 64 = some (.iastore, 1, [2, 3]) := by decide +kernel
theorem i70_65 : lk (mi_ins m70) 65 = some (.iinc 1 1, 3, [2, 3]) := by decide +kernel
theorem i70_68 : lk (mi_ins m70) 68 = some (.goto (-66), 3, []) := by decide +kernel
theorem i70_71 : lk (mi_ins m70) 71 = some (.return_, 1, [0, 1, 2, 3]) := by decide +kernel
theorem i71_0 : lk (mi_ins m71) 0 = some (.iconst 0, 1, []) := by decide +kernel
theorem i71_1 : lk (mi_ins m71) 1 = some (.istore_n 2, 1, []) := by decide +kernel
theorem i71_2 : lk (mi_ins m71) 2 = some (.iload_n 2, 1, []) := by decide +kernel
theorem i71_3 : lk (mi_ins m71) 3 = some (.iload_n 1, 1, []) := by decide +kernel
theorem i71_4 : lk (mi_ins m71) 4 = some (.if_icmp .ge 24, 3, []) := by decide +kernel
theorem i71_7 : lk (mi_ins m71) 7 = some (.aload_n 0, 1, []) := by decide +kernel
theorem i71_8 : lk (mi_ins m71) 8 = some (.getfield 15, 3, []) := by decide +kernel
theorem i71_11 : lk (mi_ins m71) 11 = some (.iload_n 1, 1, []) := by decide +kernel
theorem i71_12 : lk (mi_ins m71) 12 = some (.iaload, 1, []) := by decide +kernel
theorem i71_13 : lk (mi_ins m71) 13 = some (.iload_n 2, 1, []) := by decide +kernel
theorem i71_14 : lk (mi_ins m71) 14 = some (.ishr, 1, []) := by decide +kernel
theorem i71_15 : lk (mi_ins m71) 15 = some (.iconst 1, 1, []) := by decide +kernel
theorem i71_16 : lk (mi_ins m71) 16 = some (.iand, 1, []) := by decide +kernel
theorem i71_17 : lk (mi_ins m71) 17 = some (.ifCond .eq 5, 3, []) := by decide +kernel
theorem i71_20 : lk (mi_ins m71) 20 = some (.iload_n 2, 1, []) := by decide +kernel
theorem i71_21 : lk (mi_ins m71) 21 = some (.ireturn, 1, []) := by decide +kernel
theorem i71_22 : lk (mi_ins m71) 22 = some (.iinc 2 1, 3, []) := by decide +kernel
theorem i71_25 : lk (mi_ins m71) 25 = some (.goto (-23), 3, []) := by decide +kernel
theorem i71_28 : lk (mi_ins m71) 28 = some (.iload_n 1, 1, [0, 2]) := by decide +kernel
theorem i71_29 : lk (mi_ins m71) 29 = some (.ireturn, 1, []) := by decide +kernel
theorem i72_0 : lk (mi_ins m72) 0 = some (.aload_n 0, 1, []) := by decide +kernel
theorem i72_1 : lk (mi_ins m72) 1 = some (.getfield 15, 3, []) := by decide +kernel
theorem i72_4 : lk (mi_ins m72) 4 = some (.iload_n 1, 1, []) := by decide +kernel
theorem i72_5 : lk (mi_ins m72) 5 = some (.iaload, 1, []) := by decide +kernel
theorem i72_6 : lk (mi_ins m72) 6 = some (.invokestatic 78, 3, []) := by decide +kernel
theorem i72_9 : lk (mi_ins m72) 9 = some (.ireturn, 1, []) := by decide +kernel
theorem i73_0 : lk (mi_ins m73) 0 = some (.iload_n 0, 1, []) := by decide +kernel
theorem i73_1 : lk (mi_ins m73) 1 = some (.iload_n 0, 1, []) := by decide +kernel
theorem i73_2 : lk (mi_ins m73) 2 = some (.iconst 1, 1, []) := by decide +kernel
theorem i73_3 : lk (mi_ins m73) 3 = some (.iushr, 1, []) := by decide +kernel
theorem i73_4 : lk (mi_ins m73) 4 = some (.ldc_w 265, 3, []) := by decide +kernel
theorem i73_7 : lk (mi_ins m73) 7 = some (.iand, 1, []) := by decide +kernel
theorem i73_8 : lk (mi_ins m73) 8 = some (.isub, 1, []) := by decide +kernel
theorem i73_9 : lk (mi_ins m73) 9 = some (.istore_n 0, 1, []) := by decide +kernel
theorem i73_10 : lk (mi_ins m73) 10 = some (.iload_n 0, 1, []) := by decide +kernel
theorem i73_11 : lk (mi_ins m73) 11 = some (.ldc_w 266, 3, []) := by decide +kernel
theorem i73_14 : lk (mi_ins m73) 14 = some (.iand, 1, []) := by decide +kernel
theorem i73_15 : lk (mi_ins m73) 15 = some (.iload_n 0, 1, []) := by decide +kernel
theorem i73_16 : lk (mi_ins m73) 16 = some (.iconst 2, 1, []) := by decide +kernel
theorem i73_17 : lk (mi_ins m73) 17 = some (.iushr, 1, []) := by decide +kernel
theorem i73_18 : lk (mi_ins m73) 18 = some (.ldc_w 266, 3, []) := by decide +kernel
theorem i73_21 : lk (mi_ins m73) 21 = some (.iand, 1, []) := by decide +kernel
theorem i73_22 : lk (mi_ins m73) 22 = some (.iadd, 1, []) := by decide +kernel
theorem i73_23 : lk (mi_ins m73) 23 = some (.istore_n 0, 1, []) := by decide +kernel
theorem i73_24 : lk (mi_ins m73) 24 = some (.iload_n 0, 1, []) := by decide +kernel
theorem i73_25 : lk (mi_ins m73) 25 = some (.iload_n 0, 1, []) := by decide +kernel
theorem i73_26 : lk (mi_ins m73) 26 = some (.iconst 4, 1, []) := by decide +kernel
theorem i73_27 : lk (mi_ins m73) 27 = some (.iushr, 1, []) := by decide +kernel
theorem i73_28 : lk (mi_ins m73) 28 = some (.iadd, 1, []) := by decide +kernel
theorem i73_29 : lk (mi_ins m73) 29 = some (.ldc_w 267, 3, []) := by decide +kernel
theorem i73_32 : lk (mi_ins m73) 32 = some (.iand, 1, []) := by decide +kernel
theorem i73_33 : lk (mi_ins m73) 33 = some (.istore_n 0, 1, []) := by decide +kernel
theorem i73_34 : lk (mi_ins m73) 34 = some (.iload_n 0, 1, []) := by decide +kernel
theorem i73_35 : lk (mi_ins m73) 35 = some (.iload_n 0, 1, []) := by decide +kernel
theorem i73_36 : lk (mi_ins m73) 36 = some (.bipush 8, 2, []) := by decide +kernel
theorem i73_38 : lk (mi_ins m73) 38 = some (.iushr, 1, []) := by decide +kernel
theorem i73_39 : lk (mi_ins m73) 39 = some (.iadd, 1, []) := by decide +kernel
theorem i73_40 : lk (mi_ins m73) 40 = some (.istore_n 0, 1, []) := by decide +kernel
theorem i73_41 : lk (mi_ins m73) 41 = some (.iload_n 0, 1, []) := by decide +kernel
theorem i73_42 : lk (mi_ins m73) 42 = some (.iload_n 0, 1, []) := by decide +kernel
theorem i73_43 : lk (mi_ins m73) 43 = some (.bipush 16, 2, []) := by decide +kernel
theorem i73_45 : lk (mi_ins m73) 45 = some (.iushr, 1, []) := by decide +kernel
theorem i73_46 : lk (mi_ins m73) 46 = some (.iadd, 1, []) := by decide +kernel
theorem i73_47 : lk (mi_ins m73) 47 = some (.istore_n 0, 1, []) := by decide +kernel
theorem i73_48 : lk (mi_ins m73) 48 = some (.iload_n 0, 1, []) := by decide +kernel
theorem i73_49 : lk (mi_ins m73) 49 = some (.bipush 63, 2, []) := by decide +kernel
theorem i73_51 : lk (mi_ins m73) 51 = some (.iand, 1, []) := by decide +kernel
theorem i73_52 : lk (mi_ins m73) 52 = some (.ireturn, 1, []) := by decide +kernel
theorem i74_0 : lk (mi_ins m74) 0 = some (.iconst 0, 1, []) := by decide +kernel
theorem i74_1 : lk (mi_ins m74) 1 = some (.istore_n 2, 1, []) := by decide +kernel
theorem i74_2 : lk (mi_ins m74) 2 = some (.iconst 0, 1, []) := by decide +kernel
theorem i74_3 : lk (mi_ins m74) 3 = some (.istore_n 3, 1, []) := by decide +kernel
theorem i74_4 : lk (mi_ins m74) 4 = some (.iload_n 3, 1, []) := by decide +kernel
theorem i74_5 : lk (mi_ins m74) 5 = some (.aload_n 0, 1, []) := by decide +kernel
theorem i74_6 : lk (mi_ins m74) 6 = some (.getfield 41, 3, []) := by decide +kernel
theorem i74_9 : lk (mi_ins m74) 9 = some (.if_icmp .ge 31, 3, []) := by decide +kernel
theorem i74_12 : lk (mi_ins m74) 12 = some (.aload_n 0, 1, []) := by decide +kernel
theorem i74_13 : lk (mi_ins m74) 13 = some (.getfield 15, 3, []) := by decide +kernel
theorem i74_16 : lk (mi_ins m74) 16 = some (.iload_n 1, 1, []) := by decide +kernel
theorem i74_17 : lk (mi_ins m74) 17 = some (.iaload, 1, []) := by decide +kernel
theorem i74_18 : lk (mi_ins m74) 18 = some (.iload_n 3, 1, []) := by decide +kernel
theorem i74_19 : lk (mi_ins m74) 19 = some (.ishr, 1, []) := by decide +kernel
theorem i74_20 : lk (mi_ins m74) 20 = some (.iconst 1, 1, []) := by decide +kernel
theorem i74_21 : lk (mi_ins m74) 21 = some (.iand, 1, []) := by decide +kernel
theorem i74_22 : lk (mi_ins m74) 22 = some (.ifCond .eq 12, 3, []) := by decide +kernel
theorem i74_25 : lk (mi_ins m74) 25 = some (.iload_n 2, 1, []) := by decide +kernel
theorem i74_26 : lk (mi_ins m74) 26 = some (.aload_n 0, 1, []) := by decide +kernel
theorem i74_27 : lk (mi_ins m74) 27 = some (.getfield 9, 3, []) := by decide +kernel
theorem i74_30 : lk (mi_ins m74) 30 = some (.iload_n 3, 1, []) := by decide +kernel
theorem i74_31 : lk (mi_ins m74) 31 = some (.iaload, 1, []) := by decide +kernel
theorem i74_32 : lk (mi_ins m74) 32 = some (.iadd, 1, []) := by decide +kernel
theorem i74_33 : lk (mi_ins m74) 33 = some (.istore_n 2, 1, []) := by decide +kernel
theorem i74_34 : lk (mi_ins m74) 34 = some (.iinc 3 1, 3, []) := by decide +kernel
theorem i74_37 : lk (mi_ins m74) 37 = some (.goto (-33), 3, []) := by decide +kernel
theorem i74_40 : lk (mi_ins m74) 40 = some (.iload_n 2, 1, [0, 1, 3]) := by decide +kernel
theorem i74_41 : lk (mi_ins m74) 41 = some (.ireturn, 1, []) := by decide +kernel
theorem i75_0 : lk (mi_ins m75) 0 = some (.iload_n 0, 1, []) := by decide +kernel
theorem i75_1 : lk (mi_ins m75) 1 = some (.iload_n 1, 1, []) := by decide +kernel
theorem i75_2 : lk (mi_ins m75) 2 = some (.idiv, 1, []) := by decide +kernel
theorem i75_3 : lk (mi_ins m75) 3 = some (.istore_n 2, 1, []) := by decide +kernel
theorem i75_4 : lk (mi_ins m75) 4 = some (.iload_n 0, 1, []) := by decide +kernel
theorem i75_5 : lk (mi_ins m75) 5 = some (.iload_n 1, 1, []) := by decide +kernel
theorem i75_6 : lk (mi_ins m75) 6 = some (.ixor, 1, []) := by decide +kernel
theorem i75_7 : lk (mi_ins m75) 7 = some (.ifCond .ge 14, 3, []) := by decide +kernel
theorem i75_10 : lk (mi_ins m75) 10 = some (.iload_n 2, 1, []) := by decide +kernel
theorem i75_11 : lk (mi_ins m75) 11 = some (.iload_n 1, 1, []) := by decide +kernel
theorem i75_12 : lk (mi_ins m75) 12 = some (.imul, 1, []) := by decide +kernel
theorem i75_13 : lk (mi_ins m75) 13 = some (.iload_n 0, 1, []) := by decide +kernel
theorem i75_14 : lk (mi_ins m75) 14 = some (.if_icmp .eq 7, 3, []) := by decide +kernel
theorem i75_17 : lk (mi_ins m75) 17 = some (.iload_n 2, 1, []) := by decide +kernel
theorem i75_18 : lk (mi_ins m75) 18 = some (.iconst 1, 1, []) := by decide +kernel
theorem i75_19 : lk (mi_ins m75) 19 = some (.isub, 1, []) := by decide +kernel
theorem i75_20 : lk (mi_ins m75) 20 = some (.ireturn, 1, []) := by decide +kernel
theorem i75_21 : lk (mi_ins m75) 21 = some (.iload_n 2, 1, [0, 1]) := by decide +kernel
theorem i75_22 : lk (mi_ins m75) 22 = some (.ireturn, 1, []) := by decide +kernel
theorem i76_0 : lk (mi_ins m76) 0 = some (.aload_n 0, 1, []) := by decide +kernel
theorem i76_1 : lk (mi_ins m76) 1 = some (.getfield 59, 3, []) := by decide +kernel
theorem i76_4 : lk (mi_ins m76) 4 = some (.iload_n 1, 1, []) := by decide +kernel
theorem i76_5 : lk (mi_ins m76) 5 = some (.ishr, 1, []) := by decide +kernel
theorem i76_6 : lk (mi_ins m76) 6 = some (.iconst 1, 1, []) := by decide +kernel
theorem i76_7 : lk (mi_ins m76) 7 = some (.iand, 1, []) := by decide +kernel
theorem i76_8 : lk (mi_ins m76) 8 = some (.ifCond .eq 7, 3, []) := by decide +kernel
theorem i76_11 : lk (mi_ins m76) 11 = some (.iconst 1, 1, []) := by decide +kernel
theorem i76_12 : lk (mi_ins m76) 12 = some (.goto 4, 3, []) := by decide +kernel
theorem i76_15 : lk (mi_ins m76) 15 = some (.iconst 0, 1, []) := by decide +kernel
theorem i76_16 : lk (mi_ins m76) 16 = some (.ireturn, 1, [0, 1]) := by decide +kernel
theorem i77_0 : lk (mi_ins m77) 0 = some (.iconst 0, 1, []) := by decide +kernel
theorem i77_1 : lk (mi_ins m77) 1 = some (.istore_n 2, 1, []) := by decide +kernel
theorem i77_2 : lk (mi_ins m77) 2 = some (.iconst 0, 1, []) := by decide +kernel
theorem i77_3 : lk (mi_ins m77) 3 = some (.istore_n 3, 1, []) := by decide +kernel
theorem i77_4 : lk (mi_ins m77) 4 = some (.iload_n 3, 1, []) := by decide +kernel
theorem i77_5 : lk (mi_ins m77) 5 = some (.aload_n 0, 1, []) := by decide +kernel
theorem i77_6 : lk (mi_ins m77) 6 = some (.getfield 23, 3, []) := by decide +kernel
theorem i77_9 : lk (mi_ins m77) 9 = some (.getfield 379, 3, []) := by decide +kernel
theorem i77_12 : lk (mi_ins m77) 12 = some (.if_icmp .ge 28, 3, []) := by decide +kernel
theorem i77_15 : lk (mi_ins m77) 15 = some (.aload_n 0, 1, []) := by decide +kernel
theorem i77_16 : lk (mi_ins m77) 16 = some (.getfield 30, 3, []) := by decide +kernel
theorem i77_19 : lk (mi_ins m77) 19 = some (.getfield 167, 3, []) := by decide +kernel
theorem i77_22 : lk (mi_ins m77) 22 = some (.iload_n 3, 1, []) := by decide +kernel
theorem i77_23 : lk (mi_ins m77) 23 = some (.iaload, 1, []) := by decide +kernel
theorem i77_24 : lk (mi_ins m77) 24 = some (.iload_n 1, 1, []) := by decide +kernel
theorem i77_25 : lk (mi_ins m77) 25 = some (.if_icmp .ne 9, 3, []) := by decide +kernel
theorem i77_28 : lk (mi_ins m77) 28 = some (.iload_n 2, 1, []) := by decide +kernel
theorem i77_29 : lk (mi_ins m77) 29 = some (.iconst 1, 1, []) := by decide +kernel
theorem i77_30 : lk (mi_ins m77) 30 = some (.iload_n 3, 1, []) := by decide +kernel
theorem i77_31 : lk (mi_ins m77) 31 = some (.ishl, 1, []) := by decide +kernel
theorem i77_32 : lk (mi_ins m77) 32 = some (.ior, 1, []) := by decide +kernel
theorem i77_33 : lk (mi_ins m77) 33 = some (.istore_n 2, 1, []) := by decide +kernel
theorem i77_34 : lk (mi_ins m77) 34 = some (.iinc 3 1, 3, []) := by decide +kernel
theorem i77_37 : lk (mi_ins m77) 37 = some (.goto (-33), 3, []) := by decide +kernel
theorem i77_40 : lk (mi_ins m77) 40 = some (.iload_n 2, 1, [0, 1, 3]) := by decide +kernel
theorem i77_41 : lk (mi_ins m77) 41 = some (.ireturn, 1, []) := by decide +kernel
theorem i78_0 : lk (mi_ins m78) 0 = some (.aload_n 0, 1, []) := by decide +kernel
theorem i78_1 : lk (mi_ins m78) 1 = some (.aload_n 0, 1, []) := by decide +kernel
theorem i78_2 : lk (mi_ins m78) 2 = some (.iload_n 1, 1, []) := by decide +kernel
theorem i78_3 : lk (mi_ins m78) 3 = some (.invokevirtual 126, 3, []) := by decide +kernel
theorem i78_6 : lk (mi_ins m78) 6 = some (.iload_n 2, 1, []) := by decide +kernel
theorem i78_7 : lk (mi_ins m78) 7 = some (.invokestatic 155, 3, []) := by decide +kernel
theorem i78_10 : lk (mi_ins m78) 10 = some (.invokevirtual 91, 3, []) := by decide +kernel
theorem i78_13 : lk (mi_ins m78) 13 = some (.ifCond .eq 5, 3, []) := by decide +kernel
theorem i78_16 : lk (mi_ins m78) 16 = some (.iconst (-1), 1, []) := by decide +kernel
theorem i78_17 : lk (mi_ins m78) 17 = some (.ireturn, 1, []) := by decide +kernel
theorem i78_18 : lk (mi_ins m78) 18 = some (.aload_n 0, 1, []) := by decide +kernel
theorem i78_19 : lk (mi_ins m78) 19 = some (.getfield 30, 3, []) := by decide +kernel
theorem i78_22 : lk (mi_ins m78) 22 = some (.getfield 158, 3, []) := by decide +kernel
theorem i78_25 : lk (mi_ins m78) 25 = some (.iload_n 1, 1, []) := by decide +kernel
theorem i78_26 : lk (mi_ins m78) 26 = some (.iconst 5, 1, []) := by decide +kernel
theorem i78_27 : lk (mi_ins m78) 27 = some (.imul, 1, []) := by decide +kernel
theorem i78_28 : lk (mi_ins m78) 28 = some (.iload_n 2, 1, []) := by decide +kernel
theorem i78_29 : lk (mi_ins m78) 29 = some (.iadd, 1, []) := by decide +kernel
theorem i78_30 : lk (mi_ins m78) 30 = some (.iaload, 1, []) := by decide +kernel
theorem i78_31 : lk (mi_ins m78) 31 = some (.ireturn, 1, []) := by decide +kernel
theorem i79_0 : lk (mi_ins m79) 0 = some (.iload_n 0, 1, []) := by decide +kernel
theorem i79_1 : lk (mi_ins m79) 1 = some (.iconst 0, 1, []) := by decide +kernel
theorem i79_2 : lk (mi_ins m79) 2 = some (.iconst 4, 1, []) := by decide +kernel
theorem i79_3 : lk (mi_ins m79) 3 = some (.invokestatic 87, 3, []) := by decide +kernel
theorem i79_6 : lk (mi_ins m79) 6 = some (.ireturn, 1, []) := by decide +kernel
theorem i80_0 : lk (mi_ins m80) 0 = some (.aload_n 0, 1, []) := by decide +kernel
theorem i80_1 : lk (mi_ins m80) 1 = some (.aload_n 0, 1, []) := by decide +kernel
theorem i80_2 : lk (mi_ins m80) 2 = some (.iload_n 1, 1, []) := by decide +kernel
theorem i80_3 : lk (mi_ins m80) 3 = some (.invokevirtual 161, 3, []) := by decide +kernel
theorem i80_6 : lk (mi_ins m80) 6 = some (.ifCond .ne 12, 3, []) := by decide +kernel
theorem i80_9 : lk (mi_ins m80) 9 = some (.iload_n 2, 1, []) := by decide +kernel
theorem i80_10 : lk (mi_ins m80) 10 = some (.iconst 0, 1, []) := by decide +kernel
theorem i80_11 : lk (mi_ins m80) 11 = some (.iconst 1, 1, []) := by decide +kernel
theorem i80_12 : lk (mi_ins m80) 12 = some (.invokestatic 87, 3, []) := by decide +kernel
theorem i80_15 : lk (mi_ins m80) 15 = some (.ifCond .eq 7, 3, []) := by decide +kernel
theorem i80_18 : lk (mi_ins m80) 18 = some (.iconst 1, 1, []) := by decide +kernel
theorem i80_19 : lk (mi_ins m80) 19 = some (.goto 4, 3, []) := by decide +kernel
theorem i80_22 : lk (mi_ins m80) 22 = some (.iconst 0, 1, []) := by decide +kernel
theorem i80_23 : lk (mi_ins m80) 23 = some (.iconst 0, 1, []) := by decide +kernel
theorem i80_24 : lk (mi_ins m80) 24 = some (.invokevirtual 91, 3, []) := by decide +kernel
theorem i80_27 : lk (mi_ins m80) 27 = some (.ifCond .eq 5, 3, []) := by decide +kernel
theorem i80_30 : lk (mi_ins m80) 30 = some (.iconst (-1), 1, []) := by decide +kernel
theorem i80_31 : lk (mi_ins m80) 31 = some (.ireturn, 1, []) := by decide +kernel
theorem i80_32 : lk (mi_ins m80) 32 = some (.iload_n 2, 1, []) := by decide +kernel
theorem i80_33 : lk (mi_ins m80) 33 = some (.ifCond .ne 15, 3, []) := by decide +kernel
theorem i80_36 : lk (mi_ins m80) 36 = some (.aload_n 0, 1, []) := by decide +kernel
theorem i80_37 : lk (mi_ins m80) 37 = some (.getfield 23, 3, []) := by decide +kernel
theorem i80_40 : lk (mi_ins m80) 40 = some (.getfield 164, 3, []) := by decide +kernel
theorem i80_43 : lk (mi_ins m80) 43 = some (.iload_n 1, 1, []) := by decide +kernel
theorem i80_44 : lk (mi_ins m80) 44 = some (.iaload, 1, []) := by decide +kernel
theorem i80_45 : lk (mi_ins m80) 45 = some (.goto 12, 3, []) := by decide +kernel
theorem i80_48 : lk (mi_ins m80) 48 = some (.aload_n 0, 1, []) := by decide +kernel
theorem i80_49 : lk (mi_ins m80) 49 = some (.getfield 30, 3, []) := by decide +kernel
theorem i80_52 : lk (mi_ins m80) 52 = some (.getfield 167, 3, []) := by decide +kernel
theorem i80_55 : lk (mi_ins m80) 55 = some (.iload_n 1, 1, []) := by decide +kernel
theorem i80_56 : lk (mi_ins m80) 56 = some (.iaload, 1, []) := by decide +kernel
theorem i80_57 : lk (mi_ins m80) 57 = some (.ireturn, 1, [0, 1, 2]) := by decide +kernel
theorem i81_0 : lk (mi_ins m81) 0 = some (.iload_n 1, 1, []) := by decide +kernel
theorem i81_1 : lk (mi_ins m81) 1 = some (.iconst 0, 1, []) := by decide +kernel
theorem i81_2 : lk (mi_ins m81) 2 = some (.aload_n 0, 1, []) := by decide +kernel
theorem i81_3 : lk (mi_ins m81) 3 = some (.getfield 23, 3, []) := by decide +kernel
theorem i81_6 : lk (mi_ins m81) 6 = some (.getfield 379, 3, []) := by decide +kernel
theorem i81_9 : lk (mi_ins m81) 9 = some (.iconst 1, 1, []) := by decide +kernel
theorem i81_10 : lk (mi_ins m81) 10 = some (.isub, 1, []) := by decide +kernel
theorem i81_11 : lk (mi_ins m81) 11 = some (.invokestatic 87, 3, []) := by decide +kernel
theorem i81_14 : lk (mi_ins m81) 14 = some (.ireturn, 1, []) := by decide +kernel
theorem i82_0 : lk (mi_ins m82) 0 = some (.aload_n 0, 1, []) := by decide +kernel
theorem i82_1 : lk (mi_ins m82) 1 = some (.aload_n 0, 1, []) := by decide +kernel
theorem i82_2 : lk (mi_ins m82) 2 = some (.iload_n 1, 1, []) := by decide +kernel
theorem i82_3 : lk (mi_ins m82) 3 = some (.invokevirtual 170, 3, []) := by decide +kernel
theorem i82_6 : lk (mi_ins m82) 6 = some (.ifCond .ne 12, 3, []) := by decide +kernel
theorem i82_9 : lk (mi_ins m82) 9 = some (.iload_n 2, 1, []) := by decide +kernel
theorem i82_10 : lk (mi_ins m82) 10 = some (.iconst 0, 1, []) := by decide +kernel
theorem i82_11 : lk (mi_ins m82) 11 = some (.iconst 2, 1, []) := by decide +kernel
theorem i82_12 : lk (mi_ins m82) 12 = some (.invokestatic 87, 3, []) := by decide +kernel
theorem i82_15 : lk (mi_ins m82) 15 = some (.ifCond .eq 7, 3, []) := by decide +kernel
theorem i82_18 : lk (mi_ins m82) 18 = some (.iconst 1, 1, []) := by decide +kernel
theorem i82_19 : lk (mi_ins m82) 19 = some (.goto 4, 3, []) := by decide +kernel
theorem i82_22 : lk (mi_ins m82) 22 = some (.iconst 0, 1, []) := by decide +kernel
theorem i82_23 : lk (mi_ins m82) 23 = some (.iconst 0, 1, []) := by decide +kernel
theorem i82_24 : lk (mi_ins m82) 24 = some (.invokevirtual 91, 3, []) := by decide +kernel
theorem i82_27 : lk (mi_ins m82) 27 = some (.ifCond .eq 5, 3, []) := by decide +kernel
theorem i82_30 : lk (mi_ins m82) 30 = some (.iconst (-1), 1, []) := by decide +kernel
theorem i82_31 : lk (mi_ins m82) 31 = some (.ireturn, 1, []) := by decide +kernel
theorem i82_32 : lk (mi_ins m82) 32 = some (.iload_n 2, 1, []) := by decide +kernel
theorem i82_33 : lk (mi_ins m82) 33 = some (.iconst 2, 1, []) := by decide +kernel
theorem i82_34 : lk (mi_ins m82) 34 = some (.if_icmp .ne 20, 3, []) := by decide +kernel
theorem i82_37 : lk (mi_ins m82) 37 = some (.aload_n 0, 1, []) := by decide +kernel
theorem i82_38 : lk (mi_ins m82) 38 = some (.getfield 30, 3, []) := by decide +kernel
theorem i82_41 : lk (mi_ins m82) 41 = some (.iload_n 1, 1, []) := by decide +kernel
theorem i82_42 : lk (mi_ins m82) 42 = some (.invokevirtual 173, 3, []) := by decide +kernel
theorem i82_45 : lk (mi_ins m82) 45 = some (.ifCond .eq 7, 3, []) := by decide +kernel
theorem i82_48 : lk (mi_ins m82) 48 = some (.iconst 1, 1, []) := by decide +kernel
theorem i82_49 : lk (mi_ins m82) 49 = some (.goto 4, 3, []) := by decide +kernel
theorem i82_52 : lk (mi_ins m82) 52 = some (.iconst 0, 1, []) := by decide +kernel
theorem i82_53 : lk (mi_ins m82) 53 = some (.ireturn, 1, [0, 1, 2]) := by decide +kernel
theorem i82_54 : lk (mi_ins m82) 54 = some (.iload_n 2, 1, []) := by decide +kernel
theorem i82_55 : lk (mi_ins m82) 55 = some (.ifCond .ne 15, 3, []) := by decide +kernel
theorem i82_58 : lk (mi_ins m82) 58 = some (.aload_n 0, 1, []) := by decide +kernel
theorem i82_59 : lk (mi_ins m82) 59 = some (.getfield 23, 3, []) := by decide +kernel
theorem i82_62 : lk (mi_ins m82) 62 = some (.getfield 176, 3, []) := by decide +kernel
theorem i82_65 : lk (mi_ins m82) 65 = some (.iload_n 1, 1, []) := by decide +kernel
theorem i82_66 : lk (mi_ins m82) 66 = some (.iaload, 1, []) := by decide +kernel
theorem i82_67 : lk (mi_ins m82) 67 = some (.goto 12, 3, []) := by decide +kernel
theorem i82_70 : lk (mi_ins m82) 70 = some (.aload_n 0, 1, []) := by decide +kernel
theorem i82_71 : lk (mi_ins m82) 71 = some (.getfield 23, 3, []) := by decide +kernel
theorem i82_74 : lk (mi_ins m82) 74 = some (.getfield 179, 3, []) := by decide +kernel
theorem i82_77 : lk (mi_ins m82) 77 = some (.iload_n 1, 1, []) := by decide +kernel
theorem i82_78 : lk (mi_ins m82) 78 = some (.iaload, 1, []) := by decide +kernel
theorem i82_79 : lk (mi_ins m82) 79 = some (.ireturn, 1, [0, 1, 2]) := by decide +kernel
theorem i83_0 : lk (mi_ins m83) 0 = some (.iload_n 1, 1, []) := by decide +kernel
theorem i83_1 : lk (mi_ins m83) 1 = some (.iconst 0, 1, []) := by decide +kernel
theorem i83_2 : lk (mi_ins m83) 2 = some (.aload_n 0, 1, []) := by decide +kernel
theorem i83_3 : lk (mi_ins m83) 3 = some (.getfield 23, 3, []) := by decide +kernel
theorem i83_6 : lk (mi_ins m83) 6 = some (.getfield 236, 3, []) := by decide +kernel
theorem i83_9 : lk (mi_ins m83) 9 = some (.iconst 1, 1, []) := by decide +kernel
theorem i83_10 : lk (mi_ins m83) 10 = some (.isub, 1, []) := by decide +kernel
theorem i83_11 : lk (mi_ins m83) 11 = some (.invokestatic 87, 3, []) := by decide +kernel
theorem i83_14 : lk (mi_ins m83) 14 = some (.ireturn, 1, []) := by decide +kernel
theorem i84_0 : lk (mi_ins m84) 0 = some (.aload_n 0, 1, []) := by decide +kernel
theorem i84_1 : lk (mi_ins m84) 1 = some (.getfield 31, 3, []) := by decide +kernel
theorem i84_4 : lk (mi_ins m84) 4 = some (.iload_n 1, 1, []) := by decide +kernel
theorem i84_5 : lk (mi_ins m84) 5 = some (.ishr, 1, []) := by decide +kernel
theorem i84_6 : lk (mi_ins m84) 6 = some (.iconst 1, 1, []) := by decide +kernel
theorem i84_7 : lk (mi_ins m84) 7 = some (.iand, 1, []) := by decide +kernel
theorem i84_8 : lk (mi_ins m84) 8 = some (.ifCond .eq 7, 3, []) := by decide +kernel
theorem i84_11 : lk (mi_ins m84) 11 = some (.iconst 1, 1, []) := by decide +kernel
theorem i84_12 : lk (mi_ins m84) 12 = some (.goto 4, 3, []) := by decide +kernel
theorem i84_15 : lk (mi_ins m84) 15 = some (.iconst 0, 1, []) := by decide +kernel
theorem i84_16 : lk (mi_ins m84) 16 = some (.ireturn, 1, [0, 1]) := by decide +kernel
theorem i85_0 : lk (mi_ins m85) 0 = some (.aload_n 0, 1, []) := by decide +kernel
theorem i85_1 : lk (mi_ins m85) 1 = some (.aload_n 0, 1, []) := by decide +kernel
theorem i85_2 : lk (mi_ins m85) 2 = some (.invokevirtual 182, 3, []) := by decide +kernel
theorem i85_5 : lk (mi_ins m85) 5 = some (.iconst 0, 1, []) := by decide +kernel
theorem i85_6 : lk (mi_ins m85) 6 = some (.invokevirtual 91, 3, []) := by decide +kernel
theorem i85_9 : lk (mi_ins m85) 9 = some (.ifCond .eq 5, 3, []) := by decide +kernel
theorem i85_12 : lk (mi_ins m85) 12 = some (.iconst (-1), 1, []) := by decide +kernel
theorem i85_13 : lk (mi_ins m85) 13 = some (.ireturn, 1, []) := by decide +kernel
theorem i85_14 : lk (mi_ins m85) 14 = some (.aload_n 0, 1, []) := by decide +kernel
theorem i85_15 : lk (mi_ins m85) 15 = some (.getfield 40, 3, []) := by decide +kernel
theorem i85_18 : lk (mi_ins m85) 18 = some (.aload_n 0, 1, []) := by decide +kernel
theorem i85_19 : lk (mi_ins m85) 19 = some (.getfield 23, 3, []) := by decide +kernel
theorem i85_22 : lk (mi_ins m85) 22 = some (.aload_n 0, 1, []) := by decide +kernel
theorem i85_23 : lk (mi_ins m85) 23 = some (.getfield 30, 3, []) := by decide +kernel
theorem i85_26 : lk (mi_ins m85) 26 = some (.invokevirtual 130, 3, []) := by decide +kernel
theorem i85_29 : lk (mi_ins m85) 29 = some (.aload_n 0, 1, []) := by decide +kernel
theorem i85_30 : lk (mi_ins m85) 30 = some (.getfield 40, 3, []) := by decide +kernel
theorem i85_33 : lk (mi_ins m85) 33 = some (.invokevirtual 186, 3, []) := by decide +kernel
theorem i85_36 : lk (mi_ins m85) 36 = some (.ireturn, 1, []) := by decide +kernel
theorem i86_0 : lk (mi_ins m86) 0 = some (.aload_n 0, 1, []) := by decide +kernel
theorem i86_1 : lk (mi_ins m86) 1 = some (.getfield 23, 3, []) := by decide +kernel
theorem i86_4 : lk (mi_ins m86) 4 = some (.getfield 117, 3, []) := by decide +kernel
theorem i86_7 : lk (mi_ins m86) 7 = some (.ifCond .ne 7, 3, []) := by decide +kernel
theorem i86_10 : lk (mi_ins m86) 10 = some (.iconst 1, 1, []) := by decide +kernel
theorem i86_11 : lk (mi_ins m86) 11 = some (.goto 4, 3, []) := by decide +kernel
theorem i86_14 : lk (mi_ins m86) 14 = some (.iconst 0, 1, []) := by decide +kernel
theorem i86_15 : lk (mi_ins m86) 15 = some (.ireturn, 1, [0]) := by decide +kernel
theorem i87_0 : lk (mi_ins m87) 0 = some (.iconst 0, 1, []) := by decide +kernel
theorem i87_1 : lk (mi_ins m87) 1 = some (.istore_n 1, 1, []) := by decide +kernel
theorem i87_2 : lk (mi_ins m87) 2 = some (.iconst 0, 1, []) := by decide +kernel
theorem i87_3 : lk (mi_ins m87) 3 = some (.istore_n 2, 1, []) := by decide +kernel
theorem i87_4 : lk (mi_ins m87) 4 = some (.iload_n 2, 1, []) := by decide +kernel
theorem i87_5 : lk (mi_ins m87) 5 = some (.aload_n 0, 1, []) := by decide +kernel
theorem i87_6 : lk (mi_ins m87) 6 = some (.getfield 41, 3, []) := by decide +kernel
theorem i87_9 : lk (mi_ins m87) 9 = some (.if_icmp .ge 24, 3, []) := by decide +kernel
theorem i87_12 : lk (mi_ins m87) 12 = some (.aload_n 0, 1, []) := by decide +kernel
theorem i87_13 : lk (mi_ins m87) 13 = some (.getfield 18, 3, []) := by decide +kernel
theorem i87_16 : lk (mi_ins m87) 16 = some (.iload_n 2, 1, []) := by decide +kernel
theorem i87_17 : lk (mi_ins m87) 17 = some (.iaload, 1, []) := by decide +kernel
theorem i87_18 : lk (mi_ins m87) 18 = some (.ifCond .ge 9, 3, []) := by decide +kernel
theorem i87_21 : lk (mi_ins m87) 21 = some (.iload_n 1, 1, []) := by decide +kernel
theorem i87_22 : lk (mi_ins m87) 22 = some (.iconst 1, 1, []) := by decide +kernel
theorem i87_23 : lk (mi_ins m87) 23 = some (.iload_n 2, 1, []) := by decide +kernel
theorem i87_24 : lk (mi_ins m87) 24 = some (.ishl, 1, []) := by decide +kernel
theorem i87_25 : lk (mi_ins m87) 25 = some (.ior, 1, []) := by decide +kernel
theorem i87_26 : lk (mi_ins m87) 26 = some (.istore_n 1, 1, []) := by decide +kernel
theorem i87_27 : lk (mi_ins m87) 27 = some (.iinc 2 1, 3, []) := by decide +kernel
theorem i87_30 : lk (mi_ins m87) 30 = some (.goto (-26), 3, []) := by decide +kernel
theorem i87_33 : lk (mi_ins m87) 33 = some (.iload_n 1, 1, [0, 2]) := by decide +kernel
theorem i87_34 : lk (mi_ins m87) 34 = some (.ireturn, 1, []) := by decide +kernel
theorem i88_0 : lk (mi_ins m88) 0 = some (.aload_n 0, 1, []) := by decide +kernel
theorem i88_1 : lk (mi_ins m88) 1 = some (.aload_n 0, 1, []) := by decide +kernel
theorem i88_2 : lk (mi_ins m88) 2 = some (.invokevirtual 182, 3, []) := by decide +kernel
theorem i88_5 : lk (mi_ins m88) 5 = some (.iconst 0, 1, []) := by decide +kernel
theorem i88_6 : lk (mi_ins m88) 6 = some (.invokevirtual 91, 3, []) := by decide +kernel
theorem i88_9 : lk (mi_ins m88) 9 = some (.ifCond .eq 5, 3, []) := by decide +kernel
theorem i88_12 : lk (mi_ins m88) 12 = some (.iconst (-1), 1, []) := by decide +kernel
theorem i88_13 : lk (mi_ins m88) 13 = some (.ireturn, 1, []) := by decide +kernel
theorem i88_14 : lk (mi_ins m88) 14 = some (.aload_n 0, 1, []) := by decide +kernel
theorem i88_15 : lk (mi_ins m88) 15 = some (.getfield 40, 3, []) := by decide +kernel
theorem i88_18 : lk (mi_ins m88) 18 = some (.aload_n 0, 1, []) := by decide +kernel
theorem i88_19 : lk (mi_ins m88) 19 = some (.getfield 23, 3, []) := by decide +kernel
theorem i88_22 : lk (mi_ins m88) 22 = some (.aload_n 0, 1, []) := by decide +kernel
theorem i88_23 : lk (mi_ins m88) 23 = some (.getfield 30, 3, []) := by decide +kernel
theorem i88_26 : lk (mi_ins m88) 26 = some (.invokevirtual 130, 3, []) := by decide +kernel
theorem i88_29 : lk (mi_ins m88) 29 = some (.aload_n 0, 1, []) := by decide +kernel
theorem i88_30 : lk (mi_ins m88) 30 = some (.getfield 40, 3, []) := by decide +kernel
theorem i88_33 : lk (mi_ins m88) 33 = some (.invokevirtual 190, 3, []) := by decide +kernel
theorem i88_36 : lk (mi_ins m88) 36 = some (.ireturn, 1, []) := by decide +kernel
theorem i89_0 : lk (mi_ins m89) 0 = some (.iconst 0, 1, []) := by decide +kernel
theorem i89_1 : lk (mi_ins m89) 1 = some (.istore_n 1, 1, []) := by decide +kernel
theorem i89_2 : lk (mi_ins m89) 2 = some (.iconst 1, 1, []) := by decide +kernel
theorem i89_3 : lk (mi_ins m89) 3 = some (.istore_n 2, 1, []) := by decide +kernel
theorem i89_4 : lk (mi_ins m89) 4 = some (.iload_n 2, 1, []) := by decide +kernel
theorem i89_5 : lk (mi_ins m89) 5 = some (.aload_n 0, 1, []) := by decide +kernel
theorem i89_6 : lk (mi_ins m89) 6 = some (.getfield 41, 3, []) := by decide +kernel
theorem i89_9 : lk (mi_ins m89) 9 = some (.if_icmp .ge 26, 3, []) := by decide +kernel
theorem i89_12 : lk (mi_ins m89) 12 = some (.aload_n 0, 1, []) := by decide +kernel
theorem i89_13 : lk (mi_ins m89) 13 = some (.getfield 18, 3, []) := by decide +kernel
theorem i89_16 : lk (mi_ins m89) 16 = some (.iload_n 2, 1, []) := by decide +kernel
theorem i89_17 : lk (mi_ins m89) 17 = some (.iaload, 1, []) := by decide +kernel
theorem i89_18 : lk (mi_ins m89) 18 = some (.aload_n 0, 1, []) := by decide +kernel
theorem i89_19 : lk (mi_ins m89) 19 = some (.getfield 18, 3, []) := by decide +kernel
theorem i89_22 : lk (mi_ins m89) 22 = some (.iload_n 1, 1, []) := by decide +kernel
theorem i89_23 : lk (mi_ins m89) 23 = some (.iaload, 1, []) := by decide +kernel
theorem i89_24 : lk (mi_ins m89) 24 = some (.if_icmp .ge 5, 3, []) := by decide +kernel
theorem i89_27 : lk (mi_ins m89) 27 = some (.iload_n 2, 1, []) := by decide +kernel
theorem i89_28 : lk (mi_ins m89) 28 = some (.istore_n 1, 1, []) := by decide +kernel
theorem i89_29 : lk (mi_ins m89) 29 = some (.iinc 2 1, 3, []) := by decide +kernel
theorem i89_32 : lk (mi_ins m89) 32 = some (.goto (-28), 3, []) := by decide +kernel
theorem i89_35 : lk (mi_ins m89) 35 = some (.iload_n 1, 1, [0, 2]) := by decide +kernel
theorem i89_36 : lk (mi_ins m89) 36 = some (.ireturn, 1, []) := by decide +kernel
theorem i90_0 : lk (mi_ins m90) 0 = some (.aload_n 0, 1, []) := by decide +kernel
theorem i90_1 : lk (mi_ins m90) 1 = some (.aload_n 0, 1, []) := by decide +kernel
theorem i90_2 : lk (mi_ins m90) 2 = some (.invokevirtual 182, 3, []) := by decide +kernel
theorem i90_5 : lk (mi_ins m90) 5 = some (.iconst 0, 1, []) := by decide +kernel
theorem i90_6 : lk (mi_ins m90) 6 = some (.invokevirtual 91, 3, []) := by decide +kernel
theorem i90_9 : lk (mi_ins m90) 9 = some (.ifCond .eq 5, 3, []) := by decide +kernel
theorem i90_12 : lk (mi_ins m90) 12 = some (.iconst (-1), 1, []) := by decide +kernel
theorem i90_13 : lk (mi_ins m90) 13 = some (.ireturn, 1, []) := by decide +kernel
theorem i90_14 : lk (mi_ins m90) 14 = some (.aload_n 0, 1, []) := by decide +kernel
theorem i90_15 : lk (mi_ins m90) 15 = some (.getfield 40, 3, []) := by decide +kernel
theorem i90_18 : lk (mi_ins m90) 18 = some (.aload_n 0, 1, []) := by decide +kernel
theorem i90_19 : lk (mi_ins m90) 19 = some (.getfield 23, 3, []) := by decide +kernel
theorem i90_22 : lk (mi_ins m90) 22 = some (.aload_n 0, 1, []) := by decide +kernel
theorem i90_23 : lk (mi_ins m90) 23 = some (.getfield 30, 3, []) := by decide +kernel
theorem i90_26 : lk (mi_ins m90) 26 = some (.invokevirtual 130, 3, []) := by decide +kernel
theorem i90_29 : lk (mi_ins m90) 29 = some (.aload_n 0, 1, []) := by decide +kernel
theorem i90_30 : lk (mi_ins m90) 30 = some (.getfield 40, 3, []) := by decide +kernel
theorem i90_33 : lk (mi_ins m90) 33 = some (.invokevirtual 193, 3, []) := by decide +kernel
theorem i90_36 : lk (mi_ins m90) 36 = some (.ireturn, 1, []) := by decide +kernel
theorem i91_0 : lk (mi_ins m91) 0 = some (.iconst 0, 1, []) := by decide +kernel
theorem i91_1 : lk (mi_ins m91) 1 = some (.istore_n 1, 1, []) := by decide +kernel
theorem i91_2 : lk (mi_ins m91) 2 = some (.iconst 0, 1, []) := by decide +kernel
theorem i91_3 : lk (mi_ins m91) 3 = some (.istore_n 2, 1, []) := by decide +kernel
theorem i91_4 : lk (mi_ins m91) 4 = some (.iload_n 2, 1, []) := by decide +kernel
theorem i91_5 : lk (mi_ins m91) 5 = some (.aload_n 0, 1, []) := by decide +kernel
theorem i91_6 : lk (mi_ins m91) 6 = some (.getfield 41, 3, []) := by decide +kernel
theorem i91_9 : lk (mi_ins m91) 9 = some (.if_icmp .ge 21, 3, []) := by decide +kernel
theorem i91_12 : lk (mi_ins m91) 12 = some (.aload_n 0, 1, []) := by decide +kernel
theorem i91_13 : lk (mi_ins m91) 13 = some (.iload_n 2, 1, []) := by decide +kernel
theorem i91_14 : lk (mi_ins m91) 14 = some (.invokevirtual 63, 3, []) := by decide +kernel
theorem i91_17 : lk (mi_ins m91) 17 = some (.iload_n 2, 1, []) := by decide +kernel
theorem i91_18 : lk (mi_ins m91) 18 = some (.if_icmp .ne 6, 3, []) := by decide +kernel
theorem i91_21 : lk (mi_ins m91) 21 = some (.iinc 1 1, 3, []) := by decide +kernel
theorem i91_24 : lk (mi_ins m91) 24 = some (.iinc 2 1, 3, []) := by decide +kernel
theorem i91_27 : lk (mi_ins m91) 27 = some (.goto (-23), 3, []) := by decide +kernel
theorem i91_30 : lk (mi_ins m91) 30 = some (.iload_n 1, 1, [0, 2]) := by decide +kernel
theorem i91_31 : lk (mi_ins m91) 31 = some (.ireturn, 1, []) := by decide +kernel
theorem i92_0 : lk (mi_ins m92) 0 = some (.aload_n 0, 1, []) := by decide +kernel
theorem i92_1 : lk (mi_ins m92) 1 = some (.aload_n 0, 1, []) := by decide +kernel
theorem i92_2 : lk (mi_ins m92) 2 = some (.iload_n 1, 1, []) := by decide +kernel
theorem i92_3 : lk (mi_ins m92) 3 = some (.invokevirtual 126, 3, []) := by decide +kernel
theorem i92_6 : lk (mi_ins m92) 6 = some (.iconst 0, 1, []) := by decide +kernel
theorem i92_7 : lk (mi_ins m92) 7 = some (.invokevirtual 91, 3, []) := by decide +kernel
theorem i92_10 : lk (mi_ins m92) 10 = some (.ifCond .eq 5, 3, []) := by decide +kernel
theorem i92_13 : lk (mi_ins m92) 13 = some (.iconst (-1), 1, []) := by decide +kernel
theorem i92_14 : lk (mi_ins m92) 14 = some (.ireturn, 1, []) := by decide +kernel
theorem i92_15 : lk (mi_ins m92) 15 = some (.aload_n 0, 1, []) := by decide +kernel
theorem i92_16 : lk (mi_ins m92) 16 = some (.getfield 40, 3, []) := by decide +kernel
theorem i92_19 : lk (mi_ins m92) 19 = some (.aload_n 0, 1, []) := by decide +kernel
theorem i92_20 : lk (mi_ins m92) 20 = some (.getfield 23, 3, []) := by decide +kernel
theorem i92_23 : lk (mi_ins m92) 23 = some (.aload_n 0, 1, []) := by decide +kernel
theorem i92_24 : lk (mi_ins m92) 24 = some (.getfield 30, 3, []) := by decide +kernel
theorem i92_27 : lk (mi_ins m92) 27 = some (.invokevirtual 130, 3, []) := by decide +kernel
theorem i92_30 : lk (mi_ins m92) 30 = some (.aload_n 0, 1, []) := by decide +kernel
theorem i92_31 : lk (mi_ins m92) 31 = some (.getfield 40, 3, []) := by decide +kernel
theorem i92_34 : lk (mi_ins m92) 34 = some (.iload_n 1, 1, []) := by decide +kernel
theorem i92_35 : lk (mi_ins m92) 35 = some (.invokevirtual 196, 3, []) := by decide +kernel
theorem i92_38 : lk (mi_ins m92) 38 = some (.ireturn, 1, []) := by decide +kernel
theorem i93_0 : lk (mi_ins m93) 0 = some (.aload_n 0, 1, []) := by decide +kernel
theorem i93_1 : lk (mi_ins m93) 1 = some (.getfield 9, 3, []) := by decide +kernel
theorem i93_4 : lk (mi_ins m93) 4 = some (.iload_n 1, 1, []) := by decide +kernel
theorem i93_5 : lk (mi_ins m93) 5 = some (.iaload, 1, []) := by decide +kernel
theorem i93_6 : lk (mi_ins m93) 6 = some (.istore_n 2, 1, []) := by decide +kernel
theorem i93_7 : lk (mi_ins m93) 7 = some (.aload_n 0, 1, []) := by decide +kernel
theorem i93_8 : lk (mi_ins m93) 8 = some (.getfield 9, 3, []) := by decide +kernel
theorem i93_11 : lk (mi_ins m93) 11 = some (.iload_n 1, 1, []) := by decide +kernel
theorem i93_12 : lk (mi_ins m93) 12 = some (.iaload, 1, []) := by decide +kernel
theorem i93_13 : lk (mi_ins m93) 13 = some (.istore_n 3, 1, []) := by decide +kernel
theorem i93_14 : lk (mi_ins m93) 14 = some (.iconst 0, 1, []) := by decide +kernel
theorem i93_15 : lk (mi_ins m93) 15 = some (.istore 4, 2, []) := by decide +kernel
theorem i93_17 : lk (mi_ins m93) 17 = some (.iload 4, 2, []) := by decide +kernel
theorem i93_19 : lk (mi_ins m93) 19 = some (.aload_n 0, 1, []) := by decide +kernel
theorem i93_20 : lk (mi_ins m93) 20 = some (.getfield 41, 3, []) := by decide +kernel
theorem i93_23 : lk (mi_ins m93) 23 = some (.if_icmp .ge 47, 3, []) := by decide +kernel
theorem i93_26 : lk (mi_ins m93) 26 = some (.aload_n 0, 1, []) := by decide +kernel
theorem i93_27 : lk (mi_ins m93) 27 = some (.getfield 15, 3, []) := by decide +kernel
theorem i93_30 : lk (mi_ins m93) 30 = some (.iload_n 1, 1, []) := by decide +kernel
theorem i93_31 : lk (mi_ins m93) 31 = some (.iaload, 1, []) := by decide +kernel
theorem i93_32 : lk (mi_ins m93) 32 = some (.iload 4, 2, []) := by decide +kernel
theorem i93_34 : lk (mi_ins m93) 34 = some (.ishr, 1, []) := by decide +kernel
theorem i93_35 : lk (mi_ins m93) 35 = some (.iconst 1, 1, []) := by decide +kernel
theorem i93_36 : lk (mi_ins m93) 36 = some (.iand, 1, []) := by decide +kernel
theorem i93_37 : lk (mi_ins m93) 37 = some (.ifCond .eq 27, 3, []) := by decide +kernel
theorem i93_40 : lk (mi_ins m93) 40 = some (.iload_n 2, 1, []) := by decide +kernel
theorem i93_41 : lk (mi_ins m93) 41 = some (.aload_n 0, 1, []) := by decide +kernel
theorem i93_42 : lk (mi_ins m93) 42 = some (.getfield 9, 3, []) := by decide +kernel
theorem i93_45 : lk (mi_ins m93) 45 = some (.iload 4, 2, []) := by decide +kernel
theorem i93_47 : lk (mi_ins m93) 47 = some (.iaload, 1, []) := by decide +kernel
theorem i93_48 : lk (mi_ins m93) 48 = some (.invokestatic 87, 3, []) := by decide +kernel
theorem i93_51 : lk (mi_ins m93) 51 = some (.istore_n 2, 1, []) := by decide +kernel
theorem i93_52 : lk (mi_ins m93) 52 = some (.iload_n 3, 1, []) := by decide +kernel
theorem i93_53 : lk (mi_ins m93) 53 = some (.aload_n 0, 1, []) := by decide +kernel
theorem i93_54 : lk (mi_ins m93) 54 = some (.getfield 9, 3, []) := by decide +kernel
theorem i93_57 : lk (mi_ins m93) 57 = some (.iload 4, 2, []) := by decide +kernel
theorem i93_59 : lk (mi_ins m93) 59 = some (.iaload, 1, []) := by decide +kernel
theorem i93_60 : lk (mi_ins m93) 60 = some (.invokestatic 90, 3, []) := by decide +kernel
theorem i93_63 : lk (mi_ins m93) 63 = some (.istore_n 3, 1, []) := by decide +kernel
theorem i93_64 : lk (mi_ins m93) 64 = some (.iinc 4 1, 3, []) := by decide +kernel
theorem i93_67 : lk (mi_ins m93) 67 = some (.goto (-50), 3, []) := by decide +kernel
theorem i93_70 : lk (mi_ins m93) 70 = some (.iload_n 2, 1, [0, 1, 4]) := by decide +kernel
theorem i93_71 : lk (mi_ins m93) 71 = some (.iload_n 3, 1, []) := by decide +kernel
theorem i93_72 : lk (mi_ins m93) 72 = some (.isub, 1, []) := by decide +kernel
theorem i93_73 : lk (mi_ins m93) 73 = some (.ireturn, 1, []) := by decide +kernel
theorem i94_0 : lk (mi_ins m94) 0 = some (.aload_n 0, 1, []) := by decide +kernel
theorem i94_1 : lk (mi_ins m94) 1 = some (.aload_n 0, 1, []) := by decide +kernel
theorem i94_2 : lk (mi_ins m94) 2 = some (.iload_n 1, 1, []) := by decide +kernel
theorem i94_3 : lk (mi_ins m94) 3 = some (.invokevirtual 126, 3, []) := by decide +kernel
theorem i94_6 : lk (mi_ins m94) 6 = some (.iload_n 2, 1, []) := by decide +kernel
theorem i94_7 : lk (mi_ins m94) 7 = some (.iconst 0, 1, []) := by decide +kernel
theorem i94_8 : lk (mi_ins m94) 8 = some (.bipush 20, 2, []) := by decide +kernel
theorem i94_10 : lk (mi_ins m94) 10 = some (.invokestatic 87, 3, []) := by decide +kernel
theorem i94_13 : lk (mi_ins m94) 13 = some (.invokevirtual 91, 3, []) := by decide +kernel
theorem i94_16 : lk (mi_ins m94) 16 = some (.ifCond .eq 5, 3, []) := by decide +kernel
theorem i94_19 : lk (mi_ins m94) 19 = some (.iconst (-1), 1, []) := by decide +kernel
theorem i94_20 : lk (mi_ins m94) 20 = some (.ireturn, 1, []) := by decide +kernel
theorem i94_21 : lk (mi_ins m94) 21 = some (.aload_n 0, 1, []) := by decide +kernel
theorem i94_22 : lk (mi_ins m94) 22 = some (.iload_n 2, 1, []) := by decide +kernel
theorem i94_23 : lk (mi_ins m94) 23 = some (.invokevirtual 199, 3, []) := by decide +kernel
theorem i94_26 : lk (mi_ins m94) 26 = some (.aload_n 0, 1, []) := by decide +kernel
theorem i94_27 : lk (mi_ins m94) 27 = some (.getfield 40, 3, []) := by decide +kernel
theorem i94_30 : lk (mi_ins m94) 30 = some (.getfield 145, 3, []) := by decide +kernel
theorem i94_33 : lk (mi_ins m94) 33 = some (.iload_n 1, 1, []) := by decide +kernel
theorem i94_34 : lk (mi_ins m94) 34 = some (.iaload, 1, []) := by decide +kernel
theorem i94_35 : lk (mi_ins m94) 35 = some (.sipush 1000, 3, []) := by decide +kernel
theorem i94_38 : lk (mi_ins m94) 38 = some (.iadd, 1, []) := by decide +kernel
theorem i94_39 : lk (mi_ins m94) 39 = some (.ireturn, 1, []) := by decide +kernel
theorem i95_0 : lk (mi_ins m95) 0 = some (.aload_n 0, 1, []) := by decide +kernel
theorem i95_1 : lk (mi_ins m95) 1 = some (.getfield 34, 3, []) := by decide +kernel
theorem i95_4 : lk (mi_ins m95) 4 = some (.aload_n 0, 1, []) := by decide +kernel
theorem i95_5 : lk (mi_ins m95) 5 = some (.getfield 30, 3, []) := by decide +kernel
theorem i95_8 : lk (mi_ins m95) 8 = some (.invokevirtual 202, 3, []) := by decide +kernel
theorem i95_11 : lk (mi_ins m95) 11 = some (.iconst 0, 1, []) := by decide +kernel
theorem i95_12 : lk (mi_ins m95) 12 = some (.istore_n 2, 1, []) := by decide +kernel
theorem i95_13 : lk (mi_ins m95) 13 = some (.iload_n 2, 1, []) := by decide +kernel
theorem i95_14 : lk (mi_ins m95) 14 = some (.iload_n 1, 1, []) := by decide +kernel
theorem i95_15 : lk (mi_ins m95) 15 = some (.if_icmp .ge 16, 3, []) := by decide +kernel
theorem i95_18 : lk (mi_ins m95) 18 = some (.aload_n 0, 1, []) := by decide +kernel
theorem i95_19 : lk (mi_ins m95) 19 = some (.getfield 34, 3, []) := by decide +kernel
theorem i95_22 : lk (mi_ins m95) 22 = some (.invokevirtual 206, 3, []) := by decide +kernel
theorem i95_25 : lk (mi_ins m95) 25 = some (.iinc 2 1, 3, []) := by decide +kernel
theorem i95_28 : lk (mi_ins m95) 28 = some (.goto (-15), 3, []) := by decide +kernel
theorem i95_31 : lk (mi_ins m95) 31 = some (.aload_n 0, 1, [1, 2]) := by decide +kernel
theorem i95_32 : lk (mi_ins m95) 32 = some (.getfield 40, 3, []) := by decide +kernel
theorem i95_35 : lk (mi_ins m95) 35 = some (.aload_n 0, 1, []) := by decide +kernel
theorem i95_36 : lk (mi_ins m95) 36 = some (.getfield 23, 3, []) := by decide +kernel
theorem i95_39 : lk (mi_ins m95) 39 = some (.aload_n 0, 1, []) := by decide +kernel
theorem i95_40 : lk (mi_ins m95) 40 = some (.getfield 34, 3, []) := by decide +kernel
theorem i95_43 : lk (mi_ins m95) 43 = some (.invokevirtual 130, 3, []) := by decide +kernel
theorem i95_46 : lk (mi_ins m95) 46 = some (.return_, 1, []) := by decide +kernel
theorem i96_0 : lk (mi_ins m96) 0 = some (.aload_n 1, 1, []) := by decide +kernel
theorem i96_1 : lk (mi_ins m96) 1 = some (.getfield 11, 3, []) := by decide +kernel
theorem i96_4 : lk (mi_ins m96) 4 = some (.iconst 0, 1, []) := by decide +kernel
theorem i96_5 : lk (mi_ins m96) 5 = some (.aload_n 0, 1, []) := by decide +kernel
theorem i96_6 : lk (mi_ins m96) 6 = some (.getfield 11, 3, []) := by decide +kernel
theorem i96_9 : lk (mi_ins m96) 9 = some (.iconst 0, 1, []) := by decide +kernel
theorem i96_10 : lk (mi_ins m96) 10 = some (.bipush 25, 2, []) := by decide +kernel
theorem i96_12 : lk (mi_ins m96) 12 = some (.invokestatic 65, 3, []) := by decide +kernel
theorem i96_15 : lk (mi_ins m96) 15 = some (.aload_n 1, 1, []) := by decide +kernel
theorem i96_16 : lk (mi_ins m96) 16 = some (.getfield 15, 3, []) := by decide +kernel
theorem i96_19 : lk (mi_ins m96) 19 = some (.iconst 0, 1, []) := by decide +kernel
theorem i96_20 : lk (mi_ins m96) 20 = some (.aload_n 0, 1, []) := by decide +kernel
theorem i96_21 : lk (mi_ins m96) 21 = some (.getfield 15, 3, []) := by decide +kernel
theorem i96_24 : lk (mi_ins m96) 24 = some (.iconst 0, 1, []) := by decide +kernel
theorem i96_25 : lk (mi_ins m96) 25 = some (.iconst 3, 1, []) := by decide +kernel
theorem i96_26 : lk (mi_ins m96) 26 = some (.invokestatic 65, 3, []) := by decide +kernel
theorem i96_29 : lk (mi_ins m96) 29 = some (.aload_n 0, 1, []) := by decide +kernel
theorem i96_30 : lk (mi_ins m96) 30 = some (.aload_n 1, 1, []) := by decide +kernel
theorem i96_31 : lk (mi_ins m96) 31 = some (.getfield 31, 3, []) := by decide +kernel
theorem i96_34 : lk (mi_ins m96) 34 = some (.putfield 31, 3, []) := by decide +kernel
theorem i96_37 : lk (mi_ins m96) 37 = some (.aload_n 0, 1, []) := by decide +kernel
theorem i96_38 : lk (mi_ins m96) 38 = some (.aload_n 1, 1, []) := by decide +kernel
theorem i96_39 : lk (mi_ins m96) 39 = some (.getfield 52, 3, []) := by decide +kernel
theorem i96_42 : lk (mi_ins m96) 42 = some (.putfield 52, 3, []) := by decide +kernel
theorem i96_45 : lk (mi_ins m96) 45 = some (.aload_n 0, 1, []) := by decide +kernel
theorem i96_46 : lk (mi_ins m96) 46 = some (.aload_n 1, 1, []) := by decide +kernel
theorem i96_47 : lk (mi_ins m96) 47 = some (.getfield 62, 3, []) := by decide +kernel
theorem i96_50 : lk (mi_ins m96) 50 = some (.putfield 62, 3, []) := by decide +kernel
theorem i96_53 : lk (mi_ins m96) 53 = some (.return_, 1, []) := by decide +kernel
theorem i97_0 : lk (mi_ins m97) 0 = some (.iconst 0, 1, []) := by decide +kernel
theorem i97_1 : lk (mi_ins m97) 1 = some (.istore_n 1, 1, []) := by decide +kernel
theorem i97_2 : lk (mi_ins m97) 2 = some (.iload_n 1, 1, []) := by decide +kernel
theorem i97_3 : lk (mi_ins m97) 3 = some (.iconst 5, 1, []) := by decide +kernel
theorem i97_4 : lk (mi_ins m97) 4 = some (.if_icmp .ge 14, 3, []) := by decide +kernel
theorem i97_7 : lk (mi_ins m97) 7 = some (.aload_n 0, 1, []) := by decide +kernel
theorem i97_8 : lk (mi_ins m97) 8 = some (.iload_n 1, 1, []) := by decide +kernel
theorem i97_9 : lk (mi_ins m97) 9 = some (.invokevirtual 35, 3, []) := by decide +kernel
theorem i97_12 : lk (mi_ins m97) 12 = some (.iinc 1 1, 3, []) := by decide +kernel
theorem i97_15 : lk (mi_ins m97) 15 = some (.goto (-13), 3, []) := by decide +kernel
theorem i97_18 : lk (mi_ins m97) 18 = some (.return_, 1, [0, 1]) := by decide +kernel
theorem i98_0 : lk (mi_ins m98) 0 = some (.iload_n 1, 1, []) := by decide +kernel
theorem i98_1 : lk (mi_ins m98) 1 = some (.iconst 5, 1, []) := by decide +kernel
theorem i98_2 : lk (mi_ins m98) 2 = some (.imul, 1, []) := by decide +kernel
theorem i98_3 : lk (mi_ins m98) 3 = some (.istore_n 2, 1, []) := by decide +kernel
theorem i98_4 : lk (mi_ins m98) 4 = some (.aload_n 0, 1, []) := by decide +kernel
theorem i98_5 : lk (mi_ins m98) 5 = some (.getfield 11, 3, []) := by decide +kernel
theorem i98_8 : lk (mi_ins m98) 8 = some (.iload_n 2, 1, []) := by decide +kernel
theorem i98_9 : lk (mi_ins m98) 9 = some (.iconst 2, 1, []) := by decide +kernel
theorem i98_10 : lk (mi_ins m98) 10 = some (.iadd, 1, []) := by decide +kernel
theorem i98_11 : lk (mi_ins m98) 11 = some (.aload_n 0, 1, []) := by decide +kernel
theorem i98_12 : lk (mi_ins m98) 12 = some (.getfield 11, 3, []) := by decide +kernel
theorem i98_15 : lk (mi_ins m98) 15 = some (.iload_n 2, 1, []) := by decide +kernel
theorem i98_16 : lk (mi_ins m98) 16 = some (.iconst 1, 1, []) := by decide +kernel
theorem i98_17 : lk (mi_ins m98) 17 = some (.iadd, 1, []) := by decide +kernel
theorem i98_18 : lk (mi_ins m98) 18 = some (.iaload, 1, []) := by decide +kernel
theorem i98_19 : lk (mi_ins m98) 19 = some (.iastore, 1, []) := by decide +kernel
theorem i98_20 : lk (mi_ins m98) 20 = some (.aload_n 0, 1, []) := by decide +kernel
theorem i98_21 : lk (mi_ins m98) 21 = some (.getfield 11, 3, []) := by decide +kernel
theorem i98_24 : lk (mi_ins m98) 24 = some (.iload_n 2, 1, []) := by decide +kernel
theorem i98_25 : lk (mi_ins m98) 25 = some (.iconst 1, 1, []) := by decide +kernel
theorem i98_26 : lk (mi_ins m98) 26 = some (.iadd, 1, []) := by decide +kernel
theorem i98_27 : lk (mi_ins m98) 27 = some (.aload_n 0, 1, []) := by decide +kernel
theorem i98_28 : lk (mi_ins m98) 28 = some (.getfield 11, 3, []) := by decide +kernel
theorem i98_31 : lk (mi_ins m98) 31 = some (.iload_n 2, 1, []) := by decide +kernel
theorem i98_32 : lk (mi_ins m98) 32 = some (.iconst 0, 1, []) := by decide +kernel
theorem i98_33 : lk (mi_ins m98) 33 = some (.iadd, 1, []) := by decide +kernel
theorem i98_34 : lk (mi_ins m98) 34 = some (.iaload, 1, []) := by decide +kernel
theorem i98_35 : lk (mi_ins m98) 35 = some (.iastore, 1, []) := by decide +kernel
theorem i98_36 : lk (mi_ins m98) 36 = some (.aload_n 0, 1, []) := by decide +kernel
theorem i98_37 : lk (mi_ins m98) 37 = some (.getfield 11, 3, []) := by decide +kernel
theorem i98_40 : lk (mi_ins m98) 40 = some (.iload_n 2, 1, []) := by decide +kernel
theorem i98_41 : lk (mi_ins m98) 41 = some (.iconst 0, 1, []) := by decide +kernel
theorem i98_42 : lk (mi_ins m98) 42 = some (.iadd, 1, []) := by decide +kernel
theorem i98_43 : lk (mi_ins m98) 43 = some (.iconst 0, 1, []) := by decide +kernel
theorem i98_44 : lk (mi_ins m98) 44 = some (.iastore, 1, []) := by decide +kernel
theorem i98_45 : lk (mi_ins m98) 45 = some (.return_, 1, []) := by decide +kernel
theorem i99_0 : lk (mi_ins m99) 0 = some (.aload_n 0, 1, []) := by decide +kernel
theorem i99_1 : lk (mi_ins m99) 1 = some (.aload_n 0, 1, []) := by decide +kernel
theorem i99_2 : lk (mi_ins m99) 2 = some (.invokevirtual 182, 3, []) := by decide +kernel
theorem i99_5 : lk (mi_ins m99) 5 = some (.iload_n 1, 1, []) := by decide +kernel
theorem i99_6 : lk (mi_ins m99) 6 = some (.iconst 0, 1, []) := by decide +kernel
theorem i99_7 : lk (mi_ins m99) 7 = some (.bipush 20, 2, []) := by decide +kernel
theorem i99_9 : lk (mi_ins m99) 9 = some (.invokestatic 87, 3, []) := by decide +kernel
theorem i99_12 : lk (mi_ins m99) 12 = some (.invokevirtual 91, 3, []) := by decide +kernel
theorem i99_15 : lk (mi_ins m99) 15 = some (.ifCond .eq 5, 3, []) := by decide +kernel
theorem i99_18 : lk (mi_ins m99) 18 = some (.iconst (-1), 1, []) := by decide +kernel
theorem i99_19 : lk (mi_ins m99) 19 = some (.ireturn, 1, []) := by decide +kernel
theorem i99_20 : lk (mi_ins m99) 20 = some (.aload_n 0, 1, []) := by decide +kernel
theorem i99_21 : lk (mi_ins m99) 21 = some (.iload_n 1, 1, []) := by decide +kernel
theorem i99_22 : lk (mi_ins m99) 22 = some (.invokevirtual 199, 3, []) := by decide +kernel
theorem i99_25 : lk (mi_ins m99) 25 = some (.aload_n 0, 1, []) := by decide +kernel
theorem i99_26 : lk (mi_ins m99) 26 = some (.getfield 40, 3, []) := by decide +kernel
theorem i99_29 : lk (mi_ins m99) 29 = some (.invokevirtual 186, 3, []) := by decide +kernel
theorem i99_32 : lk (mi_ins m99) 32 = some (.ireturn, 1, []) := by decide +kernel
theorem i100_0 : lk (mi_ins m100) 0 = some (.aload_n 0, 1, []) := by decide +kernel
theorem i100_1 : lk (mi_ins m100) 1 = some (.aload_n 0, 1, []) := by decide +kernel
theorem i100_2 : lk (mi_ins m100) 2 = some (.iload_n 1, 1, []) := by decide +kernel
theorem i100_3 : lk (mi_ins m100) 3 = some (.invokevirtual 126, 3, []) := by decide +kernel
theorem i100_6 : lk (mi_ins m100) 6 = some (.iconst 0, 1, []) := by decide +kernel
theorem i100_7 : lk (mi_ins m100) 7 = some (.invokevirtual 91, 3, []) := by decide +kernel
theorem i100_10 : lk (mi_ins m100) 10 = some (.ifCond .eq 5, 3, []) := by decide +kernel
theorem i100_13 : lk (mi_ins m100) 13 = some (.iconst (-1), 1, []) := by decide +kernel
theorem i100_14 : lk (mi_ins m100) 14 = some (.ireturn, 1, []) := by decide +kernel
theorem i100_15 : lk (mi_ins m100) 15 = some (.aload_n 0, 1, []) := by decide +kernel
theorem i100_16 : lk (mi_ins m100) 16 = some (.getfield 34, 3, []) := by decide +kernel
theorem i100_19 : lk (mi_ins m100) 19 = some (.aload_n 0, 1, []) := by decide +kernel
theorem i100_20 : lk (mi_ins m100) 20 = some (.getfield 30, 3, []) := by decide +kernel
theorem i100_23 : lk (mi_ins m100) 23 = some (.invokevirtual 202, 3, []) := by decide +kernel
theorem i100_26 : lk (mi_ins m100) 26 = some (.iconst 0, 1, []) := by decide +kernel
theorem i100_27 : lk (mi_ins m100) 27 = some (.istore_n 2, 1, []) := by decide +kernel
theorem i100_28 : lk (mi_ins m100) 28 = some (.iload_n 2, 1, []) := by decide +kernel
theorem i100_29 : lk (mi_ins m100) 29 = some (.bipush 20, 2, []) := by decide +kernel
theorem i100_31 : lk (mi_ins m100) 31 = some (.if_icmp .gt 45, 3, []) := by decide +kernel
theorem i100_34 : lk (mi_ins m100) 34 = some (.aload_n 0, 1, []) := by decide +kernel
theorem i100_35 : lk (mi_ins m100) 35 = some (.getfield 40, 3, []) := by decide +kernel
theorem i100_38 : lk (mi_ins m100) 38 = some (.aload_n 0, 1, []) := by decide +kernel
theorem i100_39 : lk (mi_ins m100) 39 = some (.getfield 23, 3, []) := by decide +kernel
theorem i100_42 : lk (mi_ins m100) 42 = some (.aload_n 0, 1, []) := by decide +kernel
theorem i100_43 : lk (mi_ins m100) 43 = some (.getfield 34, 3, []) := by decide +kernel
theorem i100_46 : lk (mi_ins m100) 46 = some (.invokevirtual 130, 3, []) := by decide +kernel
theorem i100_49 : lk (mi_ins m100) 49 = some (.aload_n 0, 1, []) := by decide +kernel
theorem i100_50 : lk (mi_ins m100) 50 = some (.getfield 40, 3, []) := by decide +kernel
theorem i100_53 : lk (mi_ins m100) 53 = some (.getfield 145, 3, []) := by decide +kernel
theorem i100_56 : lk (mi_ins m100) 56 = some (.iload_n 1, 1, []) := by decide +kernel
theorem i100_57 : lk (mi_ins m100) 57 = some (.iaload, 1, []) := by decide +kernel
theorem i100_58 : lk (mi_ins m100) 58 = some (.ifCond .ge 5, 3, []) := by decide +kernel
theorem i100_61 : lk (mi_ins m100) 61 = some (.iload_n 2, 1, []) := by decide +kernel
theorem i100_62 : lk (mi_ins m100) 62 = some (.ireturn, 1, []) := by decide +kernel
theorem i100_63 : lk (mi_ins m100) 63 = some (.aload_n 0, 1, []) := by decide +kernel
theorem i100_64 : lk (mi_ins m100) 64 = some (.getfield 34, 3, []) := by decide +kernel
theorem i100_67 : lk (mi_ins m100) 67 = some (.invokevirtual 206, 3, []) := by decide +kernel
theorem i100_70 : lk (mi_ins m100) 70 = some (.iinc 2 1, 3, []) := by decide +kernel
theorem i100_73 : lk (mi_ins m100) 73 = some (.goto (-45), 3, []) := by decide +kernel
theorem i100_76 : lk (mi_ins m100) 76 = some (.bipush (-2), 2, [0, 1, 2]) := by decide +kernel
theorem i100_78 : lk (mi_ins m100) 78 = some (.ireturn, 1, []) := by decide +kernel
theorem i101_0 : lk (mi_ins m101) 0 = some (.aload_n 0, 1, []) := by decide +kernel
theorem i101_1 : lk (mi_ins m101) 1 = some (.aload_n 0, 1, []) := by decide +kernel
theorem i101_2 : lk (mi_ins m101) 2 = some (.invokevirtual 182, 3, []) := by decide +kernel
theorem i101_5 : lk (mi_ins m101) 5 = some (.iconst 0, 1, []) := by decide +kernel
theorem i101_6 : lk (mi_ins m101) 6 = some (.invokevirtual 91, 3, []) := by decide +kernel
theorem i101_9 : lk (mi_ins m101) 9 = some (.ifCond .eq 5, 3, []) := by decide +kernel
theorem i101_12 : lk (mi_ins m101) 12 = some (.iconst (-1), 1, []) := by decide +kernel
theorem i101_13 : lk (mi_ins m101) 13 = some (.ireturn, 1, []) := by decide +kernel
theorem i101_14 : lk (mi_ins m101) 14 = some (.iconst 0, 1, []) := by decide +kernel
theorem i101_15 : lk (mi_ins m101) 15 = some (.istore_n 1, 1, []) := by decide +kernel
