set_option maxRecDepth 20000 in
theorem dL_law_0 : decode cL_law 0 = .ok (.new 8, 3) := by decide +kernel
set_option maxRecDepth 20000 in
theorem dL_law_3 : decode cL_law 3 = .ok (.dup, 1) := by decide +kernel
set_option maxRecDepth 20000 in
theorem dL_law_4 : decode cL_law 4 = .ok (.invokespecial 146, 3) := by decide +kernel
set_option maxRecDepth 20000 in
theorem dL_law_7 : decode cL_law 7 = .ok (.astore_n 1, 1) := by decide +kernel
set_option maxRecDepth 20000 in
theorem dL_law_8 : decode cL_law 8 = .ok (.new 147, 3) := by decide +kernel
set_option maxRecDepth 20000 in
theorem dL_law_11 : decode cL_law 11 = .ok (.dup, 1) := by decide +kernel
set_option maxRecDepth 20000 in
theorem dL_law_12 : decode cL_law 12 = .ok (.invokespecial 149, 3) := by decide +kernel
set_option maxRecDepth 20000 in
theorem dL_law_15 : decode cL_law 15 = .ok (.astore_n 2, 1) := by decide +kernel
set_option maxRecDepth 20000 in
theorem dL_law_16 : decode cL_law 16 = .ok (.iconst 1, 1) := by decide +kernel
set_option maxRecDepth 20000 in
theorem dL_law_17 : decode cL_law 17 = .ok (.newarray .long, 2) := by decide +kernel
set_option maxRecDepth 20000 in
theorem dL_law_19 : decode cL_law 19 = .ok (.astore_n 3, 1) := by decide +kernel
set_option maxRecDepth 20000 in
theorem dL_law_20 : decode cL_law 20 = .ok (.iconst 1, 1) := by decide +kernel
set_option maxRecDepth 20000 in
theorem dL_law_21 : decode cL_law 21 = .ok (.newarray .double, 2) := by decide +kernel
set_option maxRecDepth 20000 in
theorem dL_law_23 : decode cL_law 23 = .ok (.astore 4, 2) := by decide +kernel
set_option maxRecDepth 20000 in
theorem dL_law_25 : decode cL_law 25 = .ok (.iconst 0, 1) := by decide +kernel
set_option maxRecDepth 20000 in
theorem dL_law_26 : decode cL_law 26 = .ok (.istore 5, 2) := by decide +kernel
set_option maxRecDepth 20000 in
theorem dL_law_28 : decode cL_law 28 = .ok (.iload 5, 2) := by decide +kernel
set_option maxRecDepth 20000 in
theorem dL_law_30 : decode cL_law 30 = .ok (.aload_n 0, 1) := by decide +kernel
set_option maxRecDepth 20000 in
theorem dL_law_31 : decode cL_law 31 = .ok (.arraylength, 1) := by decide +kernel
set_option maxRecDepth 20000 in
theorem dL_law_32 : decode cL_law 32 = .ok (.iconst 5, 1) := by decide +kernel
set_option maxRecDepth 20000 in
theorem dL_law_33 : decode cL_law 33 = .ok (.isub, 1) := by decide +kernel
set_option maxRecDepth 20000 in
theorem dL_law_34 : decode cL_law 34 = .ok (.if_icmp .gt 3301, 3) := by decide +kernel
set_option maxRecDepth 20000 in
theorem dL_law_37 : decode cL_law 37 = .ok (.aload_n 0, 1) := by decide +kernel
set_option maxRecDepth 20000 in
theorem dL_law_38 : decode cL_law 38 = .ok (.iload 5, 2) := by decide +kernel
set_option maxRecDepth 20000 in
theorem dL_law_40 : decode cL_law 40 = .ok (.iaload, 1) := by decide +kernel
set_option maxRecDepth 20000 in
theorem dL_law_41 : decode cL_law 41 = .ok (.bipush 63, 2) := by decide +kernel
set_option maxRecDepth 20000 in
theorem dL_law_43 : decode cL_law 43 = .ok (.iand, 1) := by decide +kernel
set_option maxRecDepth 20000 in
theorem dL_law_44 : decode cL_law 44 = .ok (.tableswitch 3285 0 55 #[240, 296, 309, 322, 335, 348, 361, 429, 442, 498, 554, 646, 726, 782, 874, 942, 998, 1066, 1079, 1135, 1191, 1247, 1303, 1371, 1427, 1483, 1551, 1631, 1687, 1743, 1821, 1896, 1952, 1965, 2033, 2101, 2169, 2249, 2341, 2421, 2489, 2502, 2570, 2626, 2639, 2707, 2785, 2828, 2918, 2986, 2999, 3012, 3025, 3093, 3173, 3229], 240) := by decide +kernel
set_option maxRecDepth 20000 in
theorem dL_law_284 : decode cL_law 284 = .ok (.aload_n 1, 1) := by decide +kernel
set_option maxRecDepth 20000 in
theorem dL_law_285 : decode cL_law 285 = .ok (.aload_n 0, 1) := by decide +kernel
set_option maxRecDepth 20000 in
theorem dL_law_286 : decode cL_law 286 = .ok (.iload 5, 2) := by decide +kernel
set_option maxRecDepth 20000 in
theorem dL_law_288 : decode cL_law 288 = .ok (.iconst 1, 1) := by decide +kernel
set_option maxRecDepth 20000 in
theorem dL_law_289 : decode cL_law 289 = .ok (.iadd, 1) := by decide +kernel
set_option maxRecDepth 20000 in
theorem dL_law_290 : decode cL_law 290 = .ok (.iaload, 1) := by decide +kernel
set_option maxRecDepth 20000 in
theorem dL_law_291 : decode cL_law 291 = .ok (.aload_n 3, 1) := by decide +kernel
set_option maxRecDepth 20000 in
theorem dL_law_292 : decode cL_law 292 = .ok (.invokestatic 150, 3) := by decide +kernel
set_option maxRecDepth 20000 in
theorem dL_law_295 : decode cL_law 295 = .ok (.istore 6, 2) := by decide +kernel
set_option maxRecDepth 20000 in
theorem dL_law_297 : decode cL_law 297 = .ok (.aload_n 2, 1) := by decide +kernel
set_option maxRecDepth 20000 in
theorem dL_law_298 : decode cL_law 298 = .ok (.aload_n 0, 1) := by decide +kernel
set_option maxRecDepth 20000 in
theorem dL_law_299 : decode cL_law 299 = .ok (.iload 5, 2) := by decide +kernel
set_option maxRecDepth 20000 in
theorem dL_law_301 : decode cL_law 301 = .ok (.iconst 1, 1) := by decide +kernel
set_option maxRecDepth 20000 in
theorem dL_law_302 : decode cL_law 302 = .ok (.iadd, 1) := by decide +kernel
set_option maxRecDepth 20000 in
theorem dL_law_303 : decode cL_law 303 = .ok (.iaload, 1) := by decide +kernel
set_option maxRecDepth 20000 in
theorem dL_law_304 : decode cL_law 304 = .ok (.invokevirtual 155, 3) := by decide +kernel
set_option maxRecDepth 20000 in
theorem dL_law_307 : decode cL_law 307 = .ok (.istore 7, 2) := by decide +kernel
set_option maxRecDepth 20000 in
theorem dL_law_309 : decode cL_law 309 = .ok (.aload_n 2, 1) := by decide +kernel
set_option maxRecDepth 20000 in
theorem dL_law_310 : decode cL_law 310 = .ok (.invokevirtual 156, 3) := by decide +kernel
set_option maxRecDepth 20000 in
theorem dL_law_313 : decode cL_law 313 = .ok (.iload 6, 2) := by decide +kernel
set_option maxRecDepth 20000 in
theorem dL_law_315 : decode cL_law 315 = .ok (.if_icmp .eq 5, 3) := by decide +kernel
set_option maxRecDepth 20000 in
theorem dL_law_318 : decode cL_law 318 = .ok (.iconst 0, 1) := by decide +kernel
set_option maxRecDepth 20000 in
theorem dL_law_319 : decode cL_law 319 = .ok (.ireturn, 1) := by decide +kernel
set_option maxRecDepth 20000 in
theorem dL_law_320 : decode cL_law 320 = .ok (.iload 6, 2) := by decide +kernel
set_option maxRecDepth 20000 in
theorem dL_law_322 : decode cL_law 322 = .ok (.ifCond .ne 15, 3) := by decide +kernel
set_option maxRecDepth 20000 in
theorem dL_law_325 : decode cL_law 325 = .ok (.aload_n 3, 1) := by decide +kernel
set_option maxRecDepth 20000 in
theorem dL_law_326 : decode cL_law 326 = .ok (.iconst 0, 1) := by decide +kernel
set_option maxRecDepth 20000 in
theorem dL_law_327 : decode cL_law 327 = .ok (.laload, 1) := by decide +kernel
set_option maxRecDepth 20000 in
theorem dL_law_328 : decode cL_law 328 = .ok (.iload 7, 2) := by decide +kernel
set_option maxRecDepth 20000 in
theorem dL_law_330 : decode cL_law 330 = .ok (.i2l, 1) := by decide +kernel
set_option maxRecDepth 20000 in
theorem dL_law_331 : decode cL_law 331 = .ok (.lcmp, 1) := by decide +kernel
set_option maxRecDepth 20000 in
theorem dL_law_332 : decode cL_law 332 = .ok (.ifCond .eq 5, 3) := by decide +kernel
set_option maxRecDepth 20000 in
theorem dL_law_335 : decode cL_law 335 = .ok (.iconst 0, 1) := by decide +kernel
set_option maxRecDepth 20000 in
theorem dL_law_336 : decode cL_law 336 = .ok (.ireturn, 1) := by decide +kernel
set_option maxRecDepth 20000 in
theorem dL_law_337 : decode cL_law 337 = .ok (.goto 2992, 3) := by decide +kernel
set_option maxRecDepth 20000 in
theorem dL_law_340 : decode cL_law 340 = .ok (.aload_n 1, 1) := by decide +kernel
set_option maxRecDepth 20000 in
theorem dL_law_341 : decode cL_law 341 = .ok (.invokevirtual 160, 3) := by decide +kernel
set_option maxRecDepth 20000 in
theorem dL_law_344 : decode cL_law 344 = .ok (.aload_n 2, 1) := by decide +kernel
set_option maxRecDepth 20000 in
theorem dL_law_345 : decode cL_law 345 = .ok (.invokevirtual 163, 3) := by decide +kernel
set_option maxRecDepth 20000 in
theorem dL_law_348 : decode cL_law 348 = .ok (.if_icmp .eq 2981, 3) := by decide +kernel
set_option maxRecDepth 20000 in
theorem dL_law_351 : decode cL_law 351 = .ok (.iconst 0, 1) := by decide +kernel
set_option maxRecDepth 20000 in
theorem dL_law_352 : decode cL_law 352 = .ok (.ireturn, 1) := by decide +kernel
set_option maxRecDepth 20000 in
theorem dL_law_353 : decode cL_law 353 = .ok (.aload_n 1, 1) := by decide +kernel
set_option maxRecDepth 20000 in
theorem dL_law_354 : decode cL_law 354 = .ok (.invokevirtual 164, 3) := by decide +kernel
set_option maxRecDepth 20000 in
theorem dL_law_357 : decode cL_law 357 = .ok (.aload_n 2, 1) := by decide +kernel
set_option maxRecDepth 20000 in
theorem dL_law_358 : decode cL_law 358 = .ok (.invokevirtual 167, 3) := by decide +kernel
set_option maxRecDepth 20000 in
theorem dL_law_361 : decode cL_law 361 = .ok (.if_icmp .eq 2968, 3) := by decide +kernel
set_option maxRecDepth 20000 in
theorem dL_law_364 : decode cL_law 364 = .ok (.iconst 0, 1) := by decide +kernel
set_option maxRecDepth 20000 in
theorem dL_law_365 : decode cL_law 365 = .ok (.ireturn, 1) := by decide +kernel
set_option maxRecDepth 20000 in
theorem dL_law_366 : decode cL_law 366 = .ok (.aload_n 1, 1) := by decide +kernel
set_option maxRecDepth 20000 in
theorem dL_law_367 : decode cL_law 367 = .ok (.invokevirtual 168, 3) := by decide +kernel
set_option maxRecDepth 20000 in
theorem dL_law_370 : decode cL_law 370 = .ok (.aload_n 2, 1) := by decide +kernel
set_option maxRecDepth 20000 in
theorem dL_law_371 : decode cL_law 371 = .ok (.invokevirtual 171, 3) := by decide +kernel
set_option maxRecDepth 20000 in
theorem dL_law_374 : decode cL_law 374 = .ok (.if_icmp .eq 2955, 3) := by decide +kernel
set_option maxRecDepth 20000 in
theorem dL_law_377 : decode cL_law 377 = .ok (.iconst 0, 1) := by decide +kernel
set_option maxRecDepth 20000 in
theorem dL_law_378 : decode cL_law 378 = .ok (.ireturn, 1) := by decide +kernel
set_option maxRecDepth 20000 in
theorem dL_law_379 : decode cL_law 379 = .ok (.aload_n 1, 1) := by decide +kernel
set_option maxRecDepth 20000 in
theorem dL_law_380 : decode cL_law 380 = .ok (.invokevirtual 172, 3) := by decide +kernel
set_option maxRecDepth 20000 in
theorem dL_law_383 : decode cL_law 383 = .ok (.aload_n 2, 1) := by decide +kernel
set_option maxRecDepth 20000 in
theorem dL_law_384 : decode cL_law 384 = .ok (.invokevirtual 175, 3) := by decide +kernel
set_option maxRecDepth 20000 in
theorem dL_law_387 : decode cL_law 387 = .ok (.if_icmp .eq 2942, 3) := by decide +kernel
set_option maxRecDepth 20000 in
theorem dL_law_390 : decode cL_law 390 = .ok (.iconst 0, 1) := by decide +kernel
set_option maxRecDepth 20000 in
theorem dL_law_391 : decode cL_law 391 = .ok (.ireturn, 1) := by decide +kernel
set_option maxRecDepth 20000 in
theorem dL_law_392 : decode cL_law 392 = .ok (.aload_n 1, 1) := by decide +kernel
set_option maxRecDepth 20000 in
theorem dL_law_393 : decode cL_law 393 = .ok (.invokevirtual 176, 3) := by decide +kernel
set_option maxRecDepth 20000 in
theorem dL_law_396 : decode cL_law 396 = .ok (.aload_n 2, 1) := by decide +kernel
set_option maxRecDepth 20000 in
theorem dL_law_397 : decode cL_law 397 = .ok (.invokevirtual 179, 3) := by decide +kernel
set_option maxRecDepth 20000 in
theorem dL_law_400 : decode cL_law 400 = .ok (.if_icmp .eq 2929, 3) := by decide +kernel
set_option maxRecDepth 20000 in
theorem dL_law_403 : decode cL_law 403 = .ok (.iconst 0, 1) := by decide +kernel
set_option maxRecDepth 20000 in
theorem dL_law_404 : decode cL_law 404 = .ok (.ireturn, 1) := by decide +kernel
set_option maxRecDepth 20000 in
theorem dL_law_405 : decode cL_law 405 = .ok (.aload_n 1, 1) := by decide +kernel
set_option maxRecDepth 20000 in
theorem dL_law_406 : decode cL_law 406 = .ok (.aload_n 0, 1) := by decide +kernel
set_option maxRecDepth 20000 in
theorem dL_law_407 : decode cL_law 407 = .ok (.iload 5, 2) := by decide +kernel
set_option maxRecDepth 20000 in
theorem dL_law_409 : decode cL_law 409 = .ok (.iconst 1, 1) := by decide +kernel
set_option maxRecDepth 20000 in
theorem dL_law_410 : decode cL_law 410 = .ok (.iadd, 1) := by decide +kernel
set_option maxRecDepth 20000 in
theorem dL_law_411 : decode cL_law 411 = .ok (.iaload, 1) := by decide +kernel
set_option maxRecDepth 20000 in
theorem dL_law_412 : decode cL_law 412 = .ok (.aload_n 0, 1) := by decide +kernel
set_option maxRecDepth 20000 in
theorem dL_law_413 : decode cL_law 413 = .ok (.iload 5, 2) := by decide +kernel
set_option maxRecDepth 20000 in
theorem dL_law_415 : decode cL_law 415 = .ok (.iconst 2, 1) := by decide +kernel
set_option maxRecDepth 20000 in
theorem dL_law_416 : decode cL_law 416 = .ok (.iadd, 1) := by decide +kernel
set_option maxRecDepth 20000 in
theorem dL_law_417 : decode cL_law 417 = .ok (.iaload, 1) := by decide +kernel
set_option maxRecDepth 20000 in
theorem dL_law_418 : decode cL_law 418 = .ok (.aload_n 3, 1) := by decide +kernel
set_option maxRecDepth 20000 in
theorem dL_law_419 : decode cL_law 419 = .ok (.invokestatic 180, 3) := by decide +kernel
set_option maxRecDepth 20000 in
theorem dL_law_422 : decode cL_law 422 = .ok (.istore 6, 2) := by decide +kernel
set_option maxRecDepth 20000 in
theorem dL_law_424 : decode cL_law 424 = .ok (.aload_n 2, 1) := by decide +kernel
set_option maxRecDepth 20000 in
theorem dL_law_425 : decode cL_law 425 = .ok (.aload_n 0, 1) := by decide +kernel
set_option maxRecDepth 20000 in
theorem dL_law_426 : decode cL_law 426 = .ok (.iload 5, 2) := by decide +kernel
set_option maxRecDepth 20000 in
theorem dL_law_428 : decode cL_law 428 = .ok (.iconst 1, 1) := by decide +kernel
set_option maxRecDepth 20000 in
theorem dL_law_429 : decode cL_law 429 = .ok (.iadd, 1) := by decide +kernel
set_option maxRecDepth 20000 in
theorem dL_law_430 : decode cL_law 430 = .ok (.iaload, 1) := by decide +kernel
set_option maxRecDepth 20000 in
theorem dL_law_431 : decode cL_law 431 = .ok (.aload_n 0, 1) := by decide +kernel
set_option maxRecDepth 20000 in
theorem dL_law_432 : decode cL_law 432 = .ok (.iload 5, 2) := by decide +kernel
set_option maxRecDepth 20000 in
theorem dL_law_434 : decode cL_law 434 = .ok (.iconst 2, 1) := by decide +kernel
set_option maxRecDepth 20000 in
theorem dL_law_435 : decode cL_law 435 = .ok (.iadd, 1) := by decide +kernel
set_option maxRecDepth 20000 in
theorem dL_law_436 : decode cL_law 436 = .ok (.iaload, 1) := by decide +kernel
set_option maxRecDepth 20000 in
theorem dL_law_437 : decode cL_law 437 = .ok (.invokevirtual 183, 3) := by decide +kernel
set_option maxRecDepth 20000 in
theorem dL_law_440 : decode cL_law 440 = .ok (.istore 7, 2) := by decide +kernel
set_option maxRecDepth 20000 in
theorem dL_law_442 : decode cL_law 442 = .ok (.aload_n 2, 1) := by decide +kernel
set_option maxRecDepth 20000 in
theorem dL_law_443 : decode cL_law 443 = .ok (.invokevirtual 156, 3) := by decide +kernel
set_option maxRecDepth 20000 in
theorem dL_law_446 : decode cL_law 446 = .ok (.iload 6, 2) := by decide +kernel
set_option maxRecDepth 20000 in
theorem dL_law_448 : decode cL_law 448 = .ok (.if_icmp .eq 5, 3) := by decide +kernel
set_option maxRecDepth 20000 in
theorem dL_law_451 : decode cL_law 451 = .ok (.iconst 0, 1) := by decide +kernel
set_option maxRecDepth 20000 in
theorem dL_law_452 : decode cL_law 452 = .ok (.ireturn, 1) := by decide +kernel
set_option maxRecDepth 20000 in
theorem dL_law_453 : decode cL_law 453 = .ok (.iload 6, 2) := by decide +kernel
set_option maxRecDepth 20000 in
theorem dL_law_455 : decode cL_law 455 = .ok (.ifCond .ne 15, 3) := by decide +kernel
set_option maxRecDepth 20000 in
theorem dL_law_458 : decode cL_law 458 = .ok (.aload_n 3, 1) := by decide +kernel
set_option maxRecDepth 20000 in
theorem dL_law_459 : decode cL_law 459 = .ok (.iconst 0, 1) := by decide +kernel
set_option maxRecDepth 20000 in
theorem dL_law_460 : decode cL_law 460 = .ok (.laload, 1) := by decide +kernel
set_option maxRecDepth 20000 in
theorem dL_law_461 : decode cL_law 461 = .ok (.iload 7, 2) := by decide +kernel
set_option maxRecDepth 20000 in
theorem dL_law_463 : decode cL_law 463 = .ok (.i2l, 1) := by decide +kernel
set_option maxRecDepth 20000 in
theorem dL_law_464 : decode cL_law 464 = .ok (.lcmp, 1) := by decide +kernel
set_option maxRecDepth 20000 in
theorem dL_law_465 : decode cL_law 465 = .ok (.ifCond .eq 5, 3) := by decide +kernel
set_option maxRecDepth 20000 in
theorem dL_law_468 : decode cL_law 468 = .ok (.iconst 0, 1) := by decide +kernel
set_option maxRecDepth 20000 in
theorem dL_law_469 : decode cL_law 469 = .ok (.ireturn, 1) := by decide +kernel
set_option maxRecDepth 20000 in
theorem dL_law_470 : decode cL_law 470 = .ok (.goto 2859, 3) := by decide +kernel
set_option maxRecDepth 20000 in
theorem dL_law_473 : decode cL_law 473 = .ok (.aload_n 1, 1) := by decide +kernel
set_option maxRecDepth 20000 in
theorem dL_law_474 : decode cL_law 474 = .ok (.invokevirtual 184, 3) := by decide +kernel
set_option maxRecDepth 20000 in
theorem dL_law_477 : decode cL_law 477 = .ok (.aload_n 2, 1) := by decide +kernel
set_option maxRecDepth 20000 in
theorem dL_law_478 : decode cL_law 478 = .ok (.invokevirtual 187, 3) := by decide +kernel
set_option maxRecDepth 20000 in
theorem dL_law_481 : decode cL_law 481 = .ok (.if_icmp .eq 2848, 3) := by decide +kernel
set_option maxRecDepth 20000 in
theorem dL_law_484 : decode cL_law 484 = .ok (.iconst 0, 1) := by decide +kernel
set_option maxRecDepth 20000 in
theorem dL_law_485 : decode cL_law 485 = .ok (.ireturn, 1) := by decide +kernel
set_option maxRecDepth 20000 in
theorem dL_law_486 : decode cL_law 486 = .ok (.aload_n 1, 1) := by decide +kernel
set_option maxRecDepth 20000 in
theorem dL_law_487 : decode cL_law 487 = .ok (.aload_n 0, 1) := by decide +kernel
set_option maxRecDepth 20000 in
theorem dL_law_488 : decode cL_law 488 = .ok (.iload 5, 2) := by decide +kernel
set_option maxRecDepth 20000 in
theorem dL_law_490 : decode cL_law 490 = .ok (.iconst 1, 1) := by decide +kernel
set_option maxRecDepth 20000 in
theorem dL_law_491 : decode cL_law 491 = .ok (.iadd, 1) := by decide +kernel
set_option maxRecDepth 20000 in
theorem dL_law_492 : decode cL_law 492 = .ok (.iaload, 1) := by decide +kernel
set_option maxRecDepth 20000 in
theorem dL_law_493 : decode cL_law 493 = .ok (.aload_n 3, 1) := by decide +kernel
set_option maxRecDepth 20000 in
theorem dL_law_494 : decode cL_law 494 = .ok (.invokestatic 188, 3) := by decide +kernel
set_option maxRecDepth 20000 in
theorem dL_law_497 : decode cL_law 497 = .ok (.istore 6, 2) := by decide +kernel
set_option maxRecDepth 20000 in
theorem dL_law_499 : decode cL_law 499 = .ok (.aload_n 2, 1) := by decide +kernel
set_option maxRecDepth 20000 in
theorem dL_law_500 : decode cL_law 500 = .ok (.aload_n 0, 1) := by decide +kernel
set_option maxRecDepth 20000 in
theorem dL_law_501 : decode cL_law 501 = .ok (.iload 5, 2) := by decide +kernel
set_option maxRecDepth 20000 in
theorem dL_law_503 : decode cL_law 503 = .ok (.iconst 1, 1) := by decide +kernel
set_option maxRecDepth 20000 in
theorem dL_law_504 : decode cL_law 504 = .ok (.iadd, 1) := by decide +kernel
set_option maxRecDepth 20000 in
theorem dL_law_505 : decode cL_law 505 = .ok (.iaload, 1) := by decide +kernel
set_option maxRecDepth 20000 in
theorem dL_law_506 : decode cL_law 506 = .ok (.invokevirtual 190, 3) := by decide +kernel
set_option maxRecDepth 20000 in
theorem dL_law_509 : decode cL_law 509 = .ok (.istore 7, 2) := by decide +kernel
set_option maxRecDepth 20000 in
theorem dL_law_511 : decode cL_law 511 = .ok (.aload_n 2, 1) := by decide +kernel
set_option maxRecDepth 20000 in
theorem dL_law_512 : decode cL_law 512 = .ok (.invokevirtual 156, 3) := by decide +kernel
set_option maxRecDepth 20000 in
theorem dL_law_515 : decode cL_law 515 = .ok (.iload 6, 2) := by decide +kernel
set_option maxRecDepth 20000 in
theorem dL_law_517 : decode cL_law 517 = .ok (.if_icmp .eq 5, 3) := by decide +kernel
set_option maxRecDepth 20000 in
theorem dL_law_520 : decode cL_law 520 = .ok (.iconst 0, 1) := by decide +kernel
set_option maxRecDepth 20000 in
theorem dL_law_521 : decode cL_law 521 = .ok (.ireturn, 1) := by decide +kernel
set_option maxRecDepth 20000 in
theorem dL_law_522 : decode cL_law 522 = .ok (.iload 6, 2) := by decide +kernel
set_option maxRecDepth 20000 in
theorem dL_law_524 : decode cL_law 524 = .ok (.ifCond .ne 15, 3) := by decide +kernel
set_option maxRecDepth 20000 in
theorem dL_law_527 : decode cL_law 527 = .ok (.aload_n 3, 1) := by decide +kernel
set_option maxRecDepth 20000 in
theorem dL_law_528 : decode cL_law 528 = .ok (.iconst 0, 1) := by decide +kernel
set_option maxRecDepth 20000 in
theorem dL_law_529 : decode cL_law 529 = .ok (.laload, 1) := by decide +kernel
set_option maxRecDepth 20000 in
theorem dL_law_530 : decode cL_law 530 = .ok (.iload 7, 2) := by decide +kernel
set_option maxRecDepth 20000 in
theorem dL_law_532 : decode cL_law 532 = .ok (.i2l, 1) := by decide +kernel
set_option maxRecDepth 20000 in
theorem dL_law_533 : decode cL_law 533 = .ok (.lcmp, 1) := by decide +kernel
set_option maxRecDepth 20000 in
theorem dL_law_534 : decode cL_law 534 = .ok (.ifCond .eq 5, 3) := by decide +kernel
set_option maxRecDepth 20000 in
theorem dL_law_537 : decode cL_law 537 = .ok (.iconst 0, 1) := by decide +kernel
set_option maxRecDepth 20000 in
theorem dL_law_538 : decode cL_law 538 = .ok (.ireturn, 1) := by decide +kernel
set_option maxRecDepth 20000 in
theorem dL_law_539 : decode cL_law 539 = .ok (.goto 2790, 3) := by decide +kernel
set_option maxRecDepth 20000 in
theorem dL_law_542 : decode cL_law 542 = .ok (.aload_n 1, 1) := by decide +kernel
set_option maxRecDepth 20000 in
theorem dL_law_543 : decode cL_law 543 = .ok (.aload_n 0, 1) := by decide +kernel
set_option maxRecDepth 20000 in
theorem dL_law_544 : decode cL_law 544 = .ok (.iload 5, 2) := by decide +kernel
set_option maxRecDepth 20000 in
theorem dL_law_546 : decode cL_law 546 = .ok (.iconst 1, 1) := by decide +kernel
set_option maxRecDepth 20000 in
theorem dL_law_547 : decode cL_law 547 = .ok (.iadd, 1) := by decide +kernel
set_option maxRecDepth 20000 in
theorem dL_law_548 : decode cL_law 548 = .ok (.iaload, 1) := by decide +kernel
set_option maxRecDepth 20000 in
theorem dL_law_549 : decode cL_law 549 = .ok (.aload_n 3, 1) := by decide +kernel
set_option maxRecDepth 20000 in
theorem dL_law_550 : decode cL_law 550 = .ok (.invokestatic 191, 3) := by decide +kernel
set_option maxRecDepth 20000 in
theorem dL_law_553 : decode cL_law 553 = .ok (.istore 6, 2) := by decide +kernel
set_option maxRecDepth 20000 in
theorem dL_law_555 : decode cL_law 555 = .ok (.aload_n 2, 1) := by decide +kernel
set_option maxRecDepth 20000 in
theorem dL_law_556 : decode cL_law 556 = .ok (.aload_n 0, 1) := by decide +kernel
set_option maxRecDepth 20000 in
theorem dL_law_557 : decode cL_law 557 = .ok (.iload 5, 2) := by decide +kernel
set_option maxRecDepth 20000 in
theorem dL_law_559 : decode cL_law 559 = .ok (.iconst 1, 1) := by decide +kernel
set_option maxRecDepth 20000 in
theorem dL_law_560 : decode cL_law 560 = .ok (.iadd, 1) := by decide +kernel
set_option maxRecDepth 20000 in
theorem dL_law_561 : decode cL_law 561 = .ok (.iaload, 1) := by decide +kernel
set_option maxRecDepth 20000 in
theorem dL_law_562 : decode cL_law 562 = .ok (.invokevirtual 193, 3) := by decide +kernel
set_option maxRecDepth 20000 in
theorem dL_law_565 : decode cL_law 565 = .ok (.istore 7, 2) := by decide +kernel
set_option maxRecDepth 20000 in
theorem dL_law_567 : decode cL_law 567 = .ok (.aload_n 2, 1) := by decide +kernel
set_option maxRecDepth 20000 in
theorem dL_law_568 : decode cL_law 568 = .ok (.invokevirtual 156, 3) := by decide +kernel
set_option maxRecDepth 20000 in
theorem dL_law_571 : decode cL_law 571 = .ok (.iload 6, 2) := by decide +kernel
set_option maxRecDepth 20000 in
theorem dL_law_573 : decode cL_law 573 = .ok (.if_icmp .eq 5, 3) := by decide +kernel
set_option maxRecDepth 20000 in
theorem dL_law_576 : decode cL_law 576 = .ok (.iconst 0, 1) := by decide +kernel
set_option maxRecDepth 20000 in
theorem dL_law_577 : decode cL_law 577 = .ok (.ireturn, 1) := by decide +kernel
set_option maxRecDepth 20000 in
theorem dL_law_578 : decode cL_law 578 = .ok (.iload 6, 2) := by decide +kernel
set_option maxRecDepth 20000 in
theorem dL_law_580 : decode cL_law 580 = .ok (.ifCond .ne 15, 3) := by decide +kernel
set_option maxRecDepth 20000 in
theorem dL_law_583 : decode cL_law 583 = .ok (.aload_n 3, 1) := by decide +kernel
set_option maxRecDepth 20000 in
theorem dL_law_584 : decode cL_law 584 = .ok (.iconst 0, 1) := by decide +kernel
set_option maxRecDepth 20000 in
theorem dL_law_585 : decode cL_law 585 = .ok (.laload, 1) := by decide +kernel
set_option maxRecDepth 20000 in
theorem dL_law_586 : decode cL_law 586 = .ok (.iload 7, 2) := by decide +kernel
set_option maxRecDepth 20000 in
theorem dL_law_588 : decode cL_law 588 = .ok (.i2l, 1) := by decide +kernel
set_option maxRecDepth 20000 in
theorem dL_law_589 : decode cL_law 589 = .ok (.lcmp, 1) := by decide +kernel
set_option maxRecDepth 20000 in
theorem dL_law_590 : decode cL_law 590 = .ok (.ifCond .eq 5, 3) := by decide +kernel
set_option maxRecDepth 20000 in
theorem dL_law_593 : decode cL_law 593 = .ok (.iconst 0, 1) := by decide +kernel
set_option maxRecDepth 20000 in
theorem dL_law_594 : decode cL_law 594 = .ok (.ireturn, 1) := by decide +kernel
set_option maxRecDepth 20000 in
theorem dL_law_595 : decode cL_law 595 = .ok (.goto 2734, 3) := by decide +kernel
set_option maxRecDepth 20000 in
theorem dL_law_598 : decode cL_law 598 = .ok (.aload_n 1, 1) := by decide +kernel
set_option maxRecDepth 20000 in
theorem dL_law_599 : decode cL_law 599 = .ok (.aload_n 0, 1) := by decide +kernel
set_option maxRecDepth 20000 in
theorem dL_law_600 : decode cL_law 600 = .ok (.iload 5, 2) := by decide +kernel
set_option maxRecDepth 20000 in
theorem dL_law_602 : decode cL_law 602 = .ok (.iconst 1, 1) := by decide +kernel
set_option maxRecDepth 20000 in
theorem dL_law_603 : decode cL_law 603 = .ok (.iadd, 1) := by decide +kernel
set_option maxRecDepth 20000 in
theorem dL_law_604 : decode cL_law 604 = .ok (.iaload, 1) := by decide +kernel
set_option maxRecDepth 20000 in
theorem dL_law_605 : decode cL_law 605 = .ok (.aload_n 0, 1) := by decide +kernel
set_option maxRecDepth 20000 in
theorem dL_law_606 : decode cL_law 606 = .ok (.iload 5, 2) := by decide +kernel
set_option maxRecDepth 20000 in
theorem dL_law_608 : decode cL_law 608 = .ok (.iconst 2, 1) := by decide +kernel
set_option maxRecDepth 20000 in
theorem dL_law_609 : decode cL_law 609 = .ok (.iadd, 1) := by decide +kernel
set_option maxRecDepth 20000 in
theorem dL_law_610 : decode cL_law 610 = .ok (.iaload, 1) := by decide +kernel
set_option maxRecDepth 20000 in
theorem dL_law_611 : decode cL_law 611 = .ok (.aload_n 0, 1) := by decide +kernel
set_option maxRecDepth 20000 in
theorem dL_law_612 : decode cL_law 612 = .ok (.iload 5, 2) := by decide +kernel
set_option maxRecDepth 20000 in
theorem dL_law_614 : decode cL_law 614 = .ok (.iconst 3, 1) := by decide +kernel
set_option maxRecDepth 20000 in
theorem dL_law_615 : decode cL_law 615 = .ok (.iadd, 1) := by decide +kernel
set_option maxRecDepth 20000 in
theorem dL_law_616 : decode cL_law 616 = .ok (.iaload, 1) := by decide +kernel
set_option maxRecDepth 20000 in
theorem dL_law_617 : decode cL_law 617 = .ok (.aload_n 0, 1) := by decide +kernel
set_option maxRecDepth 20000 in
theorem dL_law_618 : decode cL_law 618 = .ok (.iload 5, 2) := by decide +kernel
set_option maxRecDepth 20000 in
theorem dL_law_620 : decode cL_law 620 = .ok (.iconst 4, 1) := by decide +kernel
set_option maxRecDepth 20000 in
theorem dL_law_621 : decode cL_law 621 = .ok (.iadd, 1) := by decide +kernel
set_option maxRecDepth 20000 in
theorem dL_law_622 : decode cL_law 622 = .ok (.iaload, 1) := by decide +kernel
set_option maxRecDepth 20000 in
theorem dL_law_623 : decode cL_law 623 = .ok (.aload_n 3, 1) := by decide +kernel
set_option maxRecDepth 20000 in
theorem dL_law_624 : decode cL_law 624 = .ok (.invokestatic 194, 3) := by decide +kernel
set_option maxRecDepth 20000 in
theorem dL_law_627 : decode cL_law 627 = .ok (.istore 6, 2) := by decide +kernel
set_option maxRecDepth 20000 in
theorem dL_law_629 : decode cL_law 629 = .ok (.aload_n 2, 1) := by decide +kernel
set_option maxRecDepth 20000 in
theorem dL_law_630 : decode cL_law 630 = .ok (.aload_n 0, 1) := by decide +kernel
set_option maxRecDepth 20000 in
theorem dL_law_631 : decode cL_law 631 = .ok (.iload 5, 2) := by decide +kernel
set_option maxRecDepth 20000 in
theorem dL_law_633 : decode cL_law 633 = .ok (.iconst 1, 1) := by decide +kernel
set_option maxRecDepth 20000 in
theorem dL_law_634 : decode cL_law 634 = .ok (.iadd, 1) := by decide +kernel
set_option maxRecDepth 20000 in
theorem dL_law_635 : decode cL_law 635 = .ok (.iaload, 1) := by decide +kernel
