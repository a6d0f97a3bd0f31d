theorem dL_law_272 : decode cL_law 272 = .ok (.iconst 0, 1) := by decide +kernel
theorem dL_law_273 : decode cL_law 273 = .ok (.invokestatic 192, 3) := by decide +kernel
theorem dL_law_276 : decode cL_law 276 = .ok (.ifCond .eq 61, 3) := by decide +kernel
theorem dL_law_279 : decode cL_law 279 = .ok (.aload_n 1, 1) := by decide +kernel
theorem dL_law_280 : decode cL_law 280 = .ok (.ldc 208, 2) := by decide +kernel
theorem dL_law_282 : decode cL_law 282 = .ok (.bipush 9, 2) := by decide +kernel
theorem dL_law_284 : decode cL_law 284 = .ok (.invokestatic 192, 3) := by decide +kernel
theorem dL_law_287 : decode cL_law 287 = .ok (.ifCond .eq 50, 3) := by decide +kernel
theorem dL_law_290 : decode cL_law 290 = .ok (.aload_n 1, 1) := by decide +kernel
theorem dL_law_291 : decode cL_law 291 = .ok (.ldc 210, 2) := by decide +kernel
theorem dL_law_293 : decode cL_law 293 = .ok (.iconst 1, 1) := by decide +kernel
theorem dL_law_294 : decode cL_law 294 = .ok (.invokestatic 192, 3) := by decide +kernel
theorem dL_law_297 : decode cL_law 297 = .ok (.ifCond .eq 40, 3) := by decide +kernel
theorem dL_law_300 : decode cL_law 300 = .ok (.aload_n 1, 1) := by decide +kernel
theorem dL_law_301 : decode cL_law 301 = .ok (.ldc 212, 2) := by decide +kernel
theorem dL_law_303 : decode cL_law 303 = .ok (.bipush 7, 2) := by decide +kernel
theorem dL_law_305 : decode cL_law 305 = .ok (.invokestatic 192, 3) := by decide +kernel
theorem dL_law_308 : decode cL_law 308 = .ok (.ifCond .eq 29, 3) := by decide +kernel
theorem dL_law_311 : decode cL_law 311 = .ok (.aload_n 1, 1) := by decide +kernel
theorem dL_law_312 : decode cL_law 312 = .ok (.ldc 214, 2) := by decide +kernel
theorem dL_law_314 : decode cL_law 314 = .ok (.iconst 0, 1) := by decide +kernel
theorem dL_law_315 : decode cL_law 315 = .ok (.invokestatic 192, 3) := by decide +kernel
theorem dL_law_318 : decode cL_law 318 = .ok (.ifCond .eq 19, 3) := by decide +kernel
theorem dL_law_321 : decode cL_law 321 = .ok (.aload_n 1, 1) := by decide +kernel
theorem dL_law_322 : decode cL_law 322 = .ok (.invokevirtual 185, 3) := by decide +kernel
theorem dL_law_325 : decode cL_law 325 = .ok (.ifCond .ne 12, 3) := by decide +kernel
theorem dL_law_328 : decode cL_law 328 = .ok (.aload_n 1, 1) := by decide +kernel
theorem dL_law_329 : decode cL_law 329 = .ok (.invokestatic 164, 3) := by decide +kernel
theorem dL_law_332 : decode cL_law 332 = .ok (.iload 4, 2) := by decide +kernel
theorem dL_law_334 : decode cL_law 334 = .ok (.if_icmp .eq 5, 3) := by decide +kernel
theorem dL_law_337 : decode cL_law 337 = .ok (.iconst 0, 1) := by decide +kernel
theorem dL_law_338 : decode cL_law 338 = .ok (.ireturn, 1) := by decide +kernel
theorem dL_law_339 : decode cL_law 339 = .ok (.aload_n 0, 1) := by decide +kernel
theorem dL_law_340 : decode cL_law 340 = .ok (.bipush 13, 2) := by decide +kernel
theorem dL_law_342 : decode cL_law 342 = .ok (.invokestatic 24, 3) := by decide +kernel
theorem dL_law_345 : decode cL_law 345 = .ok (.istore 5, 2) := by decide +kernel
theorem dL_law_347 : decode cL_law 347 = .ok (.iload 5, 2) := by decide +kernel
theorem dL_law_349 : decode cL_law 349 = .ok (.bipush 7, 2) := by decide +kernel
theorem dL_law_351 : decode cL_law 351 = .ok (.iand, 1) := by decide +kernel
theorem dL_law_352 : decode cL_law 352 = .ok (.istore 6, 2) := by decide +kernel
theorem dL_law_354 : decode cL_law 354 = .ok (.bipush 20, 2) := by decide +kernel
theorem dL_law_356 : decode cL_law 356 = .ok (.iload 5, 2) := by decide +kernel
theorem dL_law_358 : decode cL_law 358 = .ok (.iconst 3, 1) := by decide +kernel
theorem dL_law_359 : decode cL_law 359 = .ok (.ishr, 1) := by decide +kernel
theorem dL_law_360 : decode cL_law 360 = .ok (.bipush 31, 2) := by decide +kernel
theorem dL_law_362 : decode cL_law 362 = .ok (.iand, 1) := by decide +kernel
theorem dL_law_363 : decode cL_law 363 = .ok (.iadd, 1) := by decide +kernel
theorem dL_law_364 : decode cL_law 364 = .ok (.istore 7, 2) := by decide +kernel
theorem dL_law_366 : decode cL_law 366 = .ok (.new 18, 3) := by decide +kernel
theorem dL_law_369 : decode cL_law 369 = .ok (.dup, 1) := by decide +kernel
theorem dL_law_370 : decode cL_law 370 = .ok (.invokespecial 23, 3) := by decide +kernel
theorem dL_law_373 : decode cL_law 373 = .ok (.astore 8, 2) := by decide +kernel
theorem dL_law_375 : decode cL_law 375 = .ok (.aload 8, 2) := by decide +kernel
theorem dL_law_377 : decode cL_law 377 = .ok (.invokevirtual 216, 3) := by decide +kernel
theorem dL_law_380 : decode cL_law 380 = .ok (.ifCond .eq 107, 3) := by decide +kernel
theorem dL_law_383 : decode cL_law 383 = .ok (.aload 8, 2) := by decide +kernel
theorem dL_law_385 : decode cL_law 385 = .ok (.invokevirtual 77, 3) := by decide +kernel
theorem dL_law_388 : decode cL_law 388 = .ok (.ifCond .ne 99, 3) := by decide +kernel
theorem dL_law_391 : decode cL_law 391 = .ok (.aload 8, 2) := by decide +kernel
theorem dL_law_393 : decode cL_law 393 = .ok (.bipush 7, 2) := by decide +kernel
theorem dL_law_395 : decode cL_law 395 = .ok (.invokevirtual 122, 3) := by decide +kernel
theorem dL_law_398 : decode cL_law 398 = .ok (.iconst 3, 1) := by decide +kernel
theorem dL_law_399 : decode cL_law 399 = .ok (.if_icmp .ne 88, 3) := by decide +kernel
theorem dL_law_402 : decode cL_law 402 = .ok (.aload 8, 2) := by decide +kernel
theorem dL_law_404 : decode cL_law 404 = .ok (.iconst 2, 1) := by decide +kernel
theorem dL_law_405 : decode cL_law 405 = .ok (.invokevirtual 116, 3) := by decide +kernel
theorem dL_law_408 : decode cL_law 408 = .ok (.iconst 1, 1) := by decide +kernel
theorem dL_law_409 : decode cL_law 409 = .ok (.if_icmp .ne 78, 3) := by decide +kernel
theorem dL_law_412 : decode cL_law 412 = .ok (.aload 8, 2) := by decide +kernel
theorem dL_law_414 : decode cL_law 414 = .ok (.bipush 60, 2) := by decide +kernel
theorem dL_law_416 : decode cL_law 416 = .ok (.invokevirtual 219, 3) := by decide +kernel
theorem dL_law_419 : decode cL_law 419 = .ok (.ifCond .ne 68, 3) := by decide +kernel
theorem dL_law_422 : decode cL_law 422 = .ok (.aload 8, 2) := by decide +kernel
theorem dL_law_424 : decode cL_law 424 = .ok (.iconst 2, 1) := by decide +kernel
theorem dL_law_425 : decode cL_law 425 = .ok (.invokevirtual 222, 3) := by decide +kernel
theorem dL_law_428 : decode cL_law 428 = .ok (.iconst 2, 1) := by decide +kernel
theorem dL_law_429 : decode cL_law 429 = .ok (.if_icmp .ne 58, 3) := by decide +kernel
theorem dL_law_432 : decode cL_law 432 = .ok (.aload 8, 2) := by decide +kernel
theorem dL_law_434 : decode cL_law 434 = .ok (.bipush 7, 2) := by decide +kernel
theorem dL_law_436 : decode cL_law 436 = .ok (.invokevirtual 225, 3) := by decide +kernel
theorem dL_law_439 : decode cL_law 439 = .ok (.bipush 7, 2) := by decide +kernel
theorem dL_law_441 : decode cL_law 441 = .ok (.if_icmp .ne 46, 3) := by decide +kernel
theorem dL_law_444 : decode cL_law 444 = .ok (.aload 8, 2) := by decide +kernel
theorem dL_law_446 : decode cL_law 446 = .ok (.iconst 1, 1) := by decide +kernel
theorem dL_law_447 : decode cL_law 447 = .ok (.iconst 0, 1) := by decide +kernel
theorem dL_law_448 : decode cL_law 448 = .ok (.iconst 0, 1) := by decide +kernel
theorem dL_law_449 : decode cL_law 449 = .ok (.iconst 0, 1) := by decide +kernel
theorem dL_law_450 : decode cL_law 450 = .ok (.invokestatic 30, 3) := by decide +kernel
theorem dL_law_453 : decode cL_law 453 = .ok (.bipush (-4), 2) := by decide +kernel
theorem dL_law_455 : decode cL_law 455 = .ok (.if_icmp .ne 32, 3) := by decide +kernel
theorem dL_law_458 : decode cL_law 458 = .ok (.aload 8, 2) := by decide +kernel
theorem dL_law_460 : decode cL_law 460 = .ok (.iconst 5, 1) := by decide +kernel
theorem dL_law_461 : decode cL_law 461 = .ok (.iconst 0, 1) := by decide +kernel
theorem dL_law_462 : decode cL_law 462 = .ok (.iconst 0, 1) := by decide +kernel
theorem dL_law_463 : decode cL_law 463 = .ok (.iconst 0, 1) := by decide +kernel
theorem dL_law_464 : decode cL_law 464 = .ok (.invokestatic 30, 3) := by decide +kernel
theorem dL_law_467 : decode cL_law 467 = .ok (.bipush (-4), 2) := by decide +kernel
theorem dL_law_469 : decode cL_law 469 = .ok (.if_icmp .ne 18, 3) := by decide +kernel
theorem dL_law_472 : decode cL_law 472 = .ok (.aload 8, 2) := by decide +kernel
theorem dL_law_474 : decode cL_law 474 = .ok (.bipush 6, 2) := by decide +kernel
theorem dL_law_476 : decode cL_law 476 = .ok (.iconst 0, 1) := by decide +kernel
theorem dL_law_477 : decode cL_law 477 = .ok (.iconst 1, 1) := by decide +kernel
theorem dL_law_478 : decode cL_law 478 = .ok (.iconst 0, 1) := by decide +kernel
theorem dL_law_479 : decode cL_law 479 = .ok (.invokestatic 30, 3) := by decide +kernel
theorem dL_law_482 : decode cL_law 482 = .ok (.bipush (-3), 2) := by decide +kernel
theorem dL_law_484 : decode cL_law 484 = .ok (.if_icmp .eq 5, 3) := by decide +kernel
theorem dL_law_487 : decode cL_law 487 = .ok (.iconst 0, 1) := by decide +kernel
theorem dL_law_488 : decode cL_law 488 = .ok (.ireturn, 1) := by decide +kernel
theorem dL_law_489 : decode cL_law 489 = .ok (.aload 8, 2) := by decide +kernel
theorem dL_law_491 : decode cL_law 491 = .ok (.new 228, 3) := by decide +kernel
theorem dL_law_494 : decode cL_law 494 = .ok (.dup, 1) := by decide +kernel
theorem dL_law_495 : decode cL_law 495 = .ok (.invokespecial 230, 3) := by decide +kernel
theorem dL_law_498 : decode cL_law 498 = .ok (.ldc 231, 2) := by decide +kernel
theorem dL_law_500 : decode cL_law 500 = .ok (.invokevirtual 233, 3) := by decide +kernel
theorem dL_law_503 : decode cL_law 503 = .ok (.iload 7, 2) := by decide +kernel
theorem dL_law_505 : decode cL_law 505 = .ok (.invokevirtual 237, 3) := by decide +kernel
theorem dL_law_508 : decode cL_law 508 = .ok (.ldc 240, 2) := by decide +kernel
theorem dL_law_510 : decode cL_law 510 = .ok (.invokevirtual 233, 3) := by decide +kernel
theorem dL_law_513 : decode cL_law 513 = .ok (.invokevirtual 242, 3) := by decide +kernel
theorem dL_law_516 : decode cL_law 516 = .ok (.invokestatic 170, 3) := by decide +kernel
theorem dL_law_519 : decode cL_law 519 = .ok (.aload 8, 2) := by decide +kernel
theorem dL_law_521 : decode cL_law 521 = .ok (.invokevirtual 174, 3) := by decide +kernel
theorem dL_law_524 : decode cL_law 524 = .ok (.iconst 5, 1) := by decide +kernel
theorem dL_law_525 : decode cL_law 525 = .ok (.if_icmp .ne 186, 3) := by decide +kernel
theorem dL_law_528 : decode cL_law 528 = .ok (.aload 8, 2) := by decide +kernel
theorem dL_law_530 : decode cL_law 530 = .ok (.iconst 2, 1) := by decide +kernel
theorem dL_law_531 : decode cL_law 531 = .ok (.iload 6, 2) := by decide +kernel
theorem dL_law_533 : decode cL_law 533 = .ok (.invokevirtual 46, 3) := by decide +kernel
theorem dL_law_536 : decode cL_law 536 = .ok (.iconst 3, 1) := by decide +kernel
theorem dL_law_537 : decode cL_law 537 = .ok (.if_icmp .ne 174, 3) := by decide +kernel
theorem dL_law_540 : decode cL_law 540 = .ok (.aload 8, 2) := by decide +kernel
theorem dL_law_542 : decode cL_law 542 = .ok (.iconst 0, 1) := by decide +kernel
theorem dL_law_543 : decode cL_law 543 = .ok (.invokevirtual 80, 3) := by decide +kernel
theorem dL_law_546 : decode cL_law 546 = .ok (.iconst 1, 1) := by decide +kernel
