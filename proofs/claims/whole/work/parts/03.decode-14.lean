theorem xd_L_law_336 : decode code 336 = .ok (.aload_n 0, 1) := by decide +kernel
theorem xd_L_law_337 : decode code 337 = .ok (.iload_n 3, 1) := by decide +kernel
theorem xd_L_law_338 : decode code 338 = .ok (.iconst 1, 1) := by decide +kernel
theorem xd_L_law_339 : decode code 339 = .ok (.iadd, 1) := by decide +kernel
theorem xd_L_law_340 : decode code 340 = .ok (.iaload, 1) := by decide +kernel
theorem xd_L_law_341 : decode code 341 = .ok (.invokevirtual 44, 3) := by decide +kernel
theorem xd_L_law_344 : decode code 344 = .ok (.aload_n 2, 1) := by decide +kernel
theorem xd_L_law_345 : decode code 345 = .ok (.aload_n 0, 1) := by decide +kernel
theorem xd_L_law_346 : decode code 346 = .ok (.iload_n 3, 1) := by decide +kernel
theorem xd_L_law_347 : decode code 347 = .ok (.iconst 1, 1) := by decide +kernel
theorem xd_L_law_348 : decode code 348 = .ok (.iadd, 1) := by decide +kernel
theorem xd_L_law_349 : decode code 349 = .ok (.iaload, 1) := by decide +kernel
theorem xd_L_law_350 : decode code 350 = .ok (.invokevirtual 47, 3) := by decide +kernel
theorem xd_L_law_353 : decode code 353 = .ok (.if_icmp .eq 159, 3) := by decide +kernel
theorem xd_L_law_356 : decode code 356 = .ok (.iconst 0, 1) := by decide +kernel
theorem xd_L_law_357 : decode code 357 = .ok (.ireturn, 1) := by decide +kernel
theorem xd_L_law_358 : decode code 358 = .ok (.aload_n 1, 1) := by decide +kernel
theorem xd_L_law_359 : decode code 359 = .ok (.aload_n 0, 1) := by decide +kernel
theorem xd_L_law_360 : decode code 360 = .ok (.iload_n 3, 1) := by decide +kernel
theorem xd_L_law_361 : decode code 361 = .ok (.iconst 1, 1) := by decide +kernel
theorem xd_L_law_362 : decode code 362 = .ok (.iadd, 1) := by decide +kernel
theorem xd_L_law_363 : decode code 363 = .ok (.iaload, 1) := by decide +kernel
theorem xd_L_law_364 : decode code 364 = .ok (.aload_n 0, 1) := by decide +kernel
theorem xd_L_law_365 : decode code 365 = .ok (.iload_n 3, 1) := by decide +kernel
theorem xd_L_law_366 : decode code 366 = .ok (.iconst 2, 1) := by decide +kernel
theorem xd_L_law_367 : decode code 367 = .ok (.iadd, 1) := by decide +kernel
theorem xd_L_law_368 : decode code 368 = .ok (.iaload, 1) := by decide +kernel
theorem xd_L_law_369 : decode code 369 = .ok (.invokevirtual 48, 3) := by decide +kernel
theorem xd_L_law_372 : decode code 372 = .ok (.aload_n 2, 1) := by decide +kernel
theorem xd_L_law_373 : decode code 373 = .ok (.aload_n 0, 1) := by decide +kernel
theorem xd_L_law_374 : decode code 374 = .ok (.iload_n 3, 1) := by decide +kernel
theorem xd_L_law_375 : decode code 375 = .ok (.iconst 1, 1) := by decide +kernel
theorem xd_L_law_376 : decode code 376 = .ok (.iadd, 1) := by decide +kernel
theorem xd_L_law_377 : decode code 377 = .ok (.iaload, 1) := by decide +kernel
theorem xd_L_law_378 : decode code 378 = .ok (.aload_n 0, 1) := by decide +kernel
theorem xd_L_law_379 : decode code 379 = .ok (.iload_n 3, 1) := by decide +kernel
theorem xd_L_law_380 : decode code 380 = .ok (.iconst 2, 1) := by decide +kernel
theorem xd_L_law_381 : decode code 381 = .ok (.iadd, 1) := by decide +kernel
theorem xd_L_law_382 : decode code 382 = .ok (.iaload, 1) := by decide +kernel
theorem xd_L_law_383 : decode code 383 = .ok (.invokevirtual 51, 3) := by decide +kernel
theorem xd_L_law_386 : decode code 386 = .ok (.if_icmp .eq 126, 3) := by decide +kernel
theorem xd_L_law_389 : decode code 389 = .ok (.iconst 0, 1) := by decide +kernel
theorem xd_L_law_390 : decode code 390 = .ok (.ireturn, 1) := by decide +kernel
theorem xd_L_law_391 : decode code 391 = .ok (.aload_n 1, 1) := by decide +kernel
theorem xd_L_law_392 : decode code 392 = .ok (.aload_n 0, 1) := by decide +kernel
theorem xd_L_law_393 : decode code 393 = .ok (.iload_n 3, 1) := by decide +kernel
theorem xd_L_law_394 : decode code 394 = .ok (.iconst 1, 1) := by decide +kernel
theorem xd_L_law_395 : decode code 395 = .ok (.iadd, 1) := by decide +kernel
theorem xd_L_law_396 : decode code 396 = .ok (.iaload, 1) := by decide +kernel
theorem xd_L_law_397 : decode code 397 = .ok (.ifCond .eq 7, 3) := by decide +kernel
theorem xd_L_law_400 : decode code 400 = .ok (.iconst 1, 1) := by decide +kernel
theorem xd_L_law_401 : decode code 401 = .ok (.goto 4, 3) := by decide +kernel
theorem xd_L_law_404 : decode code 404 = .ok (.iconst 0, 1) := by decide +kernel
theorem xd_L_law_405 : decode code 405 = .ok (.invokevirtual 52, 3) := by decide +kernel
theorem xd_L_law_408 : decode code 408 = .ok (.aload_n 2, 1) := by decide +kernel
theorem xd_L_law_409 : decode code 409 = .ok (.aload_n 0, 1) := by decide +kernel
theorem xd_L_law_410 : decode code 410 = .ok (.iload_n 3, 1) := by decide +kernel
theorem xd_L_law_411 : decode code 411 = .ok (.iconst 1, 1) := by decide +kernel
theorem xd_L_law_412 : decode code 412 = .ok (.iadd, 1) := by decide +kernel
theorem xd_L_law_413 : decode code 413 = .ok (.iaload, 1) := by decide +kernel
theorem xd_L_law_414 : decode code 414 = .ok (.ifCond .eq 7, 3) := by decide +kernel
theorem xd_L_law_417 : decode code 417 = .ok (.iconst 1, 1) := by decide +kernel
theorem xd_L_law_418 : decode code 418 = .ok (.goto 4, 3) := by decide +kernel
theorem xd_L_law_421 : decode code 421 = .ok (.iconst 0, 1) := by decide +kernel
theorem xd_L_law_422 : decode code 422 = .ok (.invokevirtual 56, 3) := by decide +kernel
theorem xd_L_law_425 : decode code 425 = .ok (.if_icmp .eq 87, 3) := by decide +kernel
theorem xd_L_law_428 : decode code 428 = .ok (.iconst 0, 1) := by decide +kernel
theorem xd_L_law_429 : decode code 429 = .ok (.ireturn, 1) := by decide +kernel
theorem xd_L_law_430 : decode code 430 = .ok (.aload_n 1, 1) := by decide +kernel
theorem xd_L_law_431 : decode code 431 = .ok (.aload_n 0, 1) := by decide +kernel
theorem xd_L_law_432 : decode code 432 = .ok (.iload_n 3, 1) := by decide +kernel
theorem xd_L_law_433 : decode code 433 = .ok (.iconst 1, 1) := by decide +kernel
theorem xd_L_law_434 : decode code 434 = .ok (.iadd, 1) := by decide +kernel
theorem xd_L_law_435 : decode code 435 = .ok (.iaload, 1) := by decide +kernel
theorem xd_L_law_436 : decode code 436 = .ok (.invokevirtual 57, 3) := by decide +kernel
theorem xd_L_law_439 : decode code 439 = .ok (.aload_n 2, 1) := by decide +kernel
theorem xd_L_law_440 : decode code 440 = .ok (.aload_n 0, 1) := by decide +kernel
theorem xd_L_law_441 : decode code 441 = .ok (.iload_n 3, 1) := by decide +kernel
theorem xd_L_law_442 : decode code 442 = .ok (.iconst 1, 1) := by decide +kernel
theorem xd_L_law_443 : decode code 443 = .ok (.iadd, 1) := by decide +kernel
theorem xd_L_law_444 : decode code 444 = .ok (.iaload, 1) := by decide +kernel
theorem xd_L_law_445 : decode code 445 = .ok (.invokevirtual 60, 3) := by decide +kernel
theorem xd_L_law_448 : decode code 448 = .ok (.if_icmp .eq 64, 3) := by decide +kernel
theorem xd_L_law_451 : decode code 451 = .ok (.iconst 0, 1) := by decide +kernel
theorem xd_L_law_452 : decode code 452 = .ok (.ireturn, 1) := by decide +kernel
theorem xd_L_law_453 : decode code 453 = .ok (.aload_n 1, 1) := by decide +kernel
theorem xd_L_law_454 : decode code 454 = .ok (.aload_n 0, 1) := by decide +kernel
theorem xd_L_law_455 : decode code 455 = .ok (.iload_n 3, 1) := by decide +kernel
theorem xd_L_law_456 : decode code 456 = .ok (.iconst 1, 1) := by decide +kernel
theorem xd_L_law_457 : decode code 457 = .ok (.iadd, 1) := by decide +kernel
theorem xd_L_law_458 : decode code 458 = .ok (.iaload, 1) := by decide +kernel
theorem xd_L_law_459 : decode code 459 = .ok (.invokevirtual 61, 3) := by decide +kernel
theorem xd_L_law_462 : decode code 462 = .ok (.aload_n 2, 1) := by decide +kernel
theorem xd_L_law_463 : decode code 463 = .ok (.aload_n 0, 1) := by decide +kernel
theorem xd_L_law_464 : decode code 464 = .ok (.iload_n 3, 1) := by decide +kernel
theorem xd_L_law_465 : decode code 465 = .ok (.iconst 1, 1) := by decide +kernel
theorem xd_L_law_466 : decode code 466 = .ok (.iadd, 1) := by decide +kernel
theorem xd_L_law_467 : decode code 467 = .ok (.iaload, 1) := by decide +kernel
theorem xd_L_law_468 : decode code 468 = .ok (.invokevirtual 64, 3) := by decide +kernel
theorem xd_L_law_471 : decode code 471 = .ok (.if_icmp .eq 41, 3) := by decide +kernel
theorem xd_L_law_474 : decode code 474 = .ok (.iconst 0, 1) := by decide +kernel
theorem xd_L_law_475 : decode code 475 = .ok (.ireturn, 1) := by decide +kernel
theorem xd_L_law_476 : decode code 476 = .ok (.aload_n 1, 1) := by decide +kernel
theorem xd_L_law_477 : decode code 477 = .ok (.aload_n 0, 1) := by decide +kernel
theorem xd_L_law_478 : decode code 478 = .ok (.iload_n 3, 1) := by decide +kernel
theorem xd_L_law_479 : decode code 479 = .ok (.iconst 1, 1) := by decide +kernel
theorem xd_L_law_480 : decode code 480 = .ok (.iadd, 1) := by decide +kernel
theorem xd_L_law_481 : decode code 481 = .ok (.iaload, 1) := by decide +kernel
theorem xd_L_law_482 : decode code 482 = .ok (.invokevirtual 65, 3) := by decide +kernel
theorem xd_L_law_485 : decode code 485 = .ok (.aload_n 2, 1) := by decide +kernel
theorem xd_L_law_486 : decode code 486 = .ok (.aload_n 0, 1) := by decide +kernel
theorem xd_L_law_487 : decode code 487 = .ok (.iload_n 3, 1) := by decide +kernel
theorem xd_L_law_488 : decode code 488 = .ok (.iconst 1, 1) := by decide +kernel
theorem xd_L_law_489 : decode code 489 = .ok (.iadd, 1) := by decide +kernel
theorem xd_L_law_490 : decode code 490 = .ok (.iaload, 1) := by decide +kernel
theorem xd_L_law_491 : decode code 491 = .ok (.invokevirtual 68, 3) := by decide +kernel
theorem xd_L_law_494 : decode code 494 = .ok (.if_icmp .eq 18, 3) := by decide +kernel
theorem xd_L_law_497 : decode code 497 = .ok (.iconst 0, 1) := by decide +kernel
theorem xd_L_law_498 : decode code 498 = .ok (.ireturn, 1) := by decide +kernel
theorem xd_L_law_499 : decode code 499 = .ok (.aload_n 1, 1) := by decide +kernel
theorem xd_L_law_500 : decode code 500 = .ok (.invokevirtual 69, 3) := by decide +kernel
theorem xd_L_law_503 : decode code 503 = .ok (.aload_n 2, 1) := by decide +kernel
theorem xd_L_law_504 : decode code 504 = .ok (.invokevirtual 73, 3) := by decide +kernel
theorem xd_L_law_507 : decode code 507 = .ok (.if_icmp .eq 5, 3) := by decide +kernel
theorem xd_L_law_510 : decode code 510 = .ok (.iconst 0, 1) := by decide +kernel
theorem xd_L_law_511 : decode code 511 = .ok (.ireturn, 1) := by decide +kernel
theorem xd_L_law_512 : decode code 512 = .ok (.iinc 3 7, 3) := by decide +kernel
theorem xd_L_law_515 : decode code 515 = .ok (.goto (-497), 3) := by decide +kernel
theorem xd_L_law_518 : decode code 518 = .ok (.iconst 1, 1) := by decide +kernel
theorem xd_L_law_519 : decode code 519 = .ok (.ireturn, 1) := by decide +kernel
