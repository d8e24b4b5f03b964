theorem d_la_law_319 : decode code 319 = .ok (.invokevirtual 101, 3) := by decide +kernel
theorem d_la_law_322 : decode code 322 = .ok (.aload_n 2, 1) := by decide +kernel
theorem d_la_law_323 : decode code 323 = .ok (.invokevirtual 87, 3) := by decide +kernel
theorem d_la_law_326 : decode code 326 = .ok (.iload 5, 2) := by decide +kernel
theorem d_la_law_328 : decode code 328 = .ok (.if_icmp .eq 5, 3) := by decide +kernel
theorem d_la_law_331 : decode code 331 = .ok (.iconst 0, 1) := by decide +kernel
theorem d_la_law_332 : decode code 332 = .ok (.ireturn, 1) := by decide +kernel
theorem d_la_law_333 : decode code 333 = .ok (.goto 838, 3) := by decide +kernel
theorem d_la_law_336 : decode code 336 = .ok (.aload_n 1, 1) := by decide +kernel
theorem d_la_law_337 : decode code 337 = .ok (.aload_n 0, 1) := by decide +kernel
theorem d_la_law_338 : decode code 338 = .ok (.iload 4, 2) := by decide +kernel
theorem d_la_law_340 : decode code 340 = .ok (.iconst 1, 1) := by decide +kernel
theorem d_la_law_341 : decode code 341 = .ok (.iadd, 1) := by decide +kernel
theorem d_la_law_342 : decode code 342 = .ok (.iaload, 1) := by decide +kernel
theorem d_la_law_343 : decode code 343 = .ok (.aload_n 0, 1) := by decide +kernel
theorem d_la_law_344 : decode code 344 = .ok (.iload 4, 2) := by decide +kernel
theorem d_la_law_346 : decode code 346 = .ok (.iconst 2, 1) := by decide +kernel
theorem d_la_law_347 : decode code 347 = .ok (.iadd, 1) := by decide +kernel
theorem d_la_law_348 : decode code 348 = .ok (.iaload, 1) := by decide +kernel
theorem d_la_law_349 : decode code 349 = .ok (.ifCond .eq 7, 3) := by decide +kernel
theorem d_la_law_352 : decode code 352 = .ok (.iconst 1, 1) := by decide +kernel
theorem d_la_law_353 : decode code 353 = .ok (.goto 4, 3) := by decide +kernel
theorem d_la_law_356 : decode code 356 = .ok (.iconst 0, 1) := by decide +kernel
theorem d_la_law_357 : decode code 357 = .ok (.aload_n 3, 1) := by decide +kernel
theorem d_la_law_358 : decode code 358 = .ok (.invokestatic 102, 3) := by decide +kernel
theorem d_la_law_361 : decode code 361 = .ok (.istore 5, 2) := by decide +kernel
theorem d_la_law_363 : decode code 363 = .ok (.aload_n 2, 1) := by decide +kernel
theorem d_la_law_364 : decode code 364 = .ok (.aload_n 0, 1) := by decide +kernel
theorem d_la_law_365 : decode code 365 = .ok (.iload 4, 2) := by decide +kernel
theorem d_la_law_367 : decode code 367 = .ok (.iconst 1, 1) := by decide +kernel
theorem d_la_law_368 : decode code 368 = .ok (.iadd, 1) := by decide +kernel
theorem d_la_law_369 : decode code 369 = .ok (.iaload, 1) := by decide +kernel
theorem d_la_law_370 : decode code 370 = .ok (.aload_n 0, 1) := by decide +kernel
theorem d_la_law_371 : decode code 371 = .ok (.iload 4, 2) := by decide +kernel
theorem d_la_law_373 : decode code 373 = .ok (.iconst 2, 1) := by decide +kernel
theorem d_la_law_374 : decode code 374 = .ok (.iadd, 1) := by decide +kernel
theorem d_la_law_375 : decode code 375 = .ok (.iaload, 1) := by decide +kernel
theorem d_la_law_376 : decode code 376 = .ok (.ifCond .eq 7, 3) := by decide +kernel
theorem d_la_law_379 : decode code 379 = .ok (.iconst 1, 1) := by decide +kernel
theorem d_la_law_380 : decode code 380 = .ok (.goto 4, 3) := by decide +kernel
theorem d_la_law_383 : decode code 383 = .ok (.iconst 0, 1) := by decide +kernel
theorem d_la_law_384 : decode code 384 = .ok (.invokevirtual 105, 3) := by decide +kernel
theorem d_la_law_387 : decode code 387 = .ok (.istore 6, 2) := by decide +kernel
theorem d_la_law_389 : decode code 389 = .ok (.aload_n 2, 1) := by decide +kernel
theorem d_la_law_390 : decode code 390 = .ok (.invokevirtual 87, 3) := by decide +kernel
theorem d_la_law_393 : decode code 393 = .ok (.iload 5, 2) := by decide +kernel
theorem d_la_law_395 : decode code 395 = .ok (.if_icmp .eq 5, 3) := by decide +kernel
theorem d_la_law_398 : decode code 398 = .ok (.iconst 0, 1) := by decide +kernel
theorem d_la_law_399 : decode code 399 = .ok (.ireturn, 1) := by decide +kernel
theorem d_la_law_400 : decode code 400 = .ok (.iload 5, 2) := by decide +kernel
theorem d_la_law_402 : decode code 402 = .ok (.ifCond .ne 22, 3) := by decide +kernel
theorem d_la_law_405 : decode code 405 = .ok (.aload_n 3, 1) := by decide +kernel
theorem d_la_law_406 : decode code 406 = .ok (.iconst 0, 1) := by decide +kernel
theorem d_la_law_407 : decode code 407 = .ok (.laload, 1) := by decide +kernel
theorem d_la_law_408 : decode code 408 = .ok (.iload 6, 2) := by decide +kernel
theorem d_la_law_410 : decode code 410 = .ok (.ifCond .eq 7, 3) := by decide +kernel
theorem d_la_law_413 : decode code 413 = .ok (.lconst 1, 1) := by decide +kernel
theorem d_la_law_414 : decode code 414 = .ok (.goto 4, 3) := by decide +kernel
theorem d_la_law_417 : decode code 417 = .ok (.lconst 0, 1) := by decide +kernel
theorem d_la_law_418 : decode code 418 = .ok (.lcmp, 1) := by decide +kernel
theorem d_la_law_419 : decode code 419 = .ok (.ifCond .eq 5, 3) := by decide +kernel
theorem d_la_law_422 : decode code 422 = .ok (.iconst 0, 1) := by decide +kernel
theorem d_la_law_423 : decode code 423 = .ok (.ireturn, 1) := by decide +kernel
theorem d_la_law_424 : decode code 424 = .ok (.goto 747, 3) := by decide +kernel
theorem d_la_law_427 : decode code 427 = .ok (.aload_n 1, 1) := by decide +kernel
theorem d_la_law_428 : decode code 428 = .ok (.aload_n 0, 1) := by decide +kernel
theorem d_la_law_429 : decode code 429 = .ok (.iload 4, 2) := by decide +kernel
theorem d_la_law_431 : decode code 431 = .ok (.iconst 1, 1) := by decide +kernel
theorem d_la_law_432 : decode code 432 = .ok (.iadd, 1) := by decide +kernel
theorem d_la_law_433 : decode code 433 = .ok (.iaload, 1) := by decide +kernel
theorem d_la_law_434 : decode code 434 = .ok (.aload_n 3, 1) := by decide +kernel
theorem d_la_law_435 : decode code 435 = .ok (.invokestatic 106, 3) := by decide +kernel
theorem d_la_law_438 : decode code 438 = .ok (.istore 5, 2) := by decide +kernel
theorem d_la_law_440 : decode code 440 = .ok (.aload_n 2, 1) := by decide +kernel
theorem d_la_law_441 : decode code 441 = .ok (.aload_n 0, 1) := by decide +kernel
theorem d_la_law_442 : decode code 442 = .ok (.iload 4, 2) := by decide +kernel
theorem d_la_law_444 : decode code 444 = .ok (.iconst 1, 1) := by decide +kernel
theorem d_la_law_445 : decode code 445 = .ok (.iadd, 1) := by decide +kernel
theorem d_la_law_446 : decode code 446 = .ok (.iaload, 1) := by decide +kernel
theorem d_la_law_447 : decode code 447 = .ok (.invokevirtual 109, 3) := by decide +kernel
theorem d_la_law_450 : decode code 450 = .ok (.istore 6, 2) := by decide +kernel
theorem d_la_law_452 : decode code 452 = .ok (.aload_n 2, 1) := by decide +kernel
theorem d_la_law_453 : decode code 453 = .ok (.invokevirtual 87, 3) := by decide +kernel
theorem d_la_law_456 : decode code 456 = .ok (.iload 5, 2) := by decide +kernel
theorem d_la_law_458 : decode code 458 = .ok (.if_icmp .eq 5, 3) := by decide +kernel
theorem d_la_law_461 : decode code 461 = .ok (.iconst 0, 1) := by decide +kernel
theorem d_la_law_462 : decode code 462 = .ok (.ireturn, 1) := by decide +kernel
theorem d_la_law_463 : decode code 463 = .ok (.iload 5, 2) := by decide +kernel
theorem d_la_law_465 : decode code 465 = .ok (.ifCond .ne 15, 3) := by decide +kernel
theorem d_la_law_468 : decode code 468 = .ok (.aload_n 3, 1) := by decide +kernel
theorem d_la_law_469 : decode code 469 = .ok (.iconst 0, 1) := by decide +kernel
theorem d_la_law_470 : decode code 470 = .ok (.laload, 1) := by decide +kernel
theorem d_la_law_471 : decode code 471 = .ok (.iload 6, 2) := by decide +kernel
theorem d_la_law_473 : decode code 473 = .ok (.i2l, 1) := by decide +kernel
theorem d_la_law_474 : decode code 474 = .ok (.lcmp, 1) := by decide +kernel
theorem d_la_law_475 : decode code 475 = .ok (.ifCond .eq 5, 3) := by decide +kernel
theorem d_la_law_478 : decode code 478 = .ok (.iconst 0, 1) := by decide +kernel
theorem d_la_law_479 : decode code 479 = .ok (.ireturn, 1) := by decide +kernel
theorem d_la_law_480 : decode code 480 = .ok (.goto 691, 3) := by decide +kernel
theorem d_la_law_483 : decode code 483 = .ok (.aload_n 1, 1) := by decide +kernel
theorem d_la_law_484 : decode code 484 = .ok (.aload_n 0, 1) := by decide +kernel
theorem d_la_law_485 : decode code 485 = .ok (.iload 4, 2) := by decide +kernel
theorem d_la_law_487 : decode code 487 = .ok (.iconst 1, 1) := by decide +kernel
theorem d_la_law_488 : decode code 488 = .ok (.iadd, 1) := by decide +kernel
theorem d_la_law_489 : decode code 489 = .ok (.iaload, 1) := by decide +kernel
theorem d_la_law_490 : decode code 490 = .ok (.aload_n 3, 1) := by decide +kernel
theorem d_la_law_491 : decode code 491 = .ok (.invokestatic 110, 3) := by decide +kernel
theorem d_la_law_494 : decode code 494 = .ok (.istore 5, 2) := by decide +kernel
theorem d_la_law_496 : decode code 496 = .ok (.aload_n 2, 1) := by decide +kernel
theorem d_la_law_497 : decode code 497 = .ok (.aload_n 0, 1) := by decide +kernel
theorem d_la_law_498 : decode code 498 = .ok (.iload 4, 2) := by decide +kernel
theorem d_la_law_500 : decode code 500 = .ok (.iconst 1, 1) := by decide +kernel
theorem d_la_law_501 : decode code 501 = .ok (.iadd, 1) := by decide +kernel
theorem d_la_law_502 : decode code 502 = .ok (.iaload, 1) := by decide +kernel
theorem d_la_law_503 : decode code 503 = .ok (.invokevirtual 112, 3) := by decide +kernel
theorem d_la_law_506 : decode code 506 = .ok (.istore 6, 2) := by decide +kernel
theorem d_la_law_508 : decode code 508 = .ok (.aload_n 2, 1) := by decide +kernel
theorem d_la_law_509 : decode code 509 = .ok (.invokevirtual 87, 3) := by decide +kernel
theorem d_la_law_512 : decode code 512 = .ok (.iload 5, 2) := by decide +kernel
theorem d_la_law_514 : decode code 514 = .ok (.if_icmp .eq 5, 3) := by decide +kernel
theorem d_la_law_517 : decode code 517 = .ok (.iconst 0, 1) := by decide +kernel
theorem d_la_law_518 : decode code 518 = .ok (.ireturn, 1) := by decide +kernel
theorem d_la_law_519 : decode code 519 = .ok (.iload 5, 2) := by decide +kernel
theorem d_la_law_521 : decode code 521 = .ok (.ifCond .ne 15, 3) := by decide +kernel
theorem d_la_law_524 : decode code 524 = .ok (.aload_n 3, 1) := by decide +kernel
theorem d_la_law_525 : decode code 525 = .ok (.iconst 0, 1) := by decide +kernel
theorem d_la_law_526 : decode code 526 = .ok (.laload, 1) := by decide +kernel
theorem d_la_law_527 : decode code 527 = .ok (.iload 6, 2) := by decide +kernel
theorem d_la_law_529 : decode code 529 = .ok (.i2l, 1) := by decide +kernel
theorem d_la_law_530 : decode code 530 = .ok (.lcmp, 1) := by decide +kernel
theorem d_la_law_531 : decode code 531 = .ok (.ifCond .eq 5, 3) := by decide +kernel
theorem d_la_law_534 : decode code 534 = .ok (.iconst 0, 1) := by decide +kernel
theorem d_la_law_535 : decode code 535 = .ok (.ireturn, 1) := by decide +kernel
theorem d_la_law_536 : decode code 536 = .ok (.goto 635, 3) := by decide +kernel
theorem d_la_law_539 : decode code 539 = .ok (.aload_n 1, 1) := by decide +kernel
theorem d_la_law_540 : decode code 540 = .ok (.aload_n 0, 1) := by decide +kernel
theorem d_la_law_541 : decode code 541 = .ok (.iload 4, 2) := by decide +kernel
theorem d_la_law_543 : decode code 543 = .ok (.iconst 1, 1) := by decide +kernel
theorem d_la_law_544 : decode code 544 = .ok (.iadd, 1) := by decide +kernel
theorem d_la_law_545 : decode code 545 = .ok (.iaload, 1) := by decide +kernel
theorem d_la_law_546 : decode code 546 = .ok (.aload_n 0, 1) := by decide +kernel
theorem d_la_law_547 : decode code 547 = .ok (.iload 4, 2) := by decide +kernel
theorem d_la_law_549 : decode code 549 = .ok (.iconst 2, 1) := by decide +kernel
theorem d_la_law_550 : decode code 550 = .ok (.iadd, 1) := by decide +kernel
theorem d_la_law_551 : decode code 551 = .ok (.iaload, 1) := by decide +kernel
theorem d_la_law_552 : decode code 552 = .ok (.aload_n 0, 1) := by decide +kernel
theorem d_la_law_553 : decode code 553 = .ok (.iload 4, 2) := by decide +kernel
theorem d_la_law_555 : decode code 555 = .ok (.iconst 3, 1) := by decide +kernel
theorem d_la_law_556 : decode code 556 = .ok (.iadd, 1) := by decide +kernel
theorem d_la_law_557 : decode code 557 = .ok (.iaload, 1) := by decide +kernel
