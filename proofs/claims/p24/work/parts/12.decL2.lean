theorem dL_types_344 : decode cL_types 344 = .ok (.iastore, 1) := by decide +kernel
theorem dL_types_345 : decode cL_types 345 = .ok (.aload_n 1, 1) := by decide +kernel
theorem dL_types_346 : decode cL_types 346 = .ok (.iload 6, 2) := by decide +kernel
theorem dL_types_348 : decode cL_types 348 = .ok (.iload 9, 2) := by decide +kernel
theorem dL_types_350 : decode cL_types 350 = .ok (.iastore, 1) := by decide +kernel
theorem dL_types_351 : decode cL_types 351 = .ok (.iload 8, 2) := by decide +kernel
theorem dL_types_353 : decode cL_types 353 = .ok (.ifCond .eq 25, 3) := by decide +kernel
theorem dL_types_356 : decode cL_types 356 = .ok (.aload_n 0, 1) := by decide +kernel
theorem dL_types_357 : decode cL_types 357 = .ok (.bipush 32, 2) := by decide +kernel
theorem dL_types_359 : decode cL_types 359 = .ok (.invokevirtual 55, 3) := by decide +kernel
theorem dL_types_362 : decode cL_types 362 = .ok (.ifCond .le 16, 3) := by decide +kernel
theorem dL_types_365 : decode cL_types 365 = .ok (.aload_n 0, 1) := by decide +kernel
theorem dL_types_366 : decode cL_types 366 = .ok (.iload 6, 2) := by decide +kernel
theorem dL_types_368 : decode cL_types 368 = .ok (.invokestatic 78, 3) := by decide +kernel
theorem dL_types_371 : decode cL_types 371 = .ok (.ifCond .eq 7, 3) := by decide +kernel
theorem dL_types_374 : decode cL_types 374 = .ok (.iconst 1, 1) := by decide +kernel
theorem dL_types_375 : decode cL_types 375 = .ok (.goto 4, 3) := by decide +kernel
theorem dL_types_378 : decode cL_types 378 = .ok (.iconst 0, 1) := by decide +kernel
theorem dL_types_379 : decode cL_types 379 = .ok (.istore 8, 2) := by decide +kernel
theorem dL_types_381 : decode cL_types 381 = .ok (.goto 149, 3) := by decide +kernel
theorem dL_types_384 : decode cL_types 384 = .ok (.iload 8, 2) := by decide +kernel
theorem dL_types_386 : decode cL_types 386 = .ok (.ifCond .eq 43, 3) := by decide +kernel
theorem dL_types_389 : decode cL_types 389 = .ok (.aload_n 0, 1) := by decide +kernel
theorem dL_types_390 : decode cL_types 390 = .ok (.bipush 32, 2) := by decide +kernel
theorem dL_types_392 : decode cL_types 392 = .ok (.invokevirtual 55, 3) := by decide +kernel
theorem dL_types_395 : decode cL_types 395 = .ok (.ifCond .le 34, 3) := by decide +kernel
theorem dL_types_398 : decode cL_types 398 = .ok (.aload_n 0, 1) := by decide +kernel
theorem dL_types_399 : decode cL_types 399 = .ok (.iload 6, 2) := by decide +kernel
theorem dL_types_401 : decode cL_types 401 = .ok (.invokestatic 78, 3) := by decide +kernel
theorem dL_types_404 : decode cL_types 404 = .ok (.ifCond .eq 25, 3) := by decide +kernel
theorem dL_types_407 : decode cL_types 407 = .ok (.aload_n 0, 1) := by decide +kernel
theorem dL_types_408 : decode cL_types 408 = .ok (.bipush 32, 2) := by decide +kernel
theorem dL_types_410 : decode cL_types 410 = .ok (.invokevirtual 55, 3) := by decide +kernel
theorem dL_types_413 : decode cL_types 413 = .ok (.ifCond .le 16, 3) := by decide +kernel
theorem dL_types_416 : decode cL_types 416 = .ok (.aload_n 0, 1) := by decide +kernel
theorem dL_types_417 : decode cL_types 417 = .ok (.iload 7, 2) := by decide +kernel
theorem dL_types_419 : decode cL_types 419 = .ok (.invokestatic 78, 3) := by decide +kernel
theorem dL_types_422 : decode cL_types 422 = .ok (.ifCond .eq 7, 3) := by decide +kernel
theorem dL_types_425 : decode cL_types 425 = .ok (.iconst 1, 1) := by decide +kernel
theorem dL_types_426 : decode cL_types 426 = .ok (.goto 4, 3) := by decide +kernel
theorem dL_types_429 : decode cL_types 429 = .ok (.iconst 0, 1) := by decide +kernel
theorem dL_types_430 : decode cL_types 430 = .ok (.istore 8, 2) := by decide +kernel
theorem dL_types_432 : decode cL_types 432 = .ok (.iload 5, 2) := by decide +kernel
theorem dL_types_434 : decode cL_types 434 = .ok (.istore 9, 2) := by decide +kernel
theorem dL_types_436 : decode cL_types 436 = .ok (.iload 9, 2) := by decide +kernel
theorem dL_types_438 : decode cL_types 438 = .ok (.iload 6, 2) := by decide +kernel
theorem dL_types_440 : decode cL_types 440 = .ok (.if_icmp .gt 15, 3) := by decide +kernel
theorem dL_types_443 : decode cL_types 443 = .ok (.aload_n 1, 1) := by decide +kernel
theorem dL_types_444 : decode cL_types 444 = .ok (.iload 9, 2) := by decide +kernel
theorem dL_types_446 : decode cL_types 446 = .ok (.iload 7, 2) := by decide +kernel
theorem dL_types_448 : decode cL_types 448 = .ok (.iastore, 1) := by decide +kernel
theorem dL_types_449 : decode cL_types 449 = .ok (.iinc 9 1, 3) := by decide +kernel
theorem dL_types_452 : decode cL_types 452 = .ok (.goto (-16), 3) := by decide +kernel
theorem dL_types_455 : decode cL_types 455 = .ok (.goto 75, 3) := by decide +kernel
theorem dL_types_458 : decode cL_types 458 = .ok (.aload_n 1, 1) := by decide +kernel
theorem dL_types_459 : decode cL_types 459 = .ok (.iload 6, 2) := by decide +kernel
theorem dL_types_461 : decode cL_types 461 = .ok (.iaload, 1) := by decide +kernel
theorem dL_types_462 : decode cL_types 462 = .ok (.istore 9, 2) := by decide +kernel
theorem dL_types_464 : decode cL_types 464 = .ok (.iload 6, 2) := by decide +kernel
theorem dL_types_466 : decode cL_types 466 = .ok (.istore 10, 2) := by decide +kernel
theorem dL_types_468 : decode cL_types 468 = .ok (.iload 10, 2) := by decide +kernel
theorem dL_types_470 : decode cL_types 470 = .ok (.iload 5, 2) := by decide +kernel
theorem dL_types_472 : decode cL_types 472 = .ok (.if_icmp .le 19, 3) := by decide +kernel
theorem dL_types_475 : decode cL_types 475 = .ok (.aload_n 1, 1) := by decide +kernel
theorem dL_types_476 : decode cL_types 476 = .ok (.iload 10, 2) := by decide +kernel
theorem dL_types_478 : decode cL_types 478 = .ok (.aload_n 1, 1) := by decide +kernel
theorem dL_types_479 : decode cL_types 479 = .ok (.iload 10, 2) := by decide +kernel
theorem dL_types_481 : decode cL_types 481 = .ok (.iconst 1, 1) := by decide +kernel
theorem dL_types_482 : decode cL_types 482 = .ok (.isub, 1) := by decide +kernel
theorem dL_types_483 : decode cL_types 483 = .ok (.iaload, 1) := by decide +kernel
theorem dL_types_484 : decode cL_types 484 = .ok (.iastore, 1) := by decide +kernel
theorem dL_types_485 : decode cL_types 485 = .ok (.iinc 10 (-1), 3) := by decide +kernel
theorem dL_types_488 : decode cL_types 488 = .ok (.goto (-20), 3) := by decide +kernel
theorem dL_types_491 : decode cL_types 491 = .ok (.aload_n 1, 1) := by decide +kernel
theorem dL_types_492 : decode cL_types 492 = .ok (.iload 5, 2) := by decide +kernel
theorem dL_types_494 : decode cL_types 494 = .ok (.iload 9, 2) := by decide +kernel
theorem dL_types_496 : decode cL_types 496 = .ok (.iastore, 1) := by decide +kernel
theorem dL_types_497 : decode cL_types 497 = .ok (.iload 8, 2) := by decide +kernel
theorem dL_types_499 : decode cL_types 499 = .ok (.ifCond .eq 25, 3) := by decide +kernel
theorem dL_types_502 : decode cL_types 502 = .ok (.aload_n 0, 1) := by decide +kernel
theorem dL_types_503 : decode cL_types 503 = .ok (.bipush 32, 2) := by decide +kernel
theorem dL_types_505 : decode cL_types 505 = .ok (.invokevirtual 55, 3) := by decide +kernel
theorem dL_types_508 : decode cL_types 508 = .ok (.ifCond .le 16, 3) := by decide +kernel
theorem dL_types_511 : decode cL_types 511 = .ok (.aload_n 0, 1) := by decide +kernel
theorem dL_types_512 : decode cL_types 512 = .ok (.iload 6, 2) := by decide +kernel
theorem dL_types_514 : decode cL_types 514 = .ok (.invokestatic 78, 3) := by decide +kernel
theorem dL_types_517 : decode cL_types 517 = .ok (.ifCond .eq 7, 3) := by decide +kernel
theorem dL_types_520 : decode cL_types 520 = .ok (.iconst 1, 1) := by decide +kernel
theorem dL_types_521 : decode cL_types 521 = .ok (.goto 4, 3) := by decide +kernel
theorem dL_types_524 : decode cL_types 524 = .ok (.iconst 0, 1) := by decide +kernel
theorem dL_types_525 : decode cL_types 525 = .ok (.istore 8, 2) := by decide +kernel
theorem dL_types_527 : decode cL_types 527 = .ok (.goto 3, 3) := by decide +kernel
theorem dL_types_530 : decode cL_types 530 = .ok (.iload 8, 2) := by decide +kernel
theorem dL_types_532 : decode cL_types 532 = .ok (.ifCond .eq 34, 3) := by decide +kernel
theorem dL_types_535 : decode cL_types 535 = .ok (.iload_n 2, 1) := by decide +kernel
theorem dL_types_536 : decode cL_types 536 = .ok (.bipush 20, 2) := by decide +kernel
theorem dL_types_538 : decode cL_types 538 = .ok (.ishr, 1) := by decide +kernel
theorem dL_types_539 : decode cL_types 539 = .ok (.iconst 1, 1) := by decide +kernel
theorem dL_types_540 : decode cL_types 540 = .ok (.iand, 1) := by decide +kernel
theorem dL_types_541 : decode cL_types 541 = .ok (.ifCond .eq 12, 3) := by decide +kernel
theorem dL_types_544 : decode cL_types 544 = .ok (.aload_n 0, 1) := by decide +kernel
theorem dL_types_545 : decode cL_types 545 = .ok (.bipush 32, 2) := by decide +kernel
theorem dL_types_547 : decode cL_types 547 = .ok (.invokevirtual 55, 3) := by decide +kernel
theorem dL_types_550 : decode cL_types 550 = .ok (.ifCond .le 16, 3) := by decide +kernel
theorem dL_types_553 : decode cL_types 553 = .ok (.aload_n 0, 1) := by decide +kernel
theorem dL_types_554 : decode cL_types 554 = .ok (.bipush 59, 2) := by decide +kernel
theorem dL_types_556 : decode cL_types 556 = .ok (.invokevirtual 55, 3) := by decide +kernel
theorem dL_types_559 : decode cL_types 559 = .ok (.ifCond .le 7, 3) := by decide +kernel
theorem dL_types_562 : decode cL_types 562 = .ok (.iconst 1, 1) := by decide +kernel
theorem dL_types_563 : decode cL_types 563 = .ok (.goto 4, 3) := by decide +kernel
theorem dL_types_566 : decode cL_types 566 = .ok (.iconst 0, 1) := by decide +kernel
theorem dL_types_567 : decode cL_types 567 = .ok (.ireturn, 1) := by decide +kernel
theorem dL_plays_0 : decode cL_plays 0 = .ok (.iload_n 2, 1) := by decide +kernel
theorem dL_plays_1 : decode cL_plays 1 = .ok (.iconst 4, 1) := by decide +kernel
theorem dL_plays_2 : decode cL_plays 2 = .ok (.invokestatic 60, 3) := by decide +kernel
theorem dL_plays_5 : decode cL_plays 5 = .ok (.istore 4, 2) := by decide +kernel
theorem dL_plays_7 : decode cL_plays 7 = .ok (.aload_n 0, 1) := by decide +kernel
theorem dL_plays_8 : decode cL_plays 8 = .ok (.invokevirtual 82, 3) := by decide +kernel
theorem dL_plays_11 : decode cL_plays 11 = .ok (.ifCond .lt 24, 3) := by decide +kernel
theorem dL_plays_14 : decode cL_plays 14 = .ok (.iload_n 2, 1) := by decide +kernel
theorem dL_plays_15 : decode cL_plays 15 = .ok (.iconst 2, 1) := by decide +kernel
theorem dL_plays_16 : decode cL_plays 16 = .ok (.ishr, 1) := by decide +kernel
theorem dL_plays_17 : decode cL_plays 17 = .ok (.iconst 1, 1) := by decide +kernel
theorem dL_plays_18 : decode cL_plays 18 = .ok (.iand, 1) := by decide +kernel
theorem dL_plays_19 : decode cL_plays 19 = .ok (.ifCond .eq 12, 3) := by decide +kernel
theorem dL_plays_22 : decode cL_plays 22 = .ok (.aload_n 0, 1) := by decide +kernel
theorem dL_plays_23 : decode cL_plays 23 = .ok (.bipush 32, 2) := by decide +kernel
theorem dL_plays_25 : decode cL_plays 25 = .ok (.invokevirtual 55, 3) := by decide +kernel
theorem dL_plays_28 : decode cL_plays 28 = .ok (.ifCond .le 7, 3) := by decide +kernel
theorem dL_plays_31 : decode cL_plays 31 = .ok (.iconst 1, 1) := by decide +kernel
theorem dL_plays_32 : decode cL_plays 32 = .ok (.goto 4, 3) := by decide +kernel
theorem dL_plays_35 : decode cL_plays 35 = .ok (.iconst 0, 1) := by decide +kernel
theorem dL_plays_36 : decode cL_plays 36 = .ok (.istore 5, 2) := by decide +kernel
theorem dL_plays_38 : decode cL_plays 38 = .ok (.iconst 0, 1) := by decide +kernel
theorem dL_plays_39 : decode cL_plays 39 = .ok (.istore 6, 2) := by decide +kernel
theorem dL_plays_41 : decode cL_plays 41 = .ok (.iload 6, 2) := by decide +kernel
theorem dL_plays_43 : decode cL_plays 43 = .ok (.iload 4, 2) := by decide +kernel
theorem dL_plays_45 : decode cL_plays 45 = .ok (.if_icmp .ge 40, 3) := by decide +kernel
theorem dL_plays_48 : decode cL_plays 48 = .ok (.iload 5, 2) := by decide +kernel
theorem dL_plays_50 : decode cL_plays 50 = .ok (.ifCond .eq 26, 3) := by decide +kernel
theorem dL_plays_53 : decode cL_plays 53 = .ok (.aload_n 0, 1) := by decide +kernel
theorem dL_plays_54 : decode cL_plays 54 = .ok (.aload_n 1, 1) := by decide +kernel
theorem dL_plays_55 : decode cL_plays 55 = .ok (.iload_n 3, 1) := by decide +kernel
theorem dL_plays_56 : decode cL_plays 56 = .ok (.iconst 4, 1) := by decide +kernel
theorem dL_plays_57 : decode cL_plays 57 = .ok (.iload 6, 2) := by decide +kernel
theorem dL_plays_59 : decode cL_plays 59 = .ok (.imul, 1) := by decide +kernel
theorem dL_plays_60 : decode cL_plays 60 = .ok (.ishr, 1) := by decide +kernel
theorem dL_plays_61 : decode cL_plays 61 = .ok (.iload_n 2, 1) := by decide +kernel
theorem dL_plays_62 : decode cL_plays 62 = .ok (.iload 6, 2) := by decide +kernel
theorem dL_plays_64 : decode cL_plays 64 = .ok (.ishr, 1) := by decide +kernel
theorem dL_plays_65 : decode cL_plays 65 = .ok (.ixor, 1) := by decide +kernel
theorem dL_plays_66 : decode cL_plays 66 = .ok (.invokestatic 85, 3) := by decide +kernel
theorem dL_plays_69 : decode cL_plays 69 = .ok (.ifCond .eq 7, 3) := by decide +kernel
theorem dL_plays_72 : decode cL_plays 72 = .ok (.iconst 1, 1) := by decide +kernel
theorem dL_plays_73 : decode cL_plays 73 = .ok (.goto 4, 3) := by decide +kernel
theorem dL_plays_76 : decode cL_plays 76 = .ok (.iconst 0, 1) := by decide +kernel
theorem dL_plays_77 : decode cL_plays 77 = .ok (.istore 5, 2) := by decide +kernel
theorem dL_plays_79 : decode cL_plays 79 = .ok (.iinc 6 1, 3) := by decide +kernel
theorem dL_plays_82 : decode cL_plays 82 = .ok (.goto (-41), 3) := by decide +kernel
theorem dL_plays_85 : decode cL_plays 85 = .ok (.iload 5, 2) := by decide +kernel
theorem dL_plays_87 : decode cL_plays 87 = .ok (.ifCond .eq 16, 3) := by decide +kernel
theorem dL_plays_90 : decode cL_plays 90 = .ok (.aload_n 0, 1) := by decide +kernel
theorem dL_plays_91 : decode cL_plays 91 = .ok (.invokevirtual 89, 3) := by decide +kernel
theorem dL_plays_94 : decode cL_plays 94 = .ok (.iload 4, 2) := by decide +kernel
theorem dL_plays_96 : decode cL_plays 96 = .ok (.if_icmp .ne 7, 3) := by decide +kernel
theorem dL_plays_99 : decode cL_plays 99 = .ok (.iconst 1, 1) := by decide +kernel
theorem dL_plays_100 : decode cL_plays 100 = .ok (.goto 4, 3) := by decide +kernel
theorem dL_plays_103 : decode cL_plays 103 = .ok (.iconst 0, 1) := by decide +kernel
theorem dL_plays_104 : decode cL_plays 104 = .ok (.ireturn, 1) := by decide +kernel
theorem dL_raisesGame_0 : decode cL_raisesGame 0 = .ok (.aload_n 1, 1) := by decide +kernel
theorem dL_raisesGame_1 : decode cL_raisesGame 1 = .ok (.bipush 12, 2) := by decide +kernel
theorem dL_raisesGame_3 : decode cL_raisesGame 3 = .ok (.iaload, 1) := by decide +kernel
theorem dL_raisesGame_4 : decode cL_raisesGame 4 = .ok (.iconst 3, 1) := by decide +kernel
theorem dL_raisesGame_5 : decode cL_raisesGame 5 = .ok (.if_icmp .ne 18, 3) := by decide +kernel
theorem dL_raisesGame_8 : decode cL_raisesGame 8 = .ok (.aload_n 0, 1) := by decide +kernel
theorem dL_raisesGame_9 : decode cL_raisesGame 9 = .ok (.invokevirtual 92, 3) := by decide +kernel
theorem dL_raisesGame_12 : decode cL_raisesGame 12 = .ok (.bipush (-3), 2) := by decide +kernel
theorem dL_raisesGame_14 : decode cL_raisesGame 14 = .ok (.if_icmp .ne 7, 3) := by decide +kernel
theorem dL_raisesGame_17 : decode cL_raisesGame 17 = .ok (.iconst 1, 1) := by decide +kernel
theorem dL_raisesGame_18 : decode cL_raisesGame 18 = .ok (.goto 4, 3) := by decide +kernel
theorem dL_raisesGame_21 : decode cL_raisesGame 21 = .ok (.iconst 0, 1) := by decide +kernel
theorem dL_raisesGame_22 : decode cL_raisesGame 22 = .ok (.ireturn, 1) := by decide +kernel
theorem dL_raisesGame_23 : decode cL_raisesGame 23 = .ok (.aload_n 1, 1) := by decide +kernel
theorem dL_raisesGame_24 : decode cL_raisesGame 24 = .ok (.invokestatic 23, 3) := by decide +kernel
theorem dL_raisesGame_27 : decode cL_raisesGame 27 = .ok (.aload_n 0, 1) := by decide +kernel
theorem dL_raisesGame_28 : decode cL_raisesGame 28 = .ok (.invokevirtual 92, 3) := by decide +kernel
theorem dL_raisesGame_31 : decode cL_raisesGame 31 = .ok (.aload_n 1, 1) := by decide +kernel
theorem dL_raisesGame_32 : decode cL_raisesGame 32 = .ok (.bipush 12, 2) := by decide +kernel
theorem dL_raisesGame_34 : decode cL_raisesGame 34 = .ok (.iaload, 1) := by decide +kernel
theorem dL_raisesGame_35 : decode cL_raisesGame 35 = .ok (.if_icmp .ne 7, 3) := by decide +kernel
theorem dL_raisesGame_38 : decode cL_raisesGame 38 = .ok (.iconst 1, 1) := by decide +kernel
theorem dL_raisesGame_39 : decode cL_raisesGame 39 = .ok (.goto 4, 3) := by decide +kernel
theorem dL_raisesGame_42 : decode cL_raisesGame 42 = .ok (.iconst 0, 1) := by decide +kernel
theorem dL_raisesGame_43 : decode cL_raisesGame 43 = .ok (.ireturn, 1) := by decide +kernel
theorem dL_isGame_0 : decode cL_isGame 0 = .ok (.iconst 0, 1) := by decide +kernel
theorem dL_isGame_1 : decode cL_isGame 1 = .ok (.istore_n 2, 1) := by decide +kernel
theorem dL_isGame_2 : decode cL_isGame 2 = .ok (.iload_n 2, 1) := by decide +kernel
theorem dL_isGame_3 : decode cL_isGame 3 = .ok (.aload_n 1, 1) := by decide +kernel
theorem dL_isGame_4 : decode cL_isGame 4 = .ok (.bipush 12, 2) := by decide +kernel
theorem dL_isGame_6 : decode cL_isGame 6 = .ok (.iaload, 1) := by decide +kernel
theorem dL_isGame_7 : decode cL_isGame 7 = .ok (.invokestatic 11, 3) := by decide +kernel
theorem dL_isGame_10 : decode cL_isGame 10 = .ok (.if_icmp .ge 22, 3) := by decide +kernel
theorem dL_isGame_13 : decode cL_isGame 13 = .ok (.aload_n 0, 1) := by decide +kernel
theorem dL_isGame_14 : decode cL_isGame 14 = .ok (.iload_n 2, 1) := by decide +kernel
theorem dL_isGame_15 : decode cL_isGame 15 = .ok (.invokevirtual 95, 3) := by decide +kernel
theorem dL_isGame_18 : decode cL_isGame 18 = .ok (.aload_n 1, 1) := by decide +kernel
theorem dL_isGame_19 : decode cL_isGame 19 = .ok (.iload_n 2, 1) := by decide +kernel
theorem dL_isGame_20 : decode cL_isGame 20 = .ok (.iaload, 1) := by decide +kernel
theorem dL_isGame_21 : decode cL_isGame 21 = .ok (.if_icmp .eq 5, 3) := by decide +kernel
theorem dL_isGame_24 : decode cL_isGame 24 = .ok (.iconst 0, 1) := by decide +kernel
theorem dL_isGame_25 : decode cL_isGame 25 = .ok (.ireturn, 1) := by decide +kernel
theorem dL_isGame_26 : decode cL_isGame 26 = .ok (.iinc 2 1, 3) := by decide +kernel
theorem dL_isGame_29 : decode cL_isGame 29 = .ok (.goto (-27), 3) := by decide +kernel
theorem dL_isGame_32 : decode cL_isGame 32 = .ok (.aload_n 0, 1) := by decide +kernel
theorem dL_isGame_33 : decode cL_isGame 33 = .ok (.aload_n 1, 1) := by decide +kernel
theorem dL_isGame_34 : decode cL_isGame 34 = .ok (.bipush 12, 2) := by decide +kernel
theorem dL_isGame_36 : decode cL_isGame 36 = .ok (.iaload, 1) := by decide +kernel
theorem dL_isGame_37 : decode cL_isGame 37 = .ok (.invokestatic 11, 3) := by decide +kernel
theorem dL_isGame_40 : decode cL_isGame 40 = .ok (.invokevirtual 95, 3) := by decide +kernel
theorem dL_isGame_43 : decode cL_isGame 43 = .ok (.iconst (-1), 1) := by decide +kernel
theorem dL_isGame_44 : decode cL_isGame 44 = .ok (.if_icmp .ne 92, 3) := by decide +kernel
theorem dL_isGame_47 : decode cL_isGame 47 = .ok (.aload_n 0, 1) := by decide +kernel
theorem dL_isGame_48 : decode cL_isGame 48 = .ok (.iconst (-1), 1) := by decide +kernel
theorem dL_isGame_49 : decode cL_isGame 49 = .ok (.invokevirtual 95, 3) := by decide +kernel
theorem dL_isGame_52 : decode cL_isGame 52 = .ok (.bipush (-2), 2) := by decide +kernel
theorem dL_isGame_54 : decode cL_isGame 54 = .ok (.if_icmp .ne 82, 3) := by decide +kernel
theorem dL_isGame_57 : decode cL_isGame 57 = .ok (.aload_n 0, 1) := by decide +kernel
theorem dL_isGame_58 : decode cL_isGame 58 = .ok (.iconst 0, 1) := by decide +kernel
theorem dL_isGame_59 : decode cL_isGame 59 = .ok (.invokevirtual 98, 3) := by decide +kernel
theorem dL_isGame_62 : decode cL_isGame 62 = .ok (.aload_n 1, 1) := by decide +kernel
theorem dL_isGame_63 : decode cL_isGame 63 = .ok (.bipush 12, 2) := by decide +kernel
theorem dL_isGame_65 : decode cL_isGame 65 = .ok (.iaload, 1) := by decide +kernel
theorem dL_isGame_66 : decode cL_isGame 66 = .ok (.if_icmp .ne 70, 3) := by decide +kernel
theorem dL_isGame_69 : decode cL_isGame 69 = .ok (.aload_n 0, 1) := by decide +kernel
theorem dL_isGame_70 : decode cL_isGame 70 = .ok (.iconst 1, 1) := by decide +kernel
theorem dL_isGame_71 : decode cL_isGame 71 = .ok (.invokevirtual 98, 3) := by decide +kernel
theorem dL_isGame_74 : decode cL_isGame 74 = .ok (.aload_n 1, 1) := by decide +kernel
theorem dL_isGame_75 : decode cL_isGame 75 = .ok (.bipush 13, 2) := by decide +kernel
theorem dL_isGame_77 : decode cL_isGame 77 = .ok (.iaload, 1) := by decide +kernel
theorem dL_isGame_78 : decode cL_isGame 78 = .ok (.if_icmp .ne 58, 3) := by decide +kernel
theorem dL_isGame_81 : decode cL_isGame 81 = .ok (.aload_n 0, 1) := by decide +kernel
theorem dL_isGame_82 : decode cL_isGame 82 = .ok (.iconst 2, 1) := by decide +kernel
theorem dL_isGame_83 : decode cL_isGame 83 = .ok (.invokevirtual 98, 3) := by decide +kernel
theorem dL_isGame_86 : decode cL_isGame 86 = .ok (.aload_n 1, 1) := by decide +kernel
theorem dL_isGame_87 : decode cL_isGame 87 = .ok (.invokestatic 30, 3) := by decide +kernel
theorem dL_isGame_90 : decode cL_isGame 90 = .ok (.if_icmp .ne 46, 3) := by decide +kernel
theorem dL_isGame_93 : decode cL_isGame 93 = .ok (.aload_n 0, 1) := by decide +kernel
theorem dL_isGame_94 : decode cL_isGame 94 = .ok (.bipush 7, 2) := by decide +kernel
theorem dL_isGame_96 : decode cL_isGame 96 = .ok (.invokevirtual 98, 3) := by decide +kernel
theorem dL_isGame_99 : decode cL_isGame 99 = .ok (.aload_n 1, 1) := by decide +kernel
theorem dL_isGame_100 : decode cL_isGame 100 = .ok (.bipush 16, 2) := by decide +kernel
theorem dL_isGame_102 : decode cL_isGame 102 = .ok (.iaload, 1) := by decide +kernel
theorem dL_isGame_103 : decode cL_isGame 103 = .ok (.if_icmp .ne 33, 3) := by decide +kernel
theorem dL_isGame_106 : decode cL_isGame 106 = .ok (.aload_n 0, 1) := by decide +kernel
theorem dL_isGame_107 : decode cL_isGame 107 = .ok (.bipush 11, 2) := by decide +kernel
theorem dL_isGame_109 : decode cL_isGame 109 = .ok (.invokevirtual 98, 3) := by decide +kernel
theorem dL_isGame_112 : decode cL_isGame 112 = .ok (.aload_n 1, 1) := by decide +kernel
theorem dL_isGame_113 : decode cL_isGame 113 = .ok (.bipush 14, 2) := by decide +kernel
theorem dL_isGame_115 : decode cL_isGame 115 = .ok (.iaload, 1) := by decide +kernel
theorem dL_isGame_116 : decode cL_isGame 116 = .ok (.if_icmp .ne 20, 3) := by decide +kernel
theorem dL_isGame_119 : decode cL_isGame 119 = .ok (.aload_n 0, 1) := by decide +kernel
theorem dL_isGame_120 : decode cL_isGame 120 = .ok (.bipush 12, 2) := by decide +kernel
theorem dL_isGame_122 : decode cL_isGame 122 = .ok (.invokevirtual 98, 3) := by decide +kernel
theorem dL_isGame_125 : decode cL_isGame 125 = .ok (.aload_n 1, 1) := by decide +kernel
theorem dL_isGame_126 : decode cL_isGame 126 = .ok (.bipush 15, 2) := by decide +kernel
theorem dL_isGame_128 : decode cL_isGame 128 = .ok (.iaload, 1) := by decide +kernel
theorem dL_isGame_129 : decode cL_isGame 129 = .ok (.if_icmp .ne 7, 3) := by decide +kernel
theorem dL_isGame_132 : decode cL_isGame 132 = .ok (.iconst 1, 1) := by decide +kernel
theorem dL_isGame_133 : decode cL_isGame 133 = .ok (.goto 4, 3) := by decide +kernel
theorem dL_isGame_136 : decode cL_isGame 136 = .ok (.iconst 0, 1) := by decide +kernel
theorem dL_isGame_137 : decode cL_isGame 137 = .ok (.ireturn, 1) := by decide +kernel
theorem dL_areKept_0 : decode cL_areKept 0 = .ok (.bipush 16, 2) := by decide +kernel
theorem dL_areKept_2 : decode cL_areKept 2 = .ok (.newarray .int, 2) := by decide +kernel
theorem dL_areKept_4 : decode cL_areKept 4 = .ok (.astore_n 3, 1) := by decide +kernel
theorem dL_areKept_5 : decode cL_areKept 5 = .ok (.bipush 8, 2) := by decide +kernel
theorem dL_areKept_7 : decode cL_areKept 7 = .ok (.newarray .int, 2) := by decide +kernel
theorem dL_areKept_9 : decode cL_areKept 9 = .ok (.astore 4, 2) := by decide +kernel
theorem dL_areKept_11 : decode cL_areKept 11 = .ok (.iconst 0, 1) := by decide +kernel
theorem dL_areKept_12 : decode cL_areKept 12 = .ok (.istore 5, 2) := by decide +kernel
theorem dL_areKept_14 : decode cL_areKept 14 = .ok (.iconst 0, 1) := by decide +kernel
theorem dL_areKept_15 : decode cL_areKept 15 = .ok (.istore 6, 2) := by decide +kernel
theorem dL_areKept_17 : decode cL_areKept 17 = .ok (.iconst 0, 1) := by decide +kernel
theorem dL_areKept_18 : decode cL_areKept 18 = .ok (.istore 7, 2) := by decide +kernel
theorem dL_areKept_20 : decode cL_areKept 20 = .ok (.iconst 0, 1) := by decide +kernel
theorem dL_areKept_21 : decode cL_areKept 21 = .ok (.istore 8, 2) := by decide +kernel
theorem dL_areKept_23 : decode cL_areKept 23 = .ok (.iconst 0, 1) := by decide +kernel
theorem dL_areKept_24 : decode cL_areKept 24 = .ok (.istore 9, 2) := by decide +kernel
theorem dL_areKept_26 : decode cL_areKept 26 = .ok (.iconst 0, 1) := by decide +kernel
theorem dL_areKept_27 : decode cL_areKept 27 = .ok (.istore 10, 2) := by decide +kernel
theorem dL_areKept_29 : decode cL_areKept 29 = .ok (.iload 10, 2) := by decide +kernel
theorem dL_areKept_31 : decode cL_areKept 31 = .ok (.aload_n 1, 1) := by decide +kernel
theorem dL_areKept_32 : decode cL_areKept 32 = .ok (.bipush 16, 2) := by decide +kernel
theorem dL_areKept_34 : decode cL_areKept 34 = .ok (.iaload, 1) := by decide +kernel
theorem dL_areKept_35 : decode cL_areKept 35 = .ok (.if_icmp .ge 621, 3) := by decide +kernel
theorem dL_areKept_38 : decode cL_areKept 38 = .ok (.aload_n 2, 1) := by decide +kernel
theorem dL_areKept_39 : decode cL_areKept 39 = .ok (.bipush 8, 2) := by decide +kernel
theorem dL_areKept_41 : decode cL_areKept 41 = .ok (.iload 10, 2) := by decide +kernel
theorem dL_areKept_43 : decode cL_areKept 43 = .ok (.imul, 1) := by decide +kernel
theorem dL_areKept_44 : decode cL_areKept 44 = .ok (.iaload, 1) := by decide +kernel
theorem dL_areKept_45 : decode cL_areKept 45 = .ok (.ifCond .ne 52, 3) := by decide +kernel
theorem dL_areKept_48 : decode cL_areKept 48 = .ok (.aload_n 0, 1) := by decide +kernel
theorem dL_areKept_49 : decode cL_areKept 49 = .ok (.iload 10, 2) := by decide +kernel
theorem dL_areKept_51 : decode cL_areKept 51 = .ok (.iconst 0, 1) := by decide +kernel
theorem dL_areKept_52 : decode cL_areKept 52 = .ok (.invokevirtual 101, 3) := by decide +kernel
theorem dL_areKept_55 : decode cL_areKept 55 = .ok (.iconst (-1), 1) := by decide +kernel
theorem dL_areKept_56 : decode cL_areKept 56 = .ok (.if_icmp .ne 39, 3) := by decide +kernel
theorem dL_areKept_59 : decode cL_areKept 59 = .ok (.aload_n 0, 1) := by decide +kernel
theorem dL_areKept_60 : decode cL_areKept 60 = .ok (.iload 10, 2) := by decide +kernel
theorem dL_areKept_62 : decode cL_areKept 62 = .ok (.iconst 0, 1) := by decide +kernel
theorem dL_areKept_63 : decode cL_areKept 63 = .ok (.iconst 0, 1) := by decide +kernel
theorem dL_areKept_64 : decode cL_areKept 64 = .ok (.invokevirtual 104, 3) := by decide +kernel
theorem dL_areKept_67 : decode cL_areKept 67 = .ok (.iconst (-1), 1) := by decide +kernel
theorem dL_areKept_68 : decode cL_areKept 68 = .ok (.if_icmp .ne 27, 3) := by decide +kernel
theorem dL_areKept_71 : decode cL_areKept 71 = .ok (.aload_n 0, 1) := by decide +kernel
theorem dL_areKept_72 : decode cL_areKept 72 = .ok (.iload 10, 2) := by decide +kernel
theorem dL_areKept_74 : decode cL_areKept 74 = .ok (.iconst 0, 1) := by decide +kernel
theorem dL_areKept_75 : decode cL_areKept 75 = .ok (.iconst 0, 1) := by decide +kernel
theorem dL_areKept_76 : decode cL_areKept 76 = .ok (.invokevirtual 108, 3) := by decide +kernel
theorem dL_areKept_79 : decode cL_areKept 79 = .ok (.bipush (-2), 2) := by decide +kernel
theorem dL_areKept_81 : decode cL_areKept 81 = .ok (.if_icmp .ne 14, 3) := by decide +kernel
theorem dL_areKept_84 : decode cL_areKept 84 = .ok (.aload_n 0, 1) := by decide +kernel
theorem dL_areKept_85 : decode cL_areKept 85 = .ok (.iload 10, 2) := by decide +kernel
theorem dL_areKept_87 : decode cL_areKept 87 = .ok (.invokevirtual 52, 3) := by decide +kernel
theorem dL_areKept_90 : decode cL_areKept 90 = .ok (.bipush (-2), 2) := by decide +kernel
theorem dL_areKept_92 : decode cL_areKept 92 = .ok (.if_icmp .eq 558, 3) := by decide +kernel
theorem dL_areKept_95 : decode cL_areKept 95 = .ok (.iconst 0, 1) := by decide +kernel
theorem dL_areKept_96 : decode cL_areKept 96 = .ok (.ireturn, 1) := by decide +kernel
theorem dL_areKept_97 : decode cL_areKept 97 = .ok (.aload_n 2, 1) := by decide +kernel
theorem dL_areKept_98 : decode cL_areKept 98 = .ok (.iload 10, 2) := by decide +kernel
theorem dL_areKept_100 : decode cL_areKept 100 = .ok (.aload_n 3, 1) := by decide +kernel
theorem dL_areKept_101 : decode cL_areKept 101 = .ok (.aload 4, 2) := by decide +kernel
theorem dL_areKept_103 : decode cL_areKept 103 = .ok (.invokestatic 34, 3) := by decide +kernel
theorem dL_areKept_106 : decode cL_areKept 106 = .ok (.iconst (-1), 1) := by decide +kernel
theorem dL_areKept_107 : decode cL_areKept 107 = .ok (.if_icmp .ne 7, 3) := by decide +kernel
theorem dL_areKept_110 : decode cL_areKept 110 = .ok (.iconst 1, 1) := by decide +kernel
theorem dL_areKept_111 : decode cL_areKept 111 = .ok (.goto 4, 3) := by decide +kernel
theorem dL_areKept_114 : decode cL_areKept 114 = .ok (.iconst 0, 1) := by decide +kernel
theorem dL_areKept_115 : decode cL_areKept 115 = .ok (.istore 11, 2) := by decide +kernel
theorem dL_areKept_117 : decode cL_areKept 117 = .ok (.aload_n 2, 1) := by decide +kernel
theorem dL_areKept_118 : decode cL_areKept 118 = .ok (.bipush 8, 2) := by decide +kernel
theorem dL_areKept_120 : decode cL_areKept 120 = .ok (.iload 10, 2) := by decide +kernel
theorem dL_areKept_122 : decode cL_areKept 122 = .ok (.imul, 1) := by decide +kernel
theorem dL_areKept_123 : decode cL_areKept 123 = .ok (.iconst 4, 1) := by decide +kernel
theorem dL_areKept_124 : decode cL_areKept 124 = .ok (.iadd, 1) := by decide +kernel
theorem dL_areKept_125 : decode cL_areKept 125 = .ok (.iaload, 1) := by decide +kernel
theorem dL_areKept_126 : decode cL_areKept 126 = .ok (.istore 12, 2) := by decide +kernel
theorem dL_areKept_128 : decode cL_areKept 128 = .ok (.aload_n 2, 1) := by decide +kernel
theorem dL_areKept_129 : decode cL_areKept 129 = .ok (.bipush 8, 2) := by decide +kernel
theorem dL_areKept_131 : decode cL_areKept 131 = .ok (.iload 10, 2) := by decide +kernel
theorem dL_areKept_133 : decode cL_areKept 133 = .ok (.imul, 1) := by decide +kernel
theorem dL_areKept_134 : decode cL_areKept 134 = .ok (.iconst 2, 1) := by decide +kernel
theorem dL_areKept_135 : decode cL_areKept 135 = .ok (.iadd, 1) := by decide +kernel
theorem dL_areKept_136 : decode cL_areKept 136 = .ok (.iaload, 1) := by decide +kernel
theorem dL_areKept_137 : decode cL_areKept 137 = .ok (.iconst (-1), 1) := by decide +kernel
theorem dL_areKept_138 : decode cL_areKept 138 = .ok (.if_icmp .ne 8, 3) := by decide +kernel
theorem dL_areKept_141 : decode cL_areKept 141 = .ok (.iload 12, 2) := by decide +kernel
theorem dL_areKept_143 : decode cL_areKept 143 = .ok (.goto 9, 3) := by decide +kernel
theorem dL_areKept_146 : decode cL_areKept 146 = .ok (.iconst 2, 1) := by decide +kernel
theorem dL_areKept_147 : decode cL_areKept 147 = .ok (.iconst 2, 1) := by decide +kernel
theorem dL_areKept_148 : decode cL_areKept 148 = .ok (.iload 12, 2) := by decide +kernel
theorem dL_areKept_150 : decode cL_areKept 150 = .ok (.imul, 1) := by decide +kernel
theorem dL_areKept_151 : decode cL_areKept 151 = .ok (.iadd, 1) := by decide +kernel
theorem dL_areKept_152 : decode cL_areKept 152 = .ok (.istore 13, 2) := by decide +kernel
theorem dL_areKept_154 : decode cL_areKept 154 = .ok (.iconst 0, 1) := by decide +kernel
theorem dL_areKept_155 : decode cL_areKept 155 = .ok (.istore 14, 2) := by decide +kernel
theorem dL_areKept_157 : decode cL_areKept 157 = .ok (.iconst 0, 1) := by decide +kernel
theorem dL_areKept_158 : decode cL_areKept 158 = .ok (.istore 15, 2) := by decide +kernel
theorem dL_areKept_160 : decode cL_areKept 160 = .ok (.iload 15, 2) := by decide +kernel
theorem dL_areKept_162 : decode cL_areKept 162 = .ok (.aload_n 1, 1) := by decide +kernel
theorem dL_areKept_163 : decode cL_areKept 163 = .ok (.bipush 16, 2) := by decide +kernel
theorem dL_areKept_165 : decode cL_areKept 165 = .ok (.iaload, 1) := by decide +kernel
theorem dL_areKept_166 : decode cL_areKept 166 = .ok (.if_icmp .ge 43, 3) := by decide +kernel
theorem dL_areKept_169 : decode cL_areKept 169 = .ok (.iload 14, 2) := by decide +kernel
theorem dL_areKept_171 : decode cL_areKept 171 = .ok (.aload_n 2, 1) := by decide +kernel
theorem dL_areKept_172 : decode cL_areKept 172 = .ok (.bipush 8, 2) := by decide +kernel
theorem dL_areKept_174 : decode cL_areKept 174 = .ok (.iload 15, 2) := by decide +kernel
theorem dL_areKept_176 : decode cL_areKept 176 = .ok (.imul, 1) := by decide +kernel
theorem dL_areKept_177 : decode cL_areKept 177 = .ok (.iaload, 1) := by decide +kernel
theorem dL_areKept_178 : decode cL_areKept 178 = .ok (.ifCond .le 21, 3) := by decide +kernel
theorem dL_areKept_181 : decode cL_areKept 181 = .ok (.aload_n 2, 1) := by decide +kernel
theorem dL_areKept_182 : decode cL_areKept 182 = .ok (.bipush 8, 2) := by decide +kernel
theorem dL_areKept_184 : decode cL_areKept 184 = .ok (.iload 15, 2) := by decide +kernel
theorem dL_areKept_186 : decode cL_areKept 186 = .ok (.imul, 1) := by decide +kernel
theorem dL_areKept_187 : decode cL_areKept 187 = .ok (.iconst 2, 1) := by decide +kernel
theorem dL_areKept_188 : decode cL_areKept 188 = .ok (.iadd, 1) := by decide +kernel
theorem dL_areKept_189 : decode cL_areKept 189 = .ok (.iaload, 1) := by decide +kernel
theorem dL_areKept_190 : decode cL_areKept 190 = .ok (.iload 10, 2) := by decide +kernel
theorem dL_areKept_192 : decode cL_areKept 192 = .ok (.if_icmp .ne 7, 3) := by decide +kernel
theorem dL_areKept_195 : decode cL_areKept 195 = .ok (.iconst 1, 1) := by decide +kernel
theorem dL_areKept_196 : decode cL_areKept 196 = .ok (.goto 4, 3) := by decide +kernel
theorem dL_areKept_199 : decode cL_areKept 199 = .ok (.iconst 0, 1) := by decide +kernel
theorem dL_areKept_200 : decode cL_areKept 200 = .ok (.iadd, 1) := by decide +kernel
theorem dL_areKept_201 : decode cL_areKept 201 = .ok (.istore 14, 2) := by decide +kernel
theorem dL_areKept_203 : decode cL_areKept 203 = .ok (.iinc 15 1, 3) := by decide +kernel
theorem dL_areKept_206 : decode cL_areKept 206 = .ok (.goto (-46), 3) := by decide +kernel
theorem dL_areKept_209 : decode cL_areKept 209 = .ok (.aload_n 0, 1) := by decide +kernel
theorem dL_areKept_210 : decode cL_areKept 210 = .ok (.iload 10, 2) := by decide +kernel
theorem dL_areKept_212 : decode cL_areKept 212 = .ok (.iconst 0, 1) := by decide +kernel
theorem dL_areKept_213 : decode cL_areKept 213 = .ok (.invokevirtual 101, 3) := by decide +kernel
theorem dL_areKept_216 : decode cL_areKept 216 = .ok (.aload_n 2, 1) := by decide +kernel
theorem dL_areKept_217 : decode cL_areKept 217 = .ok (.bipush 8, 2) := by decide +kernel
theorem dL_areKept_219 : decode cL_areKept 219 = .ok (.iload 10, 2) := by decide +kernel
theorem dL_areKept_221 : decode cL_areKept 221 = .ok (.imul, 1) := by decide +kernel
theorem dL_areKept_222 : decode cL_areKept 222 = .ok (.iaload, 1) := by decide +kernel
theorem dL_areKept_223 : decode cL_areKept 223 = .ok (.if_icmp .ne 115, 3) := by decide +kernel
theorem dL_areKept_226 : decode cL_areKept 226 = .ok (.aload_n 0, 1) := by decide +kernel
theorem dL_areKept_227 : decode cL_areKept 227 = .ok (.iload 10, 2) := by decide +kernel
theorem dL_areKept_229 : decode cL_areKept 229 = .ok (.iconst 1, 1) := by decide +kernel
theorem dL_areKept_230 : decode cL_areKept 230 = .ok (.invokevirtual 101, 3) := by decide +kernel
theorem dL_areKept_233 : decode cL_areKept 233 = .ok (.aload_n 2, 1) := by decide +kernel
theorem dL_areKept_234 : decode cL_areKept 234 = .ok (.bipush 8, 2) := by decide +kernel
theorem dL_areKept_236 : decode cL_areKept 236 = .ok (.iload 10, 2) := by decide +kernel
theorem dL_areKept_238 : decode cL_areKept 238 = .ok (.imul, 1) := by decide +kernel
theorem dL_areKept_239 : decode cL_areKept 239 = .ok (.iconst 1, 1) := by decide +kernel
theorem dL_areKept_240 : decode cL_areKept 240 = .ok (.iadd, 1) := by decide +kernel
theorem dL_areKept_241 : decode cL_areKept 241 = .ok (.iaload, 1) := by decide +kernel
theorem dL_areKept_242 : decode cL_areKept 242 = .ok (.if_icmp .ne 96, 3) := by decide +kernel
theorem dL_areKept_245 : decode cL_areKept 245 = .ok (.aload_n 0, 1) := by decide +kernel
theorem dL_areKept_246 : decode cL_areKept 246 = .ok (.iload 10, 2) := by decide +kernel
theorem dL_areKept_248 : decode cL_areKept 248 = .ok (.iconst 2, 1) := by decide +kernel
theorem dL_areKept_249 : decode cL_areKept 249 = .ok (.invokevirtual 101, 3) := by decide +kernel
theorem dL_areKept_252 : decode cL_areKept 252 = .ok (.aload_n 2, 1) := by decide +kernel
theorem dL_areKept_253 : decode cL_areKept 253 = .ok (.bipush 8, 2) := by decide +kernel
theorem dL_areKept_255 : decode cL_areKept 255 = .ok (.iload 10, 2) := by decide +kernel
theorem dL_areKept_257 : decode cL_areKept 257 = .ok (.imul, 1) := by decide +kernel
theorem dL_areKept_258 : decode cL_areKept 258 = .ok (.iconst 2, 1) := by decide +kernel
theorem dL_areKept_259 : decode cL_areKept 259 = .ok (.iadd, 1) := by decide +kernel
theorem dL_areKept_260 : decode cL_areKept 260 = .ok (.iaload, 1) := by decide +kernel
theorem dL_areKept_261 : decode cL_areKept 261 = .ok (.if_icmp .ne 77, 3) := by decide +kernel
theorem dL_areKept_264 : decode cL_areKept 264 = .ok (.aload_n 0, 1) := by decide +kernel
theorem dL_areKept_265 : decode cL_areKept 265 = .ok (.iload 10, 2) := by decide +kernel
theorem dL_areKept_267 : decode cL_areKept 267 = .ok (.iconst 3, 1) := by decide +kernel
theorem dL_areKept_268 : decode cL_areKept 268 = .ok (.invokevirtual 101, 3) := by decide +kernel
theorem dL_areKept_271 : decode cL_areKept 271 = .ok (.iload 12, 2) := by decide +kernel
theorem dL_areKept_273 : decode cL_areKept 273 = .ok (.if_icmp .ne 65, 3) := by decide +kernel
theorem dL_areKept_276 : decode cL_areKept 276 = .ok (.aload_n 0, 1) := by decide +kernel
theorem dL_areKept_277 : decode cL_areKept 277 = .ok (.iload 10, 2) := by decide +kernel
theorem dL_areKept_279 : decode cL_areKept 279 = .ok (.iconst 4, 1) := by decide +kernel
theorem dL_areKept_280 : decode cL_areKept 280 = .ok (.invokevirtual 101, 3) := by decide +kernel
theorem dL_areKept_283 : decode cL_areKept 283 = .ok (.aload_n 2, 1) := by decide +kernel
theorem dL_areKept_284 : decode cL_areKept 284 = .ok (.iload 10, 2) := by decide +kernel
theorem dL_areKept_286 : decode cL_areKept 286 = .ok (.invokestatic 15, 3) := by decide +kernel
theorem dL_areKept_289 : decode cL_areKept 289 = .ok (.if_icmp .ne 49, 3) := by decide +kernel
theorem dL_areKept_292 : decode cL_areKept 292 = .ok (.aload_n 0, 1) := by decide +kernel
theorem dL_areKept_293 : decode cL_areKept 293 = .ok (.iload 10, 2) := by decide +kernel
theorem dL_areKept_295 : decode cL_areKept 295 = .ok (.iconst 5, 1) := by decide +kernel
theorem dL_areKept_296 : decode cL_areKept 296 = .ok (.invokevirtual 101, 3) := by decide +kernel
theorem dL_areKept_299 : decode cL_areKept 299 = .ok (.iload 11, 2) := by decide +kernel
theorem dL_areKept_301 : decode cL_areKept 301 = .ok (.ifCond .eq 7, 3) := by decide +kernel
theorem dL_areKept_304 : decode cL_areKept 304 = .ok (.iconst 1, 1) := by decide +kernel
theorem dL_areKept_305 : decode cL_areKept 305 = .ok (.goto 4, 3) := by decide +kernel
theorem dL_areKept_308 : decode cL_areKept 308 = .ok (.iconst 0, 1) := by decide +kernel
theorem dL_areKept_309 : decode cL_areKept 309 = .ok (.if_icmp .ne 29, 3) := by decide +kernel
theorem dL_areKept_312 : decode cL_areKept 312 = .ok (.aload_n 0, 1) := by decide +kernel
theorem dL_areKept_313 : decode cL_areKept 313 = .ok (.iload 10, 2) := by decide +kernel
theorem dL_areKept_315 : decode cL_areKept 315 = .ok (.bipush 6, 2) := by decide +kernel
theorem dL_areKept_317 : decode cL_areKept 317 = .ok (.invokevirtual 101, 3) := by decide +kernel
theorem dL_areKept_320 : decode cL_areKept 320 = .ok (.iload 13, 2) := by decide +kernel
theorem dL_areKept_322 : decode cL_areKept 322 = .ok (.if_icmp .ne 16, 3) := by decide +kernel
theorem dL_areKept_325 : decode cL_areKept 325 = .ok (.aload_n 0, 1) := by decide +kernel
theorem dL_areKept_326 : decode cL_areKept 326 = .ok (.iload 10, 2) := by decide +kernel
theorem dL_areKept_328 : decode cL_areKept 328 = .ok (.bipush 7, 2) := by decide +kernel
theorem dL_areKept_330 : decode cL_areKept 330 = .ok (.invokevirtual 101, 3) := by decide +kernel
theorem dL_areKept_333 : decode cL_areKept 333 = .ok (.iload 14, 2) := by decide +kernel
theorem dL_areKept_335 : decode cL_areKept 335 = .ok (.if_icmp .eq 5, 3) := by decide +kernel
theorem dL_areKept_338 : decode cL_areKept 338 = .ok (.iconst 0, 1) := by decide +kernel
theorem dL_areKept_339 : decode cL_areKept 339 = .ok (.ireturn, 1) := by decide +kernel
theorem dL_areKept_340 : decode cL_areKept 340 = .ok (.iconst 0, 1) := by decide +kernel
theorem dL_areKept_341 : decode cL_areKept 341 = .ok (.istore 15, 2) := by decide +kernel
theorem dL_areKept_343 : decode cL_areKept 343 = .ok (.iconst 0, 1) := by decide +kernel
theorem dL_areKept_344 : decode cL_areKept 344 = .ok (.istore 16, 2) := by decide +kernel
theorem dL_areKept_346 : decode cL_areKept 346 = .ok (.iload 16, 2) := by decide +kernel
theorem dL_areKept_348 : decode cL_areKept 348 = .ok (.bipush 12, 2) := by decide +kernel
theorem dL_areKept_350 : decode cL_areKept 350 = .ok (.if_icmp .ge 117, 3) := by decide +kernel
theorem dL_areKept_353 : decode cL_areKept 353 = .ok (.aload_n 2, 1) := by decide +kernel
theorem dL_areKept_354 : decode cL_areKept 354 = .ok (.bipush 8, 2) := by decide +kernel
theorem dL_areKept_356 : decode cL_areKept 356 = .ok (.iload 10, 2) := by decide +kernel
theorem dL_areKept_358 : decode cL_areKept 358 = .ok (.imul, 1) := by decide +kernel
theorem dL_areKept_359 : decode cL_areKept 359 = .ok (.iconst 3, 1) := by decide +kernel
theorem dL_areKept_360 : decode cL_areKept 360 = .ok (.iadd, 1) := by decide +kernel
theorem dL_areKept_361 : decode cL_areKept 361 = .ok (.iaload, 1) := by decide +kernel
theorem dL_areKept_362 : decode cL_areKept 362 = .ok (.iload 16, 2) := by decide +kernel
theorem dL_areKept_364 : decode cL_areKept 364 = .ok (.ishr, 1) := by decide +kernel
theorem dL_areKept_365 : decode cL_areKept 365 = .ok (.iconst 1, 1) := by decide +kernel
theorem dL_areKept_366 : decode cL_areKept 366 = .ok (.iand, 1) := by decide +kernel
theorem dL_areKept_367 : decode cL_areKept 367 = .ok (.iconst 1, 1) := by decide +kernel
theorem dL_areKept_368 : decode cL_areKept 368 = .ok (.if_icmp .ne 42, 3) := by decide +kernel
theorem dL_areKept_371 : decode cL_areKept 371 = .ok (.aload_n 0, 1) := by decide +kernel
theorem dL_areKept_372 : decode cL_areKept 372 = .ok (.iload 10, 2) := by decide +kernel
theorem dL_areKept_374 : decode cL_areKept 374 = .ok (.iload 15, 2) := by decide +kernel
theorem dL_areKept_376 : decode cL_areKept 376 = .ok (.iconst 0, 1) := by decide +kernel
theorem dL_areKept_377 : decode cL_areKept 377 = .ok (.invokevirtual 104, 3) := by decide +kernel
theorem dL_areKept_380 : decode cL_areKept 380 = .ok (.iload 16, 2) := by decide +kernel
theorem dL_areKept_382 : decode cL_areKept 382 = .ok (.if_icmp .ne 23, 3) := by decide +kernel
theorem dL_areKept_385 : decode cL_areKept 385 = .ok (.aload_n 0, 1) := by decide +kernel
theorem dL_areKept_386 : decode cL_areKept 386 = .ok (.iload 10, 2) := by decide +kernel
theorem dL_areKept_388 : decode cL_areKept 388 = .ok (.iload 15, 2) := by decide +kernel
theorem dL_areKept_390 : decode cL_areKept 390 = .ok (.iconst 1, 1) := by decide +kernel
theorem dL_areKept_391 : decode cL_areKept 391 = .ok (.invokevirtual 104, 3) := by decide +kernel
theorem dL_areKept_394 : decode cL_areKept 394 = .ok (.aload_n 2, 1) := by decide +kernel
theorem dL_areKept_395 : decode cL_areKept 395 = .ok (.iload 10, 2) := by decide +kernel
theorem dL_areKept_397 : decode cL_areKept 397 = .ok (.iload 15, 2) := by decide +kernel
theorem dL_areKept_399 : decode cL_areKept 399 = .ok (.invokestatic 27, 3) := by decide +kernel
theorem dL_areKept_402 : decode cL_areKept 402 = .ok (.if_icmp .eq 5, 3) := by decide +kernel
theorem dL_areKept_405 : decode cL_areKept 405 = .ok (.iconst 0, 1) := by decide +kernel
theorem dL_areKept_406 : decode cL_areKept 406 = .ok (.ireturn, 1) := by decide +kernel
theorem dL_areKept_407 : decode cL_areKept 407 = .ok (.iinc 15 1, 3) := by decide +kernel
theorem dL_areKept_410 : decode cL_areKept 410 = .ok (.iload 11, 2) := by decide +kernel
theorem dL_areKept_412 : decode cL_areKept 412 = .ok (.ifCond .ne 8, 3) := by decide +kernel
theorem dL_areKept_415 : decode cL_areKept 415 = .ok (.bipush (-3), 2) := by decide +kernel
theorem dL_areKept_417 : decode cL_areKept 417 = .ok (.goto 26, 3) := by decide +kernel
theorem dL_areKept_420 : decode cL_areKept 420 = .ok (.iload 16, 2) := by decide +kernel
theorem dL_areKept_422 : decode cL_areKept 422 = .ok (.aload_n 2, 1) := by decide +kernel
theorem dL_areKept_423 : decode cL_areKept 423 = .ok (.bipush 8, 2) := by decide +kernel
theorem dL_areKept_425 : decode cL_areKept 425 = .ok (.iload 10, 2) := by decide +kernel
theorem dL_areKept_427 : decode cL_areKept 427 = .ok (.imul, 1) := by decide +kernel
theorem dL_areKept_428 : decode cL_areKept 428 = .ok (.iaload, 1) := by decide +kernel
theorem dL_areKept_429 : decode cL_areKept 429 = .ok (.invokestatic 11, 3) := by decide +kernel
theorem dL_areKept_432 : decode cL_areKept 432 = .ok (.if_icmp .ge 10, 3) := by decide +kernel
theorem dL_areKept_435 : decode cL_areKept 435 = .ok (.aload_n 3, 1) := by decide +kernel
theorem dL_areKept_436 : decode cL_areKept 436 = .ok (.iload 16, 2) := by decide +kernel
theorem dL_areKept_438 : decode cL_areKept 438 = .ok (.iaload, 1) := by decide +kernel
theorem dL_areKept_439 : decode cL_areKept 439 = .ok (.goto 4, 3) := by decide +kernel
theorem dL_areKept_442 : decode cL_areKept 442 = .ok (.iconst (-1), 1) := by decide +kernel
theorem dL_areKept_443 : decode cL_areKept 443 = .ok (.istore 17, 2) := by decide +kernel
theorem dL_areKept_445 : decode cL_areKept 445 = .ok (.aload_n 0, 1) := by decide +kernel
theorem dL_areKept_446 : decode cL_areKept 446 = .ok (.iload 10, 2) := by decide +kernel
theorem dL_areKept_448 : decode cL_areKept 448 = .ok (.iconst 0, 1) := by decide +kernel
theorem dL_areKept_449 : decode cL_areKept 449 = .ok (.iload 16, 2) := by decide +kernel
theorem dL_areKept_451 : decode cL_areKept 451 = .ok (.invokevirtual 108, 3) := by decide +kernel
theorem dL_areKept_454 : decode cL_areKept 454 = .ok (.iload 17, 2) := by decide +kernel
theorem dL_areKept_456 : decode cL_areKept 456 = .ok (.if_icmp .eq 5, 3) := by decide +kernel
theorem dL_areKept_459 : decode cL_areKept 459 = .ok (.iconst 0, 1) := by decide +kernel
theorem dL_areKept_460 : decode cL_areKept 460 = .ok (.ireturn, 1) := by decide +kernel
theorem dL_areKept_461 : decode cL_areKept 461 = .ok (.iinc 16 1, 3) := by decide +kernel
theorem dL_areKept_464 : decode cL_areKept 464 = .ok (.goto (-118), 3) := by decide +kernel
theorem dL_areKept_467 : decode cL_areKept 467 = .ok (.iload 11, 2) := by decide +kernel
theorem dL_areKept_469 : decode cL_areKept 469 = .ok (.ifCond .eq 18, 3) := by decide +kernel
theorem dL_areKept_472 : decode cL_areKept 472 = .ok (.aload_n 3, 1) := by decide +kernel
theorem dL_areKept_473 : decode cL_areKept 473 = .ok (.bipush 12, 2) := by decide +kernel
theorem dL_areKept_475 : decode cL_areKept 475 = .ok (.iaload, 1) := by decide +kernel
theorem dL_areKept_476 : decode cL_areKept 476 = .ok (.iconst 3, 1) := by decide +kernel
theorem dL_areKept_477 : decode cL_areKept 477 = .ok (.if_icmp .ge 10, 3) := by decide +kernel
theorem dL_areKept_480 : decode cL_areKept 480 = .ok (.aload_n 3, 1) := by decide +kernel
theorem dL_areKept_481 : decode cL_areKept 481 = .ok (.invokestatic 23, 3) := by decide +kernel
theorem dL_areKept_484 : decode cL_areKept 484 = .ok (.goto (-17), 3) := by decide +kernel
theorem dL_areKept_487 : decode cL_areKept 487 = .ok (.aload_n 0, 1) := by decide +kernel
theorem dL_areKept_488 : decode cL_areKept 488 = .ok (.iload 10, 2) := by decide +kernel
theorem dL_areKept_490 : decode cL_areKept 490 = .ok (.iconst 3, 1) := by decide +kernel
theorem dL_areKept_491 : decode cL_areKept 491 = .ok (.bipush 11, 2) := by decide +kernel
theorem dL_areKept_493 : decode cL_areKept 493 = .ok (.invokevirtual 108, 3) := by decide +kernel
theorem dL_areKept_496 : decode cL_areKept 496 = .ok (.iload 11, 2) := by decide +kernel
theorem dL_areKept_498 : decode cL_areKept 498 = .ok (.ifCond .eq 10, 3) := by decide +kernel
theorem dL_areKept_501 : decode cL_areKept 501 = .ok (.aload_n 3, 1) := by decide +kernel
theorem dL_areKept_502 : decode cL_areKept 502 = .ok (.bipush 11, 2) := by decide +kernel
theorem dL_areKept_504 : decode cL_areKept 504 = .ok (.iaload, 1) := by decide +kernel
theorem dL_areKept_505 : decode cL_areKept 505 = .ok (.goto 5, 3) := by decide +kernel
theorem dL_areKept_508 : decode cL_areKept 508 = .ok (.bipush (-3), 2) := by decide +kernel
theorem dL_areKept_510 : decode cL_areKept 510 = .ok (.if_icmp .ne 66, 3) := by decide +kernel
theorem dL_areKept_513 : decode cL_areKept 513 = .ok (.aload_n 0, 1) := by decide +kernel
theorem dL_areKept_514 : decode cL_areKept 514 = .ok (.iload 10, 2) := by decide +kernel
theorem dL_areKept_516 : decode cL_areKept 516 = .ok (.iconst 3, 1) := by decide +kernel
theorem dL_areKept_517 : decode cL_areKept 517 = .ok (.iconst 1, 1) := by decide +kernel
theorem dL_areKept_518 : decode cL_areKept 518 = .ok (.invokevirtual 108, 3) := by decide +kernel
theorem dL_areKept_521 : decode cL_areKept 521 = .ok (.iload 11, 2) := by decide +kernel
theorem dL_areKept_523 : decode cL_areKept 523 = .ok (.ifCond .eq 9, 3) := by decide +kernel
theorem dL_areKept_526 : decode cL_areKept 526 = .ok (.aload_n 3, 1) := by decide +kernel
theorem dL_areKept_527 : decode cL_areKept 527 = .ok (.iconst 1, 1) := by decide +kernel
theorem dL_areKept_528 : decode cL_areKept 528 = .ok (.iaload, 1) := by decide +kernel
theorem dL_areKept_529 : decode cL_areKept 529 = .ok (.goto 5, 3) := by decide +kernel
theorem dL_areKept_532 : decode cL_areKept 532 = .ok (.bipush (-3), 2) := by decide +kernel
theorem dL_areKept_534 : decode cL_areKept 534 = .ok (.if_icmp .ne 42, 3) := by decide +kernel
theorem dL_areKept_537 : decode cL_areKept 537 = .ok (.aload_n 0, 1) := by decide +kernel
theorem dL_areKept_538 : decode cL_areKept 538 = .ok (.iload 10, 2) := by decide +kernel
theorem dL_areKept_540 : decode cL_areKept 540 = .ok (.iconst 4, 1) := by decide +kernel
theorem dL_areKept_541 : decode cL_areKept 541 = .ok (.iconst 0, 1) := by decide +kernel
theorem dL_areKept_542 : decode cL_areKept 542 = .ok (.invokevirtual 108, 3) := by decide +kernel
theorem dL_areKept_545 : decode cL_areKept 545 = .ok (.bipush (-2), 2) := by decide +kernel
theorem dL_areKept_547 : decode cL_areKept 547 = .ok (.if_icmp .ne 29, 3) := by decide +kernel
theorem dL_areKept_550 : decode cL_areKept 550 = .ok (.aload_n 0, 1) := by decide +kernel
theorem dL_areKept_551 : decode cL_areKept 551 = .ok (.iload 10, 2) := by decide +kernel
theorem dL_areKept_553 : decode cL_areKept 553 = .ok (.iconst 0, 1) := by decide +kernel
theorem dL_areKept_554 : decode cL_areKept 554 = .ok (.iconst (-1), 1) := by decide +kernel
theorem dL_areKept_555 : decode cL_areKept 555 = .ok (.invokevirtual 108, 3) := by decide +kernel
theorem dL_areKept_558 : decode cL_areKept 558 = .ok (.bipush (-2), 2) := by decide +kernel
theorem dL_areKept_560 : decode cL_areKept 560 = .ok (.if_icmp .ne 16, 3) := by decide +kernel
theorem dL_areKept_563 : decode cL_areKept 563 = .ok (.aload_n 0, 1) := by decide +kernel
theorem dL_areKept_564 : decode cL_areKept 564 = .ok (.iload 10, 2) := by decide +kernel
theorem dL_areKept_566 : decode cL_areKept 566 = .ok (.iload 12, 2) := by decide +kernel
theorem dL_areKept_568 : decode cL_areKept 568 = .ok (.iconst 0, 1) := by decide +kernel
theorem dL_areKept_569 : decode cL_areKept 569 = .ok (.invokevirtual 104, 3) := by decide +kernel
theorem dL_areKept_572 : decode cL_areKept 572 = .ok (.iconst (-1), 1) := by decide +kernel
theorem dL_areKept_573 : decode cL_areKept 573 = .ok (.if_icmp .eq 5, 3) := by decide +kernel
theorem dL_areKept_576 : decode cL_areKept 576 = .ok (.iconst 0, 1) := by decide +kernel
theorem dL_areKept_577 : decode cL_areKept 577 = .ok (.ireturn, 1) := by decide +kernel
theorem dL_areKept_578 : decode cL_areKept 578 = .ok (.iinc 5 1, 3) := by decide +kernel
theorem dL_areKept_581 : decode cL_areKept 581 = .ok (.iload 6, 2) := by decide +kernel
theorem dL_areKept_583 : decode cL_areKept 583 = .ok (.aload_n 2, 1) := by decide +kernel
theorem dL_areKept_584 : decode cL_areKept 584 = .ok (.bipush 8, 2) := by decide +kernel
theorem dL_areKept_586 : decode cL_areKept 586 = .ok (.iload 10, 2) := by decide +kernel
theorem dL_areKept_588 : decode cL_areKept 588 = .ok (.imul, 1) := by decide +kernel
theorem dL_areKept_589 : decode cL_areKept 589 = .ok (.iconst 2, 1) := by decide +kernel
theorem dL_areKept_590 : decode cL_areKept 590 = .ok (.iadd, 1) := by decide +kernel
theorem dL_areKept_591 : decode cL_areKept 591 = .ok (.iaload, 1) := by decide +kernel
theorem dL_areKept_592 : decode cL_areKept 592 = .ok (.iconst (-1), 1) := by decide +kernel
theorem dL_areKept_593 : decode cL_areKept 593 = .ok (.if_icmp .ne 7, 3) := by decide +kernel
theorem dL_areKept_596 : decode cL_areKept 596 = .ok (.iconst 1, 1) := by decide +kernel
theorem dL_areKept_597 : decode cL_areKept 597 = .ok (.goto 4, 3) := by decide +kernel
theorem dL_areKept_600 : decode cL_areKept 600 = .ok (.iconst 0, 1) := by decide +kernel
theorem dL_areKept_601 : decode cL_areKept 601 = .ok (.iadd, 1) := by decide +kernel
theorem dL_areKept_602 : decode cL_areKept 602 = .ok (.istore 6, 2) := by decide +kernel
theorem dL_areKept_604 : decode cL_areKept 604 = .ok (.iload 7, 2) := by decide +kernel
theorem dL_areKept_606 : decode cL_areKept 606 = .ok (.iload 11, 2) := by decide +kernel
theorem dL_areKept_608 : decode cL_areKept 608 = .ok (.ifCond .eq 7, 3) := by decide +kernel
theorem dL_areKept_611 : decode cL_areKept 611 = .ok (.iconst 0, 1) := by decide +kernel
theorem dL_areKept_612 : decode cL_areKept 612 = .ok (.goto 4, 3) := by decide +kernel
theorem dL_areKept_615 : decode cL_areKept 615 = .ok (.iconst 1, 1) := by decide +kernel
theorem dL_areKept_616 : decode cL_areKept 616 = .ok (.iadd, 1) := by decide +kernel
theorem dL_areKept_617 : decode cL_areKept 617 = .ok (.istore 7, 2) := by decide +kernel
theorem dL_areKept_619 : decode cL_areKept 619 = .ok (.iload 8, 2) := by decide +kernel
theorem dL_areKept_621 : decode cL_areKept 621 = .ok (.iload 13, 2) := by decide +kernel
theorem dL_areKept_623 : decode cL_areKept 623 = .ok (.iadd, 1) := by decide +kernel
theorem dL_areKept_624 : decode cL_areKept 624 = .ok (.istore 8, 2) := by decide +kernel
theorem dL_areKept_626 : decode cL_areKept 626 = .ok (.aload_n 2, 1) := by decide +kernel
theorem dL_areKept_627 : decode cL_areKept 627 = .ok (.iload 10, 2) := by decide +kernel
theorem dL_areKept_629 : decode cL_areKept 629 = .ok (.invokestatic 15, 3) := by decide +kernel
theorem dL_areKept_632 : decode cL_areKept 632 = .ok (.iload 9, 2) := by decide +kernel
theorem dL_areKept_634 : decode cL_areKept 634 = .ok (.if_icmp .le 12, 3) := by decide +kernel
theorem dL_areKept_637 : decode cL_areKept 637 = .ok (.aload_n 2, 1) := by decide +kernel
theorem dL_areKept_638 : decode cL_areKept 638 = .ok (.iload 10, 2) := by decide +kernel
theorem dL_areKept_640 : decode cL_areKept 640 = .ok (.invokestatic 15, 3) := by decide +kernel
theorem dL_areKept_643 : decode cL_areKept 643 = .ok (.goto 5, 3) := by decide +kernel
theorem dL_areKept_646 : decode cL_areKept 646 = .ok (.iload 9, 2) := by decide +kernel
theorem dL_areKept_648 : decode cL_areKept 648 = .ok (.istore 9, 2) := by decide +kernel
theorem dL_areKept_650 : decode cL_areKept 650 = .ok (.iinc 10 1, 3) := by decide +kernel
theorem dL_areKept_653 : decode cL_areKept 653 = .ok (.goto (-624), 3) := by decide +kernel
theorem dL_areKept_656 : decode cL_areKept 656 = .ok (.aload_n 0, 1) := by decide +kernel
theorem dL_areKept_657 : decode cL_areKept 657 = .ok (.iconst 3, 1) := by decide +kernel
theorem dL_areKept_658 : decode cL_areKept 658 = .ok (.invokevirtual 98, 3) := by decide +kernel
theorem dL_areKept_661 : decode cL_areKept 661 = .ok (.iload 5, 2) := by decide +kernel
theorem dL_areKept_663 : decode cL_areKept 663 = .ok (.if_icmp .ne 85, 3) := by decide +kernel
theorem dL_areKept_666 : decode cL_areKept 666 = .ok (.aload_n 0, 1) := by decide +kernel
theorem dL_areKept_667 : decode cL_areKept 667 = .ok (.iconst 4, 1) := by decide +kernel
theorem dL_areKept_668 : decode cL_areKept 668 = .ok (.invokevirtual 98, 3) := by decide +kernel
theorem dL_areKept_671 : decode cL_areKept 671 = .ok (.iload 6, 2) := by decide +kernel
theorem dL_areKept_673 : decode cL_areKept 673 = .ok (.if_icmp .ne 75, 3) := by decide +kernel
theorem dL_areKept_676 : decode cL_areKept 676 = .ok (.aload_n 0, 1) := by decide +kernel
theorem dL_areKept_677 : decode cL_areKept 677 = .ok (.iconst 5, 1) := by decide +kernel
theorem dL_areKept_678 : decode cL_areKept 678 = .ok (.invokevirtual 98, 3) := by decide +kernel
theorem dL_areKept_681 : decode cL_areKept 681 = .ok (.iload 7, 2) := by decide +kernel
theorem dL_areKept_683 : decode cL_areKept 683 = .ok (.if_icmp .ne 65, 3) := by decide +kernel
theorem dL_areKept_686 : decode cL_areKept 686 = .ok (.aload_n 0, 1) := by decide +kernel
theorem dL_areKept_687 : decode cL_areKept 687 = .ok (.bipush 6, 2) := by decide +kernel
theorem dL_areKept_689 : decode cL_areKept 689 = .ok (.invokevirtual 98, 3) := by decide +kernel
theorem dL_areKept_692 : decode cL_areKept 692 = .ok (.iload 8, 2) := by decide +kernel
theorem dL_areKept_694 : decode cL_areKept 694 = .ok (.if_icmp .ne 54, 3) := by decide +kernel
theorem dL_areKept_697 : decode cL_areKept 697 = .ok (.aload_n 0, 1) := by decide +kernel
theorem dL_areKept_698 : decode cL_areKept 698 = .ok (.bipush 8, 2) := by decide +kernel
theorem dL_areKept_700 : decode cL_areKept 700 = .ok (.invokevirtual 98, 3) := by decide +kernel
theorem dL_areKept_703 : decode cL_areKept 703 = .ok (.iload 9, 2) := by decide +kernel
theorem dL_areKept_705 : decode cL_areKept 705 = .ok (.if_icmp .ne 43, 3) := by decide +kernel
theorem dL_areKept_708 : decode cL_areKept 708 = .ok (.aload_n 0, 1) := by decide +kernel
theorem dL_areKept_709 : decode cL_areKept 709 = .ok (.aload_n 1, 1) := by decide +kernel
theorem dL_areKept_710 : decode cL_areKept 710 = .ok (.bipush 16, 2) := by decide +kernel
theorem dL_areKept_712 : decode cL_areKept 712 = .ok (.iaload, 1) := by decide +kernel
theorem dL_areKept_713 : decode cL_areKept 713 = .ok (.iconst 0, 1) := by decide +kernel
theorem dL_areKept_714 : decode cL_areKept 714 = .ok (.invokevirtual 101, 3) := by decide +kernel
theorem dL_areKept_717 : decode cL_areKept 717 = .ok (.iconst (-1), 1) := by decide +kernel
theorem dL_areKept_718 : decode cL_areKept 718 = .ok (.if_icmp .ne 30, 3) := by decide +kernel
theorem dL_areKept_721 : decode cL_areKept 721 = .ok (.aload_n 0, 1) := by decide +kernel
theorem dL_areKept_722 : decode cL_areKept 722 = .ok (.iconst (-1), 1) := by decide +kernel
theorem dL_areKept_723 : decode cL_areKept 723 = .ok (.iconst 0, 1) := by decide +kernel
theorem dL_areKept_724 : decode cL_areKept 724 = .ok (.invokevirtual 101, 3) := by decide +kernel
theorem dL_areKept_727 : decode cL_areKept 727 = .ok (.bipush (-2), 2) := by decide +kernel
theorem dL_areKept_729 : decode cL_areKept 729 = .ok (.if_icmp .ne 19, 3) := by decide +kernel
theorem dL_areKept_732 : decode cL_areKept 732 = .ok (.aload_n 0, 1) := by decide +kernel
theorem dL_areKept_733 : decode cL_areKept 733 = .ok (.iconst 0, 1) := by decide +kernel
theorem dL_areKept_734 : decode cL_areKept 734 = .ok (.bipush 8, 2) := by decide +kernel
theorem dL_areKept_736 : decode cL_areKept 736 = .ok (.invokevirtual 101, 3) := by decide +kernel
theorem dL_areKept_739 : decode cL_areKept 739 = .ok (.bipush (-2), 2) := by decide +kernel
theorem dL_areKept_741 : decode cL_areKept 741 = .ok (.if_icmp .ne 7, 3) := by decide +kernel
theorem dL_areKept_744 : decode cL_areKept 744 = .ok (.iconst 1, 1) := by decide +kernel
theorem dL_areKept_745 : decode cL_areKept 745 = .ok (.goto 4, 3) := by decide +kernel
theorem dL_areKept_748 : decode cL_areKept 748 = .ok (.iconst 0, 1) := by decide +kernel
theorem dL_areKept_749 : decode cL_areKept 749 = .ok (.ireturn, 1) := by decide +kernel
theorem dL_law_0 : decode cL_law 0 = .ok (.new 47, 3) := by decide +kernel
theorem dL_law_3 : decode cL_law 3 = .ok (.dup, 1) := by decide +kernel
theorem dL_law_4 : decode cL_law 4 = .ok (.invokespecial 111, 3) := by decide +kernel
theorem dL_law_7 : decode cL_law 7 = .ok (.astore_n 1, 1) := by decide +kernel
theorem dL_law_8 : decode cL_law 8 = .ok (.bipush 20, 2) := by decide +kernel
theorem dL_law_10 : decode cL_law 10 = .ok (.newarray .int, 2) := by decide +kernel
theorem dL_law_12 : decode cL_law 12 = .ok (.astore_n 2, 1) := by decide +kernel
theorem dL_law_13 : decode cL_law 13 = .ok (.bipush 64, 2) := by decide +kernel
theorem dL_law_15 : decode cL_law 15 = .ok (.newarray .int, 2) := by decide +kernel
theorem dL_law_17 : decode cL_law 17 = .ok (.astore_n 3, 1) := by decide +kernel
theorem dL_law_18 : decode cL_law 18 = .ok (.aload_n 2, 1) := by decide +kernel
theorem dL_law_19 : decode cL_law 19 = .ok (.invokestatic 112, 3) := by decide +kernel
theorem dL_law_22 : decode cL_law 22 = .ok (.aload_n 1, 1) := by decide +kernel
theorem dL_law_23 : decode cL_law 23 = .ok (.iconst 0, 1) := by decide +kernel
theorem dL_law_24 : decode cL_law 24 = .ok (.invokevirtual 52, 3) := by decide +kernel
theorem dL_law_27 : decode cL_law 27 = .ok (.bipush (-2), 2) := by decide +kernel
theorem dL_law_29 : decode cL_law 29 = .ok (.if_icmp .ne 79, 3) := by decide +kernel
theorem dL_law_32 : decode cL_law 32 = .ok (.aload_n 1, 1) := by decide +kernel
theorem dL_law_33 : decode cL_law 33 = .ok (.iconst 0, 1) := by decide +kernel
theorem dL_law_34 : decode cL_law 34 = .ok (.iconst 1, 1) := by decide +kernel
theorem dL_law_35 : decode cL_law 35 = .ok (.invokevirtual 115, 3) := by decide +kernel
theorem dL_law_38 : decode cL_law 38 = .ok (.bipush (-2), 2) := by decide +kernel
theorem dL_law_40 : decode cL_law 40 = .ok (.if_icmp .ne 68, 3) := by decide +kernel
theorem dL_law_43 : decode cL_law 43 = .ok (.aload_n 1, 1) := by decide +kernel
theorem dL_law_44 : decode cL_law 44 = .ok (.iconst 0, 1) := by decide +kernel
theorem dL_law_45 : decode cL_law 45 = .ok (.iconst 0, 1) := by decide +kernel
theorem dL_law_46 : decode cL_law 46 = .ok (.iconst 0, 1) := by decide +kernel
theorem dL_law_47 : decode cL_law 47 = .ok (.invokevirtual 119, 3) := by decide +kernel
theorem dL_law_50 : decode cL_law 50 = .ok (.bipush (-2), 2) := by decide +kernel
theorem dL_law_52 : decode cL_law 52 = .ok (.if_icmp .ne 56, 3) := by decide +kernel
theorem dL_law_55 : decode cL_law 55 = .ok (.aload_n 1, 1) := by decide +kernel
theorem dL_law_56 : decode cL_law 56 = .ok (.invokevirtual 122, 3) := by decide +kernel
theorem dL_law_59 : decode cL_law 59 = .ok (.bipush (-3), 2) := by decide +kernel
theorem dL_law_61 : decode cL_law 61 = .ok (.if_icmp .ne 47, 3) := by decide +kernel
theorem dL_law_64 : decode cL_law 64 = .ok (.aload_n 1, 1) := by decide +kernel
theorem dL_law_65 : decode cL_law 65 = .ok (.invokevirtual 125, 3) := by decide +kernel
theorem dL_law_68 : decode cL_law 68 = .ok (.iconst (-1), 1) := by decide +kernel
theorem dL_law_69 : decode cL_law 69 = .ok (.if_icmp .ne 39, 3) := by decide +kernel
theorem dL_law_72 : decode cL_law 72 = .ok (.aload_n 1, 1) := by decide +kernel
theorem dL_law_73 : decode cL_law 73 = .ok (.invokevirtual 128, 3) := by decide +kernel
theorem dL_law_76 : decode cL_law 76 = .ok (.ifCond .ne 32, 3) := by decide +kernel
theorem dL_law_79 : decode cL_law 79 = .ok (.aload_n 1, 1) := by decide +kernel
theorem dL_law_80 : decode cL_law 80 = .ok (.iconst 0, 1) := by decide +kernel
theorem dL_law_81 : decode cL_law 81 = .ok (.iconst 0, 1) := by decide +kernel
theorem dL_law_82 : decode cL_law 82 = .ok (.iconst 0, 1) := by decide +kernel
theorem dL_law_83 : decode cL_law 83 = .ok (.invokevirtual 131, 3) := by decide +kernel
theorem dL_law_86 : decode cL_law 86 = .ok (.bipush (-2), 2) := by decide +kernel
theorem dL_law_88 : decode cL_law 88 = .ok (.if_icmp .ne 20, 3) := by decide +kernel
theorem dL_law_91 : decode cL_law 91 = .ok (.aload_n 1, 1) := by decide +kernel
theorem dL_law_92 : decode cL_law 92 = .ok (.aload_n 2, 1) := by decide +kernel
theorem dL_law_93 : decode cL_law 93 = .ok (.invokestatic 134, 3) := by decide +kernel
theorem dL_law_96 : decode cL_law 96 = .ok (.ifCond .eq 12, 3) := by decide +kernel
theorem dL_law_99 : decode cL_law 99 = .ok (.aload_n 1, 1) := by decide +kernel
theorem dL_law_100 : decode cL_law 100 = .ok (.aload_n 2, 1) := by decide +kernel
theorem dL_law_101 : decode cL_law 101 = .ok (.aload_n 3, 1) := by decide +kernel
theorem dL_law_102 : decode cL_law 102 = .ok (.invokestatic 138, 3) := by decide +kernel
theorem dL_law_105 : decode cL_law 105 = .ok (.ifCond .ne 5, 3) := by decide +kernel
theorem dL_law_108 : decode cL_law 108 = .ok (.iconst 0, 1) := by decide +kernel
theorem dL_law_109 : decode cL_law 109 = .ok (.ireturn, 1) := by decide +kernel
theorem dL_law_110 : decode cL_law 110 = .ok (.iconst 0, 1) := by decide +kernel
theorem dL_law_111 : decode cL_law 111 = .ok (.istore 4, 2) := by decide +kernel
theorem dL_law_113 : decode cL_law 113 = .ok (.iload 4, 2) := by decide +kernel
theorem dL_law_115 : decode cL_law 115 = .ok (.bipush 26, 2) := by decide +kernel
theorem dL_law_117 : decode cL_law 117 = .ok (.if_icmp .ge 307, 3) := by decide +kernel
theorem dL_law_120 : decode cL_law 120 = .ok (.aload_n 0, 1) := by decide +kernel
theorem dL_law_121 : decode cL_law 121 = .ok (.iconst 2, 1) := by decide +kernel
theorem dL_law_122 : decode cL_law 122 = .ok (.iload 4, 2) := by decide +kernel
theorem dL_law_124 : decode cL_law 124 = .ok (.imul, 1) := by decide +kernel
theorem dL_law_125 : decode cL_law 125 = .ok (.invokestatic 142, 3) := by decide +kernel
theorem dL_law_128 : decode cL_law 128 = .ok (.istore 5, 2) := by decide +kernel
theorem dL_law_130 : decode cL_law 130 = .ok (.aload_n 0, 1) := by decide +kernel
theorem dL_law_131 : decode cL_law 131 = .ok (.iconst 2, 1) := by decide +kernel
theorem dL_law_132 : decode cL_law 132 = .ok (.iload 4, 2) := by decide +kernel
theorem dL_law_134 : decode cL_law 134 = .ok (.imul, 1) := by decide +kernel
theorem dL_law_135 : decode cL_law 135 = .ok (.iconst 1, 1) := by decide +kernel
theorem dL_law_136 : decode cL_law 136 = .ok (.iadd, 1) := by decide +kernel
theorem dL_law_137 : decode cL_law 137 = .ok (.invokestatic 142, 3) := by decide +kernel
theorem dL_law_140 : decode cL_law 140 = .ok (.istore 6, 2) := by decide +kernel
theorem dL_law_142 : decode cL_law 142 = .ok (.iload 5, 2) := by decide +kernel
theorem dL_law_144 : decode cL_law 144 = .ok (.bipush 24, 2) := by decide +kernel
theorem dL_law_146 : decode cL_law 146 = .ok (.ishr, 1) := by decide +kernel
theorem dL_law_147 : decode cL_law 147 = .ok (.bipush 9, 2) := by decide +kernel
theorem dL_law_149 : decode cL_law 149 = .ok (.invokestatic 60, 3) := by decide +kernel
theorem dL_law_152 : decode cL_law 152 = .ok (.tableswitch 231 0 4 #[36, 63, 98, 220, 220], 36) := by decide +kernel
theorem dL_law_188 : decode cL_law 188 = .ok (.iload 6, 2) := by decide +kernel
theorem dL_law_190 : decode cL_law 190 = .ok (.iconst 3, 1) := by decide +kernel
theorem dL_law_191 : decode cL_law 191 = .ok (.invokestatic 60, 3) := by decide +kernel
theorem dL_law_194 : decode cL_law 194 = .ok (.ifCond .gt 11, 3) := by decide +kernel
theorem dL_law_197 : decode cL_law 197 = .ok (.aload_n 1, 1) := by decide +kernel
theorem dL_law_198 : decode cL_law 198 = .ok (.aload_n 2, 1) := by decide +kernel
theorem dL_law_199 : decode cL_law 199 = .ok (.invokestatic 145, 3) := by decide +kernel
theorem dL_law_202 : decode cL_law 202 = .ok (.ifCond .eq 7, 3) := by decide +kernel
theorem dL_law_205 : decode cL_law 205 = .ok (.iconst 1, 1) := by decide +kernel
theorem dL_law_206 : decode cL_law 206 = .ok (.goto 4, 3) := by decide +kernel
theorem dL_law_209 : decode cL_law 209 = .ok (.iconst 0, 1) := by decide +kernel
theorem dL_law_210 : decode cL_law 210 = .ok (.istore 7, 2) := by decide +kernel
theorem dL_law_212 : decode cL_law 212 = .ok (.goto 182, 3) := by decide +kernel
theorem dL_law_215 : decode cL_law 215 = .ok (.aload_n 2, 1) := by decide +kernel
theorem dL_law_216 : decode cL_law 216 = .ok (.bipush 16, 2) := by decide +kernel
theorem dL_law_218 : decode cL_law 218 = .ok (.iaload, 1) := by decide +kernel
theorem dL_law_219 : decode cL_law 219 = .ok (.ifCond .eq 21, 3) := by decide +kernel
theorem dL_law_222 : decode cL_law 222 = .ok (.aload_n 1, 1) := by decide +kernel
theorem dL_law_223 : decode cL_law 223 = .ok (.aload_n 2, 1) := by decide +kernel
theorem dL_law_224 : decode cL_law 224 = .ok (.aload_n 3, 1) := by decide +kernel
theorem dL_law_225 : decode cL_law 225 = .ok (.iload 6, 2) := by decide +kernel
theorem dL_law_227 : decode cL_law 227 = .ok (.aload_n 2, 1) := by decide +kernel
theorem dL_law_228 : decode cL_law 228 = .ok (.bipush 16, 2) := by decide +kernel
theorem dL_law_230 : decode cL_law 230 = .ok (.iaload, 1) := by decide +kernel
theorem dL_law_231 : decode cL_law 231 = .ok (.invokestatic 60, 3) := by decide +kernel
theorem dL_law_234 : decode cL_law 234 = .ok (.invokestatic 148, 3) := by decide +kernel
theorem dL_law_237 : decode cL_law 237 = .ok (.ifCond .eq 7, 3) := by decide +kernel
theorem dL_law_240 : decode cL_law 240 = .ok (.iconst 1, 1) := by decide +kernel
theorem dL_law_241 : decode cL_law 241 = .ok (.goto 4, 3) := by decide +kernel
theorem dL_law_244 : decode cL_law 244 = .ok (.iconst 0, 1) := by decide +kernel
theorem dL_law_245 : decode cL_law 245 = .ok (.istore 7, 2) := by decide +kernel
theorem dL_law_247 : decode cL_law 247 = .ok (.goto 147, 3) := by decide +kernel
theorem dL_law_250 : decode cL_law 250 = .ok (.iload 6, 2) := by decide +kernel
theorem dL_law_252 : decode cL_law 252 = .ok (.iconst 1, 1) := by decide +kernel
theorem dL_law_253 : decode cL_law 253 = .ok (.iand, 1) := by decide +kernel
theorem dL_law_254 : decode cL_law 254 = .ok (.istore 8, 2) := by decide +kernel
theorem dL_law_256 : decode cL_law 256 = .ok (.aload_n 2, 1) := by decide +kernel
theorem dL_law_257 : decode cL_law 257 = .ok (.bipush 14, 2) := by decide +kernel
theorem dL_law_259 : decode cL_law 259 = .ok (.iload 8, 2) := by decide +kernel
theorem dL_law_261 : decode cL_law 261 = .ok (.iadd, 1) := by decide +kernel
theorem dL_law_262 : decode cL_law 262 = .ok (.iaload, 1) := by decide +kernel
theorem dL_law_263 : decode cL_law 263 = .ok (.istore 9, 2) := by decide +kernel
theorem dL_law_265 : decode cL_law 265 = .ok (.aload_n 2, 1) := by decide +kernel
theorem dL_law_266 : decode cL_law 266 = .ok (.bipush 14, 2) := by decide +kernel
theorem dL_law_268 : decode cL_law 268 = .ok (.iload 8, 2) := by decide +kernel
theorem dL_law_270 : decode cL_law 270 = .ok (.iadd, 1) := by decide +kernel
theorem dL_law_271 : decode cL_law 271 = .ok (.iload 8, 2) := by decide +kernel
theorem dL_law_273 : decode cL_law 273 = .ok (.ifCond .ne 17, 3) := by decide +kernel
theorem dL_law_276 : decode cL_law 276 = .ok (.iconst 1, 1) := by decide +kernel
theorem dL_law_277 : decode cL_law 277 = .ok (.iload 6, 2) := by decide +kernel
theorem dL_law_279 : decode cL_law 279 = .ok (.iconst 1, 1) := by decide +kernel
theorem dL_law_280 : decode cL_law 280 = .ok (.ishr, 1) := by decide +kernel
theorem dL_law_281 : decode cL_law 281 = .ok (.bipush 8, 2) := by decide +kernel
theorem dL_law_283 : decode cL_law 283 = .ok (.invokestatic 60, 3) := by decide +kernel
theorem dL_law_286 : decode cL_law 286 = .ok (.iadd, 1) := by decide +kernel
theorem dL_law_287 : decode cL_law 287 = .ok (.goto 11, 3) := by decide +kernel
theorem dL_law_290 : decode cL_law 290 = .ok (.iload 6, 2) := by decide +kernel
theorem dL_law_292 : decode cL_law 292 = .ok (.iconst 1, 1) := by decide +kernel
theorem dL_law_293 : decode cL_law 293 = .ok (.ishr, 1) := by decide +kernel
theorem dL_law_294 : decode cL_law 294 = .ok (.iconst 2, 1) := by decide +kernel
theorem dL_law_295 : decode cL_law 295 = .ok (.invokestatic 60, 3) := by decide +kernel
theorem dL_law_298 : decode cL_law 298 = .ok (.iastore, 1) := by decide +kernel
theorem dL_law_299 : decode cL_law 299 = .ok (.aload_n 1, 1) := by decide +kernel
theorem dL_law_300 : decode cL_law 300 = .ok (.iload 8, 2) := by decide +kernel
theorem dL_law_302 : decode cL_law 302 = .ok (.aload_n 2, 1) := by decide +kernel
theorem dL_law_303 : decode cL_law 303 = .ok (.bipush 14, 2) := by decide +kernel
theorem dL_law_305 : decode cL_law 305 = .ok (.iload 8, 2) := by decide +kernel
theorem dL_law_307 : decode cL_law 307 = .ok (.iadd, 1) := by decide +kernel
theorem dL_law_308 : decode cL_law 308 = .ok (.iaload, 1) := by decide +kernel
theorem dL_law_309 : decode cL_law 309 = .ok (.invokevirtual 152, 3) := by decide +kernel
theorem dL_law_312 : decode cL_law 312 = .ok (.iload 9, 2) := by decide +kernel
theorem dL_law_314 : decode cL_law 314 = .ok (.if_icmp .ne 52, 3) := by decide +kernel
theorem dL_law_317 : decode cL_law 317 = .ok (.aload_n 1, 1) := by decide +kernel
theorem dL_law_318 : decode cL_law 318 = .ok (.iconst 0, 1) := by decide +kernel
theorem dL_law_319 : decode cL_law 319 = .ok (.bipush 9, 2) := by decide +kernel
theorem dL_law_321 : decode cL_law 321 = .ok (.invokevirtual 152, 3) := by decide +kernel
theorem dL_law_324 : decode cL_law 324 = .ok (.bipush (-2), 2) := by decide +kernel
theorem dL_law_326 : decode cL_law 326 = .ok (.if_icmp .ne 40, 3) := by decide +kernel
theorem dL_law_329 : decode cL_law 329 = .ok (.aload_n 1, 1) := by decide +kernel
theorem dL_law_330 : decode cL_law 330 = .ok (.iconst 0, 1) := by decide +kernel
theorem dL_law_331 : decode cL_law 331 = .ok (.iconst 0, 1) := by decide +kernel
theorem dL_law_332 : decode cL_law 332 = .ok (.invokevirtual 152, 3) := by decide +kernel
theorem dL_law_335 : decode cL_law 335 = .ok (.bipush (-2), 2) := by decide +kernel
theorem dL_law_337 : decode cL_law 337 = .ok (.if_icmp .ne 29, 3) := by decide +kernel
theorem dL_law_340 : decode cL_law 340 = .ok (.aload_n 1, 1) := by decide +kernel
theorem dL_law_341 : decode cL_law 341 = .ok (.iconst 1, 1) := by decide +kernel
theorem dL_law_342 : decode cL_law 342 = .ok (.iconst 2, 1) := by decide +kernel
theorem dL_law_343 : decode cL_law 343 = .ok (.invokevirtual 152, 3) := by decide +kernel
theorem dL_law_346 : decode cL_law 346 = .ok (.bipush (-2), 2) := by decide +kernel
theorem dL_law_348 : decode cL_law 348 = .ok (.if_icmp .ne 18, 3) := by decide +kernel
theorem dL_law_351 : decode cL_law 351 = .ok (.aload_n 1, 1) := by decide +kernel
theorem dL_law_352 : decode cL_law 352 = .ok (.iconst 2, 1) := by decide +kernel
theorem dL_law_353 : decode cL_law 353 = .ok (.iconst 1, 1) := by decide +kernel
theorem dL_law_354 : decode cL_law 354 = .ok (.invokevirtual 152, 3) := by decide +kernel
theorem dL_law_357 : decode cL_law 357 = .ok (.bipush (-2), 2) := by decide +kernel
theorem dL_law_359 : decode cL_law 359 = .ok (.if_icmp .ne 7, 3) := by decide +kernel
theorem dL_law_362 : decode cL_law 362 = .ok (.iconst 1, 1) := by decide +kernel
theorem dL_law_363 : decode cL_law 363 = .ok (.goto 4, 3) := by decide +kernel
theorem dL_law_366 : decode cL_law 366 = .ok (.iconst 0, 1) := by decide +kernel
theorem dL_law_367 : decode cL_law 367 = .ok (.istore 7, 2) := by decide +kernel
theorem dL_law_369 : decode cL_law 369 = .ok (.goto 25, 3) := by decide +kernel
theorem dL_law_372 : decode cL_law 372 = .ok (.aload_n 1, 1) := by decide +kernel
theorem dL_law_373 : decode cL_law 373 = .ok (.aload_n 2, 1) := by decide +kernel
theorem dL_law_374 : decode cL_law 374 = .ok (.aload_n 3, 1) := by decide +kernel
theorem dL_law_375 : decode cL_law 375 = .ok (.invokestatic 155, 3) := by decide +kernel
theorem dL_law_378 : decode cL_law 378 = .ok (.istore 7, 2) := by decide +kernel
theorem dL_law_380 : decode cL_law 380 = .ok (.goto 14, 3) := by decide +kernel
theorem dL_law_383 : decode cL_law 383 = .ok (.aload_n 1, 1) := by decide +kernel
theorem dL_law_384 : decode cL_law 384 = .ok (.aload_n 2, 1) := by decide +kernel
theorem dL_law_385 : decode cL_law 385 = .ok (.iload 5, 2) := by decide +kernel
theorem dL_law_387 : decode cL_law 387 = .ok (.iload 6, 2) := by decide +kernel
theorem dL_law_389 : decode cL_law 389 = .ok (.invokestatic 158, 3) := by decide +kernel
theorem dL_law_392 : decode cL_law 392 = .ok (.istore 7, 2) := by decide +kernel
theorem dL_law_394 : decode cL_law 394 = .ok (.iload 7, 2) := by decide +kernel
theorem dL_law_396 : decode cL_law 396 = .ok (.ifCond .eq 20, 3) := by decide +kernel
theorem dL_law_399 : decode cL_law 399 = .ok (.aload_n 1, 1) := by decide +kernel
theorem dL_law_400 : decode cL_law 400 = .ok (.aload_n 2, 1) := by decide +kernel
theorem dL_law_401 : decode cL_law 401 = .ok (.invokestatic 134, 3) := by decide +kernel
theorem dL_law_404 : decode cL_law 404 = .ok (.ifCond .eq 12, 3) := by decide +kernel
theorem dL_law_407 : decode cL_law 407 = .ok (.aload_n 1, 1) := by decide +kernel
theorem dL_law_408 : decode cL_law 408 = .ok (.aload_n 2, 1) := by decide +kernel
theorem dL_law_409 : decode cL_law 409 = .ok (.aload_n 3, 1) := by decide +kernel
theorem dL_law_410 : decode cL_law 410 = .ok (.invokestatic 138, 3) := by decide +kernel
theorem dL_law_413 : decode cL_law 413 = .ok (.ifCond .ne 5, 3) := by decide +kernel
theorem dL_law_416 : decode cL_law 416 = .ok (.iconst 0, 1) := by decide +kernel
theorem dL_law_417 : decode cL_law 417 = .ok (.ireturn, 1) := by decide +kernel
theorem dL_law_418 : decode cL_law 418 = .ok (.iinc 4 1, 3) := by decide +kernel
theorem dL_law_421 : decode cL_law 421 = .ok (.goto (-308), 3) := by decide +kernel
theorem dL_law_424 : decode cL_law 424 = .ok (.iconst 1, 1) := by decide +kernel
theorem dL_law_425 : decode cL_law 425 = .ok (.ireturn, 1) := by decide +kernel
