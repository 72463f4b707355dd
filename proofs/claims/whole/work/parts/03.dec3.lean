theorem dX6_init_372 : decode cX6_init 372 = .ok (.dup, 1) := by decide +kernel
theorem dX6_init_373 : decode cX6_init 373 = .ok (.bipush 38, 2) := by decide +kernel
theorem dX6_init_375 : decode cX6_init 375 = .ok (.ldc 100, 2) := by decide +kernel
theorem dX6_init_377 : decode cX6_init 377 = .ok (.iastore, 1) := by decide +kernel
theorem dX6_init_378 : decode cX6_init 378 = .ok (.dup, 1) := by decide +kernel
theorem dX6_init_379 : decode cX6_init 379 = .ok (.bipush 39, 2) := by decide +kernel
theorem dX6_init_381 : decode cX6_init 381 = .ok (.ldc 101, 2) := by decide +kernel
theorem dX6_init_383 : decode cX6_init 383 = .ok (.iastore, 1) := by decide +kernel
theorem dX6_init_384 : decode cX6_init 384 = .ok (.dup, 1) := by decide +kernel
theorem dX6_init_385 : decode cX6_init 385 = .ok (.bipush 40, 2) := by decide +kernel
theorem dX6_init_387 : decode cX6_init 387 = .ok (.ldc 102, 2) := by decide +kernel
theorem dX6_init_389 : decode cX6_init 389 = .ok (.iastore, 1) := by decide +kernel
theorem dX6_init_390 : decode cX6_init 390 = .ok (.dup, 1) := by decide +kernel
theorem dX6_init_391 : decode cX6_init 391 = .ok (.bipush 41, 2) := by decide +kernel
theorem dX6_init_393 : decode cX6_init 393 = .ok (.ldc 103, 2) := by decide +kernel
theorem dX6_init_395 : decode cX6_init 395 = .ok (.iastore, 1) := by decide +kernel
theorem dX6_init_396 : decode cX6_init 396 = .ok (.dup, 1) := by decide +kernel
theorem dX6_init_397 : decode cX6_init 397 = .ok (.bipush 42, 2) := by decide +kernel
theorem dX6_init_399 : decode cX6_init 399 = .ok (.ldc 104, 2) := by decide +kernel
theorem dX6_init_401 : decode cX6_init 401 = .ok (.iastore, 1) := by decide +kernel
theorem dX6_init_402 : decode cX6_init 402 = .ok (.dup, 1) := by decide +kernel
theorem dX6_init_403 : decode cX6_init 403 = .ok (.bipush 43, 2) := by decide +kernel
theorem dX6_init_405 : decode cX6_init 405 = .ok (.ldc 105, 2) := by decide +kernel
theorem dX6_init_407 : decode cX6_init 407 = .ok (.iastore, 1) := by decide +kernel
theorem dX6_init_408 : decode cX6_init 408 = .ok (.dup, 1) := by decide +kernel
theorem dX6_init_409 : decode cX6_init 409 = .ok (.bipush 44, 2) := by decide +kernel
theorem dX6_init_411 : decode cX6_init 411 = .ok (.ldc 106, 2) := by decide +kernel
theorem dX6_init_413 : decode cX6_init 413 = .ok (.iastore, 1) := by decide +kernel
theorem dX6_init_414 : decode cX6_init 414 = .ok (.dup, 1) := by decide +kernel
theorem dX6_init_415 : decode cX6_init 415 = .ok (.bipush 45, 2) := by decide +kernel
theorem dX6_init_417 : decode cX6_init 417 = .ok (.ldc 107, 2) := by decide +kernel
theorem dX6_init_419 : decode cX6_init 419 = .ok (.iastore, 1) := by decide +kernel
theorem dX6_init_420 : decode cX6_init 420 = .ok (.dup, 1) := by decide +kernel
theorem dX6_init_421 : decode cX6_init 421 = .ok (.bipush 46, 2) := by decide +kernel
theorem dX6_init_423 : decode cX6_init 423 = .ok (.ldc 108, 2) := by decide +kernel
theorem dX6_init_425 : decode cX6_init 425 = .ok (.iastore, 1) := by decide +kernel
theorem dX6_init_426 : decode cX6_init 426 = .ok (.dup, 1) := by decide +kernel
theorem dX6_init_427 : decode cX6_init 427 = .ok (.bipush 47, 2) := by decide +kernel
theorem dX6_init_429 : decode cX6_init 429 = .ok (.ldc 109, 2) := by decide +kernel
theorem dX6_init_431 : decode cX6_init 431 = .ok (.iastore, 1) := by decide +kernel
theorem dX6_init_432 : decode cX6_init 432 = .ok (.dup, 1) := by decide +kernel
theorem dX6_init_433 : decode cX6_init 433 = .ok (.bipush 48, 2) := by decide +kernel
theorem dX6_init_435 : decode cX6_init 435 = .ok (.ldc 110, 2) := by decide +kernel
theorem dX6_init_437 : decode cX6_init 437 = .ok (.iastore, 1) := by decide +kernel
theorem dX6_init_438 : decode cX6_init 438 = .ok (.dup, 1) := by decide +kernel
theorem dX6_init_439 : decode cX6_init 439 = .ok (.bipush 49, 2) := by decide +kernel
theorem dX6_init_441 : decode cX6_init 441 = .ok (.ldc 111, 2) := by decide +kernel
theorem dX6_init_443 : decode cX6_init 443 = .ok (.iastore, 1) := by decide +kernel
theorem dX6_init_444 : decode cX6_init 444 = .ok (.dup, 1) := by decide +kernel
theorem dX6_init_445 : decode cX6_init 445 = .ok (.bipush 50, 2) := by decide +kernel
theorem dX6_init_447 : decode cX6_init 447 = .ok (.ldc 112, 2) := by decide +kernel
theorem dX6_init_449 : decode cX6_init 449 = .ok (.iastore, 1) := by decide +kernel
theorem dX6_init_450 : decode cX6_init 450 = .ok (.dup, 1) := by decide +kernel
theorem dX6_init_451 : decode cX6_init 451 = .ok (.bipush 51, 2) := by decide +kernel
theorem dX6_init_453 : decode cX6_init 453 = .ok (.ldc 113, 2) := by decide +kernel
theorem dX6_init_455 : decode cX6_init 455 = .ok (.iastore, 1) := by decide +kernel
theorem dX6_init_456 : decode cX6_init 456 = .ok (.dup, 1) := by decide +kernel
theorem dX6_init_457 : decode cX6_init 457 = .ok (.bipush 52, 2) := by decide +kernel
theorem dX6_init_459 : decode cX6_init 459 = .ok (.ldc 114, 2) := by decide +kernel
theorem dX6_init_461 : decode cX6_init 461 = .ok (.iastore, 1) := by decide +kernel
theorem dX6_init_462 : decode cX6_init 462 = .ok (.dup, 1) := by decide +kernel
theorem dX6_init_463 : decode cX6_init 463 = .ok (.bipush 53, 2) := by decide +kernel
theorem dX6_init_465 : decode cX6_init 465 = .ok (.ldc 115, 2) := by decide +kernel
theorem dX6_init_467 : decode cX6_init 467 = .ok (.iastore, 1) := by decide +kernel
theorem dX6_init_468 : decode cX6_init 468 = .ok (.dup, 1) := by decide +kernel
theorem dX6_init_469 : decode cX6_init 469 = .ok (.bipush 54, 2) := by decide +kernel
theorem dX6_init_471 : decode cX6_init 471 = .ok (.ldc 116, 2) := by decide +kernel
theorem dX6_init_473 : decode cX6_init 473 = .ok (.iastore, 1) := by decide +kernel
theorem dX6_init_474 : decode cX6_init 474 = .ok (.dup, 1) := by decide +kernel
theorem dX6_init_475 : decode cX6_init 475 = .ok (.bipush 55, 2) := by decide +kernel
theorem dX6_init_477 : decode cX6_init 477 = .ok (.ldc 117, 2) := by decide +kernel
theorem dX6_init_479 : decode cX6_init 479 = .ok (.iastore, 1) := by decide +kernel
theorem dX6_init_480 : decode cX6_init 480 = .ok (.dup, 1) := by decide +kernel
theorem dX6_init_481 : decode cX6_init 481 = .ok (.bipush 56, 2) := by decide +kernel
theorem dX6_init_483 : decode cX6_init 483 = .ok (.ldc 118, 2) := by decide +kernel
theorem dX6_init_485 : decode cX6_init 485 = .ok (.iastore, 1) := by decide +kernel
theorem dX6_init_486 : decode cX6_init 486 = .ok (.dup, 1) := by decide +kernel
theorem dX6_init_487 : decode cX6_init 487 = .ok (.bipush 57, 2) := by decide +kernel
theorem dX6_init_489 : decode cX6_init 489 = .ok (.ldc 119, 2) := by decide +kernel
theorem dX6_init_491 : decode cX6_init 491 = .ok (.iastore, 1) := by decide +kernel
theorem dX6_init_492 : decode cX6_init 492 = .ok (.dup, 1) := by decide +kernel
theorem dX6_init_493 : decode cX6_init 493 = .ok (.bipush 58, 2) := by decide +kernel
theorem dX6_init_495 : decode cX6_init 495 = .ok (.ldc 120, 2) := by decide +kernel
theorem dX6_init_497 : decode cX6_init 497 = .ok (.iastore, 1) := by decide +kernel
theorem dX6_init_498 : decode cX6_init 498 = .ok (.dup, 1) := by decide +kernel
theorem dX6_init_499 : decode cX6_init 499 = .ok (.bipush 59, 2) := by decide +kernel
theorem dX6_init_501 : decode cX6_init 501 = .ok (.ldc 121, 2) := by decide +kernel
theorem dX6_init_503 : decode cX6_init 503 = .ok (.iastore, 1) := by decide +kernel
theorem dX6_init_504 : decode cX6_init 504 = .ok (.dup, 1) := by decide +kernel
theorem dX6_init_505 : decode cX6_init 505 = .ok (.bipush 60, 2) := by decide +kernel
theorem dX6_init_507 : decode cX6_init 507 = .ok (.ldc 122, 2) := by decide +kernel
theorem dX6_init_509 : decode cX6_init 509 = .ok (.iastore, 1) := by decide +kernel
theorem dX6_init_510 : decode cX6_init 510 = .ok (.dup, 1) := by decide +kernel
theorem dX6_init_511 : decode cX6_init 511 = .ok (.bipush 61, 2) := by decide +kernel
theorem dX6_init_513 : decode cX6_init 513 = .ok (.ldc 123, 2) := by decide +kernel
theorem dX6_init_515 : decode cX6_init 515 = .ok (.iastore, 1) := by decide +kernel
theorem dX6_init_516 : decode cX6_init 516 = .ok (.dup, 1) := by decide +kernel
theorem dX6_init_517 : decode cX6_init 517 = .ok (.bipush 62, 2) := by decide +kernel
theorem dX6_init_519 : decode cX6_init 519 = .ok (.ldc 124, 2) := by decide +kernel
theorem dX6_init_521 : decode cX6_init 521 = .ok (.iastore, 1) := by decide +kernel
theorem dX6_init_522 : decode cX6_init 522 = .ok (.dup, 1) := by decide +kernel
theorem dX6_init_523 : decode cX6_init 523 = .ok (.bipush 63, 2) := by decide +kernel
theorem dX6_init_525 : decode cX6_init 525 = .ok (.ldc 125, 2) := by decide +kernel
theorem dX6_init_527 : decode cX6_init 527 = .ok (.iastore, 1) := by decide +kernel
theorem dX6_init_528 : decode cX6_init 528 = .ok (.putfield 126, 3) := by decide +kernel
theorem dX6_init_531 : decode cX6_init 531 = .ok (.aload_n 0, 1) := by decide +kernel
theorem dX6_init_532 : decode cX6_init 532 = .ok (.bipush 8, 2) := by decide +kernel
theorem dX6_init_534 : decode cX6_init 534 = .ok (.newarray .int, 2) := by decide +kernel
theorem dX6_init_536 : decode cX6_init 536 = .ok (.dup, 1) := by decide +kernel
theorem dX6_init_537 : decode cX6_init 537 = .ok (.iconst 0, 1) := by decide +kernel
theorem dX6_init_538 : decode cX6_init 538 = .ok (.ldc 129, 2) := by decide +kernel
theorem dX6_init_540 : decode cX6_init 540 = .ok (.iastore, 1) := by decide +kernel
theorem dX6_init_541 : decode cX6_init 541 = .ok (.dup, 1) := by decide +kernel
theorem dX6_init_542 : decode cX6_init 542 = .ok (.iconst 1, 1) := by decide +kernel
theorem dX6_init_543 : decode cX6_init 543 = .ok (.ldc 130, 2) := by decide +kernel
theorem dX6_init_545 : decode cX6_init 545 = .ok (.iastore, 1) := by decide +kernel
theorem dX6_init_546 : decode cX6_init 546 = .ok (.dup, 1) := by decide +kernel
theorem dX6_init_547 : decode cX6_init 547 = .ok (.iconst 2, 1) := by decide +kernel
theorem dX6_init_548 : decode cX6_init 548 = .ok (.ldc 131, 2) := by decide +kernel
theorem dX6_init_550 : decode cX6_init 550 = .ok (.iastore, 1) := by decide +kernel
theorem dX6_init_551 : decode cX6_init 551 = .ok (.dup, 1) := by decide +kernel
theorem dX6_init_552 : decode cX6_init 552 = .ok (.iconst 3, 1) := by decide +kernel
theorem dX6_init_553 : decode cX6_init 553 = .ok (.ldc 132, 2) := by decide +kernel
theorem dX6_init_555 : decode cX6_init 555 = .ok (.iastore, 1) := by decide +kernel
theorem dX6_init_556 : decode cX6_init 556 = .ok (.dup, 1) := by decide +kernel
theorem dX6_init_557 : decode cX6_init 557 = .ok (.iconst 4, 1) := by decide +kernel
theorem dX6_init_558 : decode cX6_init 558 = .ok (.ldc 133, 2) := by decide +kernel
theorem dX6_init_560 : decode cX6_init 560 = .ok (.iastore, 1) := by decide +kernel
theorem dX6_init_561 : decode cX6_init 561 = .ok (.dup, 1) := by decide +kernel
theorem dX6_init_562 : decode cX6_init 562 = .ok (.iconst 5, 1) := by decide +kernel
theorem dX6_init_563 : decode cX6_init 563 = .ok (.ldc 134, 2) := by decide +kernel
theorem dX6_init_565 : decode cX6_init 565 = .ok (.iastore, 1) := by decide +kernel
theorem dX6_init_566 : decode cX6_init 566 = .ok (.dup, 1) := by decide +kernel
theorem dX6_init_567 : decode cX6_init 567 = .ok (.bipush 6, 2) := by decide +kernel
theorem dX6_init_569 : decode cX6_init 569 = .ok (.ldc 135, 2) := by decide +kernel
theorem dX6_init_571 : decode cX6_init 571 = .ok (.iastore, 1) := by decide +kernel
theorem dX6_init_572 : decode cX6_init 572 = .ok (.dup, 1) := by decide +kernel
theorem dX6_init_573 : decode cX6_init 573 = .ok (.bipush 7, 2) := by decide +kernel
theorem dX6_init_575 : decode cX6_init 575 = .ok (.ldc 136, 2) := by decide +kernel
theorem dX6_init_577 : decode cX6_init 577 = .ok (.iastore, 1) := by decide +kernel
theorem dX6_init_578 : decode cX6_init 578 = .ok (.putfield 137, 3) := by decide +kernel
theorem dX6_init_581 : decode cX6_init 581 = .ok (.aload_n 0, 1) := by decide +kernel
theorem dX6_init_582 : decode cX6_init 582 = .ok (.sipush 1700, 3) := by decide +kernel
theorem dX6_init_585 : decode cX6_init 585 = .ok (.newarray .int, 2) := by decide +kernel
theorem dX6_init_587 : decode cX6_init 587 = .ok (.putfield 140, 3) := by decide +kernel
theorem dX6_init_590 : decode cX6_init 590 = .ok (.aload_n 0, 1) := by decide +kernel
theorem dX6_init_591 : decode cX6_init 591 = .ok (.bipush 64, 2) := by decide +kernel
theorem dX6_init_593 : decode cX6_init 593 = .ok (.newarray .int, 2) := by decide +kernel
theorem dX6_init_595 : decode cX6_init 595 = .ok (.putfield 143, 3) := by decide +kernel
theorem dX6_init_598 : decode cX6_init 598 = .ok (.aload_n 0, 1) := by decide +kernel
theorem dX6_init_599 : decode cX6_init 599 = .ok (.bipush 8, 2) := by decide +kernel
theorem dX6_init_601 : decode cX6_init 601 = .ok (.newarray .int, 2) := by decide +kernel
theorem dX6_init_603 : decode cX6_init 603 = .ok (.putfield 146, 3) := by decide +kernel
theorem dX6_init_606 : decode cX6_init 606 = .ok (.aload_n 0, 1) := by decide +kernel
theorem dX6_init_607 : decode cX6_init 607 = .ok (.bipush 8, 2) := by decide +kernel
theorem dX6_init_609 : decode cX6_init 609 = .ok (.newarray .int, 2) := by decide +kernel
theorem dX6_init_611 : decode cX6_init 611 = .ok (.putfield 149, 3) := by decide +kernel
theorem dX6_init_614 : decode cX6_init 614 = .ok (.aload_n 0, 1) := by decide +kernel
theorem dX6_init_615 : decode cX6_init 615 = .ok (.bipush 24, 2) := by decide +kernel
theorem dX6_init_617 : decode cX6_init 617 = .ok (.newarray .int, 2) := by decide +kernel
theorem dX6_init_619 : decode cX6_init 619 = .ok (.putfield 152, 3) := by decide +kernel
theorem dX6_init_622 : decode cX6_init 622 = .ok (.aload_n 0, 1) := by decide +kernel
theorem dX6_init_623 : decode cX6_init 623 = .ok (.invokevirtual 155, 3) := by decide +kernel
theorem dX6_init_626 : decode cX6_init 626 = .ok (.return_, 1) := by decide +kernel
theorem dX6_thrown_0 : decode cX6_thrown 0 = .ok (.aload_n 0, 1) := by decide +kernel
theorem dX6_thrown_1 : decode cX6_thrown 1 = .ok (.getfield 158, 3) := by decide +kernel
theorem dX6_thrown_4 : decode cX6_thrown 4 = .ok (.ireturn, 1) := by decide +kernel
theorem dX6_free_0 : decode cX6_free 0 = .ok (.iconst 0, 1) := by decide +kernel
theorem dX6_free_1 : decode cX6_free 1 = .ok (.istore_n 1, 1) := by decide +kernel
theorem dX6_free_2 : decode cX6_free 2 = .ok (.iload_n 1, 1) := by decide +kernel
theorem dX6_free_3 : decode cX6_free 3 = .ok (.bipush 20, 2) := by decide +kernel
theorem dX6_free_5 : decode cX6_free 5 = .ok (.if_icmp .ge 23, 3) := by decide +kernel
theorem dX6_free_8 : decode cX6_free 8 = .ok (.aload_n 0, 1) := by decide +kernel
theorem dX6_free_9 : decode cX6_free 9 = .ok (.getfield 16, 3) := by decide +kernel
theorem dX6_free_12 : decode cX6_free 12 = .ok (.iload_n 1, 1) := by decide +kernel
theorem dX6_free_13 : decode cX6_free 13 = .ok (.iconst 0, 1) := by decide +kernel
theorem dX6_free_14 : decode cX6_free 14 = .ok (.iastore, 1) := by decide +kernel
theorem dX6_free_15 : decode cX6_free 15 = .ok (.aload_n 0, 1) := by decide +kernel
theorem dX6_free_16 : decode cX6_free 16 = .ok (.getfield 19, 3) := by decide +kernel
theorem dX6_free_19 : decode cX6_free 19 = .ok (.iload_n 1, 1) := by decide +kernel
theorem dX6_free_20 : decode cX6_free 20 = .ok (.iconst (-1), 1) := by decide +kernel
theorem dX6_free_21 : decode cX6_free 21 = .ok (.iastore, 1) := by decide +kernel
theorem dX6_free_22 : decode cX6_free 22 = .ok (.iinc 1 1, 3) := by decide +kernel
theorem dX6_free_25 : decode cX6_free 25 = .ok (.goto (-23), 3) := by decide +kernel
theorem dX6_free_28 : decode cX6_free 28 = .ok (.aload_n 0, 1) := by decide +kernel
theorem dX6_free_29 : decode cX6_free 29 = .ok (.iconst 0, 1) := by decide +kernel
theorem dX6_free_30 : decode cX6_free 30 = .ok (.putfield 162, 3) := by decide +kernel
theorem dX6_free_33 : decode cX6_free 33 = .ok (.return_, 1) := by decide +kernel
theorem dX6_turned_0 : decode cX6_turned 0 = .ok (.iload_n 0, 1) := by decide +kernel
theorem dX6_turned_1 : decode cX6_turned 1 = .ok (.iload_n 1, 1) := by decide +kernel
theorem dX6_turned_2 : decode cX6_turned 2 = .ok (.iushr, 1) := by decide +kernel
theorem dX6_turned_3 : decode cX6_turned 3 = .ok (.iload_n 0, 1) := by decide +kernel
theorem dX6_turned_4 : decode cX6_turned 4 = .ok (.bipush 32, 2) := by decide +kernel
theorem dX6_turned_6 : decode cX6_turned 6 = .ok (.iload_n 1, 1) := by decide +kernel
theorem dX6_turned_7 : decode cX6_turned 7 = .ok (.isub, 1) := by decide +kernel
theorem dX6_turned_8 : decode cX6_turned 8 = .ok (.ishl, 1) := by decide +kernel
theorem dX6_turned_9 : decode cX6_turned 9 = .ok (.ior, 1) := by decide +kernel
theorem dX6_turned_10 : decode cX6_turned 10 = .ok (.ireturn, 1) := by decide +kernel
set_option maxRecDepth 20000 in
theorem ggX6_block_X6_turned : GoodIn wsX6_block wsX6_turned := goodIn_r _ [9] rfl (by decide +kernel)
set_option maxRecDepth 20000 in
theorem gX6_block_X6_turned : GoodIn wsX6_block (va_wsS RX6 165 yX6_turned wsX6_turned) := goodIn_app (goodIn_of _ (by decide +kernel)) ggX6_block_X6_turned
theorem dX6_block_0 : decode cX6_block 0 = .ok (.iconst 0, 1) := by decide +kernel
theorem dX6_block_1 : decode cX6_block 1 = .ok (.istore_n 2, 1) := by decide +kernel
theorem dX6_block_2 : decode cX6_block 2 = .ok (.iload_n 2, 1) := by decide +kernel
theorem dX6_block_3 : decode cX6_block 3 = .ok (.bipush 64, 2) := by decide +kernel
theorem dX6_block_5 : decode cX6_block 5 = .ok (.if_icmp .ge 125, 3) := by decide +kernel
theorem dX6_block_8 : decode cX6_block 8 = .ok (.iload_n 2, 1) := by decide +kernel
theorem dX6_block_9 : decode cX6_block 9 = .ok (.bipush 16, 2) := by decide +kernel
theorem dX6_block_11 : decode cX6_block 11 = .ok (.if_icmp .ge 20, 3) := by decide +kernel
theorem dX6_block_14 : decode cX6_block 14 = .ok (.aload_n 0, 1) := by decide +kernel
theorem dX6_block_15 : decode cX6_block 15 = .ok (.getfield 143, 3) := by decide +kernel
theorem dX6_block_18 : decode cX6_block 18 = .ok (.iload_n 2, 1) := by decide +kernel
theorem dX6_block_19 : decode cX6_block 19 = .ok (.aload_n 0, 1) := by decide +kernel
theorem dX6_block_20 : decode cX6_block 20 = .ok (.getfield 140, 3) := by decide +kernel
theorem dX6_block_23 : decode cX6_block 23 = .ok (.iload_n 1, 1) := by decide +kernel
theorem dX6_block_24 : decode cX6_block 24 = .ok (.iload_n 2, 1) := by decide +kernel
theorem dX6_block_25 : decode cX6_block 25 = .ok (.iadd, 1) := by decide +kernel
theorem dX6_block_26 : decode cX6_block 26 = .ok (.iaload, 1) := by decide +kernel
theorem dX6_block_27 : decode cX6_block 27 = .ok (.iastore, 1) := by decide +kernel
theorem dX6_block_28 : decode cX6_block 28 = .ok (.goto 96, 3) := by decide +kernel
theorem dX6_block_31 : decode cX6_block 31 = .ok (.aload_n 0, 1) := by decide +kernel
theorem dX6_block_32 : decode cX6_block 32 = .ok (.getfield 143, 3) := by decide +kernel
theorem dX6_block_35 : decode cX6_block 35 = .ok (.iload_n 2, 1) := by decide +kernel
theorem dX6_block_36 : decode cX6_block 36 = .ok (.bipush 15, 2) := by decide +kernel
theorem dX6_block_38 : decode cX6_block 38 = .ok (.isub, 1) := by decide +kernel
theorem dX6_block_39 : decode cX6_block 39 = .ok (.iaload, 1) := by decide +kernel
theorem dX6_block_40 : decode cX6_block 40 = .ok (.istore_n 3, 1) := by decide +kernel
theorem dX6_block_41 : decode cX6_block 41 = .ok (.aload_n 0, 1) := by decide +kernel
theorem dX6_block_42 : decode cX6_block 42 = .ok (.getfield 143, 3) := by decide +kernel
theorem dX6_block_45 : decode cX6_block 45 = .ok (.iload_n 2, 1) := by decide +kernel
theorem dX6_block_46 : decode cX6_block 46 = .ok (.iconst 2, 1) := by decide +kernel
theorem dX6_block_47 : decode cX6_block 47 = .ok (.isub, 1) := by decide +kernel
theorem dX6_block_48 : decode cX6_block 48 = .ok (.iaload, 1) := by decide +kernel
theorem dX6_block_49 : decode cX6_block 49 = .ok (.istore 4, 2) := by decide +kernel
theorem dX6_block_51 : decode cX6_block 51 = .ok (.iload_n 3, 1) := by decide +kernel
theorem dX6_block_52 : decode cX6_block 52 = .ok (.bipush 7, 2) := by decide +kernel
theorem dX6_block_54 : decode cX6_block 54 = .ok (.invokestatic 165, 3) := by decide +kernel
theorem dX6_block_57 : decode cX6_block 57 = .ok (.iload_n 3, 1) := by decide +kernel
theorem dX6_block_58 : decode cX6_block 58 = .ok (.bipush 18, 2) := by decide +kernel
theorem dX6_block_60 : decode cX6_block 60 = .ok (.invokestatic 165, 3) := by decide +kernel
theorem dX6_block_63 : decode cX6_block 63 = .ok (.ixor, 1) := by decide +kernel
theorem dX6_block_64 : decode cX6_block 64 = .ok (.iload_n 3, 1) := by decide +kernel
theorem dX6_block_65 : decode cX6_block 65 = .ok (.iconst 3, 1) := by decide +kernel
theorem dX6_block_66 : decode cX6_block 66 = .ok (.iushr, 1) := by decide +kernel
theorem dX6_block_67 : decode cX6_block 67 = .ok (.ixor, 1) := by decide +kernel
theorem dX6_block_68 : decode cX6_block 68 = .ok (.istore 5, 2) := by decide +kernel
theorem dX6_block_70 : decode cX6_block 70 = .ok (.iload 4, 2) := by decide +kernel
theorem dX6_block_72 : decode cX6_block 72 = .ok (.bipush 17, 2) := by decide +kernel
theorem dX6_block_74 : decode cX6_block 74 = .ok (.invokestatic 165, 3) := by decide +kernel
theorem dX6_block_77 : decode cX6_block 77 = .ok (.iload 4, 2) := by decide +kernel
theorem dX6_block_79 : decode cX6_block 79 = .ok (.bipush 19, 2) := by decide +kernel
theorem dX6_block_81 : decode cX6_block 81 = .ok (.invokestatic 165, 3) := by decide +kernel
theorem dX6_block_84 : decode cX6_block 84 = .ok (.ixor, 1) := by decide +kernel
theorem dX6_block_85 : decode cX6_block 85 = .ok (.iload 4, 2) := by decide +kernel
theorem dX6_block_87 : decode cX6_block 87 = .ok (.bipush 10, 2) := by decide +kernel
theorem dX6_block_89 : decode cX6_block 89 = .ok (.iushr, 1) := by decide +kernel
theorem dX6_block_90 : decode cX6_block 90 = .ok (.ixor, 1) := by decide +kernel
theorem dX6_block_91 : decode cX6_block 91 = .ok (.istore 6, 2) := by decide +kernel
theorem dX6_block_93 : decode cX6_block 93 = .ok (.aload_n 0, 1) := by decide +kernel
theorem dX6_block_94 : decode cX6_block 94 = .ok (.getfield 143, 3) := by decide +kernel
theorem dX6_block_97 : decode cX6_block 97 = .ok (.iload_n 2, 1) := by decide +kernel
theorem dX6_block_98 : decode cX6_block 98 = .ok (.aload_n 0, 1) := by decide +kernel
theorem dX6_block_99 : decode cX6_block 99 = .ok (.getfield 143, 3) := by decide +kernel
theorem dX6_block_102 : decode cX6_block 102 = .ok (.iload_n 2, 1) := by decide +kernel
theorem dX6_block_103 : decode cX6_block 103 = .ok (.bipush 16, 2) := by decide +kernel
theorem dX6_block_105 : decode cX6_block 105 = .ok (.isub, 1) := by decide +kernel
theorem dX6_block_106 : decode cX6_block 106 = .ok (.iaload, 1) := by decide +kernel
theorem dX6_block_107 : decode cX6_block 107 = .ok (.iload 5, 2) := by decide +kernel
theorem dX6_block_109 : decode cX6_block 109 = .ok (.iadd, 1) := by decide +kernel
theorem dX6_block_110 : decode cX6_block 110 = .ok (.aload_n 0, 1) := by decide +kernel
theorem dX6_block_111 : decode cX6_block 111 = .ok (.getfield 143, 3) := by decide +kernel
theorem dX6_block_114 : decode cX6_block 114 = .ok (.iload_n 2, 1) := by decide +kernel
theorem dX6_block_115 : decode cX6_block 115 = .ok (.bipush 7, 2) := by decide +kernel
theorem dX6_block_117 : decode cX6_block 117 = .ok (.isub, 1) := by decide +kernel
theorem dX6_block_118 : decode cX6_block 118 = .ok (.iaload, 1) := by decide +kernel
theorem dX6_block_119 : decode cX6_block 119 = .ok (.iadd, 1) := by decide +kernel
theorem dX6_block_120 : decode cX6_block 120 = .ok (.iload 6, 2) := by decide +kernel
theorem dX6_block_122 : decode cX6_block 122 = .ok (.iadd, 1) := by decide +kernel
theorem dX6_block_123 : decode cX6_block 123 = .ok (.iastore, 1) := by decide +kernel
theorem dX6_block_124 : decode cX6_block 124 = .ok (.iinc 2 1, 3) := by decide +kernel
theorem dX6_block_127 : decode cX6_block 127 = .ok (.goto (-125), 3) := by decide +kernel
theorem dX6_block_130 : decode cX6_block 130 = .ok (.iconst 0, 1) := by decide +kernel
theorem dX6_block_131 : decode cX6_block 131 = .ok (.istore_n 2, 1) := by decide +kernel
theorem dX6_block_132 : decode cX6_block 132 = .ok (.iload_n 2, 1) := by decide +kernel
theorem dX6_block_133 : decode cX6_block 133 = .ok (.bipush 8, 2) := by decide +kernel
theorem dX6_block_135 : decode cX6_block 135 = .ok (.if_icmp .ge 21, 3) := by decide +kernel
theorem dX6_block_138 : decode cX6_block 138 = .ok (.aload_n 0, 1) := by decide +kernel
theorem dX6_block_139 : decode cX6_block 139 = .ok (.getfield 149, 3) := by decide +kernel
theorem dX6_block_142 : decode cX6_block 142 = .ok (.iload_n 2, 1) := by decide +kernel
theorem dX6_block_143 : decode cX6_block 143 = .ok (.aload_n 0, 1) := by decide +kernel
theorem dX6_block_144 : decode cX6_block 144 = .ok (.getfield 146, 3) := by decide +kernel
theorem dX6_block_147 : decode cX6_block 147 = .ok (.iload_n 2, 1) := by decide +kernel
theorem dX6_block_148 : decode cX6_block 148 = .ok (.iaload, 1) := by decide +kernel
theorem dX6_block_149 : decode cX6_block 149 = .ok (.iastore, 1) := by decide +kernel
theorem dX6_block_150 : decode cX6_block 150 = .ok (.iinc 2 1, 3) := by decide +kernel
theorem dX6_block_153 : decode cX6_block 153 = .ok (.goto (-21), 3) := by decide +kernel
theorem dX6_block_156 : decode cX6_block 156 = .ok (.iconst 0, 1) := by decide +kernel
theorem dX6_block_157 : decode cX6_block 157 = .ok (.istore_n 2, 1) := by decide +kernel
theorem dX6_block_158 : decode cX6_block 158 = .ok (.iload_n 2, 1) := by decide +kernel
theorem dX6_block_159 : decode cX6_block 159 = .ok (.bipush 64, 2) := by decide +kernel
theorem dX6_block_161 : decode cX6_block 161 = .ok (.if_icmp .ge 204, 3) := by decide +kernel
theorem dX6_block_164 : decode cX6_block 164 = .ok (.aload_n 0, 1) := by decide +kernel
theorem dX6_block_165 : decode cX6_block 165 = .ok (.getfield 149, 3) := by decide +kernel
theorem dX6_block_168 : decode cX6_block 168 = .ok (.iconst 4, 1) := by decide +kernel
theorem dX6_block_169 : decode cX6_block 169 = .ok (.iaload, 1) := by decide +kernel
theorem dX6_block_170 : decode cX6_block 170 = .ok (.istore_n 3, 1) := by decide +kernel
theorem dX6_block_171 : decode cX6_block 171 = .ok (.aload_n 0, 1) := by decide +kernel
theorem dX6_block_172 : decode cX6_block 172 = .ok (.getfield 149, 3) := by decide +kernel
theorem dX6_block_175 : decode cX6_block 175 = .ok (.iconst 0, 1) := by decide +kernel
theorem dX6_block_176 : decode cX6_block 176 = .ok (.iaload, 1) := by decide +kernel
theorem dX6_block_177 : decode cX6_block 177 = .ok (.istore 4, 2) := by decide +kernel
theorem dX6_block_179 : decode cX6_block 179 = .ok (.aload_n 0, 1) := by decide +kernel
theorem dX6_block_180 : decode cX6_block 180 = .ok (.getfield 149, 3) := by decide +kernel
theorem dX6_block_183 : decode cX6_block 183 = .ok (.bipush 7, 2) := by decide +kernel
theorem dX6_block_185 : decode cX6_block 185 = .ok (.iaload, 1) := by decide +kernel
theorem dX6_block_186 : decode cX6_block 186 = .ok (.iload_n 3, 1) := by decide +kernel
theorem dX6_block_187 : decode cX6_block 187 = .ok (.bipush 6, 2) := by decide +kernel
theorem dX6_block_189 : decode cX6_block 189 = .ok (.invokestatic 165, 3) := by decide +kernel
theorem dX6_block_192 : decode cX6_block 192 = .ok (.iload_n 3, 1) := by decide +kernel
theorem dX6_block_193 : decode cX6_block 193 = .ok (.bipush 11, 2) := by decide +kernel
theorem dX6_block_195 : decode cX6_block 195 = .ok (.invokestatic 165, 3) := by decide +kernel
theorem dX6_block_198 : decode cX6_block 198 = .ok (.ixor, 1) := by decide +kernel
theorem dX6_block_199 : decode cX6_block 199 = .ok (.iload_n 3, 1) := by decide +kernel
theorem dX6_block_200 : decode cX6_block 200 = .ok (.bipush 25, 2) := by decide +kernel
theorem dX6_block_202 : decode cX6_block 202 = .ok (.invokestatic 165, 3) := by decide +kernel
theorem dX6_block_205 : decode cX6_block 205 = .ok (.ixor, 1) := by decide +kernel
theorem dX6_block_206 : decode cX6_block 206 = .ok (.iadd, 1) := by decide +kernel
theorem dX6_block_207 : decode cX6_block 207 = .ok (.iload_n 3, 1) := by decide +kernel
theorem dX6_block_208 : decode cX6_block 208 = .ok (.aload_n 0, 1) := by decide +kernel
theorem dX6_block_209 : decode cX6_block 209 = .ok (.getfield 149, 3) := by decide +kernel
theorem dX6_block_212 : decode cX6_block 212 = .ok (.iconst 5, 1) := by decide +kernel
theorem dX6_block_213 : decode cX6_block 213 = .ok (.iaload, 1) := by decide +kernel
theorem dX6_block_214 : decode cX6_block 214 = .ok (.iand, 1) := by decide +kernel
theorem dX6_block_215 : decode cX6_block 215 = .ok (.iload_n 3, 1) := by decide +kernel
theorem dX6_block_216 : decode cX6_block 216 = .ok (.iconst (-1), 1) := by decide +kernel
theorem dX6_block_217 : decode cX6_block 217 = .ok (.ixor, 1) := by decide +kernel
theorem dX6_block_218 : decode cX6_block 218 = .ok (.aload_n 0, 1) := by decide +kernel
theorem dX6_block_219 : decode cX6_block 219 = .ok (.getfield 149, 3) := by decide +kernel
theorem dX6_block_222 : decode cX6_block 222 = .ok (.bipush 6, 2) := by decide +kernel
theorem dX6_block_224 : decode cX6_block 224 = .ok (.iaload, 1) := by decide +kernel
theorem dX6_block_225 : decode cX6_block 225 = .ok (.iand, 1) := by decide +kernel
theorem dX6_block_226 : decode cX6_block 226 = .ok (.ixor, 1) := by decide +kernel
theorem dX6_block_227 : decode cX6_block 227 = .ok (.iadd, 1) := by decide +kernel
theorem dX6_block_228 : decode cX6_block 228 = .ok (.aload_n 0, 1) := by decide +kernel
theorem dX6_block_229 : decode cX6_block 229 = .ok (.getfield 126, 3) := by decide +kernel
theorem dX6_block_232 : decode cX6_block 232 = .ok (.iload_n 2, 1) := by decide +kernel
theorem dX6_block_233 : decode cX6_block 233 = .ok (.iaload, 1) := by decide +kernel
theorem dX6_block_234 : decode cX6_block 234 = .ok (.iadd, 1) := by decide +kernel
theorem dX6_block_235 : decode cX6_block 235 = .ok (.aload_n 0, 1) := by decide +kernel
theorem dX6_block_236 : decode cX6_block 236 = .ok (.getfield 143, 3) := by decide +kernel
theorem dX6_block_239 : decode cX6_block 239 = .ok (.iload_n 2, 1) := by decide +kernel
theorem dX6_block_240 : decode cX6_block 240 = .ok (.iaload, 1) := by decide +kernel
theorem dX6_block_241 : decode cX6_block 241 = .ok (.iadd, 1) := by decide +kernel
theorem dX6_block_242 : decode cX6_block 242 = .ok (.istore 5, 2) := by decide +kernel
theorem dX6_block_244 : decode cX6_block 244 = .ok (.iload 4, 2) := by decide +kernel
theorem dX6_block_246 : decode cX6_block 246 = .ok (.iconst 2, 1) := by decide +kernel
theorem dX6_block_247 : decode cX6_block 247 = .ok (.invokestatic 165, 3) := by decide +kernel
theorem dX6_block_250 : decode cX6_block 250 = .ok (.iload 4, 2) := by decide +kernel
theorem dX6_block_252 : decode cX6_block 252 = .ok (.bipush 13, 2) := by decide +kernel
theorem dX6_block_254 : decode cX6_block 254 = .ok (.invokestatic 165, 3) := by decide +kernel
theorem dX6_block_257 : decode cX6_block 257 = .ok (.ixor, 1) := by decide +kernel
theorem dX6_block_258 : decode cX6_block 258 = .ok (.iload 4, 2) := by decide +kernel
theorem dX6_block_260 : decode cX6_block 260 = .ok (.bipush 22, 2) := by decide +kernel
theorem dX6_block_262 : decode cX6_block 262 = .ok (.invokestatic 165, 3) := by decide +kernel
theorem dX6_block_265 : decode cX6_block 265 = .ok (.ixor, 1) := by decide +kernel
theorem dX6_block_266 : decode cX6_block 266 = .ok (.iload 4, 2) := by decide +kernel
theorem dX6_block_268 : decode cX6_block 268 = .ok (.aload_n 0, 1) := by decide +kernel
theorem dX6_block_269 : decode cX6_block 269 = .ok (.getfield 149, 3) := by decide +kernel
theorem dX6_block_272 : decode cX6_block 272 = .ok (.iconst 1, 1) := by decide +kernel
theorem dX6_block_273 : decode cX6_block 273 = .ok (.iaload, 1) := by decide +kernel
theorem dX6_block_274 : decode cX6_block 274 = .ok (.iand, 1) := by decide +kernel
theorem dX6_block_275 : decode cX6_block 275 = .ok (.iload 4, 2) := by decide +kernel
theorem dX6_block_277 : decode cX6_block 277 = .ok (.aload_n 0, 1) := by decide +kernel
theorem dX6_block_278 : decode cX6_block 278 = .ok (.getfield 149, 3) := by decide +kernel
theorem dX6_block_281 : decode cX6_block 281 = .ok (.iconst 2, 1) := by decide +kernel
theorem dX6_block_282 : decode cX6_block 282 = .ok (.iaload, 1) := by decide +kernel
theorem dX6_block_283 : decode cX6_block 283 = .ok (.iand, 1) := by decide +kernel
theorem dX6_block_284 : decode cX6_block 284 = .ok (.ixor, 1) := by decide +kernel
theorem dX6_block_285 : decode cX6_block 285 = .ok (.aload_n 0, 1) := by decide +kernel
theorem dX6_block_286 : decode cX6_block 286 = .ok (.getfield 149, 3) := by decide +kernel
theorem dX6_block_289 : decode cX6_block 289 = .ok (.iconst 1, 1) := by decide +kernel
theorem dX6_block_290 : decode cX6_block 290 = .ok (.iaload, 1) := by decide +kernel
theorem dX6_block_291 : decode cX6_block 291 = .ok (.aload_n 0, 1) := by decide +kernel
theorem dX6_block_292 : decode cX6_block 292 = .ok (.getfield 149, 3) := by decide +kernel
theorem dX6_block_295 : decode cX6_block 295 = .ok (.iconst 2, 1) := by decide +kernel
theorem dX6_block_296 : decode cX6_block 296 = .ok (.iaload, 1) := by decide +kernel
theorem dX6_block_297 : decode cX6_block 297 = .ok (.iand, 1) := by decide +kernel
theorem dX6_block_298 : decode cX6_block 298 = .ok (.ixor, 1) := by decide +kernel
theorem dX6_block_299 : decode cX6_block 299 = .ok (.iadd, 1) := by decide +kernel
theorem dX6_block_300 : decode cX6_block 300 = .ok (.istore 6, 2) := by decide +kernel
theorem dX6_block_302 : decode cX6_block 302 = .ok (.bipush 7, 2) := by decide +kernel
theorem dX6_block_304 : decode cX6_block 304 = .ok (.istore 7, 2) := by decide +kernel
theorem dX6_block_306 : decode cX6_block 306 = .ok (.iload 7, 2) := by decide +kernel
theorem dX6_block_308 : decode cX6_block 308 = .ok (.ifCond .le 25, 3) := by decide +kernel
theorem dX6_block_311 : decode cX6_block 311 = .ok (.aload_n 0, 1) := by decide +kernel
theorem dX6_block_312 : decode cX6_block 312 = .ok (.getfield 149, 3) := by decide +kernel
theorem dX6_block_315 : decode cX6_block 315 = .ok (.iload 7, 2) := by decide +kernel
theorem dX6_block_317 : decode cX6_block 317 = .ok (.aload_n 0, 1) := by decide +kernel
theorem dX6_block_318 : decode cX6_block 318 = .ok (.getfield 149, 3) := by decide +kernel
theorem dX6_block_321 : decode cX6_block 321 = .ok (.iload 7, 2) := by decide +kernel
theorem dX6_block_323 : decode cX6_block 323 = .ok (.iconst 1, 1) := by decide +kernel
theorem dX6_block_324 : decode cX6_block 324 = .ok (.isub, 1) := by decide +kernel
theorem dX6_block_325 : decode cX6_block 325 = .ok (.iaload, 1) := by decide +kernel
theorem dX6_block_326 : decode cX6_block 326 = .ok (.iastore, 1) := by decide +kernel
theorem dX6_block_327 : decode cX6_block 327 = .ok (.iinc 7 (-1), 3) := by decide +kernel
theorem dX6_block_330 : decode cX6_block 330 = .ok (.goto (-24), 3) := by decide +kernel
theorem dX6_block_333 : decode cX6_block 333 = .ok (.aload_n 0, 1) := by decide +kernel
theorem dX6_block_334 : decode cX6_block 334 = .ok (.getfield 149, 3) := by decide +kernel
theorem dX6_block_337 : decode cX6_block 337 = .ok (.iconst 4, 1) := by decide +kernel
theorem dX6_block_338 : decode cX6_block 338 = .ok (.aload_n 0, 1) := by decide +kernel
theorem dX6_block_339 : decode cX6_block 339 = .ok (.getfield 149, 3) := by decide +kernel
theorem dX6_block_342 : decode cX6_block 342 = .ok (.iconst 4, 1) := by decide +kernel
theorem dX6_block_343 : decode cX6_block 343 = .ok (.iaload, 1) := by decide +kernel
theorem dX6_block_344 : decode cX6_block 344 = .ok (.iload 5, 2) := by decide +kernel
theorem dX6_block_346 : decode cX6_block 346 = .ok (.iadd, 1) := by decide +kernel
theorem dX6_block_347 : decode cX6_block 347 = .ok (.iastore, 1) := by decide +kernel
theorem dX6_block_348 : decode cX6_block 348 = .ok (.aload_n 0, 1) := by decide +kernel
theorem dX6_block_349 : decode cX6_block 349 = .ok (.getfield 149, 3) := by decide +kernel
theorem dX6_block_352 : decode cX6_block 352 = .ok (.iconst 0, 1) := by decide +kernel
theorem dX6_block_353 : decode cX6_block 353 = .ok (.iload 5, 2) := by decide +kernel
theorem dX6_block_355 : decode cX6_block 355 = .ok (.iload 6, 2) := by decide +kernel
theorem dX6_block_357 : decode cX6_block 357 = .ok (.iadd, 1) := by decide +kernel
theorem dX6_block_358 : decode cX6_block 358 = .ok (.iastore, 1) := by decide +kernel
theorem dX6_block_359 : decode cX6_block 359 = .ok (.iinc 2 1, 3) := by decide +kernel
theorem dX6_block_362 : decode cX6_block 362 = .ok (.goto (-204), 3) := by decide +kernel
theorem dX6_block_365 : decode cX6_block 365 = .ok (.iconst 0, 1) := by decide +kernel
theorem dX6_block_366 : decode cX6_block 366 = .ok (.istore_n 2, 1) := by decide +kernel
theorem dX6_block_367 : decode cX6_block 367 = .ok (.iload_n 2, 1) := by decide +kernel
theorem dX6_block_368 : decode cX6_block 368 = .ok (.bipush 8, 2) := by decide +kernel
theorem dX6_block_370 : decode cX6_block 370 = .ok (.if_icmp .ge 28, 3) := by decide +kernel
theorem dX6_block_373 : decode cX6_block 373 = .ok (.aload_n 0, 1) := by decide +kernel
theorem dX6_block_374 : decode cX6_block 374 = .ok (.getfield 146, 3) := by decide +kernel
theorem dX6_block_377 : decode cX6_block 377 = .ok (.iload_n 2, 1) := by decide +kernel
theorem dX6_block_378 : decode cX6_block 378 = .ok (.aload_n 0, 1) := by decide +kernel
theorem dX6_block_379 : decode cX6_block 379 = .ok (.getfield 146, 3) := by decide +kernel
theorem dX6_block_382 : decode cX6_block 382 = .ok (.iload_n 2, 1) := by decide +kernel
theorem dX6_block_383 : decode cX6_block 383 = .ok (.iaload, 1) := by decide +kernel
theorem dX6_block_384 : decode cX6_block 384 = .ok (.aload_n 0, 1) := by decide +kernel
theorem dX6_block_385 : decode cX6_block 385 = .ok (.getfield 149, 3) := by decide +kernel
theorem dX6_block_388 : decode cX6_block 388 = .ok (.iload_n 2, 1) := by decide +kernel
theorem dX6_block_389 : decode cX6_block 389 = .ok (.iaload, 1) := by decide +kernel
theorem dX6_block_390 : decode cX6_block 390 = .ok (.iadd, 1) := by decide +kernel
theorem dX6_block_391 : decode cX6_block 391 = .ok (.iastore, 1) := by decide +kernel
theorem dX6_block_392 : decode cX6_block 392 = .ok (.iinc 2 1, 3) := by decide +kernel
theorem dX6_block_395 : decode cX6_block 395 = .ok (.goto (-28), 3) := by decide +kernel
theorem dX6_block_398 : decode cX6_block 398 = .ok (.return_, 1) := by decide +kernel
set_option maxRecDepth 20000 in
theorem ggX6_hash_X6_block : GoodIn wsX6_hash wsX6_block := goodIn_r _ [9, 10, 3, 11, 1, 12, 13, 14, 8, 15, 16, 17, 18, 19, 20, 21, 22, 23, 24, 25, 26, 27, 28, 29, 30, 31, 32, 33, 34, 35, 36, 37, 38, 39, 40, 41, 42, 43, 44, 45, 46, 47] rfl (by decide +kernel)
set_option maxRecDepth 20000 in
theorem gX6_hash_X6_block : GoodIn wsX6_hash (wsV RX6 172 RX6 yX6_block wsX6_block) := goodIn_app (goodIn_of _ (by decide +kernel)) ggX6_hash_X6_block
theorem dX6_hash_0 : decode cX6_hash 0 = .ok (.iconst 0, 1) := by decide +kernel
theorem dX6_hash_1 : decode cX6_hash 1 = .ok (.istore_n 2, 1) := by decide +kernel
theorem dX6_hash_2 : decode cX6_hash 2 = .ok (.iload_n 2, 1) := by decide +kernel
theorem dX6_hash_3 : decode cX6_hash 3 = .ok (.bipush 8, 2) := by decide +kernel
theorem dX6_hash_5 : decode cX6_hash 5 = .ok (.if_icmp .ge 21, 3) := by decide +kernel
theorem dX6_hash_8 : decode cX6_hash 8 = .ok (.aload_n 0, 1) := by decide +kernel
theorem dX6_hash_9 : decode cX6_hash 9 = .ok (.getfield 146, 3) := by decide +kernel
theorem dX6_hash_12 : decode cX6_hash 12 = .ok (.iload_n 2, 1) := by decide +kernel
theorem dX6_hash_13 : decode cX6_hash 13 = .ok (.aload_n 0, 1) := by decide +kernel
theorem dX6_hash_14 : decode cX6_hash 14 = .ok (.getfield 137, 3) := by decide +kernel
theorem dX6_hash_17 : decode cX6_hash 17 = .ok (.iload_n 2, 1) := by decide +kernel
theorem dX6_hash_18 : decode cX6_hash 18 = .ok (.iaload, 1) := by decide +kernel
theorem dX6_hash_19 : decode cX6_hash 19 = .ok (.iastore, 1) := by decide +kernel
theorem dX6_hash_20 : decode cX6_hash 20 = .ok (.iinc 2 1, 3) := by decide +kernel
theorem dX6_hash_23 : decode cX6_hash 23 = .ok (.goto (-21), 3) := by decide +kernel
theorem dX6_hash_26 : decode cX6_hash 26 = .ok (.aload_n 0, 1) := by decide +kernel
theorem dX6_hash_27 : decode cX6_hash 27 = .ok (.getfield 140, 3) := by decide +kernel
theorem dX6_hash_30 : decode cX6_hash 30 = .ok (.iload_n 1, 1) := by decide +kernel
theorem dX6_hash_31 : decode cX6_hash 31 = .ok (.ldc 171, 2) := by decide +kernel
theorem dX6_hash_33 : decode cX6_hash 33 = .ok (.iastore, 1) := by decide +kernel
theorem dX6_hash_34 : decode cX6_hash 34 = .ok (.iload_n 1, 1) := by decide +kernel
theorem dX6_hash_35 : decode cX6_hash 35 = .ok (.iconst 1, 1) := by decide +kernel
theorem dX6_hash_36 : decode cX6_hash 36 = .ok (.iadd, 1) := by decide +kernel
theorem dX6_hash_37 : decode cX6_hash 37 = .ok (.istore_n 2, 1) := by decide +kernel
theorem dX6_hash_38 : decode cX6_hash 38 = .ok (.iload_n 2, 1) := by decide +kernel
theorem dX6_hash_39 : decode cX6_hash 39 = .ok (.iload_n 1, 1) := by decide +kernel
theorem dX6_hash_40 : decode cX6_hash 40 = .ok (.bipush 16, 2) := by decide +kernel
theorem dX6_hash_42 : decode cX6_hash 42 = .ok (.iadd, 1) := by decide +kernel
theorem dX6_hash_43 : decode cX6_hash 43 = .ok (.if_icmp .ge 16, 3) := by decide +kernel
theorem dX6_hash_46 : decode cX6_hash 46 = .ok (.aload_n 0, 1) := by decide +kernel
theorem dX6_hash_47 : decode cX6_hash 47 = .ok (.getfield 140, 3) := by decide +kernel
theorem dX6_hash_50 : decode cX6_hash 50 = .ok (.iload_n 2, 1) := by decide +kernel
theorem dX6_hash_51 : decode cX6_hash 51 = .ok (.iconst 0, 1) := by decide +kernel
theorem dX6_hash_52 : decode cX6_hash 52 = .ok (.iastore, 1) := by decide +kernel
theorem dX6_hash_53 : decode cX6_hash 53 = .ok (.iinc 2 1, 3) := by decide +kernel
theorem dX6_hash_56 : decode cX6_hash 56 = .ok (.goto (-18), 3) := by decide +kernel
theorem dX6_hash_59 : decode cX6_hash 59 = .ok (.aload_n 0, 1) := by decide +kernel
theorem dX6_hash_60 : decode cX6_hash 60 = .ok (.getfield 140, 3) := by decide +kernel
theorem dX6_hash_63 : decode cX6_hash 63 = .ok (.iload_n 1, 1) := by decide +kernel
theorem dX6_hash_64 : decode cX6_hash 64 = .ok (.bipush 15, 2) := by decide +kernel
theorem dX6_hash_66 : decode cX6_hash 66 = .ok (.iadd, 1) := by decide +kernel
theorem dX6_hash_67 : decode cX6_hash 67 = .ok (.bipush 32, 2) := by decide +kernel
theorem dX6_hash_69 : decode cX6_hash 69 = .ok (.iload_n 1, 1) := by decide +kernel
theorem dX6_hash_70 : decode cX6_hash 70 = .ok (.imul, 1) := by decide +kernel
theorem dX6_hash_71 : decode cX6_hash 71 = .ok (.iastore, 1) := by decide +kernel
theorem dX6_hash_72 : decode cX6_hash 72 = .ok (.iconst 0, 1) := by decide +kernel
theorem dX6_hash_73 : decode cX6_hash 73 = .ok (.istore_n 2, 1) := by decide +kernel
theorem dX6_hash_74 : decode cX6_hash 74 = .ok (.iload_n 2, 1) := by decide +kernel
theorem dX6_hash_75 : decode cX6_hash 75 = .ok (.iload_n 1, 1) := by decide +kernel
theorem dX6_hash_76 : decode cX6_hash 76 = .ok (.if_icmp .gt 14, 3) := by decide +kernel
theorem dX6_hash_79 : decode cX6_hash 79 = .ok (.aload_n 0, 1) := by decide +kernel
theorem dX6_hash_80 : decode cX6_hash 80 = .ok (.iload_n 2, 1) := by decide +kernel
theorem dX6_hash_81 : decode cX6_hash 81 = .ok (.invokevirtual 172, 3) := by decide +kernel
theorem dX6_hash_84 : decode cX6_hash 84 = .ok (.iinc 2 16, 3) := by decide +kernel
theorem dX6_hash_87 : decode cX6_hash 87 = .ok (.goto (-13), 3) := by decide +kernel
theorem dX6_hash_90 : decode cX6_hash 90 = .ok (.return_, 1) := by decide +kernel
set_option maxRecDepth 20000 in
theorem ggX6_voucher_X6_hash : GoodIn wsX6_voucher wsX6_hash := goodIn_r _ [7, 8, 9, 1, 10, 11, 12, 13, 6, 14, 15, 16, 17, 18, 19, 20, 21, 22, 23, 24, 25, 26, 27, 28, 29, 30, 31, 32, 33, 34, 35, 36, 37, 38, 39, 40, 41, 42, 43, 44, 45, 46, 47, 48, 49, 50, 51, 52] rfl (by decide +kernel)
set_option maxRecDepth 20000 in
theorem gX6_voucher_X6_hash : GoodIn wsX6_voucher (wsV RX6 176 RX6 yX6_hash wsX6_hash) := goodIn_app (goodIn_of _ (by decide +kernel)) ggX6_voucher_X6_hash
theorem dX6_voucher_0 : decode cX6_voucher 0 = .ok (.iconst 0, 1) := by decide +kernel
theorem dX6_voucher_1 : decode cX6_voucher 1 = .ok (.istore_n 3, 1) := by decide +kernel
theorem dX6_voucher_2 : decode cX6_voucher 2 = .ok (.iload_n 3, 1) := by decide +kernel
theorem dX6_voucher_3 : decode cX6_voucher 3 = .ok (.bipush 8, 2) := by decide +kernel
theorem dX6_voucher_5 : decode cX6_voucher 5 = .ok (.if_icmp .ge 45, 3) := by decide +kernel
theorem dX6_voucher_8 : decode cX6_voucher 8 = .ok (.aload_n 0, 1) := by decide +kernel
theorem dX6_voucher_9 : decode cX6_voucher 9 = .ok (.getfield 140, 3) := by decide +kernel
theorem dX6_voucher_12 : decode cX6_voucher 12 = .ok (.iload_n 3, 1) := by decide +kernel
theorem dX6_voucher_13 : decode cX6_voucher 13 = .ok (.aload_n 0, 1) := by decide +kernel
theorem dX6_voucher_14 : decode cX6_voucher 14 = .ok (.getfield 7, 3) := by decide +kernel
theorem dX6_voucher_17 : decode cX6_voucher 17 = .ok (.iload_n 3, 1) := by decide +kernel
theorem dX6_voucher_18 : decode cX6_voucher 18 = .ok (.iaload, 1) := by decide +kernel
theorem dX6_voucher_19 : decode cX6_voucher 19 = .ok (.iastore, 1) := by decide +kernel
theorem dX6_voucher_20 : decode cX6_voucher 20 = .ok (.aload_n 0, 1) := by decide +kernel
theorem dX6_voucher_21 : decode cX6_voucher 21 = .ok (.getfield 140, 3) := by decide +kernel
theorem dX6_voucher_24 : decode cX6_voucher 24 = .ok (.bipush 8, 2) := by decide +kernel
theorem dX6_voucher_26 : decode cX6_voucher 26 = .ok (.iload_n 3, 1) := by decide +kernel
theorem dX6_voucher_27 : decode cX6_voucher 27 = .ok (.iadd, 1) := by decide +kernel
theorem dX6_voucher_28 : decode cX6_voucher 28 = .ok (.aload_n 1, 1) := by decide +kernel
theorem dX6_voucher_29 : decode cX6_voucher 29 = .ok (.iload_n 2, 1) := by decide +kernel
theorem dX6_voucher_30 : decode cX6_voucher 30 = .ok (.iload_n 3, 1) := by decide +kernel
theorem dX6_voucher_31 : decode cX6_voucher 31 = .ok (.iadd, 1) := by decide +kernel
theorem dX6_voucher_32 : decode cX6_voucher 32 = .ok (.iaload, 1) := by decide +kernel
theorem dX6_voucher_33 : decode cX6_voucher 33 = .ok (.iastore, 1) := by decide +kernel
theorem dX6_voucher_34 : decode cX6_voucher 34 = .ok (.aload_n 0, 1) := by decide +kernel
theorem dX6_voucher_35 : decode cX6_voucher 35 = .ok (.getfield 140, 3) := by decide +kernel
theorem dX6_voucher_38 : decode cX6_voucher 38 = .ok (.bipush 24, 2) := by decide +kernel
theorem dX6_voucher_40 : decode cX6_voucher 40 = .ok (.iload_n 3, 1) := by decide +kernel
theorem dX6_voucher_41 : decode cX6_voucher 41 = .ok (.iadd, 1) := by decide +kernel
theorem dX6_voucher_42 : decode cX6_voucher 42 = .ok (.iconst 0, 1) := by decide +kernel
theorem dX6_voucher_43 : decode cX6_voucher 43 = .ok (.iastore, 1) := by decide +kernel
theorem dX6_voucher_44 : decode cX6_voucher 44 = .ok (.iinc 3 1, 3) := by decide +kernel
theorem dX6_voucher_47 : decode cX6_voucher 47 = .ok (.goto (-45), 3) := by decide +kernel
theorem dX6_voucher_50 : decode cX6_voucher 50 = .ok (.aload_n 0, 1) := by decide +kernel
theorem dX6_voucher_51 : decode cX6_voucher 51 = .ok (.bipush 32, 2) := by decide +kernel
theorem dX6_voucher_53 : decode cX6_voucher 53 = .ok (.invokevirtual 176, 3) := by decide +kernel
theorem dX6_voucher_56 : decode cX6_voucher 56 = .ok (.return_, 1) := by decide +kernel
set_option maxRecDepth 20000 in
theorem ggX6_key_X6_free : GoodIn wsX6_key wsX6_free := goodIn_r _ [7, 8, 9, 10, 11, 12, 13, 14, 15, 16, 17, 18, 19, 20, 21, 22, 23, 24, 25, 26, 27, 28, 29, 30, 31, 32, 33, 34, 35, 36, 37, 38, 39, 40, 41, 42] rfl (by decide +kernel)
set_option maxRecDepth 20000 in
theorem gX6_key_X6_free : GoodIn wsX6_key (wsV RX6 155 RX6 yX6_free wsX6_free) := goodIn_app (goodIn_of _ (by decide +kernel)) ggX6_key_X6_free
theorem dX6_key_0 : decode cX6_key 0 = .ok (.aload_n 0, 1) := by decide +kernel
theorem dX6_key_1 : decode cX6_key 1 = .ok (.iload_n 1, 1) := by decide +kernel
theorem dX6_key_2 : decode cX6_key 2 = .ok (.ifCond .lt 9, 3) := by decide +kernel
theorem dX6_key_5 : decode cX6_key 5 = .ok (.iload_n 1, 1) := by decide +kernel
theorem dX6_key_6 : decode cX6_key 6 = .ok (.bipush 7, 2) := by decide +kernel
theorem dX6_key_8 : decode cX6_key 8 = .ok (.if_icmp .le 7, 3) := by decide +kernel
theorem dX6_key_11 : decode cX6_key 11 = .ok (.iconst 1, 1) := by decide +kernel
theorem dX6_key_12 : decode cX6_key 12 = .ok (.goto 4, 3) := by decide +kernel
theorem dX6_key_15 : decode cX6_key 15 = .ok (.iconst 0, 1) := by decide +kernel
theorem dX6_key_16 : decode cX6_key 16 = .ok (.putfield 158, 3) := by decide +kernel
theorem dX6_key_19 : decode cX6_key 19 = .ok (.aload_n 0, 1) := by decide +kernel
theorem dX6_key_20 : decode cX6_key 20 = .ok (.getfield 158, 3) := by decide +kernel
theorem dX6_key_23 : decode cX6_key 23 = .ok (.ifCond .ne 14, 3) := by decide +kernel
theorem dX6_key_26 : decode cX6_key 26 = .ok (.aload_n 0, 1) := by decide +kernel
theorem dX6_key_27 : decode cX6_key 27 = .ok (.getfield 7, 3) := by decide +kernel
theorem dX6_key_30 : decode cX6_key 30 = .ok (.iload_n 1, 1) := by decide +kernel
theorem dX6_key_31 : decode cX6_key 31 = .ok (.iload_n 2, 1) := by decide +kernel
theorem dX6_key_32 : decode cX6_key 32 = .ok (.iastore, 1) := by decide +kernel
theorem dX6_key_33 : decode cX6_key 33 = .ok (.aload_n 0, 1) := by decide +kernel
theorem dX6_key_34 : decode cX6_key 34 = .ok (.invokevirtual 155, 3) := by decide +kernel
theorem dX6_key_37 : decode cX6_key 37 = .ok (.return_, 1) := by decide +kernel
theorem dX6_noFrame_0 : decode cX6_noFrame 0 = .ok (.iload_n 0, 1) := by decide +kernel
theorem dX6_noFrame_1 : decode cX6_noFrame 1 = .ok (.ifCond .lt 9, 3) := by decide +kernel
theorem dX6_noFrame_4 : decode cX6_noFrame 4 = .ok (.iload_n 0, 1) := by decide +kernel
theorem dX6_noFrame_5 : decode cX6_noFrame 5 = .ok (.bipush 8, 2) := by decide +kernel
theorem dX6_noFrame_7 : decode cX6_noFrame 7 = .ok (.if_icmp .lt 7, 3) := by decide +kernel
theorem dX6_noFrame_10 : decode cX6_noFrame 10 = .ok (.iconst 1, 1) := by decide +kernel
theorem dX6_noFrame_11 : decode cX6_noFrame 11 = .ok (.goto 4, 3) := by decide +kernel
theorem dX6_noFrame_14 : decode cX6_noFrame 14 = .ok (.iconst 0, 1) := by decide +kernel
theorem dX6_noFrame_15 : decode cX6_noFrame 15 = .ok (.ireturn, 1) := by decide +kernel
set_option maxRecDepth 20000 in
theorem ggX6_poke_X6_noFrame : GoodIn wsX6_poke wsX6_noFrame := goodIn_r _ [6] rfl (by decide +kernel)
set_option maxRecDepth 20000 in
theorem gX6_poke_X6_noFrame : GoodIn wsX6_poke (va_wsS RX6 179 yX6_noFrame wsX6_noFrame) := goodIn_app (goodIn_of _ (by decide +kernel)) ggX6_poke_X6_noFrame
theorem dX6_poke_0 : decode cX6_poke 0 = .ok (.aload_n 0, 1) := by decide +kernel
theorem dX6_poke_1 : decode cX6_poke 1 = .ok (.iload_n 1, 1) := by decide +kernel
theorem dX6_poke_2 : decode cX6_poke 2 = .ok (.invokestatic 179, 3) := by decide +kernel
theorem dX6_poke_5 : decode cX6_poke 5 = .ok (.ifCond .ne 13, 3) := by decide +kernel
theorem dX6_poke_8 : decode cX6_poke 8 = .ok (.iload_n 2, 1) := by decide +kernel
theorem dX6_poke_9 : decode cX6_poke 9 = .ok (.ifCond .lt 9, 3) := by decide +kernel
theorem dX6_poke_12 : decode cX6_poke 12 = .ok (.iload_n 2, 1) := by decide +kernel
theorem dX6_poke_13 : decode cX6_poke 13 = .ok (.bipush 16, 2) := by decide +kernel
theorem dX6_poke_15 : decode cX6_poke 15 = .ok (.if_icmp .lt 7, 3) := by decide +kernel
theorem dX6_poke_18 : decode cX6_poke 18 = .ok (.iconst 1, 1) := by decide +kernel
theorem dX6_poke_19 : decode cX6_poke 19 = .ok (.goto 4, 3) := by decide +kernel
theorem dX6_poke_22 : decode cX6_poke 22 = .ok (.iconst 0, 1) := by decide +kernel
theorem dX6_poke_23 : decode cX6_poke 23 = .ok (.putfield 158, 3) := by decide +kernel
theorem dX6_poke_26 : decode cX6_poke 26 = .ok (.aload_n 0, 1) := by decide +kernel
theorem dX6_poke_27 : decode cX6_poke 27 = .ok (.getfield 158, 3) := by decide +kernel
theorem dX6_poke_30 : decode cX6_poke 30 = .ok (.ifCond .le 5, 3) := by decide +kernel
theorem dX6_poke_33 : decode cX6_poke 33 = .ok (.iconst 0, 1) := by decide +kernel
theorem dX6_poke_34 : decode cX6_poke 34 = .ok (.ireturn, 1) := by decide +kernel
theorem dX6_poke_35 : decode cX6_poke 35 = .ok (.aload_n 0, 1) := by decide +kernel
theorem dX6_poke_36 : decode cX6_poke 36 = .ok (.getfield 13, 3) := by decide +kernel
theorem dX6_poke_39 : decode cX6_poke 39 = .ok (.bipush 16, 2) := by decide +kernel
theorem dX6_poke_41 : decode cX6_poke 41 = .ok (.iload_n 1, 1) := by decide +kernel
theorem dX6_poke_42 : decode cX6_poke 42 = .ok (.imul, 1) := by decide +kernel
theorem dX6_poke_43 : decode cX6_poke 43 = .ok (.iload_n 2, 1) := by decide +kernel
theorem dX6_poke_44 : decode cX6_poke 44 = .ok (.iadd, 1) := by decide +kernel
theorem dX6_poke_45 : decode cX6_poke 45 = .ok (.iaload, 1) := by decide +kernel
theorem dX6_poke_46 : decode cX6_poke 46 = .ok (.istore 4, 2) := by decide +kernel
theorem dX6_poke_48 : decode cX6_poke 48 = .ok (.aload_n 0, 1) := by decide +kernel
theorem dX6_poke_49 : decode cX6_poke 49 = .ok (.getfield 13, 3) := by decide +kernel
theorem dX6_poke_52 : decode cX6_poke 52 = .ok (.bipush 16, 2) := by decide +kernel
theorem dX6_poke_54 : decode cX6_poke 54 = .ok (.iload_n 1, 1) := by decide +kernel
theorem dX6_poke_55 : decode cX6_poke 55 = .ok (.imul, 1) := by decide +kernel
theorem dX6_poke_56 : decode cX6_poke 56 = .ok (.iload_n 2, 1) := by decide +kernel
theorem dX6_poke_57 : decode cX6_poke 57 = .ok (.iadd, 1) := by decide +kernel
theorem dX6_poke_58 : decode cX6_poke 58 = .ok (.iload_n 3, 1) := by decide +kernel
theorem dX6_poke_59 : decode cX6_poke 59 = .ok (.iastore, 1) := by decide +kernel
theorem dX6_poke_60 : decode cX6_poke 60 = .ok (.iload 4, 2) := by decide +kernel
theorem dX6_poke_62 : decode cX6_poke 62 = .ok (.ireturn, 1) := by decide +kernel
set_option maxRecDepth 20000 in
theorem ggX6_peek_X6_noFrame : GoodIn wsX6_peek wsX6_noFrame := goodIn_r _ [6] rfl (by decide +kernel)
set_option maxRecDepth 20000 in
theorem gX6_peek_X6_noFrame : GoodIn wsX6_peek (va_wsS RX6 179 yX6_noFrame wsX6_noFrame) := goodIn_app (goodIn_of _ (by decide +kernel)) ggX6_peek_X6_noFrame
theorem dX6_peek_0 : decode cX6_peek 0 = .ok (.aload_n 0, 1) := by decide +kernel
theorem dX6_peek_1 : decode cX6_peek 1 = .ok (.iload_n 1, 1) := by decide +kernel
theorem dX6_peek_2 : decode cX6_peek 2 = .ok (.invokestatic 179, 3) := by decide +kernel
theorem dX6_peek_5 : decode cX6_peek 5 = .ok (.ifCond .ne 13, 3) := by decide +kernel
theorem dX6_peek_8 : decode cX6_peek 8 = .ok (.iload_n 2, 1) := by decide +kernel
theorem dX6_peek_9 : decode cX6_peek 9 = .ok (.ifCond .lt 9, 3) := by decide +kernel
theorem dX6_peek_12 : decode cX6_peek 12 = .ok (.iload_n 2, 1) := by decide +kernel
theorem dX6_peek_13 : decode cX6_peek 13 = .ok (.bipush 16, 2) := by decide +kernel
theorem dX6_peek_15 : decode cX6_peek 15 = .ok (.if_icmp .lt 7, 3) := by decide +kernel
theorem dX6_peek_18 : decode cX6_peek 18 = .ok (.iconst 1, 1) := by decide +kernel
theorem dX6_peek_19 : decode cX6_peek 19 = .ok (.goto 4, 3) := by decide +kernel
theorem dX6_peek_22 : decode cX6_peek 22 = .ok (.iconst 0, 1) := by decide +kernel
theorem dX6_peek_23 : decode cX6_peek 23 = .ok (.putfield 158, 3) := by decide +kernel
theorem dX6_peek_26 : decode cX6_peek 26 = .ok (.aload_n 0, 1) := by decide +kernel
theorem dX6_peek_27 : decode cX6_peek 27 = .ok (.getfield 158, 3) := by decide +kernel
theorem dX6_peek_30 : decode cX6_peek 30 = .ok (.ifCond .le 7, 3) := by decide +kernel
theorem dX6_peek_33 : decode cX6_peek 33 = .ok (.iconst 0, 1) := by decide +kernel
theorem dX6_peek_34 : decode cX6_peek 34 = .ok (.goto 14, 3) := by decide +kernel
theorem dX6_peek_37 : decode cX6_peek 37 = .ok (.aload_n 0, 1) := by decide +kernel
theorem dX6_peek_38 : decode cX6_peek 38 = .ok (.getfield 13, 3) := by decide +kernel
theorem dX6_peek_41 : decode cX6_peek 41 = .ok (.bipush 16, 2) := by decide +kernel
theorem dX6_peek_43 : decode cX6_peek 43 = .ok (.iload_n 1, 1) := by decide +kernel
theorem dX6_peek_44 : decode cX6_peek 44 = .ok (.imul, 1) := by decide +kernel
theorem dX6_peek_45 : decode cX6_peek 45 = .ok (.iload_n 2, 1) := by decide +kernel
theorem dX6_peek_46 : decode cX6_peek 46 = .ok (.iadd, 1) := by decide +kernel
theorem dX6_peek_47 : decode cX6_peek 47 = .ok (.iaload, 1) := by decide +kernel
theorem dX6_peek_48 : decode cX6_peek 48 = .ok (.ireturn, 1) := by decide +kernel
theorem dX6_noPage_0 : decode cX6_noPage 0 = .ok (.iload_n 0, 1) := by decide +kernel
theorem dX6_noPage_1 : decode cX6_noPage 1 = .ok (.ifCond .lt 9, 3) := by decide +kernel
theorem dX6_noPage_4 : decode cX6_noPage 4 = .ok (.iload_n 0, 1) := by decide +kernel
theorem dX6_noPage_5 : decode cX6_noPage 5 = .ok (.bipush 20, 2) := by decide +kernel
theorem dX6_noPage_7 : decode cX6_noPage 7 = .ok (.if_icmp .lt 7, 3) := by decide +kernel
theorem dX6_noPage_10 : decode cX6_noPage 10 = .ok (.iconst 1, 1) := by decide +kernel
theorem dX6_noPage_11 : decode cX6_noPage 11 = .ok (.goto 4, 3) := by decide +kernel
theorem dX6_noPage_14 : decode cX6_noPage 14 = .ok (.iconst 0, 1) := by decide +kernel
theorem dX6_noPage_15 : decode cX6_noPage 15 = .ok (.ireturn, 1) := by decide +kernel
theorem dX6_begin_0 : decode cX6_begin 0 = .ok (.aload_n 0, 1) := by decide +kernel
theorem dX6_begin_1 : decode cX6_begin 1 = .ok (.iconst 0, 1) := by decide +kernel
theorem dX6_begin_2 : decode cX6_begin 2 = .ok (.putfield 158, 3) := by decide +kernel
theorem dX6_begin_5 : decode cX6_begin 5 = .ok (.aload_n 0, 1) := by decide +kernel
theorem dX6_begin_6 : decode cX6_begin 6 = .ok (.iconst 0, 1) := by decide +kernel
theorem dX6_begin_7 : decode cX6_begin 7 = .ok (.putfield 183, 3) := by decide +kernel
theorem dX6_begin_10 : decode cX6_begin 10 = .ok (.return_, 1) := by decide +kernel
theorem dX6_wrong_0 : decode cX6_wrong 0 = .ok (.iload_n 1, 1) := by decide +kernel
theorem dX6_wrong_1 : decode cX6_wrong 1 = .ok (.ifCond .eq 15, 3) := by decide +kernel
theorem dX6_wrong_4 : decode cX6_wrong 4 = .ok (.aload_n 0, 1) := by decide +kernel
theorem dX6_wrong_5 : decode cX6_wrong 5 = .ok (.getfield 183, 3) := by decide +kernel
theorem dX6_wrong_8 : decode cX6_wrong 8 = .ok (.ifCond .ne 8, 3) := by decide +kernel
theorem dX6_wrong_11 : decode cX6_wrong 11 = .ok (.aload_n 0, 1) := by decide +kernel
theorem dX6_wrong_12 : decode cX6_wrong 12 = .ok (.iload_n 2, 1) := by decide +kernel
theorem dX6_wrong_13 : decode cX6_wrong 13 = .ok (.putfield 183, 3) := by decide +kernel
theorem dX6_wrong_16 : decode cX6_wrong 16 = .ok (.return_, 1) := by decide +kernel
set_option maxRecDepth 20000 in
theorem ggX6_isKind_X6_noPage : GoodIn wsX6_isKind wsX6_noPage := goodIn_r _ [5] rfl (by decide +kernel)
set_option maxRecDepth 20000 in
theorem gX6_isKind_X6_noPage : GoodIn wsX6_isKind (va_wsS RX6 186 yX6_noPage wsX6_noPage) := goodIn_app (goodIn_of _ (by decide +kernel)) ggX6_isKind_X6_noPage
theorem dX6_isKind_0 : decode cX6_isKind 0 = .ok (.iload_n 1, 1) := by decide +kernel
theorem dX6_isKind_1 : decode cX6_isKind 1 = .ok (.invokestatic 186, 3) := by decide +kernel
theorem dX6_isKind_4 : decode cX6_isKind 4 = .ok (.ifCond .ne 17, 3) := by decide +kernel
theorem dX6_isKind_7 : decode cX6_isKind 7 = .ok (.aload_n 0, 1) := by decide +kernel
theorem dX6_isKind_8 : decode cX6_isKind 8 = .ok (.getfield 16, 3) := by decide +kernel
theorem dX6_isKind_11 : decode cX6_isKind 11 = .ok (.iload_n 1, 1) := by decide +kernel
theorem dX6_isKind_12 : decode cX6_isKind 12 = .ok (.iaload, 1) := by decide +kernel
theorem dX6_isKind_13 : decode cX6_isKind 13 = .ok (.iload_n 2, 1) := by decide +kernel
theorem dX6_isKind_14 : decode cX6_isKind 14 = .ok (.if_icmp .ne 7, 3) := by decide +kernel
theorem dX6_isKind_17 : decode cX6_isKind 17 = .ok (.iconst 1, 1) := by decide +kernel
theorem dX6_isKind_18 : decode cX6_isKind 18 = .ok (.goto 4, 3) := by decide +kernel
theorem dX6_isKind_21 : decode cX6_isKind 21 = .ok (.iconst 0, 1) := by decide +kernel
theorem dX6_isKind_22 : decode cX6_isKind 22 = .ok (.ireturn, 1) := by decide +kernel
set_option maxRecDepth 20000 in
theorem ggX6_wantFree_X6_isKind : GoodIn wsX6_wantFree wsX6_isKind := goodIn_r _ [5, 6, 7, 8, 4, 9, 15, 16, 17, 18, 19, 20, 21, 22, 23, 24, 25, 26, 27, 28, 29, 30, 31, 32, 33, 34, 35, 36, 37, 38, 39, 40, 41, 42, 43, 44, 45, 46] rfl (by decide +kernel)
set_option maxRecDepth 20000 in
theorem gX6_wantFree_X6_isKind : GoodIn wsX6_wantFree (wsV RX6 189 RX6 yX6_isKind wsX6_isKind) := goodIn_app (goodIn_of _ (by decide +kernel)) ggX6_wantFree_X6_isKind
set_option maxRecDepth 20000 in
theorem ggX6_wantFree_X6_wrong : GoodIn wsX6_wantFree wsX6_wrong := goodIn_r _ [13, 14, 15, 16, 17, 18, 19, 20, 21, 22, 23, 24, 25, 26, 27, 28, 29, 30, 31, 32, 33, 34, 35, 36, 37, 38, 39, 40, 41, 42, 43, 44, 45, 46] rfl (by decide +kernel)
set_option maxRecDepth 20000 in
theorem gX6_wantFree_X6_wrong : GoodIn wsX6_wantFree (wsV RX6 193 RX6 yX6_wrong wsX6_wrong) := goodIn_app (goodIn_of _ (by decide +kernel)) ggX6_wantFree_X6_wrong
theorem dX6_wantFree_0 : decode cX6_wantFree 0 = .ok (.aload_n 0, 1) := by decide +kernel
theorem dX6_wantFree_1 : decode cX6_wantFree 1 = .ok (.aload_n 0, 1) := by decide +kernel
theorem dX6_wantFree_2 : decode cX6_wantFree 2 = .ok (.iload_n 1, 1) := by decide +kernel
theorem dX6_wantFree_3 : decode cX6_wantFree 3 = .ok (.iconst 0, 1) := by decide +kernel
theorem dX6_wantFree_4 : decode cX6_wantFree 4 = .ok (.invokevirtual 189, 3) := by decide +kernel
theorem dX6_wantFree_7 : decode cX6_wantFree 7 = .ok (.ifCond .ne 7, 3) := by decide +kernel
theorem dX6_wantFree_10 : decode cX6_wantFree 10 = .ok (.iconst 1, 1) := by decide +kernel
theorem dX6_wantFree_11 : decode cX6_wantFree 11 = .ok (.goto 4, 3) := by decide +kernel
theorem dX6_wantFree_14 : decode cX6_wantFree 14 = .ok (.iconst 0, 1) := by decide +kernel
theorem dX6_wantFree_15 : decode cX6_wantFree 15 = .ok (.iconst 2, 1) := by decide +kernel
theorem dX6_wantFree_16 : decode cX6_wantFree 16 = .ok (.invokevirtual 193, 3) := by decide +kernel
theorem dX6_wantFree_19 : decode cX6_wantFree 19 = .ok (.return_, 1) := by decide +kernel
set_option maxRecDepth 20000 in
theorem ggX6_wantSpace_X6_isKind : GoodIn wsX6_wantSpace wsX6_isKind := goodIn_r _ [7, 8, 9, 10, 6, 11, 16, 17, 18, 19, 20, 21, 22, 23, 24, 25, 26, 27, 28, 29, 30, 31, 32, 33, 34, 35, 36, 37, 38, 39, 40, 41, 42, 43, 44, 45, 46, 47] rfl (by decide +kernel)
set_option maxRecDepth 20000 in
theorem gX6_wantSpace_X6_isKind : GoodIn wsX6_wantSpace (wsV RX6 189 RX6 yX6_isKind wsX6_isKind) := goodIn_app (goodIn_of _ (by decide +kernel)) ggX6_wantSpace_X6_isKind
set_option maxRecDepth 20000 in
theorem ggX6_wantSpace_X6_wrong : GoodIn wsX6_wantSpace wsX6_wrong := goodIn_r _ [15, 1, 16, 17, 18, 19, 20, 21, 22, 23, 24, 25, 26, 27, 28, 29, 30, 31, 32, 33, 34, 35, 36, 37, 38, 39, 40, 41, 42, 43, 44, 45, 46, 47] rfl (by decide +kernel)
set_option maxRecDepth 20000 in
theorem gX6_wantSpace_X6_wrong : GoodIn wsX6_wantSpace (wsV RX6 193 RX6 yX6_wrong wsX6_wrong) := goodIn_app (goodIn_of _ (by decide +kernel)) ggX6_wantSpace_X6_wrong
theorem dX6_wantSpace_0 : decode cX6_wantSpace 0 = .ok (.aload_n 0, 1) := by decide +kernel
theorem dX6_wantSpace_1 : decode cX6_wantSpace 1 = .ok (.aload_n 0, 1) := by decide +kernel
theorem dX6_wantSpace_2 : decode cX6_wantSpace 2 = .ok (.iload_n 1, 1) := by decide +kernel
theorem dX6_wantSpace_3 : decode cX6_wantSpace 3 = .ok (.iconst 1, 1) := by decide +kernel
theorem dX6_wantSpace_4 : decode cX6_wantSpace 4 = .ok (.invokevirtual 189, 3) := by decide +kernel
theorem dX6_wantSpace_7 : decode cX6_wantSpace 7 = .ok (.ifCond .ne 7, 3) := by decide +kernel
theorem dX6_wantSpace_10 : decode cX6_wantSpace 10 = .ok (.iconst 1, 1) := by decide +kernel
theorem dX6_wantSpace_11 : decode cX6_wantSpace 11 = .ok (.goto 4, 3) := by decide +kernel
theorem dX6_wantSpace_14 : decode cX6_wantSpace 14 = .ok (.iconst 0, 1) := by decide +kernel
theorem dX6_wantSpace_15 : decode cX6_wantSpace 15 = .ok (.iconst 3, 1) := by decide +kernel
theorem dX6_wantSpace_16 : decode cX6_wantSpace 16 = .ok (.invokevirtual 193, 3) := by decide +kernel
theorem dX6_wantSpace_19 : decode cX6_wantSpace 19 = .ok (.aload_n 0, 1) := by decide +kernel
theorem dX6_wantSpace_20 : decode cX6_wantSpace 20 = .ok (.aload_n 0, 1) := by decide +kernel
theorem dX6_wantSpace_21 : decode cX6_wantSpace 21 = .ok (.getfield 183, 3) := by decide +kernel
theorem dX6_wantSpace_24 : decode cX6_wantSpace 24 = .ok (.ifCond .ne 17, 3) := by decide +kernel
theorem dX6_wantSpace_27 : decode cX6_wantSpace 27 = .ok (.aload_n 0, 1) := by decide +kernel
theorem dX6_wantSpace_28 : decode cX6_wantSpace 28 = .ok (.getfield 22, 3) := by decide +kernel
theorem dX6_wantSpace_31 : decode cX6_wantSpace 31 = .ok (.iload_n 1, 1) := by decide +kernel
theorem dX6_wantSpace_32 : decode cX6_wantSpace 32 = .ok (.iaload, 1) := by decide +kernel
theorem dX6_wantSpace_33 : decode cX6_wantSpace 33 = .ok (.iload_n 2, 1) := by decide +kernel
theorem dX6_wantSpace_34 : decode cX6_wantSpace 34 = .ok (.if_icmp .eq 7, 3) := by decide +kernel
theorem dX6_wantSpace_37 : decode cX6_wantSpace 37 = .ok (.iconst 1, 1) := by decide +kernel
theorem dX6_wantSpace_38 : decode cX6_wantSpace 38 = .ok (.goto 4, 3) := by decide +kernel
theorem dX6_wantSpace_41 : decode cX6_wantSpace 41 = .ok (.iconst 0, 1) := by decide +kernel
theorem dX6_wantSpace_42 : decode cX6_wantSpace 42 = .ok (.iconst 4, 1) := by decide +kernel
theorem dX6_wantSpace_43 : decode cX6_wantSpace 43 = .ok (.invokevirtual 193, 3) := by decide +kernel
theorem dX6_wantSpace_46 : decode cX6_wantSpace 46 = .ok (.return_, 1) := by decide +kernel
theorem dX6_tableOf_0 : decode cX6_tableOf 0 = .ok (.aload_n 0, 1) := by decide +kernel
theorem dX6_tableOf_1 : decode cX6_tableOf 1 = .ok (.getfield 34, 3) := by decide +kernel
theorem dX6_tableOf_4 : decode cX6_tableOf 4 = .ok (.iconst 4, 1) := by decide +kernel
theorem dX6_tableOf_5 : decode cX6_tableOf 5 = .ok (.iload_n 1, 1) := by decide +kernel
theorem dX6_tableOf_6 : decode cX6_tableOf 6 = .ok (.imul, 1) := by decide +kernel
theorem dX6_tableOf_7 : decode cX6_tableOf 7 = .ok (.iload_n 2, 1) := by decide +kernel
theorem dX6_tableOf_8 : decode cX6_tableOf 8 = .ok (.bipush 8, 2) := by decide +kernel
theorem dX6_tableOf_10 : decode cX6_tableOf 10 = .ok (.idiv, 1) := by decide +kernel
theorem dX6_tableOf_11 : decode cX6_tableOf 11 = .ok (.iadd, 1) := by decide +kernel
theorem dX6_tableOf_12 : decode cX6_tableOf 12 = .ok (.iaload, 1) := by decide +kernel
theorem dX6_tableOf_13 : decode cX6_tableOf 13 = .ok (.ireturn, 1) := by decide +kernel
set_option maxRecDepth 20000 in
theorem ggX6_entryOf_X6_tableOf : GoodIn wsX6_entryOf wsX6_tableOf := goodIn_r _ [5, 6, 7, 8, 9, 10, 11, 12, 13, 14, 15, 16, 17, 18, 19, 20, 21, 22, 23, 24, 25, 26, 27, 28, 29, 30, 31, 32, 33, 34, 35, 36, 37, 38] rfl (by decide +kernel)
set_option maxRecDepth 20000 in
theorem gX6_entryOf_X6_tableOf : GoodIn wsX6_entryOf (wsV RX6 197 RX6 yX6_tableOf wsX6_tableOf) := goodIn_app (goodIn_of _ (by decide +kernel)) ggX6_entryOf_X6_tableOf
theorem dX6_entryOf_0 : decode cX6_entryOf 0 = .ok (.bipush 8, 2) := by decide +kernel
theorem dX6_entryOf_2 : decode cX6_entryOf 2 = .ok (.aload_n 0, 1) := by decide +kernel
theorem dX6_entryOf_3 : decode cX6_entryOf 3 = .ok (.iload_n 1, 1) := by decide +kernel
theorem dX6_entryOf_4 : decode cX6_entryOf 4 = .ok (.iload_n 2, 1) := by decide +kernel
theorem dX6_entryOf_5 : decode cX6_entryOf 5 = .ok (.invokevirtual 197, 3) := by decide +kernel
theorem dX6_entryOf_8 : decode cX6_entryOf 8 = .ok (.imul, 1) := by decide +kernel
theorem dX6_entryOf_9 : decode cX6_entryOf 9 = .ok (.iload_n 2, 1) := by decide +kernel
theorem dX6_entryOf_10 : decode cX6_entryOf 10 = .ok (.bipush 8, 2) := by decide +kernel
theorem dX6_entryOf_12 : decode cX6_entryOf 12 = .ok (.irem, 1) := by decide +kernel
theorem dX6_entryOf_13 : decode cX6_entryOf 13 = .ok (.iadd, 1) := by decide +kernel
theorem dX6_entryOf_14 : decode cX6_entryOf 14 = .ok (.ireturn, 1) := by decide +kernel
set_option maxRecDepth 20000 in
theorem ggX6_isTaken_X6_tableOf : GoodIn wsX6_isTaken wsX6_tableOf := goodIn_r _ [6, 7, 12, 13, 14, 15, 16, 17, 18, 19, 20, 21, 22, 23, 24, 25, 26, 27, 28, 29, 30, 31, 32, 33, 34, 35, 36, 37, 38, 39, 40, 41, 42, 43] rfl (by decide +kernel)
set_option maxRecDepth 20000 in
theorem gX6_isTaken_X6_tableOf : GoodIn wsX6_isTaken (wsV RX6 197 RX6 yX6_tableOf wsX6_tableOf) := goodIn_app (goodIn_of _ (by decide +kernel)) ggX6_isTaken_X6_tableOf
set_option maxRecDepth 20000 in
theorem ggX6_isTaken_X6_entryOf : GoodIn wsX6_isTaken wsX6_entryOf := goodIn_r _ [11, 2, 3, 4, 5, 6, 7, 12, 13, 14, 15, 16, 17, 18, 19, 20, 21, 22, 23, 24, 25, 26, 27, 28, 29, 30, 31, 32, 33, 34, 35, 36, 37, 38, 39, 40, 41, 42, 43] rfl (by decide +kernel)
set_option maxRecDepth 20000 in
theorem gX6_isTaken_X6_entryOf : GoodIn wsX6_isTaken (wsV RX6 200 RX6 yX6_entryOf wsX6_entryOf) := goodIn_app (goodIn_of _ (by decide +kernel)) ggX6_isTaken_X6_entryOf
theorem dX6_isTaken_0 : decode cX6_isTaken 0 = .ok (.aload_n 0, 1) := by decide +kernel
theorem dX6_isTaken_1 : decode cX6_isTaken 1 = .ok (.iload_n 1, 1) := by decide +kernel
theorem dX6_isTaken_2 : decode cX6_isTaken 2 = .ok (.iload_n 2, 1) := by decide +kernel
theorem dX6_isTaken_3 : decode cX6_isTaken 3 = .ok (.invokevirtual 197, 3) := by decide +kernel
theorem dX6_isTaken_6 : decode cX6_isTaken 6 = .ok (.ifCond .lt 17, 3) := by decide +kernel
theorem dX6_isTaken_9 : decode cX6_isTaken 9 = .ok (.aload_n 0, 1) := by decide +kernel
theorem dX6_isTaken_10 : decode cX6_isTaken 10 = .ok (.getfield 28, 3) := by decide +kernel
theorem dX6_isTaken_13 : decode cX6_isTaken 13 = .ok (.aload_n 0, 1) := by decide +kernel
theorem dX6_isTaken_14 : decode cX6_isTaken 14 = .ok (.iload_n 1, 1) := by decide +kernel
theorem dX6_isTaken_15 : decode cX6_isTaken 15 = .ok (.iload_n 2, 1) := by decide +kernel
theorem dX6_isTaken_16 : decode cX6_isTaken 16 = .ok (.invokevirtual 200, 3) := by decide +kernel
theorem dX6_isTaken_19 : decode cX6_isTaken 19 = .ok (.iaload, 1) := by decide +kernel
theorem dX6_isTaken_20 : decode cX6_isTaken 20 = .ok (.ifCond .eq 7, 3) := by decide +kernel
theorem dX6_isTaken_23 : decode cX6_isTaken 23 = .ok (.iconst 1, 1) := by decide +kernel
theorem dX6_isTaken_24 : decode cX6_isTaken 24 = .ok (.goto 4, 3) := by decide +kernel
theorem dX6_isTaken_27 : decode cX6_isTaken 27 = .ok (.iconst 0, 1) := by decide +kernel
theorem dX6_isTaken_28 : decode cX6_isTaken 28 = .ok (.ireturn, 1) := by decide +kernel
theorem dX6_noBlock_0 : decode cX6_noBlock 0 = .ok (.iload_n 0, 1) := by decide +kernel
theorem dX6_noBlock_1 : decode cX6_noBlock 1 = .ok (.ifCond .lt 9, 3) := by decide +kernel
theorem dX6_noBlock_4 : decode cX6_noBlock 4 = .ok (.iload_n 0, 1) := by decide +kernel
theorem dX6_noBlock_5 : decode cX6_noBlock 5 = .ok (.bipush 31, 2) := by decide +kernel
theorem dX6_noBlock_7 : decode cX6_noBlock 7 = .ok (.if_icmp .le 7, 3) := by decide +kernel
theorem dX6_noBlock_10 : decode cX6_noBlock 10 = .ok (.iconst 1, 1) := by decide +kernel
theorem dX6_noBlock_11 : decode cX6_noBlock 11 = .ok (.goto 4, 3) := by decide +kernel
theorem dX6_noBlock_14 : decode cX6_noBlock 14 = .ok (.iconst 0, 1) := by decide +kernel
theorem dX6_noBlock_15 : decode cX6_noBlock 15 = .ok (.ireturn, 1) := by decide +kernel
theorem dX6_become_0 : decode cX6_become 0 = .ok (.aload_n 0, 1) := by decide +kernel
theorem dX6_become_1 : decode cX6_become 1 = .ok (.getfield 16, 3) := by decide +kernel
theorem dX6_become_4 : decode cX6_become 4 = .ok (.iload_n 1, 1) := by decide +kernel
theorem dX6_become_5 : decode cX6_become 5 = .ok (.iload_n 2, 1) := by decide +kernel
theorem dX6_become_6 : decode cX6_become 6 = .ok (.iastore, 1) := by decide +kernel
theorem dX6_become_7 : decode cX6_become 7 = .ok (.aload_n 0, 1) := by decide +kernel
theorem dX6_become_8 : decode cX6_become 8 = .ok (.getfield 19, 3) := by decide +kernel
theorem dX6_become_11 : decode cX6_become 11 = .ok (.iload_n 1, 1) := by decide +kernel
theorem dX6_become_12 : decode cX6_become 12 = .ok (.iload_n 3, 1) := by decide +kernel
theorem dX6_become_13 : decode cX6_become 13 = .ok (.iastore, 1) := by decide +kernel
theorem dX6_become_14 : decode cX6_become 14 = .ok (.return_, 1) := by decide +kernel
theorem dX6_tell_0 : decode cX6_tell 0 = .ok (.sipush 1600, 3) := by decide +kernel
theorem dX6_tell_3 : decode cX6_tell 3 = .ok (.iload_n 1, 1) := by decide +kernel
theorem dX6_tell_4 : decode cX6_tell 4 = .ok (.imul, 1) := by decide +kernel
theorem dX6_tell_5 : decode cX6_tell 5 = .ok (.aload_n 0, 1) := by decide +kernel
theorem dX6_tell_6 : decode cX6_tell 6 = .ok (.getfield 40, 3) := by decide +kernel
theorem dX6_tell_9 : decode cX6_tell 9 = .ok (.iload_n 1, 1) := by decide +kernel
theorem dX6_tell_10 : decode cX6_tell 10 = .ok (.iaload, 1) := by decide +kernel
theorem dX6_tell_11 : decode cX6_tell 11 = .ok (.iadd, 1) := by decide +kernel
theorem dX6_tell_12 : decode cX6_tell 12 = .ok (.istore 5, 2) := by decide +kernel
theorem dX6_tell_14 : decode cX6_tell 14 = .ok (.iconst 0, 1) := by decide +kernel
theorem dX6_tell_15 : decode cX6_tell 15 = .ok (.istore 6, 2) := by decide +kernel
theorem dX6_tell_17 : decode cX6_tell 17 = .ok (.iload 6, 2) := by decide +kernel
theorem dX6_tell_19 : decode cX6_tell 19 = .ok (.bipush 16, 2) := by decide +kernel
theorem dX6_tell_21 : decode cX6_tell 21 = .ok (.if_icmp .ge 50, 3) := by decide +kernel
theorem dX6_tell_24 : decode cX6_tell 24 = .ok (.aload_n 0, 1) := by decide +kernel
theorem dX6_tell_25 : decode cX6_tell 25 = .ok (.getfield 37, 3) := by decide +kernel
theorem dX6_tell_28 : decode cX6_tell 28 = .ok (.iload 5, 2) := by decide +kernel
theorem dX6_tell_30 : decode cX6_tell 30 = .ok (.iload 6, 2) := by decide +kernel
theorem dX6_tell_32 : decode cX6_tell 32 = .ok (.iadd, 1) := by decide +kernel
theorem dX6_tell_33 : decode cX6_tell 33 = .ok (.iload 6, 2) := by decide +kernel
theorem dX6_tell_35 : decode cX6_tell 35 = .ok (.ifCond .ne 7, 3) := by decide +kernel
theorem dX6_tell_38 : decode cX6_tell 38 = .ok (.iload_n 2, 1) := by decide +kernel
theorem dX6_tell_39 : decode cX6_tell 39 = .ok (.goto 25, 3) := by decide +kernel
theorem dX6_tell_42 : decode cX6_tell 42 = .ok (.iload 6, 2) := by decide +kernel
theorem dX6_tell_44 : decode cX6_tell 44 = .ok (.iconst 1, 1) := by decide +kernel
theorem dX6_tell_45 : decode cX6_tell 45 = .ok (.if_icmp .ne 7, 3) := by decide +kernel
theorem dX6_tell_48 : decode cX6_tell 48 = .ok (.iload_n 3, 1) := by decide +kernel
theorem dX6_tell_49 : decode cX6_tell 49 = .ok (.goto 15, 3) := by decide +kernel
theorem dX6_tell_52 : decode cX6_tell 52 = .ok (.iload 6, 2) := by decide +kernel
theorem dX6_tell_54 : decode cX6_tell 54 = .ok (.iconst 2, 1) := by decide +kernel
theorem dX6_tell_55 : decode cX6_tell 55 = .ok (.if_icmp .ne 8, 3) := by decide +kernel
theorem dX6_tell_58 : decode cX6_tell 58 = .ok (.iload 4, 2) := by decide +kernel
theorem dX6_tell_60 : decode cX6_tell 60 = .ok (.goto 4, 3) := by decide +kernel
theorem dX6_tell_63 : decode cX6_tell 63 = .ok (.iconst 0, 1) := by decide +kernel
theorem dX6_tell_64 : decode cX6_tell 64 = .ok (.iastore, 1) := by decide +kernel
theorem dX6_tell_65 : decode cX6_tell 65 = .ok (.iinc 6 1, 3) := by decide +kernel
theorem dX6_tell_68 : decode cX6_tell 68 = .ok (.goto (-51), 3) := by decide +kernel
theorem dX6_tell_71 : decode cX6_tell 71 = .ok (.aload_n 0, 1) := by decide +kernel
theorem dX6_tell_72 : decode cX6_tell 72 = .ok (.getfield 40, 3) := by decide +kernel
theorem dX6_tell_75 : decode cX6_tell 75 = .ok (.iload_n 1, 1) := by decide +kernel
theorem dX6_tell_76 : decode cX6_tell 76 = .ok (.aload_n 0, 1) := by decide +kernel
theorem dX6_tell_77 : decode cX6_tell 77 = .ok (.getfield 40, 3) := by decide +kernel
theorem dX6_tell_80 : decode cX6_tell 80 = .ok (.iload_n 1, 1) := by decide +kernel
theorem dX6_tell_81 : decode cX6_tell 81 = .ok (.iaload, 1) := by decide +kernel
theorem dX6_tell_82 : decode cX6_tell 82 = .ok (.bipush 16, 2) := by decide +kernel
theorem dX6_tell_84 : decode cX6_tell 84 = .ok (.iadd, 1) := by decide +kernel
theorem dX6_tell_85 : decode cX6_tell 85 = .ok (.iastore, 1) := by decide +kernel
theorem dX6_tell_86 : decode cX6_tell 86 = .ok (.return_, 1) := by decide +kernel
set_option maxRecDepth 20000 in
theorem ggX6_space_X6_begin : GoodIn wsX6_space wsX6_begin := goodIn_r _ [10, 11, 1, 33, 34, 35, 36, 37, 38, 39, 40, 41, 42, 43, 44, 45, 46, 47, 48, 49, 50, 51, 52, 53, 54, 55, 56, 57, 58, 59, 60, 61, 62, 63, 64] rfl (by decide +kernel)
set_option maxRecDepth 20000 in
theorem gX6_space_X6_begin : GoodIn wsX6_space (wsV RX6 203 RX6 yX6_begin wsX6_begin) := goodIn_app (goodIn_of _ (by decide +kernel)) ggX6_space_X6_begin
set_option maxRecDepth 20000 in
theorem ggX6_space_X6_noPage : GoodIn wsX6_space wsX6_noPage := goodIn_r _ [14] rfl (by decide +kernel)
set_option maxRecDepth 20000 in
theorem gX6_space_X6_noPage : GoodIn wsX6_space (va_wsS RX6 186 yX6_noPage wsX6_noPage) := goodIn_app (goodIn_of _ (by decide +kernel)) ggX6_space_X6_noPage
set_option maxRecDepth 20000 in
theorem ggX6_space_X6_wrong : GoodIn wsX6_space wsX6_wrong := goodIn_r _ [18, 1, 33, 34, 35, 36, 37, 38, 39, 40, 41, 42, 43, 44, 45, 46, 47, 48, 49, 50, 51, 52, 53, 54, 55, 56, 57, 58, 59, 60, 61, 62, 63, 64] rfl (by decide +kernel)
set_option maxRecDepth 20000 in
theorem gX6_space_X6_wrong : GoodIn wsX6_space (wsV RX6 193 RX6 yX6_wrong wsX6_wrong) := goodIn_app (goodIn_of _ (by decide +kernel)) ggX6_space_X6_wrong
set_option maxRecDepth 20000 in
theorem ggX6_space_X6_wantFree : GoodIn wsX6_space wsX6_wantFree := goodIn_r _ [22, 23, 24, 25, 9, 26, 27, 12, 13, 14, 15, 16, 17, 18, 1, 33, 34, 35, 36, 37, 38, 39, 40, 41, 42, 43, 44, 45, 46, 47, 48, 49, 50, 51, 52, 53, 54, 55, 56, 57, 58, 59, 60, 61, 62, 63, 64] rfl (by decide +kernel)
set_option maxRecDepth 20000 in
theorem gX6_space_X6_wantFree : GoodIn wsX6_space (wsV RX6 206 RX6 yX6_wantFree wsX6_wantFree) := goodIn_app (goodIn_of _ (by decide +kernel)) ggX6_space_X6_wantFree
set_option maxRecDepth 20000 in
theorem ggX6_space_X6_become : GoodIn wsX6_space wsX6_become := goodIn_r _ [31, 27, 32, 33, 34, 35, 36, 37, 38, 39, 40, 41, 42, 43, 44, 45, 46, 47, 48, 49, 50, 51, 52, 53, 54, 55, 56, 57, 58, 59, 60, 61, 62, 63, 64] rfl (by decide +kernel)
set_option maxRecDepth 20000 in
theorem gX6_space_X6_become : GoodIn wsX6_space (wsV RX6 209 RX6 yX6_become wsX6_become) := goodIn_app (goodIn_of _ (by decide +kernel)) ggX6_space_X6_become
theorem dX6_space_0 : decode cX6_space 0 = .ok (.aload_n 0, 1) := by decide +kernel
theorem dX6_space_1 : decode cX6_space 1 = .ok (.invokevirtual 203, 3) := by decide +kernel
theorem dX6_space_4 : decode cX6_space 4 = .ok (.aload_n 0, 1) := by decide +kernel
theorem dX6_space_5 : decode cX6_space 5 = .ok (.iload_n 1, 1) := by decide +kernel
theorem dX6_space_6 : decode cX6_space 6 = .ok (.invokestatic 186, 3) := by decide +kernel
theorem dX6_space_9 : decode cX6_space 9 = .ok (.iconst 1, 1) := by decide +kernel
theorem dX6_space_10 : decode cX6_space 10 = .ok (.invokevirtual 193, 3) := by decide +kernel
theorem dX6_space_13 : decode cX6_space 13 = .ok (.aload_n 0, 1) := by decide +kernel
theorem dX6_space_14 : decode cX6_space 14 = .ok (.iload_n 1, 1) := by decide +kernel
