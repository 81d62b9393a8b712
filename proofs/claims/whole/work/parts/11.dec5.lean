theorem d_Md_init_426 : decode b_Md_init 426 = .ok (.newarray .int, 2) := by decide +kernel
theorem d_Md_init_428 : decode b_Md_init 428 = .ok (.dup, 1) := by decide +kernel
theorem d_Md_init_429 : decode b_Md_init 429 = .ok (.iconst 0, 1) := by decide +kernel
theorem d_Md_init_430 : decode b_Md_init 430 = .ok (.iconst (-1), 1) := by decide +kernel
theorem d_Md_init_431 : decode b_Md_init 431 = .ok (.iastore, 1) := by decide +kernel
theorem d_Md_init_432 : decode b_Md_init 432 = .ok (.dup, 1) := by decide +kernel
theorem d_Md_init_433 : decode b_Md_init 433 = .ok (.iconst 1, 1) := by decide +kernel
theorem d_Md_init_434 : decode b_Md_init 434 = .ok (.iconst 0, 1) := by decide +kernel
theorem d_Md_init_435 : decode b_Md_init 435 = .ok (.iastore, 1) := by decide +kernel
theorem d_Md_init_436 : decode b_Md_init 436 = .ok (.dup, 1) := by decide +kernel
theorem d_Md_init_437 : decode b_Md_init 437 = .ok (.iconst 2, 1) := by decide +kernel
theorem d_Md_init_438 : decode b_Md_init 438 = .ok (.bipush (-2), 2) := by decide +kernel
theorem d_Md_init_440 : decode b_Md_init 440 = .ok (.iastore, 1) := by decide +kernel
theorem d_Md_init_441 : decode b_Md_init 441 = .ok (.dup, 1) := by decide +kernel
theorem d_Md_init_442 : decode b_Md_init 442 = .ok (.iconst 3, 1) := by decide +kernel
theorem d_Md_init_443 : decode b_Md_init 443 = .ok (.iconst 0, 1) := by decide +kernel
theorem d_Md_init_444 : decode b_Md_init 444 = .ok (.iastore, 1) := by decide +kernel
theorem d_Md_init_445 : decode b_Md_init 445 = .ok (.dup, 1) := by decide +kernel
theorem d_Md_init_446 : decode b_Md_init 446 = .ok (.iconst 4, 1) := by decide +kernel
theorem d_Md_init_447 : decode b_Md_init 447 = .ok (.bipush (-3), 2) := by decide +kernel
theorem d_Md_init_449 : decode b_Md_init 449 = .ok (.iastore, 1) := by decide +kernel
theorem d_Md_init_450 : decode b_Md_init 450 = .ok (.dup, 1) := by decide +kernel
theorem d_Md_init_451 : decode b_Md_init 451 = .ok (.iconst 5, 1) := by decide +kernel
theorem d_Md_init_452 : decode b_Md_init 452 = .ok (.iconst 0, 1) := by decide +kernel
theorem d_Md_init_453 : decode b_Md_init 453 = .ok (.iastore, 1) := by decide +kernel
theorem d_Md_init_454 : decode b_Md_init 454 = .ok (.dup, 1) := by decide +kernel
theorem d_Md_init_455 : decode b_Md_init 455 = .ok (.bipush 6, 2) := by decide +kernel
theorem d_Md_init_457 : decode b_Md_init 457 = .ok (.bipush (-4), 2) := by decide +kernel
theorem d_Md_init_459 : decode b_Md_init 459 = .ok (.iastore, 1) := by decide +kernel
theorem d_Md_init_460 : decode b_Md_init 460 = .ok (.dup, 1) := by decide +kernel
theorem d_Md_init_461 : decode b_Md_init 461 = .ok (.bipush 7, 2) := by decide +kernel
theorem d_Md_init_463 : decode b_Md_init 463 = .ok (.iconst 0, 1) := by decide +kernel
theorem d_Md_init_464 : decode b_Md_init 464 = .ok (.iastore, 1) := by decide +kernel
theorem d_Md_init_465 : decode b_Md_init 465 = .ok (.dup, 1) := by decide +kernel
theorem d_Md_init_466 : decode b_Md_init 466 = .ok (.bipush 8, 2) := by decide +kernel
theorem d_Md_init_468 : decode b_Md_init 468 = .ok (.iconst 2, 1) := by decide +kernel
theorem d_Md_init_469 : decode b_Md_init 469 = .ok (.iastore, 1) := by decide +kernel
theorem d_Md_init_470 : decode b_Md_init 470 = .ok (.dup, 1) := by decide +kernel
theorem d_Md_init_471 : decode b_Md_init 471 = .ok (.bipush 9, 2) := by decide +kernel
theorem d_Md_init_473 : decode b_Md_init 473 = .ok (.iconst (-1), 1) := by decide +kernel
theorem d_Md_init_474 : decode b_Md_init 474 = .ok (.iastore, 1) := by decide +kernel
theorem d_Md_init_475 : decode b_Md_init 475 = .ok (.dup, 1) := by decide +kernel
theorem d_Md_init_476 : decode b_Md_init 476 = .ok (.bipush 10, 2) := by decide +kernel
theorem d_Md_init_478 : decode b_Md_init 478 = .ok (.iconst 1, 1) := by decide +kernel
theorem d_Md_init_479 : decode b_Md_init 479 = .ok (.iastore, 1) := by decide +kernel
theorem d_Md_init_480 : decode b_Md_init 480 = .ok (.dup, 1) := by decide +kernel
theorem d_Md_init_481 : decode b_Md_init 481 = .ok (.bipush 11, 2) := by decide +kernel
theorem d_Md_init_483 : decode b_Md_init 483 = .ok (.iconst (-1), 1) := by decide +kernel
theorem d_Md_init_484 : decode b_Md_init 484 = .ok (.iastore, 1) := by decide +kernel
theorem d_Md_init_485 : decode b_Md_init 485 = .ok (.dup, 1) := by decide +kernel
theorem d_Md_init_486 : decode b_Md_init 486 = .ok (.bipush 12, 2) := by decide +kernel
theorem d_Md_init_488 : decode b_Md_init 488 = .ok (.iconst 0, 1) := by decide +kernel
theorem d_Md_init_489 : decode b_Md_init 489 = .ok (.iastore, 1) := by decide +kernel
theorem d_Md_init_490 : decode b_Md_init 490 = .ok (.dup, 1) := by decide +kernel
theorem d_Md_init_491 : decode b_Md_init 491 = .ok (.bipush 13, 2) := by decide +kernel
theorem d_Md_init_493 : decode b_Md_init 493 = .ok (.iconst (-1), 1) := by decide +kernel
theorem d_Md_init_494 : decode b_Md_init 494 = .ok (.iastore, 1) := by decide +kernel
theorem d_Md_init_495 : decode b_Md_init 495 = .ok (.dup, 1) := by decide +kernel
theorem d_Md_init_496 : decode b_Md_init 496 = .ok (.bipush 14, 2) := by decide +kernel
theorem d_Md_init_498 : decode b_Md_init 498 = .ok (.iconst (-1), 1) := by decide +kernel
theorem d_Md_init_499 : decode b_Md_init 499 = .ok (.iastore, 1) := by decide +kernel
theorem d_Md_init_500 : decode b_Md_init 500 = .ok (.dup, 1) := by decide +kernel
theorem d_Md_init_501 : decode b_Md_init 501 = .ok (.bipush 15, 2) := by decide +kernel
theorem d_Md_init_503 : decode b_Md_init 503 = .ok (.iconst (-1), 1) := by decide +kernel
theorem d_Md_init_504 : decode b_Md_init 504 = .ok (.iastore, 1) := by decide +kernel
theorem d_Md_init_505 : decode b_Md_init 505 = .ok (.dup, 1) := by decide +kernel
theorem d_Md_init_506 : decode b_Md_init 506 = .ok (.bipush 16, 2) := by decide +kernel
theorem d_Md_init_508 : decode b_Md_init 508 = .ok (.bipush (-2), 2) := by decide +kernel
theorem d_Md_init_510 : decode b_Md_init 510 = .ok (.iastore, 1) := by decide +kernel
theorem d_Md_init_511 : decode b_Md_init 511 = .ok (.dup, 1) := by decide +kernel
theorem d_Md_init_512 : decode b_Md_init 512 = .ok (.bipush 17, 2) := by decide +kernel
theorem d_Md_init_514 : decode b_Md_init 514 = .ok (.iconst (-1), 1) := by decide +kernel
theorem d_Md_init_515 : decode b_Md_init 515 = .ok (.iastore, 1) := by decide +kernel
theorem d_Md_init_516 : decode b_Md_init 516 = .ok (.dup, 1) := by decide +kernel
theorem d_Md_init_517 : decode b_Md_init 517 = .ok (.bipush 18, 2) := by decide +kernel
theorem d_Md_init_519 : decode b_Md_init 519 = .ok (.bipush (-3), 2) := by decide +kernel
theorem d_Md_init_521 : decode b_Md_init 521 = .ok (.iastore, 1) := by decide +kernel
theorem d_Md_init_522 : decode b_Md_init 522 = .ok (.dup, 1) := by decide +kernel
theorem d_Md_init_523 : decode b_Md_init 523 = .ok (.bipush 19, 2) := by decide +kernel
theorem d_Md_init_525 : decode b_Md_init 525 = .ok (.iconst (-1), 1) := by decide +kernel
theorem d_Md_init_526 : decode b_Md_init 526 = .ok (.iastore, 1) := by decide +kernel
theorem d_Md_init_527 : decode b_Md_init 527 = .ok (.putfield 19, 3) := by decide +kernel
theorem d_Md_init_530 : decode b_Md_init 530 = .ok (.aload_n 0, 1) := by decide +kernel
theorem d_Md_init_531 : decode b_Md_init 531 = .ok (.iconst 4, 1) := by decide +kernel
theorem d_Md_init_532 : decode b_Md_init 532 = .ok (.newarray .int, 2) := by decide +kernel
theorem d_Md_init_534 : decode b_Md_init 534 = .ok (.dup, 1) := by decide +kernel
theorem d_Md_init_535 : decode b_Md_init 535 = .ok (.iconst 0, 1) := by decide +kernel
theorem d_Md_init_536 : decode b_Md_init 536 = .ok (.iconst 4, 1) := by decide +kernel
theorem d_Md_init_537 : decode b_Md_init 537 = .ok (.iastore, 1) := by decide +kernel
theorem d_Md_init_538 : decode b_Md_init 538 = .ok (.dup, 1) := by decide +kernel
theorem d_Md_init_539 : decode b_Md_init 539 = .ok (.iconst 1, 1) := by decide +kernel
theorem d_Md_init_540 : decode b_Md_init 540 = .ok (.bipush 10, 2) := by decide +kernel
theorem d_Md_init_542 : decode b_Md_init 542 = .ok (.iastore, 1) := by decide +kernel
theorem d_Md_init_543 : decode b_Md_init 543 = .ok (.dup, 1) := by decide +kernel
theorem d_Md_init_544 : decode b_Md_init 544 = .ok (.iconst 2, 1) := by decide +kernel
theorem d_Md_init_545 : decode b_Md_init 545 = .ok (.bipush 11, 2) := by decide +kernel
theorem d_Md_init_547 : decode b_Md_init 547 = .ok (.iastore, 1) := by decide +kernel
theorem d_Md_init_548 : decode b_Md_init 548 = .ok (.dup, 1) := by decide +kernel
theorem d_Md_init_549 : decode b_Md_init 549 = .ok (.iconst 3, 1) := by decide +kernel
theorem d_Md_init_550 : decode b_Md_init 550 = .ok (.bipush 15, 2) := by decide +kernel
theorem d_Md_init_552 : decode b_Md_init 552 = .ok (.iastore, 1) := by decide +kernel
theorem d_Md_init_553 : decode b_Md_init 553 = .ok (.putfield 22, 3) := by decide +kernel
theorem d_Md_init_556 : decode b_Md_init 556 = .ok (.aload_n 0, 1) := by decide +kernel
theorem d_Md_init_557 : decode b_Md_init 557 = .ok (.bipush 32, 2) := by decide +kernel
theorem d_Md_init_559 : decode b_Md_init 559 = .ok (.newarray .int, 2) := by decide +kernel
theorem d_Md_init_561 : decode b_Md_init 561 = .ok (.putfield 25, 3) := by decide +kernel
theorem d_Md_init_564 : decode b_Md_init 564 = .ok (.aload_n 0, 1) := by decide +kernel
theorem d_Md_init_565 : decode b_Md_init 565 = .ok (.sipush 576, 3) := by decide +kernel
theorem d_Md_init_568 : decode b_Md_init 568 = .ok (.newarray .boolean, 2) := by decide +kernel
theorem d_Md_init_570 : decode b_Md_init 570 = .ok (.putfield 28, 3) := by decide +kernel
theorem d_Md_init_573 : decode b_Md_init 573 = .ok (.aload_n 0, 1) := by decide +kernel
theorem d_Md_init_574 : decode b_Md_init 574 = .ok (.sipush 576, 3) := by decide +kernel
theorem d_Md_init_577 : decode b_Md_init 577 = .ok (.newarray .boolean, 2) := by decide +kernel
theorem d_Md_init_579 : decode b_Md_init 579 = .ok (.putfield 32, 3) := by decide +kernel
theorem d_Md_init_582 : decode b_Md_init 582 = .ok (.aload_n 0, 1) := by decide +kernel
theorem d_Md_init_583 : decode b_Md_init 583 = .ok (.sipush 576, 3) := by decide +kernel
theorem d_Md_init_586 : decode b_Md_init 586 = .ok (.newarray .boolean, 2) := by decide +kernel
theorem d_Md_init_588 : decode b_Md_init 588 = .ok (.putfield 35, 3) := by decide +kernel
theorem d_Md_init_591 : decode b_Md_init 591 = .ok (.aload_n 0, 1) := by decide +kernel
theorem d_Md_init_592 : decode b_Md_init 592 = .ok (.sipush 6000, 3) := by decide +kernel
theorem d_Md_init_595 : decode b_Md_init 595 = .ok (.newarray .int, 2) := by decide +kernel
theorem d_Md_init_597 : decode b_Md_init 597 = .ok (.putfield 38, 3) := by decide +kernel
theorem d_Md_init_600 : decode b_Md_init 600 = .ok (.aload_n 0, 1) := by decide +kernel
theorem d_Md_init_601 : decode b_Md_init 601 = .ok (.sipush 6000, 3) := by decide +kernel
theorem d_Md_init_604 : decode b_Md_init 604 = .ok (.newarray .int, 2) := by decide +kernel
theorem d_Md_init_606 : decode b_Md_init 606 = .ok (.putfield 41, 3) := by decide +kernel
theorem d_Md_init_609 : decode b_Md_init 609 = .ok (.aload_n 0, 1) := by decide +kernel
theorem d_Md_init_610 : decode b_Md_init 610 = .ok (.sipush 6000, 3) := by decide +kernel
theorem d_Md_init_613 : decode b_Md_init 613 = .ok (.newarray .int, 2) := by decide +kernel
theorem d_Md_init_615 : decode b_Md_init 615 = .ok (.putfield 44, 3) := by decide +kernel
theorem d_Md_init_618 : decode b_Md_init 618 = .ok (.aload_n 0, 1) := by decide +kernel
theorem d_Md_init_619 : decode b_Md_init 619 = .ok (.sipush 6000, 3) := by decide +kernel
theorem d_Md_init_622 : decode b_Md_init 622 = .ok (.newarray .int, 2) := by decide +kernel
theorem d_Md_init_624 : decode b_Md_init 624 = .ok (.putfield 47, 3) := by decide +kernel
theorem d_Md_init_627 : decode b_Md_init 627 = .ok (.aload_n 0, 1) := by decide +kernel
theorem d_Md_init_628 : decode b_Md_init 628 = .ok (.sipush 576, 3) := by decide +kernel
theorem d_Md_init_631 : decode b_Md_init 631 = .ok (.newarray .boolean, 2) := by decide +kernel
theorem d_Md_init_633 : decode b_Md_init 633 = .ok (.putfield 50, 3) := by decide +kernel
theorem d_Md_init_636 : decode b_Md_init 636 = .ok (.aload_n 0, 1) := by decide +kernel
theorem d_Md_init_637 : decode b_Md_init 637 = .ok (.iload_n 1, 1) := by decide +kernel
theorem d_Md_init_638 : decode b_Md_init 638 = .ok (.iconst 1, 1) := by decide +kernel
theorem d_Md_init_639 : decode b_Md_init 639 = .ok (.bipush 24, 2) := by decide +kernel
theorem d_Md_init_641 : decode b_Md_init 641 = .ok (.invokestatic 53, 3) := by decide +kernel
theorem d_Md_init_644 : decode b_Md_init 644 = .ok (.putfield 57, 3) := by decide +kernel
theorem d_Md_init_647 : decode b_Md_init 647 = .ok (.aload_n 0, 1) := by decide +kernel
theorem d_Md_init_648 : decode b_Md_init 648 = .ok (.iload_n 2, 1) := by decide +kernel
theorem d_Md_init_649 : decode b_Md_init 649 = .ok (.iconst 1, 1) := by decide +kernel
theorem d_Md_init_650 : decode b_Md_init 650 = .ok (.bipush 24, 2) := by decide +kernel
theorem d_Md_init_652 : decode b_Md_init 652 = .ok (.invokestatic 53, 3) := by decide +kernel
theorem d_Md_init_655 : decode b_Md_init 655 = .ok (.putfield 61, 3) := by decide +kernel
theorem d_Md_init_658 : decode b_Md_init 658 = .ok (.aload_n 0, 1) := by decide +kernel
theorem d_Md_init_659 : decode b_Md_init 659 = .ok (.iload_n 3, 1) := by decide +kernel
theorem d_Md_init_660 : decode b_Md_init 660 = .ok (.iconst 0, 1) := by decide +kernel
theorem d_Md_init_661 : decode b_Md_init 661 = .ok (.iconst 3, 1) := by decide +kernel
theorem d_Md_init_662 : decode b_Md_init 662 = .ok (.invokestatic 53, 3) := by decide +kernel
theorem d_Md_init_665 : decode b_Md_init 665 = .ok (.putfield 64, 3) := by decide +kernel
theorem d_Md_init_668 : decode b_Md_init 668 = .ok (.aload_n 0, 1) := by decide +kernel
theorem d_Md_init_669 : decode b_Md_init 669 = .ok (.invokevirtual 67, 3) := by decide +kernel
theorem d_Md_init_672 : decode b_Md_init 672 = .ok (.return_, 1) := by decide +kernel
theorem d_Md_thrown_0 : decode b_Md_thrown 0 = .ok (.aload_n 0, 1) := by decide +kernel
theorem d_Md_thrown_1 : decode b_Md_thrown 1 = .ok (.getfield 70, 3) := by decide +kernel
theorem d_Md_thrown_4 : decode b_Md_thrown 4 = .ok (.ireturn, 1) := by decide +kernel
theorem d_Md_in_0 : decode b_Md_in 0 = .ok (.iload_n 0, 1) := by decide +kernel
theorem d_Md_in_1 : decode b_Md_in 1 = .ok (.iload_n 1, 1) := by decide +kernel
theorem d_Md_in_2 : decode b_Md_in 2 = .ok (.if_icmp .lt 12, 3) := by decide +kernel
theorem d_Md_in_5 : decode b_Md_in 5 = .ok (.iload_n 0, 1) := by decide +kernel
theorem d_Md_in_6 : decode b_Md_in 6 = .ok (.iload_n 2, 1) := by decide +kernel
theorem d_Md_in_7 : decode b_Md_in 7 = .ok (.if_icmp .gt 7, 3) := by decide +kernel
theorem d_Md_in_10 : decode b_Md_in 10 = .ok (.iconst 1, 1) := by decide +kernel
theorem d_Md_in_11 : decode b_Md_in 11 = .ok (.goto 4, 3) := by decide +kernel
theorem d_Md_in_14 : decode b_Md_in 14 = .ok (.iconst 0, 1) := by decide +kernel
theorem d_Md_in_15 : decode b_Md_in 15 = .ok (.ireturn, 1) := by decide +kernel
theorem d_Md_isSample_0 : decode b_Md_isSample 0 = .ok (.aload_n 0, 1) := by decide +kernel
theorem d_Md_isSample_1 : decode b_Md_isSample 1 = .ok (.iload_n 1, 1) := by decide +kernel
theorem d_Md_isSample_2 : decode b_Md_isSample 2 = .ok (.iconst 0, 1) := by decide +kernel
theorem d_Md_isSample_3 : decode b_Md_isSample 3 = .ok (.aload_n 0, 1) := by decide +kernel
theorem d_Md_isSample_4 : decode b_Md_isSample 4 = .ok (.getfield 57, 3) := by decide +kernel
theorem d_Md_isSample_7 : decode b_Md_isSample 7 = .ok (.iconst 1, 1) := by decide +kernel
theorem d_Md_isSample_8 : decode b_Md_isSample 8 = .ok (.isub, 1) := by decide +kernel
theorem d_Md_isSample_9 : decode b_Md_isSample 9 = .ok (.invokestatic 73, 3) := by decide +kernel
theorem d_Md_isSample_12 : decode b_Md_isSample 12 = .ok (.ifCond .eq 21, 3) := by decide +kernel
theorem d_Md_isSample_15 : decode b_Md_isSample 15 = .ok (.iload_n 2, 1) := by decide +kernel
theorem d_Md_isSample_16 : decode b_Md_isSample 16 = .ok (.iconst 0, 1) := by decide +kernel
theorem d_Md_isSample_17 : decode b_Md_isSample 17 = .ok (.aload_n 0, 1) := by decide +kernel
theorem d_Md_isSample_18 : decode b_Md_isSample 18 = .ok (.getfield 61, 3) := by decide +kernel
theorem d_Md_isSample_21 : decode b_Md_isSample 21 = .ok (.iconst 1, 1) := by decide +kernel
theorem d_Md_isSample_22 : decode b_Md_isSample 22 = .ok (.isub, 1) := by decide +kernel
theorem d_Md_isSample_23 : decode b_Md_isSample 23 = .ok (.invokestatic 73, 3) := by decide +kernel
theorem d_Md_isSample_26 : decode b_Md_isSample 26 = .ok (.ifCond .eq 7, 3) := by decide +kernel
theorem d_Md_isSample_29 : decode b_Md_isSample 29 = .ok (.iconst 0, 1) := by decide +kernel
theorem d_Md_isSample_30 : decode b_Md_isSample 30 = .ok (.goto 4, 3) := by decide +kernel
theorem d_Md_isSample_33 : decode b_Md_isSample 33 = .ok (.iconst 1, 1) := by decide +kernel
theorem d_Md_isSample_34 : decode b_Md_isSample 34 = .ok (.putfield 70, 3) := by decide +kernel
theorem d_Md_isSample_37 : decode b_Md_isSample 37 = .ok (.aload_n 0, 1) := by decide +kernel
theorem d_Md_isSample_38 : decode b_Md_isSample 38 = .ok (.getfield 70, 3) := by decide +kernel
theorem d_Md_isSample_41 : decode b_Md_isSample 41 = .ok (.ifCond .ne 7, 3) := by decide +kernel
theorem d_Md_isSample_44 : decode b_Md_isSample 44 = .ok (.iconst 1, 1) := by decide +kernel
theorem d_Md_isSample_45 : decode b_Md_isSample 45 = .ok (.goto 4, 3) := by decide +kernel
theorem d_Md_isSample_48 : decode b_Md_isSample 48 = .ok (.iconst 0, 1) := by decide +kernel
theorem d_Md_isSample_49 : decode b_Md_isSample 49 = .ok (.ireturn, 1) := by decide +kernel
theorem d_Md_put_0 : decode b_Md_put 0 = .ok (.aload_n 0, 1) := by decide +kernel
theorem d_Md_put_1 : decode b_Md_put 1 = .ok (.iload_n 1, 1) := by decide +kernel
theorem d_Md_put_2 : decode b_Md_put 2 = .ok (.iload_n 2, 1) := by decide +kernel
theorem d_Md_put_3 : decode b_Md_put 3 = .ok (.invokevirtual 90, 3) := by decide +kernel
theorem d_Md_put_6 : decode b_Md_put 6 = .ok (.ifCond .ne 5, 3) := by decide +kernel
theorem d_Md_put_9 : decode b_Md_put 9 = .ok (.iconst 0, 1) := by decide +kernel
theorem d_Md_put_10 : decode b_Md_put 10 = .ok (.ireturn, 1) := by decide +kernel
theorem d_Md_put_11 : decode b_Md_put 11 = .ok (.aload_n 0, 1) := by decide +kernel
theorem d_Md_put_12 : decode b_Md_put 12 = .ok (.getfield 28, 3) := by decide +kernel
theorem d_Md_put_15 : decode b_Md_put 15 = .ok (.bipush 24, 2) := by decide +kernel
theorem d_Md_put_17 : decode b_Md_put 17 = .ok (.iload_n 2, 1) := by decide +kernel
theorem d_Md_put_18 : decode b_Md_put 18 = .ok (.imul, 1) := by decide +kernel
theorem d_Md_put_19 : decode b_Md_put 19 = .ok (.iload_n 1, 1) := by decide +kernel
theorem d_Md_put_20 : decode b_Md_put 20 = .ok (.iadd, 1) := by decide +kernel
theorem d_Md_put_21 : decode b_Md_put 21 = .ok (.baload, 1) := by decide +kernel
theorem d_Md_put_22 : decode b_Md_put 22 = .ok (.iload_n 3, 1) := by decide +kernel
theorem d_Md_put_23 : decode b_Md_put 23 = .ok (.if_icmp .eq 7, 3) := by decide +kernel
theorem d_Md_put_26 : decode b_Md_put 26 = .ok (.iconst 1, 1) := by decide +kernel
theorem d_Md_put_27 : decode b_Md_put 27 = .ok (.goto 4, 3) := by decide +kernel
theorem d_Md_put_30 : decode b_Md_put 30 = .ok (.iconst 0, 1) := by decide +kernel
theorem d_Md_put_31 : decode b_Md_put 31 = .ok (.istore 4, 2) := by decide +kernel
theorem d_Md_put_33 : decode b_Md_put 33 = .ok (.aload_n 0, 1) := by decide +kernel
theorem d_Md_put_34 : decode b_Md_put 34 = .ok (.getfield 28, 3) := by decide +kernel
theorem d_Md_put_37 : decode b_Md_put 37 = .ok (.bipush 24, 2) := by decide +kernel
theorem d_Md_put_39 : decode b_Md_put 39 = .ok (.iload_n 2, 1) := by decide +kernel
theorem d_Md_put_40 : decode b_Md_put 40 = .ok (.imul, 1) := by decide +kernel
theorem d_Md_put_41 : decode b_Md_put 41 = .ok (.iload_n 1, 1) := by decide +kernel
theorem d_Md_put_42 : decode b_Md_put 42 = .ok (.iadd, 1) := by decide +kernel
theorem d_Md_put_43 : decode b_Md_put 43 = .ok (.iload_n 3, 1) := by decide +kernel
theorem d_Md_put_44 : decode b_Md_put 44 = .ok (.bastore, 1) := by decide +kernel
theorem d_Md_put_45 : decode b_Md_put 45 = .ok (.iload 4, 2) := by decide +kernel
theorem d_Md_put_47 : decode b_Md_put 47 = .ok (.ireturn, 1) := by decide +kernel
theorem d_Md_row_0 : decode b_Md_row 0 = .ok (.aload_n 0, 1) := by decide +kernel
theorem d_Md_row_1 : decode b_Md_row 1 = .ok (.iload_n 1, 1) := by decide +kernel
theorem d_Md_row_2 : decode b_Md_row 2 = .ok (.iconst 0, 1) := by decide +kernel
theorem d_Md_row_3 : decode b_Md_row 3 = .ok (.aload_n 0, 1) := by decide +kernel
theorem d_Md_row_4 : decode b_Md_row 4 = .ok (.getfield 61, 3) := by decide +kernel
theorem d_Md_row_7 : decode b_Md_row 7 = .ok (.iconst 1, 1) := by decide +kernel
theorem d_Md_row_8 : decode b_Md_row 8 = .ok (.isub, 1) := by decide +kernel
theorem d_Md_row_9 : decode b_Md_row 9 = .ok (.invokestatic 73, 3) := by decide +kernel
theorem d_Md_row_12 : decode b_Md_row 12 = .ok (.ifCond .eq 7, 3) := by decide +kernel
theorem d_Md_row_15 : decode b_Md_row 15 = .ok (.iconst 0, 1) := by decide +kernel
theorem d_Md_row_16 : decode b_Md_row 16 = .ok (.goto 4, 3) := by decide +kernel
theorem d_Md_row_19 : decode b_Md_row 19 = .ok (.iconst 1, 1) := by decide +kernel
theorem d_Md_row_20 : decode b_Md_row 20 = .ok (.putfield 70, 3) := by decide +kernel
theorem d_Md_row_23 : decode b_Md_row 23 = .ok (.iconst 0, 1) := by decide +kernel
theorem d_Md_row_24 : decode b_Md_row 24 = .ok (.istore_n 3, 1) := by decide +kernel
theorem d_Md_row_25 : decode b_Md_row 25 = .ok (.iconst 0, 1) := by decide +kernel
theorem d_Md_row_26 : decode b_Md_row 26 = .ok (.istore 4, 2) := by decide +kernel
theorem d_Md_row_28 : decode b_Md_row 28 = .ok (.iload 4, 2) := by decide +kernel
theorem d_Md_row_30 : decode b_Md_row 30 = .ok (.aload_n 0, 1) := by decide +kernel
theorem d_Md_row_31 : decode b_Md_row 31 = .ok (.getfield 57, 3) := by decide +kernel
theorem d_Md_row_34 : decode b_Md_row 34 = .ok (.if_icmp .ge 52, 3) := by decide +kernel
theorem d_Md_row_37 : decode b_Md_row 37 = .ok (.aload_n 0, 1) := by decide +kernel
theorem d_Md_row_38 : decode b_Md_row 38 = .ok (.getfield 70, 3) := by decide +kernel
theorem d_Md_row_41 : decode b_Md_row 41 = .ok (.ifCond .ne 45, 3) := by decide +kernel
theorem d_Md_row_44 : decode b_Md_row 44 = .ok (.aload_n 0, 1) := by decide +kernel
theorem d_Md_row_45 : decode b_Md_row 45 = .ok (.getfield 28, 3) := by decide +kernel
theorem d_Md_row_48 : decode b_Md_row 48 = .ok (.bipush 24, 2) := by decide +kernel
theorem d_Md_row_50 : decode b_Md_row 50 = .ok (.iload_n 1, 1) := by decide +kernel
theorem d_Md_row_51 : decode b_Md_row 51 = .ok (.imul, 1) := by decide +kernel
theorem d_Md_row_52 : decode b_Md_row 52 = .ok (.iload 4, 2) := by decide +kernel
theorem d_Md_row_54 : decode b_Md_row 54 = .ok (.iadd, 1) := by decide +kernel
theorem d_Md_row_55 : decode b_Md_row 55 = .ok (.iload_n 2, 1) := by decide +kernel
theorem d_Md_row_56 : decode b_Md_row 56 = .ok (.iload 4, 2) := by decide +kernel
theorem d_Md_row_58 : decode b_Md_row 58 = .ok (.ishr, 1) := by decide +kernel
theorem d_Md_row_59 : decode b_Md_row 59 = .ok (.iconst 1, 1) := by decide +kernel
theorem d_Md_row_60 : decode b_Md_row 60 = .ok (.iand, 1) := by decide +kernel
theorem d_Md_row_61 : decode b_Md_row 61 = .ok (.iconst 1, 1) := by decide +kernel
theorem d_Md_row_62 : decode b_Md_row 62 = .ok (.if_icmp .ne 7, 3) := by decide +kernel
theorem d_Md_row_65 : decode b_Md_row 65 = .ok (.iconst 1, 1) := by decide +kernel
theorem d_Md_row_66 : decode b_Md_row 66 = .ok (.goto 4, 3) := by decide +kernel
theorem d_Md_row_69 : decode b_Md_row 69 = .ok (.iconst 0, 1) := by decide +kernel
theorem d_Md_row_70 : decode b_Md_row 70 = .ok (.bastore, 1) := by decide +kernel
theorem d_Md_row_71 : decode b_Md_row 71 = .ok (.iload_n 3, 1) := by decide +kernel
theorem d_Md_row_72 : decode b_Md_row 72 = .ok (.iload_n 2, 1) := by decide +kernel
theorem d_Md_row_73 : decode b_Md_row 73 = .ok (.iload 4, 2) := by decide +kernel
theorem d_Md_row_75 : decode b_Md_row 75 = .ok (.ishr, 1) := by decide +kernel
theorem d_Md_row_76 : decode b_Md_row 76 = .ok (.iconst 1, 1) := by decide +kernel
theorem d_Md_row_77 : decode b_Md_row 77 = .ok (.iand, 1) := by decide +kernel
theorem d_Md_row_78 : decode b_Md_row 78 = .ok (.iadd, 1) := by decide +kernel
theorem d_Md_row_79 : decode b_Md_row 79 = .ok (.istore_n 3, 1) := by decide +kernel
theorem d_Md_row_80 : decode b_Md_row 80 = .ok (.iinc 4 1, 3) := by decide +kernel
theorem d_Md_row_83 : decode b_Md_row 83 = .ok (.goto (-55), 3) := by decide +kernel
theorem d_Md_row_86 : decode b_Md_row 86 = .ok (.iload_n 3, 1) := by decide +kernel
theorem d_Md_row_87 : decode b_Md_row 87 = .ok (.ireturn, 1) := by decide +kernel
theorem d_Md_at_0 : decode b_Md_at 0 = .ok (.aload_n 0, 1) := by decide +kernel
theorem d_Md_at_1 : decode b_Md_at 1 = .ok (.iload_n 1, 1) := by decide +kernel
theorem d_Md_at_2 : decode b_Md_at 2 = .ok (.iload_n 2, 1) := by decide +kernel
theorem d_Md_at_3 : decode b_Md_at 3 = .ok (.invokevirtual 90, 3) := by decide +kernel
theorem d_Md_at_6 : decode b_Md_at 6 = .ok (.ifCond .eq 21, 3) := by decide +kernel
theorem d_Md_at_9 : decode b_Md_at 9 = .ok (.aload_n 0, 1) := by decide +kernel
theorem d_Md_at_10 : decode b_Md_at 10 = .ok (.getfield 28, 3) := by decide +kernel
theorem d_Md_at_13 : decode b_Md_at 13 = .ok (.bipush 24, 2) := by decide +kernel
theorem d_Md_at_15 : decode b_Md_at 15 = .ok (.iload_n 2, 1) := by decide +kernel
theorem d_Md_at_16 : decode b_Md_at 16 = .ok (.imul, 1) := by decide +kernel
theorem d_Md_at_17 : decode b_Md_at 17 = .ok (.iload_n 1, 1) := by decide +kernel
theorem d_Md_at_18 : decode b_Md_at 18 = .ok (.iadd, 1) := by decide +kernel
theorem d_Md_at_19 : decode b_Md_at 19 = .ok (.baload, 1) := by decide +kernel
theorem d_Md_at_20 : decode b_Md_at 20 = .ok (.ifCond .eq 7, 3) := by decide +kernel
theorem d_Md_at_23 : decode b_Md_at 23 = .ok (.iconst 1, 1) := by decide +kernel
theorem d_Md_at_24 : decode b_Md_at 24 = .ok (.goto 4, 3) := by decide +kernel
theorem d_Md_at_27 : decode b_Md_at 27 = .ok (.iconst 0, 1) := by decide +kernel
theorem d_Md_at_28 : decode b_Md_at 28 = .ok (.ireturn, 1) := by decide +kernel
theorem d_Md_skip_0 : decode b_Md_skip 0 = .ok (.aload_n 0, 1) := by decide +kernel
theorem d_Md_skip_1 : decode b_Md_skip 1 = .ok (.iload_n 1, 1) := by decide +kernel
theorem d_Md_skip_2 : decode b_Md_skip 2 = .ok (.iload_n 2, 1) := by decide +kernel
theorem d_Md_skip_3 : decode b_Md_skip 3 = .ok (.invokevirtual 90, 3) := by decide +kernel
theorem d_Md_skip_6 : decode b_Md_skip 6 = .ok (.ifCond .ne 5, 3) := by decide +kernel
theorem d_Md_skip_9 : decode b_Md_skip 9 = .ok (.iconst 0, 1) := by decide +kernel
theorem d_Md_skip_10 : decode b_Md_skip 10 = .ok (.ireturn, 1) := by decide +kernel
theorem d_Md_skip_11 : decode b_Md_skip 11 = .ok (.aload_n 0, 1) := by decide +kernel
theorem d_Md_skip_12 : decode b_Md_skip 12 = .ok (.getfield 32, 3) := by decide +kernel
theorem d_Md_skip_15 : decode b_Md_skip 15 = .ok (.bipush 24, 2) := by decide +kernel
theorem d_Md_skip_17 : decode b_Md_skip 17 = .ok (.iload_n 2, 1) := by decide +kernel
theorem d_Md_skip_18 : decode b_Md_skip 18 = .ok (.imul, 1) := by decide +kernel
theorem d_Md_skip_19 : decode b_Md_skip 19 = .ok (.iload_n 1, 1) := by decide +kernel
theorem d_Md_skip_20 : decode b_Md_skip 20 = .ok (.iadd, 1) := by decide +kernel
theorem d_Md_skip_21 : decode b_Md_skip 21 = .ok (.baload, 1) := by decide +kernel
theorem d_Md_skip_22 : decode b_Md_skip 22 = .ok (.iload_n 3, 1) := by decide +kernel
theorem d_Md_skip_23 : decode b_Md_skip 23 = .ok (.if_icmp .eq 7, 3) := by decide +kernel
theorem d_Md_skip_26 : decode b_Md_skip 26 = .ok (.iconst 1, 1) := by decide +kernel
theorem d_Md_skip_27 : decode b_Md_skip 27 = .ok (.goto 4, 3) := by decide +kernel
theorem d_Md_skip_30 : decode b_Md_skip 30 = .ok (.iconst 0, 1) := by decide +kernel
theorem d_Md_skip_31 : decode b_Md_skip 31 = .ok (.istore 4, 2) := by decide +kernel
theorem d_Md_skip_33 : decode b_Md_skip 33 = .ok (.aload_n 0, 1) := by decide +kernel
theorem d_Md_skip_34 : decode b_Md_skip 34 = .ok (.getfield 32, 3) := by decide +kernel
theorem d_Md_skip_37 : decode b_Md_skip 37 = .ok (.bipush 24, 2) := by decide +kernel
theorem d_Md_skip_39 : decode b_Md_skip 39 = .ok (.iload_n 2, 1) := by decide +kernel
theorem d_Md_skip_40 : decode b_Md_skip 40 = .ok (.imul, 1) := by decide +kernel
theorem d_Md_skip_41 : decode b_Md_skip 41 = .ok (.iload_n 1, 1) := by decide +kernel
theorem d_Md_skip_42 : decode b_Md_skip 42 = .ok (.iadd, 1) := by decide +kernel
theorem d_Md_skip_43 : decode b_Md_skip 43 = .ok (.iload_n 3, 1) := by decide +kernel
theorem d_Md_skip_44 : decode b_Md_skip 44 = .ok (.bastore, 1) := by decide +kernel
theorem d_Md_skip_45 : decode b_Md_skip 45 = .ok (.aload_n 0, 1) := by decide +kernel
theorem d_Md_skip_46 : decode b_Md_skip 46 = .ok (.invokevirtual 94, 3) := by decide +kernel
theorem d_Md_skip_49 : decode b_Md_skip 49 = .ok (.iload 4, 2) := by decide +kernel
theorem d_Md_skip_51 : decode b_Md_skip 51 = .ok (.ireturn, 1) := by decide +kernel
theorem d_Md_looseMany_0 : decode b_Md_looseMany 0 = .ok (.aload_n 0, 1) := by decide +kernel
theorem d_Md_looseMany_1 : decode b_Md_looseMany 1 = .ok (.getfield 64, 3) := by decide +kernel
theorem d_Md_looseMany_4 : decode b_Md_looseMany 4 = .ok (.ifCond .ne 7, 3) := by decide +kernel
theorem d_Md_looseMany_7 : decode b_Md_looseMany 7 = .ok (.iconst 4, 1) := by decide +kernel
theorem d_Md_looseMany_8 : decode b_Md_looseMany 8 = .ok (.goto 4, 3) := by decide +kernel
theorem d_Md_looseMany_11 : decode b_Md_looseMany 11 = .ok (.iconst 1, 1) := by decide +kernel
theorem d_Md_looseMany_12 : decode b_Md_looseMany 12 = .ok (.ireturn, 1) := by decide +kernel
theorem d_Md_looseAt_0 : decode b_Md_looseAt 0 = .ok (.aload_n 0, 1) := by decide +kernel
theorem d_Md_looseAt_1 : decode b_Md_looseAt 1 = .ok (.getfield 64, 3) := by decide +kernel
theorem d_Md_looseAt_4 : decode b_Md_looseAt 4 = .ok (.ifCond .ne 12, 3) := by decide +kernel
theorem d_Md_looseAt_7 : decode b_Md_looseAt 7 = .ok (.aload_n 0, 1) := by decide +kernel
theorem d_Md_looseAt_8 : decode b_Md_looseAt 8 = .ok (.getfield 22, 3) := by decide +kernel
theorem d_Md_looseAt_11 : decode b_Md_looseAt 11 = .ok (.iload_n 1, 1) := by decide +kernel
theorem d_Md_looseAt_12 : decode b_Md_looseAt 12 = .ok (.iaload, 1) := by decide +kernel
theorem d_Md_looseAt_13 : decode b_Md_looseAt 13 = .ok (.goto 28, 3) := by decide +kernel
theorem d_Md_looseAt_16 : decode b_Md_looseAt 16 = .ok (.aload_n 0, 1) := by decide +kernel
theorem d_Md_looseAt_17 : decode b_Md_looseAt 17 = .ok (.getfield 64, 3) := by decide +kernel
theorem d_Md_looseAt_20 : decode b_Md_looseAt 20 = .ok (.iconst 1, 1) := by decide +kernel
theorem d_Md_looseAt_21 : decode b_Md_looseAt 21 = .ok (.if_icmp .ne 7, 3) := by decide +kernel
theorem d_Md_looseAt_24 : decode b_Md_looseAt 24 = .ok (.iconst 3, 1) := by decide +kernel
theorem d_Md_looseAt_25 : decode b_Md_looseAt 25 = .ok (.goto 16, 3) := by decide +kernel
theorem d_Md_looseAt_28 : decode b_Md_looseAt 28 = .ok (.aload_n 0, 1) := by decide +kernel
theorem d_Md_looseAt_29 : decode b_Md_looseAt 29 = .ok (.getfield 64, 3) := by decide +kernel
theorem d_Md_looseAt_32 : decode b_Md_looseAt 32 = .ok (.iconst 2, 1) := by decide +kernel
theorem d_Md_looseAt_33 : decode b_Md_looseAt 33 = .ok (.if_icmp .ne 7, 3) := by decide +kernel
theorem d_Md_looseAt_36 : decode b_Md_looseAt 36 = .ok (.iconst 2, 1) := by decide +kernel
theorem d_Md_looseAt_37 : decode b_Md_looseAt 37 = .ok (.goto 4, 3) := by decide +kernel
theorem d_Md_looseAt_40 : decode b_Md_looseAt 40 = .ok (.iconst 4, 1) := by decide +kernel
theorem d_Md_looseAt_41 : decode b_Md_looseAt 41 = .ok (.ireturn, 1) := by decide +kernel
theorem d_Md_loose_0 : decode b_Md_loose 0 = .ok (.iload_n 2, 1) := by decide +kernel
theorem d_Md_loose_1 : decode b_Md_loose 1 = .ok (.bipush (-8), 2) := by decide +kernel
theorem d_Md_loose_3 : decode b_Md_loose 3 = .ok (.bipush 8, 2) := by decide +kernel
theorem d_Md_loose_5 : decode b_Md_loose 5 = .ok (.invokestatic 73, 3) := by decide +kernel
theorem d_Md_loose_8 : decode b_Md_loose 8 = .ok (.ifCond .eq 25, 3) := by decide +kernel
theorem d_Md_loose_11 : decode b_Md_loose 11 = .ok (.iload_n 3, 1) := by decide +kernel
theorem d_Md_loose_12 : decode b_Md_loose 12 = .ok (.bipush (-8), 2) := by decide +kernel
theorem d_Md_loose_14 : decode b_Md_loose 14 = .ok (.iconst 0, 1) := by decide +kernel
theorem d_Md_loose_15 : decode b_Md_loose 15 = .ok (.invokestatic 73, 3) := by decide +kernel
theorem d_Md_loose_18 : decode b_Md_loose 18 = .ok (.ifCond .eq 15, 3) := by decide +kernel
theorem d_Md_loose_21 : decode b_Md_loose 21 = .ok (.iload_n 3, 1) := by decide +kernel
theorem d_Md_loose_22 : decode b_Md_loose 22 = .ok (.ifCond .lt 7, 3) := by decide +kernel
theorem d_Md_loose_25 : decode b_Md_loose 25 = .ok (.iload_n 2, 1) := by decide +kernel
theorem d_Md_loose_26 : decode b_Md_loose 26 = .ok (.ifCond .ge 7, 3) := by decide +kernel
theorem d_Md_loose_29 : decode b_Md_loose 29 = .ok (.iconst 1, 1) := by decide +kernel
theorem d_Md_loose_30 : decode b_Md_loose 30 = .ok (.goto 4, 3) := by decide +kernel
theorem d_Md_loose_33 : decode b_Md_loose 33 = .ok (.iconst 0, 1) := by decide +kernel
theorem d_Md_loose_34 : decode b_Md_loose 34 = .ok (.istore 4, 2) := by decide +kernel
theorem d_Md_loose_36 : decode b_Md_loose 36 = .ok (.aload_n 0, 1) := by decide +kernel
theorem d_Md_loose_37 : decode b_Md_loose 37 = .ok (.iload_n 1, 1) := by decide +kernel
theorem d_Md_loose_38 : decode b_Md_loose 38 = .ok (.iconst 0, 1) := by decide +kernel
theorem d_Md_loose_39 : decode b_Md_loose 39 = .ok (.aload_n 0, 1) := by decide +kernel
theorem d_Md_loose_40 : decode b_Md_loose 40 = .ok (.invokevirtual 97, 3) := by decide +kernel
theorem d_Md_loose_43 : decode b_Md_loose 43 = .ok (.iconst 1, 1) := by decide +kernel
theorem d_Md_loose_44 : decode b_Md_loose 44 = .ok (.isub, 1) := by decide +kernel
theorem d_Md_loose_45 : decode b_Md_loose 45 = .ok (.invokestatic 73, 3) := by decide +kernel
theorem d_Md_loose_48 : decode b_Md_loose 48 = .ok (.ifCond .ne 7, 3) := by decide +kernel
theorem d_Md_loose_51 : decode b_Md_loose 51 = .ok (.iconst 1, 1) := by decide +kernel
theorem d_Md_loose_52 : decode b_Md_loose 52 = .ok (.goto 13, 3) := by decide +kernel
theorem d_Md_loose_55 : decode b_Md_loose 55 = .ok (.iload 4, 2) := by decide +kernel
theorem d_Md_loose_57 : decode b_Md_loose 57 = .ok (.ifCond .ne 7, 3) := by decide +kernel
theorem d_Md_loose_60 : decode b_Md_loose 60 = .ok (.iconst 2, 1) := by decide +kernel
theorem d_Md_loose_61 : decode b_Md_loose 61 = .ok (.goto 4, 3) := by decide +kernel
theorem d_Md_loose_64 : decode b_Md_loose 64 = .ok (.iconst 0, 1) := by decide +kernel
theorem d_Md_loose_65 : decode b_Md_loose 65 = .ok (.putfield 70, 3) := by decide +kernel
theorem d_Md_loose_68 : decode b_Md_loose 68 = .ok (.aload_n 0, 1) := by decide +kernel
theorem d_Md_loose_69 : decode b_Md_loose 69 = .ok (.getfield 70, 3) := by decide +kernel
theorem d_Md_loose_72 : decode b_Md_loose 72 = .ok (.ifCond .le 5, 3) := by decide +kernel
theorem d_Md_loose_75 : decode b_Md_loose 75 = .ok (.iconst 0, 1) := by decide +kernel
theorem d_Md_loose_76 : decode b_Md_loose 76 = .ok (.ireturn, 1) := by decide +kernel
theorem d_Md_loose_77 : decode b_Md_loose 77 = .ok (.iconst 2, 1) := by decide +kernel
theorem d_Md_loose_78 : decode b_Md_loose 78 = .ok (.aload_n 0, 1) := by decide +kernel
theorem d_Md_loose_79 : decode b_Md_loose 79 = .ok (.iload_n 1, 1) := by decide +kernel
theorem d_Md_loose_80 : decode b_Md_loose 80 = .ok (.invokevirtual 101, 3) := by decide +kernel
theorem d_Md_loose_83 : decode b_Md_loose 83 = .ok (.imul, 1) := by decide +kernel
theorem d_Md_loose_84 : decode b_Md_loose 84 = .ok (.istore 5, 2) := by decide +kernel
theorem d_Md_loose_86 : decode b_Md_loose 86 = .ok (.aload_n 0, 1) := by decide +kernel
theorem d_Md_loose_87 : decode b_Md_loose 87 = .ok (.getfield 25, 3) := by decide +kernel
theorem d_Md_loose_90 : decode b_Md_loose 90 = .ok (.iload 5, 2) := by decide +kernel
theorem d_Md_loose_92 : decode b_Md_loose 92 = .ok (.iaload, 1) := by decide +kernel
theorem d_Md_loose_93 : decode b_Md_loose 93 = .ok (.iload_n 2, 1) := by decide +kernel
theorem d_Md_loose_94 : decode b_Md_loose 94 = .ok (.if_icmp .ne 16, 3) := by decide +kernel
theorem d_Md_loose_97 : decode b_Md_loose 97 = .ok (.aload_n 0, 1) := by decide +kernel
theorem d_Md_loose_98 : decode b_Md_loose 98 = .ok (.getfield 25, 3) := by decide +kernel
theorem d_Md_loose_101 : decode b_Md_loose 101 = .ok (.iload 5, 2) := by decide +kernel
theorem d_Md_loose_103 : decode b_Md_loose 103 = .ok (.iconst 1, 1) := by decide +kernel
theorem d_Md_loose_104 : decode b_Md_loose 104 = .ok (.iadd, 1) := by decide +kernel
theorem d_Md_loose_105 : decode b_Md_loose 105 = .ok (.iaload, 1) := by decide +kernel
theorem d_Md_loose_106 : decode b_Md_loose 106 = .ok (.iload_n 3, 1) := by decide +kernel
theorem d_Md_loose_107 : decode b_Md_loose 107 = .ok (.if_icmp .eq 7, 3) := by decide +kernel
theorem d_Md_loose_110 : decode b_Md_loose 110 = .ok (.iconst 1, 1) := by decide +kernel
theorem d_Md_loose_111 : decode b_Md_loose 111 = .ok (.goto 4, 3) := by decide +kernel
theorem d_Md_loose_114 : decode b_Md_loose 114 = .ok (.iconst 0, 1) := by decide +kernel
theorem d_Md_loose_115 : decode b_Md_loose 115 = .ok (.istore 6, 2) := by decide +kernel
theorem d_Md_loose_117 : decode b_Md_loose 117 = .ok (.aload_n 0, 1) := by decide +kernel
theorem d_Md_loose_118 : decode b_Md_loose 118 = .ok (.getfield 25, 3) := by decide +kernel
theorem d_Md_loose_121 : decode b_Md_loose 121 = .ok (.iload 5, 2) := by decide +kernel
theorem d_Md_loose_123 : decode b_Md_loose 123 = .ok (.iload_n 2, 1) := by decide +kernel
theorem d_Md_loose_124 : decode b_Md_loose 124 = .ok (.iastore, 1) := by decide +kernel
theorem d_Md_loose_125 : decode b_Md_loose 125 = .ok (.aload_n 0, 1) := by decide +kernel
theorem d_Md_loose_126 : decode b_Md_loose 126 = .ok (.getfield 25, 3) := by decide +kernel
theorem d_Md_loose_129 : decode b_Md_loose 129 = .ok (.iload 5, 2) := by decide +kernel
theorem d_Md_loose_131 : decode b_Md_loose 131 = .ok (.iconst 1, 1) := by decide +kernel
theorem d_Md_loose_132 : decode b_Md_loose 132 = .ok (.iadd, 1) := by decide +kernel
theorem d_Md_loose_133 : decode b_Md_loose 133 = .ok (.iload_n 3, 1) := by decide +kernel
theorem d_Md_loose_134 : decode b_Md_loose 134 = .ok (.iastore, 1) := by decide +kernel
theorem d_Md_loose_135 : decode b_Md_loose 135 = .ok (.aload_n 0, 1) := by decide +kernel
theorem d_Md_loose_136 : decode b_Md_loose 136 = .ok (.invokevirtual 94, 3) := by decide +kernel
theorem d_Md_loose_139 : decode b_Md_loose 139 = .ok (.iload 6, 2) := by decide +kernel
theorem d_Md_loose_141 : decode b_Md_loose 141 = .ok (.ireturn, 1) := by decide +kernel
theorem d_Md_way_0 : decode b_Md_way 0 = .ok (.aload_n 0, 1) := by decide +kernel
theorem d_Md_way_1 : decode b_Md_way 1 = .ok (.iload_n 1, 1) := by decide +kernel
theorem d_Md_way_2 : decode b_Md_way 2 = .ok (.iconst 0, 1) := by decide +kernel
theorem d_Md_way_3 : decode b_Md_way 3 = .ok (.iconst 2, 1) := by decide +kernel
theorem d_Md_way_4 : decode b_Md_way 4 = .ok (.invokestatic 73, 3) := by decide +kernel
theorem d_Md_way_7 : decode b_Md_way 7 = .ok (.ifCond .eq 7, 3) := by decide +kernel
theorem d_Md_way_10 : decode b_Md_way 10 = .ok (.iconst 0, 1) := by decide +kernel
theorem d_Md_way_11 : decode b_Md_way 11 = .ok (.goto 4, 3) := by decide +kernel
theorem d_Md_way_14 : decode b_Md_way 14 = .ok (.iconst 1, 1) := by decide +kernel
theorem d_Md_way_15 : decode b_Md_way 15 = .ok (.putfield 70, 3) := by decide +kernel
theorem d_Md_way_18 : decode b_Md_way 18 = .ok (.aload_n 0, 1) := by decide +kernel
theorem d_Md_way_19 : decode b_Md_way 19 = .ok (.getfield 70, 3) := by decide +kernel
theorem d_Md_way_22 : decode b_Md_way 22 = .ok (.ifCond .le 5, 3) := by decide +kernel
theorem d_Md_way_25 : decode b_Md_way 25 = .ok (.iconst 0, 1) := by decide +kernel
theorem d_Md_way_26 : decode b_Md_way 26 = .ok (.ireturn, 1) := by decide +kernel
theorem d_Md_way_27 : decode b_Md_way 27 = .ok (.iload_n 1, 1) := by decide +kernel
theorem d_Md_way_28 : decode b_Md_way 28 = .ok (.ifCond .ne 10, 3) := by decide +kernel
theorem d_Md_way_31 : decode b_Md_way 31 = .ok (.aload_n 0, 1) := by decide +kernel
theorem d_Md_way_32 : decode b_Md_way 32 = .ok (.getfield 105, 3) := by decide +kernel
theorem d_Md_way_35 : decode b_Md_way 35 = .ok (.goto 19, 3) := by decide +kernel
theorem d_Md_way_38 : decode b_Md_way 38 = .ok (.iload_n 1, 1) := by decide +kernel
theorem d_Md_way_39 : decode b_Md_way 39 = .ok (.iconst 1, 1) := by decide +kernel
theorem d_Md_way_40 : decode b_Md_way 40 = .ok (.if_icmp .ne 10, 3) := by decide +kernel
theorem d_Md_way_43 : decode b_Md_way 43 = .ok (.aload_n 0, 1) := by decide +kernel
theorem d_Md_way_44 : decode b_Md_way 44 = .ok (.getfield 108, 3) := by decide +kernel
theorem d_Md_way_47 : decode b_Md_way 47 = .ok (.goto 7, 3) := by decide +kernel
theorem d_Md_way_50 : decode b_Md_way 50 = .ok (.aload_n 0, 1) := by decide +kernel
theorem d_Md_way_51 : decode b_Md_way 51 = .ok (.getfield 111, 3) := by decide +kernel
theorem d_Md_way_54 : decode b_Md_way 54 = .ok (.istore_n 3, 1) := by decide +kernel
theorem d_Md_way_55 : decode b_Md_way 55 = .ok (.aload_n 0, 1) := by decide +kernel
theorem d_Md_way_56 : decode b_Md_way 56 = .ok (.iload_n 1, 1) := by decide +kernel
theorem d_Md_way_57 : decode b_Md_way 57 = .ok (.ifCond .ne 7, 3) := by decide +kernel
theorem d_Md_way_60 : decode b_Md_way 60 = .ok (.iload_n 2, 1) := by decide +kernel
theorem d_Md_way_61 : decode b_Md_way 61 = .ok (.goto 7, 3) := by decide +kernel
theorem d_Md_way_64 : decode b_Md_way 64 = .ok (.aload_n 0, 1) := by decide +kernel
theorem d_Md_way_65 : decode b_Md_way 65 = .ok (.getfield 105, 3) := by decide +kernel
theorem d_Md_way_68 : decode b_Md_way 68 = .ok (.putfield 105, 3) := by decide +kernel
theorem d_Md_way_71 : decode b_Md_way 71 = .ok (.aload_n 0, 1) := by decide +kernel
theorem d_Md_way_72 : decode b_Md_way 72 = .ok (.iload_n 1, 1) := by decide +kernel
theorem d_Md_way_73 : decode b_Md_way 73 = .ok (.iconst 1, 1) := by decide +kernel
theorem d_Md_way_74 : decode b_Md_way 74 = .ok (.if_icmp .ne 7, 3) := by decide +kernel
theorem d_Md_way_77 : decode b_Md_way 77 = .ok (.iload_n 2, 1) := by decide +kernel
theorem d_Md_way_78 : decode b_Md_way 78 = .ok (.goto 7, 3) := by decide +kernel
theorem d_Md_way_81 : decode b_Md_way 81 = .ok (.aload_n 0, 1) := by decide +kernel
theorem d_Md_way_82 : decode b_Md_way 82 = .ok (.getfield 108, 3) := by decide +kernel
theorem d_Md_way_85 : decode b_Md_way 85 = .ok (.putfield 108, 3) := by decide +kernel
theorem d_Md_way_88 : decode b_Md_way 88 = .ok (.aload_n 0, 1) := by decide +kernel
theorem d_Md_way_89 : decode b_Md_way 89 = .ok (.iload_n 1, 1) := by decide +kernel
theorem d_Md_way_90 : decode b_Md_way 90 = .ok (.iconst 2, 1) := by decide +kernel
theorem d_Md_way_91 : decode b_Md_way 91 = .ok (.if_icmp .ne 7, 3) := by decide +kernel
theorem d_Md_way_94 : decode b_Md_way 94 = .ok (.iload_n 2, 1) := by decide +kernel
theorem d_Md_way_95 : decode b_Md_way 95 = .ok (.goto 7, 3) := by decide +kernel
theorem d_Md_way_98 : decode b_Md_way 98 = .ok (.aload_n 0, 1) := by decide +kernel
