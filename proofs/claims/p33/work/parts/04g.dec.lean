theorem dL_acts_351 : decode cL_acts 351 = .ok (.iload 4, 2) := by decide +kernel
theorem dL_acts_353 : decode cL_acts 353 = .ok (.invokevirtual 55, 3) := by decide +kernel
theorem dL_acts_356 : decode cL_acts 356 = .ok (.istore 6, 2) := by decide +kernel
theorem dL_acts_358 : decode cL_acts 358 = .ok (.aload_n 0, 1) := by decide +kernel
theorem dL_acts_359 : decode cL_acts 359 = .ok (.iload 4, 2) := by decide +kernel
theorem dL_acts_361 : decode cL_acts 361 = .ok (.invokevirtual 107, 3) := by decide +kernel
theorem dL_acts_364 : decode cL_acts 364 = .ok (.iload 4, 2) := by decide +kernel
theorem dL_acts_366 : decode cL_acts 366 = .ok (.iconst 4, 1) := by decide +kernel
theorem dL_acts_367 : decode cL_acts 367 = .ok (.if_icmp .ne 7, 3) := by decide +kernel
theorem dL_acts_370 : decode cL_acts 370 = .ok (.iconst (-1), 1) := by decide +kernel
theorem dL_acts_371 : decode cL_acts 371 = .ok (.goto 5, 3) := by decide +kernel
theorem dL_acts_374 : decode cL_acts 374 = .ok (.iload 5, 2) := by decide +kernel
theorem dL_acts_376 : decode cL_acts 376 = .ok (.if_icmp .ne 45, 3) := by decide +kernel
theorem dL_acts_379 : decode cL_acts 379 = .ok (.aload_n 0, 1) := by decide +kernel
theorem dL_acts_380 : decode cL_acts 380 = .ok (.iconst 1, 1) := by decide +kernel
theorem dL_acts_381 : decode cL_acts 381 = .ok (.invokevirtual 13, 3) := by decide +kernel
theorem dL_acts_384 : decode cL_acts 384 = .ok (.iload 4, 2) := by decide +kernel
theorem dL_acts_386 : decode cL_acts 386 = .ok (.iconst 4, 1) := by decide +kernel
theorem dL_acts_387 : decode cL_acts 387 = .ok (.if_icmp .ne 8, 3) := by decide +kernel
theorem dL_acts_390 : decode cL_acts 390 = .ok (.iload 5, 2) := by decide +kernel
theorem dL_acts_392 : decode cL_acts 392 = .ok (.goto 5, 3) := by decide +kernel
theorem dL_acts_395 : decode cL_acts 395 = .ok (.iload 4, 2) := by decide +kernel
theorem dL_acts_397 : decode cL_acts 397 = .ok (.if_icmp .ne 24, 3) := by decide +kernel
theorem dL_acts_400 : decode cL_acts 400 = .ok (.iload 4, 2) := by decide +kernel
theorem dL_acts_402 : decode cL_acts 402 = .ok (.iconst 4, 1) := by decide +kernel
theorem dL_acts_403 : decode cL_acts 403 = .ok (.if_icmp .eq 14, 3) := by decide +kernel
theorem dL_acts_406 : decode cL_acts 406 = .ok (.aload_n 0, 1) := by decide +kernel
theorem dL_acts_407 : decode cL_acts 407 = .ok (.bipush 9, 2) := by decide +kernel
theorem dL_acts_409 : decode cL_acts 409 = .ok (.invokevirtual 13, 3) := by decide +kernel
theorem dL_acts_412 : decode cL_acts 412 = .ok (.iload 6, 2) := by decide +kernel
theorem dL_acts_414 : decode cL_acts 414 = .ok (.if_icmp .ne 7, 3) := by decide +kernel
theorem dL_acts_417 : decode cL_acts 417 = .ok (.iconst 1, 1) := by decide +kernel
theorem dL_acts_418 : decode cL_acts 418 = .ok (.goto 4, 3) := by decide +kernel
theorem dL_acts_421 : decode cL_acts 421 = .ok (.iconst 0, 1) := by decide +kernel
theorem dL_acts_422 : decode cL_acts 422 = .ok (.ireturn, 1) := by decide +kernel
theorem dL_acts_423 : decode cL_acts 423 = .ok (.iload_n 3, 1) := by decide +kernel
theorem dL_acts_424 : decode cL_acts 424 = .ok (.bipush 24, 2) := by decide +kernel
theorem dL_acts_426 : decode cL_acts 426 = .ok (.if_icmp .ne 90, 3) := by decide +kernel
theorem dL_acts_429 : decode cL_acts 429 = .ok (.iload_n 2, 1) := by decide +kernel
theorem dL_acts_430 : decode cL_acts 430 = .ok (.bipush 17, 2) := by decide +kernel
theorem dL_acts_432 : decode cL_acts 432 = .ok (.invokestatic 42, 3) := by decide +kernel
theorem dL_acts_435 : decode cL_acts 435 = .ok (.istore 4, 2) := by decide +kernel
theorem dL_acts_437 : decode cL_acts 437 = .ok (.iload 4, 2) := by decide +kernel
theorem dL_acts_439 : decode cL_acts 439 = .ok (.bipush 16, 2) := by decide +kernel
theorem dL_acts_441 : decode cL_acts 441 = .ok (.if_icmp .ne 7, 3) := by decide +kernel
theorem dL_acts_444 : decode cL_acts 444 = .ok (.iconst 0, 1) := by decide +kernel
theorem dL_acts_445 : decode cL_acts 445 = .ok (.goto 10, 3) := by decide +kernel
theorem dL_acts_448 : decode cL_acts 448 = .ok (.aload_n 0, 1) := by decide +kernel
theorem dL_acts_449 : decode cL_acts 449 = .ok (.iload 4, 2) := by decide +kernel
theorem dL_acts_451 : decode cL_acts 451 = .ok (.iconst 0, 1) := by decide +kernel
theorem dL_acts_452 : decode cL_acts 452 = .ok (.invokevirtual 19, 3) := by decide +kernel
theorem dL_acts_455 : decode cL_acts 455 = .ok (.istore 5, 2) := by decide +kernel
theorem dL_acts_457 : decode cL_acts 457 = .ok (.aload_n 0, 1) := by decide +kernel
theorem dL_acts_458 : decode cL_acts 458 = .ok (.iload 4, 2) := by decide +kernel
theorem dL_acts_460 : decode cL_acts 460 = .ok (.invokevirtual 110, 3) := by decide +kernel
theorem dL_acts_463 : decode cL_acts 463 = .ok (.istore 6, 2) := by decide +kernel
theorem dL_acts_465 : decode cL_acts 465 = .ok (.iload 4, 2) := by decide +kernel
theorem dL_acts_467 : decode cL_acts 467 = .ok (.bipush 16, 2) := by decide +kernel
theorem dL_acts_469 : decode cL_acts 469 = .ok (.if_icmp .ne 17, 3) := by decide +kernel
theorem dL_acts_472 : decode cL_acts 472 = .ok (.iload 6, 2) := by decide +kernel
theorem dL_acts_474 : decode cL_acts 474 = .ok (.iconst (-1), 1) := by decide +kernel
theorem dL_acts_475 : decode cL_acts 475 = .ok (.if_icmp .ne 7, 3) := by decide +kernel
theorem dL_acts_478 : decode cL_acts 478 = .ok (.iconst 1, 1) := by decide +kernel
theorem dL_acts_479 : decode cL_acts 479 = .ok (.goto 36, 3) := by decide +kernel
theorem dL_acts_482 : decode cL_acts 482 = .ok (.iconst 0, 1) := by decide +kernel
theorem dL_acts_483 : decode cL_acts 483 = .ok (.goto 32, 3) := by decide +kernel
theorem dL_acts_486 : decode cL_acts 486 = .ok (.iload 6, 2) := by decide +kernel
theorem dL_acts_488 : decode cL_acts 488 = .ok (.aload_n 0, 1) := by decide +kernel
theorem dL_acts_489 : decode cL_acts 489 = .ok (.iconst 3, 1) := by decide +kernel
theorem dL_acts_490 : decode cL_acts 490 = .ok (.invokevirtual 13, 3) := by decide +kernel
theorem dL_acts_493 : decode cL_acts 493 = .ok (.if_icmp .ne 21, 3) := by decide +kernel
theorem dL_acts_496 : decode cL_acts 496 = .ok (.aload_n 0, 1) := by decide +kernel
theorem dL_acts_497 : decode cL_acts 497 = .ok (.iload 4, 2) := by decide +kernel
theorem dL_acts_499 : decode cL_acts 499 = .ok (.iconst 0, 1) := by decide +kernel
theorem dL_acts_500 : decode cL_acts 500 = .ok (.invokevirtual 19, 3) := by decide +kernel
theorem dL_acts_503 : decode cL_acts 503 = .ok (.iconst 1, 1) := by decide +kernel
theorem dL_acts_504 : decode cL_acts 504 = .ok (.iload 5, 2) := by decide +kernel
theorem dL_acts_506 : decode cL_acts 506 = .ok (.isub, 1) := by decide +kernel
theorem dL_acts_507 : decode cL_acts 507 = .ok (.if_icmp .ne 7, 3) := by decide +kernel
theorem dL_acts_510 : decode cL_acts 510 = .ok (.iconst 1, 1) := by decide +kernel
theorem dL_acts_511 : decode cL_acts 511 = .ok (.goto 4, 3) := by decide +kernel
theorem dL_acts_514 : decode cL_acts 514 = .ok (.iconst 0, 1) := by decide +kernel
theorem dL_acts_515 : decode cL_acts 515 = .ok (.ireturn, 1) := by decide +kernel
theorem dL_acts_516 : decode cL_acts 516 = .ok (.iload_n 3, 1) := by decide +kernel
theorem dL_acts_517 : decode cL_acts 517 = .ok (.bipush 25, 2) := by decide +kernel
theorem dL_acts_519 : decode cL_acts 519 = .ok (.if_icmp .ne 90, 3) := by decide +kernel
theorem dL_acts_522 : decode cL_acts 522 = .ok (.iload_n 2, 1) := by decide +kernel
theorem dL_acts_523 : decode cL_acts 523 = .ok (.bipush 17, 2) := by decide +kernel
theorem dL_acts_525 : decode cL_acts 525 = .ok (.invokestatic 42, 3) := by decide +kernel
theorem dL_acts_528 : decode cL_acts 528 = .ok (.istore 4, 2) := by decide +kernel
theorem dL_acts_530 : decode cL_acts 530 = .ok (.iload 4, 2) := by decide +kernel
theorem dL_acts_532 : decode cL_acts 532 = .ok (.bipush 16, 2) := by decide +kernel
theorem dL_acts_534 : decode cL_acts 534 = .ok (.if_icmp .ne 7, 3) := by decide +kernel
theorem dL_acts_537 : decode cL_acts 537 = .ok (.iconst 0, 1) := by decide +kernel
theorem dL_acts_538 : decode cL_acts 538 = .ok (.goto 10, 3) := by decide +kernel
theorem dL_acts_541 : decode cL_acts 541 = .ok (.aload_n 0, 1) := by decide +kernel
theorem dL_acts_542 : decode cL_acts 542 = .ok (.iload 4, 2) := by decide +kernel
theorem dL_acts_544 : decode cL_acts 544 = .ok (.iconst 3, 1) := by decide +kernel
theorem dL_acts_545 : decode cL_acts 545 = .ok (.invokevirtual 19, 3) := by decide +kernel
theorem dL_acts_548 : decode cL_acts 548 = .ok (.istore 5, 2) := by decide +kernel
theorem dL_acts_550 : decode cL_acts 550 = .ok (.aload_n 0, 1) := by decide +kernel
theorem dL_acts_551 : decode cL_acts 551 = .ok (.iload 4, 2) := by decide +kernel
theorem dL_acts_553 : decode cL_acts 553 = .ok (.invokevirtual 113, 3) := by decide +kernel
theorem dL_acts_556 : decode cL_acts 556 = .ok (.istore 6, 2) := by decide +kernel
theorem dL_acts_558 : decode cL_acts 558 = .ok (.iload 4, 2) := by decide +kernel
theorem dL_acts_560 : decode cL_acts 560 = .ok (.bipush 16, 2) := by decide +kernel
theorem dL_acts_562 : decode cL_acts 562 = .ok (.if_icmp .ne 17, 3) := by decide +kernel
theorem dL_acts_565 : decode cL_acts 565 = .ok (.iload 6, 2) := by decide +kernel
theorem dL_acts_567 : decode cL_acts 567 = .ok (.iconst (-1), 1) := by decide +kernel
theorem dL_acts_568 : decode cL_acts 568 = .ok (.if_icmp .ne 7, 3) := by decide +kernel
theorem dL_acts_571 : decode cL_acts 571 = .ok (.iconst 1, 1) := by decide +kernel
theorem dL_acts_572 : decode cL_acts 572 = .ok (.goto 36, 3) := by decide +kernel
theorem dL_acts_575 : decode cL_acts 575 = .ok (.iconst 0, 1) := by decide +kernel
theorem dL_acts_576 : decode cL_acts 576 = .ok (.goto 32, 3) := by decide +kernel
theorem dL_acts_579 : decode cL_acts 579 = .ok (.iload 6, 2) := by decide +kernel
theorem dL_acts_581 : decode cL_acts 581 = .ok (.aload_n 0, 1) := by decide +kernel
theorem dL_acts_582 : decode cL_acts 582 = .ok (.iconst 4, 1) := by decide +kernel
theorem dL_acts_583 : decode cL_acts 583 = .ok (.invokevirtual 13, 3) := by decide +kernel
theorem dL_acts_586 : decode cL_acts 586 = .ok (.if_icmp .ne 21, 3) := by decide +kernel
theorem dL_acts_589 : decode cL_acts 589 = .ok (.aload_n 0, 1) := by decide +kernel
theorem dL_acts_590 : decode cL_acts 590 = .ok (.iload 4, 2) := by decide +kernel
theorem dL_acts_592 : decode cL_acts 592 = .ok (.iconst 3, 1) := by decide +kernel
theorem dL_acts_593 : decode cL_acts 593 = .ok (.invokevirtual 19, 3) := by decide +kernel
theorem dL_acts_596 : decode cL_acts 596 = .ok (.iconst 1, 1) := by decide +kernel
theorem dL_acts_597 : decode cL_acts 597 = .ok (.iload 5, 2) := by decide +kernel
theorem dL_acts_599 : decode cL_acts 599 = .ok (.isub, 1) := by decide +kernel
theorem dL_acts_600 : decode cL_acts 600 = .ok (.if_icmp .ne 7, 3) := by decide +kernel
theorem dL_acts_603 : decode cL_acts 603 = .ok (.iconst 1, 1) := by decide +kernel
theorem dL_acts_604 : decode cL_acts 604 = .ok (.goto 4, 3) := by decide +kernel
theorem dL_acts_607 : decode cL_acts 607 = .ok (.iconst 0, 1) := by decide +kernel
theorem dL_acts_608 : decode cL_acts 608 = .ok (.ireturn, 1) := by decide +kernel
theorem dL_acts_609 : decode cL_acts 609 = .ok (.iload_n 3, 1) := by decide +kernel
theorem dL_acts_610 : decode cL_acts 610 = .ok (.bipush 29, 2) := by decide +kernel
theorem dL_acts_612 : decode cL_acts 612 = .ok (.if_icmp .ge 196, 3) := by decide +kernel
theorem dL_acts_615 : decode cL_acts 615 = .ok (.iload_n 2, 1) := by decide +kernel
theorem dL_acts_616 : decode cL_acts 616 = .ok (.iconst 5, 1) := by decide +kernel
theorem dL_acts_617 : decode cL_acts 617 = .ok (.invokestatic 42, 3) := by decide +kernel
theorem dL_acts_620 : decode cL_acts 620 = .ok (.istore 4, 2) := by decide +kernel
theorem dL_acts_622 : decode cL_acts 622 = .ok (.iload_n 2, 1) := by decide +kernel
theorem dL_acts_623 : decode cL_acts 623 = .ok (.iconst 3, 1) := by decide +kernel
theorem dL_acts_624 : decode cL_acts 624 = .ok (.ishr, 1) := by decide +kernel
theorem dL_acts_625 : decode cL_acts 625 = .ok (.bipush 11, 2) := by decide +kernel
theorem dL_acts_627 : decode cL_acts 627 = .ok (.invokestatic 42, 3) := by decide +kernel
theorem dL_acts_630 : decode cL_acts 630 = .ok (.istore 5, 2) := by decide +kernel
theorem dL_acts_632 : decode cL_acts 632 = .ok (.iload_n 2, 1) := by decide +kernel
theorem dL_acts_633 : decode cL_acts 633 = .ok (.bipush 6, 2) := by decide +kernel
theorem dL_acts_635 : decode cL_acts 635 = .ok (.ishr, 1) := by decide +kernel
theorem dL_acts_636 : decode cL_acts 636 = .ok (.iconst 4, 1) := by decide +kernel
theorem dL_acts_637 : decode cL_acts 637 = .ok (.invokestatic 42, 3) := by decide +kernel
theorem dL_acts_640 : decode cL_acts 640 = .ok (.ifCond .ne 14, 3) := by decide +kernel
theorem dL_acts_643 : decode cL_acts 643 = .ok (.iload_n 2, 1) := by decide +kernel
theorem dL_acts_644 : decode cL_acts 644 = .ok (.iconst 4, 1) := by decide +kernel
theorem dL_acts_645 : decode cL_acts 645 = .ok (.ishr, 1) := by decide +kernel
theorem dL_acts_646 : decode cL_acts 646 = .ok (.ldc 116, 2) := by decide +kernel
theorem dL_acts_648 : decode cL_acts 648 = .ok (.invokestatic 42, 3) := by decide +kernel
theorem dL_acts_651 : decode cL_acts 651 = .ok (.goto 5, 3) := by decide +kernel
theorem dL_acts_654 : decode cL_acts 654 = .ok (.ldc 117, 2) := by decide +kernel
theorem dL_acts_656 : decode cL_acts 656 = .ok (.istore 6, 2) := by decide +kernel
theorem dL_acts_658 : decode cL_acts 658 = .ok (.iload_n 2, 1) := by decide +kernel
theorem dL_acts_659 : decode cL_acts 659 = .ok (.bipush 9, 2) := by decide +kernel
theorem dL_acts_661 : decode cL_acts 661 = .ok (.ishr, 1) := by decide +kernel
theorem dL_acts_662 : decode cL_acts 662 = .ok (.iconst 2, 1) := by decide +kernel
theorem dL_acts_663 : decode cL_acts 663 = .ok (.invokestatic 42, 3) := by decide +kernel
theorem dL_acts_666 : decode cL_acts 666 = .ok (.ifCond .ne 7, 3) := by decide +kernel
theorem dL_acts_669 : decode cL_acts 669 = .ok (.iconst 1, 1) := by decide +kernel
theorem dL_acts_670 : decode cL_acts 670 = .ok (.goto 4, 3) := by decide +kernel
theorem dL_acts_673 : decode cL_acts 673 = .ok (.iconst 0, 1) := by decide +kernel
theorem dL_acts_674 : decode cL_acts 674 = .ok (.istore 7, 2) := by decide +kernel
theorem dL_acts_676 : decode cL_acts 676 = .ok (.iload 4, 2) := by decide +kernel
theorem dL_acts_678 : decode cL_acts 678 = .ok (.iconst 4, 1) := by decide +kernel
theorem dL_acts_679 : decode cL_acts 679 = .ok (.if_icmp .eq 22, 3) := by decide +kernel
theorem dL_acts_682 : decode cL_acts 682 = .ok (.iload 5, 2) := by decide +kernel
theorem dL_acts_684 : decode cL_acts 684 = .ok (.ifCond .eq 17, 3) := by decide +kernel
theorem dL_acts_687 : decode cL_acts 687 = .ok (.iload 5, 2) := by decide +kernel
theorem dL_acts_689 : decode cL_acts 689 = .ok (.bipush 10, 2) := by decide +kernel
theorem dL_acts_691 : decode cL_acts 691 = .ok (.if_icmp .eq 10, 3) := by decide +kernel
theorem dL_acts_694 : decode cL_acts 694 = .ok (.iload 6, 2) := by decide +kernel
theorem dL_acts_696 : decode cL_acts 696 = .ok (.ldc 118, 2) := by decide +kernel
theorem dL_acts_698 : decode cL_acts 698 = .ok (.if_icmp .ne 7, 3) := by decide +kernel
theorem dL_acts_701 : decode cL_acts 701 = .ok (.iconst 1, 1) := by decide +kernel
theorem dL_acts_702 : decode cL_acts 702 = .ok (.goto 4, 3) := by decide +kernel
theorem dL_acts_705 : decode cL_acts 705 = .ok (.iconst 0, 1) := by decide +kernel
theorem dL_acts_706 : decode cL_acts 706 = .ok (.istore 8, 2) := by decide +kernel
theorem dL_acts_708 : decode cL_acts 708 = .ok (.iload 4, 2) := by decide +kernel
theorem dL_acts_710 : decode cL_acts 710 = .ok (.iconst 4, 1) := by decide +kernel
theorem dL_acts_711 : decode cL_acts 711 = .ok (.if_icmp .ne 7, 3) := by decide +kernel
theorem dL_acts_714 : decode cL_acts 714 = .ok (.iconst 0, 1) := by decide +kernel
theorem dL_acts_715 : decode cL_acts 715 = .ok (.goto 10, 3) := by decide +kernel
theorem dL_acts_718 : decode cL_acts 718 = .ok (.aload_n 0, 1) := by decide +kernel
theorem dL_acts_719 : decode cL_acts 719 = .ok (.iload 4, 2) := by decide +kernel
theorem dL_acts_721 : decode cL_acts 721 = .ok (.iconst 0, 1) := by decide +kernel
theorem dL_acts_722 : decode cL_acts 722 = .ok (.invokevirtual 32, 3) := by decide +kernel
theorem dL_acts_725 : decode cL_acts 725 = .ok (.istore 9, 2) := by decide +kernel
theorem dL_acts_727 : decode cL_acts 727 = .ok (.aload_n 0, 1) := by decide +kernel
theorem dL_acts_728 : decode cL_acts 728 = .ok (.iload 4, 2) := by decide +kernel
theorem dL_acts_730 : decode cL_acts 730 = .ok (.iload 5, 2) := by decide +kernel
theorem dL_acts_732 : decode cL_acts 732 = .ok (.iload 6, 2) := by decide +kernel
theorem dL_acts_734 : decode cL_acts 734 = .ok (.iload 7, 2) := by decide +kernel
theorem dL_acts_736 : decode cL_acts 736 = .ok (.invokevirtual 119, 3) := by decide +kernel
theorem dL_acts_739 : decode cL_acts 739 = .ok (.iload 8, 2) := by decide +kernel
theorem dL_acts_741 : decode cL_acts 741 = .ok (.ifCond .eq 7, 3) := by decide +kernel
theorem dL_acts_744 : decode cL_acts 744 = .ok (.iconst (-1), 1) := by decide +kernel
theorem dL_acts_745 : decode cL_acts 745 = .ok (.goto 5, 3) := by decide +kernel
theorem dL_acts_748 : decode cL_acts 748 = .ok (.iload 9, 2) := by decide +kernel
theorem dL_acts_750 : decode cL_acts 750 = .ok (.if_icmp .ne 56, 3) := by decide +kernel
theorem dL_acts_753 : decode cL_acts 753 = .ok (.iload 8, 2) := by decide +kernel
theorem dL_acts_755 : decode cL_acts 755 = .ok (.ifCond .ne 47, 3) := by decide +kernel
theorem dL_acts_758 : decode cL_acts 758 = .ok (.aload_n 0, 1) := by decide +kernel
theorem dL_acts_759 : decode cL_acts 759 = .ok (.iload 4, 2) := by decide +kernel
theorem dL_acts_761 : decode cL_acts 761 = .ok (.iconst 0, 1) := by decide +kernel
theorem dL_acts_762 : decode cL_acts 762 = .ok (.invokevirtual 32, 3) := by decide +kernel
theorem dL_acts_765 : decode cL_acts 765 = .ok (.iload 5, 2) := by decide +kernel
theorem dL_acts_767 : decode cL_acts 767 = .ok (.if_icmp .ne 39, 3) := by decide +kernel
theorem dL_acts_770 : decode cL_acts 770 = .ok (.aload_n 0, 1) := by decide +kernel
theorem dL_acts_771 : decode cL_acts 771 = .ok (.iload 4, 2) := by decide +kernel
theorem dL_acts_773 : decode cL_acts 773 = .ok (.iconst 1, 1) := by decide +kernel
theorem dL_acts_774 : decode cL_acts 774 = .ok (.invokevirtual 32, 3) := by decide +kernel
theorem dL_acts_777 : decode cL_acts 777 = .ok (.iload 6, 2) := by decide +kernel
theorem dL_acts_779 : decode cL_acts 779 = .ok (.if_icmp .ne 27, 3) := by decide +kernel
theorem dL_acts_782 : decode cL_acts 782 = .ok (.aload_n 0, 1) := by decide +kernel
theorem dL_acts_783 : decode cL_acts 783 = .ok (.iload 4, 2) := by decide +kernel
theorem dL_acts_785 : decode cL_acts 785 = .ok (.iconst 2, 1) := by decide +kernel
theorem dL_acts_786 : decode cL_acts 786 = .ok (.invokevirtual 32, 3) := by decide +kernel
theorem dL_acts_789 : decode cL_acts 789 = .ok (.iload 7, 2) := by decide +kernel
theorem dL_acts_791 : decode cL_acts 791 = .ok (.ifCond .eq 7, 3) := by decide +kernel
theorem dL_acts_794 : decode cL_acts 794 = .ok (.iconst 1, 1) := by decide +kernel
theorem dL_acts_795 : decode cL_acts 795 = .ok (.goto 4, 3) := by decide +kernel
theorem dL_acts_798 : decode cL_acts 798 = .ok (.iconst 0, 1) := by decide +kernel
theorem dL_acts_799 : decode cL_acts 799 = .ok (.if_icmp .ne 7, 3) := by decide +kernel
theorem dL_acts_802 : decode cL_acts 802 = .ok (.iconst 1, 1) := by decide +kernel
theorem dL_acts_803 : decode cL_acts 803 = .ok (.goto 4, 3) := by decide +kernel
theorem dL_acts_806 : decode cL_acts 806 = .ok (.iconst 0, 1) := by decide +kernel
theorem dL_acts_807 : decode cL_acts 807 = .ok (.ireturn, 1) := by decide +kernel
theorem dL_acts_808 : decode cL_acts 808 = .ok (.iload_n 3, 1) := by decide +kernel
theorem dL_acts_809 : decode cL_acts 809 = .ok (.bipush 29, 2) := by decide +kernel
theorem dL_acts_811 : decode cL_acts 811 = .ok (.if_icmp .ne 67, 3) := by decide +kernel
theorem dL_acts_814 : decode cL_acts 814 = .ok (.iload_n 2, 1) := by decide +kernel
theorem dL_acts_815 : decode cL_acts 815 = .ok (.iconst 5, 1) := by decide +kernel
theorem dL_acts_816 : decode cL_acts 816 = .ok (.invokestatic 42, 3) := by decide +kernel
theorem dL_acts_819 : decode cL_acts 819 = .ok (.istore 4, 2) := by decide +kernel
theorem dL_acts_821 : decode cL_acts 821 = .ok (.aload_n 0, 1) := by decide +kernel
theorem dL_acts_822 : decode cL_acts 822 = .ok (.bipush 14, 2) := by decide +kernel
theorem dL_acts_824 : decode cL_acts 824 = .ok (.invokevirtual 13, 3) := by decide +kernel
theorem dL_acts_827 : decode cL_acts 827 = .ok (.istore 5, 2) := by decide +kernel
theorem dL_acts_829 : decode cL_acts 829 = .ok (.aload_n 0, 1) := by decide +kernel
theorem dL_acts_830 : decode cL_acts 830 = .ok (.iload 4, 2) := by decide +kernel
theorem dL_acts_832 : decode cL_acts 832 = .ok (.invokevirtual 123, 3) := by decide +kernel
theorem dL_acts_835 : decode cL_acts 835 = .ok (.iload 4, 2) := by decide +kernel
theorem dL_acts_837 : decode cL_acts 837 = .ok (.iconst 4, 1) := by decide +kernel
theorem dL_acts_838 : decode cL_acts 838 = .ok (.if_icmp .ne 7, 3) := by decide +kernel
theorem dL_acts_841 : decode cL_acts 841 = .ok (.iconst (-1), 1) := by decide +kernel
theorem dL_acts_842 : decode cL_acts 842 = .ok (.goto 5, 3) := by decide +kernel
theorem dL_acts_845 : decode cL_acts 845 = .ok (.iload 5, 2) := by decide +kernel
theorem dL_acts_847 : decode cL_acts 847 = .ok (.if_icmp .ne 29, 3) := by decide +kernel
theorem dL_acts_850 : decode cL_acts 850 = .ok (.aload_n 0, 1) := by decide +kernel
theorem dL_acts_851 : decode cL_acts 851 = .ok (.bipush 14, 2) := by decide +kernel
theorem dL_acts_853 : decode cL_acts 853 = .ok (.invokevirtual 13, 3) := by decide +kernel
theorem dL_acts_856 : decode cL_acts 856 = .ok (.iload 4, 2) := by decide +kernel
theorem dL_acts_858 : decode cL_acts 858 = .ok (.iconst 4, 1) := by decide +kernel
theorem dL_acts_859 : decode cL_acts 859 = .ok (.if_icmp .ne 8, 3) := by decide +kernel
theorem dL_acts_862 : decode cL_acts 862 = .ok (.iload 5, 2) := by decide +kernel
theorem dL_acts_864 : decode cL_acts 864 = .ok (.goto 5, 3) := by decide +kernel
theorem dL_acts_867 : decode cL_acts 867 = .ok (.iload 4, 2) := by decide +kernel
theorem dL_acts_869 : decode cL_acts 869 = .ok (.if_icmp .ne 7, 3) := by decide +kernel
theorem dL_acts_872 : decode cL_acts 872 = .ok (.iconst 1, 1) := by decide +kernel
theorem dL_acts_873 : decode cL_acts 873 = .ok (.goto 4, 3) := by decide +kernel
theorem dL_acts_876 : decode cL_acts 876 = .ok (.iconst 0, 1) := by decide +kernel
theorem dL_acts_877 : decode cL_acts 877 = .ok (.ireturn, 1) := by decide +kernel
theorem dL_acts_878 : decode cL_acts 878 = .ok (.aload_n 0, 1) := by decide +kernel
theorem dL_acts_879 : decode cL_acts 879 = .ok (.iload_n 2, 1) := by decide +kernel
theorem dL_acts_880 : decode cL_acts 880 = .ok (.invokestatic 126, 3) := by decide +kernel
theorem dL_acts_883 : decode cL_acts 883 = .ok (.ireturn, 1) := by decide +kernel
theorem dL_law_0 : decode cL_law 0 = .ok (.new 14, 3) := by decide +kernel
theorem dL_law_3 : decode cL_law 3 = .ok (.dup, 1) := by decide +kernel
theorem dL_law_4 : decode cL_law 4 = .ok (.invokespecial 129, 3) := by decide +kernel
theorem dL_law_7 : decode cL_law 7 = .ok (.astore_n 1, 1) := by decide +kernel
theorem dL_law_8 : decode cL_law 8 = .ok (.aload_n 1, 1) := by decide +kernel
theorem dL_law_9 : decode cL_law 9 = .ok (.invokestatic 130, 3) := by decide +kernel
theorem dL_law_12 : decode cL_law 12 = .ok (.ifCond .eq 40, 3) := by decide +kernel
theorem dL_law_15 : decode cL_law 15 = .ok (.aload_n 1, 1) := by decide +kernel
theorem dL_law_16 : decode cL_law 16 = .ok (.iconst 0, 1) := by decide +kernel
theorem dL_law_17 : decode cL_law 17 = .ok (.invokestatic 134, 3) := by decide +kernel
theorem dL_law_20 : decode cL_law 20 = .ok (.ifCond .eq 32, 3) := by decide +kernel
theorem dL_law_23 : decode cL_law 23 = .ok (.aload_n 1, 1) := by decide +kernel
theorem dL_law_24 : decode cL_law 24 = .ok (.invokevirtual 137, 3) := by decide +kernel
theorem dL_law_27 : decode cL_law 27 = .ok (.bipush (-2), 2) := by decide +kernel
theorem dL_law_29 : decode cL_law 29 = .ok (.if_icmp .ne 23, 3) := by decide +kernel
theorem dL_law_32 : decode cL_law 32 = .ok (.aload_n 1, 1) := by decide +kernel
theorem dL_law_33 : decode cL_law 33 = .ok (.invokevirtual 140, 3) := by decide +kernel
theorem dL_law_36 : decode cL_law 36 = .ok (.bipush (-2), 2) := by decide +kernel
theorem dL_law_38 : decode cL_law 38 = .ok (.if_icmp .ne 14, 3) := by decide +kernel
theorem dL_law_41 : decode cL_law 41 = .ok (.aload_n 1, 1) := by decide +kernel
theorem dL_law_42 : decode cL_law 42 = .ok (.invokevirtual 143, 3) := by decide +kernel
theorem dL_law_45 : decode cL_law 45 = .ok (.ifCond .ne 7, 3) := by decide +kernel
theorem dL_law_48 : decode cL_law 48 = .ok (.iconst 1, 1) := by decide +kernel
theorem dL_law_49 : decode cL_law 49 = .ok (.goto 4, 3) := by decide +kernel
theorem dL_law_52 : decode cL_law 52 = .ok (.iconst 0, 1) := by decide +kernel
theorem dL_law_53 : decode cL_law 53 = .ok (.istore_n 2, 1) := by decide +kernel
theorem dL_law_54 : decode cL_law 54 = .ok (.aload_n 1, 1) := by decide +kernel
theorem dL_law_55 : decode cL_law 55 = .ok (.invokestatic 75, 3) := by decide +kernel
theorem dL_law_58 : decode cL_law 58 = .ok (.lstore_n 3, 1) := by decide +kernel
theorem dL_law_59 : decode cL_law 59 = .ok (.iconst 0, 1) := by decide +kernel
theorem dL_law_60 : decode cL_law 60 = .ok (.istore 5, 2) := by decide +kernel
theorem dL_law_62 : decode cL_law 62 = .ok (.iload 5, 2) := by decide +kernel
theorem dL_law_64 : decode cL_law 64 = .ok (.bipush 54, 2) := by decide +kernel
theorem dL_law_66 : decode cL_law 66 = .ok (.if_icmp .ge 315, 3) := by decide +kernel
theorem dL_law_69 : decode cL_law 69 = .ok (.iload_n 2, 1) := by decide +kernel
theorem dL_law_70 : decode cL_law 70 = .ok (.ifCond .eq 311, 3) := by decide +kernel
theorem dL_law_73 : decode cL_law 73 = .ok (.aload_n 0, 1) := by decide +kernel
theorem dL_law_74 : decode cL_law 74 = .ok (.iconst 2, 1) := by decide +kernel
theorem dL_law_75 : decode cL_law 75 = .ok (.iload 5, 2) := by decide +kernel
theorem dL_law_77 : decode cL_law 77 = .ok (.imul, 1) := by decide +kernel
theorem dL_law_78 : decode cL_law 78 = .ok (.invokestatic 146, 3) := by decide +kernel
theorem dL_law_81 : decode cL_law 81 = .ok (.istore 6, 2) := by decide +kernel
theorem dL_law_83 : decode cL_law 83 = .ok (.aload_n 0, 1) := by decide +kernel
theorem dL_law_84 : decode cL_law 84 = .ok (.iconst 2, 1) := by decide +kernel
theorem dL_law_85 : decode cL_law 85 = .ok (.iload 5, 2) := by decide +kernel
theorem dL_law_87 : decode cL_law 87 = .ok (.imul, 1) := by decide +kernel
theorem dL_law_88 : decode cL_law 88 = .ok (.iconst 1, 1) := by decide +kernel
theorem dL_law_89 : decode cL_law 89 = .ok (.iadd, 1) := by decide +kernel
theorem dL_law_90 : decode cL_law 90 = .ok (.invokestatic 146, 3) := by decide +kernel
theorem dL_law_93 : decode cL_law 93 = .ok (.istore 7, 2) := by decide +kernel
theorem dL_law_95 : decode cL_law 95 = .ok (.aload_n 1, 1) := by decide +kernel
theorem dL_law_96 : decode cL_law 96 = .ok (.invokestatic 75, 3) := by decide +kernel
theorem dL_law_99 : decode cL_law 99 = .ok (.lstore 8, 2) := by decide +kernel
theorem dL_law_101 : decode cL_law 101 = .ok (.aload_n 1, 1) := by decide +kernel
theorem dL_law_102 : decode cL_law 102 = .ok (.bipush 17, 2) := by decide +kernel
theorem dL_law_104 : decode cL_law 104 = .ok (.invokevirtual 13, 3) := by decide +kernel
theorem dL_law_107 : decode cL_law 107 = .ok (.istore 10, 2) := by decide +kernel
theorem dL_law_109 : decode cL_law 109 = .ok (.aload_n 1, 1) := by decide +kernel
theorem dL_law_110 : decode cL_law 110 = .ok (.iload 6, 2) := by decide +kernel
theorem dL_law_112 : decode cL_law 112 = .ok (.iload 7, 2) := by decide +kernel
theorem dL_law_114 : decode cL_law 114 = .ok (.invokestatic 150, 3) := by decide +kernel
theorem dL_law_117 : decode cL_law 117 = .ok (.ifCond .eq 38, 3) := by decide +kernel
theorem dL_law_120 : decode cL_law 120 = .ok (.iload 5, 2) := by decide +kernel
theorem dL_law_122 : decode cL_law 122 = .ok (.iconst 4, 1) := by decide +kernel
theorem dL_law_123 : decode cL_law 123 = .ok (.irem, 1) := by decide +kernel
theorem dL_law_124 : decode cL_law 124 = .ok (.ifCond .gt 10, 3) := by decide +kernel
theorem dL_law_127 : decode cL_law 127 = .ok (.aload_n 1, 1) := by decide +kernel
theorem dL_law_128 : decode cL_law 128 = .ok (.invokestatic 130, 3) := by decide +kernel
theorem dL_law_131 : decode cL_law 131 = .ok (.ifCond .eq 24, 3) := by decide +kernel
theorem dL_law_134 : decode cL_law 134 = .ok (.iload 5, 2) := by decide +kernel
theorem dL_law_136 : decode cL_law 136 = .ok (.iconst 4, 1) := by decide +kernel
theorem dL_law_137 : decode cL_law 137 = .ok (.irem, 1) := by decide +kernel
theorem dL_law_138 : decode cL_law 138 = .ok (.iconst 2, 1) := by decide +kernel
theorem dL_law_139 : decode cL_law 139 = .ok (.if_icmp .ne 12, 3) := by decide +kernel
theorem dL_law_142 : decode cL_law 142 = .ok (.aload_n 1, 1) := by decide +kernel
theorem dL_law_143 : decode cL_law 143 = .ok (.iload 7, 2) := by decide +kernel
theorem dL_law_145 : decode cL_law 145 = .ok (.invokestatic 134, 3) := by decide +kernel
theorem dL_law_148 : decode cL_law 148 = .ok (.ifCond .eq 7, 3) := by decide +kernel
theorem dL_law_151 : decode cL_law 151 = .ok (.iconst 1, 1) := by decide +kernel
theorem dL_law_152 : decode cL_law 152 = .ok (.goto 4, 3) := by decide +kernel
theorem dL_law_155 : decode cL_law 155 = .ok (.iconst 0, 1) := by decide +kernel
theorem dL_law_156 : decode cL_law 156 = .ok (.istore_n 2, 1) := by decide +kernel
theorem dL_law_157 : decode cL_law 157 = .ok (.aload_n 1, 1) := by decide +kernel
theorem dL_law_158 : decode cL_law 158 = .ok (.bipush 17, 2) := by decide +kernel
theorem dL_law_160 : decode cL_law 160 = .ok (.invokevirtual 13, 3) := by decide +kernel
theorem dL_law_163 : decode cL_law 163 = .ok (.istore 11, 2) := by decide +kernel
theorem dL_law_165 : decode cL_law 165 = .ok (.iload_n 2, 1) := by decide +kernel
theorem dL_law_166 : decode cL_law 166 = .ok (.ifCond .eq 39, 3) := by decide +kernel
theorem dL_law_169 : decode cL_law 169 = .ok (.iload 11, 2) := by decide +kernel
theorem dL_law_171 : decode cL_law 171 = .ok (.iload 10, 2) := by decide +kernel
theorem dL_law_173 : decode cL_law 173 = .ok (.if_icmp .ne 19, 3) := by decide +kernel
theorem dL_law_176 : decode cL_law 176 = .ok (.iload 10, 2) := by decide +kernel
theorem dL_law_178 : decode cL_law 178 = .ok (.iconst 4, 1) := by decide +kernel
theorem dL_law_179 : decode cL_law 179 = .ok (.if_icmp .eq 22, 3) := by decide +kernel
theorem dL_law_182 : decode cL_law 182 = .ok (.aload_n 1, 1) := by decide +kernel
theorem dL_law_183 : decode cL_law 183 = .ok (.invokestatic 75, 3) := by decide +kernel
theorem dL_law_186 : decode cL_law 186 = .ok (.lload 8, 2) := by decide +kernel
theorem dL_law_188 : decode cL_law 188 = .ok (.lcmp, 1) := by decide +kernel
theorem dL_law_189 : decode cL_law 189 = .ok (.ifCond .eq 12, 3) := by decide +kernel
theorem dL_law_192 : decode cL_law 192 = .ok (.iload 11, 2) := by decide +kernel
theorem dL_law_194 : decode cL_law 194 = .ok (.iload 10, 2) := by decide +kernel
theorem dL_law_196 : decode cL_law 196 = .ok (.iconst 1, 1) := by decide +kernel
theorem dL_law_197 : decode cL_law 197 = .ok (.iadd, 1) := by decide +kernel
theorem dL_law_198 : decode cL_law 198 = .ok (.if_icmp .ne 7, 3) := by decide +kernel
theorem dL_law_201 : decode cL_law 201 = .ok (.iconst 1, 1) := by decide +kernel
theorem dL_law_202 : decode cL_law 202 = .ok (.goto 4, 3) := by decide +kernel
theorem dL_law_205 : decode cL_law 205 = .ok (.iconst 0, 1) := by decide +kernel
theorem dL_law_206 : decode cL_law 206 = .ok (.istore_n 2, 1) := by decide +kernel
theorem dL_law_207 : decode cL_law 207 = .ok (.iload_n 2, 1) := by decide +kernel
theorem dL_law_208 : decode cL_law 208 = .ok (.ifCond .eq 49, 3) := by decide +kernel
theorem dL_law_211 : decode cL_law 211 = .ok (.iload 11, 2) := by decide +kernel
theorem dL_law_213 : decode cL_law 213 = .ok (.iload 10, 2) := by decide +kernel
theorem dL_law_215 : decode cL_law 215 = .ok (.iconst 1, 1) := by decide +kernel
theorem dL_law_216 : decode cL_law 216 = .ok (.iadd, 1) := by decide +kernel
theorem dL_law_217 : decode cL_law 217 = .ok (.if_icmp .ne 40, 3) := by decide +kernel
theorem dL_law_220 : decode cL_law 220 = .ok (.iload 7, 2) := by decide +kernel
theorem dL_law_222 : decode cL_law 222 = .ok (.bipush 8, 2) := by decide +kernel
theorem dL_law_224 : decode cL_law 224 = .ok (.ishr, 1) := by decide +kernel
theorem dL_law_225 : decode cL_law 225 = .ok (.iconst 3, 1) := by decide +kernel
theorem dL_law_226 : decode cL_law 226 = .ok (.invokestatic 42, 3) := by decide +kernel
theorem dL_law_229 : decode cL_law 229 = .ok (.ifCond .ne 28, 3) := by decide +kernel
theorem dL_law_232 : decode cL_law 232 = .ok (.aload_n 1, 1) := by decide +kernel
theorem dL_law_233 : decode cL_law 233 = .ok (.invokevirtual 137, 3) := by decide +kernel
theorem dL_law_236 : decode cL_law 236 = .ok (.iload 10, 2) := by decide +kernel
theorem dL_law_238 : decode cL_law 238 = .ok (.if_icmp .ne 17, 3) := by decide +kernel
theorem dL_law_241 : decode cL_law 241 = .ok (.aload_n 1, 1) := by decide +kernel
theorem dL_law_242 : decode cL_law 242 = .ok (.invokestatic 75, 3) := by decide +kernel
theorem dL_law_245 : decode cL_law 245 = .ok (.lload 8, 2) := by decide +kernel
theorem dL_law_247 : decode cL_law 247 = .ok (.lcmp, 1) := by decide +kernel
theorem dL_law_248 : decode cL_law 248 = .ok (.ifCond .ne 7, 3) := by decide +kernel
theorem dL_law_251 : decode cL_law 251 = .ok (.iconst 1, 1) := by decide +kernel
theorem dL_law_252 : decode cL_law 252 = .ok (.goto 4, 3) := by decide +kernel
theorem dL_law_255 : decode cL_law 255 = .ok (.iconst 0, 1) := by decide +kernel
theorem dL_law_256 : decode cL_law 256 = .ok (.istore_n 2, 1) := by decide +kernel
theorem dL_law_257 : decode cL_law 257 = .ok (.iload_n 2, 1) := by decide +kernel
theorem dL_law_258 : decode cL_law 258 = .ok (.ifCond .eq 68, 3) := by decide +kernel
theorem dL_law_261 : decode cL_law 261 = .ok (.iload 5, 2) := by decide +kernel
theorem dL_law_263 : decode cL_law 263 = .ok (.bipush 15, 2) := by decide +kernel
theorem dL_law_265 : decode cL_law 265 = .ok (.irem, 1) := by decide +kernel
theorem dL_law_266 : decode cL_law 266 = .ok (.bipush 14, 2) := by decide +kernel
theorem dL_law_268 : decode cL_law 268 = .ok (.if_icmp .ne 58, 3) := by decide +kernel
theorem dL_law_271 : decode cL_law 271 = .ok (.aload_n 1, 1) := by decide +kernel
theorem dL_law_272 : decode cL_law 272 = .ok (.invokevirtual 140, 3) := by decide +kernel
theorem dL_law_275 : decode cL_law 275 = .ok (.istore 12, 2) := by decide +kernel
theorem dL_law_277 : decode cL_law 277 = .ok (.iload 12, 2) := by decide +kernel
theorem dL_law_279 : decode cL_law 279 = .ok (.aload_n 1, 1) := by decide +kernel
theorem dL_law_280 : decode cL_law 280 = .ok (.iconst 5, 1) := by decide +kernel
theorem dL_law_281 : decode cL_law 281 = .ok (.invokevirtual 13, 3) := by decide +kernel
theorem dL_law_284 : decode cL_law 284 = .ok (.if_icmp .ne 35, 3) := by decide +kernel
theorem dL_law_287 : decode cL_law 287 = .ok (.aload_n 1, 1) := by decide +kernel
theorem dL_law_288 : decode cL_law 288 = .ok (.invokestatic 75, 3) := by decide +kernel
theorem dL_law_291 : decode cL_law 291 = .ok (.lload_n 3, 1) := by decide +kernel
theorem dL_law_292 : decode cL_law 292 = .ok (.lcmp, 1) := by decide +kernel
theorem dL_law_293 : decode cL_law 293 = .ok (.ifCond .ne 26, 3) := by decide +kernel
theorem dL_law_296 : decode cL_law 296 = .ok (.aload_n 1, 1) := by decide +kernel
theorem dL_law_297 : decode cL_law 297 = .ok (.invokevirtual 137, 3) := by decide +kernel
theorem dL_law_300 : decode cL_law 300 = .ok (.ifCond .lt 19, 3) := by decide +kernel
theorem dL_law_303 : decode cL_law 303 = .ok (.aload_n 1, 1) := by decide +kernel
theorem dL_law_304 : decode cL_law 304 = .ok (.invokevirtual 143, 3) := by decide +kernel
theorem dL_law_307 : decode cL_law 307 = .ok (.aload_n 1, 1) := by decide +kernel
theorem dL_law_308 : decode cL_law 308 = .ok (.iconst 5, 1) := by decide +kernel
theorem dL_law_309 : decode cL_law 309 = .ok (.invokevirtual 13, 3) := by decide +kernel
theorem dL_law_312 : decode cL_law 312 = .ok (.if_icmp .ne 7, 3) := by decide +kernel
theorem dL_law_315 : decode cL_law 315 = .ok (.iconst 1, 1) := by decide +kernel
theorem dL_law_316 : decode cL_law 316 = .ok (.goto 4, 3) := by decide +kernel
theorem dL_law_319 : decode cL_law 319 = .ok (.iconst 0, 1) := by decide +kernel
theorem dL_law_320 : decode cL_law 320 = .ok (.istore_n 2, 1) := by decide +kernel
theorem dL_law_321 : decode cL_law 321 = .ok (.aload_n 1, 1) := by decide +kernel
theorem dL_law_322 : decode cL_law 322 = .ok (.invokestatic 75, 3) := by decide +kernel
theorem dL_law_325 : decode cL_law 325 = .ok (.lstore_n 3, 1) := by decide +kernel
theorem dL_law_326 : decode cL_law 326 = .ok (.iload_n 2, 1) := by decide +kernel
theorem dL_law_327 : decode cL_law 327 = .ok (.ifCond .eq 48, 3) := by decide +kernel
theorem dL_law_330 : decode cL_law 330 = .ok (.iload 5, 2) := by decide +kernel
theorem dL_law_332 : decode cL_law 332 = .ok (.bipush 11, 2) := by decide +kernel
theorem dL_law_334 : decode cL_law 334 = .ok (.irem, 1) := by decide +kernel
theorem dL_law_335 : decode cL_law 335 = .ok (.bipush 10, 2) := by decide +kernel
theorem dL_law_337 : decode cL_law 337 = .ok (.if_icmp .ne 38, 3) := by decide +kernel
theorem dL_law_340 : decode cL_law 340 = .ok (.aload_n 1, 1) := by decide +kernel
theorem dL_law_341 : decode cL_law 341 = .ok (.bipush 17, 2) := by decide +kernel
theorem dL_law_343 : decode cL_law 343 = .ok (.invokevirtual 13, 3) := by decide +kernel
theorem dL_law_346 : decode cL_law 346 = .ok (.istore 12, 2) := by decide +kernel
theorem dL_law_348 : decode cL_law 348 = .ok (.aload_n 1, 1) := by decide +kernel
theorem dL_law_349 : decode cL_law 349 = .ok (.invokevirtual 137, 3) := by decide +kernel
theorem dL_law_352 : decode cL_law 352 = .ok (.iload 12, 2) := by decide +kernel
theorem dL_law_354 : decode cL_law 354 = .ok (.ifCond .ne 8, 3) := by decide +kernel
theorem dL_law_357 : decode cL_law 357 = .ok (.bipush (-2), 2) := by decide +kernel
theorem dL_law_359 : decode cL_law 359 = .ok (.goto 7, 3) := by decide +kernel
theorem dL_law_362 : decode cL_law 362 = .ok (.iload 12, 2) := by decide +kernel
theorem dL_law_364 : decode cL_law 364 = .ok (.iconst 1, 1) := by decide +kernel
theorem dL_law_365 : decode cL_law 365 = .ok (.isub, 1) := by decide +kernel
theorem dL_law_366 : decode cL_law 366 = .ok (.if_icmp .ne 7, 3) := by decide +kernel
theorem dL_law_369 : decode cL_law 369 = .ok (.iconst 1, 1) := by decide +kernel
theorem dL_law_370 : decode cL_law 370 = .ok (.goto 4, 3) := by decide +kernel
theorem dL_law_373 : decode cL_law 373 = .ok (.iconst 0, 1) := by decide +kernel
theorem dL_law_374 : decode cL_law 374 = .ok (.istore_n 2, 1) := by decide +kernel
theorem dL_law_375 : decode cL_law 375 = .ok (.iinc 5 1, 3) := by decide +kernel
theorem dL_law_378 : decode cL_law 378 = .ok (.goto (-316), 3) := by decide +kernel
theorem dL_law_381 : decode cL_law 381 = .ok (.iload_n 2, 1) := by decide +kernel
theorem dL_law_382 : decode cL_law 382 = .ok (.ifCond .eq 14, 3) := by decide +kernel
theorem dL_law_385 : decode cL_law 385 = .ok (.aload_n 1, 1) := by decide +kernel
theorem dL_law_386 : decode cL_law 386 = .ok (.invokestatic 130, 3) := by decide +kernel
theorem dL_law_389 : decode cL_law 389 = .ok (.ifCond .eq 7, 3) := by decide +kernel
theorem dL_law_392 : decode cL_law 392 = .ok (.iconst 1, 1) := by decide +kernel
theorem dL_law_393 : decode cL_law 393 = .ok (.goto 4, 3) := by decide +kernel
theorem dL_law_396 : decode cL_law 396 = .ok (.iconst 0, 1) := by decide +kernel
theorem dL_law_397 : decode cL_law 397 = .ok (.ireturn, 1) := by decide +kernel
