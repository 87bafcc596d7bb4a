theorem dL_law_377 : decode cL_law 377 = .ok (.iadd, 1) := by decide +kernel
theorem dL_law_378 : decode cL_law 378 = .ok (.istore 13, 2) := by decide +kernel
theorem dL_law_380 : decode cL_law 380 = .ok (.iload 8, 2) := by decide +kernel
theorem dL_law_382 : decode cL_law 382 = .ok (.iconst 3, 1) := by decide +kernel
theorem dL_law_383 : decode cL_law 383 = .ok (.ishr, 1) := by decide +kernel
theorem dL_law_384 : decode cL_law 384 = .ok (.ldc 117, 2) := by decide +kernel
theorem dL_law_386 : decode cL_law 386 = .ok (.invokestatic 80, 3) := by decide +kernel
theorem dL_law_389 : decode cL_law 389 = .ok (.istore 14, 2) := by decide +kernel
theorem dL_law_391 : decode cL_law 391 = .ok (.aload_n 2, 1) := by decide +kernel
theorem dL_law_392 : decode cL_law 392 = .ok (.bipush 10, 2) := by decide +kernel
theorem dL_law_394 : decode cL_law 394 = .ok (.iload 13, 2) := by decide +kernel
theorem dL_law_396 : decode cL_law 396 = .ok (.iadd, 1) := by decide +kernel
theorem dL_law_397 : decode cL_law 397 = .ok (.iaload, 1) := by decide +kernel
theorem dL_law_398 : decode cL_law 398 = .ok (.ifCond .lt 7, 3) := by decide +kernel
theorem dL_law_401 : decode cL_law 401 = .ok (.iconst 1, 1) := by decide +kernel
theorem dL_law_402 : decode cL_law 402 = .ok (.goto 4, 3) := by decide +kernel
theorem dL_law_405 : decode cL_law 405 = .ok (.iconst 0, 1) := by decide +kernel
theorem dL_law_406 : decode cL_law 406 = .ok (.istore 15, 2) := by decide +kernel
theorem dL_law_408 : decode cL_law 408 = .ok (.iconst 1, 1) := by decide +kernel
theorem dL_law_409 : decode cL_law 409 = .ok (.istore 16, 2) := by decide +kernel
theorem dL_law_411 : decode cL_law 411 = .ok (.iconst 1, 1) := by decide +kernel
theorem dL_law_412 : decode cL_law 412 = .ok (.istore 17, 2) := by decide +kernel
theorem dL_law_414 : decode cL_law 414 = .ok (.iload 17, 2) := by decide +kernel
theorem dL_law_416 : decode cL_law 416 = .ok (.bipush 6, 2) := by decide +kernel
theorem dL_law_418 : decode cL_law 418 = .ok (.if_icmp .ge 29, 3) := by decide +kernel
theorem dL_law_421 : decode cL_law 421 = .ok (.iload 16, 2) := by decide +kernel
theorem dL_law_423 : decode cL_law 423 = .ok (.aload_n 2, 1) := by decide +kernel
theorem dL_law_424 : decode cL_law 424 = .ok (.bipush 10, 2) := by decide +kernel
theorem dL_law_426 : decode cL_law 426 = .ok (.iload 17, 2) := by decide +kernel
theorem dL_law_428 : decode cL_law 428 = .ok (.iadd, 1) := by decide +kernel
theorem dL_law_429 : decode cL_law 429 = .ok (.iaload, 1) := by decide +kernel
theorem dL_law_430 : decode cL_law 430 = .ok (.ifCond .ge 7, 3) := by decide +kernel
theorem dL_law_433 : decode cL_law 433 = .ok (.iconst 0, 1) := by decide +kernel
theorem dL_law_434 : decode cL_law 434 = .ok (.goto 4, 3) := by decide +kernel
theorem dL_law_437 : decode cL_law 437 = .ok (.iconst 1, 1) := by decide +kernel
theorem dL_law_438 : decode cL_law 438 = .ok (.iadd, 1) := by decide +kernel
theorem dL_law_439 : decode cL_law 439 = .ok (.istore 16, 2) := by decide +kernel
theorem dL_law_441 : decode cL_law 441 = .ok (.iinc 17 1, 3) := by decide +kernel
theorem dL_law_444 : decode cL_law 444 = .ok (.goto (-30), 3) := by decide +kernel
theorem dL_law_447 : decode cL_law 447 = .ok (.aload_n 1, 1) := by decide +kernel
theorem dL_law_448 : decode cL_law 448 = .ok (.iload 13, 2) := by decide +kernel
theorem dL_law_450 : decode cL_law 450 = .ok (.iload 14, 2) := by decide +kernel
theorem dL_law_452 : decode cL_law 452 = .ok (.invokevirtual 118, 3) := by decide +kernel
theorem dL_law_455 : decode cL_law 455 = .ok (.iload 15, 2) := by decide +kernel
theorem dL_law_457 : decode cL_law 457 = .ok (.ifCond .eq 8, 3) := by decide +kernel
theorem dL_law_460 : decode cL_law 460 = .ok (.bipush (-3), 2) := by decide +kernel
theorem dL_law_462 : decode cL_law 462 = .ok (.goto 5, 3) := by decide +kernel
theorem dL_law_465 : decode cL_law 465 = .ok (.iload 16, 2) := by decide +kernel
theorem dL_law_467 : decode cL_law 467 = .ok (.if_icmp .eq 5, 3) := by decide +kernel
theorem dL_law_470 : decode cL_law 470 = .ok (.iconst 0, 1) := by decide +kernel
theorem dL_law_471 : decode cL_law 471 = .ok (.ireturn, 1) := by decide +kernel
theorem dL_law_472 : decode cL_law 472 = .ok (.aload_n 2, 1) := by decide +kernel
theorem dL_law_473 : decode cL_law 473 = .ok (.bipush 10, 2) := by decide +kernel
theorem dL_law_475 : decode cL_law 475 = .ok (.iload 13, 2) := by decide +kernel
theorem dL_law_477 : decode cL_law 477 = .ok (.iadd, 1) := by decide +kernel
theorem dL_law_478 : decode cL_law 478 = .ok (.iload 15, 2) := by decide +kernel
theorem dL_law_480 : decode cL_law 480 = .ok (.ifCond .eq 13, 3) := by decide +kernel
theorem dL_law_483 : decode cL_law 483 = .ok (.aload_n 2, 1) := by decide +kernel
theorem dL_law_484 : decode cL_law 484 = .ok (.bipush 10, 2) := by decide +kernel
theorem dL_law_486 : decode cL_law 486 = .ok (.iload 13, 2) := by decide +kernel
theorem dL_law_488 : decode cL_law 488 = .ok (.iadd, 1) := by decide +kernel
theorem dL_law_489 : decode cL_law 489 = .ok (.iaload, 1) := by decide +kernel
theorem dL_law_490 : decode cL_law 490 = .ok (.goto 5, 3) := by decide +kernel
theorem dL_law_493 : decode cL_law 493 = .ok (.iload 14, 2) := by decide +kernel
theorem dL_law_495 : decode cL_law 495 = .ok (.iastore, 1) := by decide +kernel
theorem dL_law_496 : decode cL_law 496 = .ok (.goto 891, 3) := by decide +kernel
theorem dL_law_499 : decode cL_law 499 = .ok (.iload 10, 2) := by decide +kernel
theorem dL_law_501 : decode cL_law 501 = .ok (.iconst 2, 1) := by decide +kernel
theorem dL_law_502 : decode cL_law 502 = .ok (.if_icmp .ne 148, 3) := by decide +kernel
theorem dL_law_505 : decode cL_law 505 = .ok (.iconst 1, 1) := by decide +kernel
theorem dL_law_506 : decode cL_law 506 = .ok (.iload 9, 2) := by decide +kernel
theorem dL_law_508 : decode cL_law 508 = .ok (.iconst 4, 1) := by decide +kernel
theorem dL_law_509 : decode cL_law 509 = .ok (.ishr, 1) := by decide +kernel
theorem dL_law_510 : decode cL_law 510 = .ok (.iconst 5, 1) := by decide +kernel
theorem dL_law_511 : decode cL_law 511 = .ok (.invokestatic 80, 3) := by decide +kernel
theorem dL_law_514 : decode cL_law 514 = .ok (.iadd, 1) := by decide +kernel
theorem dL_law_515 : decode cL_law 515 = .ok (.istore 13, 2) := by decide +kernel
theorem dL_law_517 : decode cL_law 517 = .ok (.aload_n 2, 1) := by decide +kernel
theorem dL_law_518 : decode cL_law 518 = .ok (.bipush 10, 2) := by decide +kernel
theorem dL_law_520 : decode cL_law 520 = .ok (.iload 13, 2) := by decide +kernel
theorem dL_law_522 : decode cL_law 522 = .ok (.iadd, 1) := by decide +kernel
theorem dL_law_523 : decode cL_law 523 = .ok (.iaload, 1) := by decide +kernel
theorem dL_law_524 : decode cL_law 524 = .ok (.ifCond .lt 7, 3) := by decide +kernel
theorem dL_law_527 : decode cL_law 527 = .ok (.iconst 1, 1) := by decide +kernel
theorem dL_law_528 : decode cL_law 528 = .ok (.goto 4, 3) := by decide +kernel
theorem dL_law_531 : decode cL_law 531 = .ok (.iconst 0, 1) := by decide +kernel
theorem dL_law_532 : decode cL_law 532 = .ok (.istore 14, 2) := by decide +kernel
theorem dL_law_534 : decode cL_law 534 = .ok (.iload 13, 2) := by decide +kernel
theorem dL_law_536 : decode cL_law 536 = .ok (.aload_n 2, 1) := by decide +kernel
theorem dL_law_537 : decode cL_law 537 = .ok (.iconst 1, 1) := by decide +kernel
theorem dL_law_538 : decode cL_law 538 = .ok (.iaload, 1) := by decide +kernel
theorem dL_law_539 : decode cL_law 539 = .ok (.if_icmp .eq 15, 3) := by decide +kernel
theorem dL_law_542 : decode cL_law 542 = .ok (.iload 13, 2) := by decide +kernel
theorem dL_law_544 : decode cL_law 544 = .ok (.aload_n 2, 1) := by decide +kernel
theorem dL_law_545 : decode cL_law 545 = .ok (.iconst 2, 1) := by decide +kernel
theorem dL_law_546 : decode cL_law 546 = .ok (.iaload, 1) := by decide +kernel
theorem dL_law_547 : decode cL_law 547 = .ok (.if_icmp .eq 7, 3) := by decide +kernel
theorem dL_law_550 : decode cL_law 550 = .ok (.iconst 1, 1) := by decide +kernel
theorem dL_law_551 : decode cL_law 551 = .ok (.goto 4, 3) := by decide +kernel
theorem dL_law_554 : decode cL_law 554 = .ok (.iconst 0, 1) := by decide +kernel
theorem dL_law_555 : decode cL_law 555 = .ok (.istore 15, 2) := by decide +kernel
theorem dL_law_557 : decode cL_law 557 = .ok (.iconst (-1), 1) := by decide +kernel
theorem dL_law_558 : decode cL_law 558 = .ok (.istore 16, 2) := by decide +kernel
theorem dL_law_560 : decode cL_law 560 = .ok (.iconst 1, 1) := by decide +kernel
theorem dL_law_561 : decode cL_law 561 = .ok (.istore 17, 2) := by decide +kernel
theorem dL_law_563 : decode cL_law 563 = .ok (.iload 17, 2) := by decide +kernel
theorem dL_law_565 : decode cL_law 565 = .ok (.bipush 6, 2) := by decide +kernel
theorem dL_law_567 : decode cL_law 567 = .ok (.if_icmp .ge 29, 3) := by decide +kernel
theorem dL_law_570 : decode cL_law 570 = .ok (.iload 16, 2) := by decide +kernel
theorem dL_law_572 : decode cL_law 572 = .ok (.aload_n 2, 1) := by decide +kernel
theorem dL_law_573 : decode cL_law 573 = .ok (.bipush 10, 2) := by decide +kernel
theorem dL_law_575 : decode cL_law 575 = .ok (.iload 17, 2) := by decide +kernel
theorem dL_law_577 : decode cL_law 577 = .ok (.iadd, 1) := by decide +kernel
theorem dL_law_578 : decode cL_law 578 = .ok (.iaload, 1) := by decide +kernel
theorem dL_law_579 : decode cL_law 579 = .ok (.ifCond .ge 7, 3) := by decide +kernel
theorem dL_law_582 : decode cL_law 582 = .ok (.iconst 0, 1) := by decide +kernel
theorem dL_law_583 : decode cL_law 583 = .ok (.goto 4, 3) := by decide +kernel
theorem dL_law_586 : decode cL_law 586 = .ok (.iconst 1, 1) := by decide +kernel
theorem dL_law_587 : decode cL_law 587 = .ok (.iadd, 1) := by decide +kernel
theorem dL_law_588 : decode cL_law 588 = .ok (.istore 16, 2) := by decide +kernel
theorem dL_law_590 : decode cL_law 590 = .ok (.iinc 17 1, 3) := by decide +kernel
theorem dL_law_593 : decode cL_law 593 = .ok (.goto (-30), 3) := by decide +kernel
theorem dL_law_596 : decode cL_law 596 = .ok (.aload_n 1, 1) := by decide +kernel
theorem dL_law_597 : decode cL_law 597 = .ok (.iload 13, 2) := by decide +kernel
theorem dL_law_599 : decode cL_law 599 = .ok (.invokevirtual 121, 3) := by decide +kernel
theorem dL_law_602 : decode cL_law 602 = .ok (.iload 14, 2) := by decide +kernel
theorem dL_law_604 : decode cL_law 604 = .ok (.ifCond .ne 7, 3) := by decide +kernel
theorem dL_law_607 : decode cL_law 607 = .ok (.iconst (-1), 1) := by decide +kernel
theorem dL_law_608 : decode cL_law 608 = .ok (.goto 15, 3) := by decide +kernel
theorem dL_law_611 : decode cL_law 611 = .ok (.iload 15, 2) := by decide +kernel
theorem dL_law_613 : decode cL_law 613 = .ok (.ifCond .eq 8, 3) := by decide +kernel
theorem dL_law_616 : decode cL_law 616 = .ok (.iload 16, 2) := by decide +kernel
theorem dL_law_618 : decode cL_law 618 = .ok (.goto 5, 3) := by decide +kernel
theorem dL_law_621 : decode cL_law 621 = .ok (.bipush (-3), 2) := by decide +kernel
theorem dL_law_623 : decode cL_law 623 = .ok (.if_icmp .eq 5, 3) := by decide +kernel
theorem dL_law_626 : decode cL_law 626 = .ok (.iconst 0, 1) := by decide +kernel
theorem dL_law_627 : decode cL_law 627 = .ok (.ireturn, 1) := by decide +kernel
theorem dL_law_628 : decode cL_law 628 = .ok (.iload 14, 2) := by decide +kernel
theorem dL_law_630 : decode cL_law 630 = .ok (.ifCond .eq 17, 3) := by decide +kernel
theorem dL_law_633 : decode cL_law 633 = .ok (.iload 15, 2) := by decide +kernel
theorem dL_law_635 : decode cL_law 635 = .ok (.ifCond .eq 12, 3) := by decide +kernel
theorem dL_law_638 : decode cL_law 638 = .ok (.aload_n 2, 1) := by decide +kernel
theorem dL_law_639 : decode cL_law 639 = .ok (.bipush 10, 2) := by decide +kernel
theorem dL_law_641 : decode cL_law 641 = .ok (.iload 13, 2) := by decide +kernel
theorem dL_law_643 : decode cL_law 643 = .ok (.iadd, 1) := by decide +kernel
theorem dL_law_644 : decode cL_law 644 = .ok (.bipush (-6), 2) := by decide +kernel
theorem dL_law_646 : decode cL_law 646 = .ok (.iastore, 1) := by decide +kernel
theorem dL_law_647 : decode cL_law 647 = .ok (.goto 740, 3) := by decide +kernel
theorem dL_law_650 : decode cL_law 650 = .ok (.iload 10, 2) := by decide +kernel
theorem dL_law_652 : decode cL_law 652 = .ok (.bipush 6, 2) := by decide +kernel
theorem dL_law_654 : decode cL_law 654 = .ok (.if_icmp .ge 91, 3) := by decide +kernel
theorem dL_law_657 : decode cL_law 657 = .ok (.iload 9, 2) := by decide +kernel
theorem dL_law_659 : decode cL_law 659 = .ok (.iconst 5, 1) := by decide +kernel
theorem dL_law_660 : decode cL_law 660 = .ok (.ishr, 1) := by decide +kernel
theorem dL_law_661 : decode cL_law 661 = .ok (.ldc 117, 2) := by decide +kernel
theorem dL_law_663 : decode cL_law 663 = .ok (.invokestatic 80, 3) := by decide +kernel
theorem dL_law_666 : decode cL_law 666 = .ok (.istore 13, 2) := by decide +kernel
theorem dL_law_668 : decode cL_law 668 = .ok (.aload 4, 2) := by decide +kernel
theorem dL_law_670 : decode cL_law 670 = .ok (.iload 11, 2) := by decide +kernel
theorem dL_law_672 : decode cL_law 672 = .ok (.iaload, 1) := by decide +kernel
theorem dL_law_673 : decode cL_law 673 = .ok (.ifCond .ge 18, 3) := by decide +kernel
theorem dL_law_676 : decode cL_law 676 = .ok (.aload_n 2, 1) := by decide +kernel
theorem dL_law_677 : decode cL_law 677 = .ok (.aload 4, 2) := by decide +kernel
theorem dL_law_679 : decode cL_law 679 = .ok (.invokestatic 87, 3) := by decide +kernel
theorem dL_law_682 : decode cL_law 682 = .ok (.bipush 8, 2) := by decide +kernel
theorem dL_law_684 : decode cL_law 684 = .ok (.if_icmp .ne 7, 3) := by decide +kernel
theorem dL_law_687 : decode cL_law 687 = .ok (.iconst 1, 1) := by decide +kernel
theorem dL_law_688 : decode cL_law 688 = .ok (.goto 4, 3) := by decide +kernel
theorem dL_law_691 : decode cL_law 691 = .ok (.iconst 0, 1) := by decide +kernel
theorem dL_law_692 : decode cL_law 692 = .ok (.istore 14, 2) := by decide +kernel
theorem dL_law_694 : decode cL_law 694 = .ok (.iload 14, 2) := by decide +kernel
theorem dL_law_696 : decode cL_law 696 = .ok (.ifCond .ne 17, 3) := by decide +kernel
theorem dL_law_699 : decode cL_law 699 = .ok (.aload 4, 2) := by decide +kernel
theorem dL_law_701 : decode cL_law 701 = .ok (.iload 11, 2) := by decide +kernel
theorem dL_law_703 : decode cL_law 703 = .ok (.iload 13, 2) := by decide +kernel
theorem dL_law_705 : decode cL_law 705 = .ok (.iastore, 1) := by decide +kernel
theorem dL_law_706 : decode cL_law 706 = .ok (.aload 5, 2) := by decide +kernel
theorem dL_law_708 : decode cL_law 708 = .ok (.iload 11, 2) := by decide +kernel
theorem dL_law_710 : decode cL_law 710 = .ok (.iload 13, 2) := by decide +kernel
theorem dL_law_712 : decode cL_law 712 = .ok (.iastore, 1) := by decide +kernel
theorem dL_law_713 : decode cL_law 713 = .ok (.aload_n 1, 1) := by decide +kernel
theorem dL_law_714 : decode cL_law 714 = .ok (.iload 11, 2) := by decide +kernel
theorem dL_law_716 : decode cL_law 716 = .ok (.iload 13, 2) := by decide +kernel
theorem dL_law_718 : decode cL_law 718 = .ok (.invokevirtual 124, 3) := by decide +kernel
theorem dL_law_721 : decode cL_law 721 = .ok (.iload 14, 2) := by decide +kernel
theorem dL_law_723 : decode cL_law 723 = .ok (.ifCond .eq 8, 3) := by decide +kernel
theorem dL_law_726 : decode cL_law 726 = .ok (.bipush (-4), 2) := by decide +kernel
theorem dL_law_728 : decode cL_law 728 = .ok (.goto 9, 3) := by decide +kernel
theorem dL_law_731 : decode cL_law 731 = .ok (.aload_n 2, 1) := by decide +kernel
theorem dL_law_732 : decode cL_law 732 = .ok (.aload 4, 2) := by decide +kernel
theorem dL_law_734 : decode cL_law 734 = .ok (.invokestatic 87, 3) := by decide +kernel
theorem dL_law_737 : decode cL_law 737 = .ok (.if_icmp .eq 5, 3) := by decide +kernel
theorem dL_law_740 : decode cL_law 740 = .ok (.iconst 0, 1) := by decide +kernel
theorem dL_law_741 : decode cL_law 741 = .ok (.ireturn, 1) := by decide +kernel
theorem dL_law_742 : decode cL_law 742 = .ok (.goto 645, 3) := by decide +kernel
theorem dL_law_745 : decode cL_law 745 = .ok (.iload 10, 2) := by decide +kernel
theorem dL_law_747 : decode cL_law 747 = .ok (.bipush 8, 2) := by decide +kernel
theorem dL_law_749 : decode cL_law 749 = .ok (.if_icmp .ge 106, 3) := by decide +kernel
theorem dL_law_752 : decode cL_law 752 = .ok (.iconst 0, 1) := by decide +kernel
theorem dL_law_753 : decode cL_law 753 = .ok (.istore 13, 2) := by decide +kernel
theorem dL_law_755 : decode cL_law 755 = .ok (.iconst 0, 1) := by decide +kernel
theorem dL_law_756 : decode cL_law 756 = .ok (.istore 14, 2) := by decide +kernel
theorem dL_law_758 : decode cL_law 758 = .ok (.iload 14, 2) := by decide +kernel
theorem dL_law_760 : decode cL_law 760 = .ok (.aload_n 2, 1) := by decide +kernel
theorem dL_law_761 : decode cL_law 761 = .ok (.iconst 0, 1) := by decide +kernel
theorem dL_law_762 : decode cL_law 762 = .ok (.iaload, 1) := by decide +kernel
theorem dL_law_763 : decode cL_law 763 = .ok (.if_icmp .ge 78, 3) := by decide +kernel
theorem dL_law_766 : decode cL_law 766 = .ok (.aload 4, 2) := by decide +kernel
theorem dL_law_768 : decode cL_law 768 = .ok (.iload 14, 2) := by decide +kernel
theorem dL_law_770 : decode cL_law 770 = .ok (.iaload, 1) := by decide +kernel
theorem dL_law_771 : decode cL_law 771 = .ok (.ifCond .lt 64, 3) := by decide +kernel
theorem dL_law_774 : decode cL_law 774 = .ok (.iload 12, 2) := by decide +kernel
theorem dL_law_776 : decode cL_law 776 = .ok (.ifCond .eq 24, 3) := by decide +kernel
theorem dL_law_779 : decode cL_law 779 = .ok (.iload 14, 2) := by decide +kernel
theorem dL_law_781 : decode cL_law 781 = .ok (.aload_n 2, 1) := by decide +kernel
theorem dL_law_782 : decode cL_law 782 = .ok (.invokestatic 16, 3) := by decide +kernel
theorem dL_law_785 : decode cL_law 785 = .ok (.if_icmp .lt 15, 3) := by decide +kernel
theorem dL_law_788 : decode cL_law 788 = .ok (.iload 14, 2) := by decide +kernel
theorem dL_law_790 : decode cL_law 790 = .ok (.aload_n 2, 1) := by decide +kernel
theorem dL_law_791 : decode cL_law 791 = .ok (.invokestatic 34, 3) := by decide +kernel
theorem dL_law_794 : decode cL_law 794 = .ok (.if_icmp .ge 6, 3) := by decide +kernel
theorem dL_law_797 : decode cL_law 797 = .ok (.goto 38, 3) := by decide +kernel
theorem dL_law_800 : decode cL_law 800 = .ok (.aload_n 3, 1) := by decide +kernel
theorem dL_law_801 : decode cL_law 801 = .ok (.iload 14, 2) := by decide +kernel
theorem dL_law_803 : decode cL_law 803 = .ok (.aload 4, 2) := by decide +kernel
theorem dL_law_805 : decode cL_law 805 = .ok (.iload 14, 2) := by decide +kernel
theorem dL_law_807 : decode cL_law 807 = .ok (.iaload, 1) := by decide +kernel
theorem dL_law_808 : decode cL_law 808 = .ok (.iload 14, 2) := by decide +kernel
theorem dL_law_810 : decode cL_law 810 = .ok (.aload_n 2, 1) := by decide +kernel
theorem dL_law_811 : decode cL_law 811 = .ok (.bipush 10, 2) := by decide +kernel
theorem dL_law_813 : decode cL_law 813 = .ok (.iload 14, 2) := by decide +kernel
theorem dL_law_815 : decode cL_law 815 = .ok (.aload_n 2, 1) := by decide +kernel
theorem dL_law_816 : decode cL_law 816 = .ok (.invokestatic 22, 3) := by decide +kernel
theorem dL_law_819 : decode cL_law 819 = .ok (.iadd, 1) := by decide +kernel
theorem dL_law_820 : decode cL_law 820 = .ok (.iaload, 1) := by decide +kernel
theorem dL_law_821 : decode cL_law 821 = .ok (.invokestatic 26, 3) := by decide +kernel
theorem dL_law_824 : decode cL_law 824 = .ok (.iastore, 1) := by decide +kernel
theorem dL_law_825 : decode cL_law 825 = .ok (.aload 4, 2) := by decide +kernel
theorem dL_law_827 : decode cL_law 827 = .ok (.iload 14, 2) := by decide +kernel
theorem dL_law_829 : decode cL_law 829 = .ok (.bipush (-6), 2) := by decide +kernel
theorem dL_law_831 : decode cL_law 831 = .ok (.iastore, 1) := by decide +kernel
theorem dL_law_832 : decode cL_law 832 = .ok (.iinc 13 1, 3) := by decide +kernel
theorem dL_law_835 : decode cL_law 835 = .ok (.iinc 14 1, 3) := by decide +kernel
theorem dL_law_838 : decode cL_law 838 = .ok (.goto (-80), 3) := by decide +kernel
theorem dL_law_841 : decode cL_law 841 = .ok (.aload_n 1, 1) := by decide +kernel
theorem dL_law_842 : decode cL_law 842 = .ok (.invokevirtual 127, 3) := by decide +kernel
theorem dL_law_845 : decode cL_law 845 = .ok (.iload 13, 2) := by decide +kernel
theorem dL_law_847 : decode cL_law 847 = .ok (.if_icmp .eq 5, 3) := by decide +kernel
theorem dL_law_850 : decode cL_law 850 = .ok (.iconst 0, 1) := by decide +kernel
theorem dL_law_851 : decode cL_law 851 = .ok (.ireturn, 1) := by decide +kernel
theorem dL_law_852 : decode cL_law 852 = .ok (.goto 535, 3) := by decide +kernel
theorem dL_law_855 : decode cL_law 855 = .ok (.iload 10, 2) := by decide +kernel
theorem dL_law_857 : decode cL_law 857 = .ok (.bipush 10, 2) := by decide +kernel
theorem dL_law_859 : decode cL_law 859 = .ok (.if_icmp .ge 124, 3) := by decide +kernel
theorem dL_law_862 : decode cL_law 862 = .ok (.iconst 1, 1) := by decide +kernel
theorem dL_law_863 : decode cL_law 863 = .ok (.iload 9, 2) := by decide +kernel
theorem dL_law_865 : decode cL_law 865 = .ok (.iconst 4, 1) := by decide +kernel
theorem dL_law_866 : decode cL_law 866 = .ok (.ishr, 1) := by decide +kernel
theorem dL_law_867 : decode cL_law 867 = .ok (.iconst 5, 1) := by decide +kernel
theorem dL_law_868 : decode cL_law 868 = .ok (.invokestatic 80, 3) := by decide +kernel
theorem dL_law_871 : decode cL_law 871 = .ok (.iadd, 1) := by decide +kernel
theorem dL_law_872 : decode cL_law 872 = .ok (.istore 13, 2) := by decide +kernel
theorem dL_law_874 : decode cL_law 874 = .ok (.aload_n 2, 1) := by decide +kernel
theorem dL_law_875 : decode cL_law 875 = .ok (.bipush 10, 2) := by decide +kernel
theorem dL_law_877 : decode cL_law 877 = .ok (.iload 13, 2) := by decide +kernel
theorem dL_law_879 : decode cL_law 879 = .ok (.iadd, 1) := by decide +kernel
theorem dL_law_880 : decode cL_law 880 = .ok (.iaload, 1) := by decide +kernel
theorem dL_law_881 : decode cL_law 881 = .ok (.ifCond .lt 7, 3) := by decide +kernel
theorem dL_law_884 : decode cL_law 884 = .ok (.iconst 1, 1) := by decide +kernel
theorem dL_law_885 : decode cL_law 885 = .ok (.goto 4, 3) := by decide +kernel
theorem dL_law_888 : decode cL_law 888 = .ok (.iconst 0, 1) := by decide +kernel
theorem dL_law_889 : decode cL_law 889 = .ok (.istore 14, 2) := by decide +kernel
theorem dL_law_891 : decode cL_law 891 = .ok (.iload 14, 2) := by decide +kernel
theorem dL_law_893 : decode cL_law 893 = .ok (.ifCond .eq 21, 3) := by decide +kernel
theorem dL_law_896 : decode cL_law 896 = .ok (.aload_n 2, 1) := by decide +kernel
theorem dL_law_897 : decode cL_law 897 = .ok (.iconst 2, 1) := by decide +kernel
theorem dL_law_898 : decode cL_law 898 = .ok (.iaload, 1) := by decide +kernel
theorem dL_law_899 : decode cL_law 899 = .ok (.ifCond .ge 15, 3) := by decide +kernel
theorem dL_law_902 : decode cL_law 902 = .ok (.iload 13, 2) := by decide +kernel
theorem dL_law_904 : decode cL_law 904 = .ok (.aload_n 2, 1) := by decide +kernel
theorem dL_law_905 : decode cL_law 905 = .ok (.iconst 1, 1) := by decide +kernel
theorem dL_law_906 : decode cL_law 906 = .ok (.iaload, 1) := by decide +kernel
theorem dL_law_907 : decode cL_law 907 = .ok (.if_icmp .eq 7, 3) := by decide +kernel
theorem dL_law_910 : decode cL_law 910 = .ok (.iconst 1, 1) := by decide +kernel
theorem dL_law_911 : decode cL_law 911 = .ok (.goto 4, 3) := by decide +kernel
theorem dL_law_914 : decode cL_law 914 = .ok (.iconst 0, 1) := by decide +kernel
theorem dL_law_915 : decode cL_law 915 = .ok (.istore 15, 2) := by decide +kernel
theorem dL_law_917 : decode cL_law 917 = .ok (.iload 15, 2) := by decide +kernel
theorem dL_law_919 : decode cL_law 919 = .ok (.ifCond .eq 16, 3) := by decide +kernel
theorem dL_law_922 : decode cL_law 922 = .ok (.aload_n 2, 1) := by decide +kernel
theorem dL_law_923 : decode cL_law 923 = .ok (.iconst 2, 1) := by decide +kernel
theorem dL_law_924 : decode cL_law 924 = .ok (.iload 13, 2) := by decide +kernel
theorem dL_law_926 : decode cL_law 926 = .ok (.iastore, 1) := by decide +kernel
theorem dL_law_927 : decode cL_law 927 = .ok (.aload_n 2, 1) := by decide +kernel
theorem dL_law_928 : decode cL_law 928 = .ok (.iconst 3, 1) := by decide +kernel
theorem dL_law_929 : decode cL_law 929 = .ok (.iconst 0, 1) := by decide +kernel
theorem dL_law_930 : decode cL_law 930 = .ok (.iastore, 1) := by decide +kernel
theorem dL_law_931 : decode cL_law 931 = .ok (.aload_n 2, 1) := by decide +kernel
theorem dL_law_932 : decode cL_law 932 = .ok (.iconst 4, 1) := by decide +kernel
theorem dL_law_933 : decode cL_law 933 = .ok (.iconst 1, 1) := by decide +kernel
theorem dL_law_934 : decode cL_law 934 = .ok (.iastore, 1) := by decide +kernel
theorem dL_law_935 : decode cL_law 935 = .ok (.aload_n 1, 1) := by decide +kernel
theorem dL_law_936 : decode cL_law 936 = .ok (.iload 13, 2) := by decide +kernel
theorem dL_law_938 : decode cL_law 938 = .ok (.invokevirtual 130, 3) := by decide +kernel
theorem dL_law_941 : decode cL_law 941 = .ok (.iload 14, 2) := by decide +kernel
theorem dL_law_943 : decode cL_law 943 = .ok (.ifCond .ne 7, 3) := by decide +kernel
theorem dL_law_946 : decode cL_law 946 = .ok (.iconst (-1), 1) := by decide +kernel
theorem dL_law_947 : decode cL_law 947 = .ok (.goto 28, 3) := by decide +kernel
theorem dL_law_950 : decode cL_law 950 = .ok (.iload 15, 2) := by decide +kernel
theorem dL_law_952 : decode cL_law 952 = .ok (.ifCond .eq 21, 3) := by decide +kernel
theorem dL_law_955 : decode cL_law 955 = .ok (.sipush 999, 3) := by decide +kernel
theorem dL_law_958 : decode cL_law 958 = .ok (.iconst 0, 1) := by decide +kernel
theorem dL_law_959 : decode cL_law 959 = .ok (.aload_n 2, 1) := by decide +kernel
theorem dL_law_960 : decode cL_law 960 = .ok (.aload_n 3, 1) := by decide +kernel
theorem dL_law_961 : decode cL_law 961 = .ok (.aload 4, 2) := by decide +kernel
theorem dL_law_963 : decode cL_law 963 = .ok (.aload 5, 2) := by decide +kernel
theorem dL_law_965 : decode cL_law 965 = .ok (.aload 6, 2) := by decide +kernel
theorem dL_law_967 : decode cL_law 967 = .ok (.invokestatic 102, 3) := by decide +kernel
theorem dL_law_970 : decode cL_law 970 = .ok (.goto 5, 3) := by decide +kernel
theorem dL_law_973 : decode cL_law 973 = .ok (.bipush (-3), 2) := by decide +kernel
theorem dL_law_975 : decode cL_law 975 = .ok (.if_icmp .eq 5, 3) := by decide +kernel
theorem dL_law_978 : decode cL_law 978 = .ok (.iconst 0, 1) := by decide +kernel
theorem dL_law_979 : decode cL_law 979 = .ok (.ireturn, 1) := by decide +kernel
theorem dL_law_980 : decode cL_law 980 = .ok (.goto 407, 3) := by decide +kernel
theorem dL_law_983 : decode cL_law 983 = .ok (.iload 10, 2) := by decide +kernel
theorem dL_law_985 : decode cL_law 985 = .ok (.bipush 14, 2) := by decide +kernel
theorem dL_law_987 : decode cL_law 987 = .ok (.if_icmp .ge 94, 3) := by decide +kernel
theorem dL_law_990 : decode cL_law 990 = .ok (.iconst 1, 1) := by decide +kernel
theorem dL_law_991 : decode cL_law 991 = .ok (.iload 9, 2) := by decide +kernel
theorem dL_law_993 : decode cL_law 993 = .ok (.iload 8, 2) := by decide +kernel
theorem dL_law_995 : decode cL_law 995 = .ok (.iconst 5, 1) := by decide +kernel
theorem dL_law_996 : decode cL_law 996 = .ok (.ishr, 1) := by decide +kernel
theorem dL_law_997 : decode cL_law 997 = .ok (.iconst 4, 1) := by decide +kernel
theorem dL_law_998 : decode cL_law 998 = .ok (.invokestatic 80, 3) := by decide +kernel
theorem dL_law_1001 : decode cL_law 1001 = .ok (.ifCond .ne 8, 3) := by decide +kernel
theorem dL_law_1004 : decode cL_law 1004 = .ok (.bipush 30, 2) := by decide +kernel
theorem dL_law_1006 : decode cL_law 1006 = .ok (.goto 4, 3) := by decide +kernel
theorem dL_law_1009 : decode cL_law 1009 = .ok (.iconst 5, 1) := by decide +kernel
theorem dL_law_1010 : decode cL_law 1010 = .ok (.invokestatic 80, 3) := by decide +kernel
theorem dL_law_1013 : decode cL_law 1013 = .ok (.iadd, 1) := by decide +kernel
theorem dL_law_1014 : decode cL_law 1014 = .ok (.istore 13, 2) := by decide +kernel
theorem dL_law_1016 : decode cL_law 1016 = .ok (.aload_n 2, 1) := by decide +kernel
theorem dL_law_1017 : decode cL_law 1017 = .ok (.iconst 2, 1) := by decide +kernel
theorem dL_law_1018 : decode cL_law 1018 = .ok (.iaload, 1) := by decide +kernel
theorem dL_law_1019 : decode cL_law 1019 = .ok (.ifCond .le 7, 3) := by decide +kernel
theorem dL_law_1022 : decode cL_law 1022 = .ok (.iconst 1, 1) := by decide +kernel
theorem dL_law_1023 : decode cL_law 1023 = .ok (.goto 4, 3) := by decide +kernel
theorem dL_law_1026 : decode cL_law 1026 = .ok (.iconst 0, 1) := by decide +kernel
theorem dL_law_1027 : decode cL_law 1027 = .ok (.istore 14, 2) := by decide +kernel
theorem dL_law_1029 : decode cL_law 1029 = .ok (.iconst 0, 1) := by decide +kernel
theorem dL_law_1030 : decode cL_law 1030 = .ok (.istore 15, 2) := by decide +kernel
theorem dL_law_1032 : decode cL_law 1032 = .ok (.iload 15, 2) := by decide +kernel
theorem dL_law_1034 : decode cL_law 1034 = .ok (.iload 13, 2) := by decide +kernel
theorem dL_law_1036 : decode cL_law 1036 = .ok (.if_icmp .ge 19, 3) := by decide +kernel
theorem dL_law_1039 : decode cL_law 1039 = .ok (.aload_n 2, 1) := by decide +kernel
theorem dL_law_1040 : decode cL_law 1040 = .ok (.aload_n 3, 1) := by decide +kernel
theorem dL_law_1041 : decode cL_law 1041 = .ok (.aload 6, 2) := by decide +kernel
theorem dL_law_1043 : decode cL_law 1043 = .ok (.invokestatic 44, 3) := by decide +kernel
theorem dL_law_1046 : decode cL_law 1046 = .ok (.ifCond .eq 9, 3) := by decide +kernel
theorem dL_law_1049 : decode cL_law 1049 = .ok (.iinc 15 1, 3) := by decide +kernel
theorem dL_law_1052 : decode cL_law 1052 = .ok (.goto (-20), 3) := by decide +kernel
theorem dL_law_1055 : decode cL_law 1055 = .ok (.aload_n 1, 1) := by decide +kernel
theorem dL_law_1056 : decode cL_law 1056 = .ok (.iload 13, 2) := by decide +kernel
theorem dL_law_1058 : decode cL_law 1058 = .ok (.invokevirtual 133, 3) := by decide +kernel
theorem dL_law_1061 : decode cL_law 1061 = .ok (.iload 14, 2) := by decide +kernel
theorem dL_law_1063 : decode cL_law 1063 = .ok (.ifCond .eq 8, 3) := by decide +kernel
theorem dL_law_1066 : decode cL_law 1066 = .ok (.iload 15, 2) := by decide +kernel
theorem dL_law_1068 : decode cL_law 1068 = .ok (.goto 5, 3) := by decide +kernel
theorem dL_law_1071 : decode cL_law 1071 = .ok (.bipush (-3), 2) := by decide +kernel
theorem dL_law_1073 : decode cL_law 1073 = .ok (.if_icmp .eq 5, 3) := by decide +kernel
theorem dL_law_1076 : decode cL_law 1076 = .ok (.iconst 0, 1) := by decide +kernel
theorem dL_law_1077 : decode cL_law 1077 = .ok (.ireturn, 1) := by decide +kernel
theorem dL_law_1078 : decode cL_law 1078 = .ok (.goto 309, 3) := by decide +kernel
theorem dL_law_1081 : decode cL_law 1081 = .ok (.iload 10, 2) := by decide +kernel
theorem dL_law_1083 : decode cL_law 1083 = .ok (.bipush 14, 2) := by decide +kernel
theorem dL_law_1085 : decode cL_law 1085 = .ok (.if_icmp .ne 77, 3) := by decide +kernel
theorem dL_law_1088 : decode cL_law 1088 = .ok (.aload_n 2, 1) := by decide +kernel
theorem dL_law_1089 : decode cL_law 1089 = .ok (.iconst 2, 1) := by decide +kernel
theorem dL_law_1090 : decode cL_law 1090 = .ok (.iaload, 1) := by decide +kernel
theorem dL_law_1091 : decode cL_law 1091 = .ok (.ifCond .le 12, 3) := by decide +kernel
theorem dL_law_1094 : decode cL_law 1094 = .ok (.iload 12, 2) := by decide +kernel
theorem dL_law_1096 : decode cL_law 1096 = .ok (.ifCond .ne 7, 3) := by decide +kernel
theorem dL_law_1099 : decode cL_law 1099 = .ok (.iconst 1, 1) := by decide +kernel
theorem dL_law_1100 : decode cL_law 1100 = .ok (.goto 4, 3) := by decide +kernel
theorem dL_law_1103 : decode cL_law 1103 = .ok (.iconst 0, 1) := by decide +kernel
theorem dL_law_1104 : decode cL_law 1104 = .ok (.istore 13, 2) := by decide +kernel
theorem dL_law_1106 : decode cL_law 1106 = .ok (.iload 13, 2) := by decide +kernel
theorem dL_law_1108 : decode cL_law 1108 = .ok (.ifCond .eq 17, 3) := by decide +kernel
theorem dL_law_1111 : decode cL_law 1111 = .ok (.aload_n 2, 1) := by decide +kernel
theorem dL_law_1112 : decode cL_law 1112 = .ok (.iconst 4, 1) := by decide +kernel
theorem dL_law_1113 : decode cL_law 1113 = .ok (.iconst 1, 1) := by decide +kernel
theorem dL_law_1114 : decode cL_law 1114 = .ok (.aload_n 2, 1) := by decide +kernel
theorem dL_law_1115 : decode cL_law 1115 = .ok (.iconst 4, 1) := by decide +kernel
theorem dL_law_1116 : decode cL_law 1116 = .ok (.iaload, 1) := by decide +kernel
theorem dL_law_1117 : decode cL_law 1117 = .ok (.isub, 1) := by decide +kernel
theorem dL_law_1118 : decode cL_law 1118 = .ok (.iastore, 1) := by decide +kernel
theorem dL_law_1119 : decode cL_law 1119 = .ok (.aload_n 2, 1) := by decide +kernel
theorem dL_law_1120 : decode cL_law 1120 = .ok (.aload 6, 2) := by decide +kernel
theorem dL_law_1122 : decode cL_law 1122 = .ok (.invokestatic 41, 3) := by decide +kernel
theorem dL_law_1125 : decode cL_law 1125 = .ok (.aload_n 1, 1) := by decide +kernel
theorem dL_law_1126 : decode cL_law 1126 = .ok (.invokevirtual 136, 3) := by decide +kernel
theorem dL_law_1129 : decode cL_law 1129 = .ok (.iload 13, 2) := by decide +kernel
theorem dL_law_1131 : decode cL_law 1131 = .ok (.ifCond .eq 21, 3) := by decide +kernel
theorem dL_law_1134 : decode cL_law 1134 = .ok (.sipush 999, 3) := by decide +kernel
theorem dL_law_1137 : decode cL_law 1137 = .ok (.iconst 0, 1) := by decide +kernel
theorem dL_law_1138 : decode cL_law 1138 = .ok (.aload_n 2, 1) := by decide +kernel
theorem dL_law_1139 : decode cL_law 1139 = .ok (.aload_n 3, 1) := by decide +kernel
theorem dL_law_1140 : decode cL_law 1140 = .ok (.aload 4, 2) := by decide +kernel
theorem dL_law_1142 : decode cL_law 1142 = .ok (.aload 5, 2) := by decide +kernel
theorem dL_law_1144 : decode cL_law 1144 = .ok (.aload 6, 2) := by decide +kernel
theorem dL_law_1146 : decode cL_law 1146 = .ok (.invokestatic 102, 3) := by decide +kernel
theorem dL_law_1149 : decode cL_law 1149 = .ok (.goto 5, 3) := by decide +kernel
theorem dL_law_1152 : decode cL_law 1152 = .ok (.bipush (-3), 2) := by decide +kernel
theorem dL_law_1154 : decode cL_law 1154 = .ok (.if_icmp .eq 5, 3) := by decide +kernel
theorem dL_law_1157 : decode cL_law 1157 = .ok (.iconst 0, 1) := by decide +kernel
theorem dL_law_1158 : decode cL_law 1158 = .ok (.ireturn, 1) := by decide +kernel
theorem dL_law_1159 : decode cL_law 1159 = .ok (.goto 228, 3) := by decide +kernel
theorem dL_law_1162 : decode cL_law 1162 = .ok (.iload 10, 2) := by decide +kernel
theorem dL_law_1164 : decode cL_law 1164 = .ok (.bipush 15, 2) := by decide +kernel
theorem dL_law_1166 : decode cL_law 1166 = .ok (.if_icmp .ne 122, 3) := by decide +kernel
theorem dL_law_1169 : decode cL_law 1169 = .ok (.bipush 20, 2) := by decide +kernel
theorem dL_law_1171 : decode cL_law 1171 = .ok (.newarray .int, 2) := by decide +kernel
theorem dL_law_1173 : decode cL_law 1173 = .ok (.astore 13, 2) := by decide +kernel
theorem dL_law_1175 : decode cL_law 1175 = .ok (.iconst 0, 1) := by decide +kernel
theorem dL_law_1176 : decode cL_law 1176 = .ok (.istore 14, 2) := by decide +kernel
theorem dL_law_1178 : decode cL_law 1178 = .ok (.iload 14, 2) := by decide +kernel
theorem dL_law_1180 : decode cL_law 1180 = .ok (.aload_n 2, 1) := by decide +kernel
theorem dL_law_1181 : decode cL_law 1181 = .ok (.iconst 0, 1) := by decide +kernel
theorem dL_law_1182 : decode cL_law 1182 = .ok (.iaload, 1) := by decide +kernel
theorem dL_law_1183 : decode cL_law 1183 = .ok (.if_icmp .ge 37, 3) := by decide +kernel
theorem dL_law_1186 : decode cL_law 1186 = .ok (.aload 13, 2) := by decide +kernel
theorem dL_law_1188 : decode cL_law 1188 = .ok (.iload 14, 2) := by decide +kernel
theorem dL_law_1190 : decode cL_law 1190 = .ok (.aload 4, 2) := by decide +kernel
theorem dL_law_1192 : decode cL_law 1192 = .ok (.iload 14, 2) := by decide +kernel
theorem dL_law_1194 : decode cL_law 1194 = .ok (.iaload, 1) := by decide +kernel
theorem dL_law_1195 : decode cL_law 1195 = .ok (.ifCond .ge 13, 3) := by decide +kernel
theorem dL_law_1198 : decode cL_law 1198 = .ok (.iload 14, 2) := by decide +kernel
theorem dL_law_1200 : decode cL_law 1200 = .ok (.aload_n 2, 1) := by decide +kernel
theorem dL_law_1201 : decode cL_law 1201 = .ok (.aload_n 3, 1) := by decide +kernel
theorem dL_law_1202 : decode cL_law 1202 = .ok (.invokestatic 37, 3) := by decide +kernel
theorem dL_law_1205 : decode cL_law 1205 = .ok (.goto 8, 3) := by decide +kernel
theorem dL_law_1208 : decode cL_law 1208 = .ok (.aload 4, 2) := by decide +kernel
theorem dL_law_1210 : decode cL_law 1210 = .ok (.iload 14, 2) := by decide +kernel
theorem dL_law_1212 : decode cL_law 1212 = .ok (.iaload, 1) := by decide +kernel
theorem dL_law_1213 : decode cL_law 1213 = .ok (.iastore, 1) := by decide +kernel
theorem dL_law_1214 : decode cL_law 1214 = .ok (.iinc 14 1, 3) := by decide +kernel
theorem dL_law_1217 : decode cL_law 1217 = .ok (.goto (-39), 3) := by decide +kernel
theorem dL_law_1220 : decode cL_law 1220 = .ok (.aload_n 2, 1) := by decide +kernel
theorem dL_law_1221 : decode cL_law 1221 = .ok (.aload_n 3, 1) := by decide +kernel
theorem dL_law_1222 : decode cL_law 1222 = .ok (.aload 4, 2) := by decide +kernel
theorem dL_law_1224 : decode cL_law 1224 = .ok (.aload 6, 2) := by decide +kernel
theorem dL_law_1226 : decode cL_law 1226 = .ok (.invokestatic 48, 3) := by decide +kernel
theorem dL_law_1229 : decode cL_law 1229 = .ok (.iconst 0, 1) := by decide +kernel
theorem dL_law_1230 : decode cL_law 1230 = .ok (.istore 14, 2) := by decide +kernel
theorem dL_law_1232 : decode cL_law 1232 = .ok (.iconst 0, 1) := by decide +kernel
theorem dL_law_1233 : decode cL_law 1233 = .ok (.istore 15, 2) := by decide +kernel
theorem dL_law_1235 : decode cL_law 1235 = .ok (.iload 15, 2) := by decide +kernel
theorem dL_law_1237 : decode cL_law 1237 = .ok (.aload_n 2, 1) := by decide +kernel
theorem dL_law_1238 : decode cL_law 1238 = .ok (.iconst 0, 1) := by decide +kernel
theorem dL_law_1239 : decode cL_law 1239 = .ok (.iaload, 1) := by decide +kernel
theorem dL_law_1240 : decode cL_law 1240 = .ok (.if_icmp .ge 34, 3) := by decide +kernel
theorem dL_law_1243 : decode cL_law 1243 = .ok (.iload 14, 2) := by decide +kernel
theorem dL_law_1245 : decode cL_law 1245 = .ok (.aload 13, 2) := by decide +kernel
theorem dL_law_1247 : decode cL_law 1247 = .ok (.iload 15, 2) := by decide +kernel
theorem dL_law_1249 : decode cL_law 1249 = .ok (.iaload, 1) := by decide +kernel
theorem dL_law_1250 : decode cL_law 1250 = .ok (.iload 15, 2) := by decide +kernel
theorem dL_law_1252 : decode cL_law 1252 = .ok (.aload_n 2, 1) := by decide +kernel
theorem dL_law_1253 : decode cL_law 1253 = .ok (.aload_n 3, 1) := by decide +kernel
theorem dL_law_1254 : decode cL_law 1254 = .ok (.invokestatic 37, 3) := by decide +kernel
theorem dL_law_1257 : decode cL_law 1257 = .ok (.if_icmp .ne 7, 3) := by decide +kernel
theorem dL_law_1260 : decode cL_law 1260 = .ok (.iconst 0, 1) := by decide +kernel
theorem dL_law_1261 : decode cL_law 1261 = .ok (.goto 4, 3) := by decide +kernel
theorem dL_law_1264 : decode cL_law 1264 = .ok (.iconst 1, 1) := by decide +kernel
theorem dL_law_1265 : decode cL_law 1265 = .ok (.iadd, 1) := by decide +kernel
theorem dL_law_1266 : decode cL_law 1266 = .ok (.istore 14, 2) := by decide +kernel
theorem dL_law_1268 : decode cL_law 1268 = .ok (.iinc 15 1, 3) := by decide +kernel
theorem dL_law_1271 : decode cL_law 1271 = .ok (.goto (-36), 3) := by decide +kernel
theorem dL_law_1274 : decode cL_law 1274 = .ok (.aload_n 1, 1) := by decide +kernel
theorem dL_law_1275 : decode cL_law 1275 = .ok (.invokevirtual 139, 3) := by decide +kernel
theorem dL_law_1278 : decode cL_law 1278 = .ok (.iload 14, 2) := by decide +kernel
theorem dL_law_1280 : decode cL_law 1280 = .ok (.if_icmp .eq 5, 3) := by decide +kernel
theorem dL_law_1283 : decode cL_law 1283 = .ok (.iconst 0, 1) := by decide +kernel
theorem dL_law_1284 : decode cL_law 1284 = .ok (.ireturn, 1) := by decide +kernel
theorem dL_law_1285 : decode cL_law 1285 = .ok (.goto 102, 3) := by decide +kernel
theorem dL_law_1288 : decode cL_law 1288 = .ok (.iload 10, 2) := by decide +kernel
theorem dL_law_1290 : decode cL_law 1290 = .ok (.bipush 16, 2) := by decide +kernel
theorem dL_law_1292 : decode cL_law 1292 = .ok (.if_icmp .ne 8, 3) := by decide +kernel
theorem dL_law_1295 : decode cL_law 1295 = .ok (.bipush 7, 2) := by decide +kernel
theorem dL_law_1297 : decode cL_law 1297 = .ok (.goto 5, 3) := by decide +kernel
theorem dL_law_1300 : decode cL_law 1300 = .ok (.bipush 8, 2) := by decide +kernel
theorem dL_law_1302 : decode cL_law 1302 = .ok (.istore 13, 2) := by decide +kernel
theorem dL_law_1304 : decode cL_law 1304 = .ok (.iload 10, 2) := by decide +kernel
theorem dL_law_1306 : decode cL_law 1306 = .ok (.bipush 16, 2) := by decide +kernel
theorem dL_law_1308 : decode cL_law 1308 = .ok (.if_icmp .ne 15, 3) := by decide +kernel
theorem dL_law_1311 : decode cL_law 1311 = .ok (.iconst 1, 1) := by decide +kernel
theorem dL_law_1312 : decode cL_law 1312 = .ok (.iload 9, 2) := by decide +kernel
theorem dL_law_1314 : decode cL_law 1314 = .ok (.bipush 8, 2) := by decide +kernel
theorem dL_law_1316 : decode cL_law 1316 = .ok (.invokestatic 80, 3) := by decide +kernel
theorem dL_law_1319 : decode cL_law 1319 = .ok (.iadd, 1) := by decide +kernel
theorem dL_law_1320 : decode cL_law 1320 = .ok (.goto 9, 3) := by decide +kernel
theorem dL_law_1323 : decode cL_law 1323 = .ok (.iload 9, 2) := by decide +kernel
theorem dL_law_1325 : decode cL_law 1325 = .ok (.iconst 2, 1) := by decide +kernel
theorem dL_law_1326 : decode cL_law 1326 = .ok (.invokestatic 80, 3) := by decide +kernel
theorem dL_law_1329 : decode cL_law 1329 = .ok (.istore 14, 2) := by decide +kernel
theorem dL_law_1331 : decode cL_law 1331 = .ok (.iload 10, 2) := by decide +kernel
theorem dL_law_1333 : decode cL_law 1333 = .ok (.bipush 16, 2) := by decide +kernel
theorem dL_law_1335 : decode cL_law 1335 = .ok (.if_icmp .ne 12, 3) := by decide +kernel
theorem dL_law_1338 : decode cL_law 1338 = .ok (.aload_n 1, 1) := by decide +kernel
theorem dL_law_1339 : decode cL_law 1339 = .ok (.iload 14, 2) := by decide +kernel
theorem dL_law_1341 : decode cL_law 1341 = .ok (.invokevirtual 141, 3) := by decide +kernel
theorem dL_law_1344 : decode cL_law 1344 = .ok (.goto 9, 3) := by decide +kernel
theorem dL_law_1347 : decode cL_law 1347 = .ok (.aload_n 1, 1) := by decide +kernel
theorem dL_law_1348 : decode cL_law 1348 = .ok (.iload 14, 2) := by decide +kernel
theorem dL_law_1350 : decode cL_law 1350 = .ok (.invokevirtual 144, 3) := by decide +kernel
theorem dL_law_1353 : decode cL_law 1353 = .ok (.istore 15, 2) := by decide +kernel
theorem dL_law_1355 : decode cL_law 1355 = .ok (.iload 15, 2) := by decide +kernel
theorem dL_law_1357 : decode cL_law 1357 = .ok (.iload 12, 2) := by decide +kernel
theorem dL_law_1359 : decode cL_law 1359 = .ok (.ifCond .eq 8, 3) := by decide +kernel
theorem dL_law_1362 : decode cL_law 1362 = .ok (.bipush (-3), 2) := by decide +kernel
theorem dL_law_1364 : decode cL_law 1364 = .ok (.goto 7, 3) := by decide +kernel
theorem dL_law_1367 : decode cL_law 1367 = .ok (.aload_n 2, 1) := by decide +kernel
theorem dL_law_1368 : decode cL_law 1368 = .ok (.iload 13, 2) := by decide +kernel
theorem dL_law_1370 : decode cL_law 1370 = .ok (.iaload, 1) := by decide +kernel
theorem dL_law_1371 : decode cL_law 1371 = .ok (.if_icmp .eq 5, 3) := by decide +kernel
theorem dL_law_1374 : decode cL_law 1374 = .ok (.iconst 0, 1) := by decide +kernel
theorem dL_law_1375 : decode cL_law 1375 = .ok (.ireturn, 1) := by decide +kernel
theorem dL_law_1376 : decode cL_law 1376 = .ok (.iload 12, 2) := by decide +kernel
theorem dL_law_1378 : decode cL_law 1378 = .ok (.ifCond .ne 9, 3) := by decide +kernel
theorem dL_law_1381 : decode cL_law 1381 = .ok (.aload_n 2, 1) := by decide +kernel
theorem dL_law_1382 : decode cL_law 1382 = .ok (.iload 13, 2) := by decide +kernel
theorem dL_law_1384 : decode cL_law 1384 = .ok (.iload 14, 2) := by decide +kernel
theorem dL_law_1386 : decode cL_law 1386 = .ok (.iastore, 1) := by decide +kernel
theorem dL_law_1387 : decode cL_law 1387 = .ok (.aload_n 1, 1) := by decide +kernel
theorem dL_law_1388 : decode cL_law 1388 = .ok (.iload 9, 2) := by decide +kernel
theorem dL_law_1390 : decode cL_law 1390 = .ok (.iconst 3, 1) := by decide +kernel
theorem dL_law_1391 : decode cL_law 1391 = .ok (.ishr, 1) := by decide +kernel
theorem dL_law_1392 : decode cL_law 1392 = .ok (.aload_n 2, 1) := by decide +kernel
theorem dL_law_1393 : decode cL_law 1393 = .ok (.aload_n 3, 1) := by decide +kernel
theorem dL_law_1394 : decode cL_law 1394 = .ok (.aload 4, 2) := by decide +kernel
theorem dL_law_1396 : decode cL_law 1396 = .ok (.aload 5, 2) := by decide +kernel
theorem dL_law_1398 : decode cL_law 1398 = .ok (.aload 6, 2) := by decide +kernel
theorem dL_law_1400 : decode cL_law 1400 = .ok (.invokestatic 147, 3) := by decide +kernel
theorem dL_law_1403 : decode cL_law 1403 = .ok (.ifCond .ne 5, 3) := by decide +kernel
theorem dL_law_1406 : decode cL_law 1406 = .ok (.iconst 0, 1) := by decide +kernel
theorem dL_law_1407 : decode cL_law 1407 = .ok (.ireturn, 1) := by decide +kernel
theorem dL_law_1408 : decode cL_law 1408 = .ok (.iinc 7 1, 3) := by decide +kernel
theorem dL_law_1411 : decode cL_law 1411 = .ok (.goto (-1272), 3) := by decide +kernel
theorem dL_law_1414 : decode cL_law 1414 = .ok (.iconst 1, 1) := by decide +kernel
theorem dL_law_1415 : decode cL_law 1415 = .ok (.ireturn, 1) := by decide +kernel
