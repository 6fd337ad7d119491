theorem dL_acts_471 : decode cL_acts 471 = .ok (.lcmp, 1) := by decide +kernel
theorem dL_acts_472 : decode cL_acts 472 = .ok (.ifCond .le 20, 3) := by decide +kernel
theorem dL_acts_475 : decode cL_acts 475 = .ok (.aload_n 0, 1) := by decide +kernel
theorem dL_acts_476 : decode cL_acts 476 = .ok (.iload 9, 2) := by decide +kernel
theorem dL_acts_478 : decode cL_acts 478 = .ok (.invokevirtual 59, 3) := by decide +kernel
theorem dL_acts_481 : decode cL_acts 481 = .ok (.ldc 31, 2) := by decide +kernel
theorem dL_acts_483 : decode cL_acts 483 = .ok (.if_icmp .ne 7, 3) := by decide +kernel
theorem dL_acts_486 : decode cL_acts 486 = .ok (.iconst 1, 1) := by decide +kernel
theorem dL_acts_487 : decode cL_acts 487 = .ok (.goto 4, 3) := by decide +kernel
theorem dL_acts_490 : decode cL_acts 490 = .ok (.iconst 0, 1) := by decide +kernel
theorem dL_acts_491 : decode cL_acts 491 = .ok (.ireturn, 1) := by decide +kernel
theorem dL_acts_492 : decode cL_acts 492 = .ok (.aload_n 1, 1) := by decide +kernel
theorem dL_acts_493 : decode cL_acts 493 = .ok (.bipush 7, 2) := by decide +kernel
theorem dL_acts_495 : decode cL_acts 495 = .ok (.lload 12, 2) := by decide +kernel
theorem dL_acts_497 : decode cL_acts 497 = .ok (.l2i, 1) := by decide +kernel
theorem dL_acts_498 : decode cL_acts 498 = .ok (.iastore, 1) := by decide +kernel
theorem dL_acts_499 : decode cL_acts 499 = .ok (.aload_n 0, 1) := by decide +kernel
theorem dL_acts_500 : decode cL_acts 500 = .ok (.iload 9, 2) := by decide +kernel
theorem dL_acts_502 : decode cL_acts 502 = .ok (.invokevirtual 59, 3) := by decide +kernel
theorem dL_acts_505 : decode cL_acts 505 = .ok (.aload_n 1, 1) := by decide +kernel
theorem dL_acts_506 : decode cL_acts 506 = .ok (.bipush 7, 2) := by decide +kernel
theorem dL_acts_508 : decode cL_acts 508 = .ok (.iaload, 1) := by decide +kernel
theorem dL_acts_509 : decode cL_acts 509 = .ok (.if_icmp .ne 7, 3) := by decide +kernel
theorem dL_acts_512 : decode cL_acts 512 = .ok (.iconst 1, 1) := by decide +kernel
theorem dL_acts_513 : decode cL_acts 513 = .ok (.goto 4, 3) := by decide +kernel
theorem dL_acts_516 : decode cL_acts 516 = .ok (.iconst 0, 1) := by decide +kernel
theorem dL_acts_517 : decode cL_acts 517 = .ok (.ireturn, 1) := by decide +kernel
theorem dL_acts_518 : decode cL_acts 518 = .ok (.iload 8, 2) := by decide +kernel
theorem dL_acts_520 : decode cL_acts 520 = .ok (.bipush 22, 2) := by decide +kernel
theorem dL_acts_522 : decode cL_acts 522 = .ok (.if_icmp .ne 90, 3) := by decide +kernel
theorem dL_acts_525 : decode cL_acts 525 = .ok (.iload 7, 2) := by decide +kernel
theorem dL_acts_527 : decode cL_acts 527 = .ok (.aload_n 1, 1) := by decide +kernel
theorem dL_acts_528 : decode cL_acts 528 = .ok (.bipush 14, 2) := by decide +kernel
theorem dL_acts_530 : decode cL_acts 530 = .ok (.iaload, 1) := by decide +kernel
theorem dL_acts_531 : decode cL_acts 531 = .ok (.irem, 1) := by decide +kernel
theorem dL_acts_532 : decode cL_acts 532 = .ok (.istore 9, 2) := by decide +kernel
theorem dL_acts_534 : decode cL_acts 534 = .ok (.aload_n 1, 1) := by decide +kernel
theorem dL_acts_535 : decode cL_acts 535 = .ok (.bipush 14, 2) := by decide +kernel
theorem dL_acts_537 : decode cL_acts 537 = .ok (.iaload, 1) := by decide +kernel
theorem dL_acts_538 : decode cL_acts 538 = .ok (.bipush 8, 2) := by decide +kernel
theorem dL_acts_540 : decode cL_acts 540 = .ok (.if_icmp .ne 20, 3) := by decide +kernel
theorem dL_acts_543 : decode cL_acts 543 = .ok (.aload_n 0, 1) := by decide +kernel
theorem dL_acts_544 : decode cL_acts 544 = .ok (.iload 9, 2) := by decide +kernel
theorem dL_acts_546 : decode cL_acts 546 = .ok (.invokevirtual 71, 3) := by decide +kernel
theorem dL_acts_549 : decode cL_acts 549 = .ok (.ldc 36, 2) := by decide +kernel
theorem dL_acts_551 : decode cL_acts 551 = .ok (.if_icmp .ne 7, 3) := by decide +kernel
theorem dL_acts_554 : decode cL_acts 554 = .ok (.iconst 1, 1) := by decide +kernel
theorem dL_acts_555 : decode cL_acts 555 = .ok (.goto 4, 3) := by decide +kernel
theorem dL_acts_558 : decode cL_acts 558 = .ok (.iconst 0, 1) := by decide +kernel
theorem dL_acts_559 : decode cL_acts 559 = .ok (.ireturn, 1) := by decide +kernel
theorem dL_acts_560 : decode cL_acts 560 = .ok (.aload 5, 2) := by decide +kernel
theorem dL_acts_562 : decode cL_acts 562 = .ok (.iconst 2, 1) := by decide +kernel
theorem dL_acts_563 : decode cL_acts 563 = .ok (.aload_n 1, 1) := by decide +kernel
theorem dL_acts_564 : decode cL_acts 564 = .ok (.bipush 14, 2) := by decide +kernel
theorem dL_acts_566 : decode cL_acts 566 = .ok (.iaload, 1) := by decide +kernel
theorem dL_acts_567 : decode cL_acts 567 = .ok (.imul, 1) := by decide +kernel
theorem dL_acts_568 : decode cL_acts 568 = .ok (.iload 9, 2) := by decide +kernel
theorem dL_acts_570 : decode cL_acts 570 = .ok (.iastore, 1) := by decide +kernel
theorem dL_acts_571 : decode cL_acts 571 = .ok (.aload 5, 2) := by decide +kernel
theorem dL_acts_573 : decode cL_acts 573 = .ok (.iconst 2, 1) := by decide +kernel
theorem dL_acts_574 : decode cL_acts 574 = .ok (.aload_n 1, 1) := by decide +kernel
theorem dL_acts_575 : decode cL_acts 575 = .ok (.bipush 14, 2) := by decide +kernel
theorem dL_acts_577 : decode cL_acts 577 = .ok (.iaload, 1) := by decide +kernel
theorem dL_acts_578 : decode cL_acts 578 = .ok (.imul, 1) := by decide +kernel
theorem dL_acts_579 : decode cL_acts 579 = .ok (.iconst 1, 1) := by decide +kernel
theorem dL_acts_580 : decode cL_acts 580 = .ok (.iadd, 1) := by decide +kernel
theorem dL_acts_581 : decode cL_acts 581 = .ok (.iconst 0, 1) := by decide +kernel
theorem dL_acts_582 : decode cL_acts 582 = .ok (.iastore, 1) := by decide +kernel
theorem dL_acts_583 : decode cL_acts 583 = .ok (.aload_n 1, 1) := by decide +kernel
theorem dL_acts_584 : decode cL_acts 584 = .ok (.bipush 14, 2) := by decide +kernel
theorem dL_acts_586 : decode cL_acts 586 = .ok (.dup2, 1) := by decide +kernel
theorem dL_acts_587 : decode cL_acts 587 = .ok (.iaload, 1) := by decide +kernel
theorem dL_acts_588 : decode cL_acts 588 = .ok (.iconst 1, 1) := by decide +kernel
theorem dL_acts_589 : decode cL_acts 589 = .ok (.iadd, 1) := by decide +kernel
theorem dL_acts_590 : decode cL_acts 590 = .ok (.iastore, 1) := by decide +kernel
theorem dL_acts_591 : decode cL_acts 591 = .ok (.aload_n 0, 1) := by decide +kernel
theorem dL_acts_592 : decode cL_acts 592 = .ok (.iload 9, 2) := by decide +kernel
theorem dL_acts_594 : decode cL_acts 594 = .ok (.invokevirtual 71, 3) := by decide +kernel
theorem dL_acts_597 : decode cL_acts 597 = .ok (.aload_n 1, 1) := by decide +kernel
theorem dL_acts_598 : decode cL_acts 598 = .ok (.bipush 14, 2) := by decide +kernel
theorem dL_acts_600 : decode cL_acts 600 = .ok (.iaload, 1) := by decide +kernel
theorem dL_acts_601 : decode cL_acts 601 = .ok (.iconst 1, 1) := by decide +kernel
theorem dL_acts_602 : decode cL_acts 602 = .ok (.isub, 1) := by decide +kernel
theorem dL_acts_603 : decode cL_acts 603 = .ok (.if_icmp .ne 7, 3) := by decide +kernel
theorem dL_acts_606 : decode cL_acts 606 = .ok (.iconst 1, 1) := by decide +kernel
theorem dL_acts_607 : decode cL_acts 607 = .ok (.goto 4, 3) := by decide +kernel
theorem dL_acts_610 : decode cL_acts 610 = .ok (.iconst 0, 1) := by decide +kernel
theorem dL_acts_611 : decode cL_acts 611 = .ok (.ireturn, 1) := by decide +kernel
theorem dL_acts_612 : decode cL_acts 612 = .ok (.iload 8, 2) := by decide +kernel
theorem dL_acts_614 : decode cL_acts 614 = .ok (.bipush 23, 2) := by decide +kernel
theorem dL_acts_616 : decode cL_acts 616 = .ok (.if_icmp .ne 62, 3) := by decide +kernel
theorem dL_acts_619 : decode cL_acts 619 = .ok (.aload 5, 2) := by decide +kernel
theorem dL_acts_621 : decode cL_acts 621 = .ok (.bipush 16, 2) := by decide +kernel
theorem dL_acts_623 : decode cL_acts 623 = .ok (.iload 7, 2) := by decide +kernel
theorem dL_acts_625 : decode cL_acts 625 = .ok (.iconst 4, 1) := by decide +kernel
theorem dL_acts_626 : decode cL_acts 626 = .ok (.irem, 1) := by decide +kernel
theorem dL_acts_627 : decode cL_acts 627 = .ok (.iadd, 1) := by decide +kernel
theorem dL_acts_628 : decode cL_acts 628 = .ok (.iaload, 1) := by decide +kernel
theorem dL_acts_629 : decode cL_acts 629 = .ok (.istore 9, 2) := by decide +kernel
theorem dL_acts_631 : decode cL_acts 631 = .ok (.aload 5, 2) := by decide +kernel
theorem dL_acts_633 : decode cL_acts 633 = .ok (.bipush 16, 2) := by decide +kernel
theorem dL_acts_635 : decode cL_acts 635 = .ok (.iload 7, 2) := by decide +kernel
theorem dL_acts_637 : decode cL_acts 637 = .ok (.iconst 4, 1) := by decide +kernel
theorem dL_acts_638 : decode cL_acts 638 = .ok (.irem, 1) := by decide +kernel
theorem dL_acts_639 : decode cL_acts 639 = .ok (.iadd, 1) := by decide +kernel
theorem dL_acts_640 : decode cL_acts 640 = .ok (.iload 7, 2) := by decide +kernel
theorem dL_acts_642 : decode cL_acts 642 = .ok (.iconst 4, 1) := by decide +kernel
theorem dL_acts_643 : decode cL_acts 643 = .ok (.idiv, 1) := by decide +kernel
theorem dL_acts_644 : decode cL_acts 644 = .ok (.aload_n 1, 1) := by decide +kernel
theorem dL_acts_645 : decode cL_acts 645 = .ok (.bipush 14, 2) := by decide +kernel
theorem dL_acts_647 : decode cL_acts 647 = .ok (.iaload, 1) := by decide +kernel
theorem dL_acts_648 : decode cL_acts 648 = .ok (.irem, 1) := by decide +kernel
theorem dL_acts_649 : decode cL_acts 649 = .ok (.iastore, 1) := by decide +kernel
theorem dL_acts_650 : decode cL_acts 650 = .ok (.aload_n 0, 1) := by decide +kernel
theorem dL_acts_651 : decode cL_acts 651 = .ok (.iload 7, 2) := by decide +kernel
theorem dL_acts_653 : decode cL_acts 653 = .ok (.iconst 4, 1) := by decide +kernel
theorem dL_acts_654 : decode cL_acts 654 = .ok (.irem, 1) := by decide +kernel
theorem dL_acts_655 : decode cL_acts 655 = .ok (.iload 7, 2) := by decide +kernel
theorem dL_acts_657 : decode cL_acts 657 = .ok (.iconst 4, 1) := by decide +kernel
theorem dL_acts_658 : decode cL_acts 658 = .ok (.idiv, 1) := by decide +kernel
theorem dL_acts_659 : decode cL_acts 659 = .ok (.aload_n 1, 1) := by decide +kernel
theorem dL_acts_660 : decode cL_acts 660 = .ok (.bipush 14, 2) := by decide +kernel
theorem dL_acts_662 : decode cL_acts 662 = .ok (.iaload, 1) := by decide +kernel
theorem dL_acts_663 : decode cL_acts 663 = .ok (.irem, 1) := by decide +kernel
theorem dL_acts_664 : decode cL_acts 664 = .ok (.invokevirtual 74, 3) := by decide +kernel
theorem dL_acts_667 : decode cL_acts 667 = .ok (.iload 9, 2) := by decide +kernel
theorem dL_acts_669 : decode cL_acts 669 = .ok (.if_icmp .ne 7, 3) := by decide +kernel
theorem dL_acts_672 : decode cL_acts 672 = .ok (.iconst 1, 1) := by decide +kernel
theorem dL_acts_673 : decode cL_acts 673 = .ok (.goto 4, 3) := by decide +kernel
theorem dL_acts_676 : decode cL_acts 676 = .ok (.iconst 0, 1) := by decide +kernel
theorem dL_acts_677 : decode cL_acts 677 = .ok (.ireturn, 1) := by decide +kernel
theorem dL_acts_678 : decode cL_acts 678 = .ok (.iload 7, 2) := by decide +kernel
theorem dL_acts_680 : decode cL_acts 680 = .ok (.iconst 3, 1) := by decide +kernel
theorem dL_acts_681 : decode cL_acts 681 = .ok (.irem, 1) := by decide +kernel
theorem dL_acts_682 : decode cL_acts 682 = .ok (.istore 9, 2) := by decide +kernel
theorem dL_acts_684 : decode cL_acts 684 = .ok (.aload_n 1, 1) := by decide +kernel
theorem dL_acts_685 : decode cL_acts 685 = .ok (.bipush 18, 2) := by decide +kernel
theorem dL_acts_687 : decode cL_acts 687 = .ok (.iload 9, 2) := by decide +kernel
theorem dL_acts_689 : decode cL_acts 689 = .ok (.iadd, 1) := by decide +kernel
theorem dL_acts_690 : decode cL_acts 690 = .ok (.iaload, 1) := by decide +kernel
theorem dL_acts_691 : decode cL_acts 691 = .ok (.istore 10, 2) := by decide +kernel
theorem dL_acts_693 : decode cL_acts 693 = .ok (.aload_n 1, 1) := by decide +kernel
theorem dL_acts_694 : decode cL_acts 694 = .ok (.bipush 18, 2) := by decide +kernel
theorem dL_acts_696 : decode cL_acts 696 = .ok (.iload 9, 2) := by decide +kernel
theorem dL_acts_698 : decode cL_acts 698 = .ok (.iadd, 1) := by decide +kernel
theorem dL_acts_699 : decode cL_acts 699 = .ok (.iload 9, 2) := by decide +kernel
theorem dL_acts_701 : decode cL_acts 701 = .ok (.ifCond .ne 16, 3) := by decide +kernel
theorem dL_acts_704 : decode cL_acts 704 = .ok (.iconst 1, 1) := by decide +kernel
theorem dL_acts_705 : decode cL_acts 705 = .ok (.iload 7, 2) := by decide +kernel
theorem dL_acts_707 : decode cL_acts 707 = .ok (.iconst 3, 1) := by decide +kernel
theorem dL_acts_708 : decode cL_acts 708 = .ok (.idiv, 1) := by decide +kernel
theorem dL_acts_709 : decode cL_acts 709 = .ok (.sipush 300, 3) := by decide +kernel
theorem dL_acts_712 : decode cL_acts 712 = .ok (.irem, 1) := by decide +kernel
theorem dL_acts_713 : decode cL_acts 713 = .ok (.iadd, 1) := by decide +kernel
theorem dL_acts_714 : decode cL_acts 714 = .ok (.goto 31, 3) := by decide +kernel
theorem dL_acts_717 : decode cL_acts 717 = .ok (.iload 9, 2) := by decide +kernel
theorem dL_acts_719 : decode cL_acts 719 = .ok (.iconst 1, 1) := by decide +kernel
theorem dL_acts_720 : decode cL_acts 720 = .ok (.if_icmp .ne 15, 3) := by decide +kernel
theorem dL_acts_723 : decode cL_acts 723 = .ok (.iconst 1, 1) := by decide +kernel
theorem dL_acts_724 : decode cL_acts 724 = .ok (.iload 7, 2) := by decide +kernel
theorem dL_acts_726 : decode cL_acts 726 = .ok (.iconst 3, 1) := by decide +kernel
theorem dL_acts_727 : decode cL_acts 727 = .ok (.idiv, 1) := by decide +kernel
theorem dL_acts_728 : decode cL_acts 728 = .ok (.bipush 40, 2) := by decide +kernel
theorem dL_acts_730 : decode cL_acts 730 = .ok (.irem, 1) := by decide +kernel
theorem dL_acts_731 : decode cL_acts 731 = .ok (.iadd, 1) := by decide +kernel
theorem dL_acts_732 : decode cL_acts 732 = .ok (.goto 13, 3) := by decide +kernel
theorem dL_acts_735 : decode cL_acts 735 = .ok (.iload 7, 2) := by decide +kernel
theorem dL_acts_737 : decode cL_acts 737 = .ok (.iconst 3, 1) := by decide +kernel
theorem dL_acts_738 : decode cL_acts 738 = .ok (.idiv, 1) := by decide +kernel
theorem dL_acts_739 : decode cL_acts 739 = .ok (.bipush 19, 2) := by decide +kernel
theorem dL_acts_741 : decode cL_acts 741 = .ok (.irem, 1) := by decide +kernel
theorem dL_acts_742 : decode cL_acts 742 = .ok (.bipush 9, 2) := by decide +kernel
theorem dL_acts_744 : decode cL_acts 744 = .ok (.isub, 1) := by decide +kernel
theorem dL_acts_745 : decode cL_acts 745 = .ok (.iastore, 1) := by decide +kernel
theorem dL_acts_746 : decode cL_acts 746 = .ok (.aload_n 0, 1) := by decide +kernel
theorem dL_acts_747 : decode cL_acts 747 = .ok (.iload 9, 2) := by decide +kernel
theorem dL_acts_749 : decode cL_acts 749 = .ok (.aload_n 1, 1) := by decide +kernel
theorem dL_acts_750 : decode cL_acts 750 = .ok (.bipush 18, 2) := by decide +kernel
theorem dL_acts_752 : decode cL_acts 752 = .ok (.iload 9, 2) := by decide +kernel
theorem dL_acts_754 : decode cL_acts 754 = .ok (.iadd, 1) := by decide +kernel
theorem dL_acts_755 : decode cL_acts 755 = .ok (.iaload, 1) := by decide +kernel
theorem dL_acts_756 : decode cL_acts 756 = .ok (.invokevirtual 77, 3) := by decide +kernel
theorem dL_acts_759 : decode cL_acts 759 = .ok (.iload 10, 2) := by decide +kernel
theorem dL_acts_761 : decode cL_acts 761 = .ok (.if_icmp .ne 7, 3) := by decide +kernel
theorem dL_acts_764 : decode cL_acts 764 = .ok (.iconst 1, 1) := by decide +kernel
theorem dL_acts_765 : decode cL_acts 765 = .ok (.goto 4, 3) := by decide +kernel
theorem dL_acts_768 : decode cL_acts 768 = .ok (.iconst 0, 1) := by decide +kernel
theorem dL_acts_769 : decode cL_acts 769 = .ok (.ireturn, 1) := by decide +kernel
theorem dL_areBins_0 : decode cL_areBins 0 = .ok (.aload_n 0, 1) := by decide +kernel
theorem dL_areBins_1 : decode cL_areBins 1 = .ok (.aload_n 1, 1) := by decide +kernel
theorem dL_areBins_2 : decode cL_areBins 2 = .ok (.bipush 12, 2) := by decide +kernel
theorem dL_areBins_4 : decode cL_areBins 4 = .ok (.iaload, 1) := by decide +kernel
theorem dL_areBins_5 : decode cL_areBins 5 = .ok (.iconst 0, 1) := by decide +kernel
theorem dL_areBins_6 : decode cL_areBins 6 = .ok (.invokevirtual 80, 3) := by decide +kernel
theorem dL_areBins_9 : decode cL_areBins 9 = .ok (.ldc 62, 2) := by decide +kernel
theorem dL_areBins_11 : decode cL_areBins 11 = .ok (.if_icmp .ne 18, 3) := by decide +kernel
theorem dL_areBins_14 : decode cL_areBins 14 = .ok (.aload_n 0, 1) := by decide +kernel
theorem dL_areBins_15 : decode cL_areBins 15 = .ok (.iconst (-1), 1) := by decide +kernel
theorem dL_areBins_16 : decode cL_areBins 16 = .ok (.iconst 0, 1) := by decide +kernel
theorem dL_areBins_17 : decode cL_areBins 17 = .ok (.invokevirtual 80, 3) := by decide +kernel
theorem dL_areBins_20 : decode cL_areBins 20 = .ok (.ldc 62, 2) := by decide +kernel
theorem dL_areBins_22 : decode cL_areBins 22 = .ok (.if_icmp .ne 7, 3) := by decide +kernel
theorem dL_areBins_25 : decode cL_areBins 25 = .ok (.iconst 1, 1) := by decide +kernel
theorem dL_areBins_26 : decode cL_areBins 26 = .ok (.goto 4, 3) := by decide +kernel
theorem dL_areBins_29 : decode cL_areBins 29 = .ok (.iconst 0, 1) := by decide +kernel
theorem dL_areBins_30 : decode cL_areBins 30 = .ok (.istore_n 3, 1) := by decide +kernel
theorem dL_areBins_31 : decode cL_areBins 31 = .ok (.iconst 0, 1) := by decide +kernel
theorem dL_areBins_32 : decode cL_areBins 32 = .ok (.istore 4, 2) := by decide +kernel
theorem dL_areBins_34 : decode cL_areBins 34 = .ok (.iload 4, 2) := by decide +kernel
theorem dL_areBins_36 : decode cL_areBins 36 = .ok (.aload_n 1, 1) := by decide +kernel
theorem dL_areBins_37 : decode cL_areBins 37 = .ok (.bipush 12, 2) := by decide +kernel
theorem dL_areBins_39 : decode cL_areBins 39 = .ok (.iaload, 1) := by decide +kernel
