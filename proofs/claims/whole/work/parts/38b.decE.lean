/-! The law's decode rows, 2 of 4. -/
theorem d_Law_law_463 : decode b_Law_law 463 = .ok (.lcmp, 1) := by decide +kernel
theorem d_Law_law_464 : decode b_Law_law 464 = .ok (.ifCond .eq 5, 3) := by decide +kernel
theorem d_Law_law_469 : decode b_Law_law 469 = .ok (.goto 1179, 3) := by decide +kernel
theorem d_Law_law_472 : decode b_Law_law 472 = .ok (.aload_n 1, 1) := by decide +kernel
theorem d_Law_law_473 : decode b_Law_law 473 = .ok (.aload_n 0, 1) := by decide +kernel
theorem d_Law_law_474 : decode b_Law_law 474 = .ok (.iload 4, 2) := by decide +kernel
theorem d_Law_law_476 : decode b_Law_law 476 = .ok (.iconst 1, 1) := by decide +kernel
theorem d_Law_law_477 : decode b_Law_law 477 = .ok (.iadd, 1) := by decide +kernel
theorem d_Law_law_478 : decode b_Law_law 478 = .ok (.iaload, 1) := by decide +kernel
theorem d_Law_law_479 : decode b_Law_law 479 = .ok (.aload_n 0, 1) := by decide +kernel
theorem d_Law_law_480 : decode b_Law_law 480 = .ok (.iload 4, 2) := by decide +kernel
theorem d_Law_law_482 : decode b_Law_law 482 = .ok (.iconst 2, 1) := by decide +kernel
theorem d_Law_law_483 : decode b_Law_law 483 = .ok (.iadd, 1) := by decide +kernel
theorem d_Law_law_484 : decode b_Law_law 484 = .ok (.iaload, 1) := by decide +kernel
theorem d_Law_law_485 : decode b_Law_law 485 = .ok (.aload_n 3, 1) := by decide +kernel
theorem d_Law_law_486 : decode b_Law_law 486 = .ok (.invokestatic 112, 3) := by decide +kernel
theorem d_Law_law_489 : decode b_Law_law 489 = .ok (.istore 5, 2) := by decide +kernel
theorem d_Law_law_491 : decode b_Law_law 491 = .ok (.aload_n 2, 1) := by decide +kernel
theorem d_Law_law_492 : decode b_Law_law 492 = .ok (.aload_n 0, 1) := by decide +kernel
theorem d_Law_law_493 : decode b_Law_law 493 = .ok (.iload 4, 2) := by decide +kernel
theorem d_Law_law_495 : decode b_Law_law 495 = .ok (.iconst 1, 1) := by decide +kernel
theorem d_Law_law_496 : decode b_Law_law 496 = .ok (.iadd, 1) := by decide +kernel
theorem d_Law_law_497 : decode b_Law_law 497 = .ok (.iaload, 1) := by decide +kernel
theorem d_Law_law_498 : decode b_Law_law 498 = .ok (.aload_n 0, 1) := by decide +kernel
theorem d_Law_law_499 : decode b_Law_law 499 = .ok (.iload 4, 2) := by decide +kernel
theorem d_Law_law_501 : decode b_Law_law 501 = .ok (.iconst 2, 1) := by decide +kernel
theorem d_Law_law_502 : decode b_Law_law 502 = .ok (.iadd, 1) := by decide +kernel
theorem d_Law_law_503 : decode b_Law_law 503 = .ok (.iaload, 1) := by decide +kernel
theorem d_Law_law_504 : decode b_Law_law 504 = .ok (.invokevirtual 114, 3) := by decide +kernel
theorem d_Law_law_507 : decode b_Law_law 507 = .ok (.istore 6, 2) := by decide +kernel
theorem d_Law_law_509 : decode b_Law_law 509 = .ok (.aload_n 2, 1) := by decide +kernel
theorem d_Law_law_510 : decode b_Law_law 510 = .ok (.invokevirtual 97, 3) := by decide +kernel
theorem d_Law_law_513 : decode b_Law_law 513 = .ok (.iload 5, 2) := by decide +kernel
theorem d_Law_law_515 : decode b_Law_law 515 = .ok (.if_icmp .eq 5, 3) := by decide +kernel
theorem d_Law_law_520 : decode b_Law_law 520 = .ok (.iload 5, 2) := by decide +kernel
theorem d_Law_law_522 : decode b_Law_law 522 = .ok (.ifCond .ne 15, 3) := by decide +kernel
theorem d_Law_law_525 : decode b_Law_law 525 = .ok (.aload_n 3, 1) := by decide +kernel
theorem d_Law_law_526 : decode b_Law_law 526 = .ok (.iconst 0, 1) := by decide +kernel
theorem d_Law_law_527 : decode b_Law_law 527 = .ok (.laload, 1) := by decide +kernel
theorem d_Law_law_528 : decode b_Law_law 528 = .ok (.iload 6, 2) := by decide +kernel
theorem d_Law_law_530 : decode b_Law_law 530 = .ok (.i2l, 1) := by decide +kernel
theorem d_Law_law_531 : decode b_Law_law 531 = .ok (.lcmp, 1) := by decide +kernel
theorem d_Law_law_532 : decode b_Law_law 532 = .ok (.ifCond .eq 5, 3) := by decide +kernel
theorem d_Law_law_537 : decode b_Law_law 537 = .ok (.goto 1111, 3) := by decide +kernel
theorem d_Law_law_540 : decode b_Law_law 540 = .ok (.aload_n 1, 1) := by decide +kernel
theorem d_Law_law_541 : decode b_Law_law 541 = .ok (.aload_n 0, 1) := by decide +kernel
theorem d_Law_law_542 : decode b_Law_law 542 = .ok (.iload 4, 2) := by decide +kernel
theorem d_Law_law_544 : decode b_Law_law 544 = .ok (.iconst 1, 1) := by decide +kernel
theorem d_Law_law_545 : decode b_Law_law 545 = .ok (.iadd, 1) := by decide +kernel
theorem d_Law_law_546 : decode b_Law_law 546 = .ok (.iaload, 1) := by decide +kernel
theorem d_Law_law_547 : decode b_Law_law 547 = .ok (.aload_n 0, 1) := by decide +kernel
theorem d_Law_law_548 : decode b_Law_law 548 = .ok (.iload 4, 2) := by decide +kernel
theorem d_Law_law_550 : decode b_Law_law 550 = .ok (.iconst 2, 1) := by decide +kernel
theorem d_Law_law_551 : decode b_Law_law 551 = .ok (.iadd, 1) := by decide +kernel
theorem d_Law_law_552 : decode b_Law_law 552 = .ok (.iaload, 1) := by decide +kernel
theorem d_Law_law_553 : decode b_Law_law 553 = .ok (.aload_n 3, 1) := by decide +kernel
theorem d_Law_law_554 : decode b_Law_law 554 = .ok (.invokestatic 115, 3) := by decide +kernel
theorem d_Law_law_557 : decode b_Law_law 557 = .ok (.istore 5, 2) := by decide +kernel
theorem d_Law_law_559 : decode b_Law_law 559 = .ok (.aload_n 2, 1) := by decide +kernel
theorem d_Law_law_560 : decode b_Law_law 560 = .ok (.aload_n 0, 1) := by decide +kernel
theorem d_Law_law_561 : decode b_Law_law 561 = .ok (.iload 4, 2) := by decide +kernel
theorem d_Law_law_563 : decode b_Law_law 563 = .ok (.iconst 1, 1) := by decide +kernel
theorem d_Law_law_564 : decode b_Law_law 564 = .ok (.iadd, 1) := by decide +kernel
theorem d_Law_law_565 : decode b_Law_law 565 = .ok (.iaload, 1) := by decide +kernel
theorem d_Law_law_566 : decode b_Law_law 566 = .ok (.aload_n 0, 1) := by decide +kernel
theorem d_Law_law_567 : decode b_Law_law 567 = .ok (.iload 4, 2) := by decide +kernel
theorem d_Law_law_569 : decode b_Law_law 569 = .ok (.iconst 2, 1) := by decide +kernel
theorem d_Law_law_570 : decode b_Law_law 570 = .ok (.iadd, 1) := by decide +kernel
theorem d_Law_law_571 : decode b_Law_law 571 = .ok (.iaload, 1) := by decide +kernel
theorem d_Law_law_572 : decode b_Law_law 572 = .ok (.invokevirtual 117, 3) := by decide +kernel
theorem d_Law_law_575 : decode b_Law_law 575 = .ok (.istore 6, 2) := by decide +kernel
theorem d_Law_law_577 : decode b_Law_law 577 = .ok (.aload_n 2, 1) := by decide +kernel
theorem d_Law_law_578 : decode b_Law_law 578 = .ok (.invokevirtual 97, 3) := by decide +kernel
theorem d_Law_law_581 : decode b_Law_law 581 = .ok (.iload 5, 2) := by decide +kernel
theorem d_Law_law_583 : decode b_Law_law 583 = .ok (.if_icmp .eq 5, 3) := by decide +kernel
theorem d_Law_law_588 : decode b_Law_law 588 = .ok (.iload 5, 2) := by decide +kernel
theorem d_Law_law_590 : decode b_Law_law 590 = .ok (.ifCond .ne 15, 3) := by decide +kernel
theorem d_Law_law_593 : decode b_Law_law 593 = .ok (.aload_n 3, 1) := by decide +kernel
theorem d_Law_law_594 : decode b_Law_law 594 = .ok (.iconst 0, 1) := by decide +kernel
theorem d_Law_law_595 : decode b_Law_law 595 = .ok (.laload, 1) := by decide +kernel
theorem d_Law_law_596 : decode b_Law_law 596 = .ok (.iload 6, 2) := by decide +kernel
theorem d_Law_law_598 : decode b_Law_law 598 = .ok (.i2l, 1) := by decide +kernel
theorem d_Law_law_599 : decode b_Law_law 599 = .ok (.lcmp, 1) := by decide +kernel
theorem d_Law_law_600 : decode b_Law_law 600 = .ok (.ifCond .eq 5, 3) := by decide +kernel
theorem d_Law_law_605 : decode b_Law_law 605 = .ok (.goto 1043, 3) := by decide +kernel
theorem d_Law_law_608 : decode b_Law_law 608 = .ok (.aload_n 1, 1) := by decide +kernel
theorem d_Law_law_609 : decode b_Law_law 609 = .ok (.aload_n 0, 1) := by decide +kernel
theorem d_Law_law_610 : decode b_Law_law 610 = .ok (.iload 4, 2) := by decide +kernel
theorem d_Law_law_612 : decode b_Law_law 612 = .ok (.iconst 1, 1) := by decide +kernel
theorem d_Law_law_613 : decode b_Law_law 613 = .ok (.iadd, 1) := by decide +kernel
theorem d_Law_law_614 : decode b_Law_law 614 = .ok (.iaload, 1) := by decide +kernel
theorem d_Law_law_615 : decode b_Law_law 615 = .ok (.aload_n 3, 1) := by decide +kernel
theorem d_Law_law_616 : decode b_Law_law 616 = .ok (.invokestatic 118, 3) := by decide +kernel
theorem d_Law_law_619 : decode b_Law_law 619 = .ok (.istore 5, 2) := by decide +kernel
theorem d_Law_law_621 : decode b_Law_law 621 = .ok (.aload_n 2, 1) := by decide +kernel
theorem d_Law_law_622 : decode b_Law_law 622 = .ok (.aload_n 0, 1) := by decide +kernel
theorem d_Law_law_623 : decode b_Law_law 623 = .ok (.iload 4, 2) := by decide +kernel
theorem d_Law_law_625 : decode b_Law_law 625 = .ok (.iconst 1, 1) := by decide +kernel
theorem d_Law_law_626 : decode b_Law_law 626 = .ok (.iadd, 1) := by decide +kernel
theorem d_Law_law_627 : decode b_Law_law 627 = .ok (.iaload, 1) := by decide +kernel
theorem d_Law_law_628 : decode b_Law_law 628 = .ok (.invokevirtual 121, 3) := by decide +kernel
theorem d_Law_law_631 : decode b_Law_law 631 = .ok (.istore 6, 2) := by decide +kernel
theorem d_Law_law_633 : decode b_Law_law 633 = .ok (.aload_n 2, 1) := by decide +kernel
theorem d_Law_law_634 : decode b_Law_law 634 = .ok (.invokevirtual 97, 3) := by decide +kernel
theorem d_Law_law_637 : decode b_Law_law 637 = .ok (.iload 5, 2) := by decide +kernel
theorem d_Law_law_639 : decode b_Law_law 639 = .ok (.if_icmp .eq 5, 3) := by decide +kernel
theorem d_Law_law_644 : decode b_Law_law 644 = .ok (.iload 5, 2) := by decide +kernel
theorem d_Law_law_646 : decode b_Law_law 646 = .ok (.ifCond .ne 15, 3) := by decide +kernel
theorem d_Law_law_649 : decode b_Law_law 649 = .ok (.aload_n 3, 1) := by decide +kernel
theorem d_Law_law_650 : decode b_Law_law 650 = .ok (.iconst 0, 1) := by decide +kernel
theorem d_Law_law_651 : decode b_Law_law 651 = .ok (.laload, 1) := by decide +kernel
theorem d_Law_law_652 : decode b_Law_law 652 = .ok (.iload 6, 2) := by decide +kernel
theorem d_Law_law_654 : decode b_Law_law 654 = .ok (.i2l, 1) := by decide +kernel
theorem d_Law_law_655 : decode b_Law_law 655 = .ok (.lcmp, 1) := by decide +kernel
theorem d_Law_law_656 : decode b_Law_law 656 = .ok (.ifCond .eq 5, 3) := by decide +kernel
theorem d_Law_law_661 : decode b_Law_law 661 = .ok (.goto 987, 3) := by decide +kernel
theorem d_Law_law_664 : decode b_Law_law 664 = .ok (.aload_n 1, 1) := by decide +kernel
theorem d_Law_law_665 : decode b_Law_law 665 = .ok (.aload_n 0, 1) := by decide +kernel
theorem d_Law_law_666 : decode b_Law_law 666 = .ok (.iload 4, 2) := by decide +kernel
theorem d_Law_law_668 : decode b_Law_law 668 = .ok (.iconst 1, 1) := by decide +kernel
theorem d_Law_law_669 : decode b_Law_law 669 = .ok (.iadd, 1) := by decide +kernel
theorem d_Law_law_670 : decode b_Law_law 670 = .ok (.iaload, 1) := by decide +kernel
theorem d_Law_law_671 : decode b_Law_law 671 = .ok (.aload_n 3, 1) := by decide +kernel
theorem d_Law_law_672 : decode b_Law_law 672 = .ok (.invokestatic 122, 3) := by decide +kernel
theorem d_Law_law_675 : decode b_Law_law 675 = .ok (.istore 5, 2) := by decide +kernel
theorem d_Law_law_677 : decode b_Law_law 677 = .ok (.aload_n 2, 1) := by decide +kernel
theorem d_Law_law_678 : decode b_Law_law 678 = .ok (.aload_n 0, 1) := by decide +kernel
theorem d_Law_law_679 : decode b_Law_law 679 = .ok (.iload 4, 2) := by decide +kernel
theorem d_Law_law_681 : decode b_Law_law 681 = .ok (.iconst 1, 1) := by decide +kernel
theorem d_Law_law_682 : decode b_Law_law 682 = .ok (.iadd, 1) := by decide +kernel
theorem d_Law_law_683 : decode b_Law_law 683 = .ok (.iaload, 1) := by decide +kernel
theorem d_Law_law_684 : decode b_Law_law 684 = .ok (.invokevirtual 124, 3) := by decide +kernel
theorem d_Law_law_687 : decode b_Law_law 687 = .ok (.istore 6, 2) := by decide +kernel
theorem d_Law_law_689 : decode b_Law_law 689 = .ok (.aload_n 2, 1) := by decide +kernel
theorem d_Law_law_690 : decode b_Law_law 690 = .ok (.invokevirtual 97, 3) := by decide +kernel
theorem d_Law_law_693 : decode b_Law_law 693 = .ok (.iload 5, 2) := by decide +kernel
theorem d_Law_law_695 : decode b_Law_law 695 = .ok (.if_icmp .eq 5, 3) := by decide +kernel
theorem d_Law_law_700 : decode b_Law_law 700 = .ok (.iload 5, 2) := by decide +kernel
theorem d_Law_law_702 : decode b_Law_law 702 = .ok (.ifCond .ne 15, 3) := by decide +kernel
theorem d_Law_law_705 : decode b_Law_law 705 = .ok (.aload_n 3, 1) := by decide +kernel
theorem d_Law_law_706 : decode b_Law_law 706 = .ok (.iconst 0, 1) := by decide +kernel
theorem d_Law_law_707 : decode b_Law_law 707 = .ok (.laload, 1) := by decide +kernel
theorem d_Law_law_708 : decode b_Law_law 708 = .ok (.iload 6, 2) := by decide +kernel
theorem d_Law_law_710 : decode b_Law_law 710 = .ok (.i2l, 1) := by decide +kernel
theorem d_Law_law_711 : decode b_Law_law 711 = .ok (.lcmp, 1) := by decide +kernel
theorem d_Law_law_712 : decode b_Law_law 712 = .ok (.ifCond .eq 5, 3) := by decide +kernel
theorem d_Law_law_717 : decode b_Law_law 717 = .ok (.goto 931, 3) := by decide +kernel
theorem d_Law_law_720 : decode b_Law_law 720 = .ok (.aload_n 1, 1) := by decide +kernel
theorem d_Law_law_721 : decode b_Law_law 721 = .ok (.aload_n 0, 1) := by decide +kernel
theorem d_Law_law_722 : decode b_Law_law 722 = .ok (.iload 4, 2) := by decide +kernel
theorem d_Law_law_724 : decode b_Law_law 724 = .ok (.iconst 1, 1) := by decide +kernel
theorem d_Law_law_725 : decode b_Law_law 725 = .ok (.iadd, 1) := by decide +kernel
theorem d_Law_law_726 : decode b_Law_law 726 = .ok (.iaload, 1) := by decide +kernel
theorem d_Law_law_727 : decode b_Law_law 727 = .ok (.aload_n 3, 1) := by decide +kernel
theorem d_Law_law_728 : decode b_Law_law 728 = .ok (.invokestatic 125, 3) := by decide +kernel
theorem d_Law_law_731 : decode b_Law_law 731 = .ok (.istore 5, 2) := by decide +kernel
theorem d_Law_law_733 : decode b_Law_law 733 = .ok (.aload_n 2, 1) := by decide +kernel
theorem d_Law_law_734 : decode b_Law_law 734 = .ok (.aload_n 0, 1) := by decide +kernel
theorem d_Law_law_735 : decode b_Law_law 735 = .ok (.iload 4, 2) := by decide +kernel
theorem d_Law_law_737 : decode b_Law_law 737 = .ok (.iconst 1, 1) := by decide +kernel
theorem d_Law_law_738 : decode b_Law_law 738 = .ok (.iadd, 1) := by decide +kernel
theorem d_Law_law_739 : decode b_Law_law 739 = .ok (.iaload, 1) := by decide +kernel
theorem d_Law_law_740 : decode b_Law_law 740 = .ok (.invokevirtual 127, 3) := by decide +kernel
theorem d_Law_law_743 : decode b_Law_law 743 = .ok (.istore 6, 2) := by decide +kernel
theorem d_Law_law_745 : decode b_Law_law 745 = .ok (.aload_n 2, 1) := by decide +kernel
theorem d_Law_law_746 : decode b_Law_law 746 = .ok (.invokevirtual 97, 3) := by decide +kernel
theorem d_Law_law_749 : decode b_Law_law 749 = .ok (.iload 5, 2) := by decide +kernel
theorem d_Law_law_751 : decode b_Law_law 751 = .ok (.if_icmp .eq 5, 3) := by decide +kernel
theorem d_Law_law_756 : decode b_Law_law 756 = .ok (.iload 5, 2) := by decide +kernel
theorem d_Law_law_758 : decode b_Law_law 758 = .ok (.ifCond .ne 15, 3) := by decide +kernel
theorem d_Law_law_761 : decode b_Law_law 761 = .ok (.aload_n 3, 1) := by decide +kernel
theorem d_Law_law_762 : decode b_Law_law 762 = .ok (.iconst 0, 1) := by decide +kernel
theorem d_Law_law_763 : decode b_Law_law 763 = .ok (.laload, 1) := by decide +kernel
theorem d_Law_law_764 : decode b_Law_law 764 = .ok (.iload 6, 2) := by decide +kernel
theorem d_Law_law_766 : decode b_Law_law 766 = .ok (.i2l, 1) := by decide +kernel
theorem d_Law_law_767 : decode b_Law_law 767 = .ok (.lcmp, 1) := by decide +kernel
theorem d_Law_law_768 : decode b_Law_law 768 = .ok (.ifCond .eq 5, 3) := by decide +kernel
theorem d_Law_law_773 : decode b_Law_law 773 = .ok (.goto 875, 3) := by decide +kernel
theorem d_Law_law_776 : decode b_Law_law 776 = .ok (.aload_n 1, 1) := by decide +kernel
theorem d_Law_law_777 : decode b_Law_law 777 = .ok (.aload_n 0, 1) := by decide +kernel
theorem d_Law_law_778 : decode b_Law_law 778 = .ok (.iload 4, 2) := by decide +kernel
theorem d_Law_law_780 : decode b_Law_law 780 = .ok (.iconst 1, 1) := by decide +kernel
theorem d_Law_law_781 : decode b_Law_law 781 = .ok (.iadd, 1) := by decide +kernel
theorem d_Law_law_782 : decode b_Law_law 782 = .ok (.iaload, 1) := by decide +kernel
theorem d_Law_law_783 : decode b_Law_law 783 = .ok (.aload_n 3, 1) := by decide +kernel
theorem d_Law_law_784 : decode b_Law_law 784 = .ok (.invokestatic 128, 3) := by decide +kernel
theorem d_Law_law_787 : decode b_Law_law 787 = .ok (.istore 5, 2) := by decide +kernel
theorem d_Law_law_789 : decode b_Law_law 789 = .ok (.aload_n 2, 1) := by decide +kernel
theorem d_Law_law_790 : decode b_Law_law 790 = .ok (.aload_n 0, 1) := by decide +kernel
theorem d_Law_law_791 : decode b_Law_law 791 = .ok (.iload 4, 2) := by decide +kernel
theorem d_Law_law_793 : decode b_Law_law 793 = .ok (.iconst 1, 1) := by decide +kernel
theorem d_Law_law_794 : decode b_Law_law 794 = .ok (.iadd, 1) := by decide +kernel
theorem d_Law_law_795 : decode b_Law_law 795 = .ok (.iaload, 1) := by decide +kernel
theorem d_Law_law_796 : decode b_Law_law 796 = .ok (.invokevirtual 130, 3) := by decide +kernel
theorem d_Law_law_799 : decode b_Law_law 799 = .ok (.istore 6, 2) := by decide +kernel
theorem d_Law_law_801 : decode b_Law_law 801 = .ok (.aload_n 2, 1) := by decide +kernel
theorem d_Law_law_802 : decode b_Law_law 802 = .ok (.invokevirtual 97, 3) := by decide +kernel
theorem d_Law_law_805 : decode b_Law_law 805 = .ok (.iload 5, 2) := by decide +kernel
theorem d_Law_law_807 : decode b_Law_law 807 = .ok (.if_icmp .eq 5, 3) := by decide +kernel
theorem d_Law_law_812 : decode b_Law_law 812 = .ok (.iload 5, 2) := by decide +kernel
theorem d_Law_law_814 : decode b_Law_law 814 = .ok (.ifCond .ne 15, 3) := by decide +kernel
theorem d_Law_law_817 : decode b_Law_law 817 = .ok (.aload_n 3, 1) := by decide +kernel
theorem d_Law_law_818 : decode b_Law_law 818 = .ok (.iconst 0, 1) := by decide +kernel
theorem d_Law_law_819 : decode b_Law_law 819 = .ok (.laload, 1) := by decide +kernel
theorem d_Law_law_820 : decode b_Law_law 820 = .ok (.iload 6, 2) := by decide +kernel
theorem d_Law_law_822 : decode b_Law_law 822 = .ok (.i2l, 1) := by decide +kernel
theorem d_Law_law_823 : decode b_Law_law 823 = .ok (.lcmp, 1) := by decide +kernel
theorem d_Law_law_824 : decode b_Law_law 824 = .ok (.ifCond .eq 5, 3) := by decide +kernel
theorem d_Law_law_829 : decode b_Law_law 829 = .ok (.goto 819, 3) := by decide +kernel
theorem d_Law_law_832 : decode b_Law_law 832 = .ok (.aload_n 1, 1) := by decide +kernel
theorem d_Law_law_833 : decode b_Law_law 833 = .ok (.aload_n 0, 1) := by decide +kernel
theorem d_Law_law_834 : decode b_Law_law 834 = .ok (.iload 4, 2) := by decide +kernel
theorem d_Law_law_836 : decode b_Law_law 836 = .ok (.iconst 1, 1) := by decide +kernel
theorem d_Law_law_837 : decode b_Law_law 837 = .ok (.iadd, 1) := by decide +kernel
theorem d_Law_law_838 : decode b_Law_law 838 = .ok (.iaload, 1) := by decide +kernel
theorem d_Law_law_839 : decode b_Law_law 839 = .ok (.aload_n 0, 1) := by decide +kernel
theorem d_Law_law_840 : decode b_Law_law 840 = .ok (.iload 4, 2) := by decide +kernel
theorem d_Law_law_842 : decode b_Law_law 842 = .ok (.iconst 2, 1) := by decide +kernel
theorem d_Law_law_843 : decode b_Law_law 843 = .ok (.iadd, 1) := by decide +kernel
theorem d_Law_law_844 : decode b_Law_law 844 = .ok (.iaload, 1) := by decide +kernel
theorem d_Law_law_845 : decode b_Law_law 845 = .ok (.aload_n 0, 1) := by decide +kernel
theorem d_Law_law_846 : decode b_Law_law 846 = .ok (.iload 4, 2) := by decide +kernel
theorem d_Law_law_848 : decode b_Law_law 848 = .ok (.iconst 3, 1) := by decide +kernel
theorem d_Law_law_849 : decode b_Law_law 849 = .ok (.iadd, 1) := by decide +kernel
theorem d_Law_law_850 : decode b_Law_law 850 = .ok (.iaload, 1) := by decide +kernel
theorem d_Law_law_851 : decode b_Law_law 851 = .ok (.aload_n 3, 1) := by decide +kernel
theorem d_Law_law_852 : decode b_Law_law 852 = .ok (.invokestatic 131, 3) := by decide +kernel
theorem d_Law_law_855 : decode b_Law_law 855 = .ok (.istore 5, 2) := by decide +kernel
theorem d_Law_law_857 : decode b_Law_law 857 = .ok (.aload_n 2, 1) := by decide +kernel
theorem d_Law_law_858 : decode b_Law_law 858 = .ok (.aload_n 0, 1) := by decide +kernel
theorem d_Law_law_859 : decode b_Law_law 859 = .ok (.iload 4, 2) := by decide +kernel
theorem d_Law_law_861 : decode b_Law_law 861 = .ok (.iconst 1, 1) := by decide +kernel
theorem d_Law_law_862 : decode b_Law_law 862 = .ok (.iadd, 1) := by decide +kernel
theorem d_Law_law_863 : decode b_Law_law 863 = .ok (.iaload, 1) := by decide +kernel
theorem d_Law_law_864 : decode b_Law_law 864 = .ok (.aload_n 0, 1) := by decide +kernel
theorem d_Law_law_865 : decode b_Law_law 865 = .ok (.iload 4, 2) := by decide +kernel
