/-! The law's decode rows, 4 of 10. -/
theorem d_Law_law_546 : decode b_Law_law 546 = .ok (.iaload, 1) := by decide +kernel
theorem d_Law_law_547 : decode b_Law_law 547 = .ok (.aload_n 0, 1) := by decide +kernel
theorem d_Law_law_548 : decode b_Law_law 548 = .ok (.iload 4, 2) := by decide +kernel
theorem d_Law_law_550 : decode b_Law_law 550 = .ok (.iconst 2, 1) := by decide +kernel
theorem d_Law_law_551 : decode b_Law_law 551 = .ok (.iadd, 1) := by decide +kernel
theorem d_Law_law_552 : decode b_Law_law 552 = .ok (.iaload, 1) := by decide +kernel
theorem d_Law_law_553 : decode b_Law_law 553 = .ok (.aload_n 3, 1) := by decide +kernel
theorem d_Law_law_554 : decode b_Law_law 554 = .ok (.invokestatic 115, 3) := by decide +kernel
theorem d_Law_law_557 : decode b_Law_law 557 = .ok (.istore 5, 2) := by decide +kernel
theorem d_Law_law_559 : decode b_Law_law 559 = .ok (.aload_n 2, 1) := by decide +kernel
theorem d_Law_law_560 : decode b_Law_law 560 = .ok (.aload_n 0, 1) := by decide +kernel
theorem d_Law_law_561 : decode b_Law_law 561 = .ok (.iload 4, 2) := by decide +kernel
theorem d_Law_law_563 : decode b_Law_law 563 = .ok (.iconst 1, 1) := by decide +kernel
theorem d_Law_law_564 : decode b_Law_law 564 = .ok (.iadd, 1) := by decide +kernel
theorem d_Law_law_565 : decode b_Law_law 565 = .ok (.iaload, 1) := by decide +kernel
theorem d_Law_law_566 : decode b_Law_law 566 = .ok (.aload_n 0, 1) := by decide +kernel
theorem d_Law_law_567 : decode b_Law_law 567 = .ok (.iload 4, 2) := by decide +kernel
theorem d_Law_law_569 : decode b_Law_law 569 = .ok (.iconst 2, 1) := by decide +kernel
theorem d_Law_law_570 : decode b_Law_law 570 = .ok (.iadd, 1) := by decide +kernel
theorem d_Law_law_571 : decode b_Law_law 571 = .ok (.iaload, 1) := by decide +kernel
theorem d_Law_law_572 : decode b_Law_law 572 = .ok (.invokevirtual 117, 3) := by decide +kernel
theorem d_Law_law_575 : decode b_Law_law 575 = .ok (.istore 6, 2) := by decide +kernel
theorem d_Law_law_577 : decode b_Law_law 577 = .ok (.aload_n 2, 1) := by decide +kernel
theorem d_Law_law_578 : decode b_Law_law 578 = .ok (.invokevirtual 97, 3) := by decide +kernel
theorem d_Law_law_581 : decode b_Law_law 581 = .ok (.iload 5, 2) := by decide +kernel
theorem d_Law_law_583 : decode b_Law_law 583 = .ok (.if_icmp .eq 5, 3) := by decide +kernel
theorem d_Law_law_588 : decode b_Law_law 588 = .ok (.iload 5, 2) := by decide +kernel
theorem d_Law_law_590 : decode b_Law_law 590 = .ok (.ifCond .ne 15, 3) := by decide +kernel
theorem d_Law_law_593 : decode b_Law_law 593 = .ok (.aload_n 3, 1) := by decide +kernel
theorem d_Law_law_594 : decode b_Law_law 594 = .ok (.iconst 0, 1) := by decide +kernel
theorem d_Law_law_595 : decode b_Law_law 595 = .ok (.laload, 1) := by decide +kernel
theorem d_Law_law_596 : decode b_Law_law 596 = .ok (.iload 6, 2) := by decide +kernel
theorem d_Law_law_598 : decode b_Law_law 598 = .ok (.i2l, 1) := by decide +kernel
theorem d_Law_law_599 : decode b_Law_law 599 = .ok (.lcmp, 1) := by decide +kernel
theorem d_Law_law_600 : decode b_Law_law 600 = .ok (.ifCond .eq 5, 3) := by decide +kernel
theorem d_Law_law_605 : decode b_Law_law 605 = .ok (.goto 1043, 3) := by decide +kernel
theorem d_Law_law_608 : decode b_Law_law 608 = .ok (.aload_n 1, 1) := by decide +kernel
theorem d_Law_law_609 : decode b_Law_law 609 = .ok (.aload_n 0, 1) := by decide +kernel
theorem d_Law_law_610 : decode b_Law_law 610 = .ok (.iload 4, 2) := by decide +kernel
theorem d_Law_law_612 : decode b_Law_law 612 = .ok (.iconst 1, 1) := by decide +kernel
theorem d_Law_law_613 : decode b_Law_law 613 = .ok (.iadd, 1) := by decide +kernel
theorem d_Law_law_614 : decode b_Law_law 614 = .ok (.iaload, 1) := by decide +kernel
theorem d_Law_law_615 : decode b_Law_law 615 = .ok (.aload_n 3, 1) := by decide +kernel
theorem d_Law_law_616 : decode b_Law_law 616 = .ok (.invokestatic 118, 3) := by decide +kernel
theorem d_Law_law_619 : decode b_Law_law 619 = .ok (.istore 5, 2) := by decide +kernel
theorem d_Law_law_621 : decode b_Law_law 621 = .ok (.aload_n 2, 1) := by decide +kernel
theorem d_Law_law_622 : decode b_Law_law 622 = .ok (.aload_n 0, 1) := by decide +kernel
theorem d_Law_law_623 : decode b_Law_law 623 = .ok (.iload 4, 2) := by decide +kernel
theorem d_Law_law_625 : decode b_Law_law 625 = .ok (.iconst 1, 1) := by decide +kernel
theorem d_Law_law_626 : decode b_Law_law 626 = .ok (.iadd, 1) := by decide +kernel
theorem d_Law_law_627 : decode b_Law_law 627 = .ok (.iaload, 1) := by decide +kernel
theorem d_Law_law_628 : decode b_Law_law 628 = .ok (.invokevirtual 121, 3) := by decide +kernel
theorem d_Law_law_631 : decode b_Law_law 631 = .ok (.istore 6, 2) := by decide +kernel
theorem d_Law_law_633 : decode b_Law_law 633 = .ok (.aload_n 2, 1) := by decide +kernel
theorem d_Law_law_634 : decode b_Law_law 634 = .ok (.invokevirtual 97, 3) := by decide +kernel
theorem d_Law_law_637 : decode b_Law_law 637 = .ok (.iload 5, 2) := by decide +kernel
theorem d_Law_law_639 : decode b_Law_law 639 = .ok (.if_icmp .eq 5, 3) := by decide +kernel
theorem d_Law_law_644 : decode b_Law_law 644 = .ok (.iload 5, 2) := by decide +kernel
theorem d_Law_law_646 : decode b_Law_law 646 = .ok (.ifCond .ne 15, 3) := by decide +kernel
theorem d_Law_law_649 : decode b_Law_law 649 = .ok (.aload_n 3, 1) := by decide +kernel
theorem d_Law_law_650 : decode b_Law_law 650 = .ok (.iconst 0, 1) := by decide +kernel
theorem d_Law_law_651 : decode b_Law_law 651 = .ok (.laload, 1) := by decide +kernel
theorem d_Law_law_652 : decode b_Law_law 652 = .ok (.iload 6, 2) := by decide +kernel
theorem d_Law_law_654 : decode b_Law_law 654 = .ok (.i2l, 1) := by decide +kernel
theorem d_Law_law_655 : decode b_Law_law 655 = .ok (.lcmp, 1) := by decide +kernel
theorem d_Law_law_656 : decode b_Law_law 656 = .ok (.ifCond .eq 5, 3) := by decide +kernel
theorem d_Law_law_661 : decode b_Law_law 661 = .ok (.goto 987, 3) := by decide +kernel
theorem d_Law_law_664 : decode b_Law_law 664 = .ok (.aload_n 1, 1) := by decide +kernel
theorem d_Law_law_665 : decode b_Law_law 665 = .ok (.aload_n 0, 1) := by decide +kernel
theorem d_Law_law_666 : decode b_Law_law 666 = .ok (.iload 4, 2) := by decide +kernel
theorem d_Law_law_668 : decode b_Law_law 668 = .ok (.iconst 1, 1) := by decide +kernel
theorem d_Law_law_669 : decode b_Law_law 669 = .ok (.iadd, 1) := by decide +kernel
theorem d_Law_law_670 : decode b_Law_law 670 = .ok (.iaload, 1) := by decide +kernel
theorem d_Law_law_671 : decode b_Law_law 671 = .ok (.aload_n 3, 1) := by decide +kernel
theorem d_Law_law_672 : decode b_Law_law 672 = .ok (.invokestatic 122, 3) := by decide +kernel
theorem d_Law_law_675 : decode b_Law_law 675 = .ok (.istore 5, 2) := by decide +kernel
theorem d_Law_law_677 : decode b_Law_law 677 = .ok (.aload_n 2, 1) := by decide +kernel
theorem d_Law_law_678 : decode b_Law_law 678 = .ok (.aload_n 0, 1) := by decide +kernel
theorem d_Law_law_679 : decode b_Law_law 679 = .ok (.iload 4, 2) := by decide +kernel
theorem d_Law_law_681 : decode b_Law_law 681 = .ok (.iconst 1, 1) := by decide +kernel
theorem d_Law_law_682 : decode b_Law_law 682 = .ok (.iadd, 1) := by decide +kernel
theorem d_Law_law_683 : decode b_Law_law 683 = .ok (.iaload, 1) := by decide +kernel
theorem d_Law_law_684 : decode b_Law_law 684 = .ok (.invokevirtual 124, 3) := by decide +kernel
theorem d_Law_law_687 : decode b_Law_law 687 = .ok (.istore 6, 2) := by decide +kernel
theorem d_Law_law_689 : decode b_Law_law 689 = .ok (.aload_n 2, 1) := by decide +kernel
theorem d_Law_law_690 : decode b_Law_law 690 = .ok (.invokevirtual 97, 3) := by decide +kernel
theorem d_Law_law_693 : decode b_Law_law 693 = .ok (.iload 5, 2) := by decide +kernel
theorem d_Law_law_695 : decode b_Law_law 695 = .ok (.if_icmp .eq 5, 3) := by decide +kernel
theorem d_Law_law_700 : decode b_Law_law 700 = .ok (.iload 5, 2) := by decide +kernel
theorem d_Law_law_702 : decode b_Law_law 702 = .ok (.ifCond .ne 15, 3) := by decide +kernel
theorem d_Law_law_705 : decode b_Law_law 705 = .ok (.aload_n 3, 1) := by decide +kernel
theorem d_Law_law_706 : decode b_Law_law 706 = .ok (.iconst 0, 1) := by decide +kernel
theorem d_Law_law_707 : decode b_Law_law 707 = .ok (.laload, 1) := by decide +kernel
theorem d_Law_law_708 : decode b_Law_law 708 = .ok (.iload 6, 2) := by decide +kernel
theorem d_Law_law_710 : decode b_Law_law 710 = .ok (.i2l, 1) := by decide +kernel
