theorem d_L_law_578 : decode mb_L_law 578 = .ok (.aload_n 3, 1) := by decide +kernel
theorem d_L_law_579 : decode mb_L_law 579 = .ok (.iconst 0, 1) := by decide +kernel
theorem d_L_law_580 : decode mb_L_law 580 = .ok (.laload, 1) := by decide +kernel
theorem d_L_law_581 : decode mb_L_law 581 = .ok (.iload 6, 2) := by decide +kernel
theorem d_L_law_583 : decode mb_L_law 583 = .ok (.i2l, 1) := by decide +kernel
theorem d_L_law_584 : decode mb_L_law 584 = .ok (.lcmp, 1) := by decide +kernel
theorem d_L_law_585 : decode mb_L_law 585 = .ok (.ifCond .eq 5, 3) := by decide +kernel
theorem d_L_law_588 : decode mb_L_law 588 = .ok (.iconst 0, 1) := by decide +kernel
theorem d_L_law_589 : decode mb_L_law 589 = .ok (.ireturn, 1) := by decide +kernel
theorem d_L_law_590 : decode mb_L_law 590 = .ok (.goto 415, 3) := by decide +kernel
theorem d_L_law_593 : decode mb_L_law 593 = .ok (.aload_n 1, 1) := by decide +kernel
theorem d_L_law_594 : decode mb_L_law 594 = .ok (.aload_n 0, 1) := by decide +kernel
theorem d_L_law_595 : decode mb_L_law 595 = .ok (.iload 4, 2) := by decide +kernel
theorem d_L_law_597 : decode mb_L_law 597 = .ok (.iconst 1, 1) := by decide +kernel
theorem d_L_law_598 : decode mb_L_law 598 = .ok (.iadd, 1) := by decide +kernel
theorem d_L_law_599 : decode mb_L_law 599 = .ok (.iaload, 1) := by decide +kernel
theorem d_L_law_600 : decode mb_L_law 600 = .ok (.aload_n 0, 1) := by decide +kernel
theorem d_L_law_601 : decode mb_L_law 601 = .ok (.iload 4, 2) := by decide +kernel
theorem d_L_law_603 : decode mb_L_law 603 = .ok (.iconst 2, 1) := by decide +kernel
theorem d_L_law_604 : decode mb_L_law 604 = .ok (.iadd, 1) := by decide +kernel
theorem d_L_law_605 : decode mb_L_law 605 = .ok (.iaload, 1) := by decide +kernel
theorem d_L_law_606 : decode mb_L_law 606 = .ok (.i2l, 1) := by decide +kernel
theorem d_L_law_607 : decode mb_L_law 607 = .ok (.bipush 32, 2) := by decide +kernel
theorem d_L_law_609 : decode mb_L_law 609 = .ok (.lshl, 1) := by decide +kernel
theorem d_L_law_610 : decode mb_L_law 610 = .ok (.aload_n 0, 1) := by decide +kernel
theorem d_L_law_611 : decode mb_L_law 611 = .ok (.iload 4, 2) := by decide +kernel
theorem d_L_law_613 : decode mb_L_law 613 = .ok (.iconst 3, 1) := by decide +kernel
theorem d_L_law_614 : decode mb_L_law 614 = .ok (.iadd, 1) := by decide +kernel
theorem d_L_law_615 : decode mb_L_law 615 = .ok (.iaload, 1) := by decide +kernel
theorem d_L_law_616 : decode mb_L_law 616 = .ok (.i2l, 1) := by decide +kernel
theorem d_L_law_617 : decode mb_L_law 617 = .ok (.ldc2_w 52, 3) := by decide +kernel
theorem d_L_law_620 : decode mb_L_law 620 = .ok (.land, 1) := by decide +kernel
theorem d_L_law_621 : decode mb_L_law 621 = .ok (.lor, 1) := by decide +kernel
theorem d_L_law_622 : decode mb_L_law 622 = .ok (.aload_n 3, 1) := by decide +kernel
theorem d_L_law_623 : decode mb_L_law 623 = .ok (.invokestatic 84, 3) := by decide +kernel
theorem d_L_law_626 : decode mb_L_law 626 = .ok (.istore 5, 2) := by decide +kernel
theorem d_L_law_628 : decode mb_L_law 628 = .ok (.aload_n 2, 1) := by decide +kernel
theorem d_L_law_629 : decode mb_L_law 629 = .ok (.aload_n 0, 1) := by decide +kernel
theorem d_L_law_630 : decode mb_L_law 630 = .ok (.iload 4, 2) := by decide +kernel
theorem d_L_law_632 : decode mb_L_law 632 = .ok (.iconst 1, 1) := by decide +kernel
theorem d_L_law_633 : decode mb_L_law 633 = .ok (.iadd, 1) := by decide +kernel
theorem d_L_law_634 : decode mb_L_law 634 = .ok (.iaload, 1) := by decide +kernel
theorem d_L_law_635 : decode mb_L_law 635 = .ok (.aload_n 0, 1) := by decide +kernel
theorem d_L_law_636 : decode mb_L_law 636 = .ok (.iload 4, 2) := by decide +kernel
theorem d_L_law_638 : decode mb_L_law 638 = .ok (.iconst 2, 1) := by decide +kernel
theorem d_L_law_639 : decode mb_L_law 639 = .ok (.iadd, 1) := by decide +kernel
theorem d_L_law_640 : decode mb_L_law 640 = .ok (.iaload, 1) := by decide +kernel
theorem d_L_law_641 : decode mb_L_law 641 = .ok (.i2l, 1) := by decide +kernel
theorem d_L_law_642 : decode mb_L_law 642 = .ok (.bipush 32, 2) := by decide +kernel
theorem d_L_law_644 : decode mb_L_law 644 = .ok (.lshl, 1) := by decide +kernel
theorem d_L_law_645 : decode mb_L_law 645 = .ok (.aload_n 0, 1) := by decide +kernel
theorem d_L_law_646 : decode mb_L_law 646 = .ok (.iload 4, 2) := by decide +kernel
theorem d_L_law_648 : decode mb_L_law 648 = .ok (.iconst 3, 1) := by decide +kernel
theorem d_L_law_649 : decode mb_L_law 649 = .ok (.iadd, 1) := by decide +kernel
theorem d_L_law_650 : decode mb_L_law 650 = .ok (.iaload, 1) := by decide +kernel
theorem d_L_law_651 : decode mb_L_law 651 = .ok (.i2l, 1) := by decide +kernel
theorem d_L_law_652 : decode mb_L_law 652 = .ok (.ldc2_w 52, 3) := by decide +kernel
theorem d_L_law_655 : decode mb_L_law 655 = .ok (.land, 1) := by decide +kernel
theorem d_L_law_656 : decode mb_L_law 656 = .ok (.lor, 1) := by decide +kernel
theorem d_L_law_657 : decode mb_L_law 657 = .ok (.invokevirtual 87, 3) := by decide +kernel
theorem d_L_law_660 : decode mb_L_law 660 = .ok (.istore 6, 2) := by decide +kernel
theorem d_L_law_662 : decode mb_L_law 662 = .ok (.aload_n 2, 1) := by decide +kernel
theorem d_L_law_663 : decode mb_L_law 663 = .ok (.invokevirtual 76, 3) := by decide +kernel
theorem d_L_law_666 : decode mb_L_law 666 = .ok (.iload 5, 2) := by decide +kernel
theorem d_L_law_668 : decode mb_L_law 668 = .ok (.if_icmp .eq 5, 3) := by decide +kernel
theorem d_L_law_671 : decode mb_L_law 671 = .ok (.iconst 0, 1) := by decide +kernel
theorem d_L_law_672 : decode mb_L_law 672 = .ok (.ireturn, 1) := by decide +kernel
theorem d_L_law_673 : decode mb_L_law 673 = .ok (.iload 5, 2) := by decide +kernel
theorem d_L_law_675 : decode mb_L_law 675 = .ok (.ifCond .ne 15, 3) := by decide +kernel
theorem d_L_law_678 : decode mb_L_law 678 = .ok (.aload_n 3, 1) := by decide +kernel
theorem d_L_law_679 : decode mb_L_law 679 = .ok (.iconst 0, 1) := by decide +kernel
theorem d_L_law_680 : decode mb_L_law 680 = .ok (.laload, 1) := by decide +kernel
theorem d_L_law_681 : decode mb_L_law 681 = .ok (.iload 6, 2) := by decide +kernel
theorem d_L_law_683 : decode mb_L_law 683 = .ok (.i2l, 1) := by decide +kernel
theorem d_L_law_684 : decode mb_L_law 684 = .ok (.lcmp, 1) := by decide +kernel
theorem d_L_law_685 : decode mb_L_law 685 = .ok (.ifCond .eq 5, 3) := by decide +kernel
theorem d_L_law_688 : decode mb_L_law 688 = .ok (.iconst 0, 1) := by decide +kernel
theorem d_L_law_689 : decode mb_L_law 689 = .ok (.ireturn, 1) := by decide +kernel
theorem d_L_law_690 : decode mb_L_law 690 = .ok (.goto 315, 3) := by decide +kernel
theorem d_L_law_693 : decode mb_L_law 693 = .ok (.aload_n 1, 1) := by decide +kernel
theorem d_L_law_694 : decode mb_L_law 694 = .ok (.aload_n 0, 1) := by decide +kernel
theorem d_L_law_695 : decode mb_L_law 695 = .ok (.iload 4, 2) := by decide +kernel
theorem d_L_law_697 : decode mb_L_law 697 = .ok (.iconst 1, 1) := by decide +kernel
theorem d_L_law_698 : decode mb_L_law 698 = .ok (.iadd, 1) := by decide +kernel
theorem d_L_law_699 : decode mb_L_law 699 = .ok (.iaload, 1) := by decide +kernel
theorem d_L_law_700 : decode mb_L_law 700 = .ok (.aload_n 0, 1) := by decide +kernel
theorem d_L_law_701 : decode mb_L_law 701 = .ok (.iload 4, 2) := by decide +kernel
theorem d_L_law_703 : decode mb_L_law 703 = .ok (.iconst 2, 1) := by decide +kernel
theorem d_L_law_704 : decode mb_L_law 704 = .ok (.iadd, 1) := by decide +kernel
theorem d_L_law_705 : decode mb_L_law 705 = .ok (.iaload, 1) := by decide +kernel
