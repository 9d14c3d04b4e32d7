theorem d_Lw_law_483 : decode code 483 = .ok (.istore 6, 2) := by decide +kernel
theorem d_Lw_law_485 : decode code 485 = .ok (.aload_n 2, 1) := by decide +kernel
theorem d_Lw_law_486 : decode code 486 = .ok (.invokevirtual 83, 3) := by decide +kernel
theorem d_Lw_law_489 : decode code 489 = .ok (.iload 5, 2) := by decide +kernel
theorem d_Lw_law_491 : decode code 491 = .ok (.if_icmp .eq 5, 3) := by decide +kernel
theorem d_Lw_law_494 : decode code 494 = .ok (.iconst 0, 1) := by decide +kernel
theorem d_Lw_law_495 : decode code 495 = .ok (.ireturn, 1) := by decide +kernel
theorem d_Lw_law_496 : decode code 496 = .ok (.iload 5, 2) := by decide +kernel
theorem d_Lw_law_498 : decode code 498 = .ok (.ifCond .ne 15, 3) := by decide +kernel
theorem d_Lw_law_501 : decode code 501 = .ok (.aload_n 3, 1) := by decide +kernel
theorem d_Lw_law_502 : decode code 502 = .ok (.iconst 0, 1) := by decide +kernel
theorem d_Lw_law_503 : decode code 503 = .ok (.laload, 1) := by decide +kernel
theorem d_Lw_law_504 : decode code 504 = .ok (.iload 6, 2) := by decide +kernel
theorem d_Lw_law_506 : decode code 506 = .ok (.i2l, 1) := by decide +kernel
theorem d_Lw_law_507 : decode code 507 = .ok (.lcmp, 1) := by decide +kernel
theorem d_Lw_law_508 : decode code 508 = .ok (.ifCond .eq 5, 3) := by decide +kernel
theorem d_Lw_law_511 : decode code 511 = .ok (.iconst 0, 1) := by decide +kernel
theorem d_Lw_law_512 : decode code 512 = .ok (.ireturn, 1) := by decide +kernel
theorem d_Lw_law_513 : decode code 513 = .ok (.goto 528, 3) := by decide +kernel
theorem d_Lw_law_516 : decode code 516 = .ok (.aload_n 1, 1) := by decide +kernel
theorem d_Lw_law_517 : decode code 517 = .ok (.aload_n 3, 1) := by decide +kernel
theorem d_Lw_law_518 : decode code 518 = .ok (.invokestatic 106, 3) := by decide +kernel
theorem d_Lw_law_521 : decode code 521 = .ok (.istore 5, 2) := by decide +kernel
theorem d_Lw_law_523 : decode code 523 = .ok (.aload_n 2, 1) := by decide +kernel
theorem d_Lw_law_524 : decode code 524 = .ok (.invokevirtual 108, 3) := by decide +kernel
theorem d_Lw_law_527 : decode code 527 = .ok (.istore 6, 2) := by decide +kernel
theorem d_Lw_law_529 : decode code 529 = .ok (.aload_n 2, 1) := by decide +kernel
theorem d_Lw_law_530 : decode code 530 = .ok (.invokevirtual 83, 3) := by decide +kernel
theorem d_Lw_law_533 : decode code 533 = .ok (.iload 5, 2) := by decide +kernel
theorem d_Lw_law_535 : decode code 535 = .ok (.if_icmp .eq 5, 3) := by decide +kernel
theorem d_Lw_law_538 : decode code 538 = .ok (.iconst 0, 1) := by decide +kernel
theorem d_Lw_law_539 : decode code 539 = .ok (.ireturn, 1) := by decide +kernel
theorem d_Lw_law_540 : decode code 540 = .ok (.iload 5, 2) := by decide +kernel
theorem d_Lw_law_542 : decode code 542 = .ok (.ifCond .ne 15, 3) := by decide +kernel
theorem d_Lw_law_545 : decode code 545 = .ok (.aload_n 3, 1) := by decide +kernel
theorem d_Lw_law_546 : decode code 546 = .ok (.iconst 0, 1) := by decide +kernel
theorem d_Lw_law_547 : decode code 547 = .ok (.laload, 1) := by decide +kernel
theorem d_Lw_law_548 : decode code 548 = .ok (.iload 6, 2) := by decide +kernel
theorem d_Lw_law_550 : decode code 550 = .ok (.i2l, 1) := by decide +kernel
theorem d_Lw_law_551 : decode code 551 = .ok (.lcmp, 1) := by decide +kernel
theorem d_Lw_law_552 : decode code 552 = .ok (.ifCond .eq 5, 3) := by decide +kernel
theorem d_Lw_law_555 : decode code 555 = .ok (.iconst 0, 1) := by decide +kernel
theorem d_Lw_law_556 : decode code 556 = .ok (.ireturn, 1) := by decide +kernel
theorem d_Lw_law_557 : decode code 557 = .ok (.goto 484, 3) := by decide +kernel
theorem d_Lw_law_560 : decode code 560 = .ok (.aload_n 1, 1) := by decide +kernel
theorem d_Lw_law_561 : decode code 561 = .ok (.aload_n 3, 1) := by decide +kernel
theorem d_Lw_law_562 : decode code 562 = .ok (.invokestatic 109, 3) := by decide +kernel
theorem d_Lw_law_565 : decode code 565 = .ok (.istore 5, 2) := by decide +kernel
theorem d_Lw_law_567 : decode code 567 = .ok (.aload_n 2, 1) := by decide +kernel
theorem d_Lw_law_568 : decode code 568 = .ok (.invokevirtual 111, 3) := by decide +kernel
theorem d_Lw_law_571 : decode code 571 = .ok (.istore 6, 2) := by decide +kernel
theorem d_Lw_law_573 : decode code 573 = .ok (.aload_n 2, 1) := by decide +kernel
theorem d_Lw_law_574 : decode code 574 = .ok (.invokevirtual 83, 3) := by decide +kernel
theorem d_Lw_law_577 : decode code 577 = .ok (.iload 5, 2) := by decide +kernel
theorem d_Lw_law_579 : decode code 579 = .ok (.if_icmp .eq 5, 3) := by decide +kernel
theorem d_Lw_law_582 : decode code 582 = .ok (.iconst 0, 1) := by decide +kernel
theorem d_Lw_law_583 : decode code 583 = .ok (.ireturn, 1) := by decide +kernel
theorem d_Lw_law_584 : decode code 584 = .ok (.iload 5, 2) := by decide +kernel
theorem d_Lw_law_586 : decode code 586 = .ok (.ifCond .ne 22, 3) := by decide +kernel
theorem d_Lw_law_589 : decode code 589 = .ok (.aload_n 3, 1) := by decide +kernel
theorem d_Lw_law_590 : decode code 590 = .ok (.iconst 0, 1) := by decide +kernel
theorem d_Lw_law_591 : decode code 591 = .ok (.laload, 1) := by decide +kernel
theorem d_Lw_law_592 : decode code 592 = .ok (.iload 6, 2) := by decide +kernel
theorem d_Lw_law_594 : decode code 594 = .ok (.ifCond .eq 7, 3) := by decide +kernel
theorem d_Lw_law_597 : decode code 597 = .ok (.lconst 1, 1) := by decide +kernel
theorem d_Lw_law_598 : decode code 598 = .ok (.goto 4, 3) := by decide +kernel
theorem d_Lw_law_601 : decode code 601 = .ok (.lconst 0, 1) := by decide +kernel
theorem d_Lw_law_602 : decode code 602 = .ok (.lcmp, 1) := by decide +kernel
theorem d_Lw_law_603 : decode code 603 = .ok (.ifCond .eq 5, 3) := by decide +kernel
theorem d_Lw_law_606 : decode code 606 = .ok (.iconst 0, 1) := by decide +kernel
theorem d_Lw_law_607 : decode code 607 = .ok (.ireturn, 1) := by decide +kernel
theorem d_Lw_law_608 : decode code 608 = .ok (.goto 433, 3) := by decide +kernel
theorem d_Lw_law_611 : decode code 611 = .ok (.aload_n 1, 1) := by decide +kernel
theorem d_Lw_law_612 : decode code 612 = .ok (.aload_n 3, 1) := by decide +kernel
theorem d_Lw_law_613 : decode code 613 = .ok (.invokestatic 112, 3) := by decide +kernel
theorem d_Lw_law_616 : decode code 616 = .ok (.istore 5, 2) := by decide +kernel
theorem d_Lw_law_618 : decode code 618 = .ok (.aload_n 2, 1) := by decide +kernel
theorem d_Lw_law_619 : decode code 619 = .ok (.invokevirtual 114, 3) := by decide +kernel
theorem d_Lw_law_622 : decode code 622 = .ok (.istore 6, 2) := by decide +kernel
theorem d_Lw_law_624 : decode code 624 = .ok (.aload_n 2, 1) := by decide +kernel
theorem d_Lw_law_625 : decode code 625 = .ok (.invokevirtual 83, 3) := by decide +kernel
theorem d_Lw_law_628 : decode code 628 = .ok (.iload 5, 2) := by decide +kernel
theorem d_Lw_law_630 : decode code 630 = .ok (.if_icmp .eq 5, 3) := by decide +kernel
theorem d_Lw_law_633 : decode code 633 = .ok (.iconst 0, 1) := by decide +kernel
theorem d_Lw_law_634 : decode code 634 = .ok (.ireturn, 1) := by decide +kernel
theorem d_Lw_law_635 : decode code 635 = .ok (.iload 5, 2) := by decide +kernel
theorem d_Lw_law_637 : decode code 637 = .ok (.ifCond .ne 15, 3) := by decide +kernel
theorem d_Lw_law_640 : decode code 640 = .ok (.aload_n 3, 1) := by decide +kernel
theorem d_Lw_law_641 : decode code 641 = .ok (.iconst 0, 1) := by decide +kernel
theorem d_Lw_law_642 : decode code 642 = .ok (.laload, 1) := by decide +kernel
theorem d_Lw_law_643 : decode code 643 = .ok (.iload 6, 2) := by decide +kernel
theorem d_Lw_law_645 : decode code 645 = .ok (.i2l, 1) := by decide +kernel
theorem d_Lw_law_646 : decode code 646 = .ok (.lcmp, 1) := by decide +kernel
theorem d_Lw_law_647 : decode code 647 = .ok (.ifCond .eq 5, 3) := by decide +kernel
theorem d_Lw_law_650 : decode code 650 = .ok (.iconst 0, 1) := by decide +kernel
theorem d_Lw_law_651 : decode code 651 = .ok (.ireturn, 1) := by decide +kernel
theorem d_Lw_law_652 : decode code 652 = .ok (.goto 389, 3) := by decide +kernel
theorem d_Lw_law_655 : decode code 655 = .ok (.aload_n 1, 1) := by decide +kernel
theorem d_Lw_law_656 : decode code 656 = .ok (.aload_n 3, 1) := by decide +kernel
theorem d_Lw_law_657 : decode code 657 = .ok (.invokestatic 115, 3) := by decide +kernel
theorem d_Lw_law_660 : decode code 660 = .ok (.istore 5, 2) := by decide +kernel
theorem d_Lw_law_662 : decode code 662 = .ok (.aload_n 2, 1) := by decide +kernel
theorem d_Lw_law_663 : decode code 663 = .ok (.invokevirtual 117, 3) := by decide +kernel
theorem d_Lw_law_666 : decode code 666 = .ok (.istore 6, 2) := by decide +kernel
theorem d_Lw_law_668 : decode code 668 = .ok (.aload_n 2, 1) := by decide +kernel
theorem d_Lw_law_669 : decode code 669 = .ok (.invokevirtual 83, 3) := by decide +kernel
theorem d_Lw_law_672 : decode code 672 = .ok (.iload 5, 2) := by decide +kernel
theorem d_Lw_law_674 : decode code 674 = .ok (.if_icmp .eq 5, 3) := by decide +kernel
theorem d_Lw_law_677 : decode code 677 = .ok (.iconst 0, 1) := by decide +kernel
theorem d_Lw_law_678 : decode code 678 = .ok (.ireturn, 1) := by decide +kernel
theorem d_Lw_law_679 : decode code 679 = .ok (.iload 5, 2) := by decide +kernel
theorem d_Lw_law_681 : decode code 681 = .ok (.ifCond .ne 15, 3) := by decide +kernel
theorem d_Lw_law_684 : decode code 684 = .ok (.aload_n 3, 1) := by decide +kernel
theorem d_Lw_law_685 : decode code 685 = .ok (.iconst 0, 1) := by decide +kernel
theorem d_Lw_law_686 : decode code 686 = .ok (.laload, 1) := by decide +kernel
theorem d_Lw_law_687 : decode code 687 = .ok (.iload 6, 2) := by decide +kernel
theorem d_Lw_law_689 : decode code 689 = .ok (.i2l, 1) := by decide +kernel
theorem d_Lw_law_690 : decode code 690 = .ok (.lcmp, 1) := by decide +kernel
theorem d_Lw_law_691 : decode code 691 = .ok (.ifCond .eq 5, 3) := by decide +kernel
theorem d_Lw_law_694 : decode code 694 = .ok (.iconst 0, 1) := by decide +kernel
theorem d_Lw_law_695 : decode code 695 = .ok (.ireturn, 1) := by decide +kernel
theorem d_Lw_law_696 : decode code 696 = .ok (.goto 345, 3) := by decide +kernel
theorem d_Lw_law_699 : decode code 699 = .ok (.aload_n 1, 1) := by decide +kernel
theorem d_Lw_law_700 : decode code 700 = .ok (.aload_n 0, 1) := by decide +kernel
theorem d_Lw_law_701 : decode code 701 = .ok (.iload 4, 2) := by decide +kernel
theorem d_Lw_law_703 : decode code 703 = .ok (.iconst 1, 1) := by decide +kernel
theorem d_Lw_law_704 : decode code 704 = .ok (.iadd, 1) := by decide +kernel
theorem d_Lw_law_705 : decode code 705 = .ok (.iaload, 1) := by decide +kernel
theorem d_Lw_law_706 : decode code 706 = .ok (.aload_n 3, 1) := by decide +kernel
theorem d_Lw_law_707 : decode code 707 = .ok (.invokestatic 118, 3) := by decide +kernel
theorem d_Lw_law_710 : decode code 710 = .ok (.istore 5, 2) := by decide +kernel
theorem d_Lw_law_712 : decode code 712 = .ok (.aload_n 2, 1) := by decide +kernel
theorem d_Lw_law_713 : decode code 713 = .ok (.aload_n 0, 1) := by decide +kernel
theorem d_Lw_law_714 : decode code 714 = .ok (.iload 4, 2) := by decide +kernel
theorem d_Lw_law_716 : decode code 716 = .ok (.iconst 1, 1) := by decide +kernel
theorem d_Lw_law_717 : decode code 717 = .ok (.iadd, 1) := by decide +kernel
theorem d_Lw_law_718 : decode code 718 = .ok (.iaload, 1) := by decide +kernel
theorem d_Lw_law_719 : decode code 719 = .ok (.invokevirtual 120, 3) := by decide +kernel
theorem d_Lw_law_722 : decode code 722 = .ok (.istore 6, 2) := by decide +kernel
theorem d_Lw_law_724 : decode code 724 = .ok (.aload_n 2, 1) := by decide +kernel
theorem d_Lw_law_725 : decode code 725 = .ok (.invokevirtual 83, 3) := by decide +kernel
theorem d_Lw_law_728 : decode code 728 = .ok (.iload 5, 2) := by decide +kernel
theorem d_Lw_law_730 : decode code 730 = .ok (.if_icmp .eq 5, 3) := by decide +kernel
theorem d_Lw_law_733 : decode code 733 = .ok (.iconst 0, 1) := by decide +kernel
theorem d_Lw_law_734 : decode code 734 = .ok (.ireturn, 1) := by decide +kernel
theorem d_Lw_law_735 : decode code 735 = .ok (.iload 5, 2) := by decide +kernel
theorem d_Lw_law_737 : decode code 737 = .ok (.ifCond .ne 15, 3) := by decide +kernel
theorem d_Lw_law_740 : decode code 740 = .ok (.aload_n 3, 1) := by decide +kernel
theorem d_Lw_law_741 : decode code 741 = .ok (.iconst 0, 1) := by decide +kernel
theorem d_Lw_law_742 : decode code 742 = .ok (.laload, 1) := by decide +kernel
theorem d_Lw_law_743 : decode code 743 = .ok (.iload 6, 2) := by decide +kernel
theorem d_Lw_law_745 : decode code 745 = .ok (.i2l, 1) := by decide +kernel
theorem d_Lw_law_746 : decode code 746 = .ok (.lcmp, 1) := by decide +kernel
theorem d_Lw_law_747 : decode code 747 = .ok (.ifCond .eq 5, 3) := by decide +kernel
theorem d_Lw_law_750 : decode code 750 = .ok (.iconst 0, 1) := by decide +kernel
theorem d_Lw_law_751 : decode code 751 = .ok (.ireturn, 1) := by decide +kernel
theorem d_Lw_law_752 : decode code 752 = .ok (.goto 289, 3) := by decide +kernel
theorem d_Lw_law_755 : decode code 755 = .ok (.aload_n 1, 1) := by decide +kernel
theorem d_Lw_law_756 : decode code 756 = .ok (.aload_n 0, 1) := by decide +kernel
theorem d_Lw_law_757 : decode code 757 = .ok (.iload 4, 2) := by decide +kernel
theorem d_Lw_law_759 : decode code 759 = .ok (.iconst 1, 1) := by decide +kernel
theorem d_Lw_law_760 : decode code 760 = .ok (.iadd, 1) := by decide +kernel
theorem d_Lw_law_761 : decode code 761 = .ok (.iaload, 1) := by decide +kernel
theorem d_Lw_law_762 : decode code 762 = .ok (.aload_n 0, 1) := by decide +kernel
theorem d_Lw_law_763 : decode code 763 = .ok (.iload 4, 2) := by decide +kernel
theorem d_Lw_law_765 : decode code 765 = .ok (.iconst 2, 1) := by decide +kernel
theorem d_Lw_law_766 : decode code 766 = .ok (.iadd, 1) := by decide +kernel
theorem d_Lw_law_767 : decode code 767 = .ok (.iaload, 1) := by decide +kernel
theorem d_Lw_law_768 : decode code 768 = .ok (.invokestatic 121, 3) := by decide +kernel
theorem d_Lw_law_771 : decode code 771 = .ok (.istore 5, 2) := by decide +kernel
theorem d_Lw_law_773 : decode code 773 = .ok (.aload_n 2, 1) := by decide +kernel
theorem d_Lw_law_774 : decode code 774 = .ok (.aload_n 0, 1) := by decide +kernel
theorem d_Lw_law_775 : decode code 775 = .ok (.iload 4, 2) := by decide +kernel
theorem d_Lw_law_777 : decode code 777 = .ok (.iconst 1, 1) := by decide +kernel
theorem d_Lw_law_778 : decode code 778 = .ok (.iadd, 1) := by decide +kernel
theorem d_Lw_law_779 : decode code 779 = .ok (.iaload, 1) := by decide +kernel
theorem d_Lw_law_780 : decode code 780 = .ok (.aload_n 0, 1) := by decide +kernel
theorem d_Lw_law_781 : decode code 781 = .ok (.iload 4, 2) := by decide +kernel
theorem d_Lw_law_783 : decode code 783 = .ok (.iconst 2, 1) := by decide +kernel
theorem d_Lw_law_784 : decode code 784 = .ok (.iadd, 1) := by decide +kernel
theorem d_Lw_law_785 : decode code 785 = .ok (.iaload, 1) := by decide +kernel
theorem d_Lw_law_786 : decode code 786 = .ok (.invokevirtual 124, 3) := by decide +kernel
theorem d_Lw_law_789 : decode code 789 = .ok (.aload_n 2, 1) := by decide +kernel
theorem d_Lw_law_790 : decode code 790 = .ok (.invokevirtual 83, 3) := by decide +kernel
theorem d_Lw_law_793 : decode code 793 = .ok (.iload 5, 2) := by decide +kernel
theorem d_Lw_law_795 : decode code 795 = .ok (.if_icmp .eq 5, 3) := by decide +kernel
theorem d_Lw_law_798 : decode code 798 = .ok (.iconst 0, 1) := by decide +kernel
theorem d_Lw_law_799 : decode code 799 = .ok (.ireturn, 1) := by decide +kernel
theorem d_Lw_law_800 : decode code 800 = .ok (.goto 241, 3) := by decide +kernel
theorem d_Lw_law_803 : decode code 803 = .ok (.aload_n 1, 1) := by decide +kernel
theorem d_Lw_law_804 : decode code 804 = .ok (.aload_n 0, 1) := by decide +kernel
theorem d_Lw_law_805 : decode code 805 = .ok (.iload 4, 2) := by decide +kernel
theorem d_Lw_law_807 : decode code 807 = .ok (.iconst 1, 1) := by decide +kernel
theorem d_Lw_law_808 : decode code 808 = .ok (.iadd, 1) := by decide +kernel
theorem d_Lw_law_809 : decode code 809 = .ok (.iaload, 1) := by decide +kernel
theorem d_Lw_law_810 : decode code 810 = .ok (.aload_n 0, 1) := by decide +kernel
theorem d_Lw_law_811 : decode code 811 = .ok (.iload 4, 2) := by decide +kernel
theorem d_Lw_law_813 : decode code 813 = .ok (.iconst 2, 1) := by decide +kernel
theorem d_Lw_law_814 : decode code 814 = .ok (.iadd, 1) := by decide +kernel
theorem d_Lw_law_815 : decode code 815 = .ok (.iaload, 1) := by decide +kernel
theorem d_Lw_law_816 : decode code 816 = .ok (.aload_n 3, 1) := by decide +kernel
theorem d_Lw_law_817 : decode code 817 = .ok (.invokestatic 125, 3) := by decide +kernel
theorem d_Lw_law_820 : decode code 820 = .ok (.istore 5, 2) := by decide +kernel
theorem d_Lw_law_822 : decode code 822 = .ok (.aload_n 2, 1) := by decide +kernel
theorem d_Lw_law_823 : decode code 823 = .ok (.aload_n 0, 1) := by decide +kernel
theorem d_Lw_law_824 : decode code 824 = .ok (.iload 4, 2) := by decide +kernel
theorem d_Lw_law_826 : decode code 826 = .ok (.iconst 1, 1) := by decide +kernel
theorem d_Lw_law_827 : decode code 827 = .ok (.iadd, 1) := by decide +kernel
theorem d_Lw_law_828 : decode code 828 = .ok (.iaload, 1) := by decide +kernel
theorem d_Lw_law_829 : decode code 829 = .ok (.aload_n 0, 1) := by decide +kernel
theorem d_Lw_law_830 : decode code 830 = .ok (.iload 4, 2) := by decide +kernel
theorem d_Lw_law_832 : decode code 832 = .ok (.iconst 2, 1) := by decide +kernel
theorem d_Lw_law_833 : decode code 833 = .ok (.iadd, 1) := by decide +kernel
theorem d_Lw_law_834 : decode code 834 = .ok (.iaload, 1) := by decide +kernel
theorem d_Lw_law_835 : decode code 835 = .ok (.invokevirtual 127, 3) := by decide +kernel
theorem d_Lw_law_838 : decode code 838 = .ok (.istore 6, 2) := by decide +kernel
theorem d_Lw_law_840 : decode code 840 = .ok (.aload_n 2, 1) := by decide +kernel
theorem d_Lw_law_841 : decode code 841 = .ok (.invokevirtual 83, 3) := by decide +kernel
theorem d_Lw_law_844 : decode code 844 = .ok (.iload 5, 2) := by decide +kernel
theorem d_Lw_law_846 : decode code 846 = .ok (.if_icmp .eq 5, 3) := by decide +kernel
theorem d_Lw_law_849 : decode code 849 = .ok (.iconst 0, 1) := by decide +kernel
theorem d_Lw_law_850 : decode code 850 = .ok (.ireturn, 1) := by decide +kernel
theorem d_Lw_law_851 : decode code 851 = .ok (.iload 5, 2) := by decide +kernel
theorem d_Lw_law_853 : decode code 853 = .ok (.ifCond .ne 15, 3) := by decide +kernel
theorem d_Lw_law_856 : decode code 856 = .ok (.aload_n 3, 1) := by decide +kernel
theorem d_Lw_law_857 : decode code 857 = .ok (.iconst 0, 1) := by decide +kernel
theorem d_Lw_law_858 : decode code 858 = .ok (.laload, 1) := by decide +kernel
theorem d_Lw_law_859 : decode code 859 = .ok (.iload 6, 2) := by decide +kernel
theorem d_Lw_law_861 : decode code 861 = .ok (.i2l, 1) := by decide +kernel
theorem d_Lw_law_862 : decode code 862 = .ok (.lcmp, 1) := by decide +kernel
theorem d_Lw_law_863 : decode code 863 = .ok (.ifCond .eq 5, 3) := by decide +kernel
theorem d_Lw_law_866 : decode code 866 = .ok (.iconst 0, 1) := by decide +kernel
theorem d_Lw_law_867 : decode code 867 = .ok (.ireturn, 1) := by decide +kernel
theorem d_Lw_law_868 : decode code 868 = .ok (.goto 173, 3) := by decide +kernel
theorem d_Lw_law_871 : decode code 871 = .ok (.aload_n 1, 1) := by decide +kernel
theorem d_Lw_law_872 : decode code 872 = .ok (.aload_n 3, 1) := by decide +kernel
theorem d_Lw_law_873 : decode code 873 = .ok (.invokestatic 128, 3) := by decide +kernel
theorem d_Lw_law_876 : decode code 876 = .ok (.istore 5, 2) := by decide +kernel
theorem d_Lw_law_878 : decode code 878 = .ok (.aload_n 2, 1) := by decide +kernel
theorem d_Lw_law_879 : decode code 879 = .ok (.invokevirtual 130, 3) := by decide +kernel
theorem d_Lw_law_882 : decode code 882 = .ok (.istore 6, 2) := by decide +kernel
theorem d_Lw_law_884 : decode code 884 = .ok (.aload_n 2, 1) := by decide +kernel
theorem d_Lw_law_885 : decode code 885 = .ok (.invokevirtual 83, 3) := by decide +kernel
theorem d_Lw_law_888 : decode code 888 = .ok (.iload 5, 2) := by decide +kernel
theorem d_Lw_law_890 : decode code 890 = .ok (.if_icmp .eq 5, 3) := by decide +kernel
theorem d_Lw_law_893 : decode code 893 = .ok (.iconst 0, 1) := by decide +kernel
theorem d_Lw_law_894 : decode code 894 = .ok (.ireturn, 1) := by decide +kernel
theorem d_Lw_law_895 : decode code 895 = .ok (.iload 5, 2) := by decide +kernel
theorem d_Lw_law_897 : decode code 897 = .ok (.ifCond .ne 22, 3) := by decide +kernel
theorem d_Lw_law_900 : decode code 900 = .ok (.aload_n 3, 1) := by decide +kernel
theorem d_Lw_law_901 : decode code 901 = .ok (.iconst 0, 1) := by decide +kernel
theorem d_Lw_law_902 : decode code 902 = .ok (.laload, 1) := by decide +kernel
theorem d_Lw_law_903 : decode code 903 = .ok (.iload 6, 2) := by decide +kernel
theorem d_Lw_law_905 : decode code 905 = .ok (.ifCond .eq 7, 3) := by decide +kernel
theorem d_Lw_law_908 : decode code 908 = .ok (.lconst 1, 1) := by decide +kernel
theorem d_Lw_law_909 : decode code 909 = .ok (.goto 4, 3) := by decide +kernel
theorem d_Lw_law_912 : decode code 912 = .ok (.lconst 0, 1) := by decide +kernel
theorem d_Lw_law_913 : decode code 913 = .ok (.lcmp, 1) := by decide +kernel
theorem d_Lw_law_914 : decode code 914 = .ok (.ifCond .eq 5, 3) := by decide +kernel
theorem d_Lw_law_917 : decode code 917 = .ok (.iconst 0, 1) := by decide +kernel
theorem d_Lw_law_918 : decode code 918 = .ok (.ireturn, 1) := by decide +kernel
theorem d_Lw_law_919 : decode code 919 = .ok (.goto 122, 3) := by decide +kernel
theorem d_Lw_law_922 : decode code 922 = .ok (.aload_n 1, 1) := by decide +kernel
theorem d_Lw_law_923 : decode code 923 = .ok (.aload_n 0, 1) := by decide +kernel
theorem d_Lw_law_924 : decode code 924 = .ok (.iload 4, 2) := by decide +kernel
theorem d_Lw_law_926 : decode code 926 = .ok (.iconst 1, 1) := by decide +kernel
theorem d_Lw_law_927 : decode code 927 = .ok (.iadd, 1) := by decide +kernel
theorem d_Lw_law_928 : decode code 928 = .ok (.iaload, 1) := by decide +kernel
theorem d_Lw_law_929 : decode code 929 = .ok (.aload_n 3, 1) := by decide +kernel
theorem d_Lw_law_930 : decode code 930 = .ok (.invokestatic 131, 3) := by decide +kernel
theorem d_Lw_law_933 : decode code 933 = .ok (.istore 5, 2) := by decide +kernel
theorem d_Lw_law_935 : decode code 935 = .ok (.aload_n 2, 1) := by decide +kernel
theorem d_Lw_law_936 : decode code 936 = .ok (.aload_n 0, 1) := by decide +kernel
theorem d_Lw_law_937 : decode code 937 = .ok (.iload 4, 2) := by decide +kernel
theorem d_Lw_law_939 : decode code 939 = .ok (.iconst 1, 1) := by decide +kernel
theorem d_Lw_law_940 : decode code 940 = .ok (.iadd, 1) := by decide +kernel
theorem d_Lw_law_941 : decode code 941 = .ok (.iaload, 1) := by decide +kernel
theorem d_Lw_law_942 : decode code 942 = .ok (.invokevirtual 133, 3) := by decide +kernel
theorem d_Lw_law_945 : decode code 945 = .ok (.istore 6, 2) := by decide +kernel
theorem d_Lw_law_947 : decode code 947 = .ok (.aload_n 2, 1) := by decide +kernel
theorem d_Lw_law_948 : decode code 948 = .ok (.invokevirtual 83, 3) := by decide +kernel
theorem d_Lw_law_951 : decode code 951 = .ok (.iload 5, 2) := by decide +kernel
theorem d_Lw_law_953 : decode code 953 = .ok (.if_icmp .eq 5, 3) := by decide +kernel
theorem d_Lw_law_956 : decode code 956 = .ok (.iconst 0, 1) := by decide +kernel
theorem d_Lw_law_957 : decode code 957 = .ok (.ireturn, 1) := by decide +kernel
theorem d_Lw_law_958 : decode code 958 = .ok (.iload 5, 2) := by decide +kernel
theorem d_Lw_law_960 : decode code 960 = .ok (.ifCond .ne 15, 3) := by decide +kernel
theorem d_Lw_law_963 : decode code 963 = .ok (.aload_n 3, 1) := by decide +kernel
theorem d_Lw_law_964 : decode code 964 = .ok (.iconst 0, 1) := by decide +kernel
theorem d_Lw_law_965 : decode code 965 = .ok (.laload, 1) := by decide +kernel
theorem d_Lw_law_966 : decode code 966 = .ok (.iload 6, 2) := by decide +kernel
theorem d_Lw_law_968 : decode code 968 = .ok (.i2l, 1) := by decide +kernel
theorem d_Lw_law_969 : decode code 969 = .ok (.lcmp, 1) := by decide +kernel
theorem d_Lw_law_970 : decode code 970 = .ok (.ifCond .eq 5, 3) := by decide +kernel
theorem d_Lw_law_973 : decode code 973 = .ok (.iconst 0, 1) := by decide +kernel
theorem d_Lw_law_974 : decode code 974 = .ok (.ireturn, 1) := by decide +kernel
theorem d_Lw_law_975 : decode code 975 = .ok (.goto 66, 3) := by decide +kernel
theorem d_Lw_law_978 : decode code 978 = .ok (.aload_n 1, 1) := by decide +kernel
theorem d_Lw_law_979 : decode code 979 = .ok (.aload_n 0, 1) := by decide +kernel
theorem d_Lw_law_980 : decode code 980 = .ok (.iload 4, 2) := by decide +kernel
theorem d_Lw_law_982 : decode code 982 = .ok (.iconst 1, 1) := by decide +kernel
theorem d_Lw_law_983 : decode code 983 = .ok (.iadd, 1) := by decide +kernel
theorem d_Lw_law_984 : decode code 984 = .ok (.iaload, 1) := by decide +kernel
theorem d_Lw_law_985 : decode code 985 = .ok (.aload_n 3, 1) := by decide +kernel
theorem d_Lw_law_986 : decode code 986 = .ok (.invokestatic 134, 3) := by decide +kernel
theorem d_Lw_law_989 : decode code 989 = .ok (.istore 5, 2) := by decide +kernel
theorem d_Lw_law_991 : decode code 991 = .ok (.aload_n 2, 1) := by decide +kernel
theorem d_Lw_law_992 : decode code 992 = .ok (.aload_n 0, 1) := by decide +kernel
theorem d_Lw_law_993 : decode code 993 = .ok (.iload 4, 2) := by decide +kernel
theorem d_Lw_law_995 : decode code 995 = .ok (.iconst 1, 1) := by decide +kernel
theorem d_Lw_law_996 : decode code 996 = .ok (.iadd, 1) := by decide +kernel
theorem d_Lw_law_997 : decode code 997 = .ok (.iaload, 1) := by decide +kernel
theorem d_Lw_law_998 : decode code 998 = .ok (.invokevirtual 136, 3) := by decide +kernel
theorem d_Lw_law_1001 : decode code 1001 = .ok (.istore 6, 2) := by decide +kernel
theorem d_Lw_law_1003 : decode code 1003 = .ok (.aload_n 2, 1) := by decide +kernel
theorem d_Lw_law_1004 : decode code 1004 = .ok (.invokevirtual 83, 3) := by decide +kernel
theorem d_Lw_law_1007 : decode code 1007 = .ok (.iload 5, 2) := by decide +kernel
theorem d_Lw_law_1009 : decode code 1009 = .ok (.if_icmp .eq 5, 3) := by decide +kernel
theorem d_Lw_law_1012 : decode code 1012 = .ok (.iconst 0, 1) := by decide +kernel
theorem d_Lw_law_1013 : decode code 1013 = .ok (.ireturn, 1) := by decide +kernel
theorem d_Lw_law_1014 : decode code 1014 = .ok (.iload 5, 2) := by decide +kernel
theorem d_Lw_law_1016 : decode code 1016 = .ok (.ifCond .ne 22, 3) := by decide +kernel
theorem d_Lw_law_1019 : decode code 1019 = .ok (.aload_n 3, 1) := by decide +kernel
theorem d_Lw_law_1020 : decode code 1020 = .ok (.iconst 0, 1) := by decide +kernel
theorem d_Lw_law_1021 : decode code 1021 = .ok (.laload, 1) := by decide +kernel
theorem d_Lw_law_1022 : decode code 1022 = .ok (.iload 6, 2) := by decide +kernel
theorem d_Lw_law_1024 : decode code 1024 = .ok (.ifCond .eq 7, 3) := by decide +kernel
theorem d_Lw_law_1027 : decode code 1027 = .ok (.lconst 1, 1) := by decide +kernel
theorem d_Lw_law_1028 : decode code 1028 = .ok (.goto 4, 3) := by decide +kernel
theorem d_Lw_law_1031 : decode code 1031 = .ok (.lconst 0, 1) := by decide +kernel
theorem d_Lw_law_1032 : decode code 1032 = .ok (.lcmp, 1) := by decide +kernel
theorem d_Lw_law_1033 : decode code 1033 = .ok (.ifCond .eq 5, 3) := by decide +kernel
theorem d_Lw_law_1036 : decode code 1036 = .ok (.iconst 0, 1) := by decide +kernel
theorem d_Lw_law_1037 : decode code 1037 = .ok (.ireturn, 1) := by decide +kernel
theorem d_Lw_law_1038 : decode code 1038 = .ok (.goto 3, 3) := by decide +kernel
theorem d_Lw_law_1041 : decode code 1041 = .ok (.iinc 4 3, 3) := by decide +kernel
theorem d_Lw_law_1044 : decode code 1044 = .ok (.goto (-1021), 3) := by decide +kernel
theorem d_Lw_law_1047 : decode code 1047 = .ok (.iconst 1, 1) := by decide +kernel
theorem d_Lw_law_1048 : decode code 1048 = .ok (.ireturn, 1) := by decide +kernel
theorem d_Ar_fill_0 : decode prog_16_method_103_code 0 = .ok (.iconst 0, 1) := by decide +kernel
theorem d_Ar_fill_1 : decode prog_16_method_103_code 1 = .ok (.istore_n 2, 1) := by decide +kernel
theorem d_Ar_fill_2 : decode prog_16_method_103_code 2 = .ok (.aload_n 0, 1) := by decide +kernel
theorem d_Ar_fill_3 : decode prog_16_method_103_code 3 = .ok (.arraylength, 1) := by decide +kernel
theorem d_Ar_fill_4 : decode prog_16_method_103_code 4 = .ok (.istore_n 3, 1) := by decide +kernel
theorem d_Ar_fill_5 : decode prog_16_method_103_code 5 = .ok (.iload_n 2, 1) := by decide +kernel
theorem d_Ar_fill_6 : decode prog_16_method_103_code 6 = .ok (.iload_n 3, 1) := by decide +kernel
theorem d_Ar_fill_7 : decode prog_16_method_103_code 7 = .ok (.if_icmp .ge 13, 3) := by decide +kernel
theorem d_Ar_fill_10 : decode prog_16_method_103_code 10 = .ok (.aload_n 0, 1) := by decide +kernel
theorem d_Ar_fill_11 : decode prog_16_method_103_code 11 = .ok (.iload_n 2, 1) := by decide +kernel
theorem d_Ar_fill_12 : decode prog_16_method_103_code 12 = .ok (.iload_n 1, 1) := by decide +kernel
theorem d_Ar_fill_13 : decode prog_16_method_103_code 13 = .ok (.iastore, 1) := by decide +kernel
theorem d_Ar_fill_14 : decode prog_16_method_103_code 14 = .ok (.iinc 2 1, 3) := by decide +kernel
theorem d_Ar_fill_17 : decode prog_16_method_103_code 17 = .ok (.goto (-12), 3) := by decide +kernel
theorem d_Ar_fill_20 : decode prog_16_method_103_code 20 = .ok (.return_, 1) := by decide +kernel
theorem d_D_init_0 : decode prog_1_method_1_code 0 = .ok (.aload_n 0, 1) := by decide +kernel
theorem d_D_init_1 : decode prog_1_method_1_code 1 = .ok (.invokespecial 3, 3) := by decide +kernel
theorem d_D_init_4 : decode prog_1_method_1_code 4 = .ok (.aload_n 0, 1) := by decide +kernel
theorem d_D_init_5 : decode prog_1_method_1_code 5 = .ok (.new 9, 3) := by decide +kernel
theorem d_D_init_8 : decode prog_1_method_1_code 8 = .ok (.dup, 1) := by decide +kernel
theorem d_D_init_9 : decode prog_1_method_1_code 9 = .ok (.invokespecial 11, 3) := by decide +kernel
theorem d_D_init_12 : decode prog_1_method_1_code 12 = .ok (.putfield 12, 3) := by decide +kernel
theorem d_D_init_15 : decode prog_1_method_1_code 15 = .ok (.aload_n 0, 1) := by decide +kernel
theorem d_D_init_16 : decode prog_1_method_1_code 16 = .ok (.new 16, 3) := by decide +kernel
theorem d_D_init_19 : decode prog_1_method_1_code 19 = .ok (.dup, 1) := by decide +kernel
theorem d_D_init_20 : decode prog_1_method_1_code 20 = .ok (.invokespecial 18, 3) := by decide +kernel
theorem d_D_init_23 : decode prog_1_method_1_code 23 = .ok (.putfield 19, 3) := by decide +kernel
theorem d_D_init_26 : decode prog_1_method_1_code 26 = .ok (.aload_n 0, 1) := by decide +kernel
theorem d_D_init_27 : decode prog_1_method_1_code 27 = .ok (.new 23, 3) := by decide +kernel
theorem d_D_init_30 : decode prog_1_method_1_code 30 = .ok (.dup, 1) := by decide +kernel
theorem d_D_init_31 : decode prog_1_method_1_code 31 = .ok (.invokespecial 25, 3) := by decide +kernel
theorem d_D_init_34 : decode prog_1_method_1_code 34 = .ok (.putfield 26, 3) := by decide +kernel
theorem d_D_init_37 : decode prog_1_method_1_code 37 = .ok (.aload_n 0, 1) := by decide +kernel
theorem d_D_init_38 : decode prog_1_method_1_code 38 = .ok (.new 30, 3) := by decide +kernel
theorem d_D_init_41 : decode prog_1_method_1_code 41 = .ok (.dup, 1) := by decide +kernel
theorem d_D_init_42 : decode prog_1_method_1_code 42 = .ok (.invokespecial 32, 3) := by decide +kernel
theorem d_D_init_45 : decode prog_1_method_1_code 45 = .ok (.putfield 33, 3) := by decide +kernel
theorem d_D_init_48 : decode prog_1_method_1_code 48 = .ok (.aload_n 0, 1) := by decide +kernel
theorem d_D_init_49 : decode prog_1_method_1_code 49 = .ok (.new 37, 3) := by decide +kernel
theorem d_D_init_52 : decode prog_1_method_1_code 52 = .ok (.dup, 1) := by decide +kernel
theorem d_D_init_53 : decode prog_1_method_1_code 53 = .ok (.invokespecial 39, 3) := by decide +kernel
theorem d_D_init_56 : decode prog_1_method_1_code 56 = .ok (.putfield 40, 3) := by decide +kernel
theorem d_D_init_59 : decode prog_1_method_1_code 59 = .ok (.aload_n 0, 1) := by decide +kernel
theorem d_D_init_60 : decode prog_1_method_1_code 60 = .ok (.new 37, 3) := by decide +kernel
theorem d_D_init_63 : decode prog_1_method_1_code 63 = .ok (.dup, 1) := by decide +kernel
theorem d_D_init_64 : decode prog_1_method_1_code 64 = .ok (.invokespecial 39, 3) := by decide +kernel
theorem d_D_init_67 : decode prog_1_method_1_code 67 = .ok (.putfield 44, 3) := by decide +kernel
theorem d_D_init_70 : decode prog_1_method_1_code 70 = .ok (.aload_n 0, 1) := by decide +kernel
theorem d_D_init_71 : decode prog_1_method_1_code 71 = .ok (.iconst 0, 1) := by decide +kernel
theorem d_D_init_72 : decode prog_1_method_1_code 72 = .ok (.putfield 47, 3) := by decide +kernel
theorem d_D_init_75 : decode prog_1_method_1_code 75 = .ok (.aload_n 0, 1) := by decide +kernel
theorem d_D_init_76 : decode prog_1_method_1_code 76 = .ok (.iconst 0, 1) := by decide +kernel
theorem d_D_init_77 : decode prog_1_method_1_code 77 = .ok (.putfield 51, 3) := by decide +kernel
theorem d_D_init_80 : decode prog_1_method_1_code 80 = .ok (.return_, 1) := by decide +kernel
theorem d_Mo_init_0 : decode prog_8_method_1_code 0 = .ok (.aload_n 0, 1) := by decide +kernel
theorem d_Mo_init_1 : decode prog_8_method_1_code 1 = .ok (.invokespecial 1, 3) := by decide +kernel
theorem d_Mo_init_4 : decode prog_8_method_1_code 4 = .ok (.aload_n 0, 1) := by decide +kernel
theorem d_Mo_init_5 : decode prog_8_method_1_code 5 = .ok (.bipush 18, 2) := by decide +kernel
theorem d_Mo_init_7 : decode prog_8_method_1_code 7 = .ok (.newarray .int, 2) := by decide +kernel
theorem d_Mo_init_9 : decode prog_8_method_1_code 9 = .ok (.putfield 7, 3) := by decide +kernel
theorem d_Mo_init_12 : decode prog_8_method_1_code 12 = .ok (.aload_n 0, 1) := by decide +kernel
