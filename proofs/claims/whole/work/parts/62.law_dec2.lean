theorem d_LA_law_586 : decode code 586 = .ok (.iaload, 1) := by decide +kernel
theorem d_LA_law_587 : decode code 587 = .ok (.aload_n 0, 1) := by decide +kernel
theorem d_LA_law_588 : decode code 588 = .ok (.iload 4, 2) := by decide +kernel
theorem d_LA_law_590 : decode code 590 = .ok (.iconst 2, 1) := by decide +kernel
theorem d_LA_law_591 : decode code 591 = .ok (.iadd, 1) := by decide +kernel
theorem d_LA_law_592 : decode code 592 = .ok (.iaload, 1) := by decide +kernel
theorem d_LA_law_593 : decode code 593 = .ok (.invokevirtual 98, 3) := by decide +kernel
theorem d_LA_law_596 : decode code 596 = .ok (.istore 6, 2) := by decide +kernel
theorem d_LA_law_598 : decode code 598 = .ok (.aload_n 2, 1) := by decide +kernel
theorem d_LA_law_599 : decode code 599 = .ok (.invokevirtual 66, 3) := by decide +kernel
theorem d_LA_law_602 : decode code 602 = .ok (.iload 5, 2) := by decide +kernel
theorem d_LA_law_604 : decode code 604 = .ok (.if_icmp .eq (5), 3) := by decide +kernel
theorem d_LA_law_607 : decode code 607 = .ok (.iconst 0, 1) := by decide +kernel
theorem d_LA_law_608 : decode code 608 = .ok (.ireturn, 1) := by decide +kernel
theorem d_LA_law_609 : decode code 609 = .ok (.iload 5, 2) := by decide +kernel
theorem d_LA_law_611 : decode code 611 = .ok (.ifCond .ne (15), 3) := by decide +kernel
theorem d_LA_law_614 : decode code 614 = .ok (.aload_n 3, 1) := by decide +kernel
theorem d_LA_law_615 : decode code 615 = .ok (.iconst 0, 1) := by decide +kernel
theorem d_LA_law_616 : decode code 616 = .ok (.laload, 1) := by decide +kernel
theorem d_LA_law_617 : decode code 617 = .ok (.iload 6, 2) := by decide +kernel
theorem d_LA_law_619 : decode code 619 = .ok (.i2l, 1) := by decide +kernel
theorem d_LA_law_620 : decode code 620 = .ok (.lcmp, 1) := by decide +kernel
theorem d_LA_law_621 : decode code 621 = .ok (.ifCond .eq (5), 3) := by decide +kernel
theorem d_LA_law_624 : decode code 624 = .ok (.iconst 0, 1) := by decide +kernel
theorem d_LA_law_625 : decode code 625 = .ok (.ireturn, 1) := by decide +kernel
theorem d_LA_law_626 : decode code 626 = .ok (.goto (207), 3) := by decide +kernel
theorem d_LA_law_629 : decode code 629 = .ok (.aload_n 1, 1) := by decide +kernel
theorem d_LA_law_630 : decode code 630 = .ok (.invokevirtual 99, 3) := by decide +kernel
theorem d_LA_law_633 : decode code 633 = .ok (.aload_n 2, 1) := by decide +kernel
theorem d_LA_law_634 : decode code 634 = .ok (.invokevirtual 102, 3) := by decide +kernel
theorem d_LA_law_637 : decode code 637 = .ok (.if_icmp .eq (196), 3) := by decide +kernel
theorem d_LA_law_640 : decode code 640 = .ok (.iconst 0, 1) := by decide +kernel
theorem d_LA_law_641 : decode code 641 = .ok (.ireturn, 1) := by decide +kernel
theorem d_LA_law_642 : decode code 642 = .ok (.aload_n 1, 1) := by decide +kernel
theorem d_LA_law_643 : decode code 643 = .ok (.aload_n 0, 1) := by decide +kernel
theorem d_LA_law_644 : decode code 644 = .ok (.iload 4, 2) := by decide +kernel
theorem d_LA_law_646 : decode code 646 = .ok (.iconst 1, 1) := by decide +kernel
theorem d_LA_law_647 : decode code 647 = .ok (.iadd, 1) := by decide +kernel
theorem d_LA_law_648 : decode code 648 = .ok (.iaload, 1) := by decide +kernel
theorem d_LA_law_649 : decode code 649 = .ok (.aload_n 3, 1) := by decide +kernel
theorem d_LA_law_650 : decode code 650 = .ok (.invokestatic 103, 3) := by decide +kernel
theorem d_LA_law_653 : decode code 653 = .ok (.istore 5, 2) := by decide +kernel
theorem d_LA_law_655 : decode code 655 = .ok (.aload_n 2, 1) := by decide +kernel
theorem d_LA_law_656 : decode code 656 = .ok (.aload_n 0, 1) := by decide +kernel
theorem d_LA_law_657 : decode code 657 = .ok (.iload 4, 2) := by decide +kernel
theorem d_LA_law_659 : decode code 659 = .ok (.iconst 1, 1) := by decide +kernel
theorem d_LA_law_660 : decode code 660 = .ok (.iadd, 1) := by decide +kernel
theorem d_LA_law_661 : decode code 661 = .ok (.iaload, 1) := by decide +kernel
theorem d_LA_law_662 : decode code 662 = .ok (.invokevirtual 105, 3) := by decide +kernel
theorem d_LA_law_665 : decode code 665 = .ok (.istore 6, 2) := by decide +kernel
theorem d_LA_law_667 : decode code 667 = .ok (.aload_n 2, 1) := by decide +kernel
theorem d_LA_law_668 : decode code 668 = .ok (.invokevirtual 66, 3) := by decide +kernel
theorem d_LA_law_671 : decode code 671 = .ok (.iload 5, 2) := by decide +kernel
theorem d_LA_law_673 : decode code 673 = .ok (.if_icmp .eq (5), 3) := by decide +kernel
theorem d_LA_law_676 : decode code 676 = .ok (.iconst 0, 1) := by decide +kernel
theorem d_LA_law_677 : decode code 677 = .ok (.ireturn, 1) := by decide +kernel
theorem d_LA_law_678 : decode code 678 = .ok (.iload 5, 2) := by decide +kernel
theorem d_LA_law_680 : decode code 680 = .ok (.ifCond .ne (15), 3) := by decide +kernel
theorem d_LA_law_683 : decode code 683 = .ok (.aload_n 3, 1) := by decide +kernel
theorem d_LA_law_684 : decode code 684 = .ok (.iconst 0, 1) := by decide +kernel
theorem d_LA_law_685 : decode code 685 = .ok (.laload, 1) := by decide +kernel
theorem d_LA_law_686 : decode code 686 = .ok (.iload 6, 2) := by decide +kernel
theorem d_LA_law_688 : decode code 688 = .ok (.i2l, 1) := by decide +kernel
theorem d_LA_law_689 : decode code 689 = .ok (.lcmp, 1) := by decide +kernel
theorem d_LA_law_690 : decode code 690 = .ok (.ifCond .eq (5), 3) := by decide +kernel
theorem d_LA_law_693 : decode code 693 = .ok (.iconst 0, 1) := by decide +kernel
theorem d_LA_law_694 : decode code 694 = .ok (.ireturn, 1) := by decide +kernel
theorem d_LA_law_695 : decode code 695 = .ok (.goto (138), 3) := by decide +kernel
theorem d_LA_law_698 : decode code 698 = .ok (.aload_n 1, 1) := by decide +kernel
theorem d_LA_law_699 : decode code 699 = .ok (.aload_n 0, 1) := by decide +kernel
theorem d_LA_law_700 : decode code 700 = .ok (.iload 4, 2) := by decide +kernel
theorem d_LA_law_702 : decode code 702 = .ok (.iconst 1, 1) := by decide +kernel
theorem d_LA_law_703 : decode code 703 = .ok (.iadd, 1) := by decide +kernel
theorem d_LA_law_704 : decode code 704 = .ok (.iaload, 1) := by decide +kernel
theorem d_LA_law_705 : decode code 705 = .ok (.aload_n 0, 1) := by decide +kernel
theorem d_LA_law_706 : decode code 706 = .ok (.iload 4, 2) := by decide +kernel
theorem d_LA_law_708 : decode code 708 = .ok (.iconst 2, 1) := by decide +kernel
theorem d_LA_law_709 : decode code 709 = .ok (.iadd, 1) := by decide +kernel
theorem d_LA_law_710 : decode code 710 = .ok (.iaload, 1) := by decide +kernel
theorem d_LA_law_711 : decode code 711 = .ok (.aload_n 3, 1) := by decide +kernel
theorem d_LA_law_712 : decode code 712 = .ok (.invokestatic 106, 3) := by decide +kernel
theorem d_LA_law_715 : decode code 715 = .ok (.istore 5, 2) := by decide +kernel
theorem d_LA_law_717 : decode code 717 = .ok (.aload_n 2, 1) := by decide +kernel
theorem d_LA_law_718 : decode code 718 = .ok (.aload_n 0, 1) := by decide +kernel
theorem d_LA_law_719 : decode code 719 = .ok (.iload 4, 2) := by decide +kernel
theorem d_LA_law_721 : decode code 721 = .ok (.iconst 1, 1) := by decide +kernel
theorem d_LA_law_722 : decode code 722 = .ok (.iadd, 1) := by decide +kernel
theorem d_LA_law_723 : decode code 723 = .ok (.iaload, 1) := by decide +kernel
theorem d_LA_law_724 : decode code 724 = .ok (.aload_n 0, 1) := by decide +kernel
theorem d_LA_law_725 : decode code 725 = .ok (.iload 4, 2) := by decide +kernel
theorem d_LA_law_727 : decode code 727 = .ok (.iconst 2, 1) := by decide +kernel
theorem d_LA_law_728 : decode code 728 = .ok (.iadd, 1) := by decide +kernel
theorem d_LA_law_729 : decode code 729 = .ok (.iaload, 1) := by decide +kernel
theorem d_LA_law_730 : decode code 730 = .ok (.invokevirtual 108, 3) := by decide +kernel
theorem d_LA_law_733 : decode code 733 = .ok (.istore 6, 2) := by decide +kernel
theorem d_LA_law_735 : decode code 735 = .ok (.aload_n 2, 1) := by decide +kernel
theorem d_LA_law_736 : decode code 736 = .ok (.invokevirtual 66, 3) := by decide +kernel
theorem d_LA_law_739 : decode code 739 = .ok (.iload 5, 2) := by decide +kernel
theorem d_LA_law_741 : decode code 741 = .ok (.if_icmp .eq (5), 3) := by decide +kernel
theorem d_LA_law_744 : decode code 744 = .ok (.iconst 0, 1) := by decide +kernel
theorem d_LA_law_745 : decode code 745 = .ok (.ireturn, 1) := by decide +kernel
theorem d_LA_law_746 : decode code 746 = .ok (.iload 5, 2) := by decide +kernel
theorem d_LA_law_748 : decode code 748 = .ok (.ifCond .ne (15), 3) := by decide +kernel
theorem d_LA_law_751 : decode code 751 = .ok (.aload_n 3, 1) := by decide +kernel
theorem d_LA_law_752 : decode code 752 = .ok (.iconst 0, 1) := by decide +kernel
theorem d_LA_law_753 : decode code 753 = .ok (.laload, 1) := by decide +kernel
theorem d_LA_law_754 : decode code 754 = .ok (.iload 6, 2) := by decide +kernel
theorem d_LA_law_756 : decode code 756 = .ok (.i2l, 1) := by decide +kernel
theorem d_LA_law_757 : decode code 757 = .ok (.lcmp, 1) := by decide +kernel
theorem d_LA_law_758 : decode code 758 = .ok (.ifCond .eq (5), 3) := by decide +kernel
theorem d_LA_law_761 : decode code 761 = .ok (.iconst 0, 1) := by decide +kernel
theorem d_LA_law_762 : decode code 762 = .ok (.ireturn, 1) := by decide +kernel
theorem d_LA_law_763 : decode code 763 = .ok (.goto (70), 3) := by decide +kernel
theorem d_LA_law_766 : decode code 766 = .ok (.aload_n 1, 1) := by decide +kernel
theorem d_LA_law_767 : decode code 767 = .ok (.invokevirtual 109, 3) := by decide +kernel
theorem d_LA_law_770 : decode code 770 = .ok (.aload_n 2, 1) := by decide +kernel
theorem d_LA_law_771 : decode code 771 = .ok (.invokevirtual 112, 3) := by decide +kernel
theorem d_LA_law_774 : decode code 774 = .ok (.goto (59), 3) := by decide +kernel
theorem d_LA_law_777 : decode code 777 = .ok (.aload_n 1, 1) := by decide +kernel
theorem d_LA_law_778 : decode code 778 = .ok (.aload_n 0, 1) := by decide +kernel
theorem d_LA_law_779 : decode code 779 = .ok (.iload 4, 2) := by decide +kernel
theorem d_LA_law_781 : decode code 781 = .ok (.iconst 1, 1) := by decide +kernel
theorem d_LA_law_782 : decode code 782 = .ok (.iadd, 1) := by decide +kernel
theorem d_LA_law_783 : decode code 783 = .ok (.iaload, 1) := by decide +kernel
theorem d_LA_law_784 : decode code 784 = .ok (.aload_n 3, 1) := by decide +kernel
theorem d_LA_law_785 : decode code 785 = .ok (.invokestatic 113, 3) := by decide +kernel
theorem d_LA_law_788 : decode code 788 = .ok (.istore 5, 2) := by decide +kernel
theorem d_LA_law_790 : decode code 790 = .ok (.aload_n 2, 1) := by decide +kernel
theorem d_LA_law_791 : decode code 791 = .ok (.aload_n 0, 1) := by decide +kernel
theorem d_LA_law_792 : decode code 792 = .ok (.iload 4, 2) := by decide +kernel
theorem d_LA_law_794 : decode code 794 = .ok (.iconst 1, 1) := by decide +kernel
theorem d_LA_law_795 : decode code 795 = .ok (.iadd, 1) := by decide +kernel
theorem d_LA_law_796 : decode code 796 = .ok (.iaload, 1) := by decide +kernel
theorem d_LA_law_797 : decode code 797 = .ok (.invokevirtual 115, 3) := by decide +kernel
theorem d_LA_law_800 : decode code 800 = .ok (.istore 6, 2) := by decide +kernel
theorem d_LA_law_802 : decode code 802 = .ok (.aload_n 2, 1) := by decide +kernel
theorem d_LA_law_803 : decode code 803 = .ok (.invokevirtual 66, 3) := by decide +kernel
theorem d_LA_law_806 : decode code 806 = .ok (.iload 5, 2) := by decide +kernel
theorem d_LA_law_808 : decode code 808 = .ok (.if_icmp .eq (5), 3) := by decide +kernel
theorem d_LA_law_811 : decode code 811 = .ok (.iconst 0, 1) := by decide +kernel
theorem d_LA_law_812 : decode code 812 = .ok (.ireturn, 1) := by decide +kernel
theorem d_LA_law_813 : decode code 813 = .ok (.iload 5, 2) := by decide +kernel
theorem d_LA_law_815 : decode code 815 = .ok (.ifCond .ne (15), 3) := by decide +kernel
theorem d_LA_law_818 : decode code 818 = .ok (.aload_n 3, 1) := by decide +kernel
theorem d_LA_law_819 : decode code 819 = .ok (.iconst 0, 1) := by decide +kernel
theorem d_LA_law_820 : decode code 820 = .ok (.laload, 1) := by decide +kernel
theorem d_LA_law_821 : decode code 821 = .ok (.iload 6, 2) := by decide +kernel
theorem d_LA_law_823 : decode code 823 = .ok (.i2l, 1) := by decide +kernel
theorem d_LA_law_824 : decode code 824 = .ok (.lcmp, 1) := by decide +kernel
theorem d_LA_law_825 : decode code 825 = .ok (.ifCond .eq (5), 3) := by decide +kernel
theorem d_LA_law_828 : decode code 828 = .ok (.iconst 0, 1) := by decide +kernel
theorem d_LA_law_829 : decode code 829 = .ok (.ireturn, 1) := by decide +kernel
theorem d_LA_law_830 : decode code 830 = .ok (.goto (3), 3) := by decide +kernel
theorem d_LA_law_833 : decode code 833 = .ok (.iinc 4 6, 3) := by decide +kernel
theorem d_LA_law_836 : decode code 836 = .ok (.goto (-813), 3) := by decide +kernel
theorem d_LA_law_839 : decode code 839 = .ok (.iconst 1, 1) := by decide +kernel
theorem d_LA_law_840 : decode code 840 = .ok (.ireturn, 1) := by decide +kernel
