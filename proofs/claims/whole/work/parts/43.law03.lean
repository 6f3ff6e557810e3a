theorem d_La_law_629 : decode code 629 = .ok (.aload_n 0, 1) := by decide +kernel
theorem d_La_law_630 : decode code 630 = .ok (.iload 4, 2) := by decide +kernel
theorem d_La_law_632 : decode code 632 = .ok (.iconst 2, 1) := by decide +kernel
theorem d_La_law_633 : decode code 633 = .ok (.iadd, 1) := by decide +kernel
theorem d_La_law_634 : decode code 634 = .ok (.iaload, 1) := by decide +kernel
theorem d_La_law_635 : decode code 635 = .ok (.invokevirtual 115, 3) := by decide +kernel
theorem d_La_law_638 : decode code 638 = .ok (.istore 6, 2) := by decide +kernel
theorem d_La_law_640 : decode code 640 = .ok (.aload_n 2, 1) := by decide +kernel
theorem d_La_law_641 : decode code 641 = .ok (.invokevirtual 92, 3) := by decide +kernel
theorem d_La_law_644 : decode code 644 = .ok (.iload 5, 2) := by decide +kernel
theorem d_La_law_646 : decode code 646 = .ok (.if_icmp .eq 5, 3) := by decide +kernel
theorem d_La_law_649 : decode code 649 = .ok (.iconst 0, 1) := by decide +kernel
theorem d_La_law_650 : decode code 650 = .ok (.ireturn, 1) := by decide +kernel
theorem d_La_law_651 : decode code 651 = .ok (.iload 5, 2) := by decide +kernel
theorem d_La_law_653 : decode code 653 = .ok (.ifCond .ne 15, 3) := by decide +kernel
theorem d_La_law_656 : decode code 656 = .ok (.aload_n 3, 1) := by decide +kernel
theorem d_La_law_657 : decode code 657 = .ok (.iconst 0, 1) := by decide +kernel
theorem d_La_law_658 : decode code 658 = .ok (.laload, 1) := by decide +kernel
theorem d_La_law_659 : decode code 659 = .ok (.iload 6, 2) := by decide +kernel
theorem d_La_law_661 : decode code 661 = .ok (.i2l, 1) := by decide +kernel
theorem d_La_law_662 : decode code 662 = .ok (.lcmp, 1) := by decide +kernel
theorem d_La_law_663 : decode code 663 = .ok (.ifCond .eq 5, 3) := by decide +kernel
theorem d_La_law_666 : decode code 666 = .ok (.iconst 0, 1) := by decide +kernel
theorem d_La_law_667 : decode code 667 = .ok (.ireturn, 1) := by decide +kernel
theorem d_La_law_668 : decode code 668 = .ok (.goto 859, 3) := by decide +kernel
theorem d_La_law_671 : decode code 671 = .ok (.aload_n 1, 1) := by decide +kernel
theorem d_La_law_672 : decode code 672 = .ok (.aload_n 0, 1) := by decide +kernel
theorem d_La_law_673 : decode code 673 = .ok (.iload 4, 2) := by decide +kernel
theorem d_La_law_675 : decode code 675 = .ok (.iconst 1, 1) := by decide +kernel
theorem d_La_law_676 : decode code 676 = .ok (.iadd, 1) := by decide +kernel
theorem d_La_law_677 : decode code 677 = .ok (.iaload, 1) := by decide +kernel
theorem d_La_law_678 : decode code 678 = .ok (.aload_n 0, 1) := by decide +kernel
theorem d_La_law_679 : decode code 679 = .ok (.iload 4, 2) := by decide +kernel
theorem d_La_law_681 : decode code 681 = .ok (.iconst 2, 1) := by decide +kernel
theorem d_La_law_682 : decode code 682 = .ok (.iadd, 1) := by decide +kernel
theorem d_La_law_683 : decode code 683 = .ok (.iaload, 1) := by decide +kernel
theorem d_La_law_684 : decode code 684 = .ok (.aload_n 3, 1) := by decide +kernel
theorem d_La_law_685 : decode code 685 = .ok (.invokestatic 116, 3) := by decide +kernel
theorem d_La_law_688 : decode code 688 = .ok (.istore 5, 2) := by decide +kernel
theorem d_La_law_690 : decode code 690 = .ok (.aload_n 2, 1) := by decide +kernel
theorem d_La_law_691 : decode code 691 = .ok (.aload_n 0, 1) := by decide +kernel
theorem d_La_law_692 : decode code 692 = .ok (.iload 4, 2) := by decide +kernel
theorem d_La_law_694 : decode code 694 = .ok (.iconst 1, 1) := by decide +kernel
theorem d_La_law_695 : decode code 695 = .ok (.iadd, 1) := by decide +kernel
theorem d_La_law_696 : decode code 696 = .ok (.iaload, 1) := by decide +kernel
theorem d_La_law_697 : decode code 697 = .ok (.aload_n 0, 1) := by decide +kernel
theorem d_La_law_698 : decode code 698 = .ok (.iload 4, 2) := by decide +kernel
theorem d_La_law_700 : decode code 700 = .ok (.iconst 2, 1) := by decide +kernel
theorem d_La_law_701 : decode code 701 = .ok (.iadd, 1) := by decide +kernel
theorem d_La_law_702 : decode code 702 = .ok (.iaload, 1) := by decide +kernel
theorem d_La_law_703 : decode code 703 = .ok (.invokevirtual 118, 3) := by decide +kernel
theorem d_La_law_706 : decode code 706 = .ok (.istore 6, 2) := by decide +kernel
theorem d_La_law_708 : decode code 708 = .ok (.aload_n 2, 1) := by decide +kernel
theorem d_La_law_709 : decode code 709 = .ok (.invokevirtual 92, 3) := by decide +kernel
theorem d_La_law_712 : decode code 712 = .ok (.iload 5, 2) := by decide +kernel
theorem d_La_law_714 : decode code 714 = .ok (.if_icmp .eq 5, 3) := by decide +kernel
theorem d_La_law_717 : decode code 717 = .ok (.iconst 0, 1) := by decide +kernel
theorem d_La_law_718 : decode code 718 = .ok (.ireturn, 1) := by decide +kernel
theorem d_La_law_719 : decode code 719 = .ok (.iload 5, 2) := by decide +kernel
theorem d_La_law_721 : decode code 721 = .ok (.ifCond .ne 15, 3) := by decide +kernel
theorem d_La_law_724 : decode code 724 = .ok (.aload_n 3, 1) := by decide +kernel
theorem d_La_law_725 : decode code 725 = .ok (.iconst 0, 1) := by decide +kernel
theorem d_La_law_726 : decode code 726 = .ok (.laload, 1) := by decide +kernel
theorem d_La_law_727 : decode code 727 = .ok (.iload 6, 2) := by decide +kernel
theorem d_La_law_729 : decode code 729 = .ok (.i2l, 1) := by decide +kernel
theorem d_La_law_730 : decode code 730 = .ok (.lcmp, 1) := by decide +kernel
theorem d_La_law_731 : decode code 731 = .ok (.ifCond .eq 5, 3) := by decide +kernel
theorem d_La_law_734 : decode code 734 = .ok (.iconst 0, 1) := by decide +kernel
theorem d_La_law_735 : decode code 735 = .ok (.ireturn, 1) := by decide +kernel
theorem d_La_law_736 : decode code 736 = .ok (.goto 791, 3) := by decide +kernel
theorem d_La_law_739 : decode code 739 = .ok (.aload_n 1, 1) := by decide +kernel
theorem d_La_law_740 : decode code 740 = .ok (.aload_n 0, 1) := by decide +kernel
theorem d_La_law_741 : decode code 741 = .ok (.iload 4, 2) := by decide +kernel
theorem d_La_law_743 : decode code 743 = .ok (.iconst 1, 1) := by decide +kernel
theorem d_La_law_744 : decode code 744 = .ok (.iadd, 1) := by decide +kernel
theorem d_La_law_745 : decode code 745 = .ok (.iaload, 1) := by decide +kernel
theorem d_La_law_746 : decode code 746 = .ok (.aload_n 0, 1) := by decide +kernel
theorem d_La_law_747 : decode code 747 = .ok (.iload 4, 2) := by decide +kernel
theorem d_La_law_749 : decode code 749 = .ok (.iconst 2, 1) := by decide +kernel
theorem d_La_law_750 : decode code 750 = .ok (.iadd, 1) := by decide +kernel
theorem d_La_law_751 : decode code 751 = .ok (.iaload, 1) := by decide +kernel
theorem d_La_law_752 : decode code 752 = .ok (.aload_n 0, 1) := by decide +kernel
theorem d_La_law_753 : decode code 753 = .ok (.iload 4, 2) := by decide +kernel
theorem d_La_law_755 : decode code 755 = .ok (.iconst 3, 1) := by decide +kernel
theorem d_La_law_756 : decode code 756 = .ok (.iadd, 1) := by decide +kernel
theorem d_La_law_757 : decode code 757 = .ok (.iaload, 1) := by decide +kernel
theorem d_La_law_758 : decode code 758 = .ok (.aload_n 0, 1) := by decide +kernel
theorem d_La_law_759 : decode code 759 = .ok (.iload 4, 2) := by decide +kernel
theorem d_La_law_761 : decode code 761 = .ok (.iconst 4, 1) := by decide +kernel
theorem d_La_law_762 : decode code 762 = .ok (.iadd, 1) := by decide +kernel
theorem d_La_law_763 : decode code 763 = .ok (.iaload, 1) := by decide +kernel
theorem d_La_law_764 : decode code 764 = .ok (.aload_n 3, 1) := by decide +kernel
theorem d_La_law_765 : decode code 765 = .ok (.invokestatic 119, 3) := by decide +kernel
theorem d_La_law_768 : decode code 768 = .ok (.istore 5, 2) := by decide +kernel
theorem d_La_law_770 : decode code 770 = .ok (.aload_n 2, 1) := by decide +kernel
theorem d_La_law_771 : decode code 771 = .ok (.aload_n 0, 1) := by decide +kernel
theorem d_La_law_772 : decode code 772 = .ok (.iload 4, 2) := by decide +kernel
theorem d_La_law_774 : decode code 774 = .ok (.iconst 1, 1) := by decide +kernel
theorem d_La_law_775 : decode code 775 = .ok (.iadd, 1) := by decide +kernel
theorem d_La_law_776 : decode code 776 = .ok (.iaload, 1) := by decide +kernel
theorem d_La_law_777 : decode code 777 = .ok (.aload_n 0, 1) := by decide +kernel
theorem d_La_law_778 : decode code 778 = .ok (.iload 4, 2) := by decide +kernel
theorem d_La_law_780 : decode code 780 = .ok (.iconst 2, 1) := by decide +kernel
theorem d_La_law_781 : decode code 781 = .ok (.iadd, 1) := by decide +kernel
theorem d_La_law_782 : decode code 782 = .ok (.iaload, 1) := by decide +kernel
theorem d_La_law_783 : decode code 783 = .ok (.aload_n 0, 1) := by decide +kernel
theorem d_La_law_784 : decode code 784 = .ok (.iload 4, 2) := by decide +kernel
theorem d_La_law_786 : decode code 786 = .ok (.iconst 3, 1) := by decide +kernel
theorem d_La_law_787 : decode code 787 = .ok (.iadd, 1) := by decide +kernel
theorem d_La_law_788 : decode code 788 = .ok (.iaload, 1) := by decide +kernel
theorem d_La_law_789 : decode code 789 = .ok (.aload_n 0, 1) := by decide +kernel
theorem d_La_law_790 : decode code 790 = .ok (.iload 4, 2) := by decide +kernel
theorem d_La_law_792 : decode code 792 = .ok (.iconst 4, 1) := by decide +kernel
theorem d_La_law_793 : decode code 793 = .ok (.iadd, 1) := by decide +kernel
theorem d_La_law_794 : decode code 794 = .ok (.iaload, 1) := by decide +kernel
theorem d_La_law_795 : decode code 795 = .ok (.invokevirtual 121, 3) := by decide +kernel
theorem d_La_law_798 : decode code 798 = .ok (.istore 6, 2) := by decide +kernel
theorem d_La_law_800 : decode code 800 = .ok (.aload_n 2, 1) := by decide +kernel
theorem d_La_law_801 : decode code 801 = .ok (.invokevirtual 92, 3) := by decide +kernel
theorem d_La_law_804 : decode code 804 = .ok (.iload 5, 2) := by decide +kernel
