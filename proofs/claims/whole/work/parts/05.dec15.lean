theorem d_BlockCodeLaw_law_653 : decode b_BlockCodeLaw_law 653 = .ok (.if_icmp .eq 5, 3) := by decide +kernel
theorem d_BlockCodeLaw_law_656 : decode b_BlockCodeLaw_law 656 = .ok (.iconst 0, 1) := by decide +kernel
theorem d_BlockCodeLaw_law_657 : decode b_BlockCodeLaw_law 657 = .ok (.ireturn, 1) := by decide +kernel
theorem d_BlockCodeLaw_law_658 : decode b_BlockCodeLaw_law 658 = .ok (.iload 5, 2) := by decide +kernel
theorem d_BlockCodeLaw_law_660 : decode b_BlockCodeLaw_law 660 = .ok (.ifCond .ne 15, 3) := by decide +kernel
theorem d_BlockCodeLaw_law_663 : decode b_BlockCodeLaw_law 663 = .ok (.aload_n 3, 1) := by decide +kernel
theorem d_BlockCodeLaw_law_664 : decode b_BlockCodeLaw_law 664 = .ok (.iconst 0, 1) := by decide +kernel
theorem d_BlockCodeLaw_law_665 : decode b_BlockCodeLaw_law 665 = .ok (.laload, 1) := by decide +kernel
theorem d_BlockCodeLaw_law_666 : decode b_BlockCodeLaw_law 666 = .ok (.iload 6, 2) := by decide +kernel
theorem d_BlockCodeLaw_law_668 : decode b_BlockCodeLaw_law 668 = .ok (.i2l, 1) := by decide +kernel
theorem d_BlockCodeLaw_law_669 : decode b_BlockCodeLaw_law 669 = .ok (.lcmp, 1) := by decide +kernel
theorem d_BlockCodeLaw_law_670 : decode b_BlockCodeLaw_law 670 = .ok (.ifCond .eq 5, 3) := by decide +kernel
theorem d_BlockCodeLaw_law_673 : decode b_BlockCodeLaw_law 673 = .ok (.iconst 0, 1) := by decide +kernel
theorem d_BlockCodeLaw_law_674 : decode b_BlockCodeLaw_law 674 = .ok (.ireturn, 1) := by decide +kernel
theorem d_BlockCodeLaw_law_675 : decode b_BlockCodeLaw_law 675 = .ok (.goto 141, 3) := by decide +kernel
theorem d_BlockCodeLaw_law_678 : decode b_BlockCodeLaw_law 678 = .ok (.aload_n 1, 1) := by decide +kernel
theorem d_BlockCodeLaw_law_679 : decode b_BlockCodeLaw_law 679 = .ok (.invokevirtual 92, 3) := by decide +kernel
theorem d_BlockCodeLaw_law_682 : decode b_BlockCodeLaw_law 682 = .ok (.aload_n 2, 1) := by decide +kernel
theorem d_BlockCodeLaw_law_683 : decode b_BlockCodeLaw_law 683 = .ok (.invokevirtual 96, 3) := by decide +kernel
theorem d_BlockCodeLaw_law_686 : decode b_BlockCodeLaw_law 686 = .ok (.if_icmp .eq 130, 3) := by decide +kernel
theorem d_BlockCodeLaw_law_689 : decode b_BlockCodeLaw_law 689 = .ok (.iconst 0, 1) := by decide +kernel
theorem d_BlockCodeLaw_law_690 : decode b_BlockCodeLaw_law 690 = .ok (.ireturn, 1) := by decide +kernel
theorem d_BlockCodeLaw_law_691 : decode b_BlockCodeLaw_law 691 = .ok (.aload_n 1, 1) := by decide +kernel
theorem d_BlockCodeLaw_law_692 : decode b_BlockCodeLaw_law 692 = .ok (.aload_n 0, 1) := by decide +kernel
theorem d_BlockCodeLaw_law_693 : decode b_BlockCodeLaw_law 693 = .ok (.iload 4, 2) := by decide +kernel
theorem d_BlockCodeLaw_law_695 : decode b_BlockCodeLaw_law 695 = .ok (.iconst 1, 1) := by decide +kernel
theorem d_BlockCodeLaw_law_696 : decode b_BlockCodeLaw_law 696 = .ok (.iadd, 1) := by decide +kernel
theorem d_BlockCodeLaw_law_697 : decode b_BlockCodeLaw_law 697 = .ok (.iaload, 1) := by decide +kernel
theorem d_BlockCodeLaw_law_698 : decode b_BlockCodeLaw_law 698 = .ok (.aload_n 0, 1) := by decide +kernel
theorem d_BlockCodeLaw_law_699 : decode b_BlockCodeLaw_law 699 = .ok (.iload 4, 2) := by decide +kernel
theorem d_BlockCodeLaw_law_701 : decode b_BlockCodeLaw_law 701 = .ok (.iconst 2, 1) := by decide +kernel
theorem d_BlockCodeLaw_law_702 : decode b_BlockCodeLaw_law 702 = .ok (.iadd, 1) := by decide +kernel
theorem d_BlockCodeLaw_law_703 : decode b_BlockCodeLaw_law 703 = .ok (.iaload, 1) := by decide +kernel
theorem d_BlockCodeLaw_law_704 : decode b_BlockCodeLaw_law 704 = .ok (.invokevirtual 97, 3) := by decide +kernel
theorem d_BlockCodeLaw_law_707 : decode b_BlockCodeLaw_law 707 = .ok (.aload_n 2, 1) := by decide +kernel
theorem d_BlockCodeLaw_law_708 : decode b_BlockCodeLaw_law 708 = .ok (.aload_n 0, 1) := by decide +kernel
theorem d_BlockCodeLaw_law_709 : decode b_BlockCodeLaw_law 709 = .ok (.iload 4, 2) := by decide +kernel
theorem d_BlockCodeLaw_law_711 : decode b_BlockCodeLaw_law 711 = .ok (.iconst 1, 1) := by decide +kernel
theorem d_BlockCodeLaw_law_712 : decode b_BlockCodeLaw_law 712 = .ok (.iadd, 1) := by decide +kernel
theorem d_BlockCodeLaw_law_713 : decode b_BlockCodeLaw_law 713 = .ok (.iaload, 1) := by decide +kernel
theorem d_BlockCodeLaw_law_714 : decode b_BlockCodeLaw_law 714 = .ok (.aload_n 0, 1) := by decide +kernel
theorem d_BlockCodeLaw_law_715 : decode b_BlockCodeLaw_law 715 = .ok (.iload 4, 2) := by decide +kernel
theorem d_BlockCodeLaw_law_717 : decode b_BlockCodeLaw_law 717 = .ok (.iconst 2, 1) := by decide +kernel
theorem d_BlockCodeLaw_law_718 : decode b_BlockCodeLaw_law 718 = .ok (.iadd, 1) := by decide +kernel
theorem d_BlockCodeLaw_law_719 : decode b_BlockCodeLaw_law 719 = .ok (.iaload, 1) := by decide +kernel
theorem d_BlockCodeLaw_law_720 : decode b_BlockCodeLaw_law 720 = .ok (.invokevirtual 101, 3) := by decide +kernel
theorem d_BlockCodeLaw_law_723 : decode b_BlockCodeLaw_law 723 = .ok (.if_icmp .eq 93, 3) := by decide +kernel
theorem d_BlockCodeLaw_law_726 : decode b_BlockCodeLaw_law 726 = .ok (.iconst 0, 1) := by decide +kernel
theorem d_BlockCodeLaw_law_727 : decode b_BlockCodeLaw_law 727 = .ok (.ireturn, 1) := by decide +kernel
theorem d_BlockCodeLaw_law_728 : decode b_BlockCodeLaw_law 728 = .ok (.aload_n 1, 1) := by decide +kernel
theorem d_BlockCodeLaw_law_729 : decode b_BlockCodeLaw_law 729 = .ok (.aload_n 0, 1) := by decide +kernel
theorem d_BlockCodeLaw_law_730 : decode b_BlockCodeLaw_law 730 = .ok (.iload 4, 2) := by decide +kernel
theorem d_BlockCodeLaw_law_732 : decode b_BlockCodeLaw_law 732 = .ok (.iconst 1, 1) := by decide +kernel
theorem d_BlockCodeLaw_law_733 : decode b_BlockCodeLaw_law 733 = .ok (.iadd, 1) := by decide +kernel
theorem d_BlockCodeLaw_law_734 : decode b_BlockCodeLaw_law 734 = .ok (.iaload, 1) := by decide +kernel
theorem d_BlockCodeLaw_law_735 : decode b_BlockCodeLaw_law 735 = .ok (.invokevirtual 102, 3) := by decide +kernel
theorem d_BlockCodeLaw_law_738 : decode b_BlockCodeLaw_law 738 = .ok (.aload_n 2, 1) := by decide +kernel
theorem d_BlockCodeLaw_law_739 : decode b_BlockCodeLaw_law 739 = .ok (.aload_n 0, 1) := by decide +kernel
theorem d_BlockCodeLaw_law_740 : decode b_BlockCodeLaw_law 740 = .ok (.iload 4, 2) := by decide +kernel
theorem d_BlockCodeLaw_law_742 : decode b_BlockCodeLaw_law 742 = .ok (.iconst 1, 1) := by decide +kernel
theorem d_BlockCodeLaw_law_743 : decode b_BlockCodeLaw_law 743 = .ok (.iadd, 1) := by decide +kernel
theorem d_BlockCodeLaw_law_744 : decode b_BlockCodeLaw_law 744 = .ok (.iaload, 1) := by decide +kernel
theorem d_BlockCodeLaw_law_745 : decode b_BlockCodeLaw_law 745 = .ok (.invokevirtual 105, 3) := by decide +kernel
theorem d_BlockCodeLaw_law_748 : decode b_BlockCodeLaw_law 748 = .ok (.if_icmp .eq 68, 3) := by decide +kernel
theorem d_BlockCodeLaw_law_751 : decode b_BlockCodeLaw_law 751 = .ok (.iconst 0, 1) := by decide +kernel
theorem d_BlockCodeLaw_law_752 : decode b_BlockCodeLaw_law 752 = .ok (.ireturn, 1) := by decide +kernel
theorem d_BlockCodeLaw_law_753 : decode b_BlockCodeLaw_law 753 = .ok (.aload_n 1, 1) := by decide +kernel
theorem d_BlockCodeLaw_law_754 : decode b_BlockCodeLaw_law 754 = .ok (.aload_n 0, 1) := by decide +kernel
theorem d_BlockCodeLaw_law_755 : decode b_BlockCodeLaw_law 755 = .ok (.iload 4, 2) := by decide +kernel
theorem d_BlockCodeLaw_law_757 : decode b_BlockCodeLaw_law 757 = .ok (.iconst 1, 1) := by decide +kernel
theorem d_BlockCodeLaw_law_758 : decode b_BlockCodeLaw_law 758 = .ok (.iadd, 1) := by decide +kernel
theorem d_BlockCodeLaw_law_759 : decode b_BlockCodeLaw_law 759 = .ok (.iaload, 1) := by decide +kernel
theorem d_BlockCodeLaw_law_760 : decode b_BlockCodeLaw_law 760 = .ok (.invokevirtual 106, 3) := by decide +kernel
theorem d_BlockCodeLaw_law_763 : decode b_BlockCodeLaw_law 763 = .ok (.aload_n 2, 1) := by decide +kernel
theorem d_BlockCodeLaw_law_764 : decode b_BlockCodeLaw_law 764 = .ok (.aload_n 0, 1) := by decide +kernel
theorem d_BlockCodeLaw_law_765 : decode b_BlockCodeLaw_law 765 = .ok (.iload 4, 2) := by decide +kernel
theorem d_BlockCodeLaw_law_767 : decode b_BlockCodeLaw_law 767 = .ok (.iconst 1, 1) := by decide +kernel
theorem d_BlockCodeLaw_law_768 : decode b_BlockCodeLaw_law 768 = .ok (.iadd, 1) := by decide +kernel
theorem d_BlockCodeLaw_law_769 : decode b_BlockCodeLaw_law 769 = .ok (.iaload, 1) := by decide +kernel
theorem d_BlockCodeLaw_law_770 : decode b_BlockCodeLaw_law 770 = .ok (.invokevirtual 109, 3) := by decide +kernel
theorem d_BlockCodeLaw_law_773 : decode b_BlockCodeLaw_law 773 = .ok (.if_icmp .eq 43, 3) := by decide +kernel
theorem d_BlockCodeLaw_law_776 : decode b_BlockCodeLaw_law 776 = .ok (.iconst 0, 1) := by decide +kernel
theorem d_BlockCodeLaw_law_777 : decode b_BlockCodeLaw_law 777 = .ok (.ireturn, 1) := by decide +kernel
theorem d_BlockCodeLaw_law_778 : decode b_BlockCodeLaw_law 778 = .ok (.aload_n 1, 1) := by decide +kernel
theorem d_BlockCodeLaw_law_779 : decode b_BlockCodeLaw_law 779 = .ok (.aload_n 0, 1) := by decide +kernel
theorem d_BlockCodeLaw_law_780 : decode b_BlockCodeLaw_law 780 = .ok (.iload 4, 2) := by decide +kernel
theorem d_BlockCodeLaw_law_782 : decode b_BlockCodeLaw_law 782 = .ok (.iconst 1, 1) := by decide +kernel
theorem d_BlockCodeLaw_law_783 : decode b_BlockCodeLaw_law 783 = .ok (.iadd, 1) := by decide +kernel
theorem d_BlockCodeLaw_law_784 : decode b_BlockCodeLaw_law 784 = .ok (.iaload, 1) := by decide +kernel
theorem d_BlockCodeLaw_law_785 : decode b_BlockCodeLaw_law 785 = .ok (.invokevirtual 110, 3) := by decide +kernel
theorem d_BlockCodeLaw_law_788 : decode b_BlockCodeLaw_law 788 = .ok (.aload_n 2, 1) := by decide +kernel
theorem d_BlockCodeLaw_law_789 : decode b_BlockCodeLaw_law 789 = .ok (.aload_n 0, 1) := by decide +kernel
theorem d_BlockCodeLaw_law_790 : decode b_BlockCodeLaw_law 790 = .ok (.iload 4, 2) := by decide +kernel
theorem d_BlockCodeLaw_law_792 : decode b_BlockCodeLaw_law 792 = .ok (.iconst 1, 1) := by decide +kernel
theorem d_BlockCodeLaw_law_793 : decode b_BlockCodeLaw_law 793 = .ok (.iadd, 1) := by decide +kernel
theorem d_BlockCodeLaw_law_794 : decode b_BlockCodeLaw_law 794 = .ok (.iaload, 1) := by decide +kernel
theorem d_BlockCodeLaw_law_795 : decode b_BlockCodeLaw_law 795 = .ok (.invokevirtual 113, 3) := by decide +kernel
theorem d_BlockCodeLaw_law_798 : decode b_BlockCodeLaw_law 798 = .ok (.if_icmp .eq 18, 3) := by decide +kernel
theorem d_BlockCodeLaw_law_801 : decode b_BlockCodeLaw_law 801 = .ok (.iconst 0, 1) := by decide +kernel
theorem d_BlockCodeLaw_law_802 : decode b_BlockCodeLaw_law 802 = .ok (.ireturn, 1) := by decide +kernel
theorem d_BlockCodeLaw_law_803 : decode b_BlockCodeLaw_law 803 = .ok (.aload_n 1, 1) := by decide +kernel
theorem d_BlockCodeLaw_law_804 : decode b_BlockCodeLaw_law 804 = .ok (.invokevirtual 114, 3) := by decide +kernel
theorem d_BlockCodeLaw_law_807 : decode b_BlockCodeLaw_law 807 = .ok (.aload_n 2, 1) := by decide +kernel
theorem d_BlockCodeLaw_law_808 : decode b_BlockCodeLaw_law 808 = .ok (.invokevirtual 117, 3) := by decide +kernel
theorem d_BlockCodeLaw_law_811 : decode b_BlockCodeLaw_law 811 = .ok (.if_icmp .eq 5, 3) := by decide +kernel
theorem d_BlockCodeLaw_law_814 : decode b_BlockCodeLaw_law 814 = .ok (.iconst 0, 1) := by decide +kernel
theorem d_BlockCodeLaw_law_815 : decode b_BlockCodeLaw_law 815 = .ok (.ireturn, 1) := by decide +kernel
theorem d_BlockCodeLaw_law_816 : decode b_BlockCodeLaw_law 816 = .ok (.iinc 4 6, 3) := by decide +kernel
theorem d_BlockCodeLaw_law_819 : decode b_BlockCodeLaw_law 819 = .ok (.goto (-796), 3) := by decide +kernel
theorem d_BlockCodeLaw_law_822 : decode b_BlockCodeLaw_law 822 = .ok (.iconst 1, 1) := by decide +kernel
theorem d_BlockCodeLaw_law_823 : decode b_BlockCodeLaw_law 823 = .ok (.ireturn, 1) := by decide +kernel
