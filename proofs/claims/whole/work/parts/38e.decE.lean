/-! The law's decode rows, 5 of 10. -/
theorem d_Law_law_711 : decode b_Law_law 711 = .ok (.lcmp, 1) := by decide +kernel
theorem d_Law_law_712 : decode b_Law_law 712 = .ok (.ifCond .eq 5, 3) := by decide +kernel
theorem d_Law_law_717 : decode b_Law_law 717 = .ok (.goto 931, 3) := by decide +kernel
theorem d_Law_law_720 : decode b_Law_law 720 = .ok (.aload_n 1, 1) := by decide +kernel
theorem d_Law_law_721 : decode b_Law_law 721 = .ok (.aload_n 0, 1) := by decide +kernel
theorem d_Law_law_722 : decode b_Law_law 722 = .ok (.iload 4, 2) := by decide +kernel
theorem d_Law_law_724 : decode b_Law_law 724 = .ok (.iconst 1, 1) := by decide +kernel
theorem d_Law_law_725 : decode b_Law_law 725 = .ok (.iadd, 1) := by decide +kernel
theorem d_Law_law_726 : decode b_Law_law 726 = .ok (.iaload, 1) := by decide +kernel
theorem d_Law_law_727 : decode b_Law_law 727 = .ok (.aload_n 3, 1) := by decide +kernel
theorem d_Law_law_728 : decode b_Law_law 728 = .ok (.invokestatic 125, 3) := by decide +kernel
theorem d_Law_law_731 : decode b_Law_law 731 = .ok (.istore 5, 2) := by decide +kernel
theorem d_Law_law_733 : decode b_Law_law 733 = .ok (.aload_n 2, 1) := by decide +kernel
theorem d_Law_law_734 : decode b_Law_law 734 = .ok (.aload_n 0, 1) := by decide +kernel
theorem d_Law_law_735 : decode b_Law_law 735 = .ok (.iload 4, 2) := by decide +kernel
theorem d_Law_law_737 : decode b_Law_law 737 = .ok (.iconst 1, 1) := by decide +kernel
theorem d_Law_law_738 : decode b_Law_law 738 = .ok (.iadd, 1) := by decide +kernel
theorem d_Law_law_739 : decode b_Law_law 739 = .ok (.iaload, 1) := by decide +kernel
theorem d_Law_law_740 : decode b_Law_law 740 = .ok (.invokevirtual 127, 3) := by decide +kernel
theorem d_Law_law_743 : decode b_Law_law 743 = .ok (.istore 6, 2) := by decide +kernel
theorem d_Law_law_745 : decode b_Law_law 745 = .ok (.aload_n 2, 1) := by decide +kernel
theorem d_Law_law_746 : decode b_Law_law 746 = .ok (.invokevirtual 97, 3) := by decide +kernel
theorem d_Law_law_749 : decode b_Law_law 749 = .ok (.iload 5, 2) := by decide +kernel
theorem d_Law_law_751 : decode b_Law_law 751 = .ok (.if_icmp .eq 5, 3) := by decide +kernel
theorem d_Law_law_756 : decode b_Law_law 756 = .ok (.iload 5, 2) := by decide +kernel
theorem d_Law_law_758 : decode b_Law_law 758 = .ok (.ifCond .ne 15, 3) := by decide +kernel
theorem d_Law_law_761 : decode b_Law_law 761 = .ok (.aload_n 3, 1) := by decide +kernel
theorem d_Law_law_762 : decode b_Law_law 762 = .ok (.iconst 0, 1) := by decide +kernel
theorem d_Law_law_763 : decode b_Law_law 763 = .ok (.laload, 1) := by decide +kernel
theorem d_Law_law_764 : decode b_Law_law 764 = .ok (.iload 6, 2) := by decide +kernel
theorem d_Law_law_766 : decode b_Law_law 766 = .ok (.i2l, 1) := by decide +kernel
theorem d_Law_law_767 : decode b_Law_law 767 = .ok (.lcmp, 1) := by decide +kernel
theorem d_Law_law_768 : decode b_Law_law 768 = .ok (.ifCond .eq 5, 3) := by decide +kernel
theorem d_Law_law_773 : decode b_Law_law 773 = .ok (.goto 875, 3) := by decide +kernel
theorem d_Law_law_776 : decode b_Law_law 776 = .ok (.aload_n 1, 1) := by decide +kernel
theorem d_Law_law_777 : decode b_Law_law 777 = .ok (.aload_n 0, 1) := by decide +kernel
theorem d_Law_law_778 : decode b_Law_law 778 = .ok (.iload 4, 2) := by decide +kernel
theorem d_Law_law_780 : decode b_Law_law 780 = .ok (.iconst 1, 1) := by decide +kernel
theorem d_Law_law_781 : decode b_Law_law 781 = .ok (.iadd, 1) := by decide +kernel
theorem d_Law_law_782 : decode b_Law_law 782 = .ok (.iaload, 1) := by decide +kernel
theorem d_Law_law_783 : decode b_Law_law 783 = .ok (.aload_n 3, 1) := by decide +kernel
theorem d_Law_law_784 : decode b_Law_law 784 = .ok (.invokestatic 128, 3) := by decide +kernel
theorem d_Law_law_787 : decode b_Law_law 787 = .ok (.istore 5, 2) := by decide +kernel
theorem d_Law_law_789 : decode b_Law_law 789 = .ok (.aload_n 2, 1) := by decide +kernel
theorem d_Law_law_790 : decode b_Law_law 790 = .ok (.aload_n 0, 1) := by decide +kernel
theorem d_Law_law_791 : decode b_Law_law 791 = .ok (.iload 4, 2) := by decide +kernel
theorem d_Law_law_793 : decode b_Law_law 793 = .ok (.iconst 1, 1) := by decide +kernel
theorem d_Law_law_794 : decode b_Law_law 794 = .ok (.iadd, 1) := by decide +kernel
theorem d_Law_law_795 : decode b_Law_law 795 = .ok (.iaload, 1) := by decide +kernel
theorem d_Law_law_796 : decode b_Law_law 796 = .ok (.invokevirtual 130, 3) := by decide +kernel
theorem d_Law_law_799 : decode b_Law_law 799 = .ok (.istore 6, 2) := by decide +kernel
theorem d_Law_law_801 : decode b_Law_law 801 = .ok (.aload_n 2, 1) := by decide +kernel
theorem d_Law_law_802 : decode b_Law_law 802 = .ok (.invokevirtual 97, 3) := by decide +kernel
theorem d_Law_law_805 : decode b_Law_law 805 = .ok (.iload 5, 2) := by decide +kernel
theorem d_Law_law_807 : decode b_Law_law 807 = .ok (.if_icmp .eq 5, 3) := by decide +kernel
theorem d_Law_law_812 : decode b_Law_law 812 = .ok (.iload 5, 2) := by decide +kernel
theorem d_Law_law_814 : decode b_Law_law 814 = .ok (.ifCond .ne 15, 3) := by decide +kernel
theorem d_Law_law_817 : decode b_Law_law 817 = .ok (.aload_n 3, 1) := by decide +kernel
theorem d_Law_law_818 : decode b_Law_law 818 = .ok (.iconst 0, 1) := by decide +kernel
theorem d_Law_law_819 : decode b_Law_law 819 = .ok (.laload, 1) := by decide +kernel
theorem d_Law_law_820 : decode b_Law_law 820 = .ok (.iload 6, 2) := by decide +kernel
theorem d_Law_law_822 : decode b_Law_law 822 = .ok (.i2l, 1) := by decide +kernel
theorem d_Law_law_823 : decode b_Law_law 823 = .ok (.lcmp, 1) := by decide +kernel
theorem d_Law_law_824 : decode b_Law_law 824 = .ok (.ifCond .eq 5, 3) := by decide +kernel
theorem d_Law_law_829 : decode b_Law_law 829 = .ok (.goto 819, 3) := by decide +kernel
theorem d_Law_law_832 : decode b_Law_law 832 = .ok (.aload_n 1, 1) := by decide +kernel
theorem d_Law_law_833 : decode b_Law_law 833 = .ok (.aload_n 0, 1) := by decide +kernel
theorem d_Law_law_834 : decode b_Law_law 834 = .ok (.iload 4, 2) := by decide +kernel
theorem d_Law_law_836 : decode b_Law_law 836 = .ok (.iconst 1, 1) := by decide +kernel
theorem d_Law_law_837 : decode b_Law_law 837 = .ok (.iadd, 1) := by decide +kernel
theorem d_Law_law_838 : decode b_Law_law 838 = .ok (.iaload, 1) := by decide +kernel
theorem d_Law_law_839 : decode b_Law_law 839 = .ok (.aload_n 0, 1) := by decide +kernel
theorem d_Law_law_840 : decode b_Law_law 840 = .ok (.iload 4, 2) := by decide +kernel
theorem d_Law_law_842 : decode b_Law_law 842 = .ok (.iconst 2, 1) := by decide +kernel
theorem d_Law_law_843 : decode b_Law_law 843 = .ok (.iadd, 1) := by decide +kernel
theorem d_Law_law_844 : decode b_Law_law 844 = .ok (.iaload, 1) := by decide +kernel
theorem d_Law_law_845 : decode b_Law_law 845 = .ok (.aload_n 0, 1) := by decide +kernel
theorem d_Law_law_846 : decode b_Law_law 846 = .ok (.iload 4, 2) := by decide +kernel
theorem d_Law_law_848 : decode b_Law_law 848 = .ok (.iconst 3, 1) := by decide +kernel
theorem d_Law_law_849 : decode b_Law_law 849 = .ok (.iadd, 1) := by decide +kernel
theorem d_Law_law_850 : decode b_Law_law 850 = .ok (.iaload, 1) := by decide +kernel
theorem d_Law_law_851 : decode b_Law_law 851 = .ok (.aload_n 3, 1) := by decide +kernel
theorem d_Law_law_852 : decode b_Law_law 852 = .ok (.invokestatic 131, 3) := by decide +kernel
theorem d_Law_law_855 : decode b_Law_law 855 = .ok (.istore 5, 2) := by decide +kernel
theorem d_Law_law_857 : decode b_Law_law 857 = .ok (.aload_n 2, 1) := by decide +kernel
theorem d_Law_law_858 : decode b_Law_law 858 = .ok (.aload_n 0, 1) := by decide +kernel
theorem d_Law_law_859 : decode b_Law_law 859 = .ok (.iload 4, 2) := by decide +kernel
theorem d_Law_law_861 : decode b_Law_law 861 = .ok (.iconst 1, 1) := by decide +kernel
theorem d_Law_law_862 : decode b_Law_law 862 = .ok (.iadd, 1) := by decide +kernel
theorem d_Law_law_863 : decode b_Law_law 863 = .ok (.iaload, 1) := by decide +kernel
theorem d_Law_law_864 : decode b_Law_law 864 = .ok (.aload_n 0, 1) := by decide +kernel
theorem d_Law_law_865 : decode b_Law_law 865 = .ok (.iload 4, 2) := by decide +kernel
theorem d_Law_law_867 : decode b_Law_law 867 = .ok (.iconst 2, 1) := by decide +kernel
theorem d_Law_law_868 : decode b_Law_law 868 = .ok (.iadd, 1) := by decide +kernel
theorem d_Law_law_869 : decode b_Law_law 869 = .ok (.iaload, 1) := by decide +kernel
