theorem d_law_747 : decode code 747 = .ok (.if_icmp .eq 5, 3) := by decide +kernel
theorem d_law_750 : decode code 750 = .ok (.iconst 0, 1) := by decide +kernel
theorem d_law_751 : decode code 751 = .ok (.ireturn, 1) := by decide +kernel
theorem d_law_752 : decode code 752 = .ok (.iload 5, 2) := by decide +kernel
theorem d_law_754 : decode code 754 = .ok (.ifCond .ne 15, 3) := by decide +kernel
theorem d_law_757 : decode code 757 = .ok (.aload_n 3, 1) := by decide +kernel
theorem d_law_758 : decode code 758 = .ok (.iconst 0, 1) := by decide +kernel
theorem d_law_759 : decode code 759 = .ok (.laload, 1) := by decide +kernel
theorem d_law_760 : decode code 760 = .ok (.iload 6, 2) := by decide +kernel
theorem d_law_762 : decode code 762 = .ok (.i2l, 1) := by decide +kernel
theorem d_law_763 : decode code 763 = .ok (.lcmp, 1) := by decide +kernel
theorem d_law_764 : decode code 764 = .ok (.ifCond .eq 5, 3) := by decide +kernel
theorem d_law_767 : decode code 767 = .ok (.iconst 0, 1) := by decide +kernel
theorem d_law_768 : decode code 768 = .ok (.ireturn, 1) := by decide +kernel
theorem d_law_769 : decode code 769 = .ok (.goto 128, 3) := by decide +kernel
theorem d_law_772 : decode code 772 = .ok (.aload_n 1, 1) := by decide +kernel
theorem d_law_773 : decode code 773 = .ok (.aload_n 0, 1) := by decide +kernel
theorem d_law_774 : decode code 774 = .ok (.iload 4, 2) := by decide +kernel
theorem d_law_776 : decode code 776 = .ok (.iconst 1, 1) := by decide +kernel
theorem d_law_777 : decode code 777 = .ok (.iadd, 1) := by decide +kernel
theorem d_law_778 : decode code 778 = .ok (.iaload, 1) := by decide +kernel
theorem d_law_779 : decode code 779 = .ok (.aload_n 3, 1) := by decide +kernel
theorem d_law_780 : decode code 780 = .ok (.invokestatic 99, 3) := by decide +kernel
theorem d_law_783 : decode code 783 = .ok (.istore 5, 2) := by decide +kernel
theorem d_law_785 : decode code 785 = .ok (.aload_n 2, 1) := by decide +kernel
theorem d_law_786 : decode code 786 = .ok (.aload_n 0, 1) := by decide +kernel
theorem d_law_787 : decode code 787 = .ok (.iload 4, 2) := by decide +kernel
theorem d_law_789 : decode code 789 = .ok (.iconst 1, 1) := by decide +kernel
theorem d_law_790 : decode code 790 = .ok (.iadd, 1) := by decide +kernel
theorem d_law_791 : decode code 791 = .ok (.iaload, 1) := by decide +kernel
theorem d_law_792 : decode code 792 = .ok (.invokevirtual 101, 3) := by decide +kernel
theorem d_law_795 : decode code 795 = .ok (.istore 6, 2) := by decide +kernel
theorem d_law_797 : decode code 797 = .ok (.aload_n 2, 1) := by decide +kernel
theorem d_law_798 : decode code 798 = .ok (.invokevirtual 66, 3) := by decide +kernel
theorem d_law_801 : decode code 801 = .ok (.iload 5, 2) := by decide +kernel
theorem d_law_803 : decode code 803 = .ok (.if_icmp .eq 5, 3) := by decide +kernel
theorem d_law_806 : decode code 806 = .ok (.iconst 0, 1) := by decide +kernel
theorem d_law_807 : decode code 807 = .ok (.ireturn, 1) := by decide +kernel
theorem d_law_808 : decode code 808 = .ok (.iload 5, 2) := by decide +kernel
theorem d_law_810 : decode code 810 = .ok (.ifCond .ne 15, 3) := by decide +kernel
theorem d_law_813 : decode code 813 = .ok (.aload_n 3, 1) := by decide +kernel
theorem d_law_814 : decode code 814 = .ok (.iconst 0, 1) := by decide +kernel
theorem d_law_815 : decode code 815 = .ok (.laload, 1) := by decide +kernel
theorem d_law_816 : decode code 816 = .ok (.iload 6, 2) := by decide +kernel
theorem d_law_818 : decode code 818 = .ok (.i2l, 1) := by decide +kernel
theorem d_law_819 : decode code 819 = .ok (.lcmp, 1) := by decide +kernel
theorem d_law_820 : decode code 820 = .ok (.ifCond .eq 5, 3) := by decide +kernel
theorem d_law_823 : decode code 823 = .ok (.iconst 0, 1) := by decide +kernel
theorem d_law_824 : decode code 824 = .ok (.ireturn, 1) := by decide +kernel
theorem d_law_825 : decode code 825 = .ok (.goto 72, 3) := by decide +kernel
theorem d_law_828 : decode code 828 = .ok (.aload_n 1, 1) := by decide +kernel
theorem d_law_829 : decode code 829 = .ok (.aload_n 0, 1) := by decide +kernel
theorem d_law_830 : decode code 830 = .ok (.iload 4, 2) := by decide +kernel
theorem d_law_832 : decode code 832 = .ok (.iconst 1, 1) := by decide +kernel
theorem d_law_833 : decode code 833 = .ok (.iadd, 1) := by decide +kernel
theorem d_law_834 : decode code 834 = .ok (.iaload, 1) := by decide +kernel
theorem d_law_835 : decode code 835 = .ok (.aload_n 3, 1) := by decide +kernel
theorem d_law_836 : decode code 836 = .ok (.invokestatic 102, 3) := by decide +kernel
theorem d_law_839 : decode code 839 = .ok (.istore 5, 2) := by decide +kernel
theorem d_law_841 : decode code 841 = .ok (.aload_n 2, 1) := by decide +kernel
theorem d_law_842 : decode code 842 = .ok (.aload_n 0, 1) := by decide +kernel
theorem d_law_843 : decode code 843 = .ok (.iload 4, 2) := by decide +kernel
theorem d_law_845 : decode code 845 = .ok (.iconst 1, 1) := by decide +kernel
theorem d_law_846 : decode code 846 = .ok (.iadd, 1) := by decide +kernel
theorem d_law_847 : decode code 847 = .ok (.iaload, 1) := by decide +kernel
theorem d_law_848 : decode code 848 = .ok (.invokevirtual 104, 3) := by decide +kernel
theorem d_law_851 : decode code 851 = .ok (.istore 6, 2) := by decide +kernel
theorem d_law_853 : decode code 853 = .ok (.aload_n 2, 1) := by decide +kernel
theorem d_law_854 : decode code 854 = .ok (.invokevirtual 66, 3) := by decide +kernel
theorem d_law_857 : decode code 857 = .ok (.iload 5, 2) := by decide +kernel
theorem d_law_859 : decode code 859 = .ok (.if_icmp .eq 5, 3) := by decide +kernel
theorem d_law_862 : decode code 862 = .ok (.iconst 0, 1) := by decide +kernel
theorem d_law_863 : decode code 863 = .ok (.ireturn, 1) := by decide +kernel
theorem d_law_864 : decode code 864 = .ok (.iload 5, 2) := by decide +kernel
theorem d_law_866 : decode code 866 = .ok (.ifCond .ne 15, 3) := by decide +kernel
theorem d_law_869 : decode code 869 = .ok (.aload_n 3, 1) := by decide +kernel
theorem d_law_870 : decode code 870 = .ok (.iconst 0, 1) := by decide +kernel
theorem d_law_871 : decode code 871 = .ok (.laload, 1) := by decide +kernel
theorem d_law_872 : decode code 872 = .ok (.iload 6, 2) := by decide +kernel
theorem d_law_874 : decode code 874 = .ok (.i2l, 1) := by decide +kernel
theorem d_law_875 : decode code 875 = .ok (.lcmp, 1) := by decide +kernel
theorem d_law_876 : decode code 876 = .ok (.ifCond .eq 5, 3) := by decide +kernel
theorem d_law_879 : decode code 879 = .ok (.iconst 0, 1) := by decide +kernel
theorem d_law_880 : decode code 880 = .ok (.ireturn, 1) := by decide +kernel
theorem d_law_881 : decode code 881 = .ok (.goto 16, 3) := by decide +kernel
theorem d_law_884 : decode code 884 = .ok (.aload_n 1, 1) := by decide +kernel
theorem d_law_885 : decode code 885 = .ok (.invokevirtual 105, 3) := by decide +kernel
theorem d_law_888 : decode code 888 = .ok (.aload_n 2, 1) := by decide +kernel
theorem d_law_889 : decode code 889 = .ok (.invokevirtual 108, 3) := by decide +kernel
theorem d_law_892 : decode code 892 = .ok (.if_icmp .eq 5, 3) := by decide +kernel
theorem d_law_895 : decode code 895 = .ok (.iconst 0, 1) := by decide +kernel
theorem d_law_896 : decode code 896 = .ok (.ireturn, 1) := by decide +kernel
theorem d_law_897 : decode code 897 = .ok (.iinc 4 4, 3) := by decide +kernel
theorem d_law_900 : decode code 900 = .ok (.goto (-877), 3) := by decide +kernel
theorem d_law_903 : decode code 903 = .ok (.iconst 1, 1) := by decide +kernel
theorem d_law_904 : decode code 904 = .ok (.ireturn, 1) := by decide +kernel
