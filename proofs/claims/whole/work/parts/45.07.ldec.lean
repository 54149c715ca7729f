/-! the law's instructions -/
theorem dl_734 : decode code 734 = .ok (.iconst 0, 1) := by decide +kernel
theorem dl_735 : decode code 735 = .ok (.ireturn, 1) := by decide +kernel
theorem dl_736 : decode code 736 = .ok (.aload_n 1, 1) := by decide +kernel
theorem dl_737 : decode code 737 = .ok (.aload_n 0, 1) := by decide +kernel
theorem dl_738 : decode code 738 = .ok (.iload_n 3, 1) := by decide +kernel
theorem dl_739 : decode code 739 = .ok (.iconst 1, 1) := by decide +kernel
theorem dl_740 : decode code 740 = .ok (.iadd, 1) := by decide +kernel
theorem dl_741 : decode code 741 = .ok (.iaload, 1) := by decide +kernel
theorem dl_742 : decode code 742 = .ok (.aload_n 0, 1) := by decide +kernel
theorem dl_743 : decode code 743 = .ok (.iload_n 3, 1) := by decide +kernel
theorem dl_744 : decode code 744 = .ok (.iconst 2, 1) := by decide +kernel
theorem dl_745 : decode code 745 = .ok (.iadd, 1) := by decide +kernel
theorem dl_746 : decode code 746 = .ok (.iaload, 1) := by decide +kernel
theorem dl_747 : decode code 747 = .ok (.aload_n 0, 1) := by decide +kernel
theorem dl_748 : decode code 748 = .ok (.iload_n 3, 1) := by decide +kernel
theorem dl_749 : decode code 749 = .ok (.iconst 3, 1) := by decide +kernel
theorem dl_750 : decode code 750 = .ok (.iadd, 1) := by decide +kernel
theorem dl_751 : decode code 751 = .ok (.iaload, 1) := by decide +kernel
theorem dl_752 : decode code 752 = .ok (.invokevirtual 93, 3) := by decide +kernel
theorem dl_755 : decode code 755 = .ok (.aload_n 2, 1) := by decide +kernel
theorem dl_756 : decode code 756 = .ok (.aload_n 0, 1) := by decide +kernel
theorem dl_757 : decode code 757 = .ok (.iload_n 3, 1) := by decide +kernel
theorem dl_758 : decode code 758 = .ok (.iconst 1, 1) := by decide +kernel
theorem dl_759 : decode code 759 = .ok (.iadd, 1) := by decide +kernel
theorem dl_760 : decode code 760 = .ok (.iaload, 1) := by decide +kernel
theorem dl_761 : decode code 761 = .ok (.aload_n 0, 1) := by decide +kernel
theorem dl_762 : decode code 762 = .ok (.iload_n 3, 1) := by decide +kernel
theorem dl_763 : decode code 763 = .ok (.iconst 2, 1) := by decide +kernel
theorem dl_764 : decode code 764 = .ok (.iadd, 1) := by decide +kernel
theorem dl_765 : decode code 765 = .ok (.iaload, 1) := by decide +kernel
theorem dl_766 : decode code 766 = .ok (.aload_n 0, 1) := by decide +kernel
theorem dl_767 : decode code 767 = .ok (.iload_n 3, 1) := by decide +kernel
theorem dl_768 : decode code 768 = .ok (.iconst 3, 1) := by decide +kernel
theorem dl_769 : decode code 769 = .ok (.iadd, 1) := by decide +kernel
theorem dl_770 : decode code 770 = .ok (.iaload, 1) := by decide +kernel
theorem dl_771 : decode code 771 = .ok (.invokevirtual 96, 3) := by decide +kernel
theorem dl_774 : decode code 774 = .ok (.if_icmp .eq 136, 3) := by decide +kernel
theorem dl_777 : decode code 777 = .ok (.iconst 0, 1) := by decide +kernel
theorem dl_778 : decode code 778 = .ok (.ireturn, 1) := by decide +kernel
theorem dl_779 : decode code 779 = .ok (.aload_n 1, 1) := by decide +kernel
theorem dl_780 : decode code 780 = .ok (.invokevirtual 97, 3) := by decide +kernel
theorem dl_783 : decode code 783 = .ok (.aload_n 2, 1) := by decide +kernel
theorem dl_784 : decode code 784 = .ok (.invokevirtual 100, 3) := by decide +kernel
theorem dl_787 : decode code 787 = .ok (.if_icmp .eq 123, 3) := by decide +kernel
theorem dl_790 : decode code 790 = .ok (.iconst 0, 1) := by decide +kernel
theorem dl_791 : decode code 791 = .ok (.ireturn, 1) := by decide +kernel
theorem dl_792 : decode code 792 = .ok (.aload_n 1, 1) := by decide +kernel
theorem dl_793 : decode code 793 = .ok (.invokevirtual 101, 3) := by decide +kernel
theorem dl_796 : decode code 796 = .ok (.aload_n 2, 1) := by decide +kernel
theorem dl_797 : decode code 797 = .ok (.invokevirtual 104, 3) := by decide +kernel
theorem dl_800 : decode code 800 = .ok (.if_icmp .eq 110, 3) := by decide +kernel
theorem dl_803 : decode code 803 = .ok (.iconst 0, 1) := by decide +kernel
theorem dl_804 : decode code 804 = .ok (.ireturn, 1) := by decide +kernel
theorem dl_805 : decode code 805 = .ok (.aload_n 1, 1) := by decide +kernel
theorem dl_806 : decode code 806 = .ok (.invokevirtual 105, 3) := by decide +kernel
theorem dl_809 : decode code 809 = .ok (.aload_n 2, 1) := by decide +kernel
theorem dl_810 : decode code 810 = .ok (.invokevirtual 108, 3) := by decide +kernel
theorem dl_813 : decode code 813 = .ok (.if_icmp .eq 97, 3) := by decide +kernel
theorem dl_816 : decode code 816 = .ok (.iconst 0, 1) := by decide +kernel
theorem dl_817 : decode code 817 = .ok (.ireturn, 1) := by decide +kernel
theorem dl_818 : decode code 818 = .ok (.aload_n 1, 1) := by decide +kernel
theorem dl_819 : decode code 819 = .ok (.aload_n 0, 1) := by decide +kernel
theorem dl_820 : decode code 820 = .ok (.iload_n 3, 1) := by decide +kernel
theorem dl_821 : decode code 821 = .ok (.iconst 1, 1) := by decide +kernel
theorem dl_822 : decode code 822 = .ok (.iadd, 1) := by decide +kernel
theorem dl_823 : decode code 823 = .ok (.iaload, 1) := by decide +kernel
theorem dl_824 : decode code 824 = .ok (.invokevirtual 109, 3) := by decide +kernel
theorem dl_827 : decode code 827 = .ok (.aload_n 2, 1) := by decide +kernel
theorem dl_828 : decode code 828 = .ok (.aload_n 0, 1) := by decide +kernel
theorem dl_829 : decode code 829 = .ok (.iload_n 3, 1) := by decide +kernel
