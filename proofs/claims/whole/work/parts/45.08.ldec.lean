/-! the law's instructions -/
theorem dl_830 : decode code 830 = .ok (.iconst 1, 1) := by decide +kernel
theorem dl_831 : decode code 831 = .ok (.iadd, 1) := by decide +kernel
theorem dl_832 : decode code 832 = .ok (.iaload, 1) := by decide +kernel
theorem dl_833 : decode code 833 = .ok (.invokevirtual 112, 3) := by decide +kernel
theorem dl_836 : decode code 836 = .ok (.if_icmp .eq 74, 3) := by decide +kernel
theorem dl_839 : decode code 839 = .ok (.iconst 0, 1) := by decide +kernel
theorem dl_840 : decode code 840 = .ok (.ireturn, 1) := by decide +kernel
theorem dl_841 : decode code 841 = .ok (.aload_n 1, 1) := by decide +kernel
theorem dl_842 : decode code 842 = .ok (.aload_n 0, 1) := by decide +kernel
theorem dl_843 : decode code 843 = .ok (.iload_n 3, 1) := by decide +kernel
theorem dl_844 : decode code 844 = .ok (.iconst 1, 1) := by decide +kernel
theorem dl_845 : decode code 845 = .ok (.iadd, 1) := by decide +kernel
theorem dl_846 : decode code 846 = .ok (.iaload, 1) := by decide +kernel
theorem dl_847 : decode code 847 = .ok (.invokevirtual 113, 3) := by decide +kernel
theorem dl_850 : decode code 850 = .ok (.aload_n 2, 1) := by decide +kernel
theorem dl_851 : decode code 851 = .ok (.aload_n 0, 1) := by decide +kernel
theorem dl_852 : decode code 852 = .ok (.iload_n 3, 1) := by decide +kernel
theorem dl_853 : decode code 853 = .ok (.iconst 1, 1) := by decide +kernel
theorem dl_854 : decode code 854 = .ok (.iadd, 1) := by decide +kernel
theorem dl_855 : decode code 855 = .ok (.iaload, 1) := by decide +kernel
theorem dl_856 : decode code 856 = .ok (.invokevirtual 116, 3) := by decide +kernel
theorem dl_859 : decode code 859 = .ok (.if_icmp .eq 51, 3) := by decide +kernel
theorem dl_862 : decode code 862 = .ok (.iconst 0, 1) := by decide +kernel
theorem dl_863 : decode code 863 = .ok (.ireturn, 1) := by decide +kernel
theorem dl_864 : decode code 864 = .ok (.aload_n 1, 1) := by decide +kernel
theorem dl_865 : decode code 865 = .ok (.aload_n 0, 1) := by decide +kernel
theorem dl_866 : decode code 866 = .ok (.iload_n 3, 1) := by decide +kernel
theorem dl_867 : decode code 867 = .ok (.iconst 1, 1) := by decide +kernel
theorem dl_868 : decode code 868 = .ok (.iadd, 1) := by decide +kernel
theorem dl_869 : decode code 869 = .ok (.iaload, 1) := by decide +kernel
theorem dl_870 : decode code 870 = .ok (.invokevirtual 117, 3) := by decide +kernel
theorem dl_873 : decode code 873 = .ok (.aload_n 2, 1) := by decide +kernel
theorem dl_874 : decode code 874 = .ok (.aload_n 0, 1) := by decide +kernel
theorem dl_875 : decode code 875 = .ok (.iload_n 3, 1) := by decide +kernel
theorem dl_876 : decode code 876 = .ok (.iconst 1, 1) := by decide +kernel
theorem dl_877 : decode code 877 = .ok (.iadd, 1) := by decide +kernel
theorem dl_878 : decode code 878 = .ok (.iaload, 1) := by decide +kernel
theorem dl_879 : decode code 879 = .ok (.invokevirtual 120, 3) := by decide +kernel
theorem dl_882 : decode code 882 = .ok (.if_icmp .eq 28, 3) := by decide +kernel
theorem dl_885 : decode code 885 = .ok (.iconst 0, 1) := by decide +kernel
theorem dl_886 : decode code 886 = .ok (.ireturn, 1) := by decide +kernel
theorem dl_887 : decode code 887 = .ok (.aload_n 1, 1) := by decide +kernel
theorem dl_888 : decode code 888 = .ok (.aload_n 0, 1) := by decide +kernel
theorem dl_889 : decode code 889 = .ok (.iload_n 3, 1) := by decide +kernel
theorem dl_890 : decode code 890 = .ok (.iconst 1, 1) := by decide +kernel
theorem dl_891 : decode code 891 = .ok (.iadd, 1) := by decide +kernel
theorem dl_892 : decode code 892 = .ok (.iaload, 1) := by decide +kernel
theorem dl_893 : decode code 893 = .ok (.invokevirtual 121, 3) := by decide +kernel
theorem dl_896 : decode code 896 = .ok (.aload_n 2, 1) := by decide +kernel
theorem dl_897 : decode code 897 = .ok (.aload_n 0, 1) := by decide +kernel
theorem dl_898 : decode code 898 = .ok (.iload_n 3, 1) := by decide +kernel
theorem dl_899 : decode code 899 = .ok (.iconst 1, 1) := by decide +kernel
theorem dl_900 : decode code 900 = .ok (.iadd, 1) := by decide +kernel
theorem dl_901 : decode code 901 = .ok (.iaload, 1) := by decide +kernel
theorem dl_902 : decode code 902 = .ok (.invokevirtual 124, 3) := by decide +kernel
theorem dl_905 : decode code 905 = .ok (.if_icmp .eq 5, 3) := by decide +kernel
theorem dl_908 : decode code 908 = .ok (.iconst 0, 1) := by decide +kernel
theorem dl_909 : decode code 909 = .ok (.ireturn, 1) := by decide +kernel
theorem dl_910 : decode code 910 = .ok (.iinc 3 5, 3) := by decide +kernel
theorem dl_913 : decode code 913 = .ok (.goto (-895), 3) := by decide +kernel
theorem dl_916 : decode code 916 = .ok (.iconst 1, 1) := by decide +kernel
theorem dl_917 : decode code 917 = .ok (.ireturn, 1) := by decide +kernel
