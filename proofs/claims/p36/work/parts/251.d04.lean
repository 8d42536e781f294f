theorem bdL_law_794 : (pre_b (List.drop 794 cL_law.data.toList) [4]) = true ∧ (pre_b (List.drop 795 cL_law.data.toList) [96]) = true ∧ (pre_b (List.drop 796 cL_law.data.toList) [46]) = true ∧ (pre_b (List.drop 797 cL_law.data.toList) [182, 0, 106] && Nat.beq (0 * 256 + 106) 106) = true ∧ (pre_b (List.drop 800 cL_law.data.toList) [88]) = true ∧ (pre_b (List.drop 801 cL_law.data.toList) [167, 2, 21] && decide (Reader.signed 16 (2 * 256 + 21) = 533)) = true ∧ (pre_b (List.drop 804 cL_law.data.toList) [43]) = true ∧ (pre_b (List.drop 805 cL_law.data.toList) [42]) = true ∧ (pre_b (List.drop 806 cL_law.data.toList) [29]) = true ∧ (pre_b (List.drop 807 cL_law.data.toList) [4]) = true ∧ (pre_b (List.drop 808 cL_law.data.toList) [96]) = true ∧ (pre_b (List.drop 809 cL_law.data.toList) [46]) = true := by decide +kernel
theorem dL_law_794 : decode cL_law 794 = .ok (.iconst 1, 1) := oq_4 bdL_law_794.1
theorem dL_law_795 : decode cL_law 795 = .ok (.iadd, 1) := oq_96 bdL_law_794.2.1
theorem dL_law_796 : decode cL_law 796 = .ok (.iaload, 1) := oq_46 bdL_law_794.2.2.1
theorem dL_law_797 : decode cL_law 797 = .ok (.invokevirtual 106, 3) := oq_182 bdL_law_794.2.2.2.1
theorem dL_law_800 : decode cL_law 800 = .ok (.pop2, 1) := oq_88 bdL_law_794.2.2.2.2.1
theorem dL_law_801 : decode cL_law 801 = .ok (.goto 533, 3) := oq_167 bdL_law_794.2.2.2.2.2.1
theorem dL_law_804 : decode cL_law 804 = .ok (.aload_n 1, 1) := oq_43 bdL_law_794.2.2.2.2.2.2.1
theorem dL_law_805 : decode cL_law 805 = .ok (.aload_n 0, 1) := oq_42 bdL_law_794.2.2.2.2.2.2.2.1
theorem dL_law_806 : decode cL_law 806 = .ok (.iload_n 3, 1) := oq_29 bdL_law_794.2.2.2.2.2.2.2.2.1
theorem dL_law_807 : decode cL_law 807 = .ok (.iconst 1, 1) := oq_4 bdL_law_794.2.2.2.2.2.2.2.2.2.1
theorem dL_law_808 : decode cL_law 808 = .ok (.iadd, 1) := oq_96 bdL_law_794.2.2.2.2.2.2.2.2.2.2.1
theorem dL_law_809 : decode cL_law 809 = .ok (.iaload, 1) := oq_46 bdL_law_794.2.2.2.2.2.2.2.2.2.2.2
theorem bdL_law_810 : (pre_b (List.drop 810 cL_law.data.toList) [182, 0, 107] && Nat.beq (0 * 256 + 107) 107) = true ∧ (pre_b (List.drop 813 cL_law.data.toList) [87]) = true ∧ (pre_b (List.drop 814 cL_law.data.toList) [44]) = true ∧ (pre_b (List.drop 815 cL_law.data.toList) [42]) = true ∧ (pre_b (List.drop 816 cL_law.data.toList) [29]) = true ∧ (pre_b (List.drop 817 cL_law.data.toList) [4]) = true ∧ (pre_b (List.drop 818 cL_law.data.toList) [96]) = true ∧ (pre_b (List.drop 819 cL_law.data.toList) [46]) = true ∧ (pre_b (List.drop 820 cL_law.data.toList) [182, 0, 110] && Nat.beq (0 * 256 + 110) 110) = true ∧ (pre_b (List.drop 823 cL_law.data.toList) [87]) = true ∧ (pre_b (List.drop 824 cL_law.data.toList) [167, 1, 254] && decide (Reader.signed 16 (1 * 256 + 254) = 510)) = true ∧ (pre_b (List.drop 827 cL_law.data.toList) [43]) = true := by decide +kernel
theorem dL_law_810 : decode cL_law 810 = .ok (.invokevirtual 107, 3) := oq_182 bdL_law_810.1
theorem dL_law_813 : decode cL_law 813 = .ok (.pop, 1) := oq_87 bdL_law_810.2.1
theorem dL_law_814 : decode cL_law 814 = .ok (.aload_n 2, 1) := oq_44 bdL_law_810.2.2.1
theorem dL_law_815 : decode cL_law 815 = .ok (.aload_n 0, 1) := oq_42 bdL_law_810.2.2.2.1
theorem dL_law_816 : decode cL_law 816 = .ok (.iload_n 3, 1) := oq_29 bdL_law_810.2.2.2.2.1
theorem dL_law_817 : decode cL_law 817 = .ok (.iconst 1, 1) := oq_4 bdL_law_810.2.2.2.2.2.1
theorem dL_law_818 : decode cL_law 818 = .ok (.iadd, 1) := oq_96 bdL_law_810.2.2.2.2.2.2.1
theorem dL_law_819 : decode cL_law 819 = .ok (.iaload, 1) := oq_46 bdL_law_810.2.2.2.2.2.2.2.1
theorem dL_law_820 : decode cL_law 820 = .ok (.invokevirtual 110, 3) := oq_182 bdL_law_810.2.2.2.2.2.2.2.2.1
theorem dL_law_823 : decode cL_law 823 = .ok (.pop, 1) := oq_87 bdL_law_810.2.2.2.2.2.2.2.2.2.1
theorem dL_law_824 : decode cL_law 824 = .ok (.goto 510, 3) := oq_167 bdL_law_810.2.2.2.2.2.2.2.2.2.2.1
theorem dL_law_827 : decode cL_law 827 = .ok (.aload_n 1, 1) := oq_43 bdL_law_810.2.2.2.2.2.2.2.2.2.2.2
theorem bdL_law_828 : (pre_b (List.drop 828 cL_law.data.toList) [42]) = true ∧ (pre_b (List.drop 829 cL_law.data.toList) [29]) = true ∧ (pre_b (List.drop 830 cL_law.data.toList) [4]) = true ∧ (pre_b (List.drop 831 cL_law.data.toList) [96]) = true ∧ (pre_b (List.drop 832 cL_law.data.toList) [46]) = true ∧ (pre_b (List.drop 833 cL_law.data.toList) [182, 0, 111] && Nat.beq (0 * 256 + 111) 111) = true ∧ (pre_b (List.drop 836 cL_law.data.toList) [87]) = true ∧ (pre_b (List.drop 837 cL_law.data.toList) [44]) = true ∧ (pre_b (List.drop 838 cL_law.data.toList) [42]) = true ∧ (pre_b (List.drop 839 cL_law.data.toList) [29]) = true ∧ (pre_b (List.drop 840 cL_law.data.toList) [4]) = true ∧ (pre_b (List.drop 841 cL_law.data.toList) [96]) = true := by decide +kernel
theorem dL_law_828 : decode cL_law 828 = .ok (.aload_n 0, 1) := oq_42 bdL_law_828.1
theorem dL_law_829 : decode cL_law 829 = .ok (.iload_n 3, 1) := oq_29 bdL_law_828.2.1
theorem dL_law_830 : decode cL_law 830 = .ok (.iconst 1, 1) := oq_4 bdL_law_828.2.2.1
theorem dL_law_831 : decode cL_law 831 = .ok (.iadd, 1) := oq_96 bdL_law_828.2.2.2.1
theorem dL_law_832 : decode cL_law 832 = .ok (.iaload, 1) := oq_46 bdL_law_828.2.2.2.2.1
theorem dL_law_833 : decode cL_law 833 = .ok (.invokevirtual 111, 3) := oq_182 bdL_law_828.2.2.2.2.2.1
theorem dL_law_836 : decode cL_law 836 = .ok (.pop, 1) := oq_87 bdL_law_828.2.2.2.2.2.2.1
theorem dL_law_837 : decode cL_law 837 = .ok (.aload_n 2, 1) := oq_44 bdL_law_828.2.2.2.2.2.2.2.1
theorem dL_law_838 : decode cL_law 838 = .ok (.aload_n 0, 1) := oq_42 bdL_law_828.2.2.2.2.2.2.2.2.1
theorem dL_law_839 : decode cL_law 839 = .ok (.iload_n 3, 1) := oq_29 bdL_law_828.2.2.2.2.2.2.2.2.2.1
theorem dL_law_840 : decode cL_law 840 = .ok (.iconst 1, 1) := oq_4 bdL_law_828.2.2.2.2.2.2.2.2.2.2.1
theorem dL_law_841 : decode cL_law 841 = .ok (.iadd, 1) := oq_96 bdL_law_828.2.2.2.2.2.2.2.2.2.2.2
theorem bdL_law_842 : (pre_b (List.drop 842 cL_law.data.toList) [46]) = true ∧ (pre_b (List.drop 843 cL_law.data.toList) [182, 0, 114] && Nat.beq (0 * 256 + 114) 114) = true ∧ (pre_b (List.drop 846 cL_law.data.toList) [87]) = true ∧ (pre_b (List.drop 847 cL_law.data.toList) [167, 1, 231] && decide (Reader.signed 16 (1 * 256 + 231) = 487)) = true ∧ (pre_b (List.drop 850 cL_law.data.toList) [43]) = true ∧ (pre_b (List.drop 851 cL_law.data.toList) [42]) = true ∧ (pre_b (List.drop 852 cL_law.data.toList) [29]) = true ∧ (pre_b (List.drop 853 cL_law.data.toList) [4]) = true ∧ (pre_b (List.drop 854 cL_law.data.toList) [96]) = true ∧ (pre_b (List.drop 855 cL_law.data.toList) [46]) = true ∧ (pre_b (List.drop 856 cL_law.data.toList) [182, 0, 115] && Nat.beq (0 * 256 + 115) 115) = true ∧ (pre_b (List.drop 859 cL_law.data.toList) [87]) = true := by decide +kernel
theorem dL_law_842 : decode cL_law 842 = .ok (.iaload, 1) := oq_46 bdL_law_842.1
theorem dL_law_843 : decode cL_law 843 = .ok (.invokevirtual 114, 3) := oq_182 bdL_law_842.2.1
theorem dL_law_846 : decode cL_law 846 = .ok (.pop, 1) := oq_87 bdL_law_842.2.2.1
theorem dL_law_847 : decode cL_law 847 = .ok (.goto 487, 3) := oq_167 bdL_law_842.2.2.2.1
theorem dL_law_850 : decode cL_law 850 = .ok (.aload_n 1, 1) := oq_43 bdL_law_842.2.2.2.2.1
theorem dL_law_851 : decode cL_law 851 = .ok (.aload_n 0, 1) := oq_42 bdL_law_842.2.2.2.2.2.1
theorem dL_law_852 : decode cL_law 852 = .ok (.iload_n 3, 1) := oq_29 bdL_law_842.2.2.2.2.2.2.1
theorem dL_law_853 : decode cL_law 853 = .ok (.iconst 1, 1) := oq_4 bdL_law_842.2.2.2.2.2.2.2.1
theorem dL_law_854 : decode cL_law 854 = .ok (.iadd, 1) := oq_96 bdL_law_842.2.2.2.2.2.2.2.2.1
theorem dL_law_855 : decode cL_law 855 = .ok (.iaload, 1) := oq_46 bdL_law_842.2.2.2.2.2.2.2.2.2.1
theorem dL_law_856 : decode cL_law 856 = .ok (.invokevirtual 115, 3) := oq_182 bdL_law_842.2.2.2.2.2.2.2.2.2.2.1
theorem dL_law_859 : decode cL_law 859 = .ok (.pop, 1) := oq_87 bdL_law_842.2.2.2.2.2.2.2.2.2.2.2
theorem bdL_law_860 : (pre_b (List.drop 860 cL_law.data.toList) [44]) = true ∧ (pre_b (List.drop 861 cL_law.data.toList) [42]) = true ∧ (pre_b (List.drop 862 cL_law.data.toList) [29]) = true ∧ (pre_b (List.drop 863 cL_law.data.toList) [4]) = true ∧ (pre_b (List.drop 864 cL_law.data.toList) [96]) = true ∧ (pre_b (List.drop 865 cL_law.data.toList) [46]) = true ∧ (pre_b (List.drop 866 cL_law.data.toList) [182, 0, 118] && Nat.beq (0 * 256 + 118) 118) = true ∧ (pre_b (List.drop 869 cL_law.data.toList) [87]) = true ∧ (pre_b (List.drop 870 cL_law.data.toList) [167, 1, 208] && decide (Reader.signed 16 (1 * 256 + 208) = 464)) = true ∧ (pre_b (List.drop 873 cL_law.data.toList) [43]) = true ∧ (pre_b (List.drop 874 cL_law.data.toList) [42]) = true ∧ (pre_b (List.drop 875 cL_law.data.toList) [29]) = true := by decide +kernel
theorem dL_law_860 : decode cL_law 860 = .ok (.aload_n 2, 1) := oq_44 bdL_law_860.1
theorem dL_law_861 : decode cL_law 861 = .ok (.aload_n 0, 1) := oq_42 bdL_law_860.2.1
theorem dL_law_862 : decode cL_law 862 = .ok (.iload_n 3, 1) := oq_29 bdL_law_860.2.2.1
theorem dL_law_863 : decode cL_law 863 = .ok (.iconst 1, 1) := oq_4 bdL_law_860.2.2.2.1
theorem dL_law_864 : decode cL_law 864 = .ok (.iadd, 1) := oq_96 bdL_law_860.2.2.2.2.1
theorem dL_law_865 : decode cL_law 865 = .ok (.iaload, 1) := oq_46 bdL_law_860.2.2.2.2.2.1
theorem dL_law_866 : decode cL_law 866 = .ok (.invokevirtual 118, 3) := oq_182 bdL_law_860.2.2.2.2.2.2.1
theorem dL_law_869 : decode cL_law 869 = .ok (.pop, 1) := oq_87 bdL_law_860.2.2.2.2.2.2.2.1
theorem dL_law_870 : decode cL_law 870 = .ok (.goto 464, 3) := oq_167 bdL_law_860.2.2.2.2.2.2.2.2.1
theorem dL_law_873 : decode cL_law 873 = .ok (.aload_n 1, 1) := oq_43 bdL_law_860.2.2.2.2.2.2.2.2.2.1
theorem dL_law_874 : decode cL_law 874 = .ok (.aload_n 0, 1) := oq_42 bdL_law_860.2.2.2.2.2.2.2.2.2.2.1
theorem dL_law_875 : decode cL_law 875 = .ok (.iload_n 3, 1) := oq_29 bdL_law_860.2.2.2.2.2.2.2.2.2.2.2
theorem bdL_law_876 : (pre_b (List.drop 876 cL_law.data.toList) [4]) = true ∧ (pre_b (List.drop 877 cL_law.data.toList) [96]) = true ∧ (pre_b (List.drop 878 cL_law.data.toList) [46]) = true ∧ (pre_b (List.drop 879 cL_law.data.toList) [182, 0, 119] && Nat.beq (0 * 256 + 119) 119) = true ∧ (pre_b (List.drop 882 cL_law.data.toList) [87]) = true ∧ (pre_b (List.drop 883 cL_law.data.toList) [44]) = true ∧ (pre_b (List.drop 884 cL_law.data.toList) [42]) = true ∧ (pre_b (List.drop 885 cL_law.data.toList) [29]) = true ∧ (pre_b (List.drop 886 cL_law.data.toList) [4]) = true ∧ (pre_b (List.drop 887 cL_law.data.toList) [96]) = true ∧ (pre_b (List.drop 888 cL_law.data.toList) [46]) = true ∧ (pre_b (List.drop 889 cL_law.data.toList) [182, 0, 122] && Nat.beq (0 * 256 + 122) 122) = true := by decide +kernel
theorem dL_law_876 : decode cL_law 876 = .ok (.iconst 1, 1) := oq_4 bdL_law_876.1
theorem dL_law_877 : decode cL_law 877 = .ok (.iadd, 1) := oq_96 bdL_law_876.2.1
theorem dL_law_878 : decode cL_law 878 = .ok (.iaload, 1) := oq_46 bdL_law_876.2.2.1
theorem dL_law_879 : decode cL_law 879 = .ok (.invokevirtual 119, 3) := oq_182 bdL_law_876.2.2.2.1
theorem dL_law_882 : decode cL_law 882 = .ok (.pop, 1) := oq_87 bdL_law_876.2.2.2.2.1
theorem dL_law_883 : decode cL_law 883 = .ok (.aload_n 2, 1) := oq_44 bdL_law_876.2.2.2.2.2.1
theorem dL_law_884 : decode cL_law 884 = .ok (.aload_n 0, 1) := oq_42 bdL_law_876.2.2.2.2.2.2.1
theorem dL_law_885 : decode cL_law 885 = .ok (.iload_n 3, 1) := oq_29 bdL_law_876.2.2.2.2.2.2.2.1
theorem dL_law_886 : decode cL_law 886 = .ok (.iconst 1, 1) := oq_4 bdL_law_876.2.2.2.2.2.2.2.2.1
theorem dL_law_887 : decode cL_law 887 = .ok (.iadd, 1) := oq_96 bdL_law_876.2.2.2.2.2.2.2.2.2.1
theorem dL_law_888 : decode cL_law 888 = .ok (.iaload, 1) := oq_46 bdL_law_876.2.2.2.2.2.2.2.2.2.2.1
theorem dL_law_889 : decode cL_law 889 = .ok (.invokevirtual 122, 3) := oq_182 bdL_law_876.2.2.2.2.2.2.2.2.2.2.2
theorem bdL_law_892 : (pre_b (List.drop 892 cL_law.data.toList) [87]) = true ∧ (pre_b (List.drop 893 cL_law.data.toList) [167, 1, 185] && decide (Reader.signed 16 (1 * 256 + 185) = 441)) = true ∧ (pre_b (List.drop 896 cL_law.data.toList) [43]) = true ∧ (pre_b (List.drop 897 cL_law.data.toList) [42]) = true ∧ (pre_b (List.drop 898 cL_law.data.toList) [29]) = true ∧ (pre_b (List.drop 899 cL_law.data.toList) [4]) = true ∧ (pre_b (List.drop 900 cL_law.data.toList) [96]) = true ∧ (pre_b (List.drop 901 cL_law.data.toList) [46]) = true ∧ (pre_b (List.drop 902 cL_law.data.toList) [182, 0, 123] && Nat.beq (0 * 256 + 123) 123) = true ∧ (pre_b (List.drop 905 cL_law.data.toList) [87]) = true ∧ (pre_b (List.drop 906 cL_law.data.toList) [44]) = true ∧ (pre_b (List.drop 907 cL_law.data.toList) [42]) = true := by decide +kernel
theorem dL_law_892 : decode cL_law 892 = .ok (.pop, 1) := oq_87 bdL_law_892.1
theorem dL_law_893 : decode cL_law 893 = .ok (.goto 441, 3) := oq_167 bdL_law_892.2.1
theorem dL_law_896 : decode cL_law 896 = .ok (.aload_n 1, 1) := oq_43 bdL_law_892.2.2.1
theorem dL_law_897 : decode cL_law 897 = .ok (.aload_n 0, 1) := oq_42 bdL_law_892.2.2.2.1
theorem dL_law_898 : decode cL_law 898 = .ok (.iload_n 3, 1) := oq_29 bdL_law_892.2.2.2.2.1
theorem dL_law_899 : decode cL_law 899 = .ok (.iconst 1, 1) := oq_4 bdL_law_892.2.2.2.2.2.1
theorem dL_law_900 : decode cL_law 900 = .ok (.iadd, 1) := oq_96 bdL_law_892.2.2.2.2.2.2.1
theorem dL_law_901 : decode cL_law 901 = .ok (.iaload, 1) := oq_46 bdL_law_892.2.2.2.2.2.2.2.1
theorem dL_law_902 : decode cL_law 902 = .ok (.invokevirtual 123, 3) := oq_182 bdL_law_892.2.2.2.2.2.2.2.2.1
theorem dL_law_905 : decode cL_law 905 = .ok (.pop, 1) := oq_87 bdL_law_892.2.2.2.2.2.2.2.2.2.1
theorem dL_law_906 : decode cL_law 906 = .ok (.aload_n 2, 1) := oq_44 bdL_law_892.2.2.2.2.2.2.2.2.2.2.1
theorem dL_law_907 : decode cL_law 907 = .ok (.aload_n 0, 1) := oq_42 bdL_law_892.2.2.2.2.2.2.2.2.2.2.2
theorem bdL_law_908 : (pre_b (List.drop 908 cL_law.data.toList) [29]) = true ∧ (pre_b (List.drop 909 cL_law.data.toList) [4]) = true ∧ (pre_b (List.drop 910 cL_law.data.toList) [96]) = true ∧ (pre_b (List.drop 911 cL_law.data.toList) [46]) = true ∧ (pre_b (List.drop 912 cL_law.data.toList) [182, 0, 126] && Nat.beq (0 * 256 + 126) 126) = true ∧ (pre_b (List.drop 915 cL_law.data.toList) [87]) = true ∧ (pre_b (List.drop 916 cL_law.data.toList) [167, 1, 162] && decide (Reader.signed 16 (1 * 256 + 162) = 418)) = true ∧ (pre_b (List.drop 919 cL_law.data.toList) [43]) = true ∧ (pre_b (List.drop 920 cL_law.data.toList) [42]) = true ∧ (pre_b (List.drop 921 cL_law.data.toList) [29]) = true ∧ (pre_b (List.drop 922 cL_law.data.toList) [4]) = true ∧ (pre_b (List.drop 923 cL_law.data.toList) [96]) = true := by decide +kernel
theorem dL_law_908 : decode cL_law 908 = .ok (.iload_n 3, 1) := oq_29 bdL_law_908.1
theorem dL_law_909 : decode cL_law 909 = .ok (.iconst 1, 1) := oq_4 bdL_law_908.2.1
theorem dL_law_910 : decode cL_law 910 = .ok (.iadd, 1) := oq_96 bdL_law_908.2.2.1
theorem dL_law_911 : decode cL_law 911 = .ok (.iaload, 1) := oq_46 bdL_law_908.2.2.2.1
theorem dL_law_912 : decode cL_law 912 = .ok (.invokevirtual 126, 3) := oq_182 bdL_law_908.2.2.2.2.1
theorem dL_law_915 : decode cL_law 915 = .ok (.pop, 1) := oq_87 bdL_law_908.2.2.2.2.2.1
theorem dL_law_916 : decode cL_law 916 = .ok (.goto 418, 3) := oq_167 bdL_law_908.2.2.2.2.2.2.1
theorem dL_law_919 : decode cL_law 919 = .ok (.aload_n 1, 1) := oq_43 bdL_law_908.2.2.2.2.2.2.2.1
theorem dL_law_920 : decode cL_law 920 = .ok (.aload_n 0, 1) := oq_42 bdL_law_908.2.2.2.2.2.2.2.2.1
theorem dL_law_921 : decode cL_law 921 = .ok (.iload_n 3, 1) := oq_29 bdL_law_908.2.2.2.2.2.2.2.2.2.1
theorem dL_law_922 : decode cL_law 922 = .ok (.iconst 1, 1) := oq_4 bdL_law_908.2.2.2.2.2.2.2.2.2.2.1
theorem dL_law_923 : decode cL_law 923 = .ok (.iadd, 1) := oq_96 bdL_law_908.2.2.2.2.2.2.2.2.2.2.2
theorem bdL_law_924 : (pre_b (List.drop 924 cL_law.data.toList) [46]) = true ∧ (pre_b (List.drop 925 cL_law.data.toList) [42]) = true ∧ (pre_b (List.drop 926 cL_law.data.toList) [29]) = true ∧ (pre_b (List.drop 927 cL_law.data.toList) [5]) = true ∧ (pre_b (List.drop 928 cL_law.data.toList) [96]) = true ∧ (pre_b (List.drop 929 cL_law.data.toList) [46]) = true ∧ (pre_b (List.drop 930 cL_law.data.toList) [182, 0, 127] && Nat.beq (0 * 256 + 127) 127) = true ∧ (pre_b (List.drop 933 cL_law.data.toList) [87]) = true ∧ (pre_b (List.drop 934 cL_law.data.toList) [44]) = true ∧ (pre_b (List.drop 935 cL_law.data.toList) [42]) = true ∧ (pre_b (List.drop 936 cL_law.data.toList) [29]) = true ∧ (pre_b (List.drop 937 cL_law.data.toList) [4]) = true := by decide +kernel
theorem dL_law_924 : decode cL_law 924 = .ok (.iaload, 1) := oq_46 bdL_law_924.1
theorem dL_law_925 : decode cL_law 925 = .ok (.aload_n 0, 1) := oq_42 bdL_law_924.2.1
theorem dL_law_926 : decode cL_law 926 = .ok (.iload_n 3, 1) := oq_29 bdL_law_924.2.2.1
theorem dL_law_927 : decode cL_law 927 = .ok (.iconst 2, 1) := oq_5 bdL_law_924.2.2.2.1
theorem dL_law_928 : decode cL_law 928 = .ok (.iadd, 1) := oq_96 bdL_law_924.2.2.2.2.1
theorem dL_law_929 : decode cL_law 929 = .ok (.iaload, 1) := oq_46 bdL_law_924.2.2.2.2.2.1
theorem dL_law_930 : decode cL_law 930 = .ok (.invokevirtual 127, 3) := oq_182 bdL_law_924.2.2.2.2.2.2.1
theorem dL_law_933 : decode cL_law 933 = .ok (.pop, 1) := oq_87 bdL_law_924.2.2.2.2.2.2.2.1
theorem dL_law_934 : decode cL_law 934 = .ok (.aload_n 2, 1) := oq_44 bdL_law_924.2.2.2.2.2.2.2.2.1
theorem dL_law_935 : decode cL_law 935 = .ok (.aload_n 0, 1) := oq_42 bdL_law_924.2.2.2.2.2.2.2.2.2.1
theorem dL_law_936 : decode cL_law 936 = .ok (.iload_n 3, 1) := oq_29 bdL_law_924.2.2.2.2.2.2.2.2.2.2.1
theorem dL_law_937 : decode cL_law 937 = .ok (.iconst 1, 1) := oq_4 bdL_law_924.2.2.2.2.2.2.2.2.2.2.2
theorem bdL_law_938 : (pre_b (List.drop 938 cL_law.data.toList) [96]) = true ∧ (pre_b (List.drop 939 cL_law.data.toList) [46]) = true ∧ (pre_b (List.drop 940 cL_law.data.toList) [42]) = true ∧ (pre_b (List.drop 941 cL_law.data.toList) [29]) = true ∧ (pre_b (List.drop 942 cL_law.data.toList) [5]) = true ∧ (pre_b (List.drop 943 cL_law.data.toList) [96]) = true ∧ (pre_b (List.drop 944 cL_law.data.toList) [46]) = true ∧ (pre_b (List.drop 945 cL_law.data.toList) [182, 0, 130] && Nat.beq (0 * 256 + 130) 130) = true ∧ (pre_b (List.drop 948 cL_law.data.toList) [87]) = true ∧ (pre_b (List.drop 949 cL_law.data.toList) [167, 1, 129] && decide (Reader.signed 16 (1 * 256 + 129) = 385)) = true ∧ (pre_b (List.drop 952 cL_law.data.toList) [43]) = true ∧ (pre_b (List.drop 953 cL_law.data.toList) [42]) = true := by decide +kernel
theorem dL_law_938 : decode cL_law 938 = .ok (.iadd, 1) := oq_96 bdL_law_938.1
theorem dL_law_939 : decode cL_law 939 = .ok (.iaload, 1) := oq_46 bdL_law_938.2.1
theorem dL_law_940 : decode cL_law 940 = .ok (.aload_n 0, 1) := oq_42 bdL_law_938.2.2.1
theorem dL_law_941 : decode cL_law 941 = .ok (.iload_n 3, 1) := oq_29 bdL_law_938.2.2.2.1
theorem dL_law_942 : decode cL_law 942 = .ok (.iconst 2, 1) := oq_5 bdL_law_938.2.2.2.2.1
theorem dL_law_943 : decode cL_law 943 = .ok (.iadd, 1) := oq_96 bdL_law_938.2.2.2.2.2.1
theorem dL_law_944 : decode cL_law 944 = .ok (.iaload, 1) := oq_46 bdL_law_938.2.2.2.2.2.2.1
theorem dL_law_945 : decode cL_law 945 = .ok (.invokevirtual 130, 3) := oq_182 bdL_law_938.2.2.2.2.2.2.2.1
theorem dL_law_948 : decode cL_law 948 = .ok (.pop, 1) := oq_87 bdL_law_938.2.2.2.2.2.2.2.2.1
theorem dL_law_949 : decode cL_law 949 = .ok (.goto 385, 3) := oq_167 bdL_law_938.2.2.2.2.2.2.2.2.2.1
theorem dL_law_952 : decode cL_law 952 = .ok (.aload_n 1, 1) := oq_43 bdL_law_938.2.2.2.2.2.2.2.2.2.2.1
theorem dL_law_953 : decode cL_law 953 = .ok (.aload_n 0, 1) := oq_42 bdL_law_938.2.2.2.2.2.2.2.2.2.2.2

theorem bdL_law_954 : (pre_b (List.drop 954 cL_law.data.toList) [29]) = true ∧ (pre_b (List.drop 955 cL_law.data.toList) [4]) = true ∧ (pre_b (List.drop 956 cL_law.data.toList) [96]) = true ∧ (pre_b (List.drop 957 cL_law.data.toList) [46]) = true ∧ (pre_b (List.drop 958 cL_law.data.toList) [42]) = true ∧ (pre_b (List.drop 959 cL_law.data.toList) [29]) = true ∧ (pre_b (List.drop 960 cL_law.data.toList) [5]) = true ∧ (pre_b (List.drop 961 cL_law.data.toList) [96]) = true ∧ (pre_b (List.drop 962 cL_law.data.toList) [46]) = true ∧ (pre_b (List.drop 963 cL_law.data.toList) [182, 0, 131] && Nat.beq (0 * 256 + 131) 131) = true ∧ (pre_b (List.drop 966 cL_law.data.toList) [87]) = true ∧ (pre_b (List.drop 967 cL_law.data.toList) [44]) = true := by decide +kernel
theorem dL_law_954 : decode cL_law 954 = .ok (.iload_n 3, 1) := oq_29 bdL_law_954.1
theorem dL_law_955 : decode cL_law 955 = .ok (.iconst 1, 1) := oq_4 bdL_law_954.2.1
theorem dL_law_956 : decode cL_law 956 = .ok (.iadd, 1) := oq_96 bdL_law_954.2.2.1
theorem dL_law_957 : decode cL_law 957 = .ok (.iaload, 1) := oq_46 bdL_law_954.2.2.2.1
theorem dL_law_958 : decode cL_law 958 = .ok (.aload_n 0, 1) := oq_42 bdL_law_954.2.2.2.2.1
theorem dL_law_959 : decode cL_law 959 = .ok (.iload_n 3, 1) := oq_29 bdL_law_954.2.2.2.2.2.1
theorem dL_law_960 : decode cL_law 960 = .ok (.iconst 2, 1) := oq_5 bdL_law_954.2.2.2.2.2.2.1
theorem dL_law_961 : decode cL_law 961 = .ok (.iadd, 1) := oq_96 bdL_law_954.2.2.2.2.2.2.2.1
theorem dL_law_962 : decode cL_law 962 = .ok (.iaload, 1) := oq_46 bdL_law_954.2.2.2.2.2.2.2.2.1
theorem dL_law_963 : decode cL_law 963 = .ok (.invokevirtual 131, 3) := oq_182 bdL_law_954.2.2.2.2.2.2.2.2.2.1
theorem dL_law_966 : decode cL_law 966 = .ok (.pop, 1) := oq_87 bdL_law_954.2.2.2.2.2.2.2.2.2.2.1
theorem dL_law_967 : decode cL_law 967 = .ok (.aload_n 2, 1) := oq_44 bdL_law_954.2.2.2.2.2.2.2.2.2.2.2
theorem bdL_law_968 : (pre_b (List.drop 968 cL_law.data.toList) [42]) = true ∧ (pre_b (List.drop 969 cL_law.data.toList) [29]) = true ∧ (pre_b (List.drop 970 cL_law.data.toList) [4]) = true ∧ (pre_b (List.drop 971 cL_law.data.toList) [96]) = true ∧ (pre_b (List.drop 972 cL_law.data.toList) [46]) = true ∧ (pre_b (List.drop 973 cL_law.data.toList) [42]) = true ∧ (pre_b (List.drop 974 cL_law.data.toList) [29]) = true ∧ (pre_b (List.drop 975 cL_law.data.toList) [5]) = true ∧ (pre_b (List.drop 976 cL_law.data.toList) [96]) = true ∧ (pre_b (List.drop 977 cL_law.data.toList) [46]) = true ∧ (pre_b (List.drop 978 cL_law.data.toList) [182, 0, 134] && Nat.beq (0 * 256 + 134) 134) = true ∧ (pre_b (List.drop 981 cL_law.data.toList) [87]) = true := by decide +kernel
theorem dL_law_968 : decode cL_law 968 = .ok (.aload_n 0, 1) := oq_42 bdL_law_968.1
theorem dL_law_969 : decode cL_law 969 = .ok (.iload_n 3, 1) := oq_29 bdL_law_968.2.1
theorem dL_law_970 : decode cL_law 970 = .ok (.iconst 1, 1) := oq_4 bdL_law_968.2.2.1
theorem dL_law_971 : decode cL_law 971 = .ok (.iadd, 1) := oq_96 bdL_law_968.2.2.2.1
theorem dL_law_972 : decode cL_law 972 = .ok (.iaload, 1) := oq_46 bdL_law_968.2.2.2.2.1
theorem dL_law_973 : decode cL_law 973 = .ok (.aload_n 0, 1) := oq_42 bdL_law_968.2.2.2.2.2.1
theorem dL_law_974 : decode cL_law 974 = .ok (.iload_n 3, 1) := oq_29 bdL_law_968.2.2.2.2.2.2.1
theorem dL_law_975 : decode cL_law 975 = .ok (.iconst 2, 1) := oq_5 bdL_law_968.2.2.2.2.2.2.2.1
theorem dL_law_976 : decode cL_law 976 = .ok (.iadd, 1) := oq_96 bdL_law_968.2.2.2.2.2.2.2.2.1
theorem dL_law_977 : decode cL_law 977 = .ok (.iaload, 1) := oq_46 bdL_law_968.2.2.2.2.2.2.2.2.2.1
theorem dL_law_978 : decode cL_law 978 = .ok (.invokevirtual 134, 3) := oq_182 bdL_law_968.2.2.2.2.2.2.2.2.2.2.1
theorem dL_law_981 : decode cL_law 981 = .ok (.pop, 1) := oq_87 bdL_law_968.2.2.2.2.2.2.2.2.2.2.2
theorem bdL_law_982 : (pre_b (List.drop 982 cL_law.data.toList) [167, 1, 96] && decide (Reader.signed 16 (1 * 256 + 96) = 352)) = true ∧ (pre_b (List.drop 985 cL_law.data.toList) [43]) = true ∧ (pre_b (List.drop 986 cL_law.data.toList) [42]) = true ∧ (pre_b (List.drop 987 cL_law.data.toList) [29]) = true ∧ (pre_b (List.drop 988 cL_law.data.toList) [4]) = true ∧ (pre_b (List.drop 989 cL_law.data.toList) [96]) = true ∧ (pre_b (List.drop 990 cL_law.data.toList) [46]) = true ∧ (pre_b (List.drop 991 cL_law.data.toList) [42]) = true ∧ (pre_b (List.drop 992 cL_law.data.toList) [29]) = true ∧ (pre_b (List.drop 993 cL_law.data.toList) [5]) = true ∧ (pre_b (List.drop 994 cL_law.data.toList) [96]) = true ∧ (pre_b (List.drop 995 cL_law.data.toList) [46]) = true := by decide +kernel
theorem dL_law_982 : decode cL_law 982 = .ok (.goto 352, 3) := oq_167 bdL_law_982.1
theorem dL_law_985 : decode cL_law 985 = .ok (.aload_n 1, 1) := oq_43 bdL_law_982.2.1
theorem dL_law_986 : decode cL_law 986 = .ok (.aload_n 0, 1) := oq_42 bdL_law_982.2.2.1
theorem dL_law_987 : decode cL_law 987 = .ok (.iload_n 3, 1) := oq_29 bdL_law_982.2.2.2.1
theorem dL_law_988 : decode cL_law 988 = .ok (.iconst 1, 1) := oq_4 bdL_law_982.2.2.2.2.1
theorem dL_law_989 : decode cL_law 989 = .ok (.iadd, 1) := oq_96 bdL_law_982.2.2.2.2.2.1
theorem dL_law_990 : decode cL_law 990 = .ok (.iaload, 1) := oq_46 bdL_law_982.2.2.2.2.2.2.1
theorem dL_law_991 : decode cL_law 991 = .ok (.aload_n 0, 1) := oq_42 bdL_law_982.2.2.2.2.2.2.2.1
theorem dL_law_992 : decode cL_law 992 = .ok (.iload_n 3, 1) := oq_29 bdL_law_982.2.2.2.2.2.2.2.2.1
theorem dL_law_993 : decode cL_law 993 = .ok (.iconst 2, 1) := oq_5 bdL_law_982.2.2.2.2.2.2.2.2.2.1
theorem dL_law_994 : decode cL_law 994 = .ok (.iadd, 1) := oq_96 bdL_law_982.2.2.2.2.2.2.2.2.2.2.1
theorem dL_law_995 : decode cL_law 995 = .ok (.iaload, 1) := oq_46 bdL_law_982.2.2.2.2.2.2.2.2.2.2.2
theorem bdL_law_996 : (pre_b (List.drop 996 cL_law.data.toList) [182, 0, 135] && Nat.beq (0 * 256 + 135) 135) = true ∧ (pre_b (List.drop 999 cL_law.data.toList) [87]) = true ∧ (pre_b (List.drop 1000 cL_law.data.toList) [44]) = true ∧ (pre_b (List.drop 1001 cL_law.data.toList) [42]) = true ∧ (pre_b (List.drop 1002 cL_law.data.toList) [29]) = true ∧ (pre_b (List.drop 1003 cL_law.data.toList) [4]) = true ∧ (pre_b (List.drop 1004 cL_law.data.toList) [96]) = true ∧ (pre_b (List.drop 1005 cL_law.data.toList) [46]) = true ∧ (pre_b (List.drop 1006 cL_law.data.toList) [42]) = true ∧ (pre_b (List.drop 1007 cL_law.data.toList) [29]) = true ∧ (pre_b (List.drop 1008 cL_law.data.toList) [5]) = true ∧ (pre_b (List.drop 1009 cL_law.data.toList) [96]) = true := by decide +kernel
theorem dL_law_996 : decode cL_law 996 = .ok (.invokevirtual 135, 3) := oq_182 bdL_law_996.1
theorem dL_law_999 : decode cL_law 999 = .ok (.pop, 1) := oq_87 bdL_law_996.2.1
theorem dL_law_1000 : decode cL_law 1000 = .ok (.aload_n 2, 1) := oq_44 bdL_law_996.2.2.1
theorem dL_law_1001 : decode cL_law 1001 = .ok (.aload_n 0, 1) := oq_42 bdL_law_996.2.2.2.1
theorem dL_law_1002 : decode cL_law 1002 = .ok (.iload_n 3, 1) := oq_29 bdL_law_996.2.2.2.2.1
theorem dL_law_1003 : decode cL_law 1003 = .ok (.iconst 1, 1) := oq_4 bdL_law_996.2.2.2.2.2.1
theorem dL_law_1004 : decode cL_law 1004 = .ok (.iadd, 1) := oq_96 bdL_law_996.2.2.2.2.2.2.1
theorem dL_law_1005 : decode cL_law 1005 = .ok (.iaload, 1) := oq_46 bdL_law_996.2.2.2.2.2.2.2.1
theorem dL_law_1006 : decode cL_law 1006 = .ok (.aload_n 0, 1) := oq_42 bdL_law_996.2.2.2.2.2.2.2.2.1
theorem dL_law_1007 : decode cL_law 1007 = .ok (.iload_n 3, 1) := oq_29 bdL_law_996.2.2.2.2.2.2.2.2.2.1
theorem dL_law_1008 : decode cL_law 1008 = .ok (.iconst 2, 1) := oq_5 bdL_law_996.2.2.2.2.2.2.2.2.2.2.1
theorem dL_law_1009 : decode cL_law 1009 = .ok (.iadd, 1) := oq_96 bdL_law_996.2.2.2.2.2.2.2.2.2.2.2
theorem bdL_law_1010 : (pre_b (List.drop 1010 cL_law.data.toList) [46]) = true ∧ (pre_b (List.drop 1011 cL_law.data.toList) [182, 0, 138] && Nat.beq (0 * 256 + 138) 138) = true ∧ (pre_b (List.drop 1014 cL_law.data.toList) [87]) = true ∧ (pre_b (List.drop 1015 cL_law.data.toList) [167, 1, 63] && decide (Reader.signed 16 (1 * 256 + 63) = 319)) = true ∧ (pre_b (List.drop 1018 cL_law.data.toList) [43]) = true ∧ (pre_b (List.drop 1019 cL_law.data.toList) [42]) = true ∧ (pre_b (List.drop 1020 cL_law.data.toList) [29]) = true ∧ (pre_b (List.drop 1021 cL_law.data.toList) [4]) = true ∧ (pre_b (List.drop 1022 cL_law.data.toList) [96]) = true ∧ (pre_b (List.drop 1023 cL_law.data.toList) [46]) = true ∧ (pre_b (List.drop 1024 cL_law.data.toList) [42]) = true ∧ (pre_b (List.drop 1025 cL_law.data.toList) [29]) = true := by decide +kernel
theorem dL_law_1010 : decode cL_law 1010 = .ok (.iaload, 1) := oq_46 bdL_law_1010.1
theorem dL_law_1011 : decode cL_law 1011 = .ok (.invokevirtual 138, 3) := oq_182 bdL_law_1010.2.1
theorem dL_law_1014 : decode cL_law 1014 = .ok (.pop, 1) := oq_87 bdL_law_1010.2.2.1
theorem dL_law_1015 : decode cL_law 1015 = .ok (.goto 319, 3) := oq_167 bdL_law_1010.2.2.2.1
theorem dL_law_1018 : decode cL_law 1018 = .ok (.aload_n 1, 1) := oq_43 bdL_law_1010.2.2.2.2.1
theorem dL_law_1019 : decode cL_law 1019 = .ok (.aload_n 0, 1) := oq_42 bdL_law_1010.2.2.2.2.2.1
theorem dL_law_1020 : decode cL_law 1020 = .ok (.iload_n 3, 1) := oq_29 bdL_law_1010.2.2.2.2.2.2.1
theorem dL_law_1021 : decode cL_law 1021 = .ok (.iconst 1, 1) := oq_4 bdL_law_1010.2.2.2.2.2.2.2.1
theorem dL_law_1022 : decode cL_law 1022 = .ok (.iadd, 1) := oq_96 bdL_law_1010.2.2.2.2.2.2.2.2.1
theorem dL_law_1023 : decode cL_law 1023 = .ok (.iaload, 1) := oq_46 bdL_law_1010.2.2.2.2.2.2.2.2.2.1
theorem dL_law_1024 : decode cL_law 1024 = .ok (.aload_n 0, 1) := oq_42 bdL_law_1010.2.2.2.2.2.2.2.2.2.2.1
theorem dL_law_1025 : decode cL_law 1025 = .ok (.iload_n 3, 1) := oq_29 bdL_law_1010.2.2.2.2.2.2.2.2.2.2.2
theorem bdL_law_1026 : (pre_b (List.drop 1026 cL_law.data.toList) [5]) = true ∧ (pre_b (List.drop 1027 cL_law.data.toList) [96]) = true ∧ (pre_b (List.drop 1028 cL_law.data.toList) [46]) = true ∧ (pre_b (List.drop 1029 cL_law.data.toList) [42]) = true ∧ (pre_b (List.drop 1030 cL_law.data.toList) [29]) = true ∧ (pre_b (List.drop 1031 cL_law.data.toList) [6]) = true ∧ (pre_b (List.drop 1032 cL_law.data.toList) [96]) = true ∧ (pre_b (List.drop 1033 cL_law.data.toList) [46]) = true ∧ (pre_b (List.drop 1034 cL_law.data.toList) [153, 0, 7] && decide (Reader.signed 16 (0 * 256 + 7) = 7)) = true ∧ (pre_b (List.drop 1037 cL_law.data.toList) [4]) = true ∧ (pre_b (List.drop 1038 cL_law.data.toList) [167, 0, 4] && decide (Reader.signed 16 (0 * 256 + 4) = 4)) = true ∧ (pre_b (List.drop 1041 cL_law.data.toList) [3]) = true := by decide +kernel
theorem dL_law_1026 : decode cL_law 1026 = .ok (.iconst 2, 1) := oq_5 bdL_law_1026.1
theorem dL_law_1027 : decode cL_law 1027 = .ok (.iadd, 1) := oq_96 bdL_law_1026.2.1
theorem dL_law_1028 : decode cL_law 1028 = .ok (.iaload, 1) := oq_46 bdL_law_1026.2.2.1
theorem dL_law_1029 : decode cL_law 1029 = .ok (.aload_n 0, 1) := oq_42 bdL_law_1026.2.2.2.1
theorem dL_law_1030 : decode cL_law 1030 = .ok (.iload_n 3, 1) := oq_29 bdL_law_1026.2.2.2.2.1
theorem dL_law_1031 : decode cL_law 1031 = .ok (.iconst 3, 1) := oq_6 bdL_law_1026.2.2.2.2.2.1
theorem dL_law_1032 : decode cL_law 1032 = .ok (.iadd, 1) := oq_96 bdL_law_1026.2.2.2.2.2.2.1
theorem dL_law_1033 : decode cL_law 1033 = .ok (.iaload, 1) := oq_46 bdL_law_1026.2.2.2.2.2.2.2.1
theorem dL_law_1034 : decode cL_law 1034 = .ok (.ifCond .eq 7, 3) := oq_153 bdL_law_1026.2.2.2.2.2.2.2.2.1
theorem dL_law_1037 : decode cL_law 1037 = .ok (.iconst 1, 1) := oq_4 bdL_law_1026.2.2.2.2.2.2.2.2.2.1
theorem dL_law_1038 : decode cL_law 1038 = .ok (.goto 4, 3) := oq_167 bdL_law_1026.2.2.2.2.2.2.2.2.2.2.1
theorem dL_law_1041 : decode cL_law 1041 = .ok (.iconst 0, 1) := oq_3 bdL_law_1026.2.2.2.2.2.2.2.2.2.2.2
theorem bdL_law_1042 : (pre_b (List.drop 1042 cL_law.data.toList) [182, 0, 139] && Nat.beq (0 * 256 + 139) 139) = true ∧ (pre_b (List.drop 1045 cL_law.data.toList) [87]) = true ∧ (pre_b (List.drop 1046 cL_law.data.toList) [44]) = true ∧ (pre_b (List.drop 1047 cL_law.data.toList) [42]) = true ∧ (pre_b (List.drop 1048 cL_law.data.toList) [29]) = true ∧ (pre_b (List.drop 1049 cL_law.data.toList) [4]) = true ∧ (pre_b (List.drop 1050 cL_law.data.toList) [96]) = true ∧ (pre_b (List.drop 1051 cL_law.data.toList) [46]) = true ∧ (pre_b (List.drop 1052 cL_law.data.toList) [42]) = true ∧ (pre_b (List.drop 1053 cL_law.data.toList) [29]) = true ∧ (pre_b (List.drop 1054 cL_law.data.toList) [5]) = true ∧ (pre_b (List.drop 1055 cL_law.data.toList) [96]) = true := by decide +kernel
theorem dL_law_1042 : decode cL_law 1042 = .ok (.invokevirtual 139, 3) := oq_182 bdL_law_1042.1
theorem dL_law_1045 : decode cL_law 1045 = .ok (.pop, 1) := oq_87 bdL_law_1042.2.1
theorem dL_law_1046 : decode cL_law 1046 = .ok (.aload_n 2, 1) := oq_44 bdL_law_1042.2.2.1
theorem dL_law_1047 : decode cL_law 1047 = .ok (.aload_n 0, 1) := oq_42 bdL_law_1042.2.2.2.1
theorem dL_law_1048 : decode cL_law 1048 = .ok (.iload_n 3, 1) := oq_29 bdL_law_1042.2.2.2.2.1
theorem dL_law_1049 : decode cL_law 1049 = .ok (.iconst 1, 1) := oq_4 bdL_law_1042.2.2.2.2.2.1
theorem dL_law_1050 : decode cL_law 1050 = .ok (.iadd, 1) := oq_96 bdL_law_1042.2.2.2.2.2.2.1
theorem dL_law_1051 : decode cL_law 1051 = .ok (.iaload, 1) := oq_46 bdL_law_1042.2.2.2.2.2.2.2.1
theorem dL_law_1052 : decode cL_law 1052 = .ok (.aload_n 0, 1) := oq_42 bdL_law_1042.2.2.2.2.2.2.2.2.1
theorem dL_law_1053 : decode cL_law 1053 = .ok (.iload_n 3, 1) := oq_29 bdL_law_1042.2.2.2.2.2.2.2.2.2.1
theorem dL_law_1054 : decode cL_law 1054 = .ok (.iconst 2, 1) := oq_5 bdL_law_1042.2.2.2.2.2.2.2.2.2.2.1
theorem dL_law_1055 : decode cL_law 1055 = .ok (.iadd, 1) := oq_96 bdL_law_1042.2.2.2.2.2.2.2.2.2.2.2
theorem bdL_law_1056 : (pre_b (List.drop 1056 cL_law.data.toList) [46]) = true ∧ (pre_b (List.drop 1057 cL_law.data.toList) [42]) = true ∧ (pre_b (List.drop 1058 cL_law.data.toList) [29]) = true ∧ (pre_b (List.drop 1059 cL_law.data.toList) [6]) = true ∧ (pre_b (List.drop 1060 cL_law.data.toList) [96]) = true ∧ (pre_b (List.drop 1061 cL_law.data.toList) [46]) = true ∧ (pre_b (List.drop 1062 cL_law.data.toList) [153, 0, 7] && decide (Reader.signed 16 (0 * 256 + 7) = 7)) = true ∧ (pre_b (List.drop 1065 cL_law.data.toList) [4]) = true ∧ (pre_b (List.drop 1066 cL_law.data.toList) [167, 0, 4] && decide (Reader.signed 16 (0 * 256 + 4) = 4)) = true ∧ (pre_b (List.drop 1069 cL_law.data.toList) [3]) = true ∧ (pre_b (List.drop 1070 cL_law.data.toList) [182, 0, 143] && Nat.beq (0 * 256 + 143) 143) = true ∧ (pre_b (List.drop 1073 cL_law.data.toList) [87]) = true := by decide +kernel
theorem dL_law_1056 : decode cL_law 1056 = .ok (.iaload, 1) := oq_46 bdL_law_1056.1
theorem dL_law_1057 : decode cL_law 1057 = .ok (.aload_n 0, 1) := oq_42 bdL_law_1056.2.1
theorem dL_law_1058 : decode cL_law 1058 = .ok (.iload_n 3, 1) := oq_29 bdL_law_1056.2.2.1
theorem dL_law_1059 : decode cL_law 1059 = .ok (.iconst 3, 1) := oq_6 bdL_law_1056.2.2.2.1
theorem dL_law_1060 : decode cL_law 1060 = .ok (.iadd, 1) := oq_96 bdL_law_1056.2.2.2.2.1
theorem dL_law_1061 : decode cL_law 1061 = .ok (.iaload, 1) := oq_46 bdL_law_1056.2.2.2.2.2.1
theorem dL_law_1062 : decode cL_law 1062 = .ok (.ifCond .eq 7, 3) := oq_153 bdL_law_1056.2.2.2.2.2.2.1
theorem dL_law_1065 : decode cL_law 1065 = .ok (.iconst 1, 1) := oq_4 bdL_law_1056.2.2.2.2.2.2.2.1
theorem dL_law_1066 : decode cL_law 1066 = .ok (.goto 4, 3) := oq_167 bdL_law_1056.2.2.2.2.2.2.2.2.1
theorem dL_law_1069 : decode cL_law 1069 = .ok (.iconst 0, 1) := oq_3 bdL_law_1056.2.2.2.2.2.2.2.2.2.1
theorem dL_law_1070 : decode cL_law 1070 = .ok (.invokevirtual 143, 3) := oq_182 bdL_law_1056.2.2.2.2.2.2.2.2.2.2.1
theorem dL_law_1073 : decode cL_law 1073 = .ok (.pop, 1) := oq_87 bdL_law_1056.2.2.2.2.2.2.2.2.2.2.2
theorem bdL_law_1074 : (pre_b (List.drop 1074 cL_law.data.toList) [167, 1, 4] && decide (Reader.signed 16 (1 * 256 + 4) = 260)) = true ∧ (pre_b (List.drop 1077 cL_law.data.toList) [43]) = true ∧ (pre_b (List.drop 1078 cL_law.data.toList) [42]) = true ∧ (pre_b (List.drop 1079 cL_law.data.toList) [29]) = true ∧ (pre_b (List.drop 1080 cL_law.data.toList) [4]) = true ∧ (pre_b (List.drop 1081 cL_law.data.toList) [96]) = true ∧ (pre_b (List.drop 1082 cL_law.data.toList) [46]) = true ∧ (pre_b (List.drop 1083 cL_law.data.toList) [42]) = true ∧ (pre_b (List.drop 1084 cL_law.data.toList) [29]) = true ∧ (pre_b (List.drop 1085 cL_law.data.toList) [5]) = true ∧ (pre_b (List.drop 1086 cL_law.data.toList) [96]) = true ∧ (pre_b (List.drop 1087 cL_law.data.toList) [46]) = true := by decide +kernel
theorem dL_law_1074 : decode cL_law 1074 = .ok (.goto 260, 3) := oq_167 bdL_law_1074.1
theorem dL_law_1077 : decode cL_law 1077 = .ok (.aload_n 1, 1) := oq_43 bdL_law_1074.2.1
theorem dL_law_1078 : decode cL_law 1078 = .ok (.aload_n 0, 1) := oq_42 bdL_law_1074.2.2.1
theorem dL_law_1079 : decode cL_law 1079 = .ok (.iload_n 3, 1) := oq_29 bdL_law_1074.2.2.2.1
theorem dL_law_1080 : decode cL_law 1080 = .ok (.iconst 1, 1) := oq_4 bdL_law_1074.2.2.2.2.1
theorem dL_law_1081 : decode cL_law 1081 = .ok (.iadd, 1) := oq_96 bdL_law_1074.2.2.2.2.2.1
theorem dL_law_1082 : decode cL_law 1082 = .ok (.iaload, 1) := oq_46 bdL_law_1074.2.2.2.2.2.2.1
theorem dL_law_1083 : decode cL_law 1083 = .ok (.aload_n 0, 1) := oq_42 bdL_law_1074.2.2.2.2.2.2.2.1
theorem dL_law_1084 : decode cL_law 1084 = .ok (.iload_n 3, 1) := oq_29 bdL_law_1074.2.2.2.2.2.2.2.2.1
theorem dL_law_1085 : decode cL_law 1085 = .ok (.iconst 2, 1) := oq_5 bdL_law_1074.2.2.2.2.2.2.2.2.2.1
theorem dL_law_1086 : decode cL_law 1086 = .ok (.iadd, 1) := oq_96 bdL_law_1074.2.2.2.2.2.2.2.2.2.2.1
theorem dL_law_1087 : decode cL_law 1087 = .ok (.iaload, 1) := oq_46 bdL_law_1074.2.2.2.2.2.2.2.2.2.2.2
theorem bdL_law_1088 : (pre_b (List.drop 1088 cL_law.data.toList) [182, 0, 144] && Nat.beq (0 * 256 + 144) 144) = true ∧ (pre_b (List.drop 1091 cL_law.data.toList) [87]) = true ∧ (pre_b (List.drop 1092 cL_law.data.toList) [44]) = true ∧ (pre_b (List.drop 1093 cL_law.data.toList) [42]) = true ∧ (pre_b (List.drop 1094 cL_law.data.toList) [29]) = true ∧ (pre_b (List.drop 1095 cL_law.data.toList) [4]) = true ∧ (pre_b (List.drop 1096 cL_law.data.toList) [96]) = true ∧ (pre_b (List.drop 1097 cL_law.data.toList) [46]) = true ∧ (pre_b (List.drop 1098 cL_law.data.toList) [42]) = true ∧ (pre_b (List.drop 1099 cL_law.data.toList) [29]) = true ∧ (pre_b (List.drop 1100 cL_law.data.toList) [5]) = true ∧ (pre_b (List.drop 1101 cL_law.data.toList) [96]) = true := by decide +kernel
theorem dL_law_1088 : decode cL_law 1088 = .ok (.invokevirtual 144, 3) := oq_182 bdL_law_1088.1
theorem dL_law_1091 : decode cL_law 1091 = .ok (.pop, 1) := oq_87 bdL_law_1088.2.1
theorem dL_law_1092 : decode cL_law 1092 = .ok (.aload_n 2, 1) := oq_44 bdL_law_1088.2.2.1
theorem dL_law_1093 : decode cL_law 1093 = .ok (.aload_n 0, 1) := oq_42 bdL_law_1088.2.2.2.1
theorem dL_law_1094 : decode cL_law 1094 = .ok (.iload_n 3, 1) := oq_29 bdL_law_1088.2.2.2.2.1
theorem dL_law_1095 : decode cL_law 1095 = .ok (.iconst 1, 1) := oq_4 bdL_law_1088.2.2.2.2.2.1
theorem dL_law_1096 : decode cL_law 1096 = .ok (.iadd, 1) := oq_96 bdL_law_1088.2.2.2.2.2.2.1
theorem dL_law_1097 : decode cL_law 1097 = .ok (.iaload, 1) := oq_46 bdL_law_1088.2.2.2.2.2.2.2.1
theorem dL_law_1098 : decode cL_law 1098 = .ok (.aload_n 0, 1) := oq_42 bdL_law_1088.2.2.2.2.2.2.2.2.1
theorem dL_law_1099 : decode cL_law 1099 = .ok (.iload_n 3, 1) := oq_29 bdL_law_1088.2.2.2.2.2.2.2.2.2.1
theorem dL_law_1100 : decode cL_law 1100 = .ok (.iconst 2, 1) := oq_5 bdL_law_1088.2.2.2.2.2.2.2.2.2.2.1
theorem dL_law_1101 : decode cL_law 1101 = .ok (.iadd, 1) := oq_96 bdL_law_1088.2.2.2.2.2.2.2.2.2.2.2

theorem bdL_law_1102 : (pre_b (List.drop 1102 cL_law.data.toList) [46]) = true ∧ (pre_b (List.drop 1103 cL_law.data.toList) [182, 0, 147] && Nat.beq (0 * 256 + 147) 147) = true ∧ (pre_b (List.drop 1106 cL_law.data.toList) [87]) = true ∧ (pre_b (List.drop 1107 cL_law.data.toList) [167, 0, 227] && decide (Reader.signed 16 (0 * 256 + 227) = 227)) = true ∧ (pre_b (List.drop 1110 cL_law.data.toList) [43]) = true ∧ (pre_b (List.drop 1111 cL_law.data.toList) [42]) = true ∧ (pre_b (List.drop 1112 cL_law.data.toList) [29]) = true ∧ (pre_b (List.drop 1113 cL_law.data.toList) [4]) = true ∧ (pre_b (List.drop 1114 cL_law.data.toList) [96]) = true ∧ (pre_b (List.drop 1115 cL_law.data.toList) [46]) = true ∧ (pre_b (List.drop 1116 cL_law.data.toList) [42]) = true ∧ (pre_b (List.drop 1117 cL_law.data.toList) [29]) = true := by decide +kernel
theorem dL_law_1102 : decode cL_law 1102 = .ok (.iaload, 1) := oq_46 bdL_law_1102.1
theorem dL_law_1103 : decode cL_law 1103 = .ok (.invokevirtual 147, 3) := oq_182 bdL_law_1102.2.1
theorem dL_law_1106 : decode cL_law 1106 = .ok (.pop, 1) := oq_87 bdL_law_1102.2.2.1
theorem dL_law_1107 : decode cL_law 1107 = .ok (.goto 227, 3) := oq_167 bdL_law_1102.2.2.2.1
theorem dL_law_1110 : decode cL_law 1110 = .ok (.aload_n 1, 1) := oq_43 bdL_law_1102.2.2.2.2.1
theorem dL_law_1111 : decode cL_law 1111 = .ok (.aload_n 0, 1) := oq_42 bdL_law_1102.2.2.2.2.2.1
theorem dL_law_1112 : decode cL_law 1112 = .ok (.iload_n 3, 1) := oq_29 bdL_law_1102.2.2.2.2.2.2.1
theorem dL_law_1113 : decode cL_law 1113 = .ok (.iconst 1, 1) := oq_4 bdL_law_1102.2.2.2.2.2.2.2.1
theorem dL_law_1114 : decode cL_law 1114 = .ok (.iadd, 1) := oq_96 bdL_law_1102.2.2.2.2.2.2.2.2.1
theorem dL_law_1115 : decode cL_law 1115 = .ok (.iaload, 1) := oq_46 bdL_law_1102.2.2.2.2.2.2.2.2.2.1
theorem dL_law_1116 : decode cL_law 1116 = .ok (.aload_n 0, 1) := oq_42 bdL_law_1102.2.2.2.2.2.2.2.2.2.2.1
theorem dL_law_1117 : decode cL_law 1117 = .ok (.iload_n 3, 1) := oq_29 bdL_law_1102.2.2.2.2.2.2.2.2.2.2.2
theorem bdL_law_1118 : (pre_b (List.drop 1118 cL_law.data.toList) [5]) = true ∧ (pre_b (List.drop 1119 cL_law.data.toList) [96]) = true ∧ (pre_b (List.drop 1120 cL_law.data.toList) [46]) = true ∧ (pre_b (List.drop 1121 cL_law.data.toList) [182, 0, 148] && Nat.beq (0 * 256 + 148) 148) = true ∧ (pre_b (List.drop 1124 cL_law.data.toList) [87]) = true ∧ (pre_b (List.drop 1125 cL_law.data.toList) [44]) = true ∧ (pre_b (List.drop 1126 cL_law.data.toList) [42]) = true ∧ (pre_b (List.drop 1127 cL_law.data.toList) [29]) = true ∧ (pre_b (List.drop 1128 cL_law.data.toList) [4]) = true ∧ (pre_b (List.drop 1129 cL_law.data.toList) [96]) = true ∧ (pre_b (List.drop 1130 cL_law.data.toList) [46]) = true ∧ (pre_b (List.drop 1131 cL_law.data.toList) [42]) = true := by decide +kernel
theorem dL_law_1118 : decode cL_law 1118 = .ok (.iconst 2, 1) := oq_5 bdL_law_1118.1
theorem dL_law_1119 : decode cL_law 1119 = .ok (.iadd, 1) := oq_96 bdL_law_1118.2.1
theorem dL_law_1120 : decode cL_law 1120 = .ok (.iaload, 1) := oq_46 bdL_law_1118.2.2.1
theorem dL_law_1121 : decode cL_law 1121 = .ok (.invokevirtual 148, 3) := oq_182 bdL_law_1118.2.2.2.1
theorem dL_law_1124 : decode cL_law 1124 = .ok (.pop, 1) := oq_87 bdL_law_1118.2.2.2.2.1
theorem dL_law_1125 : decode cL_law 1125 = .ok (.aload_n 2, 1) := oq_44 bdL_law_1118.2.2.2.2.2.1
theorem dL_law_1126 : decode cL_law 1126 = .ok (.aload_n 0, 1) := oq_42 bdL_law_1118.2.2.2.2.2.2.1
theorem dL_law_1127 : decode cL_law 1127 = .ok (.iload_n 3, 1) := oq_29 bdL_law_1118.2.2.2.2.2.2.2.1
theorem dL_law_1128 : decode cL_law 1128 = .ok (.iconst 1, 1) := oq_4 bdL_law_1118.2.2.2.2.2.2.2.2.1
theorem dL_law_1129 : decode cL_law 1129 = .ok (.iadd, 1) := oq_96 bdL_law_1118.2.2.2.2.2.2.2.2.2.1
theorem dL_law_1130 : decode cL_law 1130 = .ok (.iaload, 1) := oq_46 bdL_law_1118.2.2.2.2.2.2.2.2.2.2.1
theorem dL_law_1131 : decode cL_law 1131 = .ok (.aload_n 0, 1) := oq_42 bdL_law_1118.2.2.2.2.2.2.2.2.2.2.2
theorem bdL_law_1132 : (pre_b (List.drop 1132 cL_law.data.toList) [29]) = true ∧ (pre_b (List.drop 1133 cL_law.data.toList) [5]) = true ∧ (pre_b (List.drop 1134 cL_law.data.toList) [96]) = true ∧ (pre_b (List.drop 1135 cL_law.data.toList) [46]) = true ∧ (pre_b (List.drop 1136 cL_law.data.toList) [182, 0, 151] && Nat.beq (0 * 256 + 151) 151) = true ∧ (pre_b (List.drop 1139 cL_law.data.toList) [87]) = true ∧ (pre_b (List.drop 1140 cL_law.data.toList) [167, 0, 194] && decide (Reader.signed 16 (0 * 256 + 194) = 194)) = true ∧ (pre_b (List.drop 1143 cL_law.data.toList) [43]) = true ∧ (pre_b (List.drop 1144 cL_law.data.toList) [42]) = true ∧ (pre_b (List.drop 1145 cL_law.data.toList) [29]) = true ∧ (pre_b (List.drop 1146 cL_law.data.toList) [4]) = true ∧ (pre_b (List.drop 1147 cL_law.data.toList) [96]) = true := by decide +kernel
theorem dL_law_1132 : decode cL_law 1132 = .ok (.iload_n 3, 1) := oq_29 bdL_law_1132.1
theorem dL_law_1133 : decode cL_law 1133 = .ok (.iconst 2, 1) := oq_5 bdL_law_1132.2.1
theorem dL_law_1134 : decode cL_law 1134 = .ok (.iadd, 1) := oq_96 bdL_law_1132.2.2.1
theorem dL_law_1135 : decode cL_law 1135 = .ok (.iaload, 1) := oq_46 bdL_law_1132.2.2.2.1
theorem dL_law_1136 : decode cL_law 1136 = .ok (.invokevirtual 151, 3) := oq_182 bdL_law_1132.2.2.2.2.1
theorem dL_law_1139 : decode cL_law 1139 = .ok (.pop, 1) := oq_87 bdL_law_1132.2.2.2.2.2.1
theorem dL_law_1140 : decode cL_law 1140 = .ok (.goto 194, 3) := oq_167 bdL_law_1132.2.2.2.2.2.2.1
theorem dL_law_1143 : decode cL_law 1143 = .ok (.aload_n 1, 1) := oq_43 bdL_law_1132.2.2.2.2.2.2.2.1
theorem dL_law_1144 : decode cL_law 1144 = .ok (.aload_n 0, 1) := oq_42 bdL_law_1132.2.2.2.2.2.2.2.2.1
theorem dL_law_1145 : decode cL_law 1145 = .ok (.iload_n 3, 1) := oq_29 bdL_law_1132.2.2.2.2.2.2.2.2.2.1
theorem dL_law_1146 : decode cL_law 1146 = .ok (.iconst 1, 1) := oq_4 bdL_law_1132.2.2.2.2.2.2.2.2.2.2.1
theorem dL_law_1147 : decode cL_law 1147 = .ok (.iadd, 1) := oq_96 bdL_law_1132.2.2.2.2.2.2.2.2.2.2.2
theorem bdL_law_1148 : (pre_b (List.drop 1148 cL_law.data.toList) [46]) = true ∧ (pre_b (List.drop 1149 cL_law.data.toList) [42]) = true ∧ (pre_b (List.drop 1150 cL_law.data.toList) [29]) = true ∧ (pre_b (List.drop 1151 cL_law.data.toList) [5]) = true ∧ (pre_b (List.drop 1152 cL_law.data.toList) [96]) = true ∧ (pre_b (List.drop 1153 cL_law.data.toList) [46]) = true ∧ (pre_b (List.drop 1154 cL_law.data.toList) [182, 0, 152] && Nat.beq (0 * 256 + 152) 152) = true ∧ (pre_b (List.drop 1157 cL_law.data.toList) [87]) = true ∧ (pre_b (List.drop 1158 cL_law.data.toList) [44]) = true ∧ (pre_b (List.drop 1159 cL_law.data.toList) [42]) = true ∧ (pre_b (List.drop 1160 cL_law.data.toList) [29]) = true ∧ (pre_b (List.drop 1161 cL_law.data.toList) [4]) = true := by decide +kernel
theorem dL_law_1148 : decode cL_law 1148 = .ok (.iaload, 1) := oq_46 bdL_law_1148.1
theorem dL_law_1149 : decode cL_law 1149 = .ok (.aload_n 0, 1) := oq_42 bdL_law_1148.2.1
theorem dL_law_1150 : decode cL_law 1150 = .ok (.iload_n 3, 1) := oq_29 bdL_law_1148.2.2.1
theorem dL_law_1151 : decode cL_law 1151 = .ok (.iconst 2, 1) := oq_5 bdL_law_1148.2.2.2.1
theorem dL_law_1152 : decode cL_law 1152 = .ok (.iadd, 1) := oq_96 bdL_law_1148.2.2.2.2.1
theorem dL_law_1153 : decode cL_law 1153 = .ok (.iaload, 1) := oq_46 bdL_law_1148.2.2.2.2.2.1
theorem dL_law_1154 : decode cL_law 1154 = .ok (.invokevirtual 152, 3) := oq_182 bdL_law_1148.2.2.2.2.2.2.1
theorem dL_law_1157 : decode cL_law 1157 = .ok (.pop, 1) := oq_87 bdL_law_1148.2.2.2.2.2.2.2.1
theorem dL_law_1158 : decode cL_law 1158 = .ok (.aload_n 2, 1) := oq_44 bdL_law_1148.2.2.2.2.2.2.2.2.1
theorem dL_law_1159 : decode cL_law 1159 = .ok (.aload_n 0, 1) := oq_42 bdL_law_1148.2.2.2.2.2.2.2.2.2.1
theorem dL_law_1160 : decode cL_law 1160 = .ok (.iload_n 3, 1) := oq_29 bdL_law_1148.2.2.2.2.2.2.2.2.2.2.1
theorem dL_law_1161 : decode cL_law 1161 = .ok (.iconst 1, 1) := oq_4 bdL_law_1148.2.2.2.2.2.2.2.2.2.2.2
theorem bdL_law_1162 : (pre_b (List.drop 1162 cL_law.data.toList) [96]) = true ∧ (pre_b (List.drop 1163 cL_law.data.toList) [46]) = true ∧ (pre_b (List.drop 1164 cL_law.data.toList) [42]) = true ∧ (pre_b (List.drop 1165 cL_law.data.toList) [29]) = true ∧ (pre_b (List.drop 1166 cL_law.data.toList) [5]) = true ∧ (pre_b (List.drop 1167 cL_law.data.toList) [96]) = true ∧ (pre_b (List.drop 1168 cL_law.data.toList) [46]) = true ∧ (pre_b (List.drop 1169 cL_law.data.toList) [182, 0, 155] && Nat.beq (0 * 256 + 155) 155) = true ∧ (pre_b (List.drop 1172 cL_law.data.toList) [87]) = true ∧ (pre_b (List.drop 1173 cL_law.data.toList) [167, 0, 161] && decide (Reader.signed 16 (0 * 256 + 161) = 161)) = true ∧ (pre_b (List.drop 1176 cL_law.data.toList) [43]) = true ∧ (pre_b (List.drop 1177 cL_law.data.toList) [42]) = true := by decide +kernel
theorem dL_law_1162 : decode cL_law 1162 = .ok (.iadd, 1) := oq_96 bdL_law_1162.1
theorem dL_law_1163 : decode cL_law 1163 = .ok (.iaload, 1) := oq_46 bdL_law_1162.2.1
theorem dL_law_1164 : decode cL_law 1164 = .ok (.aload_n 0, 1) := oq_42 bdL_law_1162.2.2.1
theorem dL_law_1165 : decode cL_law 1165 = .ok (.iload_n 3, 1) := oq_29 bdL_law_1162.2.2.2.1
theorem dL_law_1166 : decode cL_law 1166 = .ok (.iconst 2, 1) := oq_5 bdL_law_1162.2.2.2.2.1
theorem dL_law_1167 : decode cL_law 1167 = .ok (.iadd, 1) := oq_96 bdL_law_1162.2.2.2.2.2.1
theorem dL_law_1168 : decode cL_law 1168 = .ok (.iaload, 1) := oq_46 bdL_law_1162.2.2.2.2.2.2.1
theorem dL_law_1169 : decode cL_law 1169 = .ok (.invokevirtual 155, 3) := oq_182 bdL_law_1162.2.2.2.2.2.2.2.1
theorem dL_law_1172 : decode cL_law 1172 = .ok (.pop, 1) := oq_87 bdL_law_1162.2.2.2.2.2.2.2.2.1
theorem dL_law_1173 : decode cL_law 1173 = .ok (.goto 161, 3) := oq_167 bdL_law_1162.2.2.2.2.2.2.2.2.2.1
theorem dL_law_1176 : decode cL_law 1176 = .ok (.aload_n 1, 1) := oq_43 bdL_law_1162.2.2.2.2.2.2.2.2.2.2.1
theorem dL_law_1177 : decode cL_law 1177 = .ok (.aload_n 0, 1) := oq_42 bdL_law_1162.2.2.2.2.2.2.2.2.2.2.2
theorem bdL_law_1178 : (pre_b (List.drop 1178 cL_law.data.toList) [29]) = true ∧ (pre_b (List.drop 1179 cL_law.data.toList) [4]) = true ∧ (pre_b (List.drop 1180 cL_law.data.toList) [96]) = true ∧ (pre_b (List.drop 1181 cL_law.data.toList) [46]) = true ∧ (pre_b (List.drop 1182 cL_law.data.toList) [42]) = true ∧ (pre_b (List.drop 1183 cL_law.data.toList) [29]) = true ∧ (pre_b (List.drop 1184 cL_law.data.toList) [5]) = true ∧ (pre_b (List.drop 1185 cL_law.data.toList) [96]) = true ∧ (pre_b (List.drop 1186 cL_law.data.toList) [46]) = true ∧ (pre_b (List.drop 1187 cL_law.data.toList) [182, 0, 156] && Nat.beq (0 * 256 + 156) 156) = true ∧ (pre_b (List.drop 1190 cL_law.data.toList) [44]) = true ∧ (pre_b (List.drop 1191 cL_law.data.toList) [42]) = true := by decide +kernel
theorem dL_law_1178 : decode cL_law 1178 = .ok (.iload_n 3, 1) := oq_29 bdL_law_1178.1
theorem dL_law_1179 : decode cL_law 1179 = .ok (.iconst 1, 1) := oq_4 bdL_law_1178.2.1
theorem dL_law_1180 : decode cL_law 1180 = .ok (.iadd, 1) := oq_96 bdL_law_1178.2.2.1
theorem dL_law_1181 : decode cL_law 1181 = .ok (.iaload, 1) := oq_46 bdL_law_1178.2.2.2.1
theorem dL_law_1182 : decode cL_law 1182 = .ok (.aload_n 0, 1) := oq_42 bdL_law_1178.2.2.2.2.1
theorem dL_law_1183 : decode cL_law 1183 = .ok (.iload_n 3, 1) := oq_29 bdL_law_1178.2.2.2.2.2.1
theorem dL_law_1184 : decode cL_law 1184 = .ok (.iconst 2, 1) := oq_5 bdL_law_1178.2.2.2.2.2.2.1
theorem dL_law_1185 : decode cL_law 1185 = .ok (.iadd, 1) := oq_96 bdL_law_1178.2.2.2.2.2.2.2.1
theorem dL_law_1186 : decode cL_law 1186 = .ok (.iaload, 1) := oq_46 bdL_law_1178.2.2.2.2.2.2.2.2.1
theorem dL_law_1187 : decode cL_law 1187 = .ok (.invokevirtual 156, 3) := oq_182 bdL_law_1178.2.2.2.2.2.2.2.2.2.1
theorem dL_law_1190 : decode cL_law 1190 = .ok (.aload_n 2, 1) := oq_44 bdL_law_1178.2.2.2.2.2.2.2.2.2.2.1
theorem dL_law_1191 : decode cL_law 1191 = .ok (.aload_n 0, 1) := oq_42 bdL_law_1178.2.2.2.2.2.2.2.2.2.2.2
theorem bdL_law_1192 : (pre_b (List.drop 1192 cL_law.data.toList) [29]) = true ∧ (pre_b (List.drop 1193 cL_law.data.toList) [4]) = true ∧ (pre_b (List.drop 1194 cL_law.data.toList) [96]) = true ∧ (pre_b (List.drop 1195 cL_law.data.toList) [46]) = true ∧ (pre_b (List.drop 1196 cL_law.data.toList) [42]) = true ∧ (pre_b (List.drop 1197 cL_law.data.toList) [29]) = true ∧ (pre_b (List.drop 1198 cL_law.data.toList) [5]) = true ∧ (pre_b (List.drop 1199 cL_law.data.toList) [96]) = true ∧ (pre_b (List.drop 1200 cL_law.data.toList) [46]) = true ∧ (pre_b (List.drop 1201 cL_law.data.toList) [182, 0, 159] && Nat.beq (0 * 256 + 159) 159) = true ∧ (pre_b (List.drop 1204 cL_law.data.toList) [159, 0, 130] && decide (Reader.signed 16 (0 * 256 + 130) = 130)) = true ∧ (pre_b (List.drop 1209 cL_law.data.toList) [43]) = true := by decide +kernel
theorem dL_law_1192 : decode cL_law 1192 = .ok (.iload_n 3, 1) := oq_29 bdL_law_1192.1
theorem dL_law_1193 : decode cL_law 1193 = .ok (.iconst 1, 1) := oq_4 bdL_law_1192.2.1
theorem dL_law_1194 : decode cL_law 1194 = .ok (.iadd, 1) := oq_96 bdL_law_1192.2.2.1
theorem dL_law_1195 : decode cL_law 1195 = .ok (.iaload, 1) := oq_46 bdL_law_1192.2.2.2.1
theorem dL_law_1196 : decode cL_law 1196 = .ok (.aload_n 0, 1) := oq_42 bdL_law_1192.2.2.2.2.1
theorem dL_law_1197 : decode cL_law 1197 = .ok (.iload_n 3, 1) := oq_29 bdL_law_1192.2.2.2.2.2.1
theorem dL_law_1198 : decode cL_law 1198 = .ok (.iconst 2, 1) := oq_5 bdL_law_1192.2.2.2.2.2.2.1
theorem dL_law_1199 : decode cL_law 1199 = .ok (.iadd, 1) := oq_96 bdL_law_1192.2.2.2.2.2.2.2.1
theorem dL_law_1200 : decode cL_law 1200 = .ok (.iaload, 1) := oq_46 bdL_law_1192.2.2.2.2.2.2.2.2.1
theorem dL_law_1201 : decode cL_law 1201 = .ok (.invokevirtual 159, 3) := oq_182 bdL_law_1192.2.2.2.2.2.2.2.2.2.1
theorem dL_law_1204 : decode cL_law 1204 = .ok (.if_icmp .eq 130, 3) := oq_159 bdL_law_1192.2.2.2.2.2.2.2.2.2.2.1
theorem dL_law_1209 : decode cL_law 1209 = .ok (.aload_n 1, 1) := oq_43 bdL_law_1192.2.2.2.2.2.2.2.2.2.2.2
theorem bdL_law_1210 : (pre_b (List.drop 1210 cL_law.data.toList) [42]) = true ∧ (pre_b (List.drop 1211 cL_law.data.toList) [29]) = true ∧ (pre_b (List.drop 1212 cL_law.data.toList) [4]) = true ∧ (pre_b (List.drop 1213 cL_law.data.toList) [96]) = true ∧ (pre_b (List.drop 1214 cL_law.data.toList) [46]) = true ∧ (pre_b (List.drop 1215 cL_law.data.toList) [182, 0, 160] && Nat.beq (0 * 256 + 160) 160) = true ∧ (pre_b (List.drop 1218 cL_law.data.toList) [87]) = true ∧ (pre_b (List.drop 1219 cL_law.data.toList) [44]) = true ∧ (pre_b (List.drop 1220 cL_law.data.toList) [42]) = true ∧ (pre_b (List.drop 1221 cL_law.data.toList) [29]) = true ∧ (pre_b (List.drop 1222 cL_law.data.toList) [4]) = true ∧ (pre_b (List.drop 1223 cL_law.data.toList) [96]) = true := by decide +kernel
theorem dL_law_1210 : decode cL_law 1210 = .ok (.aload_n 0, 1) := oq_42 bdL_law_1210.1
theorem dL_law_1211 : decode cL_law 1211 = .ok (.iload_n 3, 1) := oq_29 bdL_law_1210.2.1
theorem dL_law_1212 : decode cL_law 1212 = .ok (.iconst 1, 1) := oq_4 bdL_law_1210.2.2.1
theorem dL_law_1213 : decode cL_law 1213 = .ok (.iadd, 1) := oq_96 bdL_law_1210.2.2.2.1
theorem dL_law_1214 : decode cL_law 1214 = .ok (.iaload, 1) := oq_46 bdL_law_1210.2.2.2.2.1
theorem dL_law_1215 : decode cL_law 1215 = .ok (.invokevirtual 160, 3) := oq_182 bdL_law_1210.2.2.2.2.2.1
theorem dL_law_1218 : decode cL_law 1218 = .ok (.pop, 1) := oq_87 bdL_law_1210.2.2.2.2.2.2.1
theorem dL_law_1219 : decode cL_law 1219 = .ok (.aload_n 2, 1) := oq_44 bdL_law_1210.2.2.2.2.2.2.2.1
theorem dL_law_1220 : decode cL_law 1220 = .ok (.aload_n 0, 1) := oq_42 bdL_law_1210.2.2.2.2.2.2.2.2.1
theorem dL_law_1221 : decode cL_law 1221 = .ok (.iload_n 3, 1) := oq_29 bdL_law_1210.2.2.2.2.2.2.2.2.2.1
theorem dL_law_1222 : decode cL_law 1222 = .ok (.iconst 1, 1) := oq_4 bdL_law_1210.2.2.2.2.2.2.2.2.2.2.1
theorem dL_law_1223 : decode cL_law 1223 = .ok (.iadd, 1) := oq_96 bdL_law_1210.2.2.2.2.2.2.2.2.2.2.2
theorem bdL_law_1224 : (pre_b (List.drop 1224 cL_law.data.toList) [46]) = true ∧ (pre_b (List.drop 1225 cL_law.data.toList) [182, 0, 163] && Nat.beq (0 * 256 + 163) 163) = true ∧ (pre_b (List.drop 1228 cL_law.data.toList) [87]) = true ∧ (pre_b (List.drop 1229 cL_law.data.toList) [167, 0, 105] && decide (Reader.signed 16 (0 * 256 + 105) = 105)) = true ∧ (pre_b (List.drop 1232 cL_law.data.toList) [43]) = true ∧ (pre_b (List.drop 1233 cL_law.data.toList) [42]) = true ∧ (pre_b (List.drop 1234 cL_law.data.toList) [29]) = true ∧ (pre_b (List.drop 1235 cL_law.data.toList) [4]) = true ∧ (pre_b (List.drop 1236 cL_law.data.toList) [96]) = true ∧ (pre_b (List.drop 1237 cL_law.data.toList) [46]) = true ∧ (pre_b (List.drop 1238 cL_law.data.toList) [42]) = true ∧ (pre_b (List.drop 1239 cL_law.data.toList) [29]) = true := by decide +kernel
theorem dL_law_1224 : decode cL_law 1224 = .ok (.iaload, 1) := oq_46 bdL_law_1224.1
theorem dL_law_1225 : decode cL_law 1225 = .ok (.invokevirtual 163, 3) := oq_182 bdL_law_1224.2.1
theorem dL_law_1228 : decode cL_law 1228 = .ok (.pop, 1) := oq_87 bdL_law_1224.2.2.1
theorem dL_law_1229 : decode cL_law 1229 = .ok (.goto 105, 3) := oq_167 bdL_law_1224.2.2.2.1
theorem dL_law_1232 : decode cL_law 1232 = .ok (.aload_n 1, 1) := oq_43 bdL_law_1224.2.2.2.2.1
theorem dL_law_1233 : decode cL_law 1233 = .ok (.aload_n 0, 1) := oq_42 bdL_law_1224.2.2.2.2.2.1
theorem dL_law_1234 : decode cL_law 1234 = .ok (.iload_n 3, 1) := oq_29 bdL_law_1224.2.2.2.2.2.2.1
theorem dL_law_1235 : decode cL_law 1235 = .ok (.iconst 1, 1) := oq_4 bdL_law_1224.2.2.2.2.2.2.2.1
theorem dL_law_1236 : decode cL_law 1236 = .ok (.iadd, 1) := oq_96 bdL_law_1224.2.2.2.2.2.2.2.2.1
theorem dL_law_1237 : decode cL_law 1237 = .ok (.iaload, 1) := oq_46 bdL_law_1224.2.2.2.2.2.2.2.2.2.1
theorem dL_law_1238 : decode cL_law 1238 = .ok (.aload_n 0, 1) := oq_42 bdL_law_1224.2.2.2.2.2.2.2.2.2.2.1
theorem dL_law_1239 : decode cL_law 1239 = .ok (.iload_n 3, 1) := oq_29 bdL_law_1224.2.2.2.2.2.2.2.2.2.2.2
theorem bdL_law_1240 : (pre_b (List.drop 1240 cL_law.data.toList) [5]) = true ∧ (pre_b (List.drop 1241 cL_law.data.toList) [96]) = true ∧ (pre_b (List.drop 1242 cL_law.data.toList) [46]) = true ∧ (pre_b (List.drop 1243 cL_law.data.toList) [182, 0, 164] && Nat.beq (0 * 256 + 164) 164) = true ∧ (pre_b (List.drop 1246 cL_law.data.toList) [87]) = true ∧ (pre_b (List.drop 1247 cL_law.data.toList) [44]) = true ∧ (pre_b (List.drop 1248 cL_law.data.toList) [42]) = true ∧ (pre_b (List.drop 1249 cL_law.data.toList) [29]) = true ∧ (pre_b (List.drop 1250 cL_law.data.toList) [4]) = true ∧ (pre_b (List.drop 1251 cL_law.data.toList) [96]) = true := by decide +kernel
theorem dL_law_1240 : decode cL_law 1240 = .ok (.iconst 2, 1) := oq_5 bdL_law_1240.1
theorem dL_law_1241 : decode cL_law 1241 = .ok (.iadd, 1) := oq_96 bdL_law_1240.2.1
theorem dL_law_1242 : decode cL_law 1242 = .ok (.iaload, 1) := oq_46 bdL_law_1240.2.2.1
theorem dL_law_1243 : decode cL_law 1243 = .ok (.invokevirtual 164, 3) := oq_182 bdL_law_1240.2.2.2.1
theorem dL_law_1246 : decode cL_law 1246 = .ok (.pop, 1) := oq_87 bdL_law_1240.2.2.2.2.1
theorem dL_law_1247 : decode cL_law 1247 = .ok (.aload_n 2, 1) := oq_44 bdL_law_1240.2.2.2.2.2.1
theorem dL_law_1248 : decode cL_law 1248 = .ok (.aload_n 0, 1) := oq_42 bdL_law_1240.2.2.2.2.2.2.1
theorem dL_law_1249 : decode cL_law 1249 = .ok (.iload_n 3, 1) := oq_29 bdL_law_1240.2.2.2.2.2.2.2.1
theorem dL_law_1250 : decode cL_law 1250 = .ok (.iconst 1, 1) := oq_4 bdL_law_1240.2.2.2.2.2.2.2.2.1
theorem dL_law_1251 : decode cL_law 1251 = .ok (.iadd, 1) := oq_96 bdL_law_1240.2.2.2.2.2.2.2.2.2

theorem bdL_law_1252 : (pre_b (List.drop 1252 cL_law.data.toList) [46]) = true ∧ (pre_b (List.drop 1253 cL_law.data.toList) [42]) = true ∧ (pre_b (List.drop 1254 cL_law.data.toList) [29]) = true ∧ (pre_b (List.drop 1255 cL_law.data.toList) [5]) = true ∧ (pre_b (List.drop 1256 cL_law.data.toList) [96]) = true ∧ (pre_b (List.drop 1257 cL_law.data.toList) [46]) = true ∧ (pre_b (List.drop 1258 cL_law.data.toList) [182, 0, 167] && Nat.beq (0 * 256 + 167) 167) = true ∧ (pre_b (List.drop 1261 cL_law.data.toList) [87]) = true ∧ (pre_b (List.drop 1262 cL_law.data.toList) [167, 0, 72] && decide (Reader.signed 16 (0 * 256 + 72) = 72)) = true ∧ (pre_b (List.drop 1265 cL_law.data.toList) [43]) = true ∧ (pre_b (List.drop 1266 cL_law.data.toList) [42]) = true ∧ (pre_b (List.drop 1267 cL_law.data.toList) [29]) = true := by decide +kernel
theorem dL_law_1252 : decode cL_law 1252 = .ok (.iaload, 1) := oq_46 bdL_law_1252.1
theorem dL_law_1253 : decode cL_law 1253 = .ok (.aload_n 0, 1) := oq_42 bdL_law_1252.2.1
theorem dL_law_1254 : decode cL_law 1254 = .ok (.iload_n 3, 1) := oq_29 bdL_law_1252.2.2.1
theorem dL_law_1255 : decode cL_law 1255 = .ok (.iconst 2, 1) := oq_5 bdL_law_1252.2.2.2.1
theorem dL_law_1256 : decode cL_law 1256 = .ok (.iadd, 1) := oq_96 bdL_law_1252.2.2.2.2.1
theorem dL_law_1257 : decode cL_law 1257 = .ok (.iaload, 1) := oq_46 bdL_law_1252.2.2.2.2.2.1
theorem dL_law_1258 : decode cL_law 1258 = .ok (.invokevirtual 167, 3) := oq_182 bdL_law_1252.2.2.2.2.2.2.1
theorem dL_law_1261 : decode cL_law 1261 = .ok (.pop, 1) := oq_87 bdL_law_1252.2.2.2.2.2.2.2.1
theorem dL_law_1262 : decode cL_law 1262 = .ok (.goto 72, 3) := oq_167 bdL_law_1252.2.2.2.2.2.2.2.2.1
theorem dL_law_1265 : decode cL_law 1265 = .ok (.aload_n 1, 1) := oq_43 bdL_law_1252.2.2.2.2.2.2.2.2.2.1
theorem dL_law_1266 : decode cL_law 1266 = .ok (.aload_n 0, 1) := oq_42 bdL_law_1252.2.2.2.2.2.2.2.2.2.2.1
theorem dL_law_1267 : decode cL_law 1267 = .ok (.iload_n 3, 1) := oq_29 bdL_law_1252.2.2.2.2.2.2.2.2.2.2.2
theorem bdL_law_1268 : (pre_b (List.drop 1268 cL_law.data.toList) [4]) = true ∧ (pre_b (List.drop 1269 cL_law.data.toList) [96]) = true ∧ (pre_b (List.drop 1270 cL_law.data.toList) [46]) = true ∧ (pre_b (List.drop 1271 cL_law.data.toList) [42]) = true ∧ (pre_b (List.drop 1272 cL_law.data.toList) [29]) = true ∧ (pre_b (List.drop 1273 cL_law.data.toList) [5]) = true ∧ (pre_b (List.drop 1274 cL_law.data.toList) [96]) = true ∧ (pre_b (List.drop 1275 cL_law.data.toList) [46]) = true ∧ (pre_b (List.drop 1276 cL_law.data.toList) [182, 0, 168] && Nat.beq (0 * 256 + 168) 168) = true ∧ (pre_b (List.drop 1279 cL_law.data.toList) [87]) = true ∧ (pre_b (List.drop 1280 cL_law.data.toList) [44]) = true ∧ (pre_b (List.drop 1281 cL_law.data.toList) [42]) = true := by decide +kernel
theorem dL_law_1268 : decode cL_law 1268 = .ok (.iconst 1, 1) := oq_4 bdL_law_1268.1
theorem dL_law_1269 : decode cL_law 1269 = .ok (.iadd, 1) := oq_96 bdL_law_1268.2.1
theorem dL_law_1270 : decode cL_law 1270 = .ok (.iaload, 1) := oq_46 bdL_law_1268.2.2.1
theorem dL_law_1271 : decode cL_law 1271 = .ok (.aload_n 0, 1) := oq_42 bdL_law_1268.2.2.2.1
theorem dL_law_1272 : decode cL_law 1272 = .ok (.iload_n 3, 1) := oq_29 bdL_law_1268.2.2.2.2.1
theorem dL_law_1273 : decode cL_law 1273 = .ok (.iconst 2, 1) := oq_5 bdL_law_1268.2.2.2.2.2.1
theorem dL_law_1274 : decode cL_law 1274 = .ok (.iadd, 1) := oq_96 bdL_law_1268.2.2.2.2.2.2.1
theorem dL_law_1275 : decode cL_law 1275 = .ok (.iaload, 1) := oq_46 bdL_law_1268.2.2.2.2.2.2.2.1
theorem dL_law_1276 : decode cL_law 1276 = .ok (.invokevirtual 168, 3) := oq_182 bdL_law_1268.2.2.2.2.2.2.2.2.1
theorem dL_law_1279 : decode cL_law 1279 = .ok (.pop, 1) := oq_87 bdL_law_1268.2.2.2.2.2.2.2.2.2.1
theorem dL_law_1280 : decode cL_law 1280 = .ok (.aload_n 2, 1) := oq_44 bdL_law_1268.2.2.2.2.2.2.2.2.2.2.1
theorem dL_law_1281 : decode cL_law 1281 = .ok (.aload_n 0, 1) := oq_42 bdL_law_1268.2.2.2.2.2.2.2.2.2.2.2
theorem bdL_law_1282 : (pre_b (List.drop 1282 cL_law.data.toList) [29]) = true ∧ (pre_b (List.drop 1283 cL_law.data.toList) [4]) = true ∧ (pre_b (List.drop 1284 cL_law.data.toList) [96]) = true ∧ (pre_b (List.drop 1285 cL_law.data.toList) [46]) = true ∧ (pre_b (List.drop 1286 cL_law.data.toList) [42]) = true ∧ (pre_b (List.drop 1287 cL_law.data.toList) [29]) = true ∧ (pre_b (List.drop 1288 cL_law.data.toList) [5]) = true ∧ (pre_b (List.drop 1289 cL_law.data.toList) [96]) = true ∧ (pre_b (List.drop 1290 cL_law.data.toList) [46]) = true ∧ (pre_b (List.drop 1291 cL_law.data.toList) [182, 0, 171] && Nat.beq (0 * 256 + 171) 171) = true ∧ (pre_b (List.drop 1294 cL_law.data.toList) [87]) = true ∧ (pre_b (List.drop 1295 cL_law.data.toList) [167, 0, 39] && decide (Reader.signed 16 (0 * 256 + 39) = 39)) = true := by decide +kernel
theorem dL_law_1282 : decode cL_law 1282 = .ok (.iload_n 3, 1) := oq_29 bdL_law_1282.1
theorem dL_law_1283 : decode cL_law 1283 = .ok (.iconst 1, 1) := oq_4 bdL_law_1282.2.1
theorem dL_law_1284 : decode cL_law 1284 = .ok (.iadd, 1) := oq_96 bdL_law_1282.2.2.1
theorem dL_law_1285 : decode cL_law 1285 = .ok (.iaload, 1) := oq_46 bdL_law_1282.2.2.2.1
theorem dL_law_1286 : decode cL_law 1286 = .ok (.aload_n 0, 1) := oq_42 bdL_law_1282.2.2.2.2.1
theorem dL_law_1287 : decode cL_law 1287 = .ok (.iload_n 3, 1) := oq_29 bdL_law_1282.2.2.2.2.2.1
theorem dL_law_1288 : decode cL_law 1288 = .ok (.iconst 2, 1) := oq_5 bdL_law_1282.2.2.2.2.2.2.1
theorem dL_law_1289 : decode cL_law 1289 = .ok (.iadd, 1) := oq_96 bdL_law_1282.2.2.2.2.2.2.2.1
theorem dL_law_1290 : decode cL_law 1290 = .ok (.iaload, 1) := oq_46 bdL_law_1282.2.2.2.2.2.2.2.2.1
theorem dL_law_1291 : decode cL_law 1291 = .ok (.invokevirtual 171, 3) := oq_182 bdL_law_1282.2.2.2.2.2.2.2.2.2.1
theorem dL_law_1294 : decode cL_law 1294 = .ok (.pop, 1) := oq_87 bdL_law_1282.2.2.2.2.2.2.2.2.2.2.1
theorem dL_law_1295 : decode cL_law 1295 = .ok (.goto 39, 3) := oq_167 bdL_law_1282.2.2.2.2.2.2.2.2.2.2.2
theorem bdL_law_1298 : (pre_b (List.drop 1298 cL_law.data.toList) [43]) = true ∧ (pre_b (List.drop 1299 cL_law.data.toList) [182, 0, 172] && Nat.beq (0 * 256 + 172) 172) = true ∧ (pre_b (List.drop 1302 cL_law.data.toList) [88]) = true ∧ (pre_b (List.drop 1303 cL_law.data.toList) [44]) = true ∧ (pre_b (List.drop 1304 cL_law.data.toList) [182, 0, 176] && Nat.beq (0 * 256 + 176) 176) = true ∧ (pre_b (List.drop 1307 cL_law.data.toList) [88]) = true ∧ (pre_b (List.drop 1308 cL_law.data.toList) [167, 0, 26] && decide (Reader.signed 16 (0 * 256 + 26) = 26)) = true ∧ (pre_b (List.drop 1311 cL_law.data.toList) [43]) = true ∧ (pre_b (List.drop 1312 cL_law.data.toList) [42]) = true ∧ (pre_b (List.drop 1313 cL_law.data.toList) [29]) = true ∧ (pre_b (List.drop 1314 cL_law.data.toList) [4]) = true ∧ (pre_b (List.drop 1315 cL_law.data.toList) [96]) = true := by decide +kernel
theorem dL_law_1298 : decode cL_law 1298 = .ok (.aload_n 1, 1) := oq_43 bdL_law_1298.1
theorem dL_law_1299 : decode cL_law 1299 = .ok (.invokevirtual 172, 3) := oq_182 bdL_law_1298.2.1
theorem dL_law_1302 : decode cL_law 1302 = .ok (.pop2, 1) := oq_88 bdL_law_1298.2.2.1
theorem dL_law_1303 : decode cL_law 1303 = .ok (.aload_n 2, 1) := oq_44 bdL_law_1298.2.2.2.1
theorem dL_law_1304 : decode cL_law 1304 = .ok (.invokevirtual 176, 3) := oq_182 bdL_law_1298.2.2.2.2.1
theorem dL_law_1307 : decode cL_law 1307 = .ok (.pop2, 1) := oq_88 bdL_law_1298.2.2.2.2.2.1
theorem dL_law_1308 : decode cL_law 1308 = .ok (.goto 26, 3) := oq_167 bdL_law_1298.2.2.2.2.2.2.1
theorem dL_law_1311 : decode cL_law 1311 = .ok (.aload_n 1, 1) := oq_43 bdL_law_1298.2.2.2.2.2.2.2.1
theorem dL_law_1312 : decode cL_law 1312 = .ok (.aload_n 0, 1) := oq_42 bdL_law_1298.2.2.2.2.2.2.2.2.1
theorem dL_law_1313 : decode cL_law 1313 = .ok (.iload_n 3, 1) := oq_29 bdL_law_1298.2.2.2.2.2.2.2.2.2.1
theorem dL_law_1314 : decode cL_law 1314 = .ok (.iconst 1, 1) := oq_4 bdL_law_1298.2.2.2.2.2.2.2.2.2.2.1
theorem dL_law_1315 : decode cL_law 1315 = .ok (.iadd, 1) := oq_96 bdL_law_1298.2.2.2.2.2.2.2.2.2.2.2
theorem bdL_law_1316 : (pre_b (List.drop 1316 cL_law.data.toList) [46]) = true ∧ (pre_b (List.drop 1317 cL_law.data.toList) [182, 0, 177] && Nat.beq (0 * 256 + 177) 177) = true ∧ (pre_b (List.drop 1320 cL_law.data.toList) [87]) = true ∧ (pre_b (List.drop 1321 cL_law.data.toList) [44]) = true ∧ (pre_b (List.drop 1322 cL_law.data.toList) [42]) = true ∧ (pre_b (List.drop 1323 cL_law.data.toList) [29]) = true ∧ (pre_b (List.drop 1324 cL_law.data.toList) [4]) = true ∧ (pre_b (List.drop 1325 cL_law.data.toList) [96]) = true ∧ (pre_b (List.drop 1326 cL_law.data.toList) [46]) = true ∧ (pre_b (List.drop 1327 cL_law.data.toList) [182, 0, 180] && Nat.beq (0 * 256 + 180) 180) = true ∧ (pre_b (List.drop 1330 cL_law.data.toList) [87]) = true ∧ (pre_b (List.drop 1331 cL_law.data.toList) [167, 0, 3] && decide (Reader.signed 16 (0 * 256 + 3) = 3)) = true := by decide +kernel
theorem dL_law_1316 : decode cL_law 1316 = .ok (.iaload, 1) := oq_46 bdL_law_1316.1
theorem dL_law_1317 : decode cL_law 1317 = .ok (.invokevirtual 177, 3) := oq_182 bdL_law_1316.2.1
theorem dL_law_1320 : decode cL_law 1320 = .ok (.pop, 1) := oq_87 bdL_law_1316.2.2.1
theorem dL_law_1321 : decode cL_law 1321 = .ok (.aload_n 2, 1) := oq_44 bdL_law_1316.2.2.2.1
theorem dL_law_1322 : decode cL_law 1322 = .ok (.aload_n 0, 1) := oq_42 bdL_law_1316.2.2.2.2.1
theorem dL_law_1323 : decode cL_law 1323 = .ok (.iload_n 3, 1) := oq_29 bdL_law_1316.2.2.2.2.2.1
theorem dL_law_1324 : decode cL_law 1324 = .ok (.iconst 1, 1) := oq_4 bdL_law_1316.2.2.2.2.2.2.1
theorem dL_law_1325 : decode cL_law 1325 = .ok (.iadd, 1) := oq_96 bdL_law_1316.2.2.2.2.2.2.2.1
theorem dL_law_1326 : decode cL_law 1326 = .ok (.iaload, 1) := oq_46 bdL_law_1316.2.2.2.2.2.2.2.2.1
theorem dL_law_1327 : decode cL_law 1327 = .ok (.invokevirtual 180, 3) := oq_182 bdL_law_1316.2.2.2.2.2.2.2.2.2.1
theorem dL_law_1330 : decode cL_law 1330 = .ok (.pop, 1) := oq_87 bdL_law_1316.2.2.2.2.2.2.2.2.2.2.1
theorem dL_law_1331 : decode cL_law 1331 = .ok (.goto 3, 3) := oq_167 bdL_law_1316.2.2.2.2.2.2.2.2.2.2.2
theorem bdL_law_1334 : (pre_b (List.drop 1334 cL_law.data.toList) [132, 3, 6] && Nat.beq (3) 3 && decide (Reader.signed 8 (6) = 6)) = true ∧ (pre_b (List.drop 1337 cL_law.data.toList) [167, 250, 217] && decide (Reader.signed 16 (250 * 256 + 217) = (-1319))) = true ∧ (pre_b (List.drop 1340 cL_law.data.toList) [4]) = true ∧ (pre_b (List.drop 1341 cL_law.data.toList) [172]) = true := by decide +kernel
theorem dL_law_1334 : decode cL_law 1334 = .ok (.iinc 3 6, 3) := oq_132 bdL_law_1334.1
theorem dL_law_1337 : decode cL_law 1337 = .ok (.goto (-1319), 3) := oq_167 bdL_law_1334.2.1
theorem dL_law_1340 : decode cL_law 1340 = .ok (.iconst 1, 1) := oq_4 bdL_law_1334.2.2.1
theorem dL_law_1341 : decode cL_law 1341 = .ok (.ireturn, 1) := oq_172 bdL_law_1334.2.2.2

theorem mw_1128 : Cond.methodLink RX7 1 objectInit ∈ w_all := w_inT w_s5 71 rfl rfl
theorem mw_119 : Cond.methodLink RX6 1 objectInit ∈ w_all := w_inT w_s1 22 rfl rfl
theorem mw_1200 : Cond.arrayClass .boolean ∈ w_all := w_inT w_s5 143 rfl rfl
theorem mw_122 : Cond.classLink RX6 7 RX5 ∈ w_all := w_inT w_s1 25 rfl rfl
theorem mw_123 : Cond.instantiable RX5 7 ∈ w_all := w_inT w_s1 26 rfl rfl
theorem mw_124 : Cond.methodLink RX6 9 yX5_init ∈ w_all := w_inT w_s1 27 rfl rfl
theorem mw_127 : Cond.methodLink RX5 3 objectInit ∈ w_all := w_inT w_s1 30 rfl rfl
theorem mw_247 : Cond.classLink RX6 26 RX2 ∈ w_all := w_inT w_s1 150 rfl rfl
theorem mw_248 : Cond.instantiable RX2 12 ∈ w_all := w_inT w_s1 151 rfl rfl
theorem mw_249 : Cond.methodLink RX6 28 yX2_init ∈ w_all := w_inT w_s1 152 rfl rfl
theorem mw_252 : Cond.methodLink RX2 3 objectInit ∈ w_all := w_inT w_s1 155 rfl rfl
theorem mw_298 : Cond.classLink RX6 33 RX4 ∈ w_all := w_inT w_s1 201 rfl rfl
theorem mw_299 : Cond.instantiable RX4 10 ∈ w_all := w_inT w_s1 202 rfl rfl
theorem mw_300 : Cond.methodLink RX6 35 yX4_init ∈ w_all := w_inT w_s1 203 rfl rfl
theorem mw_303 : Cond.methodLink RX4 3 objectInit ∈ w_all := w_inT w_s1 206 rfl rfl
theorem mw_336 : Cond.classLink RX6 40 RX3 ∈ w_all := w_inT w_s1 239 rfl rfl
theorem mw_337 : Cond.instantiable RX3 3 ∈ w_all := w_inT w_s2 0 rfl rfl
theorem mw_338 : Cond.methodLink RX6 42 yX3_init ∈ w_all := w_inT w_s2 1 rfl rfl
theorem mw_341 : Cond.methodLink RX3 3 objectInit ∈ w_all := w_inT w_s2 4 rfl rfl
theorem mw_612 : Cond.arrayClass .byte ∈ w_all := w_inT w_s3 35 rfl rfl
theorem mw_250 : Cond.instanceMethod yX2_init ∈ w_all := w_inT w_s1 153 rfl rfl
theorem mw_251 : Cond.code yX2_init cX2_init 1 none ∈ w_all := w_inT w_s1 154 rfl rfl
theorem mw_339 : Cond.instanceMethod yX3_init ∈ w_all := w_inT w_s2 2 rfl rfl
theorem mw_340 : Cond.code yX3_init cX3_init 1 none ∈ w_all := w_inT w_s2 3 rfl rfl
theorem mw_301 : Cond.instanceMethod yX4_init ∈ w_all := w_inT w_s1 204 rfl rfl
theorem mw_302 : Cond.code yX4_init cX4_init 1 none ∈ w_all := w_inT w_s1 205 rfl rfl
theorem mw_125 : Cond.instanceMethod yX5_init ∈ w_all := w_inT w_s1 28 rfl rfl
theorem mw_126 : Cond.code yX5_init cX5_init 1 none ∈ w_all := w_inT w_s1 29 rfl rfl
theorem bdX2_init_0 : (pre_b (List.drop 0 cX2_init.data.toList) [42]) = true ∧ (pre_b (List.drop 1 cX2_init.data.toList) [183, 0, 3] && Nat.beq (0 * 256 + 3) 3) = true ∧ (pre_b (List.drop 12 cX2_init.data.toList) [42]) = true ∧ (pre_b (List.drop 13 cX2_init.data.toList) [16, 40] && decide (Reader.signed 8 (40) = 40)) = true := by decide +kernel
theorem dX2_init_0 : decode cX2_init 0 = .ok (.aload_n 0, 1) := oq_42 bdX2_init_0.1
theorem dX2_init_1 : decode cX2_init 1 = .ok (.invokespecial 3, 3) := oq_183 bdX2_init_0.2.1
theorem dX2_init_12 : decode cX2_init 12 = .ok (.aload_n 0, 1) := oq_42 bdX2_init_0.2.2.1
theorem dX2_init_13 : decode cX2_init 13 = .ok (.bipush 40, 2) := oq_16 bdX2_init_0.2.2.2
theorem dX2_init_15 : decode cX2_init 15 = .ok (.newarray .int, 2) := by decide +kernel
theorem bdX2_init_17 : (pre_b (List.drop 17 cX2_init.data.toList) [181, 0, 15] && Nat.beq (0 * 256 + 15) 15) = true ∧ (pre_b (List.drop 20 cX2_init.data.toList) [42]) = true ∧ (pre_b (List.drop 21 cX2_init.data.toList) [16, 40] && decide (Reader.signed 8 (40) = 40)) = true := by decide +kernel
theorem dX2_init_17 : decode cX2_init 17 = .ok (.putfield 15, 3) := oq_181 bdX2_init_17.1
theorem dX2_init_20 : decode cX2_init 20 = .ok (.aload_n 0, 1) := oq_42 bdX2_init_17.2.1
theorem dX2_init_21 : decode cX2_init 21 = .ok (.bipush 40, 2) := oq_16 bdX2_init_17.2.2
theorem dX2_init_23 : decode cX2_init 23 = .ok (.newarray .int, 2) := by decide +kernel
theorem bdX2_init_25 : (pre_b (List.drop 25 cX2_init.data.toList) [181, 0, 18] && Nat.beq (0 * 256 + 18) 18) = true ∧ (pre_b (List.drop 28 cX2_init.data.toList) [177]) = true ∧ (pre_b (List.drop 4 cX2_init.data.toList) [42]) = true ∧ (pre_b (List.drop 5 cX2_init.data.toList) [16, 40] && decide (Reader.signed 8 (40) = 40)) = true := by decide +kernel
theorem dX2_init_25 : decode cX2_init 25 = .ok (.putfield 18, 3) := oq_181 bdX2_init_25.1
theorem dX2_init_28 : decode cX2_init 28 = .ok (.return_, 1) := oq_177 bdX2_init_25.2.1
theorem dX2_init_4 : decode cX2_init 4 = .ok (.aload_n 0, 1) := oq_42 bdX2_init_25.2.2.1
theorem dX2_init_5 : decode cX2_init 5 = .ok (.bipush 40, 2) := oq_16 bdX2_init_25.2.2.2
theorem dX2_init_7 : decode cX2_init 7 = .ok (.newarray .int, 2) := by decide +kernel
theorem bdX2_init_9 : (pre_b (List.drop 9 cX2_init.data.toList) [181, 0, 9] && Nat.beq (0 * 256 + 9) 9) = true := by decide +kernel
theorem dX2_init_9 : decode cX2_init 9 = .ok (.putfield 9, 3) := oq_181 bdX2_init_9
theorem bdX3_init_0 : (pre_b (List.drop 0 cX3_init.data.toList) [42]) = true ∧ (pre_b (List.drop 1 cX3_init.data.toList) [183, 0, 3] && Nat.beq (0 * 256 + 3) 3) = true ∧ (pre_b (List.drop 10 cX3_init.data.toList) [181, 0, 11] && Nat.beq (0 * 256 + 11) 11) = true ∧ (pre_b (List.drop 13 cX3_init.data.toList) [177]) = true ∧ (pre_b (List.drop 4 cX3_init.data.toList) [42]) = true ∧ (pre_b (List.drop 5 cX3_init.data.toList) [16, 10] && decide (Reader.signed 8 (10) = 10)) = true ∧ (pre_b (List.drop 7 cX3_init.data.toList) [189, 0, 9] && Nat.beq (0 * 256 + 9) 9) = true := by decide +kernel
theorem dX3_init_0 : decode cX3_init 0 = .ok (.aload_n 0, 1) := oq_42 bdX3_init_0.1
theorem dX3_init_1 : decode cX3_init 1 = .ok (.invokespecial 3, 3) := oq_183 bdX3_init_0.2.1
theorem dX3_init_10 : decode cX3_init 10 = .ok (.putfield 11, 3) := oq_181 bdX3_init_0.2.2.1
theorem dX3_init_13 : decode cX3_init 13 = .ok (.return_, 1) := oq_177 bdX3_init_0.2.2.2.1
theorem dX3_init_4 : decode cX3_init 4 = .ok (.aload_n 0, 1) := oq_42 bdX3_init_0.2.2.2.2.1
theorem dX3_init_5 : decode cX3_init 5 = .ok (.bipush 10, 2) := oq_16 bdX3_init_0.2.2.2.2.2.1
theorem dX3_init_7 : decode cX3_init 7 = .ok (.anewarray 9, 3) := oq_189 bdX3_init_0.2.2.2.2.2.2
theorem bdX4_init_0 : (pre_b (List.drop 0 cX4_init.data.toList) [42]) = true ∧ (pre_b (List.drop 1 cX4_init.data.toList) [183, 0, 3] && Nat.beq (0 * 256 + 3) 3) = true ∧ (pre_b (List.drop 12 cX4_init.data.toList) [42]) = true ∧ (pre_b (List.drop 13 cX4_init.data.toList) [16, 80] && decide (Reader.signed 8 (80) = 80)) = true := by decide +kernel
theorem dX4_init_0 : decode cX4_init 0 = .ok (.aload_n 0, 1) := oq_42 bdX4_init_0.1
theorem dX4_init_1 : decode cX4_init 1 = .ok (.invokespecial 3, 3) := oq_183 bdX4_init_0.2.1
theorem dX4_init_12 : decode cX4_init 12 = .ok (.aload_n 0, 1) := oq_42 bdX4_init_0.2.2.1
theorem dX4_init_13 : decode cX4_init 13 = .ok (.bipush 80, 2) := oq_16 bdX4_init_0.2.2.2
theorem dX4_init_15 : decode cX4_init 15 = .ok (.newarray .int, 2) := by decide +kernel
theorem bdX4_init_17 : (pre_b (List.drop 17 cX4_init.data.toList) [181, 0, 15] && Nat.beq (0 * 256 + 15) 15) = true ∧ (pre_b (List.drop 20 cX4_init.data.toList) [42]) = true ∧ (pre_b (List.drop 21 cX4_init.data.toList) [16, 80] && decide (Reader.signed 8 (80) = 80)) = true := by decide +kernel
theorem dX4_init_17 : decode cX4_init 17 = .ok (.putfield 15, 3) := oq_181 bdX4_init_17.1
theorem dX4_init_20 : decode cX4_init 20 = .ok (.aload_n 0, 1) := oq_42 bdX4_init_17.2.1
theorem dX4_init_21 : decode cX4_init 21 = .ok (.bipush 80, 2) := oq_16 bdX4_init_17.2.2
theorem dX4_init_23 : decode cX4_init 23 = .ok (.newarray .int, 2) := by decide +kernel
theorem bdX4_init_25 : (pre_b (List.drop 25 cX4_init.data.toList) [181, 0, 18] && Nat.beq (0 * 256 + 18) 18) = true ∧ (pre_b (List.drop 28 cX4_init.data.toList) [42]) = true ∧ (pre_b (List.drop 29 cX4_init.data.toList) [16, 80] && decide (Reader.signed 8 (80) = 80)) = true := by decide +kernel
theorem dX4_init_25 : decode cX4_init 25 = .ok (.putfield 18, 3) := oq_181 bdX4_init_25.1
theorem dX4_init_28 : decode cX4_init 28 = .ok (.aload_n 0, 1) := oq_42 bdX4_init_25.2.1
theorem dX4_init_29 : decode cX4_init 29 = .ok (.bipush 80, 2) := oq_16 bdX4_init_25.2.2
theorem dX4_init_31 : decode cX4_init 31 = .ok (.newarray .int, 2) := by decide +kernel
theorem bdX4_init_33 : (pre_b (List.drop 33 cX4_init.data.toList) [181, 0, 21] && Nat.beq (0 * 256 + 21) 21) = true ∧ (pre_b (List.drop 36 cX4_init.data.toList) [42]) = true ∧ (pre_b (List.drop 37 cX4_init.data.toList) [16, 80] && decide (Reader.signed 8 (80) = 80)) = true := by decide +kernel
theorem dX4_init_33 : decode cX4_init 33 = .ok (.putfield 21, 3) := oq_181 bdX4_init_33.1
theorem dX4_init_36 : decode cX4_init 36 = .ok (.aload_n 0, 1) := oq_42 bdX4_init_33.2.1
theorem dX4_init_37 : decode cX4_init 37 = .ok (.bipush 80, 2) := oq_16 bdX4_init_33.2.2
theorem dX4_init_39 : decode cX4_init 39 = .ok (.newarray .int, 2) := by decide +kernel
theorem bdX4_init_4 : (pre_b (List.drop 4 cX4_init.data.toList) [42]) = true ∧ (pre_b (List.drop 41 cX4_init.data.toList) [181, 0, 24] && Nat.beq (0 * 256 + 24) 24) = true ∧ (pre_b (List.drop 44 cX4_init.data.toList) [42]) = true ∧ (pre_b (List.drop 45 cX4_init.data.toList) [6]) = true := by decide +kernel
theorem dX4_init_4 : decode cX4_init 4 = .ok (.aload_n 0, 1) := oq_42 bdX4_init_4.1
theorem dX4_init_41 : decode cX4_init 41 = .ok (.putfield 24, 3) := oq_181 bdX4_init_4.2.1
theorem dX4_init_44 : decode cX4_init 44 = .ok (.aload_n 0, 1) := oq_42 bdX4_init_4.2.2.1
theorem dX4_init_45 : decode cX4_init 45 = .ok (.iconst 3, 1) := oq_6 bdX4_init_4.2.2.2
theorem dX4_init_46 : decode cX4_init 46 = .ok (.newarray .int, 2) := by decide +kernel
theorem bdX4_init_48 : (pre_b (List.drop 48 cX4_init.data.toList) [181, 0, 27] && Nat.beq (0 * 256 + 27) 27) = true ∧ (pre_b (List.drop 5 cX4_init.data.toList) [16, 80] && decide (Reader.signed 8 (80) = 80)) = true ∧ (pre_b (List.drop 51 cX4_init.data.toList) [42]) = true ∧ (pre_b (List.drop 52 cX4_init.data.toList) [6]) = true := by decide +kernel
theorem dX4_init_48 : decode cX4_init 48 = .ok (.putfield 27, 3) := oq_181 bdX4_init_48.1
theorem dX4_init_5 : decode cX4_init 5 = .ok (.bipush 80, 2) := oq_16 bdX4_init_48.2.1
theorem dX4_init_51 : decode cX4_init 51 = .ok (.aload_n 0, 1) := oq_42 bdX4_init_48.2.2.1
theorem dX4_init_52 : decode cX4_init 52 = .ok (.iconst 3, 1) := oq_6 bdX4_init_48.2.2.2
theorem dX4_init_53 : decode cX4_init 53 = .ok (.newarray .int, 2) := by decide +kernel
theorem bdX4_init_55 : (pre_b (List.drop 55 cX4_init.data.toList) [181, 0, 30] && Nat.beq (0 * 256 + 30) 30) = true ∧ (pre_b (List.drop 58 cX4_init.data.toList) [177]) = true := by decide +kernel
theorem dX4_init_55 : decode cX4_init 55 = .ok (.putfield 30, 3) := oq_181 bdX4_init_55.1
theorem dX4_init_58 : decode cX4_init 58 = .ok (.return_, 1) := oq_177 bdX4_init_55.2
theorem dX4_init_7 : decode cX4_init 7 = .ok (.newarray .int, 2) := by decide +kernel
theorem bdX4_init_9 : (pre_b (List.drop 9 cX4_init.data.toList) [181, 0, 11] && Nat.beq (0 * 256 + 11) 11) = true := by decide +kernel
theorem dX4_init_9 : decode cX4_init 9 = .ok (.putfield 11, 3) := oq_181 bdX4_init_9
theorem bdX5_init_0 : (pre_b (List.drop 0 cX5_init.data.toList) [42]) = true ∧ (pre_b (List.drop 1 cX5_init.data.toList) [183, 0, 3] && Nat.beq (0 * 256 + 3) 3) = true ∧ (pre_b (List.drop 10 cX5_init.data.toList) [181, 0, 9] && Nat.beq (0 * 256 + 9) 9) = true ∧ (pre_b (List.drop 13 cX5_init.data.toList) [177]) = true ∧ (pre_b (List.drop 4 cX5_init.data.toList) [42]) = true ∧ (pre_b (List.drop 5 cX5_init.data.toList) [17, 1, 144] && decide (Reader.signed 16 (1 * 256 + 144) = 400)) = true := by decide +kernel
theorem dX5_init_0 : decode cX5_init 0 = .ok (.aload_n 0, 1) := oq_42 bdX5_init_0.1
theorem dX5_init_1 : decode cX5_init 1 = .ok (.invokespecial 3, 3) := oq_183 bdX5_init_0.2.1
theorem dX5_init_10 : decode cX5_init 10 = .ok (.putfield 9, 3) := oq_181 bdX5_init_0.2.2.1
theorem dX5_init_13 : decode cX5_init 13 = .ok (.return_, 1) := oq_177 bdX5_init_0.2.2.2.1
theorem dX5_init_4 : decode cX5_init 4 = .ok (.aload_n 0, 1) := oq_42 bdX5_init_0.2.2.2.2.1
theorem dX5_init_5 : decode cX5_init 5 = .ok (.sipush 400, 3) := oq_17 bdX5_init_0.2.2.2.2.2
theorem dX5_init_8 : decode cX5_init 8 = .ok (.newarray .int, 2) := by decide +kernel
theorem bdX6_init_0 : (pre_b (List.drop 0 cX6_init.data.toList) [42]) = true ∧ (pre_b (List.drop 1 cX6_init.data.toList) [183, 0, 1] && Nat.beq (0 * 256 + 1) 1) = true ∧ (pre_b (List.drop 12 cX6_init.data.toList) [181, 0, 10] && Nat.beq (0 * 256 + 10) 10) = true ∧ (pre_b (List.drop 15 cX6_init.data.toList) [42]) = true ∧ (pre_b (List.drop 16 cX6_init.data.toList) [187, 0, 16] && Nat.beq (0 * 256 + 16) 16) = true ∧ (pre_b (List.drop 19 cX6_init.data.toList) [89]) = true ∧ (pre_b (List.drop 20 cX6_init.data.toList) [183, 0, 18] && Nat.beq (0 * 256 + 18) 18) = true ∧ (pre_b (List.drop 23 cX6_init.data.toList) [181, 0, 19] && Nat.beq (0 * 256 + 19) 19) = true ∧ (pre_b (List.drop 26 cX6_init.data.toList) [42]) = true ∧ (pre_b (List.drop 27 cX6_init.data.toList) [187, 0, 16] && Nat.beq (0 * 256 + 16) 16) = true ∧ (pre_b (List.drop 30 cX6_init.data.toList) [89]) = true ∧ (pre_b (List.drop 31 cX6_init.data.toList) [183, 0, 18] && Nat.beq (0 * 256 + 18) 18) = true := by decide +kernel
theorem dX6_init_0 : decode cX6_init 0 = .ok (.aload_n 0, 1) := oq_42 bdX6_init_0.1
theorem dX6_init_1 : decode cX6_init 1 = .ok (.invokespecial 1, 3) := oq_183 bdX6_init_0.2.1
theorem dX6_init_12 : decode cX6_init 12 = .ok (.putfield 10, 3) := oq_181 bdX6_init_0.2.2.1
theorem dX6_init_15 : decode cX6_init 15 = .ok (.aload_n 0, 1) := oq_42 bdX6_init_0.2.2.2.1
theorem dX6_init_16 : decode cX6_init 16 = .ok (.new 16, 3) := oq_187 bdX6_init_0.2.2.2.2.1
theorem dX6_init_19 : decode cX6_init 19 = .ok (.dup, 1) := oq_89 bdX6_init_0.2.2.2.2.2.1
theorem dX6_init_20 : decode cX6_init 20 = .ok (.invokespecial 18, 3) := oq_183 bdX6_init_0.2.2.2.2.2.2.1
theorem dX6_init_23 : decode cX6_init 23 = .ok (.putfield 19, 3) := oq_181 bdX6_init_0.2.2.2.2.2.2.2.1
theorem dX6_init_26 : decode cX6_init 26 = .ok (.aload_n 0, 1) := oq_42 bdX6_init_0.2.2.2.2.2.2.2.2.1
theorem dX6_init_27 : decode cX6_init 27 = .ok (.new 16, 3) := oq_187 bdX6_init_0.2.2.2.2.2.2.2.2.2.1
theorem dX6_init_30 : decode cX6_init 30 = .ok (.dup, 1) := oq_89 bdX6_init_0.2.2.2.2.2.2.2.2.2.2.1
theorem dX6_init_31 : decode cX6_init 31 = .ok (.invokespecial 18, 3) := oq_183 bdX6_init_0.2.2.2.2.2.2.2.2.2.2.2
theorem bdX6_init_34 : (pre_b (List.drop 34 cX6_init.data.toList) [181, 0, 23] && Nat.beq (0 * 256 + 23) 23) = true ∧ (pre_b (List.drop 37 cX6_init.data.toList) [42]) = true ∧ (pre_b (List.drop 38 cX6_init.data.toList) [187, 0, 26] && Nat.beq (0 * 256 + 26) 26) = true ∧ (pre_b (List.drop 4 cX6_init.data.toList) [42]) = true ∧ (pre_b (List.drop 41 cX6_init.data.toList) [89]) = true ∧ (pre_b (List.drop 42 cX6_init.data.toList) [183, 0, 28] && Nat.beq (0 * 256 + 28) 28) = true ∧ (pre_b (List.drop 45 cX6_init.data.toList) [181, 0, 29] && Nat.beq (0 * 256 + 29) 29) = true ∧ (pre_b (List.drop 48 cX6_init.data.toList) [42]) = true ∧ (pre_b (List.drop 49 cX6_init.data.toList) [187, 0, 33] && Nat.beq (0 * 256 + 33) 33) = true ∧ (pre_b (List.drop 5 cX6_init.data.toList) [187, 0, 7] && Nat.beq (0 * 256 + 7) 7) = true ∧ (pre_b (List.drop 52 cX6_init.data.toList) [89]) = true ∧ (pre_b (List.drop 53 cX6_init.data.toList) [183, 0, 35] && Nat.beq (0 * 256 + 35) 35) = true := by decide +kernel
theorem dX6_init_34 : decode cX6_init 34 = .ok (.putfield 23, 3) := oq_181 bdX6_init_34.1
theorem dX6_init_37 : decode cX6_init 37 = .ok (.aload_n 0, 1) := oq_42 bdX6_init_34.2.1
theorem dX6_init_38 : decode cX6_init 38 = .ok (.new 26, 3) := oq_187 bdX6_init_34.2.2.1
theorem dX6_init_4 : decode cX6_init 4 = .ok (.aload_n 0, 1) := oq_42 bdX6_init_34.2.2.2.1
theorem dX6_init_41 : decode cX6_init 41 = .ok (.dup, 1) := oq_89 bdX6_init_34.2.2.2.2.1
theorem dX6_init_42 : decode cX6_init 42 = .ok (.invokespecial 28, 3) := oq_183 bdX6_init_34.2.2.2.2.2.1
theorem dX6_init_45 : decode cX6_init 45 = .ok (.putfield 29, 3) := oq_181 bdX6_init_34.2.2.2.2.2.2.1
theorem dX6_init_48 : decode cX6_init 48 = .ok (.aload_n 0, 1) := oq_42 bdX6_init_34.2.2.2.2.2.2.2.1
theorem dX6_init_49 : decode cX6_init 49 = .ok (.new 33, 3) := oq_187 bdX6_init_34.2.2.2.2.2.2.2.2.1
theorem dX6_init_5 : decode cX6_init 5 = .ok (.new 7, 3) := oq_187 bdX6_init_34.2.2.2.2.2.2.2.2.2.1
theorem dX6_init_52 : decode cX6_init 52 = .ok (.dup, 1) := oq_89 bdX6_init_34.2.2.2.2.2.2.2.2.2.2.1
theorem dX6_init_53 : decode cX6_init 53 = .ok (.invokespecial 35, 3) := oq_183 bdX6_init_34.2.2.2.2.2.2.2.2.2.2.2
theorem bdX6_init_56 : (pre_b (List.drop 56 cX6_init.data.toList) [181, 0, 36] && Nat.beq (0 * 256 + 36) 36) = true ∧ (pre_b (List.drop 59 cX6_init.data.toList) [42]) = true ∧ (pre_b (List.drop 60 cX6_init.data.toList) [187, 0, 40] && Nat.beq (0 * 256 + 40) 40) = true ∧ (pre_b (List.drop 63 cX6_init.data.toList) [89]) = true ∧ (pre_b (List.drop 64 cX6_init.data.toList) [183, 0, 42] && Nat.beq (0 * 256 + 42) 42) = true ∧ (pre_b (List.drop 67 cX6_init.data.toList) [181, 0, 43] && Nat.beq (0 * 256 + 43) 43) = true ∧ (pre_b (List.drop 70 cX6_init.data.toList) [42]) = true ∧ (pre_b (List.drop 71 cX6_init.data.toList) [5]) = true ∧ (pre_b (List.drop 72 cX6_init.data.toList) [189, 0, 16] && Nat.beq (0 * 256 + 16) 16) = true ∧ (pre_b (List.drop 75 cX6_init.data.toList) [181, 0, 47] && Nat.beq (0 * 256 + 47) 47) = true ∧ (pre_b (List.drop 78 cX6_init.data.toList) [177]) = true ∧ (pre_b (List.drop 8 cX6_init.data.toList) [89]) = true := by decide +kernel
theorem dX6_init_56 : decode cX6_init 56 = .ok (.putfield 36, 3) := oq_181 bdX6_init_56.1
theorem dX6_init_59 : decode cX6_init 59 = .ok (.aload_n 0, 1) := oq_42 bdX6_init_56.2.1
theorem dX6_init_60 : decode cX6_init 60 = .ok (.new 40, 3) := oq_187 bdX6_init_56.2.2.1
theorem dX6_init_63 : decode cX6_init 63 = .ok (.dup, 1) := oq_89 bdX6_init_56.2.2.2.1
theorem dX6_init_64 : decode cX6_init 64 = .ok (.invokespecial 42, 3) := oq_183 bdX6_init_56.2.2.2.2.1
theorem dX6_init_67 : decode cX6_init 67 = .ok (.putfield 43, 3) := oq_181 bdX6_init_56.2.2.2.2.2.1
theorem dX6_init_70 : decode cX6_init 70 = .ok (.aload_n 0, 1) := oq_42 bdX6_init_56.2.2.2.2.2.2.1
theorem dX6_init_71 : decode cX6_init 71 = .ok (.iconst 2, 1) := oq_5 bdX6_init_56.2.2.2.2.2.2.2.1
theorem dX6_init_72 : decode cX6_init 72 = .ok (.anewarray 16, 3) := oq_189 bdX6_init_56.2.2.2.2.2.2.2.2.1
theorem dX6_init_75 : decode cX6_init 75 = .ok (.putfield 47, 3) := oq_181 bdX6_init_56.2.2.2.2.2.2.2.2.2.1
theorem dX6_init_78 : decode cX6_init 78 = .ok (.return_, 1) := oq_177 bdX6_init_56.2.2.2.2.2.2.2.2.2.2.1
theorem dX6_init_8 : decode cX6_init 8 = .ok (.dup, 1) := oq_89 bdX6_init_56.2.2.2.2.2.2.2.2.2.2.2
theorem bdX6_init_9 : (pre_b (List.drop 9 cX6_init.data.toList) [183, 0, 9] && Nat.beq (0 * 256 + 9) 9) = true := by decide +kernel
theorem dX6_init_9 : decode cX6_init 9 = .ok (.invokespecial 9, 3) := oq_183 bdX6_init_9
theorem bdX7_init_0 : (pre_b (List.drop 0 cX7_init.data.toList) [42]) = true ∧ (pre_b (List.drop 1 cX7_init.data.toList) [183, 0, 1] && Nat.beq (0 * 256 + 1) 1) = true ∧ (pre_b (List.drop 10 cX7_init.data.toList) [181, 0, 7] && Nat.beq (0 * 256 + 7) 7) = true ∧ (pre_b (List.drop 13 cX7_init.data.toList) [42]) = true ∧ (pre_b (List.drop 14 cX7_init.data.toList) [18, 13] && Nat.beq (13) 13) = true := by decide +kernel
theorem dX7_init_0 : decode cX7_init 0 = .ok (.aload_n 0, 1) := oq_42 bdX7_init_0.1
theorem dX7_init_1 : decode cX7_init 1 = .ok (.invokespecial 1, 3) := oq_183 bdX7_init_0.2.1
theorem dX7_init_10 : decode cX7_init 10 = .ok (.putfield 7, 3) := oq_181 bdX7_init_0.2.2.1
theorem dX7_init_13 : decode cX7_init 13 = .ok (.aload_n 0, 1) := oq_42 bdX7_init_0.2.2.2.1
theorem dX7_init_14 : decode cX7_init 14 = .ok (.ldc 13, 2) := oq_18 bdX7_init_0.2.2.2.2
theorem dX7_init_16 : decode cX7_init 16 = .ok (.newarray .long, 2) := by decide +kernel
theorem bdX7_init_18 : (pre_b (List.drop 18 cX7_init.data.toList) [181, 0, 14] && Nat.beq (0 * 256 + 14) 14) = true ∧ (pre_b (List.drop 21 cX7_init.data.toList) [42]) = true ∧ (pre_b (List.drop 22 cX7_init.data.toList) [17, 53, 224] && decide (Reader.signed 16 (53 * 256 + 224) = 13792)) = true := by decide +kernel
theorem dX7_init_18 : decode cX7_init 18 = .ok (.putfield 14, 3) := oq_181 bdX7_init_18.1
theorem dX7_init_21 : decode cX7_init 21 = .ok (.aload_n 0, 1) := oq_42 bdX7_init_18.2.1
theorem dX7_init_22 : decode cX7_init 22 = .ok (.sipush 13792, 3) := oq_17 bdX7_init_18.2.2
theorem dX7_init_25 : decode cX7_init 25 = .ok (.newarray .long, 2) := by decide +kernel
theorem bdX7_init_27 : (pre_b (List.drop 27 cX7_init.data.toList) [181, 0, 17] && Nat.beq (0 * 256 + 17) 17) = true ∧ (pre_b (List.drop 30 cX7_init.data.toList) [42]) = true ∧ (pre_b (List.drop 31 cX7_init.data.toList) [5]) = true := by decide +kernel
theorem dX7_init_27 : decode cX7_init 27 = .ok (.putfield 17, 3) := oq_181 bdX7_init_27.1
theorem dX7_init_30 : decode cX7_init 30 = .ok (.aload_n 0, 1) := oq_42 bdX7_init_27.2.1
theorem dX7_init_31 : decode cX7_init 31 = .ok (.iconst 2, 1) := oq_5 bdX7_init_27.2.2
theorem dX7_init_32 : decode cX7_init 32 = .ok (.newarray .boolean, 2) := by decide +kernel
theorem bdX7_init_34 : (pre_b (List.drop 34 cX7_init.data.toList) [181, 0, 20] && Nat.beq (0 * 256 + 20) 20) = true ∧ (pre_b (List.drop 37 cX7_init.data.toList) [42]) = true ∧ (pre_b (List.drop 38 cX7_init.data.toList) [17, 26, 240] && decide (Reader.signed 16 (26 * 256 + 240) = 6896)) = true ∧ (pre_b (List.drop 4 cX7_init.data.toList) [42]) = true := by decide +kernel
theorem dX7_init_34 : decode cX7_init 34 = .ok (.putfield 20, 3) := oq_181 bdX7_init_34.1
theorem dX7_init_37 : decode cX7_init 37 = .ok (.aload_n 0, 1) := oq_42 bdX7_init_34.2.1
theorem dX7_init_38 : decode cX7_init 38 = .ok (.sipush 6896, 3) := oq_17 bdX7_init_34.2.2.1
theorem dX7_init_4 : decode cX7_init 4 = .ok (.aload_n 0, 1) := oq_42 bdX7_init_34.2.2.2
theorem dX7_init_41 : decode cX7_init 41 = .ok (.newarray .long, 2) := by decide +kernel
theorem bdX7_init_43 : (pre_b (List.drop 43 cX7_init.data.toList) [181, 0, 24] && Nat.beq (0 * 256 + 24) 24) = true ∧ (pre_b (List.drop 46 cX7_init.data.toList) [42]) = true ∧ (pre_b (List.drop 47 cX7_init.data.toList) [16, 40] && decide (Reader.signed 8 (40) = 40)) = true := by decide +kernel
theorem dX7_init_43 : decode cX7_init 43 = .ok (.putfield 24, 3) := oq_181 bdX7_init_43.1
theorem dX7_init_46 : decode cX7_init 46 = .ok (.aload_n 0, 1) := oq_42 bdX7_init_43.2.1
theorem dX7_init_47 : decode cX7_init 47 = .ok (.bipush 40, 2) := oq_16 bdX7_init_43.2.2
theorem dX7_init_49 : decode cX7_init 49 = .ok (.newarray .int, 2) := by decide +kernel
theorem bdX7_init_5 : (pre_b (List.drop 5 cX7_init.data.toList) [17, 26, 240] && decide (Reader.signed 16 (26 * 256 + 240) = 6896)) = true ∧ (pre_b (List.drop 51 cX7_init.data.toList) [181, 0, 27] && Nat.beq (0 * 256 + 27) 27) = true ∧ (pre_b (List.drop 54 cX7_init.data.toList) [42]) = true ∧ (pre_b (List.drop 55 cX7_init.data.toList) [17, 1, 144] && decide (Reader.signed 16 (1 * 256 + 144) = 400)) = true := by decide +kernel
theorem dX7_init_5 : decode cX7_init 5 = .ok (.sipush 6896, 3) := oq_17 bdX7_init_5.1
theorem dX7_init_51 : decode cX7_init 51 = .ok (.putfield 27, 3) := oq_181 bdX7_init_5.2.1
theorem dX7_init_54 : decode cX7_init 54 = .ok (.aload_n 0, 1) := oq_42 bdX7_init_5.2.2.1
theorem dX7_init_55 : decode cX7_init 55 = .ok (.sipush 400, 3) := oq_17 bdX7_init_5.2.2.2
theorem dX7_init_58 : decode cX7_init 58 = .ok (.newarray .byte, 2) := by decide +kernel
theorem bdX7_init_60 : (pre_b (List.drop 60 cX7_init.data.toList) [181, 0, 31] && Nat.beq (0 * 256 + 31) 31) = true ∧ (pre_b (List.drop 63 cX7_init.data.toList) [177]) = true := by decide +kernel
theorem dX7_init_60 : decode cX7_init 60 = .ok (.putfield 31, 3) := oq_181 bdX7_init_60.1
theorem dX7_init_63 : decode cX7_init 63 = .ok (.return_, 1) := oq_177 bdX7_init_60.2
theorem dX7_init_8 : decode cX7_init 8 = .ok (.newarray .long, 2) := by decide +kernel
theorem wd_X2_init : wd_I yX2_init cX2_init 1 0 := ⟨mw_250, mw_101, mw_251, rfl, wn1_RX2, wn2_RX2, wpd_11⟩
theorem wd_X3_init : wd_I yX3_init cX3_init 1 0 := ⟨mw_339, mw_103, mw_340, rfl, wn1_RX3, wn2_RX3, wpd_11⟩
theorem wd_X4_init : wd_I yX4_init cX4_init 1 0 := ⟨mw_301, mw_102, mw_302, rfl, wn1_RX4, wn2_RX4, wpd_11⟩
theorem wd_X5_init : wd_I yX5_init cX5_init 1 0 := ⟨mw_125, mw_99, mw_126, rfl, wn1_RX5, wn2_RX5, wpd_11⟩

set_option maxHeartbeats 4000000 in
set_option maxRecDepth 100000 in
theorem ct_init_X5 {l : Launch} {D : va_G} {q : Nat → ClassId} {sz : Nat} {h0 : Nat} : Met l yX5_init (Cond.code yX5_init cX5_init 1 none :: w_all) ({ frames := 1, cells := 1, slots := 400, locals := 12 }) (mt_P D q [.ref h0] [(h0, .inr (4, [.null, .int 0, .int 0, .int 0, .int 0, .int 0, .int 0]))] sz) (va_Qv (fun u : (Nat → Nat) => True) (mt_B D [(h0, .inr (4, [.null, .int 0, .int 0, .int 0, .int 0, .int 0, .int 0]))] sz (fun u => [(h0, .inr (4, [.ref (u 0), .int 0, .int 0, .int 0, .int 0, .int 0, .int 0])), ((u 0), .inl (q 0, 400, .inl (fun _ => 0)))])) (va_A [(h0, .inr (4, [.null, .int 0, .int 0, .int 0, .int 0, .int 0, .int 0]))] sz)) 1 400 (va_A [(h0, .inr (4, [.null, .int 0, .int 0, .int 0, .int 0, .int 0, .int 0]))] sz) := by
  refine mt_start (by decide) (Nat.le_of_ble_eq_true rfl) ?_
  intro p e s m below meth c ls hx hb hr hml hown ht hk hin hP hQ hD hA hS hV hl
  have hK := hQ.1
  have hown : s.vm.findClass RX5 = some m.cls := hown
  have hl : lv_has ls 1 [(0, .ref h0)] := hl
  refine lv_aload_n hx hb dX5_init_0 rfl (lv_at hl 0 rfl) ?_
  refine W.objInit hx hb hown (ht _ mw_127) (ht _ mw_120) (ht _ mw_121) rfl (by rw [hml]; exact hl.1) rfl dX5_init_1 (Nat.le_of_ble_eq_true rfl) (Nat.le_of_ble_eq_true rfl) ?_
  refine W.eq (g2 := F0 m 4 ls []) rfl ?_
  refine lv_aload_n hx hb dX5_init_4 rfl (lv_at hl 0 rfl) ?_
  refine lv_sipush (v := 400) hx hb dX5_init_5 (by decide) ?_
  refine nw_i (N := 400) hx hb ht mw_160 hK hP hD hS hA (by decide) (by decide) (Nat.le_of_ble_eq_true rfl) ⟨Nat.le_of_ble_eq_true rfl, Nat.le_of_ble_eq_true rfl⟩ dX5_init_8 (fun a_1 H hP hD hS => ?_)
  have hP : va_P D vwCl [(h0, .inr (4, [.null, .int 0, .int 0, .int 0, .int 0, .int 0, .int 0])), (a_1, .inl (q 0, 400, .inl (fun _ => 0)))] H := hP
  have hD : va_D _ [(h0, .inr (4, [.null, .int 0, .int 0, .int 0, .int 0, .int 0, .int 0])), (a_1, .inl (q 0, 400, .inl (fun _ => 0)))] := hD
  refine W.widen (k := 1) (n := 400) (Nat.le_refl _) (Nat.le_of_ble_eq_true rfl) ?_
  refine fl_putF (C := RX5) (T := TX5) (N := 7) (ci := 4) (v := .ref a_1) (ws2 := [(h0, .inr (4, [.ref a_1, .int 0, .int 0, .int 0, .int 0, .int 0, .int 0])), (a_1, .inl (q 0, 400, .inl (fun _ => 0)))]) hx hb ht in_X5 tyX5_ok nmX5 hown hK hP hD hS 0 rfl rfl 0 (by decide) mw_128 rfl hin rfl rfl rfl (Nat.le_of_ble_eq_true rfl) dX5_init_10 rfl (fun H locs hP hD hS => ?_)
  have hP := hP.sub (ws' := [(h0, .inr (4, [.ref a_1, .int 0, .int 0, .int 0, .int 0, .int 0, .int 0])), (a_1, .inl (q 0, 400, .inl (fun _ => 0)))]) [0, 1] rfl
  have hD := hD.sub (ws' := [(h0, .inr (4, [.ref a_1, .int 0, .int 0, .int 0, .int 0, .int 0, .int 0])), (a_1, .inl (q 0, 400, .inl (fun _ => 0)))]) [0, 1] (by decide) rfl
  exact mt_vret (fun k => [a_1].getD k 0) hx hb hr hk (trivial) hP hD hS dX5_init_13

set_option maxHeartbeats 4000000 in
set_option maxRecDepth 100000 in
theorem ct_init_X2 {l : Launch} {D : va_G} {q : Nat → ClassId} {sz : Nat} {h0 : Nat} : Met l yX2_init (Cond.code yX2_init cX2_init 1 none :: w_all) ({ frames := 1, cells := 3, slots := 120, locals := 12 }) (mt_P D q [.ref h0] [(h0, .inr (1, [.null, .null, .null, .int 0, .int 0, .int 0, .int 0, .int 0, .int 0, .int 0, .int 0, .int 0]))] sz) (va_Qv (fun u : (Nat → Nat) => True) (mt_B D [(h0, .inr (1, [.null, .null, .null, .int 0, .int 0, .int 0, .int 0, .int 0, .int 0, .int 0, .int 0, .int 0]))] sz (fun u => [(h0, .inr (1, [.ref (u 0), .ref (u 1), .ref (u 2), .int 0, .int 0, .int 0, .int 0, .int 0, .int 0, .int 0, .int 0, .int 0])), ((u 0), .inl (q 0, 40, .inl (fun _ => 0))), ((u 1), .inl (q 0, 40, .inl (fun _ => 0))), ((u 2), .inl (q 0, 40, .inl (fun _ => 0)))])) (va_A [(h0, .inr (1, [.null, .null, .null, .int 0, .int 0, .int 0, .int 0, .int 0, .int 0, .int 0, .int 0, .int 0]))] sz)) 3 120 (va_A [(h0, .inr (1, [.null, .null, .null, .int 0, .int 0, .int 0, .int 0, .int 0, .int 0, .int 0, .int 0, .int 0]))] sz) := by
  refine mt_start (by decide) (Nat.le_of_ble_eq_true rfl) ?_
  intro p e s m below meth c ls hx hb hr hml hown ht hk hin hP hQ hD hA hS hV hl
  have hK := hQ.1
  have hown : s.vm.findClass RX2 = some m.cls := hown
  have hl : lv_has ls 1 [(0, .ref h0)] := hl
  refine lv_aload_n hx hb dX2_init_0 rfl (lv_at hl 0 rfl) ?_
  refine W.objInit hx hb hown (ht _ mw_252) (ht _ mw_120) (ht _ mw_121) rfl (by rw [hml]; exact hl.1) rfl dX2_init_1 (Nat.le_of_ble_eq_true rfl) (Nat.le_of_ble_eq_true rfl) ?_
  refine W.eq (g2 := F0 m 4 ls []) rfl ?_
  refine lv_aload_n hx hb dX2_init_4 rfl (lv_at hl 0 rfl) ?_
  refine lv_bipush (v := 40) hx hb dX2_init_5 (by decide) ?_
  refine nw_i (N := 40) hx hb ht mw_160 hK hP hD hS hA (by decide) (by decide) (Nat.le_of_ble_eq_true rfl) ⟨Nat.le_of_ble_eq_true rfl, Nat.le_of_ble_eq_true rfl⟩ dX2_init_7 (fun a_1 H hP hD hS => ?_)
  have hP : va_P D vwCl [(h0, .inr (1, [.null, .null, .null, .int 0, .int 0, .int 0, .int 0, .int 0, .int 0, .int 0, .int 0, .int 0])), (a_1, .inl (q 0, 40, .inl (fun _ => 0)))] H := hP
  have hD : va_D _ [(h0, .inr (1, [.null, .null, .null, .int 0, .int 0, .int 0, .int 0, .int 0, .int 0, .int 0, .int 0, .int 0])), (a_1, .inl (q 0, 40, .inl (fun _ => 0)))] := hD
  refine W.widen (k := 1) (n := 40) (Nat.le_refl _) (Nat.le_of_ble_eq_true rfl) ?_
  refine fl_putF (C := RX2) (T := TX2) (N := 12) (ci := 1) (v := .ref a_1) (ws2 := [(h0, .inr (1, [.ref a_1, .null, .null, .int 0, .int 0, .int 0, .int 0, .int 0, .int 0, .int 0, .int 0, .int 0])), (a_1, .inl (q 0, 40, .inl (fun _ => 0)))]) hx hb ht in_X2 tyX2_ok nmX2 hown hK hP hD hS 0 rfl rfl 0 (by decide) mw_253 rfl hin rfl rfl rfl (Nat.le_of_ble_eq_true rfl) dX2_init_9 rfl (fun H locs hP hD hS => ?_)
  refine lv_aload_n hx hb dX2_init_12 rfl (lv_at hl 0 rfl) ?_
  refine lv_bipush (v := 40) hx hb dX2_init_13 (by decide) ?_
  refine nw_i (N := 40) hx hb ht mw_160 hK hP hD hS hA (by decide) (by decide) (Nat.le_of_ble_eq_true rfl) ⟨Nat.le_of_ble_eq_true rfl, Nat.le_of_ble_eq_true rfl⟩ dX2_init_15 (fun a_2 H hP hD hS => ?_)
  have hP : va_P D vwCl [(h0, .inr (1, [.ref a_1, .null, .null, .int 0, .int 0, .int 0, .int 0, .int 0, .int 0, .int 0, .int 0, .int 0])), (a_1, .inl (q 0, 40, .inl (fun _ => 0))), (a_2, .inl (q 0, 40, .inl (fun _ => 0)))] H := hP
  have hD : va_D _ [(h0, .inr (1, [.ref a_1, .null, .null, .int 0, .int 0, .int 0, .int 0, .int 0, .int 0, .int 0, .int 0, .int 0])), (a_1, .inl (q 0, 40, .inl (fun _ => 0))), (a_2, .inl (q 0, 40, .inl (fun _ => 0)))] := hD
  refine W.widen (k := 2) (n := 80) (Nat.le_refl _) (Nat.le_of_ble_eq_true rfl) ?_
  refine fl_putF (C := RX2) (T := TX2) (N := 12) (ci := 1) (v := .ref a_2) (ws2 := [(h0, .inr (1, [.ref a_1, .ref a_2, .null, .int 0, .int 0, .int 0, .int 0, .int 0, .int 0, .int 0, .int 0, .int 0])), (a_1, .inl (q 0, 40, .inl (fun _ => 0))), (a_2, .inl (q 0, 40, .inl (fun _ => 0)))]) hx hb ht in_X2 tyX2_ok nmX2 hown hK hP hD hS 0 rfl rfl 1 (by decide) mw_254 rfl hin rfl rfl rfl (Nat.le_of_ble_eq_true rfl) dX2_init_17 rfl (fun H locs hP hD hS => ?_)
  refine lv_aload_n hx hb dX2_init_20 rfl (lv_at hl 0 rfl) ?_
  refine lv_bipush (v := 40) hx hb dX2_init_21 (by decide) ?_
  refine nw_i (N := 40) hx hb ht mw_160 hK hP hD hS hA (by decide) (by decide) (Nat.le_of_ble_eq_true rfl) ⟨Nat.le_of_ble_eq_true rfl, Nat.le_of_ble_eq_true rfl⟩ dX2_init_23 (fun a_3 H hP hD hS => ?_)
  have hP : va_P D vwCl [(h0, .inr (1, [.ref a_1, .ref a_2, .null, .int 0, .int 0, .int 0, .int 0, .int 0, .int 0, .int 0, .int 0, .int 0])), (a_1, .inl (q 0, 40, .inl (fun _ => 0))), (a_2, .inl (q 0, 40, .inl (fun _ => 0))), (a_3, .inl (q 0, 40, .inl (fun _ => 0)))] H := hP
  have hD : va_D _ [(h0, .inr (1, [.ref a_1, .ref a_2, .null, .int 0, .int 0, .int 0, .int 0, .int 0, .int 0, .int 0, .int 0, .int 0])), (a_1, .inl (q 0, 40, .inl (fun _ => 0))), (a_2, .inl (q 0, 40, .inl (fun _ => 0))), (a_3, .inl (q 0, 40, .inl (fun _ => 0)))] := hD
  refine W.widen (k := 3) (n := 120) (Nat.le_refl _) (Nat.le_of_ble_eq_true rfl) ?_
  refine fl_putF (C := RX2) (T := TX2) (N := 12) (ci := 1) (v := .ref a_3) (ws2 := [(h0, .inr (1, [.ref a_1, .ref a_2, .ref a_3, .int 0, .int 0, .int 0, .int 0, .int 0, .int 0, .int 0, .int 0, .int 0])), (a_1, .inl (q 0, 40, .inl (fun _ => 0))), (a_2, .inl (q 0, 40, .inl (fun _ => 0))), (a_3, .inl (q 0, 40, .inl (fun _ => 0)))]) hx hb ht in_X2 tyX2_ok nmX2 hown hK hP hD hS 0 rfl rfl 2 (by decide) mw_255 rfl hin rfl rfl rfl (Nat.le_of_ble_eq_true rfl) dX2_init_25 rfl (fun H locs hP hD hS => ?_)
  have hP := hP.sub (ws' := [(h0, .inr (1, [.ref a_1, .ref a_2, .ref a_3, .int 0, .int 0, .int 0, .int 0, .int 0, .int 0, .int 0, .int 0, .int 0])), (a_1, .inl (q 0, 40, .inl (fun _ => 0))), (a_2, .inl (q 0, 40, .inl (fun _ => 0))), (a_3, .inl (q 0, 40, .inl (fun _ => 0)))]) [0, 1, 2, 3] rfl
  have hD := hD.sub (ws' := [(h0, .inr (1, [.ref a_1, .ref a_2, .ref a_3, .int 0, .int 0, .int 0, .int 0, .int 0, .int 0, .int 0, .int 0, .int 0])), (a_1, .inl (q 0, 40, .inl (fun _ => 0))), (a_2, .inl (q 0, 40, .inl (fun _ => 0))), (a_3, .inl (q 0, 40, .inl (fun _ => 0)))]) [0, 1, 2, 3] (by decide) rfl
  exact mt_vret (fun k => [a_1, a_2, a_3].getD k 0) hx hb hr hk (trivial) hP hD hS dX2_init_28

set_option maxHeartbeats 4000000 in
set_option maxRecDepth 100000 in
theorem ct_init_X4 {l : Launch} {D : va_G} {q : Nat → ClassId} {sz : Nat} {h0 : Nat} : Met l yX4_init (Cond.code yX4_init cX4_init 1 none :: w_all) ({ frames := 1, cells := 7, slots := 406, locals := 12 }) (mt_P D q [.ref h0] [(h0, .inr (3, [.null, .null, .null, .null, .null, .null, .null, .int 0, .int 0, .int 0]))] sz) (va_Qv (fun u : (Nat → Nat) => True) (mt_B D [(h0, .inr (3, [.null, .null, .null, .null, .null, .null, .null, .int 0, .int 0, .int 0]))] sz (fun u => [(h0, .inr (3, [.ref (u 0), .ref (u 1), .ref (u 2), .ref (u 3), .ref (u 4), .ref (u 5), .ref (u 6), .int 0, .int 0, .int 0])), ((u 0), .inl (q 0, 80, .inl (fun _ => 0))), ((u 1), .inl (q 0, 80, .inl (fun _ => 0))), ((u 2), .inl (q 0, 80, .inl (fun _ => 0))), ((u 3), .inl (q 0, 80, .inl (fun _ => 0))), ((u 4), .inl (q 0, 80, .inl (fun _ => 0))), ((u 5), .inl (q 0, 3, .inl (fun _ => 0))), ((u 6), .inl (q 0, 3, .inl (fun _ => 0)))])) (va_A [(h0, .inr (3, [.null, .null, .null, .null, .null, .null, .null, .int 0, .int 0, .int 0]))] sz)) 7 406 (va_A [(h0, .inr (3, [.null, .null, .null, .null, .null, .null, .null, .int 0, .int 0, .int 0]))] sz) := by
  refine mt_start (by decide) (Nat.le_of_ble_eq_true rfl) ?_
  intro p e s m below meth c ls hx hb hr hml hown ht hk hin hP hQ hD hA hS hV hl
  have hK := hQ.1
  have hown : s.vm.findClass RX4 = some m.cls := hown
  have hl : lv_has ls 1 [(0, .ref h0)] := hl
  refine lv_aload_n hx hb dX4_init_0 rfl (lv_at hl 0 rfl) ?_
  refine W.objInit hx hb hown (ht _ mw_303) (ht _ mw_120) (ht _ mw_121) rfl (by rw [hml]; exact hl.1) rfl dX4_init_1 (Nat.le_of_ble_eq_true rfl) (Nat.le_of_ble_eq_true rfl) ?_
  refine W.eq (g2 := F0 m 4 ls []) rfl ?_
  refine lv_aload_n hx hb dX4_init_4 rfl (lv_at hl 0 rfl) ?_
  refine lv_bipush (v := 80) hx hb dX4_init_5 (by decide) ?_
  refine nw_i (N := 80) hx hb ht mw_160 hK hP hD hS hA (by decide) (by decide) (Nat.le_of_ble_eq_true rfl) ⟨Nat.le_of_ble_eq_true rfl, Nat.le_of_ble_eq_true rfl⟩ dX4_init_7 (fun a_1 H hP hD hS => ?_)
  have hP : va_P D vwCl [(h0, .inr (3, [.null, .null, .null, .null, .null, .null, .null, .int 0, .int 0, .int 0])), (a_1, .inl (q 0, 80, .inl (fun _ => 0)))] H := hP
  have hD : va_D _ [(h0, .inr (3, [.null, .null, .null, .null, .null, .null, .null, .int 0, .int 0, .int 0])), (a_1, .inl (q 0, 80, .inl (fun _ => 0)))] := hD
  refine W.widen (k := 1) (n := 80) (Nat.le_refl _) (Nat.le_of_ble_eq_true rfl) ?_
  refine fl_putF (C := RX4) (T := TX4) (N := 10) (ci := 3) (v := .ref a_1) (ws2 := [(h0, .inr (3, [.ref a_1, .null, .null, .null, .null, .null, .null, .int 0, .int 0, .int 0])), (a_1, .inl (q 0, 80, .inl (fun _ => 0)))]) hx hb ht in_X4 tyX4_ok nmX4 hown hK hP hD hS 0 rfl rfl 0 (by decide) mw_304 rfl hin rfl rfl rfl (Nat.le_of_ble_eq_true rfl) dX4_init_9 rfl (fun H locs hP hD hS => ?_)
  refine lv_aload_n hx hb dX4_init_12 rfl (lv_at hl 0 rfl) ?_
  refine lv_bipush (v := 80) hx hb dX4_init_13 (by decide) ?_
  refine nw_i (N := 80) hx hb ht mw_160 hK hP hD hS hA (by decide) (by decide) (Nat.le_of_ble_eq_true rfl) ⟨Nat.le_of_ble_eq_true rfl, Nat.le_of_ble_eq_true rfl⟩ dX4_init_15 (fun a_2 H hP hD hS => ?_)
  have hP : va_P D vwCl [(h0, .inr (3, [.ref a_1, .null, .null, .null, .null, .null, .null, .int 0, .int 0, .int 0])), (a_1, .inl (q 0, 80, .inl (fun _ => 0))), (a_2, .inl (q 0, 80, .inl (fun _ => 0)))] H := hP
  have hD : va_D _ [(h0, .inr (3, [.ref a_1, .null, .null, .null, .null, .null, .null, .int 0, .int 0, .int 0])), (a_1, .inl (q 0, 80, .inl (fun _ => 0))), (a_2, .inl (q 0, 80, .inl (fun _ => 0)))] := hD
  refine W.widen (k := 2) (n := 160) (Nat.le_refl _) (Nat.le_of_ble_eq_true rfl) ?_
  refine fl_putF (C := RX4) (T := TX4) (N := 10) (ci := 3) (v := .ref a_2) (ws2 := [(h0, .inr (3, [.ref a_1, .ref a_2, .null, .null, .null, .null, .null, .int 0, .int 0, .int 0])), (a_1, .inl (q 0, 80, .inl (fun _ => 0))), (a_2, .inl (q 0, 80, .inl (fun _ => 0)))]) hx hb ht in_X4 tyX4_ok nmX4 hown hK hP hD hS 0 rfl rfl 1 (by decide) mw_305 rfl hin rfl rfl rfl (Nat.le_of_ble_eq_true rfl) dX4_init_17 rfl (fun H locs hP hD hS => ?_)
  refine lv_aload_n hx hb dX4_init_20 rfl (lv_at hl 0 rfl) ?_
  refine lv_bipush (v := 80) hx hb dX4_init_21 (by decide) ?_
  refine nw_i (N := 80) hx hb ht mw_160 hK hP hD hS hA (by decide) (by decide) (Nat.le_of_ble_eq_true rfl) ⟨Nat.le_of_ble_eq_true rfl, Nat.le_of_ble_eq_true rfl⟩ dX4_init_23 (fun a_3 H hP hD hS => ?_)
  have hP : va_P D vwCl [(h0, .inr (3, [.ref a_1, .ref a_2, .null, .null, .null, .null, .null, .int 0, .int 0, .int 0])), (a_1, .inl (q 0, 80, .inl (fun _ => 0))), (a_2, .inl (q 0, 80, .inl (fun _ => 0))), (a_3, .inl (q 0, 80, .inl (fun _ => 0)))] H := hP
  have hD : va_D _ [(h0, .inr (3, [.ref a_1, .ref a_2, .null, .null, .null, .null, .null, .int 0, .int 0, .int 0])), (a_1, .inl (q 0, 80, .inl (fun _ => 0))), (a_2, .inl (q 0, 80, .inl (fun _ => 0))), (a_3, .inl (q 0, 80, .inl (fun _ => 0)))] := hD
  refine W.widen (k := 3) (n := 240) (Nat.le_refl _) (Nat.le_of_ble_eq_true rfl) ?_
  refine fl_putF (C := RX4) (T := TX4) (N := 10) (ci := 3) (v := .ref a_3) (ws2 := [(h0, .inr (3, [.ref a_1, .ref a_2, .ref a_3, .null, .null, .null, .null, .int 0, .int 0, .int 0])), (a_1, .inl (q 0, 80, .inl (fun _ => 0))), (a_2, .inl (q 0, 80, .inl (fun _ => 0))), (a_3, .inl (q 0, 80, .inl (fun _ => 0)))]) hx hb ht in_X4 tyX4_ok nmX4 hown hK hP hD hS 0 rfl rfl 2 (by decide) mw_306 rfl hin rfl rfl rfl (Nat.le_of_ble_eq_true rfl) dX4_init_25 rfl (fun H locs hP hD hS => ?_)
  refine lv_aload_n hx hb dX4_init_28 rfl (lv_at hl 0 rfl) ?_
  refine lv_bipush (v := 80) hx hb dX4_init_29 (by decide) ?_
  refine nw_i (N := 80) hx hb ht mw_160 hK hP hD hS hA (by decide) (by decide) (Nat.le_of_ble_eq_true rfl) ⟨Nat.le_of_ble_eq_true rfl, Nat.le_of_ble_eq_true rfl⟩ dX4_init_31 (fun a_4 H hP hD hS => ?_)
  have hP : va_P D vwCl [(h0, .inr (3, [.ref a_1, .ref a_2, .ref a_3, .null, .null, .null, .null, .int 0, .int 0, .int 0])), (a_1, .inl (q 0, 80, .inl (fun _ => 0))), (a_2, .inl (q 0, 80, .inl (fun _ => 0))), (a_3, .inl (q 0, 80, .inl (fun _ => 0))), (a_4, .inl (q 0, 80, .inl (fun _ => 0)))] H := hP
  have hD : va_D _ [(h0, .inr (3, [.ref a_1, .ref a_2, .ref a_3, .null, .null, .null, .null, .int 0, .int 0, .int 0])), (a_1, .inl (q 0, 80, .inl (fun _ => 0))), (a_2, .inl (q 0, 80, .inl (fun _ => 0))), (a_3, .inl (q 0, 80, .inl (fun _ => 0))), (a_4, .inl (q 0, 80, .inl (fun _ => 0)))] := hD
  refine W.widen (k := 4) (n := 320) (Nat.le_refl _) (Nat.le_of_ble_eq_true rfl) ?_
  refine fl_putF (C := RX4) (T := TX4) (N := 10) (ci := 3) (v := .ref a_4) (ws2 := [(h0, .inr (3, [.ref a_1, .ref a_2, .ref a_3, .ref a_4, .null, .null, .null, .int 0, .int 0, .int 0])), (a_1, .inl (q 0, 80, .inl (fun _ => 0))), (a_2, .inl (q 0, 80, .inl (fun _ => 0))), (a_3, .inl (q 0, 80, .inl (fun _ => 0))), (a_4, .inl (q 0, 80, .inl (fun _ => 0)))]) hx hb ht in_X4 tyX4_ok nmX4 hown hK hP hD hS 0 rfl rfl 3 (by decide) mw_307 rfl hin rfl rfl rfl (Nat.le_of_ble_eq_true rfl) dX4_init_33 rfl (fun H locs hP hD hS => ?_)
  refine lv_aload_n hx hb dX4_init_36 rfl (lv_at hl 0 rfl) ?_
  refine lv_bipush (v := 80) hx hb dX4_init_37 (by decide) ?_
  refine nw_i (N := 80) hx hb ht mw_160 hK hP hD hS hA (by decide) (by decide) (Nat.le_of_ble_eq_true rfl) ⟨Nat.le_of_ble_eq_true rfl, Nat.le_of_ble_eq_true rfl⟩ dX4_init_39 (fun a_5 H hP hD hS => ?_)
  have hP : va_P D vwCl [(h0, .inr (3, [.ref a_1, .ref a_2, .ref a_3, .ref a_4, .null, .null, .null, .int 0, .int 0, .int 0])), (a_1, .inl (q 0, 80, .inl (fun _ => 0))), (a_2, .inl (q 0, 80, .inl (fun _ => 0))), (a_3, .inl (q 0, 80, .inl (fun _ => 0))), (a_4, .inl (q 0, 80, .inl (fun _ => 0))), (a_5, .inl (q 0, 80, .inl (fun _ => 0)))] H := hP
  have hD : va_D _ [(h0, .inr (3, [.ref a_1, .ref a_2, .ref a_3, .ref a_4, .null, .null, .null, .int 0, .int 0, .int 0])), (a_1, .inl (q 0, 80, .inl (fun _ => 0))), (a_2, .inl (q 0, 80, .inl (fun _ => 0))), (a_3, .inl (q 0, 80, .inl (fun _ => 0))), (a_4, .inl (q 0, 80, .inl (fun _ => 0))), (a_5, .inl (q 0, 80, .inl (fun _ => 0)))] := hD
  refine W.widen (k := 5) (n := 400) (Nat.le_refl _) (Nat.le_of_ble_eq_true rfl) ?_
  refine fl_putF (C := RX4) (T := TX4) (N := 10) (ci := 3) (v := .ref a_5) (ws2 := [(h0, .inr (3, [.ref a_1, .ref a_2, .ref a_3, .ref a_4, .ref a_5, .null, .null, .int 0, .int 0, .int 0])), (a_1, .inl (q 0, 80, .inl (fun _ => 0))), (a_2, .inl (q 0, 80, .inl (fun _ => 0))), (a_3, .inl (q 0, 80, .inl (fun _ => 0))), (a_4, .inl (q 0, 80, .inl (fun _ => 0))), (a_5, .inl (q 0, 80, .inl (fun _ => 0)))]) hx hb ht in_X4 tyX4_ok nmX4 hown hK hP hD hS 0 rfl rfl 4 (by decide) mw_308 rfl hin rfl rfl rfl (Nat.le_of_ble_eq_true rfl) dX4_init_41 rfl (fun H locs hP hD hS => ?_)
  refine lv_aload_n hx hb dX4_init_44 rfl (lv_at hl 0 rfl) ?_
  refine lv_iconst (v := 3) hx hb dX4_init_45 (by decide) ?_
  refine nw_i (N := 3) hx hb ht mw_160 hK hP hD hS hA (by decide) (by decide) (Nat.le_of_ble_eq_true rfl) ⟨Nat.le_of_ble_eq_true rfl, Nat.le_of_ble_eq_true rfl⟩ dX4_init_46 (fun a_6 H hP hD hS => ?_)
  have hP : va_P D vwCl [(h0, .inr (3, [.ref a_1, .ref a_2, .ref a_3, .ref a_4, .ref a_5, .null, .null, .int 0, .int 0, .int 0])), (a_1, .inl (q 0, 80, .inl (fun _ => 0))), (a_2, .inl (q 0, 80, .inl (fun _ => 0))), (a_3, .inl (q 0, 80, .inl (fun _ => 0))), (a_4, .inl (q 0, 80, .inl (fun _ => 0))), (a_5, .inl (q 0, 80, .inl (fun _ => 0))), (a_6, .inl (q 0, 3, .inl (fun _ => 0)))] H := hP
  have hD : va_D _ [(h0, .inr (3, [.ref a_1, .ref a_2, .ref a_3, .ref a_4, .ref a_5, .null, .null, .int 0, .int 0, .int 0])), (a_1, .inl (q 0, 80, .inl (fun _ => 0))), (a_2, .inl (q 0, 80, .inl (fun _ => 0))), (a_3, .inl (q 0, 80, .inl (fun _ => 0))), (a_4, .inl (q 0, 80, .inl (fun _ => 0))), (a_5, .inl (q 0, 80, .inl (fun _ => 0))), (a_6, .inl (q 0, 3, .inl (fun _ => 0)))] := hD
  refine W.widen (k := 6) (n := 403) (Nat.le_refl _) (Nat.le_of_ble_eq_true rfl) ?_
  refine fl_putF (C := RX4) (T := TX4) (N := 10) (ci := 3) (v := .ref a_6) (ws2 := [(h0, .inr (3, [.ref a_1, .ref a_2, .ref a_3, .ref a_4, .ref a_5, .ref a_6, .null, .int 0, .int 0, .int 0])), (a_1, .inl (q 0, 80, .inl (fun _ => 0))), (a_2, .inl (q 0, 80, .inl (fun _ => 0))), (a_3, .inl (q 0, 80, .inl (fun _ => 0))), (a_4, .inl (q 0, 80, .inl (fun _ => 0))), (a_5, .inl (q 0, 80, .inl (fun _ => 0))), (a_6, .inl (q 0, 3, .inl (fun _ => 0)))]) hx hb ht in_X4 tyX4_ok nmX4 hown hK hP hD hS 0 rfl rfl 5 (by decide) mw_309 rfl hin rfl rfl rfl (Nat.le_of_ble_eq_true rfl) dX4_init_48 rfl (fun H locs hP hD hS => ?_)
  refine lv_aload_n hx hb dX4_init_51 rfl (lv_at hl 0 rfl) ?_
  refine lv_iconst (v := 3) hx hb dX4_init_52 (by decide) ?_
  refine nw_i (N := 3) hx hb ht mw_160 hK hP hD hS hA (by decide) (by decide) (Nat.le_of_ble_eq_true rfl) ⟨Nat.le_of_ble_eq_true rfl, Nat.le_of_ble_eq_true rfl⟩ dX4_init_53 (fun a_7 H hP hD hS => ?_)
  have hP : va_P D vwCl [(h0, .inr (3, [.ref a_1, .ref a_2, .ref a_3, .ref a_4, .ref a_5, .ref a_6, .null, .int 0, .int 0, .int 0])), (a_1, .inl (q 0, 80, .inl (fun _ => 0))), (a_2, .inl (q 0, 80, .inl (fun _ => 0))), (a_3, .inl (q 0, 80, .inl (fun _ => 0))), (a_4, .inl (q 0, 80, .inl (fun _ => 0))), (a_5, .inl (q 0, 80, .inl (fun _ => 0))), (a_6, .inl (q 0, 3, .inl (fun _ => 0))), (a_7, .inl (q 0, 3, .inl (fun _ => 0)))] H := hP
  have hD : va_D _ [(h0, .inr (3, [.ref a_1, .ref a_2, .ref a_3, .ref a_4, .ref a_5, .ref a_6, .null, .int 0, .int 0, .int 0])), (a_1, .inl (q 0, 80, .inl (fun _ => 0))), (a_2, .inl (q 0, 80, .inl (fun _ => 0))), (a_3, .inl (q 0, 80, .inl (fun _ => 0))), (a_4, .inl (q 0, 80, .inl (fun _ => 0))), (a_5, .inl (q 0, 80, .inl (fun _ => 0))), (a_6, .inl (q 0, 3, .inl (fun _ => 0))), (a_7, .inl (q 0, 3, .inl (fun _ => 0)))] := hD
  refine W.widen (k := 7) (n := 406) (Nat.le_refl _) (Nat.le_of_ble_eq_true rfl) ?_
  refine fl_putF (C := RX4) (T := TX4) (N := 10) (ci := 3) (v := .ref a_7) (ws2 := [(h0, .inr (3, [.ref a_1, .ref a_2, .ref a_3, .ref a_4, .ref a_5, .ref a_6, .ref a_7, .int 0, .int 0, .int 0])), (a_1, .inl (q 0, 80, .inl (fun _ => 0))), (a_2, .inl (q 0, 80, .inl (fun _ => 0))), (a_3, .inl (q 0, 80, .inl (fun _ => 0))), (a_4, .inl (q 0, 80, .inl (fun _ => 0))), (a_5, .inl (q 0, 80, .inl (fun _ => 0))), (a_6, .inl (q 0, 3, .inl (fun _ => 0))), (a_7, .inl (q 0, 3, .inl (fun _ => 0)))]) hx hb ht in_X4 tyX4_ok nmX4 hown hK hP hD hS 0 rfl rfl 6 (by decide) mw_310 rfl hin rfl rfl rfl (Nat.le_of_ble_eq_true rfl) dX4_init_55 rfl (fun H locs hP hD hS => ?_)
  have hP := hP.sub (ws' := [(h0, .inr (3, [.ref a_1, .ref a_2, .ref a_3, .ref a_4, .ref a_5, .ref a_6, .ref a_7, .int 0, .int 0, .int 0])), (a_1, .inl (q 0, 80, .inl (fun _ => 0))), (a_2, .inl (q 0, 80, .inl (fun _ => 0))), (a_3, .inl (q 0, 80, .inl (fun _ => 0))), (a_4, .inl (q 0, 80, .inl (fun _ => 0))), (a_5, .inl (q 0, 80, .inl (fun _ => 0))), (a_6, .inl (q 0, 3, .inl (fun _ => 0))), (a_7, .inl (q 0, 3, .inl (fun _ => 0)))]) [0, 1, 2, 3, 4, 5, 6, 7] rfl
  have hD := hD.sub (ws' := [(h0, .inr (3, [.ref a_1, .ref a_2, .ref a_3, .ref a_4, .ref a_5, .ref a_6, .ref a_7, .int 0, .int 0, .int 0])), (a_1, .inl (q 0, 80, .inl (fun _ => 0))), (a_2, .inl (q 0, 80, .inl (fun _ => 0))), (a_3, .inl (q 0, 80, .inl (fun _ => 0))), (a_4, .inl (q 0, 80, .inl (fun _ => 0))), (a_5, .inl (q 0, 80, .inl (fun _ => 0))), (a_6, .inl (q 0, 3, .inl (fun _ => 0))), (a_7, .inl (q 0, 3, .inl (fun _ => 0)))]) [0, 1, 2, 3, 4, 5, 6, 7] (by decide) rfl
  exact mt_vret (fun k => [a_1, a_2, a_3, a_4, a_5, a_6, a_7].getD k 0) hx hb hr hk (trivial) hP hD hS dX4_init_58

set_option maxHeartbeats 4000000 in
set_option maxRecDepth 100000 in
theorem ct_init_X3 {l : Launch} {D : va_G} {q : Nat → ClassId} {sz : Nat} {h0 : Nat} : Met l yX3_init (Cond.code yX3_init cX3_init 1 none :: w_all) ({ frames := 1, cells := 1, slots := 10, locals := 12 }) (mt_P D q [.ref h0] [(h0, .inr (2, [.null, .int 0, .int 0]))] sz) (va_Qv (fun u : (Nat → Nat) => True) (mt_B D [(h0, .inr (2, [.null, .int 0, .int 0]))] sz (fun u => [(h0, .inr (2, [.ref (u 0), .int 0, .int 0])), ((u 0), .inl (q 4, 10, .inr (.inr (.inr (.inr (fun _ => none))))))])) (va_A [(h0, .inr (2, [.null, .int 0, .int 0]))] sz)) 1 10 (va_A [(h0, .inr (2, [.null, .int 0, .int 0]))] sz) := by
  refine mt_start (by decide) (Nat.le_of_ble_eq_true rfl) ?_
  intro p e s m below meth c ls hx hb hr hml hown ht hk hin hP hQ hD hA hS hV hl
  have hK := hQ.1
  have hown : s.vm.findClass RX3 = some m.cls := hown
  have hl : lv_has ls 1 [(0, .ref h0)] := hl
  refine lv_aload_n hx hb dX3_init_0 rfl (lv_at hl 0 rfl) ?_
  refine W.objInit hx hb hown (ht _ mw_341) (ht _ mw_120) (ht _ mw_121) rfl (by rw [hml]; exact hl.1) rfl dX3_init_1 (Nat.le_of_ble_eq_true rfl) (Nat.le_of_ble_eq_true rfl) ?_
  refine W.eq (g2 := F0 m 4 ls []) rfl ?_
  refine lv_aload_n hx hb dX3_init_4 rfl (lv_at hl 0 rfl) ?_
  refine lv_bipush (v := 10) hx hb dX3_init_5 (by decide) ?_
  refine nw_q (N := 10) hx hb hown (ht _ mw_342) hQ hP hD hS hA (by decide) (by decide) (Nat.le_of_ble_eq_true rfl) ⟨Nat.le_of_ble_eq_true rfl, Nat.le_of_ble_eq_true rfl⟩ dX3_init_7 (fun a_1 H hP hD hS => ?_)
  have hP : va_P D vwCl [(h0, .inr (2, [.null, .int 0, .int 0])), (a_1, .inl (q 4, 10, .inr (.inr (.inr (.inr (fun _ => none))))))] H := hP
  have hD : va_D _ [(h0, .inr (2, [.null, .int 0, .int 0])), (a_1, .inl (q 4, 10, .inr (.inr (.inr (.inr (fun _ => none))))))] := hD
  refine W.widen (k := 1) (n := 10) (Nat.le_refl _) (Nat.le_of_ble_eq_true rfl) ?_
  refine fl_putF (C := RX3) (T := TX3) (N := 3) (ci := 2) (v := .ref a_1) (ws2 := [(h0, .inr (2, [.ref a_1, .int 0, .int 0])), (a_1, .inl (q 4, 10, .inr (.inr (.inr (.inr (fun _ => none))))))]) hx hb ht in_X3 tyX3_ok nmX3 hown hK hP hD hS 0 rfl rfl 0 (by decide) mw_344 rfl hin rfl rfl rfl (Nat.le_of_ble_eq_true rfl) dX3_init_10 rfl (fun H locs hP hD hS => ?_)
  have hP := hP.sub (ws' := [(h0, .inr (2, [.ref a_1, .int 0, .int 0])), (a_1, .inl (q 4, 10, .inr (.inr (.inr (.inr (fun _ => none))))))]) [0, 1] rfl
  have hD := hD.sub (ws' := [(h0, .inr (2, [.ref a_1, .int 0, .int 0])), (a_1, .inl (q 4, 10, .inr (.inr (.inr (.inr (fun _ => none))))))]) [0, 1] (by decide) rfl
  exact mt_vret (fun k => [a_1].getD k 0) hx hb hr hk (trivial) hP hD hS dX3_init_13

set_option maxHeartbeats 4000000 in
set_option maxRecDepth 100000 in
theorem ct_init_X6 {l : Launch} {D : va_G} {q : Nat → ClassId} {sz : Nat} {h0 : Nat} : Met l yX6_init (Cond.code yX6_init cX6_init 1 none :: w_all) ({ frames := 2, cells := 43, slots := 1982, locals := 32 }) (mt_P D q [.ref h0] [(h0, .inr (5, [.null, .null, .null, .null, .null, .null, .null]))] sz) (va_Qv (fun u : (Nat → Nat) => u 0 = h0) (mt_B D [(h0, .inr (5, [.null, .null, .null, .null, .null, .null, .null]))] sz (fun u => fb_w u q)) (va_A [(h0, .inr (5, [.null, .null, .null, .null, .null, .null, .null]))] sz)) 43 1982 (va_A [(h0, .inr (5, [.null, .null, .null, .null, .null, .null, .null]))] sz) := by
  refine mt_start (by decide) (Nat.le_of_ble_eq_true rfl) ?_
  intro p e s m below meth c ls hx hb hr hml hown ht hk hin hP hQ hD hA hS hV hl
  have hK := hQ.1
  have hown : s.vm.findClass RX6 = some m.cls := hown
  have hl : lv_has ls 1 [(0, .ref h0)] := hl
  refine lv_aload_n hx hb dX6_init_0 rfl (lv_at hl 0 rfl) ?_
  refine W.objInit hx hb hown (ht _ mw_119) (ht _ mw_120) (ht _ mw_121) rfl (by rw [hml]; exact hl.1) rfl dX6_init_1 (Nat.le_of_ble_eq_true rfl) (Nat.le_of_ble_eq_true rfl) ?_
  refine W.eq (g2 := F0 m 4 ls []) rfl ?_
  refine lv_aload_n hx hb dX6_init_4 rfl (lv_at hl 0 rfl) ?_
  refine va_new (ci := 4) (fs := [.null, .int 0, .int 0, .int 0, .int 0, .int 0, .int 0]) (C := RX5) (T := TX5) (N := 7) hx hb ht in_X5 tyX5 tyX5_ok hown (ht _ mw_122) (ht _ mw_123) (ht _ mw_99) hK hP hD hS hA rfl (fun j hj => nf_X5 j hj) (Nat.le_of_ble_eq_true rfl) (Nat.le_of_ble_eq_true rfl) dX6_init_5 (fun o_1 H hP hD hS => ?_)
  have hP : va_P D vwCl [(h0, .inr (5, [.null, .null, .null, .null, .null, .null, .null])), (o_1, .inr (4, [.null, .int 0, .int 0, .int 0, .int 0, .int 0, .int 0]))] H := hP
  have hD : va_D _ [(h0, .inr (5, [.null, .null, .null, .null, .null, .null, .null])), (o_1, .inr (4, [.null, .int 0, .int 0, .int 0, .int 0, .int 0, .int 0]))] := hD
  refine W.widen (k := 1) (n := 7) (Nat.le_refl _) (Nat.le_of_ble_eq_true rfl) ?_
  refine lv_dup hx hb dX6_init_8 rfl ?_
  refine mt_gov (mt_wI (wc := [(o_1, .inr (4, [.null, .int 0, .int 0, .int 0, .int 0, .int 0, .int 0]))]) (As := []) (rest := [.ref o_1, .ref h0]) hx hb hml hown ht (ct_init_X5) wd_X5_init mw_124 hQ hV hS hA (hP.sub [1] rfl) (hD.sub [1] (by decide) rfl) rfl hl.1 rfl (Nat.le_of_ble_eq_true rfl) dX6_init_9 ⟨Nat.le_of_ble_eq_true rfl, Nat.le_of_ble_eq_true rfl, rfl, rfl⟩ ⟨Nat.le_of_ble_eq_true rfl, Nat.le_of_ble_eq_true rfl⟩) (wr := [(h0, .inr (5, [.null, .null, .null, .null, .null, .null, .null]))]) hP hD hS hA [1] [0] rfl rfl (by decide) (by decide) (fun u_2 H locs hw hP hD hS => ?_)
  have hP : va_P D vwCl [(h0, .inr (5, [.null, .null, .null, .null, .null, .null, .null])), (o_1, .inr (4, [.ref (u_2 0), .int 0, .int 0, .int 0, .int 0, .int 0, .int 0])), ((u_2 0), .inl (q 0, 400, .inl (fun _ => 0)))] H := hP
  have hD : va_D _ [(h0, .inr (5, [.null, .null, .null, .null, .null, .null, .null])), (o_1, .inr (4, [.ref (u_2 0), .int 0, .int 0, .int 0, .int 0, .int 0, .int 0])), ((u_2 0), .inl (q 0, 400, .inl (fun _ => 0)))] := hD
  refine W.widen (k := 2) (n := 407) (Nat.le_of_ble_eq_true rfl) (Nat.le_of_ble_eq_true rfl) ?_
  refine fl_putF (C := RX6) (T := TX6) (N := 7) (ci := 5) (v := .ref o_1) (ws2 := [(h0, .inr (5, [.ref o_1, .null, .null, .null, .null, .null, .null])), (o_1, .inr (4, [.ref (u_2 0), .int 0, .int 0, .int 0, .int 0, .int 0, .int 0])), ((u_2 0), .inl (q 0, 400, .inl (fun _ => 0)))]) hx hb ht in_X6 tyX6_ok nmX6 hown hK hP hD hS 0 rfl rfl 0 (by decide) mw_355 rfl hin rfl rfl rfl (Nat.le_of_ble_eq_true rfl) dX6_init_12 rfl (fun H locs hP hD hS => ?_)
  refine lv_aload_n hx hb dX6_init_15 rfl (lv_at hl 0 rfl) ?_
  refine va_new (ci := 0) (fs := [.int 0, .int 0, .int 0, .int 0, .int 0, .int 0, .null, .null, .null, .null, .null, .null, .null, .null, .null, .null, .null, .null]) (C := RX0) (T := TX0) (N := 18) hx hb ht in_X0 tyX0 tyX0_ok hown (ht _ mw_161) (ht _ mw_162) (ht _ mw_100) hK hP hD hS hA rfl (fun j hj => nf_X0 j hj) (Nat.le_of_ble_eq_true rfl) (Nat.le_of_ble_eq_true rfl) dX6_init_16 (fun o_4 H hP hD hS => ?_)
  have hP : va_P D vwCl [(h0, .inr (5, [.ref o_1, .null, .null, .null, .null, .null, .null])), (o_1, .inr (4, [.ref (u_2 0), .int 0, .int 0, .int 0, .int 0, .int 0, .int 0])), ((u_2 0), .inl (q 0, 400, .inl (fun _ => 0))), (o_4, .inr (0, [.int 0, .int 0, .int 0, .int 0, .int 0, .int 0, .null, .null, .null, .null, .null, .null, .null, .null, .null, .null, .null, .null]))] H := hP
  have hD : va_D _ [(h0, .inr (5, [.ref o_1, .null, .null, .null, .null, .null, .null])), (o_1, .inr (4, [.ref (u_2 0), .int 0, .int 0, .int 0, .int 0, .int 0, .int 0])), ((u_2 0), .inl (q 0, 400, .inl (fun _ => 0))), (o_4, .inr (0, [.int 0, .int 0, .int 0, .int 0, .int 0, .int 0, .null, .null, .null, .null, .null, .null, .null, .null, .null, .null, .null, .null]))] := hD
  refine W.widen (k := 3) (n := 425) (Nat.le_refl _) (Nat.le_of_ble_eq_true rfl) ?_
  refine lv_dup hx hb dX6_init_19 rfl ?_
  refine mt_gov (mt_wI (wc := [(o_4, .inr (0, [.int 0, .int 0, .int 0, .int 0, .int 0, .int 0, .null, .null, .null, .null, .null, .null, .null, .null, .null, .null, .null, .null]))]) (As := []) (rest := [.ref o_4, .ref h0]) hx hb hml hown ht (ct_init_X0) wd_X0_init mw_163 hQ hV hS hA (hP.sub [3] rfl) (hD.sub [3] (by decide) rfl) rfl hl.1 rfl (Nat.le_of_ble_eq_true rfl) dX6_init_20 ⟨Nat.le_of_ble_eq_true rfl, Nat.le_of_ble_eq_true rfl, rfl, rfl⟩ ⟨Nat.le_of_ble_eq_true rfl, Nat.le_of_ble_eq_true rfl⟩) (wr := [(h0, .inr (5, [.ref o_1, .null, .null, .null, .null, .null, .null])), (o_1, .inr (4, [.ref (u_2 0), .int 0, .int 0, .int 0, .int 0, .int 0, .int 0])), ((u_2 0), .inl (q 0, 400, .inl (fun _ => 0)))]) hP hD hS hA [3] [0, 1, 2] rfl rfl (by decide) (by decide) (fun u_5 H locs hw hP hD hS => ?_)
  have hP : va_P D vwCl [(h0, .inr (5, [.ref o_1, .null, .null, .null, .null, .null, .null])), (o_1, .inr (4, [.ref (u_2 0), .int 0, .int 0, .int 0, .int 0, .int 0, .int 0])), ((u_2 0), .inl (q 0, 400, .inl (fun _ => 0))), (o_4, .inr (0, [.int 0, .int 0, .int 0, .int 0, .int 0, .int 0, .ref (u_5 0), .ref (u_5 1), .ref (u_5 2), .ref (u_5 3), .ref (u_5 4), .ref (u_5 5), .ref (u_5 6), .ref (u_5 7), .ref (u_5 8), .ref (u_5 9), .ref (u_5 10), .ref (u_5 11)])), ((u_5 0), .inl (q 0, 4, .inl (fun _ => 0))), ((u_5 1), .inl (q 0, 4, .inl (fun _ => 0))), ((u_5 2), .inl (q 0, 160, .inl (fun _ => 0))), ((u_5 3), .inl (q 0, 40, .inl (fun _ => 0))), ((u_5 4), .inl (q 0, 40, .inl (fun _ => 0))), ((u_5 5), .inl (q 0, 40, .inl (fun _ => 0))), ((u_5 6), .inl (q 0, 40, .inl (fun _ => 0))), ((u_5 7), .inl (q 0, 40, .inl (fun _ => 0))), ((u_5 8), .inl (q 0, 40, .inl (fun _ => 0))), ((u_5 9), .inl (q 0, 40, .inl (fun _ => 0))), ((u_5 10), .inl (q 1, 40, .inr (.inl (fun _ => 0)))), ((u_5 11), .inl (q 0, 0, .inl (fun _ => 0)))] H := hP
  have hD : va_D _ [(h0, .inr (5, [.ref o_1, .null, .null, .null, .null, .null, .null])), (o_1, .inr (4, [.ref (u_2 0), .int 0, .int 0, .int 0, .int 0, .int 0, .int 0])), ((u_2 0), .inl (q 0, 400, .inl (fun _ => 0))), (o_4, .inr (0, [.int 0, .int 0, .int 0, .int 0, .int 0, .int 0, .ref (u_5 0), .ref (u_5 1), .ref (u_5 2), .ref (u_5 3), .ref (u_5 4), .ref (u_5 5), .ref (u_5 6), .ref (u_5 7), .ref (u_5 8), .ref (u_5 9), .ref (u_5 10), .ref (u_5 11)])), ((u_5 0), .inl (q 0, 4, .inl (fun _ => 0))), ((u_5 1), .inl (q 0, 4, .inl (fun _ => 0))), ((u_5 2), .inl (q 0, 160, .inl (fun _ => 0))), ((u_5 3), .inl (q 0, 40, .inl (fun _ => 0))), ((u_5 4), .inl (q 0, 40, .inl (fun _ => 0))), ((u_5 5), .inl (q 0, 40, .inl (fun _ => 0))), ((u_5 6), .inl (q 0, 40, .inl (fun _ => 0))), ((u_5 7), .inl (q 0, 40, .inl (fun _ => 0))), ((u_5 8), .inl (q 0, 40, .inl (fun _ => 0))), ((u_5 9), .inl (q 0, 40, .inl (fun _ => 0))), ((u_5 10), .inl (q 1, 40, .inr (.inl (fun _ => 0)))), ((u_5 11), .inl (q 0, 0, .inl (fun _ => 0)))] := hD
  refine W.widen (k := 15) (n := 913) (Nat.le_of_ble_eq_true rfl) (Nat.le_of_ble_eq_true rfl) ?_
  refine fl_putF (C := RX6) (T := TX6) (N := 7) (ci := 5) (v := .ref o_4) (ws2 := [(h0, .inr (5, [.ref o_1, .ref o_4, .null, .null, .null, .null, .null])), (o_1, .inr (4, [.ref (u_2 0), .int 0, .int 0, .int 0, .int 0, .int 0, .int 0])), ((u_2 0), .inl (q 0, 400, .inl (fun _ => 0))), (o_4, .inr (0, [.int 0, .int 0, .int 0, .int 0, .int 0, .int 0, .ref (u_5 0), .ref (u_5 1), .ref (u_5 2), .ref (u_5 3), .ref (u_5 4), .ref (u_5 5), .ref (u_5 6), .ref (u_5 7), .ref (u_5 8), .ref (u_5 9), .ref (u_5 10), .ref (u_5 11)])), ((u_5 0), .inl (q 0, 4, .inl (fun _ => 0))), ((u_5 1), .inl (q 0, 4, .inl (fun _ => 0))), ((u_5 2), .inl (q 0, 160, .inl (fun _ => 0))), ((u_5 3), .inl (q 0, 40, .inl (fun _ => 0))), ((u_5 4), .inl (q 0, 40, .inl (fun _ => 0))), ((u_5 5), .inl (q 0, 40, .inl (fun _ => 0))), ((u_5 6), .inl (q 0, 40, .inl (fun _ => 0))), ((u_5 7), .inl (q 0, 40, .inl (fun _ => 0))), ((u_5 8), .inl (q 0, 40, .inl (fun _ => 0))), ((u_5 9), .inl (q 0, 40, .inl (fun _ => 0))), ((u_5 10), .inl (q 1, 40, .inr (.inl (fun _ => 0)))), ((u_5 11), .inl (q 0, 0, .inl (fun _ => 0)))]) hx hb ht in_X6 tyX6_ok nmX6 hown hK hP hD hS 0 rfl rfl 1 (by decide) mw_356 rfl hin rfl rfl rfl (Nat.le_of_ble_eq_true rfl) dX6_init_23 rfl (fun H locs hP hD hS => ?_)
  refine lv_aload_n hx hb dX6_init_26 rfl (lv_at hl 0 rfl) ?_
  refine va_new (ci := 0) (fs := [.int 0, .int 0, .int 0, .int 0, .int 0, .int 0, .null, .null, .null, .null, .null, .null, .null, .null, .null, .null, .null, .null]) (C := RX0) (T := TX0) (N := 18) hx hb ht in_X0 tyX0 tyX0_ok hown (ht _ mw_161) (ht _ mw_162) (ht _ mw_100) hK hP hD hS hA rfl (fun j hj => nf_X0 j hj) (Nat.le_of_ble_eq_true rfl) (Nat.le_of_ble_eq_true rfl) dX6_init_27 (fun o_7 H hP hD hS => ?_)
  have hP : va_P D vwCl [(h0, .inr (5, [.ref o_1, .ref o_4, .null, .null, .null, .null, .null])), (o_1, .inr (4, [.ref (u_2 0), .int 0, .int 0, .int 0, .int 0, .int 0, .int 0])), ((u_2 0), .inl (q 0, 400, .inl (fun _ => 0))), (o_4, .inr (0, [.int 0, .int 0, .int 0, .int 0, .int 0, .int 0, .ref (u_5 0), .ref (u_5 1), .ref (u_5 2), .ref (u_5 3), .ref (u_5 4), .ref (u_5 5), .ref (u_5 6), .ref (u_5 7), .ref (u_5 8), .ref (u_5 9), .ref (u_5 10), .ref (u_5 11)])), ((u_5 0), .inl (q 0, 4, .inl (fun _ => 0))), ((u_5 1), .inl (q 0, 4, .inl (fun _ => 0))), ((u_5 2), .inl (q 0, 160, .inl (fun _ => 0))), ((u_5 3), .inl (q 0, 40, .inl (fun _ => 0))), ((u_5 4), .inl (q 0, 40, .inl (fun _ => 0))), ((u_5 5), .inl (q 0, 40, .inl (fun _ => 0))), ((u_5 6), .inl (q 0, 40, .inl (fun _ => 0))), ((u_5 7), .inl (q 0, 40, .inl (fun _ => 0))), ((u_5 8), .inl (q 0, 40, .inl (fun _ => 0))), ((u_5 9), .inl (q 0, 40, .inl (fun _ => 0))), ((u_5 10), .inl (q 1, 40, .inr (.inl (fun _ => 0)))), ((u_5 11), .inl (q 0, 0, .inl (fun _ => 0))), (o_7, .inr (0, [.int 0, .int 0, .int 0, .int 0, .int 0, .int 0, .null, .null, .null, .null, .null, .null, .null, .null, .null, .null, .null, .null]))] H := hP
  have hD : va_D _ [(h0, .inr (5, [.ref o_1, .ref o_4, .null, .null, .null, .null, .null])), (o_1, .inr (4, [.ref (u_2 0), .int 0, .int 0, .int 0, .int 0, .int 0, .int 0])), ((u_2 0), .inl (q 0, 400, .inl (fun _ => 0))), (o_4, .inr (0, [.int 0, .int 0, .int 0, .int 0, .int 0, .int 0, .ref (u_5 0), .ref (u_5 1), .ref (u_5 2), .ref (u_5 3), .ref (u_5 4), .ref (u_5 5), .ref (u_5 6), .ref (u_5 7), .ref (u_5 8), .ref (u_5 9), .ref (u_5 10), .ref (u_5 11)])), ((u_5 0), .inl (q 0, 4, .inl (fun _ => 0))), ((u_5 1), .inl (q 0, 4, .inl (fun _ => 0))), ((u_5 2), .inl (q 0, 160, .inl (fun _ => 0))), ((u_5 3), .inl (q 0, 40, .inl (fun _ => 0))), ((u_5 4), .inl (q 0, 40, .inl (fun _ => 0))), ((u_5 5), .inl (q 0, 40, .inl (fun _ => 0))), ((u_5 6), .inl (q 0, 40, .inl (fun _ => 0))), ((u_5 7), .inl (q 0, 40, .inl (fun _ => 0))), ((u_5 8), .inl (q 0, 40, .inl (fun _ => 0))), ((u_5 9), .inl (q 0, 40, .inl (fun _ => 0))), ((u_5 10), .inl (q 1, 40, .inr (.inl (fun _ => 0)))), ((u_5 11), .inl (q 0, 0, .inl (fun _ => 0))), (o_7, .inr (0, [.int 0, .int 0, .int 0, .int 0, .int 0, .int 0, .null, .null, .null, .null, .null, .null, .null, .null, .null, .null, .null, .null]))] := hD
  refine W.widen (k := 16) (n := 931) (Nat.le_refl _) (Nat.le_of_ble_eq_true rfl) ?_
  refine lv_dup hx hb dX6_init_30 rfl ?_
  refine mt_gov (mt_wI (wc := [(o_7, .inr (0, [.int 0, .int 0, .int 0, .int 0, .int 0, .int 0, .null, .null, .null, .null, .null, .null, .null, .null, .null, .null, .null, .null]))]) (As := []) (rest := [.ref o_7, .ref h0]) hx hb hml hown ht (ct_init_X0) wd_X0_init mw_163 hQ hV hS hA (hP.sub [16] rfl) (hD.sub [16] (by decide) rfl) rfl hl.1 rfl (Nat.le_of_ble_eq_true rfl) dX6_init_31 ⟨Nat.le_of_ble_eq_true rfl, Nat.le_of_ble_eq_true rfl, rfl, rfl⟩ ⟨Nat.le_of_ble_eq_true rfl, Nat.le_of_ble_eq_true rfl⟩) (wr := [(h0, .inr (5, [.ref o_1, .ref o_4, .null, .null, .null, .null, .null])), (o_1, .inr (4, [.ref (u_2 0), .int 0, .int 0, .int 0, .int 0, .int 0, .int 0])), ((u_2 0), .inl (q 0, 400, .inl (fun _ => 0))), (o_4, .inr (0, [.int 0, .int 0, .int 0, .int 0, .int 0, .int 0, .ref (u_5 0), .ref (u_5 1), .ref (u_5 2), .ref (u_5 3), .ref (u_5 4), .ref (u_5 5), .ref (u_5 6), .ref (u_5 7), .ref (u_5 8), .ref (u_5 9), .ref (u_5 10), .ref (u_5 11)])), ((u_5 0), .inl (q 0, 4, .inl (fun _ => 0))), ((u_5 1), .inl (q 0, 4, .inl (fun _ => 0))), ((u_5 2), .inl (q 0, 160, .inl (fun _ => 0))), ((u_5 3), .inl (q 0, 40, .inl (fun _ => 0))), ((u_5 4), .inl (q 0, 40, .inl (fun _ => 0))), ((u_5 5), .inl (q 0, 40, .inl (fun _ => 0))), ((u_5 6), .inl (q 0, 40, .inl (fun _ => 0))), ((u_5 7), .inl (q 0, 40, .inl (fun _ => 0))), ((u_5 8), .inl (q 0, 40, .inl (fun _ => 0))), ((u_5 9), .inl (q 0, 40, .inl (fun _ => 0))), ((u_5 10), .inl (q 1, 40, .inr (.inl (fun _ => 0)))), ((u_5 11), .inl (q 0, 0, .inl (fun _ => 0)))]) hP hD hS hA [16] [0, 1, 2, 3, 4, 5, 6, 7, 8, 9, 10, 11, 12, 13, 14, 15] rfl rfl (by decide) (by decide) (fun u_8 H locs hw hP hD hS => ?_)
  have hP : va_P D vwCl [(h0, .inr (5, [.ref o_1, .ref o_4, .null, .null, .null, .null, .null])), (o_1, .inr (4, [.ref (u_2 0), .int 0, .int 0, .int 0, .int 0, .int 0, .int 0])), ((u_2 0), .inl (q 0, 400, .inl (fun _ => 0))), (o_4, .inr (0, [.int 0, .int 0, .int 0, .int 0, .int 0, .int 0, .ref (u_5 0), .ref (u_5 1), .ref (u_5 2), .ref (u_5 3), .ref (u_5 4), .ref (u_5 5), .ref (u_5 6), .ref (u_5 7), .ref (u_5 8), .ref (u_5 9), .ref (u_5 10), .ref (u_5 11)])), ((u_5 0), .inl (q 0, 4, .inl (fun _ => 0))), ((u_5 1), .inl (q 0, 4, .inl (fun _ => 0))), ((u_5 2), .inl (q 0, 160, .inl (fun _ => 0))), ((u_5 3), .inl (q 0, 40, .inl (fun _ => 0))), ((u_5 4), .inl (q 0, 40, .inl (fun _ => 0))), ((u_5 5), .inl (q 0, 40, .inl (fun _ => 0))), ((u_5 6), .inl (q 0, 40, .inl (fun _ => 0))), ((u_5 7), .inl (q 0, 40, .inl (fun _ => 0))), ((u_5 8), .inl (q 0, 40, .inl (fun _ => 0))), ((u_5 9), .inl (q 0, 40, .inl (fun _ => 0))), ((u_5 10), .inl (q 1, 40, .inr (.inl (fun _ => 0)))), ((u_5 11), .inl (q 0, 0, .inl (fun _ => 0))), (o_7, .inr (0, [.int 0, .int 0, .int 0, .int 0, .int 0, .int 0, .ref (u_8 0), .ref (u_8 1), .ref (u_8 2), .ref (u_8 3), .ref (u_8 4), .ref (u_8 5), .ref (u_8 6), .ref (u_8 7), .ref (u_8 8), .ref (u_8 9), .ref (u_8 10), .ref (u_8 11)])), ((u_8 0), .inl (q 0, 4, .inl (fun _ => 0))), ((u_8 1), .inl (q 0, 4, .inl (fun _ => 0))), ((u_8 2), .inl (q 0, 160, .inl (fun _ => 0))), ((u_8 3), .inl (q 0, 40, .inl (fun _ => 0))), ((u_8 4), .inl (q 0, 40, .inl (fun _ => 0))), ((u_8 5), .inl (q 0, 40, .inl (fun _ => 0))), ((u_8 6), .inl (q 0, 40, .inl (fun _ => 0))), ((u_8 7), .inl (q 0, 40, .inl (fun _ => 0))), ((u_8 8), .inl (q 0, 40, .inl (fun _ => 0))), ((u_8 9), .inl (q 0, 40, .inl (fun _ => 0))), ((u_8 10), .inl (q 1, 40, .inr (.inl (fun _ => 0)))), ((u_8 11), .inl (q 0, 0, .inl (fun _ => 0)))] H := hP
  have hD : va_D _ [(h0, .inr (5, [.ref o_1, .ref o_4, .null, .null, .null, .null, .null])), (o_1, .inr (4, [.ref (u_2 0), .int 0, .int 0, .int 0, .int 0, .int 0, .int 0])), ((u_2 0), .inl (q 0, 400, .inl (fun _ => 0))), (o_4, .inr (0, [.int 0, .int 0, .int 0, .int 0, .int 0, .int 0, .ref (u_5 0), .ref (u_5 1), .ref (u_5 2), .ref (u_5 3), .ref (u_5 4), .ref (u_5 5), .ref (u_5 6), .ref (u_5 7), .ref (u_5 8), .ref (u_5 9), .ref (u_5 10), .ref (u_5 11)])), ((u_5 0), .inl (q 0, 4, .inl (fun _ => 0))), ((u_5 1), .inl (q 0, 4, .inl (fun _ => 0))), ((u_5 2), .inl (q 0, 160, .inl (fun _ => 0))), ((u_5 3), .inl (q 0, 40, .inl (fun _ => 0))), ((u_5 4), .inl (q 0, 40, .inl (fun _ => 0))), ((u_5 5), .inl (q 0, 40, .inl (fun _ => 0))), ((u_5 6), .inl (q 0, 40, .inl (fun _ => 0))), ((u_5 7), .inl (q 0, 40, .inl (fun _ => 0))), ((u_5 8), .inl (q 0, 40, .inl (fun _ => 0))), ((u_5 9), .inl (q 0, 40, .inl (fun _ => 0))), ((u_5 10), .inl (q 1, 40, .inr (.inl (fun _ => 0)))), ((u_5 11), .inl (q 0, 0, .inl (fun _ => 0))), (o_7, .inr (0, [.int 0, .int 0, .int 0, .int 0, .int 0, .int 0, .ref (u_8 0), .ref (u_8 1), .ref (u_8 2), .ref (u_8 3), .ref (u_8 4), .ref (u_8 5), .ref (u_8 6), .ref (u_8 7), .ref (u_8 8), .ref (u_8 9), .ref (u_8 10), .ref (u_8 11)])), ((u_8 0), .inl (q 0, 4, .inl (fun _ => 0))), ((u_8 1), .inl (q 0, 4, .inl (fun _ => 0))), ((u_8 2), .inl (q 0, 160, .inl (fun _ => 0))), ((u_8 3), .inl (q 0, 40, .inl (fun _ => 0))), ((u_8 4), .inl (q 0, 40, .inl (fun _ => 0))), ((u_8 5), .inl (q 0, 40, .inl (fun _ => 0))), ((u_8 6), .inl (q 0, 40, .inl (fun _ => 0))), ((u_8 7), .inl (q 0, 40, .inl (fun _ => 0))), ((u_8 8), .inl (q 0, 40, .inl (fun _ => 0))), ((u_8 9), .inl (q 0, 40, .inl (fun _ => 0))), ((u_8 10), .inl (q 1, 40, .inr (.inl (fun _ => 0)))), ((u_8 11), .inl (q 0, 0, .inl (fun _ => 0)))] := hD
  refine W.widen (k := 28) (n := 1419) (Nat.le_of_ble_eq_true rfl) (Nat.le_of_ble_eq_true rfl) ?_
  refine fl_putF (C := RX6) (T := TX6) (N := 7) (ci := 5) (v := .ref o_7) (ws2 := [(h0, .inr (5, [.ref o_1, .ref o_4, .ref o_7, .null, .null, .null, .null])), (o_1, .inr (4, [.ref (u_2 0), .int 0, .int 0, .int 0, .int 0, .int 0, .int 0])), ((u_2 0), .inl (q 0, 400, .inl (fun _ => 0))), (o_4, .inr (0, [.int 0, .int 0, .int 0, .int 0, .int 0, .int 0, .ref (u_5 0), .ref (u_5 1), .ref (u_5 2), .ref (u_5 3), .ref (u_5 4), .ref (u_5 5), .ref (u_5 6), .ref (u_5 7), .ref (u_5 8), .ref (u_5 9), .ref (u_5 10), .ref (u_5 11)])), ((u_5 0), .inl (q 0, 4, .inl (fun _ => 0))), ((u_5 1), .inl (q 0, 4, .inl (fun _ => 0))), ((u_5 2), .inl (q 0, 160, .inl (fun _ => 0))), ((u_5 3), .inl (q 0, 40, .inl (fun _ => 0))), ((u_5 4), .inl (q 0, 40, .inl (fun _ => 0))), ((u_5 5), .inl (q 0, 40, .inl (fun _ => 0))), ((u_5 6), .inl (q 0, 40, .inl (fun _ => 0))), ((u_5 7), .inl (q 0, 40, .inl (fun _ => 0))), ((u_5 8), .inl (q 0, 40, .inl (fun _ => 0))), ((u_5 9), .inl (q 0, 40, .inl (fun _ => 0))), ((u_5 10), .inl (q 1, 40, .inr (.inl (fun _ => 0)))), ((u_5 11), .inl (q 0, 0, .inl (fun _ => 0))), (o_7, .inr (0, [.int 0, .int 0, .int 0, .int 0, .int 0, .int 0, .ref (u_8 0), .ref (u_8 1), .ref (u_8 2), .ref (u_8 3), .ref (u_8 4), .ref (u_8 5), .ref (u_8 6), .ref (u_8 7), .ref (u_8 8), .ref (u_8 9), .ref (u_8 10), .ref (u_8 11)])), ((u_8 0), .inl (q 0, 4, .inl (fun _ => 0))), ((u_8 1), .inl (q 0, 4, .inl (fun _ => 0))), ((u_8 2), .inl (q 0, 160, .inl (fun _ => 0))), ((u_8 3), .inl (q 0, 40, .inl (fun _ => 0))), ((u_8 4), .inl (q 0, 40, .inl (fun _ => 0))), ((u_8 5), .inl (q 0, 40, .inl (fun _ => 0))), ((u_8 6), .inl (q 0, 40, .inl (fun _ => 0))), ((u_8 7), .inl (q 0, 40, .inl (fun _ => 0))), ((u_8 8), .inl (q 0, 40, .inl (fun _ => 0))), ((u_8 9), .inl (q 0, 40, .inl (fun _ => 0))), ((u_8 10), .inl (q 1, 40, .inr (.inl (fun _ => 0)))), ((u_8 11), .inl (q 0, 0, .inl (fun _ => 0)))]) hx hb ht in_X6 tyX6_ok nmX6 hown hK hP hD hS 0 rfl rfl 2 (by decide) mw_357 rfl hin rfl rfl rfl (Nat.le_of_ble_eq_true rfl) dX6_init_34 rfl (fun H locs hP hD hS => ?_)
  refine lv_aload_n hx hb dX6_init_37 rfl (lv_at hl 0 rfl) ?_
  refine va_new (ci := 1) (fs := [.null, .null, .null, .int 0, .int 0, .int 0, .int 0, .int 0, .int 0, .int 0, .int 0, .int 0]) (C := RX2) (T := TX2) (N := 12) hx hb ht in_X2 tyX2 tyX2_ok hown (ht _ mw_247) (ht _ mw_248) (ht _ mw_101) hK hP hD hS hA rfl (fun j hj => nf_X2 j hj) (Nat.le_of_ble_eq_true rfl) (Nat.le_of_ble_eq_true rfl) dX6_init_38 (fun o_10 H hP hD hS => ?_)
  have hP : va_P D vwCl [(h0, .inr (5, [.ref o_1, .ref o_4, .ref o_7, .null, .null, .null, .null])), (o_1, .inr (4, [.ref (u_2 0), .int 0, .int 0, .int 0, .int 0, .int 0, .int 0])), ((u_2 0), .inl (q 0, 400, .inl (fun _ => 0))), (o_4, .inr (0, [.int 0, .int 0, .int 0, .int 0, .int 0, .int 0, .ref (u_5 0), .ref (u_5 1), .ref (u_5 2), .ref (u_5 3), .ref (u_5 4), .ref (u_5 5), .ref (u_5 6), .ref (u_5 7), .ref (u_5 8), .ref (u_5 9), .ref (u_5 10), .ref (u_5 11)])), ((u_5 0), .inl (q 0, 4, .inl (fun _ => 0))), ((u_5 1), .inl (q 0, 4, .inl (fun _ => 0))), ((u_5 2), .inl (q 0, 160, .inl (fun _ => 0))), ((u_5 3), .inl (q 0, 40, .inl (fun _ => 0))), ((u_5 4), .inl (q 0, 40, .inl (fun _ => 0))), ((u_5 5), .inl (q 0, 40, .inl (fun _ => 0))), ((u_5 6), .inl (q 0, 40, .inl (fun _ => 0))), ((u_5 7), .inl (q 0, 40, .inl (fun _ => 0))), ((u_5 8), .inl (q 0, 40, .inl (fun _ => 0))), ((u_5 9), .inl (q 0, 40, .inl (fun _ => 0))), ((u_5 10), .inl (q 1, 40, .inr (.inl (fun _ => 0)))), ((u_5 11), .inl (q 0, 0, .inl (fun _ => 0))), (o_7, .inr (0, [.int 0, .int 0, .int 0, .int 0, .int 0, .int 0, .ref (u_8 0), .ref (u_8 1), .ref (u_8 2), .ref (u_8 3), .ref (u_8 4), .ref (u_8 5), .ref (u_8 6), .ref (u_8 7), .ref (u_8 8), .ref (u_8 9), .ref (u_8 10), .ref (u_8 11)])), ((u_8 0), .inl (q 0, 4, .inl (fun _ => 0))), ((u_8 1), .inl (q 0, 4, .inl (fun _ => 0))), ((u_8 2), .inl (q 0, 160, .inl (fun _ => 0))), ((u_8 3), .inl (q 0, 40, .inl (fun _ => 0))), ((u_8 4), .inl (q 0, 40, .inl (fun _ => 0))), ((u_8 5), .inl (q 0, 40, .inl (fun _ => 0))), ((u_8 6), .inl (q 0, 40, .inl (fun _ => 0))), ((u_8 7), .inl (q 0, 40, .inl (fun _ => 0))), ((u_8 8), .inl (q 0, 40, .inl (fun _ => 0))), ((u_8 9), .inl (q 0, 40, .inl (fun _ => 0))), ((u_8 10), .inl (q 1, 40, .inr (.inl (fun _ => 0)))), ((u_8 11), .inl (q 0, 0, .inl (fun _ => 0))), (o_10, .inr (1, [.null, .null, .null, .int 0, .int 0, .int 0, .int 0, .int 0, .int 0, .int 0, .int 0, .int 0]))] H := hP
  have hD : va_D _ [(h0, .inr (5, [.ref o_1, .ref o_4, .ref o_7, .null, .null, .null, .null])), (o_1, .inr (4, [.ref (u_2 0), .int 0, .int 0, .int 0, .int 0, .int 0, .int 0])), ((u_2 0), .inl (q 0, 400, .inl (fun _ => 0))), (o_4, .inr (0, [.int 0, .int 0, .int 0, .int 0, .int 0, .int 0, .ref (u_5 0), .ref (u_5 1), .ref (u_5 2), .ref (u_5 3), .ref (u_5 4), .ref (u_5 5), .ref (u_5 6), .ref (u_5 7), .ref (u_5 8), .ref (u_5 9), .ref (u_5 10), .ref (u_5 11)])), ((u_5 0), .inl (q 0, 4, .inl (fun _ => 0))), ((u_5 1), .inl (q 0, 4, .inl (fun _ => 0))), ((u_5 2), .inl (q 0, 160, .inl (fun _ => 0))), ((u_5 3), .inl (q 0, 40, .inl (fun _ => 0))), ((u_5 4), .inl (q 0, 40, .inl (fun _ => 0))), ((u_5 5), .inl (q 0, 40, .inl (fun _ => 0))), ((u_5 6), .inl (q 0, 40, .inl (fun _ => 0))), ((u_5 7), .inl (q 0, 40, .inl (fun _ => 0))), ((u_5 8), .inl (q 0, 40, .inl (fun _ => 0))), ((u_5 9), .inl (q 0, 40, .inl (fun _ => 0))), ((u_5 10), .inl (q 1, 40, .inr (.inl (fun _ => 0)))), ((u_5 11), .inl (q 0, 0, .inl (fun _ => 0))), (o_7, .inr (0, [.int 0, .int 0, .int 0, .int 0, .int 0, .int 0, .ref (u_8 0), .ref (u_8 1), .ref (u_8 2), .ref (u_8 3), .ref (u_8 4), .ref (u_8 5), .ref (u_8 6), .ref (u_8 7), .ref (u_8 8), .ref (u_8 9), .ref (u_8 10), .ref (u_8 11)])), ((u_8 0), .inl (q 0, 4, .inl (fun _ => 0))), ((u_8 1), .inl (q 0, 4, .inl (fun _ => 0))), ((u_8 2), .inl (q 0, 160, .inl (fun _ => 0))), ((u_8 3), .inl (q 0, 40, .inl (fun _ => 0))), ((u_8 4), .inl (q 0, 40, .inl (fun _ => 0))), ((u_8 5), .inl (q 0, 40, .inl (fun _ => 0))), ((u_8 6), .inl (q 0, 40, .inl (fun _ => 0))), ((u_8 7), .inl (q 0, 40, .inl (fun _ => 0))), ((u_8 8), .inl (q 0, 40, .inl (fun _ => 0))), ((u_8 9), .inl (q 0, 40, .inl (fun _ => 0))), ((u_8 10), .inl (q 1, 40, .inr (.inl (fun _ => 0)))), ((u_8 11), .inl (q 0, 0, .inl (fun _ => 0))), (o_10, .inr (1, [.null, .null, .null, .int 0, .int 0, .int 0, .int 0, .int 0, .int 0, .int 0, .int 0, .int 0]))] := hD
  refine W.widen (k := 29) (n := 1431) (Nat.le_refl _) (Nat.le_of_ble_eq_true rfl) ?_
  refine lv_dup hx hb dX6_init_41 rfl ?_
  refine mt_gov (mt_wI (wc := [(o_10, .inr (1, [.null, .null, .null, .int 0, .int 0, .int 0, .int 0, .int 0, .int 0, .int 0, .int 0, .int 0]))]) (As := []) (rest := [.ref o_10, .ref h0]) hx hb hml hown ht (ct_init_X2) wd_X2_init mw_249 hQ hV hS hA (hP.sub [29] rfl) (hD.sub [29] (by decide) rfl) rfl hl.1 rfl (Nat.le_of_ble_eq_true rfl) dX6_init_42 ⟨Nat.le_of_ble_eq_true rfl, Nat.le_of_ble_eq_true rfl, rfl, rfl⟩ ⟨Nat.le_of_ble_eq_true rfl, Nat.le_of_ble_eq_true rfl⟩) (wr := [(h0, .inr (5, [.ref o_1, .ref o_4, .ref o_7, .null, .null, .null, .null])), (o_1, .inr (4, [.ref (u_2 0), .int 0, .int 0, .int 0, .int 0, .int 0, .int 0])), ((u_2 0), .inl (q 0, 400, .inl (fun _ => 0))), (o_4, .inr (0, [.int 0, .int 0, .int 0, .int 0, .int 0, .int 0, .ref (u_5 0), .ref (u_5 1), .ref (u_5 2), .ref (u_5 3), .ref (u_5 4), .ref (u_5 5), .ref (u_5 6), .ref (u_5 7), .ref (u_5 8), .ref (u_5 9), .ref (u_5 10), .ref (u_5 11)])), ((u_5 0), .inl (q 0, 4, .inl (fun _ => 0))), ((u_5 1), .inl (q 0, 4, .inl (fun _ => 0))), ((u_5 2), .inl (q 0, 160, .inl (fun _ => 0))), ((u_5 3), .inl (q 0, 40, .inl (fun _ => 0))), ((u_5 4), .inl (q 0, 40, .inl (fun _ => 0))), ((u_5 5), .inl (q 0, 40, .inl (fun _ => 0))), ((u_5 6), .inl (q 0, 40, .inl (fun _ => 0))), ((u_5 7), .inl (q 0, 40, .inl (fun _ => 0))), ((u_5 8), .inl (q 0, 40, .inl (fun _ => 0))), ((u_5 9), .inl (q 0, 40, .inl (fun _ => 0))), ((u_5 10), .inl (q 1, 40, .inr (.inl (fun _ => 0)))), ((u_5 11), .inl (q 0, 0, .inl (fun _ => 0))), (o_7, .inr (0, [.int 0, .int 0, .int 0, .int 0, .int 0, .int 0, .ref (u_8 0), .ref (u_8 1), .ref (u_8 2), .ref (u_8 3), .ref (u_8 4), .ref (u_8 5), .ref (u_8 6), .ref (u_8 7), .ref (u_8 8), .ref (u_8 9), .ref (u_8 10), .ref (u_8 11)])), ((u_8 0), .inl (q 0, 4, .inl (fun _ => 0))), ((u_8 1), .inl (q 0, 4, .inl (fun _ => 0))), ((u_8 2), .inl (q 0, 160, .inl (fun _ => 0))), ((u_8 3), .inl (q 0, 40, .inl (fun _ => 0))), ((u_8 4), .inl (q 0, 40, .inl (fun _ => 0))), ((u_8 5), .inl (q 0, 40, .inl (fun _ => 0))), ((u_8 6), .inl (q 0, 40, .inl (fun _ => 0))), ((u_8 7), .inl (q 0, 40, .inl (fun _ => 0))), ((u_8 8), .inl (q 0, 40, .inl (fun _ => 0))), ((u_8 9), .inl (q 0, 40, .inl (fun _ => 0))), ((u_8 10), .inl (q 1, 40, .inr (.inl (fun _ => 0)))), ((u_8 11), .inl (q 0, 0, .inl (fun _ => 0)))]) hP hD hS hA [29] [0, 1, 2, 3, 4, 5, 6, 7, 8, 9, 10, 11, 12, 13, 14, 15, 16, 17, 18, 19, 20, 21, 22, 23, 24, 25, 26, 27, 28] rfl rfl (by decide) (by decide) (fun u_11 H locs hw hP hD hS => ?_)
  have hP : va_P D vwCl [(h0, .inr (5, [.ref o_1, .ref o_4, .ref o_7, .null, .null, .null, .null])), (o_1, .inr (4, [.ref (u_2 0), .int 0, .int 0, .int 0, .int 0, .int 0, .int 0])), ((u_2 0), .inl (q 0, 400, .inl (fun _ => 0))), (o_4, .inr (0, [.int 0, .int 0, .int 0, .int 0, .int 0, .int 0, .ref (u_5 0), .ref (u_5 1), .ref (u_5 2), .ref (u_5 3), .ref (u_5 4), .ref (u_5 5), .ref (u_5 6), .ref (u_5 7), .ref (u_5 8), .ref (u_5 9), .ref (u_5 10), .ref (u_5 11)])), ((u_5 0), .inl (q 0, 4, .inl (fun _ => 0))), ((u_5 1), .inl (q 0, 4, .inl (fun _ => 0))), ((u_5 2), .inl (q 0, 160, .inl (fun _ => 0))), ((u_5 3), .inl (q 0, 40, .inl (fun _ => 0))), ((u_5 4), .inl (q 0, 40, .inl (fun _ => 0))), ((u_5 5), .inl (q 0, 40, .inl (fun _ => 0))), ((u_5 6), .inl (q 0, 40, .inl (fun _ => 0))), ((u_5 7), .inl (q 0, 40, .inl (fun _ => 0))), ((u_5 8), .inl (q 0, 40, .inl (fun _ => 0))), ((u_5 9), .inl (q 0, 40, .inl (fun _ => 0))), ((u_5 10), .inl (q 1, 40, .inr (.inl (fun _ => 0)))), ((u_5 11), .inl (q 0, 0, .inl (fun _ => 0))), (o_7, .inr (0, [.int 0, .int 0, .int 0, .int 0, .int 0, .int 0, .ref (u_8 0), .ref (u_8 1), .ref (u_8 2), .ref (u_8 3), .ref (u_8 4), .ref (u_8 5), .ref (u_8 6), .ref (u_8 7), .ref (u_8 8), .ref (u_8 9), .ref (u_8 10), .ref (u_8 11)])), ((u_8 0), .inl (q 0, 4, .inl (fun _ => 0))), ((u_8 1), .inl (q 0, 4, .inl (fun _ => 0))), ((u_8 2), .inl (q 0, 160, .inl (fun _ => 0))), ((u_8 3), .inl (q 0, 40, .inl (fun _ => 0))), ((u_8 4), .inl (q 0, 40, .inl (fun _ => 0))), ((u_8 5), .inl (q 0, 40, .inl (fun _ => 0))), ((u_8 6), .inl (q 0, 40, .inl (fun _ => 0))), ((u_8 7), .inl (q 0, 40, .inl (fun _ => 0))), ((u_8 8), .inl (q 0, 40, .inl (fun _ => 0))), ((u_8 9), .inl (q 0, 40, .inl (fun _ => 0))), ((u_8 10), .inl (q 1, 40, .inr (.inl (fun _ => 0)))), ((u_8 11), .inl (q 0, 0, .inl (fun _ => 0))), (o_10, .inr (1, [.ref (u_11 0), .ref (u_11 1), .ref (u_11 2), .int 0, .int 0, .int 0, .int 0, .int 0, .int 0, .int 0, .int 0, .int 0])), ((u_11 0), .inl (q 0, 40, .inl (fun _ => 0))), ((u_11 1), .inl (q 0, 40, .inl (fun _ => 0))), ((u_11 2), .inl (q 0, 40, .inl (fun _ => 0)))] H := hP
  have hD : va_D _ [(h0, .inr (5, [.ref o_1, .ref o_4, .ref o_7, .null, .null, .null, .null])), (o_1, .inr (4, [.ref (u_2 0), .int 0, .int 0, .int 0, .int 0, .int 0, .int 0])), ((u_2 0), .inl (q 0, 400, .inl (fun _ => 0))), (o_4, .inr (0, [.int 0, .int 0, .int 0, .int 0, .int 0, .int 0, .ref (u_5 0), .ref (u_5 1), .ref (u_5 2), .ref (u_5 3), .ref (u_5 4), .ref (u_5 5), .ref (u_5 6), .ref (u_5 7), .ref (u_5 8), .ref (u_5 9), .ref (u_5 10), .ref (u_5 11)])), ((u_5 0), .inl (q 0, 4, .inl (fun _ => 0))), ((u_5 1), .inl (q 0, 4, .inl (fun _ => 0))), ((u_5 2), .inl (q 0, 160, .inl (fun _ => 0))), ((u_5 3), .inl (q 0, 40, .inl (fun _ => 0))), ((u_5 4), .inl (q 0, 40, .inl (fun _ => 0))), ((u_5 5), .inl (q 0, 40, .inl (fun _ => 0))), ((u_5 6), .inl (q 0, 40, .inl (fun _ => 0))), ((u_5 7), .inl (q 0, 40, .inl (fun _ => 0))), ((u_5 8), .inl (q 0, 40, .inl (fun _ => 0))), ((u_5 9), .inl (q 0, 40, .inl (fun _ => 0))), ((u_5 10), .inl (q 1, 40, .inr (.inl (fun _ => 0)))), ((u_5 11), .inl (q 0, 0, .inl (fun _ => 0))), (o_7, .inr (0, [.int 0, .int 0, .int 0, .int 0, .int 0, .int 0, .ref (u_8 0), .ref (u_8 1), .ref (u_8 2), .ref (u_8 3), .ref (u_8 4), .ref (u_8 5), .ref (u_8 6), .ref (u_8 7), .ref (u_8 8), .ref (u_8 9), .ref (u_8 10), .ref (u_8 11)])), ((u_8 0), .inl (q 0, 4, .inl (fun _ => 0))), ((u_8 1), .inl (q 0, 4, .inl (fun _ => 0))), ((u_8 2), .inl (q 0, 160, .inl (fun _ => 0))), ((u_8 3), .inl (q 0, 40, .inl (fun _ => 0))), ((u_8 4), .inl (q 0, 40, .inl (fun _ => 0))), ((u_8 5), .inl (q 0, 40, .inl (fun _ => 0))), ((u_8 6), .inl (q 0, 40, .inl (fun _ => 0))), ((u_8 7), .inl (q 0, 40, .inl (fun _ => 0))), ((u_8 8), .inl (q 0, 40, .inl (fun _ => 0))), ((u_8 9), .inl (q 0, 40, .inl (fun _ => 0))), ((u_8 10), .inl (q 1, 40, .inr (.inl (fun _ => 0)))), ((u_8 11), .inl (q 0, 0, .inl (fun _ => 0))), (o_10, .inr (1, [.ref (u_11 0), .ref (u_11 1), .ref (u_11 2), .int 0, .int 0, .int 0, .int 0, .int 0, .int 0, .int 0, .int 0, .int 0])), ((u_11 0), .inl (q 0, 40, .inl (fun _ => 0))), ((u_11 1), .inl (q 0, 40, .inl (fun _ => 0))), ((u_11 2), .inl (q 0, 40, .inl (fun _ => 0)))] := hD
  refine W.widen (k := 32) (n := 1551) (Nat.le_of_ble_eq_true rfl) (Nat.le_of_ble_eq_true rfl) ?_
  refine fl_putF (C := RX6) (T := TX6) (N := 7) (ci := 5) (v := .ref o_10) (ws2 := [(h0, .inr (5, [.ref o_1, .ref o_4, .ref o_7, .ref o_10, .null, .null, .null])), (o_1, .inr (4, [.ref (u_2 0), .int 0, .int 0, .int 0, .int 0, .int 0, .int 0])), ((u_2 0), .inl (q 0, 400, .inl (fun _ => 0))), (o_4, .inr (0, [.int 0, .int 0, .int 0, .int 0, .int 0, .int 0, .ref (u_5 0), .ref (u_5 1), .ref (u_5 2), .ref (u_5 3), .ref (u_5 4), .ref (u_5 5), .ref (u_5 6), .ref (u_5 7), .ref (u_5 8), .ref (u_5 9), .ref (u_5 10), .ref (u_5 11)])), ((u_5 0), .inl (q 0, 4, .inl (fun _ => 0))), ((u_5 1), .inl (q 0, 4, .inl (fun _ => 0))), ((u_5 2), .inl (q 0, 160, .inl (fun _ => 0))), ((u_5 3), .inl (q 0, 40, .inl (fun _ => 0))), ((u_5 4), .inl (q 0, 40, .inl (fun _ => 0))), ((u_5 5), .inl (q 0, 40, .inl (fun _ => 0))), ((u_5 6), .inl (q 0, 40, .inl (fun _ => 0))), ((u_5 7), .inl (q 0, 40, .inl (fun _ => 0))), ((u_5 8), .inl (q 0, 40, .inl (fun _ => 0))), ((u_5 9), .inl (q 0, 40, .inl (fun _ => 0))), ((u_5 10), .inl (q 1, 40, .inr (.inl (fun _ => 0)))), ((u_5 11), .inl (q 0, 0, .inl (fun _ => 0))), (o_7, .inr (0, [.int 0, .int 0, .int 0, .int 0, .int 0, .int 0, .ref (u_8 0), .ref (u_8 1), .ref (u_8 2), .ref (u_8 3), .ref (u_8 4), .ref (u_8 5), .ref (u_8 6), .ref (u_8 7), .ref (u_8 8), .ref (u_8 9), .ref (u_8 10), .ref (u_8 11)])), ((u_8 0), .inl (q 0, 4, .inl (fun _ => 0))), ((u_8 1), .inl (q 0, 4, .inl (fun _ => 0))), ((u_8 2), .inl (q 0, 160, .inl (fun _ => 0))), ((u_8 3), .inl (q 0, 40, .inl (fun _ => 0))), ((u_8 4), .inl (q 0, 40, .inl (fun _ => 0))), ((u_8 5), .inl (q 0, 40, .inl (fun _ => 0))), ((u_8 6), .inl (q 0, 40, .inl (fun _ => 0))), ((u_8 7), .inl (q 0, 40, .inl (fun _ => 0))), ((u_8 8), .inl (q 0, 40, .inl (fun _ => 0))), ((u_8 9), .inl (q 0, 40, .inl (fun _ => 0))), ((u_8 10), .inl (q 1, 40, .inr (.inl (fun _ => 0)))), ((u_8 11), .inl (q 0, 0, .inl (fun _ => 0))), (o_10, .inr (1, [.ref (u_11 0), .ref (u_11 1), .ref (u_11 2), .int 0, .int 0, .int 0, .int 0, .int 0, .int 0, .int 0, .int 0, .int 0])), ((u_11 0), .inl (q 0, 40, .inl (fun _ => 0))), ((u_11 1), .inl (q 0, 40, .inl (fun _ => 0))), ((u_11 2), .inl (q 0, 40, .inl (fun _ => 0)))]) hx hb ht in_X6 tyX6_ok nmX6 hown hK hP hD hS 0 rfl rfl 3 (by decide) mw_358 rfl hin rfl rfl rfl (Nat.le_of_ble_eq_true rfl) dX6_init_45 rfl (fun H locs hP hD hS => ?_)
  refine lv_aload_n hx hb dX6_init_48 rfl (lv_at hl 0 rfl) ?_
  refine va_new (ci := 3) (fs := [.null, .null, .null, .null, .null, .null, .null, .int 0, .int 0, .int 0]) (C := RX4) (T := TX4) (N := 10) hx hb ht in_X4 tyX4 tyX4_ok hown (ht _ mw_298) (ht _ mw_299) (ht _ mw_102) hK hP hD hS hA rfl (fun j hj => nf_X4 j hj) (Nat.le_of_ble_eq_true rfl) (Nat.le_of_ble_eq_true rfl) dX6_init_49 (fun o_13 H hP hD hS => ?_)
  have hP : va_P D vwCl [(h0, .inr (5, [.ref o_1, .ref o_4, .ref o_7, .ref o_10, .null, .null, .null])), (o_1, .inr (4, [.ref (u_2 0), .int 0, .int 0, .int 0, .int 0, .int 0, .int 0])), ((u_2 0), .inl (q 0, 400, .inl (fun _ => 0))), (o_4, .inr (0, [.int 0, .int 0, .int 0, .int 0, .int 0, .int 0, .ref (u_5 0), .ref (u_5 1), .ref (u_5 2), .ref (u_5 3), .ref (u_5 4), .ref (u_5 5), .ref (u_5 6), .ref (u_5 7), .ref (u_5 8), .ref (u_5 9), .ref (u_5 10), .ref (u_5 11)])), ((u_5 0), .inl (q 0, 4, .inl (fun _ => 0))), ((u_5 1), .inl (q 0, 4, .inl (fun _ => 0))), ((u_5 2), .inl (q 0, 160, .inl (fun _ => 0))), ((u_5 3), .inl (q 0, 40, .inl (fun _ => 0))), ((u_5 4), .inl (q 0, 40, .inl (fun _ => 0))), ((u_5 5), .inl (q 0, 40, .inl (fun _ => 0))), ((u_5 6), .inl (q 0, 40, .inl (fun _ => 0))), ((u_5 7), .inl (q 0, 40, .inl (fun _ => 0))), ((u_5 8), .inl (q 0, 40, .inl (fun _ => 0))), ((u_5 9), .inl (q 0, 40, .inl (fun _ => 0))), ((u_5 10), .inl (q 1, 40, .inr (.inl (fun _ => 0)))), ((u_5 11), .inl (q 0, 0, .inl (fun _ => 0))), (o_7, .inr (0, [.int 0, .int 0, .int 0, .int 0, .int 0, .int 0, .ref (u_8 0), .ref (u_8 1), .ref (u_8 2), .ref (u_8 3), .ref (u_8 4), .ref (u_8 5), .ref (u_8 6), .ref (u_8 7), .ref (u_8 8), .ref (u_8 9), .ref (u_8 10), .ref (u_8 11)])), ((u_8 0), .inl (q 0, 4, .inl (fun _ => 0))), ((u_8 1), .inl (q 0, 4, .inl (fun _ => 0))), ((u_8 2), .inl (q 0, 160, .inl (fun _ => 0))), ((u_8 3), .inl (q 0, 40, .inl (fun _ => 0))), ((u_8 4), .inl (q 0, 40, .inl (fun _ => 0))), ((u_8 5), .inl (q 0, 40, .inl (fun _ => 0))), ((u_8 6), .inl (q 0, 40, .inl (fun _ => 0))), ((u_8 7), .inl (q 0, 40, .inl (fun _ => 0))), ((u_8 8), .inl (q 0, 40, .inl (fun _ => 0))), ((u_8 9), .inl (q 0, 40, .inl (fun _ => 0))), ((u_8 10), .inl (q 1, 40, .inr (.inl (fun _ => 0)))), ((u_8 11), .inl (q 0, 0, .inl (fun _ => 0))), (o_10, .inr (1, [.ref (u_11 0), .ref (u_11 1), .ref (u_11 2), .int 0, .int 0, .int 0, .int 0, .int 0, .int 0, .int 0, .int 0, .int 0])), ((u_11 0), .inl (q 0, 40, .inl (fun _ => 0))), ((u_11 1), .inl (q 0, 40, .inl (fun _ => 0))), ((u_11 2), .inl (q 0, 40, .inl (fun _ => 0))), (o_13, .inr (3, [.null, .null, .null, .null, .null, .null, .null, .int 0, .int 0, .int 0]))] H := hP
  have hD : va_D _ [(h0, .inr (5, [.ref o_1, .ref o_4, .ref o_7, .ref o_10, .null, .null, .null])), (o_1, .inr (4, [.ref (u_2 0), .int 0, .int 0, .int 0, .int 0, .int 0, .int 0])), ((u_2 0), .inl (q 0, 400, .inl (fun _ => 0))), (o_4, .inr (0, [.int 0, .int 0, .int 0, .int 0, .int 0, .int 0, .ref (u_5 0), .ref (u_5 1), .ref (u_5 2), .ref (u_5 3), .ref (u_5 4), .ref (u_5 5), .ref (u_5 6), .ref (u_5 7), .ref (u_5 8), .ref (u_5 9), .ref (u_5 10), .ref (u_5 11)])), ((u_5 0), .inl (q 0, 4, .inl (fun _ => 0))), ((u_5 1), .inl (q 0, 4, .inl (fun _ => 0))), ((u_5 2), .inl (q 0, 160, .inl (fun _ => 0))), ((u_5 3), .inl (q 0, 40, .inl (fun _ => 0))), ((u_5 4), .inl (q 0, 40, .inl (fun _ => 0))), ((u_5 5), .inl (q 0, 40, .inl (fun _ => 0))), ((u_5 6), .inl (q 0, 40, .inl (fun _ => 0))), ((u_5 7), .inl (q 0, 40, .inl (fun _ => 0))), ((u_5 8), .inl (q 0, 40, .inl (fun _ => 0))), ((u_5 9), .inl (q 0, 40, .inl (fun _ => 0))), ((u_5 10), .inl (q 1, 40, .inr (.inl (fun _ => 0)))), ((u_5 11), .inl (q 0, 0, .inl (fun _ => 0))), (o_7, .inr (0, [.int 0, .int 0, .int 0, .int 0, .int 0, .int 0, .ref (u_8 0), .ref (u_8 1), .ref (u_8 2), .ref (u_8 3), .ref (u_8 4), .ref (u_8 5), .ref (u_8 6), .ref (u_8 7), .ref (u_8 8), .ref (u_8 9), .ref (u_8 10), .ref (u_8 11)])), ((u_8 0), .inl (q 0, 4, .inl (fun _ => 0))), ((u_8 1), .inl (q 0, 4, .inl (fun _ => 0))), ((u_8 2), .inl (q 0, 160, .inl (fun _ => 0))), ((u_8 3), .inl (q 0, 40, .inl (fun _ => 0))), ((u_8 4), .inl (q 0, 40, .inl (fun _ => 0))), ((u_8 5), .inl (q 0, 40, .inl (fun _ => 0))), ((u_8 6), .inl (q 0, 40, .inl (fun _ => 0))), ((u_8 7), .inl (q 0, 40, .inl (fun _ => 0))), ((u_8 8), .inl (q 0, 40, .inl (fun _ => 0))), ((u_8 9), .inl (q 0, 40, .inl (fun _ => 0))), ((u_8 10), .inl (q 1, 40, .inr (.inl (fun _ => 0)))), ((u_8 11), .inl (q 0, 0, .inl (fun _ => 0))), (o_10, .inr (1, [.ref (u_11 0), .ref (u_11 1), .ref (u_11 2), .int 0, .int 0, .int 0, .int 0, .int 0, .int 0, .int 0, .int 0, .int 0])), ((u_11 0), .inl (q 0, 40, .inl (fun _ => 0))), ((u_11 1), .inl (q 0, 40, .inl (fun _ => 0))), ((u_11 2), .inl (q 0, 40, .inl (fun _ => 0))), (o_13, .inr (3, [.null, .null, .null, .null, .null, .null, .null, .int 0, .int 0, .int 0]))] := hD
  refine W.widen (k := 33) (n := 1561) (Nat.le_refl _) (Nat.le_of_ble_eq_true rfl) ?_
  refine lv_dup hx hb dX6_init_52 rfl ?_
  refine mt_gov (mt_wI (wc := [(o_13, .inr (3, [.null, .null, .null, .null, .null, .null, .null, .int 0, .int 0, .int 0]))]) (As := []) (rest := [.ref o_13, .ref h0]) hx hb hml hown ht (ct_init_X4) wd_X4_init mw_300 hQ hV hS hA (hP.sub [33] rfl) (hD.sub [33] (by decide) rfl) rfl hl.1 rfl (Nat.le_of_ble_eq_true rfl) dX6_init_53 ⟨Nat.le_of_ble_eq_true rfl, Nat.le_of_ble_eq_true rfl, rfl, rfl⟩ ⟨Nat.le_of_ble_eq_true rfl, Nat.le_of_ble_eq_true rfl⟩) (wr := [(h0, .inr (5, [.ref o_1, .ref o_4, .ref o_7, .ref o_10, .null, .null, .null])), (o_1, .inr (4, [.ref (u_2 0), .int 0, .int 0, .int 0, .int 0, .int 0, .int 0])), ((u_2 0), .inl (q 0, 400, .inl (fun _ => 0))), (o_4, .inr (0, [.int 0, .int 0, .int 0, .int 0, .int 0, .int 0, .ref (u_5 0), .ref (u_5 1), .ref (u_5 2), .ref (u_5 3), .ref (u_5 4), .ref (u_5 5), .ref (u_5 6), .ref (u_5 7), .ref (u_5 8), .ref (u_5 9), .ref (u_5 10), .ref (u_5 11)])), ((u_5 0), .inl (q 0, 4, .inl (fun _ => 0))), ((u_5 1), .inl (q 0, 4, .inl (fun _ => 0))), ((u_5 2), .inl (q 0, 160, .inl (fun _ => 0))), ((u_5 3), .inl (q 0, 40, .inl (fun _ => 0))), ((u_5 4), .inl (q 0, 40, .inl (fun _ => 0))), ((u_5 5), .inl (q 0, 40, .inl (fun _ => 0))), ((u_5 6), .inl (q 0, 40, .inl (fun _ => 0))), ((u_5 7), .inl (q 0, 40, .inl (fun _ => 0))), ((u_5 8), .inl (q 0, 40, .inl (fun _ => 0))), ((u_5 9), .inl (q 0, 40, .inl (fun _ => 0))), ((u_5 10), .inl (q 1, 40, .inr (.inl (fun _ => 0)))), ((u_5 11), .inl (q 0, 0, .inl (fun _ => 0))), (o_7, .inr (0, [.int 0, .int 0, .int 0, .int 0, .int 0, .int 0, .ref (u_8 0), .ref (u_8 1), .ref (u_8 2), .ref (u_8 3), .ref (u_8 4), .ref (u_8 5), .ref (u_8 6), .ref (u_8 7), .ref (u_8 8), .ref (u_8 9), .ref (u_8 10), .ref (u_8 11)])), ((u_8 0), .inl (q 0, 4, .inl (fun _ => 0))), ((u_8 1), .inl (q 0, 4, .inl (fun _ => 0))), ((u_8 2), .inl (q 0, 160, .inl (fun _ => 0))), ((u_8 3), .inl (q 0, 40, .inl (fun _ => 0))), ((u_8 4), .inl (q 0, 40, .inl (fun _ => 0))), ((u_8 5), .inl (q 0, 40, .inl (fun _ => 0))), ((u_8 6), .inl (q 0, 40, .inl (fun _ => 0))), ((u_8 7), .inl (q 0, 40, .inl (fun _ => 0))), ((u_8 8), .inl (q 0, 40, .inl (fun _ => 0))), ((u_8 9), .inl (q 0, 40, .inl (fun _ => 0))), ((u_8 10), .inl (q 1, 40, .inr (.inl (fun _ => 0)))), ((u_8 11), .inl (q 0, 0, .inl (fun _ => 0))), (o_10, .inr (1, [.ref (u_11 0), .ref (u_11 1), .ref (u_11 2), .int 0, .int 0, .int 0, .int 0, .int 0, .int 0, .int 0, .int 0, .int 0])), ((u_11 0), .inl (q 0, 40, .inl (fun _ => 0))), ((u_11 1), .inl (q 0, 40, .inl (fun _ => 0))), ((u_11 2), .inl (q 0, 40, .inl (fun _ => 0)))]) hP hD hS hA [33] [0, 1, 2, 3, 4, 5, 6, 7, 8, 9, 10, 11, 12, 13, 14, 15, 16, 17, 18, 19, 20, 21, 22, 23, 24, 25, 26, 27, 28, 29, 30, 31, 32] rfl rfl (by decide) (by decide) (fun u_14 H locs hw hP hD hS => ?_)
  have hP : va_P D vwCl [(h0, .inr (5, [.ref o_1, .ref o_4, .ref o_7, .ref o_10, .null, .null, .null])), (o_1, .inr (4, [.ref (u_2 0), .int 0, .int 0, .int 0, .int 0, .int 0, .int 0])), ((u_2 0), .inl (q 0, 400, .inl (fun _ => 0))), (o_4, .inr (0, [.int 0, .int 0, .int 0, .int 0, .int 0, .int 0, .ref (u_5 0), .ref (u_5 1), .ref (u_5 2), .ref (u_5 3), .ref (u_5 4), .ref (u_5 5), .ref (u_5 6), .ref (u_5 7), .ref (u_5 8), .ref (u_5 9), .ref (u_5 10), .ref (u_5 11)])), ((u_5 0), .inl (q 0, 4, .inl (fun _ => 0))), ((u_5 1), .inl (q 0, 4, .inl (fun _ => 0))), ((u_5 2), .inl (q 0, 160, .inl (fun _ => 0))), ((u_5 3), .inl (q 0, 40, .inl (fun _ => 0))), ((u_5 4), .inl (q 0, 40, .inl (fun _ => 0))), ((u_5 5), .inl (q 0, 40, .inl (fun _ => 0))), ((u_5 6), .inl (q 0, 40, .inl (fun _ => 0))), ((u_5 7), .inl (q 0, 40, .inl (fun _ => 0))), ((u_5 8), .inl (q 0, 40, .inl (fun _ => 0))), ((u_5 9), .inl (q 0, 40, .inl (fun _ => 0))), ((u_5 10), .inl (q 1, 40, .inr (.inl (fun _ => 0)))), ((u_5 11), .inl (q 0, 0, .inl (fun _ => 0))), (o_7, .inr (0, [.int 0, .int 0, .int 0, .int 0, .int 0, .int 0, .ref (u_8 0), .ref (u_8 1), .ref (u_8 2), .ref (u_8 3), .ref (u_8 4), .ref (u_8 5), .ref (u_8 6), .ref (u_8 7), .ref (u_8 8), .ref (u_8 9), .ref (u_8 10), .ref (u_8 11)])), ((u_8 0), .inl (q 0, 4, .inl (fun _ => 0))), ((u_8 1), .inl (q 0, 4, .inl (fun _ => 0))), ((u_8 2), .inl (q 0, 160, .inl (fun _ => 0))), ((u_8 3), .inl (q 0, 40, .inl (fun _ => 0))), ((u_8 4), .inl (q 0, 40, .inl (fun _ => 0))), ((u_8 5), .inl (q 0, 40, .inl (fun _ => 0))), ((u_8 6), .inl (q 0, 40, .inl (fun _ => 0))), ((u_8 7), .inl (q 0, 40, .inl (fun _ => 0))), ((u_8 8), .inl (q 0, 40, .inl (fun _ => 0))), ((u_8 9), .inl (q 0, 40, .inl (fun _ => 0))), ((u_8 10), .inl (q 1, 40, .inr (.inl (fun _ => 0)))), ((u_8 11), .inl (q 0, 0, .inl (fun _ => 0))), (o_10, .inr (1, [.ref (u_11 0), .ref (u_11 1), .ref (u_11 2), .int 0, .int 0, .int 0, .int 0, .int 0, .int 0, .int 0, .int 0, .int 0])), ((u_11 0), .inl (q 0, 40, .inl (fun _ => 0))), ((u_11 1), .inl (q 0, 40, .inl (fun _ => 0))), ((u_11 2), .inl (q 0, 40, .inl (fun _ => 0))), (o_13, .inr (3, [.ref (u_14 0), .ref (u_14 1), .ref (u_14 2), .ref (u_14 3), .ref (u_14 4), .ref (u_14 5), .ref (u_14 6), .int 0, .int 0, .int 0])), ((u_14 0), .inl (q 0, 80, .inl (fun _ => 0))), ((u_14 1), .inl (q 0, 80, .inl (fun _ => 0))), ((u_14 2), .inl (q 0, 80, .inl (fun _ => 0))), ((u_14 3), .inl (q 0, 80, .inl (fun _ => 0))), ((u_14 4), .inl (q 0, 80, .inl (fun _ => 0))), ((u_14 5), .inl (q 0, 3, .inl (fun _ => 0))), ((u_14 6), .inl (q 0, 3, .inl (fun _ => 0)))] H := hP
  have hD : va_D _ [(h0, .inr (5, [.ref o_1, .ref o_4, .ref o_7, .ref o_10, .null, .null, .null])), (o_1, .inr (4, [.ref (u_2 0), .int 0, .int 0, .int 0, .int 0, .int 0, .int 0])), ((u_2 0), .inl (q 0, 400, .inl (fun _ => 0))), (o_4, .inr (0, [.int 0, .int 0, .int 0, .int 0, .int 0, .int 0, .ref (u_5 0), .ref (u_5 1), .ref (u_5 2), .ref (u_5 3), .ref (u_5 4), .ref (u_5 5), .ref (u_5 6), .ref (u_5 7), .ref (u_5 8), .ref (u_5 9), .ref (u_5 10), .ref (u_5 11)])), ((u_5 0), .inl (q 0, 4, .inl (fun _ => 0))), ((u_5 1), .inl (q 0, 4, .inl (fun _ => 0))), ((u_5 2), .inl (q 0, 160, .inl (fun _ => 0))), ((u_5 3), .inl (q 0, 40, .inl (fun _ => 0))), ((u_5 4), .inl (q 0, 40, .inl (fun _ => 0))), ((u_5 5), .inl (q 0, 40, .inl (fun _ => 0))), ((u_5 6), .inl (q 0, 40, .inl (fun _ => 0))), ((u_5 7), .inl (q 0, 40, .inl (fun _ => 0))), ((u_5 8), .inl (q 0, 40, .inl (fun _ => 0))), ((u_5 9), .inl (q 0, 40, .inl (fun _ => 0))), ((u_5 10), .inl (q 1, 40, .inr (.inl (fun _ => 0)))), ((u_5 11), .inl (q 0, 0, .inl (fun _ => 0))), (o_7, .inr (0, [.int 0, .int 0, .int 0, .int 0, .int 0, .int 0, .ref (u_8 0), .ref (u_8 1), .ref (u_8 2), .ref (u_8 3), .ref (u_8 4), .ref (u_8 5), .ref (u_8 6), .ref (u_8 7), .ref (u_8 8), .ref (u_8 9), .ref (u_8 10), .ref (u_8 11)])), ((u_8 0), .inl (q 0, 4, .inl (fun _ => 0))), ((u_8 1), .inl (q 0, 4, .inl (fun _ => 0))), ((u_8 2), .inl (q 0, 160, .inl (fun _ => 0))), ((u_8 3), .inl (q 0, 40, .inl (fun _ => 0))), ((u_8 4), .inl (q 0, 40, .inl (fun _ => 0))), ((u_8 5), .inl (q 0, 40, .inl (fun _ => 0))), ((u_8 6), .inl (q 0, 40, .inl (fun _ => 0))), ((u_8 7), .inl (q 0, 40, .inl (fun _ => 0))), ((u_8 8), .inl (q 0, 40, .inl (fun _ => 0))), ((u_8 9), .inl (q 0, 40, .inl (fun _ => 0))), ((u_8 10), .inl (q 1, 40, .inr (.inl (fun _ => 0)))), ((u_8 11), .inl (q 0, 0, .inl (fun _ => 0))), (o_10, .inr (1, [.ref (u_11 0), .ref (u_11 1), .ref (u_11 2), .int 0, .int 0, .int 0, .int 0, .int 0, .int 0, .int 0, .int 0, .int 0])), ((u_11 0), .inl (q 0, 40, .inl (fun _ => 0))), ((u_11 1), .inl (q 0, 40, .inl (fun _ => 0))), ((u_11 2), .inl (q 0, 40, .inl (fun _ => 0))), (o_13, .inr (3, [.ref (u_14 0), .ref (u_14 1), .ref (u_14 2), .ref (u_14 3), .ref (u_14 4), .ref (u_14 5), .ref (u_14 6), .int 0, .int 0, .int 0])), ((u_14 0), .inl (q 0, 80, .inl (fun _ => 0))), ((u_14 1), .inl (q 0, 80, .inl (fun _ => 0))), ((u_14 2), .inl (q 0, 80, .inl (fun _ => 0))), ((u_14 3), .inl (q 0, 80, .inl (fun _ => 0))), ((u_14 4), .inl (q 0, 80, .inl (fun _ => 0))), ((u_14 5), .inl (q 0, 3, .inl (fun _ => 0))), ((u_14 6), .inl (q 0, 3, .inl (fun _ => 0)))] := hD
  refine W.widen (k := 40) (n := 1967) (Nat.le_of_ble_eq_true rfl) (Nat.le_of_ble_eq_true rfl) ?_
  refine fl_putF (C := RX6) (T := TX6) (N := 7) (ci := 5) (v := .ref o_13) (ws2 := [(h0, .inr (5, [.ref o_1, .ref o_4, .ref o_7, .ref o_10, .ref o_13, .null, .null])), (o_1, .inr (4, [.ref (u_2 0), .int 0, .int 0, .int 0, .int 0, .int 0, .int 0])), ((u_2 0), .inl (q 0, 400, .inl (fun _ => 0))), (o_4, .inr (0, [.int 0, .int 0, .int 0, .int 0, .int 0, .int 0, .ref (u_5 0), .ref (u_5 1), .ref (u_5 2), .ref (u_5 3), .ref (u_5 4), .ref (u_5 5), .ref (u_5 6), .ref (u_5 7), .ref (u_5 8), .ref (u_5 9), .ref (u_5 10), .ref (u_5 11)])), ((u_5 0), .inl (q 0, 4, .inl (fun _ => 0))), ((u_5 1), .inl (q 0, 4, .inl (fun _ => 0))), ((u_5 2), .inl (q 0, 160, .inl (fun _ => 0))), ((u_5 3), .inl (q 0, 40, .inl (fun _ => 0))), ((u_5 4), .inl (q 0, 40, .inl (fun _ => 0))), ((u_5 5), .inl (q 0, 40, .inl (fun _ => 0))), ((u_5 6), .inl (q 0, 40, .inl (fun _ => 0))), ((u_5 7), .inl (q 0, 40, .inl (fun _ => 0))), ((u_5 8), .inl (q 0, 40, .inl (fun _ => 0))), ((u_5 9), .inl (q 0, 40, .inl (fun _ => 0))), ((u_5 10), .inl (q 1, 40, .inr (.inl (fun _ => 0)))), ((u_5 11), .inl (q 0, 0, .inl (fun _ => 0))), (o_7, .inr (0, [.int 0, .int 0, .int 0, .int 0, .int 0, .int 0, .ref (u_8 0), .ref (u_8 1), .ref (u_8 2), .ref (u_8 3), .ref (u_8 4), .ref (u_8 5), .ref (u_8 6), .ref (u_8 7), .ref (u_8 8), .ref (u_8 9), .ref (u_8 10), .ref (u_8 11)])), ((u_8 0), .inl (q 0, 4, .inl (fun _ => 0))), ((u_8 1), .inl (q 0, 4, .inl (fun _ => 0))), ((u_8 2), .inl (q 0, 160, .inl (fun _ => 0))), ((u_8 3), .inl (q 0, 40, .inl (fun _ => 0))), ((u_8 4), .inl (q 0, 40, .inl (fun _ => 0))), ((u_8 5), .inl (q 0, 40, .inl (fun _ => 0))), ((u_8 6), .inl (q 0, 40, .inl (fun _ => 0))), ((u_8 7), .inl (q 0, 40, .inl (fun _ => 0))), ((u_8 8), .inl (q 0, 40, .inl (fun _ => 0))), ((u_8 9), .inl (q 0, 40, .inl (fun _ => 0))), ((u_8 10), .inl (q 1, 40, .inr (.inl (fun _ => 0)))), ((u_8 11), .inl (q 0, 0, .inl (fun _ => 0))), (o_10, .inr (1, [.ref (u_11 0), .ref (u_11 1), .ref (u_11 2), .int 0, .int 0, .int 0, .int 0, .int 0, .int 0, .int 0, .int 0, .int 0])), ((u_11 0), .inl (q 0, 40, .inl (fun _ => 0))), ((u_11 1), .inl (q 0, 40, .inl (fun _ => 0))), ((u_11 2), .inl (q 0, 40, .inl (fun _ => 0))), (o_13, .inr (3, [.ref (u_14 0), .ref (u_14 1), .ref (u_14 2), .ref (u_14 3), .ref (u_14 4), .ref (u_14 5), .ref (u_14 6), .int 0, .int 0, .int 0])), ((u_14 0), .inl (q 0, 80, .inl (fun _ => 0))), ((u_14 1), .inl (q 0, 80, .inl (fun _ => 0))), ((u_14 2), .inl (q 0, 80, .inl (fun _ => 0))), ((u_14 3), .inl (q 0, 80, .inl (fun _ => 0))), ((u_14 4), .inl (q 0, 80, .inl (fun _ => 0))), ((u_14 5), .inl (q 0, 3, .inl (fun _ => 0))), ((u_14 6), .inl (q 0, 3, .inl (fun _ => 0)))]) hx hb ht in_X6 tyX6_ok nmX6 hown hK hP hD hS 0 rfl rfl 4 (by decide) mw_359 rfl hin rfl rfl rfl (Nat.le_of_ble_eq_true rfl) dX6_init_56 rfl (fun H locs hP hD hS => ?_)
  refine lv_aload_n hx hb dX6_init_59 rfl (lv_at hl 0 rfl) ?_
  refine va_new (ci := 2) (fs := [.null, .int 0, .int 0]) (C := RX3) (T := TX3) (N := 3) hx hb ht in_X3 tyX3 tyX3_ok hown (ht _ mw_336) (ht _ mw_337) (ht _ mw_103) hK hP hD hS hA rfl (fun j hj => nf_X3 j hj) (Nat.le_of_ble_eq_true rfl) (Nat.le_of_ble_eq_true rfl) dX6_init_60 (fun o_16 H hP hD hS => ?_)
  have hP : va_P D vwCl [(h0, .inr (5, [.ref o_1, .ref o_4, .ref o_7, .ref o_10, .ref o_13, .null, .null])), (o_1, .inr (4, [.ref (u_2 0), .int 0, .int 0, .int 0, .int 0, .int 0, .int 0])), ((u_2 0), .inl (q 0, 400, .inl (fun _ => 0))), (o_4, .inr (0, [.int 0, .int 0, .int 0, .int 0, .int 0, .int 0, .ref (u_5 0), .ref (u_5 1), .ref (u_5 2), .ref (u_5 3), .ref (u_5 4), .ref (u_5 5), .ref (u_5 6), .ref (u_5 7), .ref (u_5 8), .ref (u_5 9), .ref (u_5 10), .ref (u_5 11)])), ((u_5 0), .inl (q 0, 4, .inl (fun _ => 0))), ((u_5 1), .inl (q 0, 4, .inl (fun _ => 0))), ((u_5 2), .inl (q 0, 160, .inl (fun _ => 0))), ((u_5 3), .inl (q 0, 40, .inl (fun _ => 0))), ((u_5 4), .inl (q 0, 40, .inl (fun _ => 0))), ((u_5 5), .inl (q 0, 40, .inl (fun _ => 0))), ((u_5 6), .inl (q 0, 40, .inl (fun _ => 0))), ((u_5 7), .inl (q 0, 40, .inl (fun _ => 0))), ((u_5 8), .inl (q 0, 40, .inl (fun _ => 0))), ((u_5 9), .inl (q 0, 40, .inl (fun _ => 0))), ((u_5 10), .inl (q 1, 40, .inr (.inl (fun _ => 0)))), ((u_5 11), .inl (q 0, 0, .inl (fun _ => 0))), (o_7, .inr (0, [.int 0, .int 0, .int 0, .int 0, .int 0, .int 0, .ref (u_8 0), .ref (u_8 1), .ref (u_8 2), .ref (u_8 3), .ref (u_8 4), .ref (u_8 5), .ref (u_8 6), .ref (u_8 7), .ref (u_8 8), .ref (u_8 9), .ref (u_8 10), .ref (u_8 11)])), ((u_8 0), .inl (q 0, 4, .inl (fun _ => 0))), ((u_8 1), .inl (q 0, 4, .inl (fun _ => 0))), ((u_8 2), .inl (q 0, 160, .inl (fun _ => 0))), ((u_8 3), .inl (q 0, 40, .inl (fun _ => 0))), ((u_8 4), .inl (q 0, 40, .inl (fun _ => 0))), ((u_8 5), .inl (q 0, 40, .inl (fun _ => 0))), ((u_8 6), .inl (q 0, 40, .inl (fun _ => 0))), ((u_8 7), .inl (q 0, 40, .inl (fun _ => 0))), ((u_8 8), .inl (q 0, 40, .inl (fun _ => 0))), ((u_8 9), .inl (q 0, 40, .inl (fun _ => 0))), ((u_8 10), .inl (q 1, 40, .inr (.inl (fun _ => 0)))), ((u_8 11), .inl (q 0, 0, .inl (fun _ => 0))), (o_10, .inr (1, [.ref (u_11 0), .ref (u_11 1), .ref (u_11 2), .int 0, .int 0, .int 0, .int 0, .int 0, .int 0, .int 0, .int 0, .int 0])), ((u_11 0), .inl (q 0, 40, .inl (fun _ => 0))), ((u_11 1), .inl (q 0, 40, .inl (fun _ => 0))), ((u_11 2), .inl (q 0, 40, .inl (fun _ => 0))), (o_13, .inr (3, [.ref (u_14 0), .ref (u_14 1), .ref (u_14 2), .ref (u_14 3), .ref (u_14 4), .ref (u_14 5), .ref (u_14 6), .int 0, .int 0, .int 0])), ((u_14 0), .inl (q 0, 80, .inl (fun _ => 0))), ((u_14 1), .inl (q 0, 80, .inl (fun _ => 0))), ((u_14 2), .inl (q 0, 80, .inl (fun _ => 0))), ((u_14 3), .inl (q 0, 80, .inl (fun _ => 0))), ((u_14 4), .inl (q 0, 80, .inl (fun _ => 0))), ((u_14 5), .inl (q 0, 3, .inl (fun _ => 0))), ((u_14 6), .inl (q 0, 3, .inl (fun _ => 0))), (o_16, .inr (2, [.null, .int 0, .int 0]))] H := hP
  have hD : va_D _ [(h0, .inr (5, [.ref o_1, .ref o_4, .ref o_7, .ref o_10, .ref o_13, .null, .null])), (o_1, .inr (4, [.ref (u_2 0), .int 0, .int 0, .int 0, .int 0, .int 0, .int 0])), ((u_2 0), .inl (q 0, 400, .inl (fun _ => 0))), (o_4, .inr (0, [.int 0, .int 0, .int 0, .int 0, .int 0, .int 0, .ref (u_5 0), .ref (u_5 1), .ref (u_5 2), .ref (u_5 3), .ref (u_5 4), .ref (u_5 5), .ref (u_5 6), .ref (u_5 7), .ref (u_5 8), .ref (u_5 9), .ref (u_5 10), .ref (u_5 11)])), ((u_5 0), .inl (q 0, 4, .inl (fun _ => 0))), ((u_5 1), .inl (q 0, 4, .inl (fun _ => 0))), ((u_5 2), .inl (q 0, 160, .inl (fun _ => 0))), ((u_5 3), .inl (q 0, 40, .inl (fun _ => 0))), ((u_5 4), .inl (q 0, 40, .inl (fun _ => 0))), ((u_5 5), .inl (q 0, 40, .inl (fun _ => 0))), ((u_5 6), .inl (q 0, 40, .inl (fun _ => 0))), ((u_5 7), .inl (q 0, 40, .inl (fun _ => 0))), ((u_5 8), .inl (q 0, 40, .inl (fun _ => 0))), ((u_5 9), .inl (q 0, 40, .inl (fun _ => 0))), ((u_5 10), .inl (q 1, 40, .inr (.inl (fun _ => 0)))), ((u_5 11), .inl (q 0, 0, .inl (fun _ => 0))), (o_7, .inr (0, [.int 0, .int 0, .int 0, .int 0, .int 0, .int 0, .ref (u_8 0), .ref (u_8 1), .ref (u_8 2), .ref (u_8 3), .ref (u_8 4), .ref (u_8 5), .ref (u_8 6), .ref (u_8 7), .ref (u_8 8), .ref (u_8 9), .ref (u_8 10), .ref (u_8 11)])), ((u_8 0), .inl (q 0, 4, .inl (fun _ => 0))), ((u_8 1), .inl (q 0, 4, .inl (fun _ => 0))), ((u_8 2), .inl (q 0, 160, .inl (fun _ => 0))), ((u_8 3), .inl (q 0, 40, .inl (fun _ => 0))), ((u_8 4), .inl (q 0, 40, .inl (fun _ => 0))), ((u_8 5), .inl (q 0, 40, .inl (fun _ => 0))), ((u_8 6), .inl (q 0, 40, .inl (fun _ => 0))), ((u_8 7), .inl (q 0, 40, .inl (fun _ => 0))), ((u_8 8), .inl (q 0, 40, .inl (fun _ => 0))), ((u_8 9), .inl (q 0, 40, .inl (fun _ => 0))), ((u_8 10), .inl (q 1, 40, .inr (.inl (fun _ => 0)))), ((u_8 11), .inl (q 0, 0, .inl (fun _ => 0))), (o_10, .inr (1, [.ref (u_11 0), .ref (u_11 1), .ref (u_11 2), .int 0, .int 0, .int 0, .int 0, .int 0, .int 0, .int 0, .int 0, .int 0])), ((u_11 0), .inl (q 0, 40, .inl (fun _ => 0))), ((u_11 1), .inl (q 0, 40, .inl (fun _ => 0))), ((u_11 2), .inl (q 0, 40, .inl (fun _ => 0))), (o_13, .inr (3, [.ref (u_14 0), .ref (u_14 1), .ref (u_14 2), .ref (u_14 3), .ref (u_14 4), .ref (u_14 5), .ref (u_14 6), .int 0, .int 0, .int 0])), ((u_14 0), .inl (q 0, 80, .inl (fun _ => 0))), ((u_14 1), .inl (q 0, 80, .inl (fun _ => 0))), ((u_14 2), .inl (q 0, 80, .inl (fun _ => 0))), ((u_14 3), .inl (q 0, 80, .inl (fun _ => 0))), ((u_14 4), .inl (q 0, 80, .inl (fun _ => 0))), ((u_14 5), .inl (q 0, 3, .inl (fun _ => 0))), ((u_14 6), .inl (q 0, 3, .inl (fun _ => 0))), (o_16, .inr (2, [.null, .int 0, .int 0]))] := hD
  refine W.widen (k := 41) (n := 1970) (Nat.le_refl _) (Nat.le_of_ble_eq_true rfl) ?_
  refine lv_dup hx hb dX6_init_63 rfl ?_
  refine mt_gov (mt_wI (wc := [(o_16, .inr (2, [.null, .int 0, .int 0]))]) (As := []) (rest := [.ref o_16, .ref h0]) hx hb hml hown ht (ct_init_X3) wd_X3_init mw_338 hQ hV hS hA (hP.sub [41] rfl) (hD.sub [41] (by decide) rfl) rfl hl.1 rfl (Nat.le_of_ble_eq_true rfl) dX6_init_64 ⟨Nat.le_of_ble_eq_true rfl, Nat.le_of_ble_eq_true rfl, rfl, rfl⟩ ⟨Nat.le_of_ble_eq_true rfl, Nat.le_of_ble_eq_true rfl⟩) (wr := [(h0, .inr (5, [.ref o_1, .ref o_4, .ref o_7, .ref o_10, .ref o_13, .null, .null])), (o_1, .inr (4, [.ref (u_2 0), .int 0, .int 0, .int 0, .int 0, .int 0, .int 0])), ((u_2 0), .inl (q 0, 400, .inl (fun _ => 0))), (o_4, .inr (0, [.int 0, .int 0, .int 0, .int 0, .int 0, .int 0, .ref (u_5 0), .ref (u_5 1), .ref (u_5 2), .ref (u_5 3), .ref (u_5 4), .ref (u_5 5), .ref (u_5 6), .ref (u_5 7), .ref (u_5 8), .ref (u_5 9), .ref (u_5 10), .ref (u_5 11)])), ((u_5 0), .inl (q 0, 4, .inl (fun _ => 0))), ((u_5 1), .inl (q 0, 4, .inl (fun _ => 0))), ((u_5 2), .inl (q 0, 160, .inl (fun _ => 0))), ((u_5 3), .inl (q 0, 40, .inl (fun _ => 0))), ((u_5 4), .inl (q 0, 40, .inl (fun _ => 0))), ((u_5 5), .inl (q 0, 40, .inl (fun _ => 0))), ((u_5 6), .inl (q 0, 40, .inl (fun _ => 0))), ((u_5 7), .inl (q 0, 40, .inl (fun _ => 0))), ((u_5 8), .inl (q 0, 40, .inl (fun _ => 0))), ((u_5 9), .inl (q 0, 40, .inl (fun _ => 0))), ((u_5 10), .inl (q 1, 40, .inr (.inl (fun _ => 0)))), ((u_5 11), .inl (q 0, 0, .inl (fun _ => 0))), (o_7, .inr (0, [.int 0, .int 0, .int 0, .int 0, .int 0, .int 0, .ref (u_8 0), .ref (u_8 1), .ref (u_8 2), .ref (u_8 3), .ref (u_8 4), .ref (u_8 5), .ref (u_8 6), .ref (u_8 7), .ref (u_8 8), .ref (u_8 9), .ref (u_8 10), .ref (u_8 11)])), ((u_8 0), .inl (q 0, 4, .inl (fun _ => 0))), ((u_8 1), .inl (q 0, 4, .inl (fun _ => 0))), ((u_8 2), .inl (q 0, 160, .inl (fun _ => 0))), ((u_8 3), .inl (q 0, 40, .inl (fun _ => 0))), ((u_8 4), .inl (q 0, 40, .inl (fun _ => 0))), ((u_8 5), .inl (q 0, 40, .inl (fun _ => 0))), ((u_8 6), .inl (q 0, 40, .inl (fun _ => 0))), ((u_8 7), .inl (q 0, 40, .inl (fun _ => 0))), ((u_8 8), .inl (q 0, 40, .inl (fun _ => 0))), ((u_8 9), .inl (q 0, 40, .inl (fun _ => 0))), ((u_8 10), .inl (q 1, 40, .inr (.inl (fun _ => 0)))), ((u_8 11), .inl (q 0, 0, .inl (fun _ => 0))), (o_10, .inr (1, [.ref (u_11 0), .ref (u_11 1), .ref (u_11 2), .int 0, .int 0, .int 0, .int 0, .int 0, .int 0, .int 0, .int 0, .int 0])), ((u_11 0), .inl (q 0, 40, .inl (fun _ => 0))), ((u_11 1), .inl (q 0, 40, .inl (fun _ => 0))), ((u_11 2), .inl (q 0, 40, .inl (fun _ => 0))), (o_13, .inr (3, [.ref (u_14 0), .ref (u_14 1), .ref (u_14 2), .ref (u_14 3), .ref (u_14 4), .ref (u_14 5), .ref (u_14 6), .int 0, .int 0, .int 0])), ((u_14 0), .inl (q 0, 80, .inl (fun _ => 0))), ((u_14 1), .inl (q 0, 80, .inl (fun _ => 0))), ((u_14 2), .inl (q 0, 80, .inl (fun _ => 0))), ((u_14 3), .inl (q 0, 80, .inl (fun _ => 0))), ((u_14 4), .inl (q 0, 80, .inl (fun _ => 0))), ((u_14 5), .inl (q 0, 3, .inl (fun _ => 0))), ((u_14 6), .inl (q 0, 3, .inl (fun _ => 0)))]) hP hD hS hA [41] [0, 1, 2, 3, 4, 5, 6, 7, 8, 9, 10, 11, 12, 13, 14, 15, 16, 17, 18, 19, 20, 21, 22, 23, 24, 25, 26, 27, 28, 29, 30, 31, 32, 33, 34, 35, 36, 37, 38, 39, 40] rfl rfl (by decide) (by decide) (fun u_17 H locs hw hP hD hS => ?_)
  have hP : va_P D vwCl [(h0, .inr (5, [.ref o_1, .ref o_4, .ref o_7, .ref o_10, .ref o_13, .null, .null])), (o_1, .inr (4, [.ref (u_2 0), .int 0, .int 0, .int 0, .int 0, .int 0, .int 0])), ((u_2 0), .inl (q 0, 400, .inl (fun _ => 0))), (o_4, .inr (0, [.int 0, .int 0, .int 0, .int 0, .int 0, .int 0, .ref (u_5 0), .ref (u_5 1), .ref (u_5 2), .ref (u_5 3), .ref (u_5 4), .ref (u_5 5), .ref (u_5 6), .ref (u_5 7), .ref (u_5 8), .ref (u_5 9), .ref (u_5 10), .ref (u_5 11)])), ((u_5 0), .inl (q 0, 4, .inl (fun _ => 0))), ((u_5 1), .inl (q 0, 4, .inl (fun _ => 0))), ((u_5 2), .inl (q 0, 160, .inl (fun _ => 0))), ((u_5 3), .inl (q 0, 40, .inl (fun _ => 0))), ((u_5 4), .inl (q 0, 40, .inl (fun _ => 0))), ((u_5 5), .inl (q 0, 40, .inl (fun _ => 0))), ((u_5 6), .inl (q 0, 40, .inl (fun _ => 0))), ((u_5 7), .inl (q 0, 40, .inl (fun _ => 0))), ((u_5 8), .inl (q 0, 40, .inl (fun _ => 0))), ((u_5 9), .inl (q 0, 40, .inl (fun _ => 0))), ((u_5 10), .inl (q 1, 40, .inr (.inl (fun _ => 0)))), ((u_5 11), .inl (q 0, 0, .inl (fun _ => 0))), (o_7, .inr (0, [.int 0, .int 0, .int 0, .int 0, .int 0, .int 0, .ref (u_8 0), .ref (u_8 1), .ref (u_8 2), .ref (u_8 3), .ref (u_8 4), .ref (u_8 5), .ref (u_8 6), .ref (u_8 7), .ref (u_8 8), .ref (u_8 9), .ref (u_8 10), .ref (u_8 11)])), ((u_8 0), .inl (q 0, 4, .inl (fun _ => 0))), ((u_8 1), .inl (q 0, 4, .inl (fun _ => 0))), ((u_8 2), .inl (q 0, 160, .inl (fun _ => 0))), ((u_8 3), .inl (q 0, 40, .inl (fun _ => 0))), ((u_8 4), .inl (q 0, 40, .inl (fun _ => 0))), ((u_8 5), .inl (q 0, 40, .inl (fun _ => 0))), ((u_8 6), .inl (q 0, 40, .inl (fun _ => 0))), ((u_8 7), .inl (q 0, 40, .inl (fun _ => 0))), ((u_8 8), .inl (q 0, 40, .inl (fun _ => 0))), ((u_8 9), .inl (q 0, 40, .inl (fun _ => 0))), ((u_8 10), .inl (q 1, 40, .inr (.inl (fun _ => 0)))), ((u_8 11), .inl (q 0, 0, .inl (fun _ => 0))), (o_10, .inr (1, [.ref (u_11 0), .ref (u_11 1), .ref (u_11 2), .int 0, .int 0, .int 0, .int 0, .int 0, .int 0, .int 0, .int 0, .int 0])), ((u_11 0), .inl (q 0, 40, .inl (fun _ => 0))), ((u_11 1), .inl (q 0, 40, .inl (fun _ => 0))), ((u_11 2), .inl (q 0, 40, .inl (fun _ => 0))), (o_13, .inr (3, [.ref (u_14 0), .ref (u_14 1), .ref (u_14 2), .ref (u_14 3), .ref (u_14 4), .ref (u_14 5), .ref (u_14 6), .int 0, .int 0, .int 0])), ((u_14 0), .inl (q 0, 80, .inl (fun _ => 0))), ((u_14 1), .inl (q 0, 80, .inl (fun _ => 0))), ((u_14 2), .inl (q 0, 80, .inl (fun _ => 0))), ((u_14 3), .inl (q 0, 80, .inl (fun _ => 0))), ((u_14 4), .inl (q 0, 80, .inl (fun _ => 0))), ((u_14 5), .inl (q 0, 3, .inl (fun _ => 0))), ((u_14 6), .inl (q 0, 3, .inl (fun _ => 0))), (o_16, .inr (2, [.ref (u_17 0), .int 0, .int 0])), ((u_17 0), .inl (q 4, 10, .inr (.inr (.inr (.inr (fun _ => none))))))] H := hP
  have hD : va_D _ [(h0, .inr (5, [.ref o_1, .ref o_4, .ref o_7, .ref o_10, .ref o_13, .null, .null])), (o_1, .inr (4, [.ref (u_2 0), .int 0, .int 0, .int 0, .int 0, .int 0, .int 0])), ((u_2 0), .inl (q 0, 400, .inl (fun _ => 0))), (o_4, .inr (0, [.int 0, .int 0, .int 0, .int 0, .int 0, .int 0, .ref (u_5 0), .ref (u_5 1), .ref (u_5 2), .ref (u_5 3), .ref (u_5 4), .ref (u_5 5), .ref (u_5 6), .ref (u_5 7), .ref (u_5 8), .ref (u_5 9), .ref (u_5 10), .ref (u_5 11)])), ((u_5 0), .inl (q 0, 4, .inl (fun _ => 0))), ((u_5 1), .inl (q 0, 4, .inl (fun _ => 0))), ((u_5 2), .inl (q 0, 160, .inl (fun _ => 0))), ((u_5 3), .inl (q 0, 40, .inl (fun _ => 0))), ((u_5 4), .inl (q 0, 40, .inl (fun _ => 0))), ((u_5 5), .inl (q 0, 40, .inl (fun _ => 0))), ((u_5 6), .inl (q 0, 40, .inl (fun _ => 0))), ((u_5 7), .inl (q 0, 40, .inl (fun _ => 0))), ((u_5 8), .inl (q 0, 40, .inl (fun _ => 0))), ((u_5 9), .inl (q 0, 40, .inl (fun _ => 0))), ((u_5 10), .inl (q 1, 40, .inr (.inl (fun _ => 0)))), ((u_5 11), .inl (q 0, 0, .inl (fun _ => 0))), (o_7, .inr (0, [.int 0, .int 0, .int 0, .int 0, .int 0, .int 0, .ref (u_8 0), .ref (u_8 1), .ref (u_8 2), .ref (u_8 3), .ref (u_8 4), .ref (u_8 5), .ref (u_8 6), .ref (u_8 7), .ref (u_8 8), .ref (u_8 9), .ref (u_8 10), .ref (u_8 11)])), ((u_8 0), .inl (q 0, 4, .inl (fun _ => 0))), ((u_8 1), .inl (q 0, 4, .inl (fun _ => 0))), ((u_8 2), .inl (q 0, 160, .inl (fun _ => 0))), ((u_8 3), .inl (q 0, 40, .inl (fun _ => 0))), ((u_8 4), .inl (q 0, 40, .inl (fun _ => 0))), ((u_8 5), .inl (q 0, 40, .inl (fun _ => 0))), ((u_8 6), .inl (q 0, 40, .inl (fun _ => 0))), ((u_8 7), .inl (q 0, 40, .inl (fun _ => 0))), ((u_8 8), .inl (q 0, 40, .inl (fun _ => 0))), ((u_8 9), .inl (q 0, 40, .inl (fun _ => 0))), ((u_8 10), .inl (q 1, 40, .inr (.inl (fun _ => 0)))), ((u_8 11), .inl (q 0, 0, .inl (fun _ => 0))), (o_10, .inr (1, [.ref (u_11 0), .ref (u_11 1), .ref (u_11 2), .int 0, .int 0, .int 0, .int 0, .int 0, .int 0, .int 0, .int 0, .int 0])), ((u_11 0), .inl (q 0, 40, .inl (fun _ => 0))), ((u_11 1), .inl (q 0, 40, .inl (fun _ => 0))), ((u_11 2), .inl (q 0, 40, .inl (fun _ => 0))), (o_13, .inr (3, [.ref (u_14 0), .ref (u_14 1), .ref (u_14 2), .ref (u_14 3), .ref (u_14 4), .ref (u_14 5), .ref (u_14 6), .int 0, .int 0, .int 0])), ((u_14 0), .inl (q 0, 80, .inl (fun _ => 0))), ((u_14 1), .inl (q 0, 80, .inl (fun _ => 0))), ((u_14 2), .inl (q 0, 80, .inl (fun _ => 0))), ((u_14 3), .inl (q 0, 80, .inl (fun _ => 0))), ((u_14 4), .inl (q 0, 80, .inl (fun _ => 0))), ((u_14 5), .inl (q 0, 3, .inl (fun _ => 0))), ((u_14 6), .inl (q 0, 3, .inl (fun _ => 0))), (o_16, .inr (2, [.ref (u_17 0), .int 0, .int 0])), ((u_17 0), .inl (q 4, 10, .inr (.inr (.inr (.inr (fun _ => none))))))] := hD
  refine W.widen (k := 42) (n := 1980) (Nat.le_of_ble_eq_true rfl) (Nat.le_of_ble_eq_true rfl) ?_
  refine fl_putF (C := RX6) (T := TX6) (N := 7) (ci := 5) (v := .ref o_16) (ws2 := [(h0, .inr (5, [.ref o_1, .ref o_4, .ref o_7, .ref o_10, .ref o_13, .ref o_16, .null])), (o_1, .inr (4, [.ref (u_2 0), .int 0, .int 0, .int 0, .int 0, .int 0, .int 0])), ((u_2 0), .inl (q 0, 400, .inl (fun _ => 0))), (o_4, .inr (0, [.int 0, .int 0, .int 0, .int 0, .int 0, .int 0, .ref (u_5 0), .ref (u_5 1), .ref (u_5 2), .ref (u_5 3), .ref (u_5 4), .ref (u_5 5), .ref (u_5 6), .ref (u_5 7), .ref (u_5 8), .ref (u_5 9), .ref (u_5 10), .ref (u_5 11)])), ((u_5 0), .inl (q 0, 4, .inl (fun _ => 0))), ((u_5 1), .inl (q 0, 4, .inl (fun _ => 0))), ((u_5 2), .inl (q 0, 160, .inl (fun _ => 0))), ((u_5 3), .inl (q 0, 40, .inl (fun _ => 0))), ((u_5 4), .inl (q 0, 40, .inl (fun _ => 0))), ((u_5 5), .inl (q 0, 40, .inl (fun _ => 0))), ((u_5 6), .inl (q 0, 40, .inl (fun _ => 0))), ((u_5 7), .inl (q 0, 40, .inl (fun _ => 0))), ((u_5 8), .inl (q 0, 40, .inl (fun _ => 0))), ((u_5 9), .inl (q 0, 40, .inl (fun _ => 0))), ((u_5 10), .inl (q 1, 40, .inr (.inl (fun _ => 0)))), ((u_5 11), .inl (q 0, 0, .inl (fun _ => 0))), (o_7, .inr (0, [.int 0, .int 0, .int 0, .int 0, .int 0, .int 0, .ref (u_8 0), .ref (u_8 1), .ref (u_8 2), .ref (u_8 3), .ref (u_8 4), .ref (u_8 5), .ref (u_8 6), .ref (u_8 7), .ref (u_8 8), .ref (u_8 9), .ref (u_8 10), .ref (u_8 11)])), ((u_8 0), .inl (q 0, 4, .inl (fun _ => 0))), ((u_8 1), .inl (q 0, 4, .inl (fun _ => 0))), ((u_8 2), .inl (q 0, 160, .inl (fun _ => 0))), ((u_8 3), .inl (q 0, 40, .inl (fun _ => 0))), ((u_8 4), .inl (q 0, 40, .inl (fun _ => 0))), ((u_8 5), .inl (q 0, 40, .inl (fun _ => 0))), ((u_8 6), .inl (q 0, 40, .inl (fun _ => 0))), ((u_8 7), .inl (q 0, 40, .inl (fun _ => 0))), ((u_8 8), .inl (q 0, 40, .inl (fun _ => 0))), ((u_8 9), .inl (q 0, 40, .inl (fun _ => 0))), ((u_8 10), .inl (q 1, 40, .inr (.inl (fun _ => 0)))), ((u_8 11), .inl (q 0, 0, .inl (fun _ => 0))), (o_10, .inr (1, [.ref (u_11 0), .ref (u_11 1), .ref (u_11 2), .int 0, .int 0, .int 0, .int 0, .int 0, .int 0, .int 0, .int 0, .int 0])), ((u_11 0), .inl (q 0, 40, .inl (fun _ => 0))), ((u_11 1), .inl (q 0, 40, .inl (fun _ => 0))), ((u_11 2), .inl (q 0, 40, .inl (fun _ => 0))), (o_13, .inr (3, [.ref (u_14 0), .ref (u_14 1), .ref (u_14 2), .ref (u_14 3), .ref (u_14 4), .ref (u_14 5), .ref (u_14 6), .int 0, .int 0, .int 0])), ((u_14 0), .inl (q 0, 80, .inl (fun _ => 0))), ((u_14 1), .inl (q 0, 80, .inl (fun _ => 0))), ((u_14 2), .inl (q 0, 80, .inl (fun _ => 0))), ((u_14 3), .inl (q 0, 80, .inl (fun _ => 0))), ((u_14 4), .inl (q 0, 80, .inl (fun _ => 0))), ((u_14 5), .inl (q 0, 3, .inl (fun _ => 0))), ((u_14 6), .inl (q 0, 3, .inl (fun _ => 0))), (o_16, .inr (2, [.ref (u_17 0), .int 0, .int 0])), ((u_17 0), .inl (q 4, 10, .inr (.inr (.inr (.inr (fun _ => none))))))]) hx hb ht in_X6 tyX6_ok nmX6 hown hK hP hD hS 0 rfl rfl 5 (by decide) mw_360 rfl hin rfl rfl rfl (Nat.le_of_ble_eq_true rfl) dX6_init_67 rfl (fun H locs hP hD hS => ?_)
  refine lv_aload_n hx hb dX6_init_70 rfl (lv_at hl 0 rfl) ?_
  refine lv_iconst (v := 2) hx hb dX6_init_71 (by decide) ?_
  refine nw_q (N := 2) hx hb hown (ht _ mw_161) hQ hP hD hS hA (by decide) (by decide) (Nat.le_of_ble_eq_true rfl) ⟨Nat.le_of_ble_eq_true rfl, Nat.le_of_ble_eq_true rfl⟩ dX6_init_72 (fun a_19 H hP hD hS => ?_)
  have hP : va_P D vwCl [(h0, .inr (5, [.ref o_1, .ref o_4, .ref o_7, .ref o_10, .ref o_13, .ref o_16, .null])), (o_1, .inr (4, [.ref (u_2 0), .int 0, .int 0, .int 0, .int 0, .int 0, .int 0])), ((u_2 0), .inl (q 0, 400, .inl (fun _ => 0))), (o_4, .inr (0, [.int 0, .int 0, .int 0, .int 0, .int 0, .int 0, .ref (u_5 0), .ref (u_5 1), .ref (u_5 2), .ref (u_5 3), .ref (u_5 4), .ref (u_5 5), .ref (u_5 6), .ref (u_5 7), .ref (u_5 8), .ref (u_5 9), .ref (u_5 10), .ref (u_5 11)])), ((u_5 0), .inl (q 0, 4, .inl (fun _ => 0))), ((u_5 1), .inl (q 0, 4, .inl (fun _ => 0))), ((u_5 2), .inl (q 0, 160, .inl (fun _ => 0))), ((u_5 3), .inl (q 0, 40, .inl (fun _ => 0))), ((u_5 4), .inl (q 0, 40, .inl (fun _ => 0))), ((u_5 5), .inl (q 0, 40, .inl (fun _ => 0))), ((u_5 6), .inl (q 0, 40, .inl (fun _ => 0))), ((u_5 7), .inl (q 0, 40, .inl (fun _ => 0))), ((u_5 8), .inl (q 0, 40, .inl (fun _ => 0))), ((u_5 9), .inl (q 0, 40, .inl (fun _ => 0))), ((u_5 10), .inl (q 1, 40, .inr (.inl (fun _ => 0)))), ((u_5 11), .inl (q 0, 0, .inl (fun _ => 0))), (o_7, .inr (0, [.int 0, .int 0, .int 0, .int 0, .int 0, .int 0, .ref (u_8 0), .ref (u_8 1), .ref (u_8 2), .ref (u_8 3), .ref (u_8 4), .ref (u_8 5), .ref (u_8 6), .ref (u_8 7), .ref (u_8 8), .ref (u_8 9), .ref (u_8 10), .ref (u_8 11)])), ((u_8 0), .inl (q 0, 4, .inl (fun _ => 0))), ((u_8 1), .inl (q 0, 4, .inl (fun _ => 0))), ((u_8 2), .inl (q 0, 160, .inl (fun _ => 0))), ((u_8 3), .inl (q 0, 40, .inl (fun _ => 0))), ((u_8 4), .inl (q 0, 40, .inl (fun _ => 0))), ((u_8 5), .inl (q 0, 40, .inl (fun _ => 0))), ((u_8 6), .inl (q 0, 40, .inl (fun _ => 0))), ((u_8 7), .inl (q 0, 40, .inl (fun _ => 0))), ((u_8 8), .inl (q 0, 40, .inl (fun _ => 0))), ((u_8 9), .inl (q 0, 40, .inl (fun _ => 0))), ((u_8 10), .inl (q 1, 40, .inr (.inl (fun _ => 0)))), ((u_8 11), .inl (q 0, 0, .inl (fun _ => 0))), (o_10, .inr (1, [.ref (u_11 0), .ref (u_11 1), .ref (u_11 2), .int 0, .int 0, .int 0, .int 0, .int 0, .int 0, .int 0, .int 0, .int 0])), ((u_11 0), .inl (q 0, 40, .inl (fun _ => 0))), ((u_11 1), .inl (q 0, 40, .inl (fun _ => 0))), ((u_11 2), .inl (q 0, 40, .inl (fun _ => 0))), (o_13, .inr (3, [.ref (u_14 0), .ref (u_14 1), .ref (u_14 2), .ref (u_14 3), .ref (u_14 4), .ref (u_14 5), .ref (u_14 6), .int 0, .int 0, .int 0])), ((u_14 0), .inl (q 0, 80, .inl (fun _ => 0))), ((u_14 1), .inl (q 0, 80, .inl (fun _ => 0))), ((u_14 2), .inl (q 0, 80, .inl (fun _ => 0))), ((u_14 3), .inl (q 0, 80, .inl (fun _ => 0))), ((u_14 4), .inl (q 0, 80, .inl (fun _ => 0))), ((u_14 5), .inl (q 0, 3, .inl (fun _ => 0))), ((u_14 6), .inl (q 0, 3, .inl (fun _ => 0))), (o_16, .inr (2, [.ref (u_17 0), .int 0, .int 0])), ((u_17 0), .inl (q 4, 10, .inr (.inr (.inr (.inr (fun _ => none)))))), (a_19, .inl (q 4, 2, .inr (.inr (.inr (.inr (fun _ => none))))))] H := hP
  have hD : va_D _ [(h0, .inr (5, [.ref o_1, .ref o_4, .ref o_7, .ref o_10, .ref o_13, .ref o_16, .null])), (o_1, .inr (4, [.ref (u_2 0), .int 0, .int 0, .int 0, .int 0, .int 0, .int 0])), ((u_2 0), .inl (q 0, 400, .inl (fun _ => 0))), (o_4, .inr (0, [.int 0, .int 0, .int 0, .int 0, .int 0, .int 0, .ref (u_5 0), .ref (u_5 1), .ref (u_5 2), .ref (u_5 3), .ref (u_5 4), .ref (u_5 5), .ref (u_5 6), .ref (u_5 7), .ref (u_5 8), .ref (u_5 9), .ref (u_5 10), .ref (u_5 11)])), ((u_5 0), .inl (q 0, 4, .inl (fun _ => 0))), ((u_5 1), .inl (q 0, 4, .inl (fun _ => 0))), ((u_5 2), .inl (q 0, 160, .inl (fun _ => 0))), ((u_5 3), .inl (q 0, 40, .inl (fun _ => 0))), ((u_5 4), .inl (q 0, 40, .inl (fun _ => 0))), ((u_5 5), .inl (q 0, 40, .inl (fun _ => 0))), ((u_5 6), .inl (q 0, 40, .inl (fun _ => 0))), ((u_5 7), .inl (q 0, 40, .inl (fun _ => 0))), ((u_5 8), .inl (q 0, 40, .inl (fun _ => 0))), ((u_5 9), .inl (q 0, 40, .inl (fun _ => 0))), ((u_5 10), .inl (q 1, 40, .inr (.inl (fun _ => 0)))), ((u_5 11), .inl (q 0, 0, .inl (fun _ => 0))), (o_7, .inr (0, [.int 0, .int 0, .int 0, .int 0, .int 0, .int 0, .ref (u_8 0), .ref (u_8 1), .ref (u_8 2), .ref (u_8 3), .ref (u_8 4), .ref (u_8 5), .ref (u_8 6), .ref (u_8 7), .ref (u_8 8), .ref (u_8 9), .ref (u_8 10), .ref (u_8 11)])), ((u_8 0), .inl (q 0, 4, .inl (fun _ => 0))), ((u_8 1), .inl (q 0, 4, .inl (fun _ => 0))), ((u_8 2), .inl (q 0, 160, .inl (fun _ => 0))), ((u_8 3), .inl (q 0, 40, .inl (fun _ => 0))), ((u_8 4), .inl (q 0, 40, .inl (fun _ => 0))), ((u_8 5), .inl (q 0, 40, .inl (fun _ => 0))), ((u_8 6), .inl (q 0, 40, .inl (fun _ => 0))), ((u_8 7), .inl (q 0, 40, .inl (fun _ => 0))), ((u_8 8), .inl (q 0, 40, .inl (fun _ => 0))), ((u_8 9), .inl (q 0, 40, .inl (fun _ => 0))), ((u_8 10), .inl (q 1, 40, .inr (.inl (fun _ => 0)))), ((u_8 11), .inl (q 0, 0, .inl (fun _ => 0))), (o_10, .inr (1, [.ref (u_11 0), .ref (u_11 1), .ref (u_11 2), .int 0, .int 0, .int 0, .int 0, .int 0, .int 0, .int 0, .int 0, .int 0])), ((u_11 0), .inl (q 0, 40, .inl (fun _ => 0))), ((u_11 1), .inl (q 0, 40, .inl (fun _ => 0))), ((u_11 2), .inl (q 0, 40, .inl (fun _ => 0))), (o_13, .inr (3, [.ref (u_14 0), .ref (u_14 1), .ref (u_14 2), .ref (u_14 3), .ref (u_14 4), .ref (u_14 5), .ref (u_14 6), .int 0, .int 0, .int 0])), ((u_14 0), .inl (q 0, 80, .inl (fun _ => 0))), ((u_14 1), .inl (q 0, 80, .inl (fun _ => 0))), ((u_14 2), .inl (q 0, 80, .inl (fun _ => 0))), ((u_14 3), .inl (q 0, 80, .inl (fun _ => 0))), ((u_14 4), .inl (q 0, 80, .inl (fun _ => 0))), ((u_14 5), .inl (q 0, 3, .inl (fun _ => 0))), ((u_14 6), .inl (q 0, 3, .inl (fun _ => 0))), (o_16, .inr (2, [.ref (u_17 0), .int 0, .int 0])), ((u_17 0), .inl (q 4, 10, .inr (.inr (.inr (.inr (fun _ => none)))))), (a_19, .inl (q 4, 2, .inr (.inr (.inr (.inr (fun _ => none))))))] := hD
  refine W.widen (k := 43) (n := 1982) (Nat.le_refl _) (Nat.le_of_ble_eq_true rfl) ?_
  refine fl_putF (C := RX6) (T := TX6) (N := 7) (ci := 5) (v := .ref a_19) (ws2 := [(h0, .inr (5, [.ref o_1, .ref o_4, .ref o_7, .ref o_10, .ref o_13, .ref o_16, .ref a_19])), (o_1, .inr (4, [.ref (u_2 0), .int 0, .int 0, .int 0, .int 0, .int 0, .int 0])), ((u_2 0), .inl (q 0, 400, .inl (fun _ => 0))), (o_4, .inr (0, [.int 0, .int 0, .int 0, .int 0, .int 0, .int 0, .ref (u_5 0), .ref (u_5 1), .ref (u_5 2), .ref (u_5 3), .ref (u_5 4), .ref (u_5 5), .ref (u_5 6), .ref (u_5 7), .ref (u_5 8), .ref (u_5 9), .ref (u_5 10), .ref (u_5 11)])), ((u_5 0), .inl (q 0, 4, .inl (fun _ => 0))), ((u_5 1), .inl (q 0, 4, .inl (fun _ => 0))), ((u_5 2), .inl (q 0, 160, .inl (fun _ => 0))), ((u_5 3), .inl (q 0, 40, .inl (fun _ => 0))), ((u_5 4), .inl (q 0, 40, .inl (fun _ => 0))), ((u_5 5), .inl (q 0, 40, .inl (fun _ => 0))), ((u_5 6), .inl (q 0, 40, .inl (fun _ => 0))), ((u_5 7), .inl (q 0, 40, .inl (fun _ => 0))), ((u_5 8), .inl (q 0, 40, .inl (fun _ => 0))), ((u_5 9), .inl (q 0, 40, .inl (fun _ => 0))), ((u_5 10), .inl (q 1, 40, .inr (.inl (fun _ => 0)))), ((u_5 11), .inl (q 0, 0, .inl (fun _ => 0))), (o_7, .inr (0, [.int 0, .int 0, .int 0, .int 0, .int 0, .int 0, .ref (u_8 0), .ref (u_8 1), .ref (u_8 2), .ref (u_8 3), .ref (u_8 4), .ref (u_8 5), .ref (u_8 6), .ref (u_8 7), .ref (u_8 8), .ref (u_8 9), .ref (u_8 10), .ref (u_8 11)])), ((u_8 0), .inl (q 0, 4, .inl (fun _ => 0))), ((u_8 1), .inl (q 0, 4, .inl (fun _ => 0))), ((u_8 2), .inl (q 0, 160, .inl (fun _ => 0))), ((u_8 3), .inl (q 0, 40, .inl (fun _ => 0))), ((u_8 4), .inl (q 0, 40, .inl (fun _ => 0))), ((u_8 5), .inl (q 0, 40, .inl (fun _ => 0))), ((u_8 6), .inl (q 0, 40, .inl (fun _ => 0))), ((u_8 7), .inl (q 0, 40, .inl (fun _ => 0))), ((u_8 8), .inl (q 0, 40, .inl (fun _ => 0))), ((u_8 9), .inl (q 0, 40, .inl (fun _ => 0))), ((u_8 10), .inl (q 1, 40, .inr (.inl (fun _ => 0)))), ((u_8 11), .inl (q 0, 0, .inl (fun _ => 0))), (o_10, .inr (1, [.ref (u_11 0), .ref (u_11 1), .ref (u_11 2), .int 0, .int 0, .int 0, .int 0, .int 0, .int 0, .int 0, .int 0, .int 0])), ((u_11 0), .inl (q 0, 40, .inl (fun _ => 0))), ((u_11 1), .inl (q 0, 40, .inl (fun _ => 0))), ((u_11 2), .inl (q 0, 40, .inl (fun _ => 0))), (o_13, .inr (3, [.ref (u_14 0), .ref (u_14 1), .ref (u_14 2), .ref (u_14 3), .ref (u_14 4), .ref (u_14 5), .ref (u_14 6), .int 0, .int 0, .int 0])), ((u_14 0), .inl (q 0, 80, .inl (fun _ => 0))), ((u_14 1), .inl (q 0, 80, .inl (fun _ => 0))), ((u_14 2), .inl (q 0, 80, .inl (fun _ => 0))), ((u_14 3), .inl (q 0, 80, .inl (fun _ => 0))), ((u_14 4), .inl (q 0, 80, .inl (fun _ => 0))), ((u_14 5), .inl (q 0, 3, .inl (fun _ => 0))), ((u_14 6), .inl (q 0, 3, .inl (fun _ => 0))), (o_16, .inr (2, [.ref (u_17 0), .int 0, .int 0])), ((u_17 0), .inl (q 4, 10, .inr (.inr (.inr (.inr (fun _ => none)))))), (a_19, .inl (q 4, 2, .inr (.inr (.inr (.inr (fun _ => none))))))]) hx hb ht in_X6 tyX6_ok nmX6 hown hK hP hD hS 0 rfl rfl 6 (by decide) mw_361 rfl hin rfl rfl rfl (Nat.le_of_ble_eq_true rfl) dX6_init_75 rfl (fun H locs hP hD hS => ?_)
  have hP := hP.sub (ws' := [(h0, .inr (5, [.ref o_1, .ref o_4, .ref o_7, .ref o_10, .ref o_13, .ref o_16, .ref a_19])), (o_1, .inr (4, [.ref (u_2 0), .int 0, .int 0, .int 0, .int 0, .int 0, .int 0])), ((u_2 0), .inl (q 0, 400, .inl (fun _ => 0))), (o_4, .inr (0, [.int 0, .int 0, .int 0, .int 0, .int 0, .int 0, .ref (u_5 0), .ref (u_5 1), .ref (u_5 2), .ref (u_5 3), .ref (u_5 4), .ref (u_5 5), .ref (u_5 6), .ref (u_5 7), .ref (u_5 8), .ref (u_5 9), .ref (u_5 10), .ref (u_5 11)])), ((u_5 0), .inl (q 0, 4, .inl (fun _ => 0))), ((u_5 1), .inl (q 0, 4, .inl (fun _ => 0))), ((u_5 2), .inl (q 0, 160, .inl (fun _ => 0))), ((u_5 3), .inl (q 0, 40, .inl (fun _ => 0))), ((u_5 4), .inl (q 0, 40, .inl (fun _ => 0))), ((u_5 5), .inl (q 0, 40, .inl (fun _ => 0))), ((u_5 6), .inl (q 0, 40, .inl (fun _ => 0))), ((u_5 7), .inl (q 0, 40, .inl (fun _ => 0))), ((u_5 8), .inl (q 0, 40, .inl (fun _ => 0))), ((u_5 9), .inl (q 0, 40, .inl (fun _ => 0))), ((u_5 10), .inl (q 1, 40, .inr (.inl (fun _ => 0)))), ((u_5 11), .inl (q 0, 0, .inl (fun _ => 0))), (o_7, .inr (0, [.int 0, .int 0, .int 0, .int 0, .int 0, .int 0, .ref (u_8 0), .ref (u_8 1), .ref (u_8 2), .ref (u_8 3), .ref (u_8 4), .ref (u_8 5), .ref (u_8 6), .ref (u_8 7), .ref (u_8 8), .ref (u_8 9), .ref (u_8 10), .ref (u_8 11)])), ((u_8 0), .inl (q 0, 4, .inl (fun _ => 0))), ((u_8 1), .inl (q 0, 4, .inl (fun _ => 0))), ((u_8 2), .inl (q 0, 160, .inl (fun _ => 0))), ((u_8 3), .inl (q 0, 40, .inl (fun _ => 0))), ((u_8 4), .inl (q 0, 40, .inl (fun _ => 0))), ((u_8 5), .inl (q 0, 40, .inl (fun _ => 0))), ((u_8 6), .inl (q 0, 40, .inl (fun _ => 0))), ((u_8 7), .inl (q 0, 40, .inl (fun _ => 0))), ((u_8 8), .inl (q 0, 40, .inl (fun _ => 0))), ((u_8 9), .inl (q 0, 40, .inl (fun _ => 0))), ((u_8 10), .inl (q 1, 40, .inr (.inl (fun _ => 0)))), ((u_8 11), .inl (q 0, 0, .inl (fun _ => 0))), (o_10, .inr (1, [.ref (u_11 0), .ref (u_11 1), .ref (u_11 2), .int 0, .int 0, .int 0, .int 0, .int 0, .int 0, .int 0, .int 0, .int 0])), ((u_11 0), .inl (q 0, 40, .inl (fun _ => 0))), ((u_11 1), .inl (q 0, 40, .inl (fun _ => 0))), ((u_11 2), .inl (q 0, 40, .inl (fun _ => 0))), (o_13, .inr (3, [.ref (u_14 0), .ref (u_14 1), .ref (u_14 2), .ref (u_14 3), .ref (u_14 4), .ref (u_14 5), .ref (u_14 6), .int 0, .int 0, .int 0])), ((u_14 0), .inl (q 0, 80, .inl (fun _ => 0))), ((u_14 1), .inl (q 0, 80, .inl (fun _ => 0))), ((u_14 2), .inl (q 0, 80, .inl (fun _ => 0))), ((u_14 3), .inl (q 0, 80, .inl (fun _ => 0))), ((u_14 4), .inl (q 0, 80, .inl (fun _ => 0))), ((u_14 5), .inl (q 0, 3, .inl (fun _ => 0))), ((u_14 6), .inl (q 0, 3, .inl (fun _ => 0))), (o_16, .inr (2, [.ref (u_17 0), .int 0, .int 0])), ((u_17 0), .inl (q 4, 10, .inr (.inr (.inr (.inr (fun _ => none)))))), (a_19, .inl (q 4, 2, .inr (.inr (.inr (.inr (fun _ => none))))))]) [0, 1, 2, 3, 4, 5, 6, 7, 8, 9, 10, 11, 12, 13, 14, 15, 16, 17, 18, 19, 20, 21, 22, 23, 24, 25, 26, 27, 28, 29, 30, 31, 32, 33, 34, 35, 36, 37, 38, 39, 40, 41, 42, 43] rfl
  have hD := hD.sub (ws' := [(h0, .inr (5, [.ref o_1, .ref o_4, .ref o_7, .ref o_10, .ref o_13, .ref o_16, .ref a_19])), (o_1, .inr (4, [.ref (u_2 0), .int 0, .int 0, .int 0, .int 0, .int 0, .int 0])), ((u_2 0), .inl (q 0, 400, .inl (fun _ => 0))), (o_4, .inr (0, [.int 0, .int 0, .int 0, .int 0, .int 0, .int 0, .ref (u_5 0), .ref (u_5 1), .ref (u_5 2), .ref (u_5 3), .ref (u_5 4), .ref (u_5 5), .ref (u_5 6), .ref (u_5 7), .ref (u_5 8), .ref (u_5 9), .ref (u_5 10), .ref (u_5 11)])), ((u_5 0), .inl (q 0, 4, .inl (fun _ => 0))), ((u_5 1), .inl (q 0, 4, .inl (fun _ => 0))), ((u_5 2), .inl (q 0, 160, .inl (fun _ => 0))), ((u_5 3), .inl (q 0, 40, .inl (fun _ => 0))), ((u_5 4), .inl (q 0, 40, .inl (fun _ => 0))), ((u_5 5), .inl (q 0, 40, .inl (fun _ => 0))), ((u_5 6), .inl (q 0, 40, .inl (fun _ => 0))), ((u_5 7), .inl (q 0, 40, .inl (fun _ => 0))), ((u_5 8), .inl (q 0, 40, .inl (fun _ => 0))), ((u_5 9), .inl (q 0, 40, .inl (fun _ => 0))), ((u_5 10), .inl (q 1, 40, .inr (.inl (fun _ => 0)))), ((u_5 11), .inl (q 0, 0, .inl (fun _ => 0))), (o_7, .inr (0, [.int 0, .int 0, .int 0, .int 0, .int 0, .int 0, .ref (u_8 0), .ref (u_8 1), .ref (u_8 2), .ref (u_8 3), .ref (u_8 4), .ref (u_8 5), .ref (u_8 6), .ref (u_8 7), .ref (u_8 8), .ref (u_8 9), .ref (u_8 10), .ref (u_8 11)])), ((u_8 0), .inl (q 0, 4, .inl (fun _ => 0))), ((u_8 1), .inl (q 0, 4, .inl (fun _ => 0))), ((u_8 2), .inl (q 0, 160, .inl (fun _ => 0))), ((u_8 3), .inl (q 0, 40, .inl (fun _ => 0))), ((u_8 4), .inl (q 0, 40, .inl (fun _ => 0))), ((u_8 5), .inl (q 0, 40, .inl (fun _ => 0))), ((u_8 6), .inl (q 0, 40, .inl (fun _ => 0))), ((u_8 7), .inl (q 0, 40, .inl (fun _ => 0))), ((u_8 8), .inl (q 0, 40, .inl (fun _ => 0))), ((u_8 9), .inl (q 0, 40, .inl (fun _ => 0))), ((u_8 10), .inl (q 1, 40, .inr (.inl (fun _ => 0)))), ((u_8 11), .inl (q 0, 0, .inl (fun _ => 0))), (o_10, .inr (1, [.ref (u_11 0), .ref (u_11 1), .ref (u_11 2), .int 0, .int 0, .int 0, .int 0, .int 0, .int 0, .int 0, .int 0, .int 0])), ((u_11 0), .inl (q 0, 40, .inl (fun _ => 0))), ((u_11 1), .inl (q 0, 40, .inl (fun _ => 0))), ((u_11 2), .inl (q 0, 40, .inl (fun _ => 0))), (o_13, .inr (3, [.ref (u_14 0), .ref (u_14 1), .ref (u_14 2), .ref (u_14 3), .ref (u_14 4), .ref (u_14 5), .ref (u_14 6), .int 0, .int 0, .int 0])), ((u_14 0), .inl (q 0, 80, .inl (fun _ => 0))), ((u_14 1), .inl (q 0, 80, .inl (fun _ => 0))), ((u_14 2), .inl (q 0, 80, .inl (fun _ => 0))), ((u_14 3), .inl (q 0, 80, .inl (fun _ => 0))), ((u_14 4), .inl (q 0, 80, .inl (fun _ => 0))), ((u_14 5), .inl (q 0, 3, .inl (fun _ => 0))), ((u_14 6), .inl (q 0, 3, .inl (fun _ => 0))), (o_16, .inr (2, [.ref (u_17 0), .int 0, .int 0])), ((u_17 0), .inl (q 4, 10, .inr (.inr (.inr (.inr (fun _ => none)))))), (a_19, .inl (q 4, 2, .inr (.inr (.inr (.inr (fun _ => none))))))]) [0, 1, 2, 3, 4, 5, 6, 7, 8, 9, 10, 11, 12, 13, 14, 15, 16, 17, 18, 19, 20, 21, 22, 23, 24, 25, 26, 27, 28, 29, 30, 31, 32, 33, 34, 35, 36, 37, 38, 39, 40, 41, 42, 43] (by decide) rfl
  exact mt_vret (fun k => [h0, o_1, (u_2 0), o_4, (u_5 0), (u_5 1), (u_5 2), (u_5 3), (u_5 4), (u_5 5), (u_5 6), (u_5 7), (u_5 8), (u_5 9), (u_5 10), (u_5 11), o_7, (u_8 0), (u_8 1), (u_8 2), (u_8 3), (u_8 4), (u_8 5), (u_8 6), (u_8 7), (u_8 8), (u_8 9), (u_8 10), (u_8 11), o_10, (u_11 0), (u_11 1), (u_11 2), o_13, (u_14 0), (u_14 1), (u_14 2), (u_14 3), (u_14 4), (u_14 5), (u_14 6), o_16, (u_17 0), a_19].getD k 0) hx hb hr hk (rfl) hP hD hS dX6_init_78

set_option maxHeartbeats 4000000 in
set_option maxRecDepth 100000 in
theorem ct_init_X7 {l : Launch} {D : va_G} {q : Nat → ClassId} {sz : Nat} {h0 : Nat} : Met l yX7_init (Cond.code yX7_init cX7_init 1 none :: w_all) ({ frames := 1, cells := 7, slots := 96986, locals := 12 }) (mt_P D q [.ref h0] [(h0, .inr (6, [.null, .null, .int 0, .null, .null, .null, .long 0, .int 0, .int 0, .null, .int 0, .int 0, .null, .int 0, .int 0, .int 0, .int 0, .int 0, .int 0, .int 0, .int 0, .int 0, .int 0]))] sz) (va_Qv (fun u : (Nat → Nat) => u 0 = h0) (mt_B D [(h0, .inr (6, [.null, .null, .int 0, .null, .null, .null, .long 0, .int 0, .int 0, .null, .int 0, .int 0, .null, .int 0, .int 0, .int 0, .int 0, .int 0, .int 0, .int 0, .int 0, .int 0, .int 0]))] sz (fun u => md_w u q)) (va_A [(h0, .inr (6, [.null, .null, .int 0, .null, .null, .null, .long 0, .int 0, .int 0, .null, .int 0, .int 0, .null, .int 0, .int 0, .int 0, .int 0, .int 0, .int 0, .int 0, .int 0, .int 0, .int 0]))] sz)) 7 96986 (va_A [(h0, .inr (6, [.null, .null, .int 0, .null, .null, .null, .long 0, .int 0, .int 0, .null, .int 0, .int 0, .null, .int 0, .int 0, .int 0, .int 0, .int 0, .int 0, .int 0, .int 0, .int 0, .int 0]))] sz) := by
  refine mt_start (by decide) (Nat.le_of_ble_eq_true rfl) ?_
  intro p e s m below meth c ls hx hb hr hml hown ht hk hin hP hQ hD hA hS hV hl
  have hK := hQ.1
  have hown : s.vm.findClass RX7 = some m.cls := hown
  have hl : lv_has ls 1 [(0, .ref h0)] := hl
  refine lv_aload_n hx hb dX7_init_0 rfl (lv_at hl 0 rfl) ?_
  refine W.objInit hx hb hown (ht _ mw_1128) (ht _ mw_120) (ht _ mw_121) rfl (by rw [hml]; exact hl.1) rfl dX7_init_1 (Nat.le_of_ble_eq_true rfl) (Nat.le_of_ble_eq_true rfl) ?_
  refine W.eq (g2 := F0 m 4 ls []) rfl ?_
  refine lv_aload_n hx hb dX7_init_4 rfl (lv_at hl 0 rfl) ?_
  refine lv_sipush (v := 6896) hx hb dX7_init_5 (by decide) ?_
  refine nw_l (N := 6896) hx hb ht mw_246 hK hP hD hS hA (by decide) (by decide) (Nat.le_of_ble_eq_true rfl) ⟨Nat.le_of_ble_eq_true rfl, Nat.le_of_ble_eq_true rfl⟩ dX7_init_8 (fun a_1 H hP hD hS => ?_)
  have hP : va_P D vwCl [(h0, .inr (6, [.null, .null, .int 0, .null, .null, .null, .long 0, .int 0, .int 0, .null, .int 0, .int 0, .null, .int 0, .int 0, .int 0, .int 0, .int 0, .int 0, .int 0, .int 0, .int 0, .int 0])), (a_1, .inl (q 1, 6896, .inr (.inl (fun _ => 0))))] H := hP
  have hD : va_D _ [(h0, .inr (6, [.null, .null, .int 0, .null, .null, .null, .long 0, .int 0, .int 0, .null, .int 0, .int 0, .null, .int 0, .int 0, .int 0, .int 0, .int 0, .int 0, .int 0, .int 0, .int 0, .int 0])), (a_1, .inl (q 1, 6896, .inr (.inl (fun _ => 0))))] := hD
  refine W.widen (k := 1) (n := 6896) (Nat.le_refl _) (Nat.le_of_ble_eq_true rfl) ?_
  refine fl_putF (C := RX7) (T := TX7) (N := 23) (ci := 6) (v := .ref a_1) (ws2 := [(h0, .inr (6, [.ref a_1, .null, .int 0, .null, .null, .null, .long 0, .int 0, .int 0, .null, .int 0, .int 0, .null, .int 0, .int 0, .int 0, .int 0, .int 0, .int 0, .int 0, .int 0, .int 0, .int 0])), (a_1, .inl (q 1, 6896, .inr (.inl (fun _ => 0))))]) hx hb ht in_X7 tyX7_ok nmX7 hown hK hP hD hS 0 rfl rfl 0 (by decide) mw_1130 rfl hin rfl rfl rfl (Nat.le_of_ble_eq_true rfl) dX7_init_10 rfl (fun H locs hP hD hS => ?_)
  refine lv_aload_n hx hb dX7_init_13 rfl (lv_at hl 0 rfl) ?_
  refine lv_ldc (v := 68960) hx hb hown (ht _ mw_1129) dX7_init_14 ?_
  refine nw_l (N := 68960) hx hb ht mw_246 hK hP hD hS hA (by decide) (by decide) (Nat.le_of_ble_eq_true rfl) ⟨Nat.le_of_ble_eq_true rfl, Nat.le_of_ble_eq_true rfl⟩ dX7_init_16 (fun a_2 H hP hD hS => ?_)
  have hP : va_P D vwCl [(h0, .inr (6, [.ref a_1, .null, .int 0, .null, .null, .null, .long 0, .int 0, .int 0, .null, .int 0, .int 0, .null, .int 0, .int 0, .int 0, .int 0, .int 0, .int 0, .int 0, .int 0, .int 0, .int 0])), (a_1, .inl (q 1, 6896, .inr (.inl (fun _ => 0)))), (a_2, .inl (q 1, 68960, .inr (.inl (fun _ => 0))))] H := hP
  have hD : va_D _ [(h0, .inr (6, [.ref a_1, .null, .int 0, .null, .null, .null, .long 0, .int 0, .int 0, .null, .int 0, .int 0, .null, .int 0, .int 0, .int 0, .int 0, .int 0, .int 0, .int 0, .int 0, .int 0, .int 0])), (a_1, .inl (q 1, 6896, .inr (.inl (fun _ => 0)))), (a_2, .inl (q 1, 68960, .inr (.inl (fun _ => 0))))] := hD
  refine W.widen (k := 2) (n := 75856) (Nat.le_refl _) (Nat.le_of_ble_eq_true rfl) ?_
  refine fl_putF (C := RX7) (T := TX7) (N := 23) (ci := 6) (v := .ref a_2) (ws2 := [(h0, .inr (6, [.ref a_1, .ref a_2, .int 0, .null, .null, .null, .long 0, .int 0, .int 0, .null, .int 0, .int 0, .null, .int 0, .int 0, .int 0, .int 0, .int 0, .int 0, .int 0, .int 0, .int 0, .int 0])), (a_1, .inl (q 1, 6896, .inr (.inl (fun _ => 0)))), (a_2, .inl (q 1, 68960, .inr (.inl (fun _ => 0))))]) hx hb ht in_X7 tyX7_ok nmX7 hown hK hP hD hS 0 rfl rfl 1 (by decide) mw_1131 rfl hin rfl rfl rfl (Nat.le_of_ble_eq_true rfl) dX7_init_18 rfl (fun H locs hP hD hS => ?_)
  refine lv_aload_n hx hb dX7_init_21 rfl (lv_at hl 0 rfl) ?_
  refine lv_sipush (v := 13792) hx hb dX7_init_22 (by decide) ?_
  refine nw_l (N := 13792) hx hb ht mw_246 hK hP hD hS hA (by decide) (by decide) (Nat.le_of_ble_eq_true rfl) ⟨Nat.le_of_ble_eq_true rfl, Nat.le_of_ble_eq_true rfl⟩ dX7_init_25 (fun a_3 H hP hD hS => ?_)
  have hP : va_P D vwCl [(h0, .inr (6, [.ref a_1, .ref a_2, .int 0, .null, .null, .null, .long 0, .int 0, .int 0, .null, .int 0, .int 0, .null, .int 0, .int 0, .int 0, .int 0, .int 0, .int 0, .int 0, .int 0, .int 0, .int 0])), (a_1, .inl (q 1, 6896, .inr (.inl (fun _ => 0)))), (a_2, .inl (q 1, 68960, .inr (.inl (fun _ => 0)))), (a_3, .inl (q 1, 13792, .inr (.inl (fun _ => 0))))] H := hP
  have hD : va_D _ [(h0, .inr (6, [.ref a_1, .ref a_2, .int 0, .null, .null, .null, .long 0, .int 0, .int 0, .null, .int 0, .int 0, .null, .int 0, .int 0, .int 0, .int 0, .int 0, .int 0, .int 0, .int 0, .int 0, .int 0])), (a_1, .inl (q 1, 6896, .inr (.inl (fun _ => 0)))), (a_2, .inl (q 1, 68960, .inr (.inl (fun _ => 0)))), (a_3, .inl (q 1, 13792, .inr (.inl (fun _ => 0))))] := hD
  refine W.widen (k := 3) (n := 89648) (Nat.le_refl _) (Nat.le_of_ble_eq_true rfl) ?_
  refine fl_putF (C := RX7) (T := TX7) (N := 23) (ci := 6) (v := .ref a_3) (ws2 := [(h0, .inr (6, [.ref a_1, .ref a_2, .int 0, .ref a_3, .null, .null, .long 0, .int 0, .int 0, .null, .int 0, .int 0, .null, .int 0, .int 0, .int 0, .int 0, .int 0, .int 0, .int 0, .int 0, .int 0, .int 0])), (a_1, .inl (q 1, 6896, .inr (.inl (fun _ => 0)))), (a_2, .inl (q 1, 68960, .inr (.inl (fun _ => 0)))), (a_3, .inl (q 1, 13792, .inr (.inl (fun _ => 0))))]) hx hb ht in_X7 tyX7_ok nmX7 hown hK hP hD hS 0 rfl rfl 3 (by decide) mw_1133 rfl hin rfl rfl rfl (Nat.le_of_ble_eq_true rfl) dX7_init_27 rfl (fun H locs hP hD hS => ?_)
  refine lv_aload_n hx hb dX7_init_30 rfl (lv_at hl 0 rfl) ?_
  refine lv_iconst (v := 2) hx hb dX7_init_31 (by decide) ?_
  refine nw_z (N := 2) hx hb ht mw_1200 hK hP hD hS hA (by decide) (by decide) (Nat.le_of_ble_eq_true rfl) ⟨Nat.le_of_ble_eq_true rfl, Nat.le_of_ble_eq_true rfl⟩ dX7_init_32 (fun a_4 H hP hD hS => ?_)
  have hP : va_P D vwCl [(h0, .inr (6, [.ref a_1, .ref a_2, .int 0, .ref a_3, .null, .null, .long 0, .int 0, .int 0, .null, .int 0, .int 0, .null, .int 0, .int 0, .int 0, .int 0, .int 0, .int 0, .int 0, .int 0, .int 0, .int 0])), (a_1, .inl (q 1, 6896, .inr (.inl (fun _ => 0)))), (a_2, .inl (q 1, 68960, .inr (.inl (fun _ => 0)))), (a_3, .inl (q 1, 13792, .inr (.inl (fun _ => 0)))), (a_4, .inl (q 3, 2, .inl (fun _ => 0)))] H := hP
  have hD : va_D _ [(h0, .inr (6, [.ref a_1, .ref a_2, .int 0, .ref a_3, .null, .null, .long 0, .int 0, .int 0, .null, .int 0, .int 0, .null, .int 0, .int 0, .int 0, .int 0, .int 0, .int 0, .int 0, .int 0, .int 0, .int 0])), (a_1, .inl (q 1, 6896, .inr (.inl (fun _ => 0)))), (a_2, .inl (q 1, 68960, .inr (.inl (fun _ => 0)))), (a_3, .inl (q 1, 13792, .inr (.inl (fun _ => 0)))), (a_4, .inl (q 3, 2, .inl (fun _ => 0)))] := hD
  refine W.widen (k := 4) (n := 89650) (Nat.le_refl _) (Nat.le_of_ble_eq_true rfl) ?_
  refine fl_putF (C := RX7) (T := TX7) (N := 23) (ci := 6) (v := .ref a_4) (ws2 := [(h0, .inr (6, [.ref a_1, .ref a_2, .int 0, .ref a_3, .ref a_4, .null, .long 0, .int 0, .int 0, .null, .int 0, .int 0, .null, .int 0, .int 0, .int 0, .int 0, .int 0, .int 0, .int 0, .int 0, .int 0, .int 0])), (a_1, .inl (q 1, 6896, .inr (.inl (fun _ => 0)))), (a_2, .inl (q 1, 68960, .inr (.inl (fun _ => 0)))), (a_3, .inl (q 1, 13792, .inr (.inl (fun _ => 0)))), (a_4, .inl (q 3, 2, .inl (fun _ => 0)))]) hx hb ht in_X7 tyX7_ok nmX7 hown hK hP hD hS 0 rfl rfl 4 (by decide) mw_1134 rfl hin rfl rfl rfl (Nat.le_of_ble_eq_true rfl) dX7_init_34 rfl (fun H locs hP hD hS => ?_)
  refine lv_aload_n hx hb dX7_init_37 rfl (lv_at hl 0 rfl) ?_
  refine lv_sipush (v := 6896) hx hb dX7_init_38 (by decide) ?_
  refine nw_l (N := 6896) hx hb ht mw_246 hK hP hD hS hA (by decide) (by decide) (Nat.le_of_ble_eq_true rfl) ⟨Nat.le_of_ble_eq_true rfl, Nat.le_of_ble_eq_true rfl⟩ dX7_init_41 (fun a_5 H hP hD hS => ?_)
  have hP : va_P D vwCl [(h0, .inr (6, [.ref a_1, .ref a_2, .int 0, .ref a_3, .ref a_4, .null, .long 0, .int 0, .int 0, .null, .int 0, .int 0, .null, .int 0, .int 0, .int 0, .int 0, .int 0, .int 0, .int 0, .int 0, .int 0, .int 0])), (a_1, .inl (q 1, 6896, .inr (.inl (fun _ => 0)))), (a_2, .inl (q 1, 68960, .inr (.inl (fun _ => 0)))), (a_3, .inl (q 1, 13792, .inr (.inl (fun _ => 0)))), (a_4, .inl (q 3, 2, .inl (fun _ => 0))), (a_5, .inl (q 1, 6896, .inr (.inl (fun _ => 0))))] H := hP
  have hD : va_D _ [(h0, .inr (6, [.ref a_1, .ref a_2, .int 0, .ref a_3, .ref a_4, .null, .long 0, .int 0, .int 0, .null, .int 0, .int 0, .null, .int 0, .int 0, .int 0, .int 0, .int 0, .int 0, .int 0, .int 0, .int 0, .int 0])), (a_1, .inl (q 1, 6896, .inr (.inl (fun _ => 0)))), (a_2, .inl (q 1, 68960, .inr (.inl (fun _ => 0)))), (a_3, .inl (q 1, 13792, .inr (.inl (fun _ => 0)))), (a_4, .inl (q 3, 2, .inl (fun _ => 0))), (a_5, .inl (q 1, 6896, .inr (.inl (fun _ => 0))))] := hD
  refine W.widen (k := 5) (n := 96546) (Nat.le_refl _) (Nat.le_of_ble_eq_true rfl) ?_
  refine fl_putF (C := RX7) (T := TX7) (N := 23) (ci := 6) (v := .ref a_5) (ws2 := [(h0, .inr (6, [.ref a_1, .ref a_2, .int 0, .ref a_3, .ref a_4, .ref a_5, .long 0, .int 0, .int 0, .null, .int 0, .int 0, .null, .int 0, .int 0, .int 0, .int 0, .int 0, .int 0, .int 0, .int 0, .int 0, .int 0])), (a_1, .inl (q 1, 6896, .inr (.inl (fun _ => 0)))), (a_2, .inl (q 1, 68960, .inr (.inl (fun _ => 0)))), (a_3, .inl (q 1, 13792, .inr (.inl (fun _ => 0)))), (a_4, .inl (q 3, 2, .inl (fun _ => 0))), (a_5, .inl (q 1, 6896, .inr (.inl (fun _ => 0))))]) hx hb ht in_X7 tyX7_ok nmX7 hown hK hP hD hS 0 rfl rfl 5 (by decide) mw_1135 rfl hin rfl rfl rfl (Nat.le_of_ble_eq_true rfl) dX7_init_43 rfl (fun H locs hP hD hS => ?_)
  refine lv_aload_n hx hb dX7_init_46 rfl (lv_at hl 0 rfl) ?_
  refine lv_bipush (v := 40) hx hb dX7_init_47 (by decide) ?_
  refine nw_i (N := 40) hx hb ht mw_160 hK hP hD hS hA (by decide) (by decide) (Nat.le_of_ble_eq_true rfl) ⟨Nat.le_of_ble_eq_true rfl, Nat.le_of_ble_eq_true rfl⟩ dX7_init_49 (fun a_6 H hP hD hS => ?_)
  have hP : va_P D vwCl [(h0, .inr (6, [.ref a_1, .ref a_2, .int 0, .ref a_3, .ref a_4, .ref a_5, .long 0, .int 0, .int 0, .null, .int 0, .int 0, .null, .int 0, .int 0, .int 0, .int 0, .int 0, .int 0, .int 0, .int 0, .int 0, .int 0])), (a_1, .inl (q 1, 6896, .inr (.inl (fun _ => 0)))), (a_2, .inl (q 1, 68960, .inr (.inl (fun _ => 0)))), (a_3, .inl (q 1, 13792, .inr (.inl (fun _ => 0)))), (a_4, .inl (q 3, 2, .inl (fun _ => 0))), (a_5, .inl (q 1, 6896, .inr (.inl (fun _ => 0)))), (a_6, .inl (q 0, 40, .inl (fun _ => 0)))] H := hP
  have hD : va_D _ [(h0, .inr (6, [.ref a_1, .ref a_2, .int 0, .ref a_3, .ref a_4, .ref a_5, .long 0, .int 0, .int 0, .null, .int 0, .int 0, .null, .int 0, .int 0, .int 0, .int 0, .int 0, .int 0, .int 0, .int 0, .int 0, .int 0])), (a_1, .inl (q 1, 6896, .inr (.inl (fun _ => 0)))), (a_2, .inl (q 1, 68960, .inr (.inl (fun _ => 0)))), (a_3, .inl (q 1, 13792, .inr (.inl (fun _ => 0)))), (a_4, .inl (q 3, 2, .inl (fun _ => 0))), (a_5, .inl (q 1, 6896, .inr (.inl (fun _ => 0)))), (a_6, .inl (q 0, 40, .inl (fun _ => 0)))] := hD
  refine W.widen (k := 6) (n := 96586) (Nat.le_refl _) (Nat.le_of_ble_eq_true rfl) ?_
  refine fl_putF (C := RX7) (T := TX7) (N := 23) (ci := 6) (v := .ref a_6) (ws2 := [(h0, .inr (6, [.ref a_1, .ref a_2, .int 0, .ref a_3, .ref a_4, .ref a_5, .long 0, .int 0, .int 0, .ref a_6, .int 0, .int 0, .null, .int 0, .int 0, .int 0, .int 0, .int 0, .int 0, .int 0, .int 0, .int 0, .int 0])), (a_1, .inl (q 1, 6896, .inr (.inl (fun _ => 0)))), (a_2, .inl (q 1, 68960, .inr (.inl (fun _ => 0)))), (a_3, .inl (q 1, 13792, .inr (.inl (fun _ => 0)))), (a_4, .inl (q 3, 2, .inl (fun _ => 0))), (a_5, .inl (q 1, 6896, .inr (.inl (fun _ => 0)))), (a_6, .inl (q 0, 40, .inl (fun _ => 0)))]) hx hb ht in_X7 tyX7_ok nmX7 hown hK hP hD hS 0 rfl rfl 9 (by decide) mw_1139 rfl hin rfl rfl rfl (Nat.le_of_ble_eq_true rfl) dX7_init_51 rfl (fun H locs hP hD hS => ?_)
  refine lv_aload_n hx hb dX7_init_54 rfl (lv_at hl 0 rfl) ?_
  refine lv_sipush (v := 400) hx hb dX7_init_55 (by decide) ?_
  refine nw_b (N := 400) hx hb ht mw_612 hK hP hD hS hA (by decide) (by decide) (Nat.le_of_ble_eq_true rfl) ⟨Nat.le_of_ble_eq_true rfl, Nat.le_of_ble_eq_true rfl⟩ dX7_init_58 (fun a_7 H hP hD hS => ?_)
  have hP : va_P D vwCl [(h0, .inr (6, [.ref a_1, .ref a_2, .int 0, .ref a_3, .ref a_4, .ref a_5, .long 0, .int 0, .int 0, .ref a_6, .int 0, .int 0, .null, .int 0, .int 0, .int 0, .int 0, .int 0, .int 0, .int 0, .int 0, .int 0, .int 0])), (a_1, .inl (q 1, 6896, .inr (.inl (fun _ => 0)))), (a_2, .inl (q 1, 68960, .inr (.inl (fun _ => 0)))), (a_3, .inl (q 1, 13792, .inr (.inl (fun _ => 0)))), (a_4, .inl (q 3, 2, .inl (fun _ => 0))), (a_5, .inl (q 1, 6896, .inr (.inl (fun _ => 0)))), (a_6, .inl (q 0, 40, .inl (fun _ => 0))), (a_7, .inl (q 2, 400, .inl (fun _ => 0)))] H := hP
  have hD : va_D _ [(h0, .inr (6, [.ref a_1, .ref a_2, .int 0, .ref a_3, .ref a_4, .ref a_5, .long 0, .int 0, .int 0, .ref a_6, .int 0, .int 0, .null, .int 0, .int 0, .int 0, .int 0, .int 0, .int 0, .int 0, .int 0, .int 0, .int 0])), (a_1, .inl (q 1, 6896, .inr (.inl (fun _ => 0)))), (a_2, .inl (q 1, 68960, .inr (.inl (fun _ => 0)))), (a_3, .inl (q 1, 13792, .inr (.inl (fun _ => 0)))), (a_4, .inl (q 3, 2, .inl (fun _ => 0))), (a_5, .inl (q 1, 6896, .inr (.inl (fun _ => 0)))), (a_6, .inl (q 0, 40, .inl (fun _ => 0))), (a_7, .inl (q 2, 400, .inl (fun _ => 0)))] := hD
  refine W.widen (k := 7) (n := 96986) (Nat.le_refl _) (Nat.le_of_ble_eq_true rfl) ?_
  refine fl_putF (C := RX7) (T := TX7) (N := 23) (ci := 6) (v := .ref a_7) (ws2 := [(h0, .inr (6, [.ref a_1, .ref a_2, .int 0, .ref a_3, .ref a_4, .ref a_5, .long 0, .int 0, .int 0, .ref a_6, .int 0, .int 0, .ref a_7, .int 0, .int 0, .int 0, .int 0, .int 0, .int 0, .int 0, .int 0, .int 0, .int 0])), (a_1, .inl (q 1, 6896, .inr (.inl (fun _ => 0)))), (a_2, .inl (q 1, 68960, .inr (.inl (fun _ => 0)))), (a_3, .inl (q 1, 13792, .inr (.inl (fun _ => 0)))), (a_4, .inl (q 3, 2, .inl (fun _ => 0))), (a_5, .inl (q 1, 6896, .inr (.inl (fun _ => 0)))), (a_6, .inl (q 0, 40, .inl (fun _ => 0))), (a_7, .inl (q 2, 400, .inl (fun _ => 0)))]) hx hb ht in_X7 tyX7_ok nmX7 hown hK hP hD hS 0 rfl rfl 12 (by decide) mw_1142 rfl hin rfl rfl rfl (Nat.le_of_ble_eq_true rfl) dX7_init_60 rfl (fun H locs hP hD hS => ?_)
  have hP := hP.sub (ws' := [(h0, .inr (6, [.ref a_1, .ref a_2, .int 0, .ref a_3, .ref a_4, .ref a_5, .long 0, .int 0, .int 0, .ref a_6, .int 0, .int 0, .ref a_7, .int 0, .int 0, .int 0, .int 0, .int 0, .int 0, .int 0, .int 0, .int 0, .int 0])), (a_1, .inl (q 1, 6896, .inr (.inl (fun _ => 0)))), (a_2, .inl (q 1, 68960, .inr (.inl (fun _ => 0)))), (a_3, .inl (q 1, 13792, .inr (.inl (fun _ => 0)))), (a_4, .inl (q 3, 2, .inl (fun _ => 0))), (a_5, .inl (q 1, 6896, .inr (.inl (fun _ => 0)))), (a_6, .inl (q 0, 40, .inl (fun _ => 0))), (a_7, .inl (q 2, 400, .inl (fun _ => 0)))]) [0, 1, 2, 3, 4, 5, 6, 7] rfl
  have hD := hD.sub (ws' := [(h0, .inr (6, [.ref a_1, .ref a_2, .int 0, .ref a_3, .ref a_4, .ref a_5, .long 0, .int 0, .int 0, .ref a_6, .int 0, .int 0, .ref a_7, .int 0, .int 0, .int 0, .int 0, .int 0, .int 0, .int 0, .int 0, .int 0, .int 0])), (a_1, .inl (q 1, 6896, .inr (.inl (fun _ => 0)))), (a_2, .inl (q 1, 68960, .inr (.inl (fun _ => 0)))), (a_3, .inl (q 1, 13792, .inr (.inl (fun _ => 0)))), (a_4, .inl (q 3, 2, .inl (fun _ => 0))), (a_5, .inl (q 1, 6896, .inr (.inl (fun _ => 0)))), (a_6, .inl (q 0, 40, .inl (fun _ => 0))), (a_7, .inl (q 2, 400, .inl (fun _ => 0)))]) [0, 1, 2, 3, 4, 5, 6, 7] (by decide) rfl
  exact mt_vret (fun k => [h0, a_1, a_2, a_3, a_4, a_5, a_6, a_7].getD k 0) hx hb hr hk (rfl) hP hD hS dX7_init_63

def R_law : String := "FlapBoardLaw"
def lw_P (b : Addr) (xs : List Int32) (args : Array Value) (s : State) : Prop := args = #[.ref b] ∧ s.IntsAt b xs ∧ xs.length ≤ 3072 ∧ (Jvm.Cond.and given_1 narrow_1).before args s = true
def lw_Q (_ : Array Value) (s : State) (o : Outcome) (t : State) : Prop := o = .returned (some (.int 1)) ∧ Framed s o t [] 600000 7302250
def lw_Z (below : List Frame) (a : Array Value) (s : State) : State → Prop := fun t => ∃ o, t.status = .running ∧ Ended t below o ∧ lw_Q a s o t
/-- the law's own end, with 1 on the stack, nothing written that was there before, its room as the claim has it -/
theorem lw_ret {p : Program} {l : Launch} {e : Env} {s : State} {m : MethodId} {below : List Frame} {meth : Method} {c : Code} {b : Nat} (hx : p.tables.exec = Jvm.exec) (hb : c.code = code) (hr : meth.sig.returnType = ret) (hlocks : meth.locks = false) {pc : Nat} {H : Heap} {ls : Array Slot} (hdg : decode code pc = .ok (.ireturn, 1)) : W p l e room_1 s m #[Value.ref b] below meth c H [] 600000 7302250 (lw_Z below #[Value.ref b] s) (F0 m pc ls [.int 1]) := by
  intro T hT X
  obtain ⟨fs, hret, hrun, hended, hW, hframe⟩ := X.leave (v := some (.int 1)) (hlocks := hlocks) (fun h => by rw [hr] at h; cases h)
  have hmeth' : T.vm.method? m = some meth := X.method'
  refine ⟨T.setFrames fs, ?_, .returned (some (.int 1)), hrun, hended, rfl, ⟨_, rfl⟩, hW, hframe⟩
  jvm_step X.here [X.here.top, hx, hb, hdg, hmeth', hr, ret, narrow_b1]
  (try refine ⟨rfl, ?_⟩); (try refine ⟨rfl, ?_⟩)
  first | (intro acts; rw [hret _ acts rfl rfl rfl]) | rw [hret _ _ rfl rfl rfl]
  exact Steps.refl _
/-- what holds at the law's entry: the machine, the code, the tables' words (any of lw_tbl by 'hts w (by decide +kernel)'), the script of L ints xs at the cell b, what the Statement gives of the start (any of its parts by flat_of_before) -/
def lw_At (p : Program) (s : State) (m : MethodId) (meth : Method) (c : Code) (b L : Nat) (xs : Nat → Int32) : Prop :=
  p.tables.exec = Jvm.exec ∧ c.code = code ∧ meth.sig.returnType = ret ∧ c.maxLocals = 4 ∧ s.vm.findClass R_law = some m.cls ∧ (∀ w ∈ lw_tbl, w.before #[Value.ref b] s = true) ∧ va_X b L xs s s.heap ∧ b < s.heap.size ∧ meth.locks = false ∧ (Jvm.Cond.and given_1 narrow_1).before #[Value.ref b] s = true
theorem lp_rm {k L mc ms : Nat} (hk : 6 * k + 6 ≤ L) (hL : L ≤ 3072) (h1 : mc ≤ 15) (h2 : ms ≤ 13306) : 52 + 15 * k + mc ≤ room_1.cells ∧ 98998 + 13306 * k + ms ≤ room_1.slots := by
  show _ ≤ 600000 ∧ _ ≤ 7302250
  constructor <;> omega
theorem lp_in {k L c : Nat} (hk : 6 * k + 6 ≤ L) (hL : L ≤ 3072) (h1 : c ≤ 5) : vp_in (nI (6 * k + c)) L := vp_in_nI (by omega) (by omega)
theorem lp_sub {L : Nat} (hL : L ≤ 3072) : (Int32.ofNat L - 6).toInt = (L : Int) - 6 := by
  have e : (Int32.ofNat L).toInt = (L : Int) := tq_ofn (by omega)
  have e6 : (6 : Int32).toInt = 6 := rfl
  rw [tq_sub, e, e6]
  omega
theorem lp_on {k L : Nat} (hk : 6 * k + 6 ≤ L) (hL : L ≤ 3072) : ¬ nI (6 * k) > Int32.ofNat L - 6 := fun h => by
  have h1 := q_lt h
  have e : (nI (6 * k)).toInt = ((6 * k : Nat) : Int) := nI_toInt (by omega)
  rw [lp_sub hL, e] at h1
  omega
theorem lp_off {k L : Nat} (hk : ¬ 6 * k + 6 ≤ L) (hk2 : k ≤ 513) (hL : L ≤ 3072) : nI (6 * k) > Int32.ofNat L - 6 := by
  refine Int32.lt_iff_toInt_lt.mpr ?_
  have e : (nI (6 * k)).toInt = ((6 * k : Nat) : Int) := nI_toInt (by omega)
  rw [lp_sub hL, e]
  omega
set_option maxHeartbeats 4000000 in
set_option maxRecDepth 100000 in
theorem lp_out {p : Program} {e : Env} {s : State} {m : MethodId} {below : List Frame} {meth : Method} {c : Code} {l : Launch} {b0 L : Nat} {xs : Nat → Int32} (C0 : lw_At p s m meth c b0 L xs) (hL : L ≤ 3072) {H : Heap} {locs : List Loc} {ls : Array Slot} {k a b : Nat} (hk : ¬ 6 * k + 6 ≤ L) (hk2 : k ≤ 513) (hS : va_S (fun x : Nat => s.heap.size ≤ x) s.heap H locs) (hl : lv_has ls 4 [(3, .int (nI (6 * k))), (2, .ref b), (1, .ref a), (0, .ref b0)]) : W p l e room_1 s m #[Value.ref b0] below meth c H locs (52 + 15 * k) (98998 + 13306 * k) (lw_Z below #[Value.ref b0] s) (F0 m 18 ls []) := by
  obtain ⟨hx, hb, hr, hml, hown, hts, hX, hbl, hlocks, hgv⟩ := id C0
  have ht : ∀ w ∈ w_all, w.before #[Value.ref b0] s = true := fun w h => hts w (w_tbl h)
  have hA : ∀ x : Nat, s.heap.size ≤ x → (fun x : Nat => s.heap.size ≤ x) x := fun _ h => h
  have hbA : ¬ (fun x : Nat => s.heap.size ≤ x) b0 := Nat.not_le.mpr hbl
  have hown : s.vm.findClass RL = some m.cls := hown
  refine lv_iload_n hx hb dL_law_18 rfl (lv_at hl 0 rfl) ?_
  refine lv_aload_n hx hb dL_law_19 rfl (lv_at hl 3 rfl) ?_
  refine va_slen hx hb hX hbl hbA hS dL_law_20 ?_
  refine lv_bipush (v := 6) hx hb dL_law_21 (by decide) ?_
  refine lv_isub hx hb dL_law_23 ?_
  refine lv_icmp_gt (tgt := 1340) hx hb dL_law_24 (by decide) (fun _ => ?_) (fun c9 => absurd (lp_off hk hk2 hL) c9)
  refine lv_iconst (v := 1) hx hb dL_law_1340 (by decide) ?_
  refine va_forget (fun x h => hS.2.2 x h) ?_
  refine W.widen (k := 600000) (n := 7302250) (by omega) (by omega) ?_
  exact lw_ret hx hb hr hlocks dL_law_1341

set_option maxHeartbeats 4000000 in
set_option maxRecDepth 100000 in
/-- feed -/
theorem lc_0 {p : Program} {e : Env} {s : State} {m : MethodId} {below : List Frame} {meth : Method} {c : Code} {l : Launch} {b0 L : Nat} {xs : Nat → Int32} (C0 : lw_At p s m meth c b0 L xs) (hL : L ≤ 3072) {k : Nat} (hk : 6 * k + 6 ≤ L) {D : va_G} {q : Nat → ClassId} (hQ : kn D q s) (hV : sv q (fun x : Nat => s.heap.size ≤ x) s s.heap) {a b : Nat} {N : Int} {s1 : Tp} {s2 s3 : Bd} {s4 : Mo} {s5 : Pg} {s6 : Pa} {z7 : Nat → Option Bd} {md : Md} {wC wM : va_W} (hC : c_W q a s1 s2 s3 s4 s5 s6 z7 wC) (hM : m_W q b md wM) (hJ : JJ N s1 s2 s3 s4 s5 s6 z7 md) {H : Heap} {locs : List Loc} {ls : Array Slot} (hP : va_P D vwCl (wC ++ wM) H) (hD : va_D (fun x : Nat => s.heap.size ≤ x) (wC ++ wM)) (hS : va_S (fun x : Nat => s.heap.size ≤ x) s.heap H locs) (hl : lv_has ls 4 [(3, .int (nI (6 * k))), (2, .ref b), (1, .ref a), (0, .ref b0)]) (kk : ∀ (N2 : Int) (t1 : Tp) (t2 t3 : Bd) (t4 : Mo) (t5 : Pg) (t6 : Pa) (t7 : Nat → Option Bd) (m2 : Md) (wC2 wM2 : va_W) (H : Heap) (locs : List Loc), c_W q a t1 t2 t3 t4 t5 t6 t7 wC2 → m_W q b m2 wM2 → JJ N2 t1 t2 t3 t4 t5 t6 t7 m2 → va_P D vwCl (wC2 ++ wM2) H → va_D (fun x : Nat => s.heap.size ≤ x) (wC2 ++ wM2) → va_S (fun x : Nat => s.heap.size ≤ x) s.heap H locs → W p l e room_1 s m #[Value.ref b0] below meth c H locs (52 + 15 * (k + 1)) (98998 + 13306 * (k + 1)) (lw_Z below #[Value.ref b0] s) (F0 m 1334 ls [])) : W p l e room_1 s m #[Value.ref b0] below meth c H locs (52 + 15 * k) (98998 + 13306 * k) (lw_Z below #[Value.ref b0] s) (F0 m 208 ls []) := by
  obtain ⟨hx, hb, hr, hml, hown, hts, hX, hbl, hlocks, hgv⟩ := id C0
  have ht : ∀ w ∈ w_all, w.before #[Value.ref b0] s = true := fun w h => hts w (w_tbl h)
  have hA : ∀ x : Nat, s.heap.size ≤ x → (fun x : Nat => s.heap.size ≤ x) x := fun _ h => h
  have hbA : ¬ (fun x : Nat => s.heap.size ≤ x) b0 := Nat.not_le.mpr hbl
  have hown : s.vm.findClass RL = some m.cls := hown
  refine lv_aload_n hx hb dL_law_208 rfl (lv_at hl 2 rfl) ?_
  refine lv_aload_n hx hb dL_law_209 rfl (lv_at hl 3 rfl) ?_
  refine lv_iload_n hx hb dL_law_210 rfl (lv_at hl 0 rfl) ?_
  refine lv_iconst (v := 1) hx hb dL_law_211 (by decide) ?_
  refine lv_iadd hx hb dL_law_212 ?_
  refine ab_i (v := nI (6 * k + 1)) (nI_plus (6 * k) 1) ?_
  refine va_sld hx hb hX hbl hbA hS (lp_in hk hL (by decide)) dL_law_213 ?_
  refine lv_aload_n hx hb dL_law_214 rfl (lv_at hl 3 rfl) ?_
  refine lv_iload_n hx hb dL_law_215 rfl (lv_at hl 0 rfl) ?_
  refine lv_iconst (v := 2) hx hb dL_law_216 (by decide) ?_
  refine lv_iadd hx hb dL_law_217 ?_
  refine ab_i (v := nI (6 * k + 2)) (nI_plus (6 * k) 2) ?_
  refine va_sld hx hb hX hbl hbA hS (lp_in hk hL (by decide)) dL_law_218 ?_
  refine lv_aload_n hx hb dL_law_219 rfl (lv_at hl 3 rfl) ?_
  refine lv_iload_n hx hb dL_law_220 rfl (lv_at hl 0 rfl) ?_
  refine lv_iconst (v := 3) hx hb dL_law_221 (by decide) ?_
  refine lv_iadd hx hb dL_law_222 ?_
  refine ab_i (v := nI (6 * k + 3)) (nI_plus (6 * k) 3) ?_
  refine va_sld hx hb hX hbl hbA hS (lp_in hk hL (by decide)) dL_law_223 ?_
  refine lv_aload_n hx hb dL_law_224 rfl (lv_at hl 3 rfl) ?_
  refine lv_iload_n hx hb dL_law_225 rfl (lv_at hl 0 rfl) ?_
  refine lv_iconst (v := 4) hx hb dL_law_226 (by decide) ?_
  refine lv_iadd hx hb dL_law_227 ?_
  refine ab_i (v := nI (6 * k + 4)) (nI_plus (6 * k) 4) ?_
  refine va_sld hx hb hX hbl hbA hS (lp_in hk hL (by decide)) dL_law_228 ?_
  refine lv_aload_n hx hb dL_law_229 rfl (lv_at hl 3 rfl) ?_
  refine lv_iload_n hx hb dL_law_230 rfl (lv_at hl 0 rfl) ?_
  refine lv_iconst (v := 5) hx hb dL_law_231 (by decide) ?_
  refine lv_iadd hx hb dL_law_232 ?_
  refine ab_i (v := nI (6 * k + 5)) (nI_plus (6 * k) 5) ?_
  refine va_sld hx hb hX hbl hbA hS (lp_in hk hL (by decide)) dL_law_233 ?_
  obtain ⟨r6, r7, M2, s1n, mn, hu, hv, hn⟩ := pl_feed (l := l) (D := D) (x1 := (xs (Int32.toNatClampNeg (nI (6 * k + 1))))) (x2 := (xs (Int32.toNatClampNeg (nI (6 * k + 2))))) (x3 := (xs (Int32.toNatClampNeg (nI (6 * k + 3))))) (x4 := (xs (Int32.toNatClampNeg (nI (6 * k + 4))))) (x5 := (xs (Int32.toNatClampNeg (nI (6 * k + 5))))) hC hM hJ
  refine un_goi (w := wC) (wo := wM) (rest := []) hu (List.Perm.refl _) hx hb hml hown ht wd_X6_feed mw_377 hQ hV hS hA hP hD rfl rfl hl.1 rfl (Nat.le_of_ble_eq_true rfl) dL_law_234 ⟨Nat.le_of_ble_eq_true rfl, Nat.le_of_ble_eq_true rfl, rfl, rfl⟩ (lp_rm (mc := 0) (ms := 0) hk hL (by decide) (by decide)) (fun r_1 wr_1 H locs er_1 hP hD hS => ?_)
  obtain ⟨fr_1, hC⟩ := er_1
  refine lv_pop hx hb dL_law_237 rfl ?_
  refine lv_aload_n hx hb dL_law_238 rfl (lv_at hl 1 rfl) ?_
  refine lv_aload_n hx hb dL_law_239 rfl (lv_at hl 3 rfl) ?_
  refine lv_iload_n hx hb dL_law_240 rfl (lv_at hl 0 rfl) ?_
  refine lv_iconst (v := 1) hx hb dL_law_241 (by decide) ?_
  refine lv_iadd hx hb dL_law_242 ?_
  refine ab_i (v := nI (6 * k + 1)) (nI_plus (6 * k) 1) ?_
  refine va_sld hx hb hX hbl hbA hS (lp_in hk hL (by decide)) dL_law_243 ?_
  refine lv_aload_n hx hb dL_law_244 rfl (lv_at hl 3 rfl) ?_
  refine lv_iload_n hx hb dL_law_245 rfl (lv_at hl 0 rfl) ?_
  refine lv_iconst (v := 2) hx hb dL_law_246 (by decide) ?_
  refine lv_iadd hx hb dL_law_247 ?_
  refine ab_i (v := nI (6 * k + 2)) (nI_plus (6 * k) 2) ?_
  refine va_sld hx hb hX hbl hbA hS (lp_in hk hL (by decide)) dL_law_248 ?_
  refine lv_aload_n hx hb dL_law_249 rfl (lv_at hl 3 rfl) ?_
  refine lv_iload_n hx hb dL_law_250 rfl (lv_at hl 0 rfl) ?_
  refine lv_iconst (v := 3) hx hb dL_law_251 (by decide) ?_
  refine lv_iadd hx hb dL_law_252 ?_
  refine ab_i (v := nI (6 * k + 3)) (nI_plus (6 * k) 3) ?_
  refine va_sld hx hb hX hbl hbA hS (lp_in hk hL (by decide)) dL_law_253 ?_
  refine lv_aload_n hx hb dL_law_254 rfl (lv_at hl 3 rfl) ?_
  refine lv_iload_n hx hb dL_law_255 rfl (lv_at hl 0 rfl) ?_
  refine lv_iconst (v := 4) hx hb dL_law_256 (by decide) ?_
  refine lv_iadd hx hb dL_law_257 ?_
  refine ab_i (v := nI (6 * k + 4)) (nI_plus (6 * k) 4) ?_
  refine va_sld hx hb hX hbl hbA hS (lp_in hk hL (by decide)) dL_law_258 ?_
  refine lv_aload_n hx hb dL_law_259 rfl (lv_at hl 3 rfl) ?_
  refine lv_iload_n hx hb dL_law_260 rfl (lv_at hl 0 rfl) ?_
  refine lv_iconst (v := 5) hx hb dL_law_261 (by decide) ?_
  refine lv_iadd hx hb dL_law_262 ?_
  refine ab_i (v := nI (6 * k + 5)) (nI_plus (6 * k) 5) ?_
  refine va_sld hx hb hX hbl hbA hS (lp_in hk hL (by decide)) dL_law_263 ?_
  refine un_goi (w := wM) (wo := wr_1) (rest := []) hv List.perm_append_comm hx hb hml hown ht wd_X7_feed mw_1546 hQ hV hS hA hP hD rfl rfl hl.1 rfl (Nat.le_of_ble_eq_true rfl) dL_law_264 ⟨Nat.le_of_ble_eq_true rfl, Nat.le_of_ble_eq_true rfl, rfl, rfl⟩ (lp_rm (mc := 0) (ms := 0) hk hL (by decide) (by decide)) (fun r_2 wr_2 H locs er_2 hP hD hS => ?_)
  obtain ⟨fr_2, hM⟩ := er_2
  have hP := vp_perm List.perm_append_comm hP
  have hD := vd_perm List.perm_append_comm hD
  have hJ := hn
  refine lv_pop hx hb dL_law_267 rfl ?_
  refine lv_goto (tgt := 1334) hx hb dL_law_268 (by decide) ?_
  refine W.widen (k := 52 + 15 * (k + 1)) (n := 98998 + 13306 * (k + 1)) (by omega) (by omega) ?_
  exact kk M2 s1n s2 s3 s4 s5 s6 z7 mn wr_1 wr_2 H locs hC hM hJ hP hD hS

set_option maxHeartbeats 4000000 in
set_option maxRecDepth 100000 in
/-- end -/
theorem lc_1 {p : Program} {e : Env} {s : State} {m : MethodId} {below : List Frame} {meth : Method} {c : Code} {l : Launch} {b0 L : Nat} {xs : Nat → Int32} (C0 : lw_At p s m meth c b0 L xs) (hL : L ≤ 3072) {k : Nat} (hk : 6 * k + 6 ≤ L) {D : va_G} {q : Nat → ClassId} (hQ : kn D q s) (hV : sv q (fun x : Nat => s.heap.size ≤ x) s s.heap) {a b : Nat} {N : Int} {s1 : Tp} {s2 s3 : Bd} {s4 : Mo} {s5 : Pg} {s6 : Pa} {z7 : Nat → Option Bd} {md : Md} {wC wM : va_W} (hC : c_W q a s1 s2 s3 s4 s5 s6 z7 wC) (hM : m_W q b md wM) (hJ : JJ N s1 s2 s3 s4 s5 s6 z7 md) {H : Heap} {locs : List Loc} {ls : Array Slot} (hP : va_P D vwCl (wC ++ wM) H) (hD : va_D (fun x : Nat => s.heap.size ≤ x) (wC ++ wM)) (hS : va_S (fun x : Nat => s.heap.size ≤ x) s.heap H locs) (hl : lv_has ls 4 [(3, .int (nI (6 * k))), (2, .ref b), (1, .ref a), (0, .ref b0)]) (kk : ∀ (N2 : Int) (t1 : Tp) (t2 t3 : Bd) (t4 : Mo) (t5 : Pg) (t6 : Pa) (t7 : Nat → Option Bd) (m2 : Md) (wC2 wM2 : va_W) (H : Heap) (locs : List Loc), c_W q a t1 t2 t3 t4 t5 t6 t7 wC2 → m_W q b m2 wM2 → JJ N2 t1 t2 t3 t4 t5 t6 t7 m2 → va_P D vwCl (wC2 ++ wM2) H → va_D (fun x : Nat => s.heap.size ≤ x) (wC2 ++ wM2) → va_S (fun x : Nat => s.heap.size ≤ x) s.heap H locs → W p l e room_1 s m #[Value.ref b0] below meth c H locs (52 + 15 * (k + 1)) (98998 + 13306 * (k + 1)) (lw_Z below #[Value.ref b0] s) (F0 m 1334 ls [])) : W p l e room_1 s m #[Value.ref b0] below meth c H locs (52 + 15 * k) (98998 + 13306 * k) (lw_Z below #[Value.ref b0] s) (F0 m 271 ls []) := by
  obtain ⟨hx, hb, hr, hml, hown, hts, hX, hbl, hlocks, hgv⟩ := id C0
  have ht : ∀ w ∈ w_all, w.before #[Value.ref b0] s = true := fun w h => hts w (w_tbl h)
  have hA : ∀ x : Nat, s.heap.size ≤ x → (fun x : Nat => s.heap.size ≤ x) x := fun _ h => h
  have hbA : ¬ (fun x : Nat => s.heap.size ≤ x) b0 := Nat.not_le.mpr hbl
  have hown : s.vm.findClass RL = some m.cls := hown
  refine lv_aload_n hx hb dL_law_271 rfl (lv_at hl 2 rfl) ?_
  refine lv_aload_n hx hb dL_law_272 rfl (lv_at hl 3 rfl) ?_
  refine lv_iload_n hx hb dL_law_273 rfl (lv_at hl 0 rfl) ?_
  refine lv_iconst (v := 1) hx hb dL_law_274 (by decide) ?_
  refine lv_iadd hx hb dL_law_275 ?_
  refine ab_i (v := nI (6 * k + 1)) (nI_plus (6 * k) 1) ?_
  refine va_sld hx hb hX hbl hbA hS (lp_in hk hL (by decide)) dL_law_276 ?_
  obtain ⟨r6, r7, M2, s1n, mn, hu, hv, hn⟩ := pl_end (l := l) (D := D) (x1 := (xs (Int32.toNatClampNeg (nI (6 * k + 1))))) hC hM hJ
  refine un_goi (w := wC) (wo := wM) (rest := []) hu (List.Perm.refl _) hx hb hml hown ht wd_X6_end mw_385 hQ hV hS hA hP hD rfl rfl hl.1 rfl (Nat.le_of_ble_eq_true rfl) dL_law_277 ⟨Nat.le_of_ble_eq_true rfl, Nat.le_of_ble_eq_true rfl, rfl, rfl⟩ (lp_rm (mc := 0) (ms := 0) hk hL (by decide) (by decide)) (fun r_1 wr_1 H locs er_1 hP hD hS => ?_)
  obtain ⟨fr_1, hC⟩ := er_1
  refine lv_pop hx hb dL_law_280 rfl ?_
  refine lv_aload_n hx hb dL_law_281 rfl (lv_at hl 1 rfl) ?_
  refine lv_aload_n hx hb dL_law_282 rfl (lv_at hl 3 rfl) ?_
  refine lv_iload_n hx hb dL_law_283 rfl (lv_at hl 0 rfl) ?_
  refine lv_iconst (v := 1) hx hb dL_law_284 (by decide) ?_
  refine lv_iadd hx hb dL_law_285 ?_
  refine ab_i (v := nI (6 * k + 1)) (nI_plus (6 * k) 1) ?_
  refine va_sld hx hb hX hbl hbA hS (lp_in hk hL (by decide)) dL_law_286 ?_
  refine un_goi (w := wM) (wo := wr_1) (rest := []) hv List.perm_append_comm hx hb hml hown ht wd_X7_end mw_1554 hQ hV hS hA hP hD rfl rfl hl.1 rfl (Nat.le_of_ble_eq_true rfl) dL_law_287 ⟨Nat.le_of_ble_eq_true rfl, Nat.le_of_ble_eq_true rfl, rfl, rfl⟩ (lp_rm (mc := 0) (ms := 0) hk hL (by decide) (by decide)) (fun r_2 wr_2 H locs er_2 hP hD hS => ?_)
  obtain ⟨fr_2, hM⟩ := er_2
  have hP := vp_perm List.perm_append_comm hP
  have hD := vd_perm List.perm_append_comm hD
  have hJ := hn
  refine lv_pop hx hb dL_law_290 rfl ?_
  refine lv_goto (tgt := 1334) hx hb dL_law_291 (by decide) ?_
  refine W.widen (k := 52 + 15 * (k + 1)) (n := 98998 + 13306 * (k + 1)) (by omega) (by omega) ?_
  exact kk M2 s1n s2 s3 s4 s5 s6 z7 mn wr_1 wr_2 H locs hC hM hJ hP hD hS

set_option maxHeartbeats 4000000 in
set_option maxRecDepth 100000 in
/-- tell -/
theorem lc_2 {p : Program} {e : Env} {s : State} {m : MethodId} {below : List Frame} {meth : Method} {c : Code} {l : Launch} {b0 L : Nat} {xs : Nat → Int32} (C0 : lw_At p s m meth c b0 L xs) (hL : L ≤ 3072) {k : Nat} (hk : 6 * k + 6 ≤ L) {D : va_G} {q : Nat → ClassId} (hQ : kn D q s) (hV : sv q (fun x : Nat => s.heap.size ≤ x) s s.heap) {a b : Nat} {N : Int} {s1 : Tp} {s2 s3 : Bd} {s4 : Mo} {s5 : Pg} {s6 : Pa} {z7 : Nat → Option Bd} {md : Md} {wC wM : va_W} (hC : c_W q a s1 s2 s3 s4 s5 s6 z7 wC) (hM : m_W q b md wM) (hJ : JJ N s1 s2 s3 s4 s5 s6 z7 md) {H : Heap} {locs : List Loc} {ls : Array Slot} (hP : va_P D vwCl (wC ++ wM) H) (hD : va_D (fun x : Nat => s.heap.size ≤ x) (wC ++ wM)) (hS : va_S (fun x : Nat => s.heap.size ≤ x) s.heap H locs) (hl : lv_has ls 4 [(3, .int (nI (6 * k))), (2, .ref b), (1, .ref a), (0, .ref b0)]) (kk : ∀ (N2 : Int) (t1 : Tp) (t2 t3 : Bd) (t4 : Mo) (t5 : Pg) (t6 : Pa) (t7 : Nat → Option Bd) (m2 : Md) (wC2 wM2 : va_W) (H : Heap) (locs : List Loc), c_W q a t1 t2 t3 t4 t5 t6 t7 wC2 → m_W q b m2 wM2 → JJ N2 t1 t2 t3 t4 t5 t6 t7 m2 → va_P D vwCl (wC2 ++ wM2) H → va_D (fun x : Nat => s.heap.size ≤ x) (wC2 ++ wM2) → va_S (fun x : Nat => s.heap.size ≤ x) s.heap H locs → W p l e room_1 s m #[Value.ref b0] below meth c H locs (52 + 15 * (k + 1)) (98998 + 13306 * (k + 1)) (lw_Z below #[Value.ref b0] s) (F0 m 1334 ls [])) : W p l e room_1 s m #[Value.ref b0] below meth c H locs (52 + 15 * k) (98998 + 13306 * k) (lw_Z below #[Value.ref b0] s) (F0 m 294 ls []) := by
  obtain ⟨hx, hb, hr, hml, hown, hts, hX, hbl, hlocks, hgv⟩ := id C0
  have ht : ∀ w ∈ w_all, w.before #[Value.ref b0] s = true := fun w h => hts w (w_tbl h)
  have hA : ∀ x : Nat, s.heap.size ≤ x → (fun x : Nat => s.heap.size ≤ x) x := fun _ h => h
  have hbA : ¬ (fun x : Nat => s.heap.size ≤ x) b0 := Nat.not_le.mpr hbl
  have hown : s.vm.findClass RL = some m.cls := hown
  refine lv_aload_n hx hb dL_law_294 rfl (lv_at hl 2 rfl) ?_
  obtain ⟨r6, r7, M2, s1n, s2n, s3n, s6n, mn, hu, hv, hn⟩ := pl_tell (l := l) (D := D)  hC hM hJ
  refine un_goi (w := wC) (wo := wM) (rest := []) hu (List.Perm.refl _) hx hb hml hown ht wd_X6_tell mw_389 hQ hV hS hA hP hD rfl rfl hl.1 rfl (Nat.le_of_ble_eq_true rfl) dL_law_295 ⟨Nat.le_of_ble_eq_true rfl, Nat.le_of_ble_eq_true rfl, rfl, rfl⟩ (lp_rm (mc := 1) (ms := 6400) hk hL (by decide) (by decide)) (fun r_1 wr_1 H locs er_1 hP hD hS => ?_)
  obtain ⟨fr_1, hC⟩ := er_1
  refine lv_pop hx hb dL_law_298 rfl ?_
  refine lv_aload_n hx hb dL_law_299 rfl (lv_at hl 1 rfl) ?_
  refine un_goi (w := wM) (wo := wr_1) (rest := []) hv List.perm_append_comm hx hb hml hown ht wd_X7_tell mw_1558 hQ hV hS hA hP hD rfl rfl hl.1 rfl (Nat.le_of_ble_eq_true rfl) dL_law_300 ⟨Nat.le_of_ble_eq_true rfl, Nat.le_of_ble_eq_true rfl, rfl, rfl⟩ (lp_rm (mc := 1) (ms := 6400) hk hL (by decide) (by decide)) (fun r_2 wr_2 H locs er_2 hP hD hS => ?_)
  obtain ⟨fr_2, hM⟩ := er_2
  have hP := vp_perm List.perm_append_comm hP
  have hD := vd_perm List.perm_append_comm hD
  have hJ := hn.2
  refine lv_pop hx hb dL_law_303 rfl ?_
  refine lv_goto (tgt := 1334) hx hb dL_law_304 (by decide) ?_
  refine W.widen (k := 52 + 15 * (k + 1)) (n := 98998 + 13306 * (k + 1)) (by omega) (by omega) ?_
  exact kk M2 s1n s2n s3n s4 s5 s6n z7 mn wr_1 wr_2 H locs hC hM hJ hP hD hS

set_option maxHeartbeats 4000000 in
set_option maxRecDepth 100000 in
/-- row -/
theorem lc_3 {p : Program} {e : Env} {s : State} {m : MethodId} {below : List Frame} {meth : Method} {c : Code} {l : Launch} {b0 L : Nat} {xs : Nat → Int32} (C0 : lw_At p s m meth c b0 L xs) (hL : L ≤ 3072) {k : Nat} (hk : 6 * k + 6 ≤ L) {D : va_G} {q : Nat → ClassId} (hQ : kn D q s) (hV : sv q (fun x : Nat => s.heap.size ≤ x) s s.heap) {a b : Nat} {N : Int} {s1 : Tp} {s2 s3 : Bd} {s4 : Mo} {s5 : Pg} {s6 : Pa} {z7 : Nat → Option Bd} {md : Md} {wC wM : va_W} (hC : c_W q a s1 s2 s3 s4 s5 s6 z7 wC) (hM : m_W q b md wM) (hJ : JJ N s1 s2 s3 s4 s5 s6 z7 md) {H : Heap} {locs : List Loc} {ls : Array Slot} (hP : va_P D vwCl (wC ++ wM) H) (hD : va_D (fun x : Nat => s.heap.size ≤ x) (wC ++ wM)) (hS : va_S (fun x : Nat => s.heap.size ≤ x) s.heap H locs) (hl : lv_has ls 4 [(3, .int (nI (6 * k))), (2, .ref b), (1, .ref a), (0, .ref b0)]) (kk : ∀ (N2 : Int) (t1 : Tp) (t2 t3 : Bd) (t4 : Mo) (t5 : Pg) (t6 : Pa) (t7 : Nat → Option Bd) (m2 : Md) (wC2 wM2 : va_W) (H : Heap) (locs : List Loc), c_W q a t1 t2 t3 t4 t5 t6 t7 wC2 → m_W q b m2 wM2 → JJ N2 t1 t2 t3 t4 t5 t6 t7 m2 → va_P D vwCl (wC2 ++ wM2) H → va_D (fun x : Nat => s.heap.size ≤ x) (wC2 ++ wM2) → va_S (fun x : Nat => s.heap.size ≤ x) s.heap H locs → W p l e room_1 s m #[Value.ref b0] below meth c H locs (52 + 15 * (k + 1)) (98998 + 13306 * (k + 1)) (lw_Z below #[Value.ref b0] s) (F0 m 1334 ls [])) : W p l e room_1 s m #[Value.ref b0] below meth c H locs (52 + 15 * k) (98998 + 13306 * k) (lw_Z below #[Value.ref b0] s) (F0 m 307 ls []) := by
  obtain ⟨hx, hb, hr, hml, hown, hts, hX, hbl, hlocks, hgv⟩ := id C0
  have ht : ∀ w ∈ w_all, w.before #[Value.ref b0] s = true := fun w h => hts w (w_tbl h)
  have hA : ∀ x : Nat, s.heap.size ≤ x → (fun x : Nat => s.heap.size ≤ x) x := fun _ h => h
  have hbA : ¬ (fun x : Nat => s.heap.size ≤ x) b0 := Nat.not_le.mpr hbl
  have hown : s.vm.findClass RL = some m.cls := hown
  refine lv_aload_n hx hb dL_law_307 rfl (lv_at hl 2 rfl) ?_
  refine lv_aload_n hx hb dL_law_308 rfl (lv_at hl 3 rfl) ?_
  refine lv_iload_n hx hb dL_law_309 rfl (lv_at hl 0 rfl) ?_
  refine lv_iconst (v := 1) hx hb dL_law_310 (by decide) ?_
  refine lv_iadd hx hb dL_law_311 ?_
  refine ab_i (v := nI (6 * k + 1)) (nI_plus (6 * k) 1) ?_
  refine va_sld hx hb hX hbl hbA hS (lp_in hk hL (by decide)) dL_law_312 ?_
  obtain ⟨r6, r7, M2, s1n, s2n, s6n, mn, hu, hv, hn⟩ := pl_row (l := l) (D := D) (x1 := (xs (Int32.toNatClampNeg (nI (6 * k + 1))))) hC hM hJ
  refine un_goi (w := wC) (wo := wM) (rest := []) hu (List.Perm.refl _) hx hb hml hown ht wd_X6_row mw_613 hQ hV hS hA hP hD rfl rfl hl.1 rfl (Nat.le_of_ble_eq_true rfl) dL_law_313 ⟨Nat.le_of_ble_eq_true rfl, Nat.le_of_ble_eq_true rfl, rfl, rfl⟩ (lp_rm (mc := 14) (ms := 6906) hk hL (by decide) (by decide)) (fun r_1 wr_1 H locs er_1 hP hD hS => ?_)
  obtain ⟨fr_1, hC⟩ := er_1
  refine lv_pop hx hb dL_law_316 rfl ?_
  refine lv_aload_n hx hb dL_law_317 rfl (lv_at hl 1 rfl) ?_
  refine lv_aload_n hx hb dL_law_318 rfl (lv_at hl 3 rfl) ?_
  refine lv_iload_n hx hb dL_law_319 rfl (lv_at hl 0 rfl) ?_
  refine lv_iconst (v := 1) hx hb dL_law_320 (by decide) ?_
  refine lv_iadd hx hb dL_law_321 ?_
  refine ab_i (v := nI (6 * k + 1)) (nI_plus (6 * k) 1) ?_
  refine va_sld hx hb hX hbl hbA hS (lp_in hk hL (by decide)) dL_law_322 ?_
  refine un_goi (w := wM) (wo := wr_1) (rest := []) hv List.perm_append_comm hx hb hml hown ht wd_X7_row mw_1201 hQ hV hS hA hP hD rfl rfl hl.1 rfl (Nat.le_of_ble_eq_true rfl) dL_law_323 ⟨Nat.le_of_ble_eq_true rfl, Nat.le_of_ble_eq_true rfl, rfl, rfl⟩ (lp_rm (mc := 14) (ms := 6906) hk hL (by decide) (by decide)) (fun r_2 wr_2 H locs er_2 hP hD hS => ?_)
  obtain ⟨fr_2, hM⟩ := er_2
  have hP := vp_perm List.perm_append_comm hP
  have hD := vd_perm List.perm_append_comm hD
  have hJ := hn
  refine lv_pop hx hb dL_law_326 rfl ?_
  refine lv_goto (tgt := 1334) hx hb dL_law_327 (by decide) ?_
  refine W.widen (k := 52 + 15 * (k + 1)) (n := 98998 + 13306 * (k + 1)) (by omega) (by omega) ?_
  exact kk M2 s1n s2n s3 s4 s5 s6n z7 mn wr_1 wr_2 H locs hC hM hJ hP hD hS

set_option maxHeartbeats 4000000 in
set_option maxRecDepth 100000 in
/-- scroll -/
theorem lc_4 {p : Program} {e : Env} {s : State} {m : MethodId} {below : List Frame} {meth : Method} {c : Code} {l : Launch} {b0 L : Nat} {xs : Nat → Int32} (C0 : lw_At p s m meth c b0 L xs) (hL : L ≤ 3072) {k : Nat} (hk : 6 * k + 6 ≤ L) {D : va_G} {q : Nat → ClassId} (hQ : kn D q s) (hV : sv q (fun x : Nat => s.heap.size ≤ x) s s.heap) {a b : Nat} {N : Int} {s1 : Tp} {s2 s3 : Bd} {s4 : Mo} {s5 : Pg} {s6 : Pa} {z7 : Nat → Option Bd} {md : Md} {wC wM : va_W} (hC : c_W q a s1 s2 s3 s4 s5 s6 z7 wC) (hM : m_W q b md wM) (hJ : JJ N s1 s2 s3 s4 s5 s6 z7 md) {H : Heap} {locs : List Loc} {ls : Array Slot} (hP : va_P D vwCl (wC ++ wM) H) (hD : va_D (fun x : Nat => s.heap.size ≤ x) (wC ++ wM)) (hS : va_S (fun x : Nat => s.heap.size ≤ x) s.heap H locs) (hl : lv_has ls 4 [(3, .int (nI (6 * k))), (2, .ref b), (1, .ref a), (0, .ref b0)]) (kk : ∀ (N2 : Int) (t1 : Tp) (t2 t3 : Bd) (t4 : Mo) (t5 : Pg) (t6 : Pa) (t7 : Nat → Option Bd) (m2 : Md) (wC2 wM2 : va_W) (H : Heap) (locs : List Loc), c_W q a t1 t2 t3 t4 t5 t6 t7 wC2 → m_W q b m2 wM2 → JJ N2 t1 t2 t3 t4 t5 t6 t7 m2 → va_P D vwCl (wC2 ++ wM2) H → va_D (fun x : Nat => s.heap.size ≤ x) (wC2 ++ wM2) → va_S (fun x : Nat => s.heap.size ≤ x) s.heap H locs → W p l e room_1 s m #[Value.ref b0] below meth c H locs (52 + 15 * (k + 1)) (98998 + 13306 * (k + 1)) (lw_Z below #[Value.ref b0] s) (F0 m 1334 ls [])) : W p l e room_1 s m #[Value.ref b0] below meth c H locs (52 + 15 * k) (98998 + 13306 * k) (lw_Z below #[Value.ref b0] s) (F0 m 330 ls []) := by
  obtain ⟨hx, hb, hr, hml, hown, hts, hX, hbl, hlocks, hgv⟩ := id C0
  have ht : ∀ w ∈ w_all, w.before #[Value.ref b0] s = true := fun w h => hts w (w_tbl h)
  have hA : ∀ x : Nat, s.heap.size ≤ x → (fun x : Nat => s.heap.size ≤ x) x := fun _ h => h
  have hbA : ¬ (fun x : Nat => s.heap.size ≤ x) b0 := Nat.not_le.mpr hbl
  have hown : s.vm.findClass RL = some m.cls := hown
  refine lv_aload_n hx hb dL_law_330 rfl (lv_at hl 2 rfl) ?_
  obtain ⟨r6, r7, M2, s1n, s2n, s6n, mn, hu, hv, hn⟩ := pl_scroll (l := l) (D := D)  hC hM hJ
  refine un_goi (w := wC) (wo := wM) (rest := []) hu (List.Perm.refl _) hx hb hml hown ht wd_X6_scroll mw_652 hQ hV hS hA hP hD rfl rfl hl.1 rfl (Nat.le_of_ble_eq_true rfl) dL_law_331 ⟨Nat.le_of_ble_eq_true rfl, Nat.le_of_ble_eq_true rfl, rfl, rfl⟩ (lp_rm (mc := 14) (ms := 6906) hk hL (by decide) (by decide)) (fun r_1 wr_1 H locs er_1 hP hD hS => ?_)
  obtain ⟨fr_1, hC⟩ := er_1
  refine lv_pop hx hb dL_law_334 rfl ?_
  refine lv_aload_n hx hb dL_law_335 rfl (lv_at hl 1 rfl) ?_
  refine un_goi (w := wM) (wo := wr_1) (rest := []) hv List.perm_append_comm hx hb hml hown ht wd_X7_scroll mw_1279 hQ hV hS hA hP hD rfl rfl hl.1 rfl (Nat.le_of_ble_eq_true rfl) dL_law_336 ⟨Nat.le_of_ble_eq_true rfl, Nat.le_of_ble_eq_true rfl, rfl, rfl⟩ (lp_rm (mc := 14) (ms := 6906) hk hL (by decide) (by decide)) (fun r_2 wr_2 H locs er_2 hP hD hS => ?_)
  obtain ⟨fr_2, hM⟩ := er_2
  have hP := vp_perm List.perm_append_comm hP
  have hD := vd_perm List.perm_append_comm hD
  have hJ := hn
  refine lv_pop hx hb dL_law_339 rfl ?_
  refine lv_goto (tgt := 1334) hx hb dL_law_340 (by decide) ?_
  refine W.widen (k := 52 + 15 * (k + 1)) (n := 98998 + 13306 * (k + 1)) (by omega) (by omega) ?_
  exact kk M2 s1n s2n s3 s4 s5 s6n z7 mn wr_1 wr_2 H locs hC hM hJ hP hD hS

set_option maxHeartbeats 4000000 in
set_option maxRecDepth 100000 in
/-- tick -/
theorem lc_5 {p : Program} {e : Env} {s : State} {m : MethodId} {below : List Frame} {meth : Method} {c : Code} {l : Launch} {b0 L : Nat} {xs : Nat → Int32} (C0 : lw_At p s m meth c b0 L xs) (hL : L ≤ 3072) {k : Nat} (hk : 6 * k + 6 ≤ L) {D : va_G} {q : Nat → ClassId} (hQ : kn D q s) (hV : sv q (fun x : Nat => s.heap.size ≤ x) s s.heap) {a b : Nat} {N : Int} {s1 : Tp} {s2 s3 : Bd} {s4 : Mo} {s5 : Pg} {s6 : Pa} {z7 : Nat → Option Bd} {md : Md} {wC wM : va_W} (hC : c_W q a s1 s2 s3 s4 s5 s6 z7 wC) (hM : m_W q b md wM) (hJ : JJ N s1 s2 s3 s4 s5 s6 z7 md) {H : Heap} {locs : List Loc} {ls : Array Slot} (hP : va_P D vwCl (wC ++ wM) H) (hD : va_D (fun x : Nat => s.heap.size ≤ x) (wC ++ wM)) (hS : va_S (fun x : Nat => s.heap.size ≤ x) s.heap H locs) (hl : lv_has ls 4 [(3, .int (nI (6 * k))), (2, .ref b), (1, .ref a), (0, .ref b0)]) (kk : ∀ (N2 : Int) (t1 : Tp) (t2 t3 : Bd) (t4 : Mo) (t5 : Pg) (t6 : Pa) (t7 : Nat → Option Bd) (m2 : Md) (wC2 wM2 : va_W) (H : Heap) (locs : List Loc), c_W q a t1 t2 t3 t4 t5 t6 t7 wC2 → m_W q b m2 wM2 → JJ N2 t1 t2 t3 t4 t5 t6 t7 m2 → va_P D vwCl (wC2 ++ wM2) H → va_D (fun x : Nat => s.heap.size ≤ x) (wC2 ++ wM2) → va_S (fun x : Nat => s.heap.size ≤ x) s.heap H locs → W p l e room_1 s m #[Value.ref b0] below meth c H locs (52 + 15 * (k + 1)) (98998 + 13306 * (k + 1)) (lw_Z below #[Value.ref b0] s) (F0 m 1334 ls [])) : W p l e room_1 s m #[Value.ref b0] below meth c H locs (52 + 15 * k) (98998 + 13306 * k) (lw_Z below #[Value.ref b0] s) (F0 m 343 ls []) := by
  obtain ⟨hx, hb, hr, hml, hown, hts, hX, hbl, hlocks, hgv⟩ := id C0
  have ht : ∀ w ∈ w_all, w.before #[Value.ref b0] s = true := fun w h => hts w (w_tbl h)
  have hA : ∀ x : Nat, s.heap.size ≤ x → (fun x : Nat => s.heap.size ≤ x) x := fun _ h => h
  have hbA : ¬ (fun x : Nat => s.heap.size ≤ x) b0 := Nat.not_le.mpr hbl
  have hown : s.vm.findClass RL = some m.cls := hown
  refine lv_aload_n hx hb dL_law_343 rfl (lv_at hl 2 rfl) ?_
  refine lv_aload_n hx hb dL_law_344 rfl (lv_at hl 3 rfl) ?_
  refine lv_iload_n hx hb dL_law_345 rfl (lv_at hl 0 rfl) ?_
  refine lv_iconst (v := 1) hx hb dL_law_346 (by decide) ?_
  refine lv_iadd hx hb dL_law_347 ?_
  refine ab_i (v := nI (6 * k + 1)) (nI_plus (6 * k) 1) ?_
  refine va_sld hx hb hX hbl hbA hS (lp_in hk hL (by decide)) dL_law_348 ?_
  obtain ⟨r6, r7, M2, s2n, s4n, s6n, mn, hu, hv, hn⟩ := pl_tick (l := l) (D := D) (x1 := (xs (Int32.toNatClampNeg (nI (6 * k + 1))))) hC hM hJ
  refine un_goi (w := wC) (wo := wM) (rest := []) hu (List.Perm.refl _) hx hb hml hown ht wd_X6_tick mw_673 hQ hV hS hA hP hD rfl rfl hl.1 rfl (Nat.le_of_ble_eq_true rfl) dL_law_349 ⟨Nat.le_of_ble_eq_true rfl, Nat.le_of_ble_eq_true rfl, rfl, rfl⟩ (lp_rm (mc := 14) (ms := 6906) hk hL (by decide) (by decide)) (fun r_1 wr_1 H locs er_1 hP hD hS => ?_)
  obtain ⟨fr_1, hC⟩ := er_1
  refine lv_pop hx hb dL_law_352 rfl ?_
  refine lv_aload_n hx hb dL_law_353 rfl (lv_at hl 1 rfl) ?_
  refine lv_aload_n hx hb dL_law_354 rfl (lv_at hl 3 rfl) ?_
  refine lv_iload_n hx hb dL_law_355 rfl (lv_at hl 0 rfl) ?_
  refine lv_iconst (v := 1) hx hb dL_law_356 (by decide) ?_
  refine lv_iadd hx hb dL_law_357 ?_
  refine ab_i (v := nI (6 * k + 1)) (nI_plus (6 * k) 1) ?_
  refine va_sld hx hb hX hbl hbA hS (lp_in hk hL (by decide)) dL_law_358 ?_
  refine un_goi (w := wM) (wo := wr_1) (rest := []) hv List.perm_append_comm hx hb hml hown ht wd_X7_tick mw_1299 hQ hV hS hA hP hD rfl rfl hl.1 rfl (Nat.le_of_ble_eq_true rfl) dL_law_359 ⟨Nat.le_of_ble_eq_true rfl, Nat.le_of_ble_eq_true rfl, rfl, rfl⟩ (lp_rm (mc := 14) (ms := 6906) hk hL (by decide) (by decide)) (fun r_2 wr_2 H locs er_2 hP hD hS => ?_)
  obtain ⟨fr_2, hM⟩ := er_2
  have hP := vp_perm List.perm_append_comm hP
  have hD := vd_perm List.perm_append_comm hD
  have hJ := hn
  refine lv_pop hx hb dL_law_362 rfl ?_
  refine lv_goto (tgt := 1334) hx hb dL_law_363 (by decide) ?_
  refine W.widen (k := 52 + 15 * (k + 1)) (n := 98998 + 13306 * (k + 1)) (by omega) (by omega) ?_
  exact kk M2 s1 s2n s3 s4n s5 s6n z7 mn wr_1 wr_2 H locs hC hM hJ hP hD hS

set_option maxHeartbeats 4000000 in
set_option maxRecDepth 100000 in
/-- settle -/
theorem lc_6 {p : Program} {e : Env} {s : State} {m : MethodId} {below : List Frame} {meth : Method} {c : Code} {l : Launch} {b0 L : Nat} {xs : Nat → Int32} (C0 : lw_At p s m meth c b0 L xs) (hL : L ≤ 3072) {k : Nat} (hk : 6 * k + 6 ≤ L) {D : va_G} {q : Nat → ClassId} (hQ : kn D q s) (hV : sv q (fun x : Nat => s.heap.size ≤ x) s s.heap) {a b : Nat} {N : Int} {s1 : Tp} {s2 s3 : Bd} {s4 : Mo} {s5 : Pg} {s6 : Pa} {z7 : Nat → Option Bd} {md : Md} {wC wM : va_W} (hC : c_W q a s1 s2 s3 s4 s5 s6 z7 wC) (hM : m_W q b md wM) (hJ : JJ N s1 s2 s3 s4 s5 s6 z7 md) {H : Heap} {locs : List Loc} {ls : Array Slot} (hP : va_P D vwCl (wC ++ wM) H) (hD : va_D (fun x : Nat => s.heap.size ≤ x) (wC ++ wM)) (hS : va_S (fun x : Nat => s.heap.size ≤ x) s.heap H locs) (hl : lv_has ls 4 [(3, .int (nI (6 * k))), (2, .ref b), (1, .ref a), (0, .ref b0)]) (kk : ∀ (N2 : Int) (t1 : Tp) (t2 t3 : Bd) (t4 : Mo) (t5 : Pg) (t6 : Pa) (t7 : Nat → Option Bd) (m2 : Md) (wC2 wM2 : va_W) (H : Heap) (locs : List Loc), c_W q a t1 t2 t3 t4 t5 t6 t7 wC2 → m_W q b m2 wM2 → JJ N2 t1 t2 t3 t4 t5 t6 t7 m2 → va_P D vwCl (wC2 ++ wM2) H → va_D (fun x : Nat => s.heap.size ≤ x) (wC2 ++ wM2) → va_S (fun x : Nat => s.heap.size ≤ x) s.heap H locs → W p l e room_1 s m #[Value.ref b0] below meth c H locs (52 + 15 * (k + 1)) (98998 + 13306 * (k + 1)) (lw_Z below #[Value.ref b0] s) (F0 m 1334 ls [])) : W p l e room_1 s m #[Value.ref b0] below meth c H locs (52 + 15 * k) (98998 + 13306 * k) (lw_Z below #[Value.ref b0] s) (F0 m 366 ls []) := by
  obtain ⟨hx, hb, hr, hml, hown, hts, hX, hbl, hlocks, hgv⟩ := id C0
  have ht : ∀ w ∈ w_all, w.before #[Value.ref b0] s = true := fun w h => hts w (w_tbl h)
  have hA : ∀ x : Nat, s.heap.size ≤ x → (fun x : Nat => s.heap.size ≤ x) x := fun _ h => h
  have hbA : ¬ (fun x : Nat => s.heap.size ≤ x) b0 := Nat.not_le.mpr hbl
  have hown : s.vm.findClass RL = some m.cls := hown
  refine lv_aload_n hx hb dL_law_366 rfl (lv_at hl 2 rfl) ?_
  obtain ⟨r6, r7, M2, s2n, s4n, s6n, mn, hu, hv, hn⟩ := pl_settle (l := l) (D := D)  hC hM hJ
  refine un_goi (w := wC) (wo := wM) (rest := []) hu (List.Perm.refl _) hx hb hml hown ht wd_X6_settle mw_721 hQ hV hS hA hP hD rfl rfl hl.1 rfl (Nat.le_of_ble_eq_true rfl) dL_law_367 ⟨Nat.le_of_ble_eq_true rfl, Nat.le_of_ble_eq_true rfl, rfl, rfl⟩ (lp_rm (mc := 14) (ms := 6906) hk hL (by decide) (by decide)) (fun r_1 wr_1 H locs er_1 hP hD hS => ?_)
  obtain ⟨fr_1, hC⟩ := er_1
  refine lv_pop hx hb dL_law_370 rfl ?_
  refine lv_aload_n hx hb dL_law_371 rfl (lv_at hl 1 rfl) ?_
  refine un_goi (w := wM) (wo := wr_1) (rest := []) hv List.perm_append_comm hx hb hml hown ht wd_X7_settle mw_1328 hQ hV hS hA hP hD rfl rfl hl.1 rfl (Nat.le_of_ble_eq_true rfl) dL_law_372 ⟨Nat.le_of_ble_eq_true rfl, Nat.le_of_ble_eq_true rfl, rfl, rfl⟩ (lp_rm (mc := 14) (ms := 6906) hk hL (by decide) (by decide)) (fun r_2 wr_2 H locs er_2 hP hD hS => ?_)
  obtain ⟨fr_2, hM⟩ := er_2
  have hP := vp_perm List.perm_append_comm hP
  have hD := vd_perm List.perm_append_comm hD
  have hJ := hn
  refine lv_pop hx hb dL_law_375 rfl ?_
  refine lv_goto (tgt := 1334) hx hb dL_law_376 (by decide) ?_
  refine W.widen (k := 52 + 15 * (k + 1)) (n := 98998 + 13306 * (k + 1)) (by omega) (by omega) ?_
  exact kk M2 s1 s2n s3 s4n s5 s6n z7 mn wr_1 wr_2 H locs hC hM hJ hP hD hS

set_option maxHeartbeats 4000000 in
set_option maxRecDepth 100000 in
/-- lose -/
theorem lc_7 {p : Program} {e : Env} {s : State} {m : MethodId} {below : List Frame} {meth : Method} {c : Code} {l : Launch} {b0 L : Nat} {xs : Nat → Int32} (C0 : lw_At p s m meth c b0 L xs) (hL : L ≤ 3072) {k : Nat} (hk : 6 * k + 6 ≤ L) {D : va_G} {q : Nat → ClassId} (hQ : kn D q s) (hV : sv q (fun x : Nat => s.heap.size ≤ x) s s.heap) {a b : Nat} {N : Int} {s1 : Tp} {s2 s3 : Bd} {s4 : Mo} {s5 : Pg} {s6 : Pa} {z7 : Nat → Option Bd} {md : Md} {wC wM : va_W} (hC : c_W q a s1 s2 s3 s4 s5 s6 z7 wC) (hM : m_W q b md wM) (hJ : JJ N s1 s2 s3 s4 s5 s6 z7 md) {H : Heap} {locs : List Loc} {ls : Array Slot} (hP : va_P D vwCl (wC ++ wM) H) (hD : va_D (fun x : Nat => s.heap.size ≤ x) (wC ++ wM)) (hS : va_S (fun x : Nat => s.heap.size ≤ x) s.heap H locs) (hl : lv_has ls 4 [(3, .int (nI (6 * k))), (2, .ref b), (1, .ref a), (0, .ref b0)]) (kk : ∀ (N2 : Int) (t1 : Tp) (t2 t3 : Bd) (t4 : Mo) (t5 : Pg) (t6 : Pa) (t7 : Nat → Option Bd) (m2 : Md) (wC2 wM2 : va_W) (H : Heap) (locs : List Loc), c_W q a t1 t2 t3 t4 t5 t6 t7 wC2 → m_W q b m2 wM2 → JJ N2 t1 t2 t3 t4 t5 t6 t7 m2 → va_P D vwCl (wC2 ++ wM2) H → va_D (fun x : Nat => s.heap.size ≤ x) (wC2 ++ wM2) → va_S (fun x : Nat => s.heap.size ≤ x) s.heap H locs → W p l e room_1 s m #[Value.ref b0] below meth c H locs (52 + 15 * (k + 1)) (98998 + 13306 * (k + 1)) (lw_Z below #[Value.ref b0] s) (F0 m 1334 ls [])) : W p l e room_1 s m #[Value.ref b0] below meth c H locs (52 + 15 * k) (98998 + 13306 * k) (lw_Z below #[Value.ref b0] s) (F0 m 379 ls []) := by
  obtain ⟨hx, hb, hr, hml, hown, hts, hX, hbl, hlocks, hgv⟩ := id C0
  have ht : ∀ w ∈ w_all, w.before #[Value.ref b0] s = true := fun w h => hts w (w_tbl h)
  have hA : ∀ x : Nat, s.heap.size ≤ x → (fun x : Nat => s.heap.size ≤ x) x := fun _ h => h
  have hbA : ¬ (fun x : Nat => s.heap.size ≤ x) b0 := Nat.not_le.mpr hbl
  have hown : s.vm.findClass RL = some m.cls := hown
  refine lv_aload_n hx hb dL_law_379 rfl (lv_at hl 2 rfl) ?_
  refine lv_aload_n hx hb dL_law_380 rfl (lv_at hl 3 rfl) ?_
  refine lv_iload_n hx hb dL_law_381 rfl (lv_at hl 0 rfl) ?_
  refine lv_iconst (v := 1) hx hb dL_law_382 (by decide) ?_
  refine lv_iadd hx hb dL_law_383 ?_
  refine ab_i (v := nI (6 * k + 1)) (nI_plus (6 * k) 1) ?_
  refine va_sld hx hb hX hbl hbA hS (lp_in hk hL (by decide)) dL_law_384 ?_
  refine lv_aload_n hx hb dL_law_385 rfl (lv_at hl 3 rfl) ?_
  refine lv_iload_n hx hb dL_law_386 rfl (lv_at hl 0 rfl) ?_
  refine lv_iconst (v := 2) hx hb dL_law_387 (by decide) ?_
  refine lv_iadd hx hb dL_law_388 ?_
  refine ab_i (v := nI (6 * k + 2)) (nI_plus (6 * k) 2) ?_
  refine va_sld hx hb hX hbl hbA hS (lp_in hk hL (by decide)) dL_law_389 ?_
  obtain ⟨r6, r7, M2, s2n, s6n, mn, hu, hv, hn⟩ := pl_lose (l := l) (D := D) (x1 := (xs (Int32.toNatClampNeg (nI (6 * k + 1))))) (x2 := (xs (Int32.toNatClampNeg (nI (6 * k + 2))))) hC hM hJ
  refine un_goi (w := wC) (wo := wM) (rest := []) hu (List.Perm.refl _) hx hb hml hown ht wd_X6_lose mw_726 hQ hV hS hA hP hD rfl rfl hl.1 rfl (Nat.le_of_ble_eq_true rfl) dL_law_390 ⟨Nat.le_of_ble_eq_true rfl, Nat.le_of_ble_eq_true rfl, rfl, rfl⟩ (lp_rm (mc := 14) (ms := 6906) hk hL (by decide) (by decide)) (fun r_1 wr_1 H locs er_1 hP hD hS => ?_)
  obtain ⟨fr_1, hC⟩ := er_1
  refine lv_pop hx hb dL_law_393 rfl ?_
  refine lv_aload_n hx hb dL_law_394 rfl (lv_at hl 1 rfl) ?_
  refine lv_aload_n hx hb dL_law_395 rfl (lv_at hl 3 rfl) ?_
  refine lv_iload_n hx hb dL_law_396 rfl (lv_at hl 0 rfl) ?_
  refine lv_iconst (v := 1) hx hb dL_law_397 (by decide) ?_
  refine lv_iadd hx hb dL_law_398 ?_
  refine ab_i (v := nI (6 * k + 1)) (nI_plus (6 * k) 1) ?_
  refine va_sld hx hb hX hbl hbA hS (lp_in hk hL (by decide)) dL_law_399 ?_
  refine lv_aload_n hx hb dL_law_400 rfl (lv_at hl 3 rfl) ?_
  refine lv_iload_n hx hb dL_law_401 rfl (lv_at hl 0 rfl) ?_
  refine lv_iconst (v := 2) hx hb dL_law_402 (by decide) ?_
  refine lv_iadd hx hb dL_law_403 ?_
  refine ab_i (v := nI (6 * k + 2)) (nI_plus (6 * k) 2) ?_
  refine va_sld hx hb hX hbl hbA hS (lp_in hk hL (by decide)) dL_law_404 ?_
  refine un_goi (w := wM) (wo := wr_1) (rest := []) hv List.perm_append_comm hx hb hml hown ht wd_X7_lose mw_1336 hQ hV hS hA hP hD rfl rfl hl.1 rfl (Nat.le_of_ble_eq_true rfl) dL_law_405 ⟨Nat.le_of_ble_eq_true rfl, Nat.le_of_ble_eq_true rfl, rfl, rfl⟩ (lp_rm (mc := 14) (ms := 6906) hk hL (by decide) (by decide)) (fun r_2 wr_2 H locs er_2 hP hD hS => ?_)
  obtain ⟨fr_2, hM⟩ := er_2
  have hP := vp_perm List.perm_append_comm hP
  have hD := vd_perm List.perm_append_comm hD
  have hJ := hn
  refine lv_pop hx hb dL_law_408 rfl ?_
  refine lv_goto (tgt := 1334) hx hb dL_law_409 (by decide) ?_
  refine W.widen (k := 52 + 15 * (k + 1)) (n := 98998 + 13306 * (k + 1)) (by omega) (by omega) ?_
  exact kk M2 s1 s2n s3 s4 s5 s6n z7 mn wr_1 wr_2 H locs hC hM hJ hP hD hS

set_option maxHeartbeats 4000000 in
set_option maxRecDepth 100000 in
/-- wear -/
theorem lc_8 {p : Program} {e : Env} {s : State} {m : MethodId} {below : List Frame} {meth : Method} {c : Code} {l : Launch} {b0 L : Nat} {xs : Nat → Int32} (C0 : lw_At p s m meth c b0 L xs) (hL : L ≤ 3072) {k : Nat} (hk : 6 * k + 6 ≤ L) {D : va_G} {q : Nat → ClassId} (hQ : kn D q s) (hV : sv q (fun x : Nat => s.heap.size ≤ x) s s.heap) {a b : Nat} {N : Int} {s1 : Tp} {s2 s3 : Bd} {s4 : Mo} {s5 : Pg} {s6 : Pa} {z7 : Nat → Option Bd} {md : Md} {wC wM : va_W} (hC : c_W q a s1 s2 s3 s4 s5 s6 z7 wC) (hM : m_W q b md wM) (hJ : JJ N s1 s2 s3 s4 s5 s6 z7 md) {H : Heap} {locs : List Loc} {ls : Array Slot} (hP : va_P D vwCl (wC ++ wM) H) (hD : va_D (fun x : Nat => s.heap.size ≤ x) (wC ++ wM)) (hS : va_S (fun x : Nat => s.heap.size ≤ x) s.heap H locs) (hl : lv_has ls 4 [(3, .int (nI (6 * k))), (2, .ref b), (1, .ref a), (0, .ref b0)]) (kk : ∀ (N2 : Int) (t1 : Tp) (t2 t3 : Bd) (t4 : Mo) (t5 : Pg) (t6 : Pa) (t7 : Nat → Option Bd) (m2 : Md) (wC2 wM2 : va_W) (H : Heap) (locs : List Loc), c_W q a t1 t2 t3 t4 t5 t6 t7 wC2 → m_W q b m2 wM2 → JJ N2 t1 t2 t3 t4 t5 t6 t7 m2 → va_P D vwCl (wC2 ++ wM2) H → va_D (fun x : Nat => s.heap.size ≤ x) (wC2 ++ wM2) → va_S (fun x : Nat => s.heap.size ≤ x) s.heap H locs → W p l e room_1 s m #[Value.ref b0] below meth c H locs (52 + 15 * (k + 1)) (98998 + 13306 * (k + 1)) (lw_Z below #[Value.ref b0] s) (F0 m 1334 ls [])) : W p l e room_1 s m #[Value.ref b0] below meth c H locs (52 + 15 * k) (98998 + 13306 * k) (lw_Z below #[Value.ref b0] s) (F0 m 412 ls []) := by
  obtain ⟨hx, hb, hr, hml, hown, hts, hX, hbl, hlocks, hgv⟩ := id C0
  have ht : ∀ w ∈ w_all, w.before #[Value.ref b0] s = true := fun w h => hts w (w_tbl h)
  have hA : ∀ x : Nat, s.heap.size ≤ x → (fun x : Nat => s.heap.size ≤ x) x := fun _ h => h
  have hbA : ¬ (fun x : Nat => s.heap.size ≤ x) b0 := Nat.not_le.mpr hbl
  have hown : s.vm.findClass RL = some m.cls := hown
  refine lv_aload_n hx hb dL_law_412 rfl (lv_at hl 2 rfl) ?_
  refine lv_aload_n hx hb dL_law_413 rfl (lv_at hl 3 rfl) ?_
  refine lv_iload_n hx hb dL_law_414 rfl (lv_at hl 0 rfl) ?_
  refine lv_iconst (v := 1) hx hb dL_law_415 (by decide) ?_
  refine lv_iadd hx hb dL_law_416 ?_
  refine ab_i (v := nI (6 * k + 1)) (nI_plus (6 * k) 1) ?_
  refine va_sld hx hb hX hbl hbA hS (lp_in hk hL (by decide)) dL_law_417 ?_
  refine lv_aload_n hx hb dL_law_418 rfl (lv_at hl 3 rfl) ?_
  refine lv_iload_n hx hb dL_law_419 rfl (lv_at hl 0 rfl) ?_
  refine lv_iconst (v := 2) hx hb dL_law_420 (by decide) ?_
  refine lv_iadd hx hb dL_law_421 ?_
  refine ab_i (v := nI (6 * k + 2)) (nI_plus (6 * k) 2) ?_
  refine va_sld hx hb hX hbl hbA hS (lp_in hk hL (by decide)) dL_law_422 ?_
  obtain ⟨r6, r7, M2, s2n, s6n, mn, hu, hv, hn⟩ := pl_wear (l := l) (D := D) (x1 := (xs (Int32.toNatClampNeg (nI (6 * k + 1))))) (x2 := (xs (Int32.toNatClampNeg (nI (6 * k + 2))))) hC hM hJ
  refine un_goi (w := wC) (wo := wM) (rest := []) hu (List.Perm.refl _) hx hb hml hown ht wd_X6_wear mw_732 hQ hV hS hA hP hD rfl rfl hl.1 rfl (Nat.le_of_ble_eq_true rfl) dL_law_423 ⟨Nat.le_of_ble_eq_true rfl, Nat.le_of_ble_eq_true rfl, rfl, rfl⟩ (lp_rm (mc := 14) (ms := 6906) hk hL (by decide) (by decide)) (fun r_1 wr_1 H locs er_1 hP hD hS => ?_)
  obtain ⟨fr_1, hC⟩ := er_1
  refine lv_pop hx hb dL_law_426 rfl ?_
  refine lv_aload_n hx hb dL_law_427 rfl (lv_at hl 1 rfl) ?_
  refine lv_aload_n hx hb dL_law_428 rfl (lv_at hl 3 rfl) ?_
  refine lv_iload_n hx hb dL_law_429 rfl (lv_at hl 0 rfl) ?_
  refine lv_iconst (v := 1) hx hb dL_law_430 (by decide) ?_
  refine lv_iadd hx hb dL_law_431 ?_
  refine ab_i (v := nI (6 * k + 1)) (nI_plus (6 * k) 1) ?_
  refine va_sld hx hb hX hbl hbA hS (lp_in hk hL (by decide)) dL_law_432 ?_
  refine lv_aload_n hx hb dL_law_433 rfl (lv_at hl 3 rfl) ?_
  refine lv_iload_n hx hb dL_law_434 rfl (lv_at hl 0 rfl) ?_
  refine lv_iconst (v := 2) hx hb dL_law_435 (by decide) ?_
  refine lv_iadd hx hb dL_law_436 ?_
  refine ab_i (v := nI (6 * k + 2)) (nI_plus (6 * k) 2) ?_
  refine va_sld hx hb hX hbl hbA hS (lp_in hk hL (by decide)) dL_law_437 ?_
  refine un_goi (w := wM) (wo := wr_1) (rest := []) hv List.perm_append_comm hx hb hml hown ht wd_X7_wear mw_1345 hQ hV hS hA hP hD rfl rfl hl.1 rfl (Nat.le_of_ble_eq_true rfl) dL_law_438 ⟨Nat.le_of_ble_eq_true rfl, Nat.le_of_ble_eq_true rfl, rfl, rfl⟩ (lp_rm (mc := 14) (ms := 6906) hk hL (by decide) (by decide)) (fun r_2 wr_2 H locs er_2 hP hD hS => ?_)
  obtain ⟨fr_2, hM⟩ := er_2
  have hP := vp_perm List.perm_append_comm hP
  have hD := vd_perm List.perm_append_comm hD
  have hJ := hn
  refine lv_pop hx hb dL_law_441 rfl ?_
  refine lv_goto (tgt := 1334) hx hb dL_law_442 (by decide) ?_
  refine W.widen (k := 52 + 15 * (k + 1)) (n := 98998 + 13306 * (k + 1)) (by omega) (by omega) ?_
  exact kk M2 s1 s2n s3 s4 s5 s6n z7 mn wr_1 wr_2 H locs hC hM hJ hP hD hS

set_option maxHeartbeats 4000000 in
set_option maxRecDepth 100000 in
/-- mend -/
theorem lc_9 {p : Program} {e : Env} {s : State} {m : MethodId} {below : List Frame} {meth : Method} {c : Code} {l : Launch} {b0 L : Nat} {xs : Nat → Int32} (C0 : lw_At p s m meth c b0 L xs) (hL : L ≤ 3072) {k : Nat} (hk : 6 * k + 6 ≤ L) {D : va_G} {q : Nat → ClassId} (hQ : kn D q s) (hV : sv q (fun x : Nat => s.heap.size ≤ x) s s.heap) {a b : Nat} {N : Int} {s1 : Tp} {s2 s3 : Bd} {s4 : Mo} {s5 : Pg} {s6 : Pa} {z7 : Nat → Option Bd} {md : Md} {wC wM : va_W} (hC : c_W q a s1 s2 s3 s4 s5 s6 z7 wC) (hM : m_W q b md wM) (hJ : JJ N s1 s2 s3 s4 s5 s6 z7 md) {H : Heap} {locs : List Loc} {ls : Array Slot} (hP : va_P D vwCl (wC ++ wM) H) (hD : va_D (fun x : Nat => s.heap.size ≤ x) (wC ++ wM)) (hS : va_S (fun x : Nat => s.heap.size ≤ x) s.heap H locs) (hl : lv_has ls 4 [(3, .int (nI (6 * k))), (2, .ref b), (1, .ref a), (0, .ref b0)]) (kk : ∀ (N2 : Int) (t1 : Tp) (t2 t3 : Bd) (t4 : Mo) (t5 : Pg) (t6 : Pa) (t7 : Nat → Option Bd) (m2 : Md) (wC2 wM2 : va_W) (H : Heap) (locs : List Loc), c_W q a t1 t2 t3 t4 t5 t6 t7 wC2 → m_W q b m2 wM2 → JJ N2 t1 t2 t3 t4 t5 t6 t7 m2 → va_P D vwCl (wC2 ++ wM2) H → va_D (fun x : Nat => s.heap.size ≤ x) (wC2 ++ wM2) → va_S (fun x : Nat => s.heap.size ≤ x) s.heap H locs → W p l e room_1 s m #[Value.ref b0] below meth c H locs (52 + 15 * (k + 1)) (98998 + 13306 * (k + 1)) (lw_Z below #[Value.ref b0] s) (F0 m 1334 ls [])) : W p l e room_1 s m #[Value.ref b0] below meth c H locs (52 + 15 * k) (98998 + 13306 * k) (lw_Z below #[Value.ref b0] s) (F0 m 445 ls []) := by
  obtain ⟨hx, hb, hr, hml, hown, hts, hX, hbl, hlocks, hgv⟩ := id C0
  have ht : ∀ w ∈ w_all, w.before #[Value.ref b0] s = true := fun w h => hts w (w_tbl h)
  have hA : ∀ x : Nat, s.heap.size ≤ x → (fun x : Nat => s.heap.size ≤ x) x := fun _ h => h
  have hbA : ¬ (fun x : Nat => s.heap.size ≤ x) b0 := Nat.not_le.mpr hbl
  have hown : s.vm.findClass RL = some m.cls := hown
  refine lv_aload_n hx hb dL_law_445 rfl (lv_at hl 2 rfl) ?_
  refine lv_aload_n hx hb dL_law_446 rfl (lv_at hl 3 rfl) ?_
  refine lv_iload_n hx hb dL_law_447 rfl (lv_at hl 0 rfl) ?_
  refine lv_iconst (v := 1) hx hb dL_law_448 (by decide) ?_
  refine lv_iadd hx hb dL_law_449 ?_
  refine ab_i (v := nI (6 * k + 1)) (nI_plus (6 * k) 1) ?_
  refine va_sld hx hb hX hbl hbA hS (lp_in hk hL (by decide)) dL_law_450 ?_
  refine lv_aload_n hx hb dL_law_451 rfl (lv_at hl 3 rfl) ?_
  refine lv_iload_n hx hb dL_law_452 rfl (lv_at hl 0 rfl) ?_
  refine lv_iconst (v := 2) hx hb dL_law_453 (by decide) ?_
  refine lv_iadd hx hb dL_law_454 ?_
  refine ab_i (v := nI (6 * k + 2)) (nI_plus (6 * k) 2) ?_
  refine va_sld hx hb hX hbl hbA hS (lp_in hk hL (by decide)) dL_law_455 ?_
  obtain ⟨r6, r7, M2, s2n, s6n, mn, hu, hv, hn⟩ := pl_mend (l := l) (D := D) (x1 := (xs (Int32.toNatClampNeg (nI (6 * k + 1))))) (x2 := (xs (Int32.toNatClampNeg (nI (6 * k + 2))))) hC hM hJ
  refine un_goi (w := wC) (wo := wM) (rest := []) hu (List.Perm.refl _) hx hb hml hown ht wd_X6_mend mw_752 hQ hV hS hA hP hD rfl rfl hl.1 rfl (Nat.le_of_ble_eq_true rfl) dL_law_456 ⟨Nat.le_of_ble_eq_true rfl, Nat.le_of_ble_eq_true rfl, rfl, rfl⟩ (lp_rm (mc := 14) (ms := 6906) hk hL (by decide) (by decide)) (fun r_1 wr_1 H locs er_1 hP hD hS => ?_)
  obtain ⟨fr_1, hC⟩ := er_1
  refine lv_pop hx hb dL_law_459 rfl ?_
  refine lv_aload_n hx hb dL_law_460 rfl (lv_at hl 1 rfl) ?_
  refine lv_aload_n hx hb dL_law_461 rfl (lv_at hl 3 rfl) ?_
  refine lv_iload_n hx hb dL_law_462 rfl (lv_at hl 0 rfl) ?_
  refine lv_iconst (v := 1) hx hb dL_law_463 (by decide) ?_
  refine lv_iadd hx hb dL_law_464 ?_
  refine ab_i (v := nI (6 * k + 1)) (nI_plus (6 * k) 1) ?_
  refine va_sld hx hb hX hbl hbA hS (lp_in hk hL (by decide)) dL_law_465 ?_
  refine lv_aload_n hx hb dL_law_466 rfl (lv_at hl 3 rfl) ?_
  refine lv_iload_n hx hb dL_law_467 rfl (lv_at hl 0 rfl) ?_
  refine lv_iconst (v := 2) hx hb dL_law_468 (by decide) ?_
  refine lv_iadd hx hb dL_law_469 ?_
  refine ab_i (v := nI (6 * k + 2)) (nI_plus (6 * k) 2) ?_
  refine va_sld hx hb hX hbl hbA hS (lp_in hk hL (by decide)) dL_law_470 ?_
  refine un_goi (w := wM) (wo := wr_1) (rest := []) hv List.perm_append_comm hx hb hml hown ht wd_X7_mend mw_1360 hQ hV hS hA hP hD rfl rfl hl.1 rfl (Nat.le_of_ble_eq_true rfl) dL_law_471 ⟨Nat.le_of_ble_eq_true rfl, Nat.le_of_ble_eq_true rfl, rfl, rfl⟩ (lp_rm (mc := 14) (ms := 6906) hk hL (by decide) (by decide)) (fun r_2 wr_2 H locs er_2 hP hD hS => ?_)
  obtain ⟨fr_2, hM⟩ := er_2
  have hP := vp_perm List.perm_append_comm hP
  have hD := vd_perm List.perm_append_comm hD
  have hJ := hn
  refine lv_pop hx hb dL_law_474 rfl ?_
  refine lv_goto (tgt := 1334) hx hb dL_law_475 (by decide) ?_
  refine W.widen (k := 52 + 15 * (k + 1)) (n := 98998 + 13306 * (k + 1)) (by omega) (by omega) ?_
  exact kk M2 s1 s2n s3 s4 s5 s6n z7 mn wr_1 wr_2 H locs hC hM hJ hP hD hS

set_option maxHeartbeats 4000000 in
set_option maxRecDepth 100000 in
/-- limit -/
theorem lc_10 {p : Program} {e : Env} {s : State} {m : MethodId} {below : List Frame} {meth : Method} {c : Code} {l : Launch} {b0 L : Nat} {xs : Nat → Int32} (C0 : lw_At p s m meth c b0 L xs) (hL : L ≤ 3072) {k : Nat} (hk : 6 * k + 6 ≤ L) {D : va_G} {q : Nat → ClassId} (hQ : kn D q s) (hV : sv q (fun x : Nat => s.heap.size ≤ x) s s.heap) {a b : Nat} {N : Int} {s1 : Tp} {s2 s3 : Bd} {s4 : Mo} {s5 : Pg} {s6 : Pa} {z7 : Nat → Option Bd} {md : Md} {wC wM : va_W} (hC : c_W q a s1 s2 s3 s4 s5 s6 z7 wC) (hM : m_W q b md wM) (hJ : JJ N s1 s2 s3 s4 s5 s6 z7 md) {H : Heap} {locs : List Loc} {ls : Array Slot} (hP : va_P D vwCl (wC ++ wM) H) (hD : va_D (fun x : Nat => s.heap.size ≤ x) (wC ++ wM)) (hS : va_S (fun x : Nat => s.heap.size ≤ x) s.heap H locs) (hl : lv_has ls 4 [(3, .int (nI (6 * k))), (2, .ref b), (1, .ref a), (0, .ref b0)]) (kk : ∀ (N2 : Int) (t1 : Tp) (t2 t3 : Bd) (t4 : Mo) (t5 : Pg) (t6 : Pa) (t7 : Nat → Option Bd) (m2 : Md) (wC2 wM2 : va_W) (H : Heap) (locs : List Loc), c_W q a t1 t2 t3 t4 t5 t6 t7 wC2 → m_W q b m2 wM2 → JJ N2 t1 t2 t3 t4 t5 t6 t7 m2 → va_P D vwCl (wC2 ++ wM2) H → va_D (fun x : Nat => s.heap.size ≤ x) (wC2 ++ wM2) → va_S (fun x : Nat => s.heap.size ≤ x) s.heap H locs → W p l e room_1 s m #[Value.ref b0] below meth c H locs (52 + 15 * (k + 1)) (98998 + 13306 * (k + 1)) (lw_Z below #[Value.ref b0] s) (F0 m 1334 ls [])) : W p l e room_1 s m #[Value.ref b0] below meth c H locs (52 + 15 * k) (98998 + 13306 * k) (lw_Z below #[Value.ref b0] s) (F0 m 478 ls []) := by
  obtain ⟨hx, hb, hr, hml, hown, hts, hX, hbl, hlocks, hgv⟩ := id C0
  have ht : ∀ w ∈ w_all, w.before #[Value.ref b0] s = true := fun w h => hts w (w_tbl h)
  have hA : ∀ x : Nat, s.heap.size ≤ x → (fun x : Nat => s.heap.size ≤ x) x := fun _ h => h
  have hbA : ¬ (fun x : Nat => s.heap.size ≤ x) b0 := Nat.not_le.mpr hbl
  have hown : s.vm.findClass RL = some m.cls := hown
  refine lv_aload_n hx hb dL_law_478 rfl (lv_at hl 2 rfl) ?_
  refine lv_aload_n hx hb dL_law_479 rfl (lv_at hl 3 rfl) ?_
  refine lv_iload_n hx hb dL_law_480 rfl (lv_at hl 0 rfl) ?_
  refine lv_iconst (v := 1) hx hb dL_law_481 (by decide) ?_
  refine lv_iadd hx hb dL_law_482 ?_
  refine ab_i (v := nI (6 * k + 1)) (nI_plus (6 * k) 1) ?_
  refine va_sld hx hb hX hbl hbA hS (lp_in hk hL (by decide)) dL_law_483 ?_
  obtain ⟨r6, r7, M2, s2n, s6n, mn, hu, hv, hn⟩ := pl_limit (l := l) (D := D) (x1 := (xs (Int32.toNatClampNeg (nI (6 * k + 1))))) hC hM hJ
  refine un_goi (w := wC) (wo := wM) (rest := []) hu (List.Perm.refl _) hx hb hml hown ht wd_X6_limit mw_760 hQ hV hS hA hP hD rfl rfl hl.1 rfl (Nat.le_of_ble_eq_true rfl) dL_law_484 ⟨Nat.le_of_ble_eq_true rfl, Nat.le_of_ble_eq_true rfl, rfl, rfl⟩ (lp_rm (mc := 14) (ms := 6906) hk hL (by decide) (by decide)) (fun r_1 wr_1 H locs er_1 hP hD hS => ?_)
  obtain ⟨fr_1, hC⟩ := er_1
  refine lv_pop hx hb dL_law_487 rfl ?_
  refine lv_aload_n hx hb dL_law_488 rfl (lv_at hl 1 rfl) ?_
  refine lv_aload_n hx hb dL_law_489 rfl (lv_at hl 3 rfl) ?_
  refine lv_iload_n hx hb dL_law_490 rfl (lv_at hl 0 rfl) ?_
  refine lv_iconst (v := 1) hx hb dL_law_491 (by decide) ?_
  refine lv_iadd hx hb dL_law_492 ?_
  refine ab_i (v := nI (6 * k + 1)) (nI_plus (6 * k) 1) ?_
  refine va_sld hx hb hX hbl hbA hS (lp_in hk hL (by decide)) dL_law_493 ?_
  refine un_goi (w := wM) (wo := wr_1) (rest := []) hv List.perm_append_comm hx hb hml hown ht wd_X7_limit mw_1365 hQ hV hS hA hP hD rfl rfl hl.1 rfl (Nat.le_of_ble_eq_true rfl) dL_law_494 ⟨Nat.le_of_ble_eq_true rfl, Nat.le_of_ble_eq_true rfl, rfl, rfl⟩ (lp_rm (mc := 14) (ms := 6906) hk hL (by decide) (by decide)) (fun r_2 wr_2 H locs er_2 hP hD hS => ?_)
  obtain ⟨fr_2, hM⟩ := er_2
  have hP := vp_perm List.perm_append_comm hP
  have hD := vd_perm List.perm_append_comm hD
  have hJ := hn
  refine lv_pop hx hb dL_law_497 rfl ?_
  refine lv_goto (tgt := 1334) hx hb dL_law_498 (by decide) ?_
  refine W.widen (k := 52 + 15 * (k + 1)) (n := 98998 + 13306 * (k + 1)) (by omega) (by omega) ?_
  exact kk M2 s1 s2n s3 s4 s5 s6n z7 mn wr_1 wr_2 H locs hC hM hJ hP hD hS

set_option maxHeartbeats 4000000 in
set_option maxRecDepth 100000 in
/-- exchange -/
theorem lc_11 {p : Program} {e : Env} {s : State} {m : MethodId} {below : List Frame} {meth : Method} {c : Code} {l : Launch} {b0 L : Nat} {xs : Nat → Int32} (C0 : lw_At p s m meth c b0 L xs) (hL : L ≤ 3072) {k : Nat} (hk : 6 * k + 6 ≤ L) {D : va_G} {q : Nat → ClassId} (hQ : kn D q s) (hV : sv q (fun x : Nat => s.heap.size ≤ x) s s.heap) {a b : Nat} {N : Int} {s1 : Tp} {s2 s3 : Bd} {s4 : Mo} {s5 : Pg} {s6 : Pa} {z7 : Nat → Option Bd} {md : Md} {wC wM : va_W} (hC : c_W q a s1 s2 s3 s4 s5 s6 z7 wC) (hM : m_W q b md wM) (hJ : JJ N s1 s2 s3 s4 s5 s6 z7 md) {H : Heap} {locs : List Loc} {ls : Array Slot} (hP : va_P D vwCl (wC ++ wM) H) (hD : va_D (fun x : Nat => s.heap.size ≤ x) (wC ++ wM)) (hS : va_S (fun x : Nat => s.heap.size ≤ x) s.heap H locs) (hl : lv_has ls 4 [(3, .int (nI (6 * k))), (2, .ref b), (1, .ref a), (0, .ref b0)]) (kk : ∀ (N2 : Int) (t1 : Tp) (t2 t3 : Bd) (t4 : Mo) (t5 : Pg) (t6 : Pa) (t7 : Nat → Option Bd) (m2 : Md) (wC2 wM2 : va_W) (H : Heap) (locs : List Loc), c_W q a t1 t2 t3 t4 t5 t6 t7 wC2 → m_W q b m2 wM2 → JJ N2 t1 t2 t3 t4 t5 t6 t7 m2 → va_P D vwCl (wC2 ++ wM2) H → va_D (fun x : Nat => s.heap.size ≤ x) (wC2 ++ wM2) → va_S (fun x : Nat => s.heap.size ≤ x) s.heap H locs → W p l e room_1 s m #[Value.ref b0] below meth c H locs (52 + 15 * (k + 1)) (98998 + 13306 * (k + 1)) (lw_Z below #[Value.ref b0] s) (F0 m 1334 ls [])) : W p l e room_1 s m #[Value.ref b0] below meth c H locs (52 + 15 * k) (98998 + 13306 * k) (lw_Z below #[Value.ref b0] s) (F0 m 501 ls []) := by
  obtain ⟨hx, hb, hr, hml, hown, hts, hX, hbl, hlocks, hgv⟩ := id C0
  have ht : ∀ w ∈ w_all, w.before #[Value.ref b0] s = true := fun w h => hts w (w_tbl h)
  have hA : ∀ x : Nat, s.heap.size ≤ x → (fun x : Nat => s.heap.size ≤ x) x := fun _ h => h
  have hbA : ¬ (fun x : Nat => s.heap.size ≤ x) b0 := Nat.not_le.mpr hbl
  have hown : s.vm.findClass RL = some m.cls := hown
  refine lv_aload_n hx hb dL_law_501 rfl (lv_at hl 2 rfl) ?_
  refine lv_aload_n hx hb dL_law_502 rfl (lv_at hl 3 rfl) ?_
  refine lv_iload_n hx hb dL_law_503 rfl (lv_at hl 0 rfl) ?_
  refine lv_iconst (v := 1) hx hb dL_law_504 (by decide) ?_
  refine lv_iadd hx hb dL_law_505 ?_
  refine ab_i (v := nI (6 * k + 1)) (nI_plus (6 * k) 1) ?_
  refine va_sld hx hb hX hbl hbA hS (lp_in hk hL (by decide)) dL_law_506 ?_
  refine lv_aload_n hx hb dL_law_507 rfl (lv_at hl 3 rfl) ?_
  refine lv_iload_n hx hb dL_law_508 rfl (lv_at hl 0 rfl) ?_
  refine lv_iconst (v := 2) hx hb dL_law_509 (by decide) ?_
  refine lv_iadd hx hb dL_law_510 ?_
  refine ab_i (v := nI (6 * k + 2)) (nI_plus (6 * k) 2) ?_
  refine va_sld hx hb hX hbl hbA hS (lp_in hk hL (by decide)) dL_law_511 ?_
  refine lv_aload_n hx hb dL_law_512 rfl (lv_at hl 3 rfl) ?_
  refine lv_iload_n hx hb dL_law_513 rfl (lv_at hl 0 rfl) ?_
  refine lv_iconst (v := 3) hx hb dL_law_514 (by decide) ?_
  refine lv_iadd hx hb dL_law_515 ?_
  refine ab_i (v := nI (6 * k + 3)) (nI_plus (6 * k) 3) ?_
  refine va_sld hx hb hX hbl hbA hS (lp_in hk hL (by decide)) dL_law_516 ?_
  obtain ⟨r6, r7, M2, s2n, s6n, mn, hu, hv, hn⟩ := pl_exchange (l := l) (D := D) (x1 := (xs (Int32.toNatClampNeg (nI (6 * k + 1))))) (x2 := (xs (Int32.toNatClampNeg (nI (6 * k + 2))))) (x3 := (xs (Int32.toNatClampNeg (nI (6 * k + 3))))) hC hM hJ
  refine un_goi (w := wC) (wo := wM) (rest := []) hu (List.Perm.refl _) hx hb hml hown ht wd_X6_exchange mw_764 hQ hV hS hA hP hD rfl rfl hl.1 rfl (Nat.le_of_ble_eq_true rfl) dL_law_517 ⟨Nat.le_of_ble_eq_true rfl, Nat.le_of_ble_eq_true rfl, rfl, rfl⟩ (lp_rm (mc := 15) (ms := 13306) hk hL (by decide) (by decide)) (fun r_1 wr_1 H locs er_1 hP hD hS => ?_)
  obtain ⟨fr_1, hC⟩ := er_1
  refine lv_pop hx hb dL_law_520 rfl ?_
  refine lv_aload_n hx hb dL_law_521 rfl (lv_at hl 1 rfl) ?_
  refine lv_aload_n hx hb dL_law_522 rfl (lv_at hl 3 rfl) ?_
  refine lv_iload_n hx hb dL_law_523 rfl (lv_at hl 0 rfl) ?_
  refine lv_iconst (v := 1) hx hb dL_law_524 (by decide) ?_
  refine lv_iadd hx hb dL_law_525 ?_
  refine ab_i (v := nI (6 * k + 1)) (nI_plus (6 * k) 1) ?_
  refine va_sld hx hb hX hbl hbA hS (lp_in hk hL (by decide)) dL_law_526 ?_
  refine lv_aload_n hx hb dL_law_527 rfl (lv_at hl 3 rfl) ?_
  refine lv_iload_n hx hb dL_law_528 rfl (lv_at hl 0 rfl) ?_
  refine lv_iconst (v := 2) hx hb dL_law_529 (by decide) ?_
  refine lv_iadd hx hb dL_law_530 ?_
  refine ab_i (v := nI (6 * k + 2)) (nI_plus (6 * k) 2) ?_
  refine va_sld hx hb hX hbl hbA hS (lp_in hk hL (by decide)) dL_law_531 ?_
  refine lv_aload_n hx hb dL_law_532 rfl (lv_at hl 3 rfl) ?_
  refine lv_iload_n hx hb dL_law_533 rfl (lv_at hl 0 rfl) ?_
  refine lv_iconst (v := 3) hx hb dL_law_534 (by decide) ?_
  refine lv_iadd hx hb dL_law_535 ?_
  refine ab_i (v := nI (6 * k + 3)) (nI_plus (6 * k) 3) ?_
  refine va_sld hx hb hX hbl hbA hS (lp_in hk hL (by decide)) dL_law_536 ?_
  refine un_goi (w := wM) (wo := wr_1) (rest := []) hv List.perm_append_comm hx hb hml hown ht wd_X7_exchange mw_1369 hQ hV hS hA hP hD rfl rfl hl.1 rfl (Nat.le_of_ble_eq_true rfl) dL_law_537 ⟨Nat.le_of_ble_eq_true rfl, Nat.le_of_ble_eq_true rfl, rfl, rfl⟩ (lp_rm (mc := 15) (ms := 13306) hk hL (by decide) (by decide)) (fun r_2 wr_2 H locs er_2 hP hD hS => ?_)
  obtain ⟨fr_2, hM⟩ := er_2
  have hP := vp_perm List.perm_append_comm hP
  have hD := vd_perm List.perm_append_comm hD
  have hJ := hn
  refine lv_pop hx hb dL_law_540 rfl ?_
  refine lv_goto (tgt := 1334) hx hb dL_law_541 (by decide) ?_
  refine W.widen (k := 52 + 15 * (k + 1)) (n := 98998 + 13306 * (k + 1)) (by omega) (by omega) ?_
  exact kk M2 s1 s2n s3 s4 s5 s6n z7 mn wr_1 wr_2 H locs hC hM hJ hP hD hS

set_option maxHeartbeats 4000000 in
set_option maxRecDepth 100000 in
/-- run -/
theorem lc_12 {p : Program} {e : Env} {s : State} {m : MethodId} {below : List Frame} {meth : Method} {c : Code} {l : Launch} {b0 L : Nat} {xs : Nat → Int32} (C0 : lw_At p s m meth c b0 L xs) (hL : L ≤ 3072) {k : Nat} (hk : 6 * k + 6 ≤ L) {D : va_G} {q : Nat → ClassId} (hQ : kn D q s) (hV : sv q (fun x : Nat => s.heap.size ≤ x) s s.heap) {a b : Nat} {N : Int} {s1 : Tp} {s2 s3 : Bd} {s4 : Mo} {s5 : Pg} {s6 : Pa} {z7 : Nat → Option Bd} {md : Md} {wC wM : va_W} (hC : c_W q a s1 s2 s3 s4 s5 s6 z7 wC) (hM : m_W q b md wM) (hJ : JJ N s1 s2 s3 s4 s5 s6 z7 md) {H : Heap} {locs : List Loc} {ls : Array Slot} (hP : va_P D vwCl (wC ++ wM) H) (hD : va_D (fun x : Nat => s.heap.size ≤ x) (wC ++ wM)) (hS : va_S (fun x : Nat => s.heap.size ≤ x) s.heap H locs) (hl : lv_has ls 4 [(3, .int (nI (6 * k))), (2, .ref b), (1, .ref a), (0, .ref b0)]) (kk : ∀ (N2 : Int) (t1 : Tp) (t2 t3 : Bd) (t4 : Mo) (t5 : Pg) (t6 : Pa) (t7 : Nat → Option Bd) (m2 : Md) (wC2 wM2 : va_W) (H : Heap) (locs : List Loc), c_W q a t1 t2 t3 t4 t5 t6 t7 wC2 → m_W q b m2 wM2 → JJ N2 t1 t2 t3 t4 t5 t6 t7 m2 → va_P D vwCl (wC2 ++ wM2) H → va_D (fun x : Nat => s.heap.size ≤ x) (wC2 ++ wM2) → va_S (fun x : Nat => s.heap.size ≤ x) s.heap H locs → W p l e room_1 s m #[Value.ref b0] below meth c H locs (52 + 15 * (k + 1)) (98998 + 13306 * (k + 1)) (lw_Z below #[Value.ref b0] s) (F0 m 1334 ls [])) : W p l e room_1 s m #[Value.ref b0] below meth c H locs (52 + 15 * k) (98998 + 13306 * k) (lw_Z below #[Value.ref b0] s) (F0 m 544 ls []) := by
  obtain ⟨hx, hb, hr, hml, hown, hts, hX, hbl, hlocks, hgv⟩ := id C0
  have ht : ∀ w ∈ w_all, w.before #[Value.ref b0] s = true := fun w h => hts w (w_tbl h)
  have hA : ∀ x : Nat, s.heap.size ≤ x → (fun x : Nat => s.heap.size ≤ x) x := fun _ h => h
  have hbA : ¬ (fun x : Nat => s.heap.size ≤ x) b0 := Nat.not_le.mpr hbl
  have hown : s.vm.findClass RL = some m.cls := hown
  refine lv_aload_n hx hb dL_law_544 rfl (lv_at hl 2 rfl) ?_
  obtain ⟨r6, r7, M2, s1n, s2n, s4n, s5n, s6n, mn, hu, hv, hn⟩ := pl_run (l := l) (D := D)  hC hM hJ
  refine un_goi (w := wC) (wo := wM) (rest := []) hu (List.Perm.refl _) hx hb hml hown ht wd_X6_run mw_781 hQ hV hS hA hP hD rfl rfl hl.1 rfl (Nat.le_of_ble_eq_true rfl) dL_law_545 ⟨Nat.le_of_ble_eq_true rfl, Nat.le_of_ble_eq_true rfl, rfl, rfl⟩ (lp_rm (mc := 14) (ms := 6906) hk hL (by decide) (by decide)) (fun r_1 wr_1 H locs er_1 hP hD hS => ?_)
  obtain ⟨fr_1, hC⟩ := er_1
  refine lv_pop hx hb dL_law_548 rfl ?_
  refine lv_aload_n hx hb dL_law_549 rfl (lv_at hl 1 rfl) ?_
  refine un_goi (w := wM) (wo := wr_1) (rest := []) hv List.perm_append_comm hx hb hml hown ht wd_X7_run mw_1643 hQ hV hS hA hP hD rfl rfl hl.1 rfl (Nat.le_of_ble_eq_true rfl) dL_law_550 ⟨Nat.le_of_ble_eq_true rfl, Nat.le_of_ble_eq_true rfl, rfl, rfl⟩ (lp_rm (mc := 14) (ms := 6906) hk hL (by decide) (by decide)) (fun r_2 wr_2 H locs er_2 hP hD hS => ?_)
  obtain ⟨fr_2, hM⟩ := er_2
  have hP := vp_perm List.perm_append_comm hP
  have hD := vd_perm List.perm_append_comm hD
  have hJ := hn
  refine lv_pop hx hb dL_law_553 rfl ?_
  refine lv_goto (tgt := 1334) hx hb dL_law_554 (by decide) ?_
  refine W.widen (k := 52 + 15 * (k + 1)) (n := 98998 + 13306 * (k + 1)) (by omega) (by omega) ?_
  exact kk M2 s1n s2n s3 s4n s5n s6n z7 mn wr_1 wr_2 H locs hC hM hJ hP hD hS

set_option maxHeartbeats 4000000 in
set_option maxRecDepth 100000 in
/-- undo -/
theorem lc_13 {p : Program} {e : Env} {s : State} {m : MethodId} {below : List Frame} {meth : Method} {c : Code} {l : Launch} {b0 L : Nat} {xs : Nat → Int32} (C0 : lw_At p s m meth c b0 L xs) (hL : L ≤ 3072) {k : Nat} (hk : 6 * k + 6 ≤ L) {D : va_G} {q : Nat → ClassId} (hQ : kn D q s) (hV : sv q (fun x : Nat => s.heap.size ≤ x) s s.heap) {a b : Nat} {N : Int} {s1 : Tp} {s2 s3 : Bd} {s4 : Mo} {s5 : Pg} {s6 : Pa} {z7 : Nat → Option Bd} {md : Md} {wC wM : va_W} (hC : c_W q a s1 s2 s3 s4 s5 s6 z7 wC) (hM : m_W q b md wM) (hJ : JJ N s1 s2 s3 s4 s5 s6 z7 md) {H : Heap} {locs : List Loc} {ls : Array Slot} (hP : va_P D vwCl (wC ++ wM) H) (hD : va_D (fun x : Nat => s.heap.size ≤ x) (wC ++ wM)) (hS : va_S (fun x : Nat => s.heap.size ≤ x) s.heap H locs) (hl : lv_has ls 4 [(3, .int (nI (6 * k))), (2, .ref b), (1, .ref a), (0, .ref b0)]) (kk : ∀ (N2 : Int) (t1 : Tp) (t2 t3 : Bd) (t4 : Mo) (t5 : Pg) (t6 : Pa) (t7 : Nat → Option Bd) (m2 : Md) (wC2 wM2 : va_W) (H : Heap) (locs : List Loc), c_W q a t1 t2 t3 t4 t5 t6 t7 wC2 → m_W q b m2 wM2 → JJ N2 t1 t2 t3 t4 t5 t6 t7 m2 → va_P D vwCl (wC2 ++ wM2) H → va_D (fun x : Nat => s.heap.size ≤ x) (wC2 ++ wM2) → va_S (fun x : Nat => s.heap.size ≤ x) s.heap H locs → W p l e room_1 s m #[Value.ref b0] below meth c H locs (52 + 15 * (k + 1)) (98998 + 13306 * (k + 1)) (lw_Z below #[Value.ref b0] s) (F0 m 1334 ls [])) : W p l e room_1 s m #[Value.ref b0] below meth c H locs (52 + 15 * k) (98998 + 13306 * k) (lw_Z below #[Value.ref b0] s) (F0 m 557 ls []) := by
  obtain ⟨hx, hb, hr, hml, hown, hts, hX, hbl, hlocks, hgv⟩ := id C0
  have ht : ∀ w ∈ w_all, w.before #[Value.ref b0] s = true := fun w h => hts w (w_tbl h)
  have hA : ∀ x : Nat, s.heap.size ≤ x → (fun x : Nat => s.heap.size ≤ x) x := fun _ h => h
  have hbA : ¬ (fun x : Nat => s.heap.size ≤ x) b0 := Nat.not_le.mpr hbl
  have hown : s.vm.findClass RL = some m.cls := hown
  refine lv_aload_n hx hb dL_law_557 rfl (lv_at hl 2 rfl) ?_
  obtain ⟨r6, r7, M2, s2n, s6n, mn, hu, hv, hn⟩ := pl_undo (l := l) (D := D)  hC hM hJ
  refine un_goi (w := wC) (wo := wM) (rest := []) hu (List.Perm.refl _) hx hb hml hown ht wd_X6_undo mw_869 hQ hV hS hA hP hD rfl rfl hl.1 rfl (Nat.le_of_ble_eq_true rfl) dL_law_558 ⟨Nat.le_of_ble_eq_true rfl, Nat.le_of_ble_eq_true rfl, rfl, rfl⟩ (lp_rm (mc := 1) (ms := 6400) hk hL (by decide) (by decide)) (fun r_1 wr_1 H locs er_1 hP hD hS => ?_)
  obtain ⟨fr_1, hC⟩ := er_1
  refine lv_pop hx hb dL_law_561 rfl ?_
  refine lv_aload_n hx hb dL_law_562 rfl (lv_at hl 1 rfl) ?_
  refine un_goi (w := wM) (wo := wr_1) (rest := []) hv List.perm_append_comm hx hb hml hown ht wd_X7_undo mw_1377 hQ hV hS hA hP hD rfl rfl hl.1 rfl (Nat.le_of_ble_eq_true rfl) dL_law_563 ⟨Nat.le_of_ble_eq_true rfl, Nat.le_of_ble_eq_true rfl, rfl, rfl⟩ (lp_rm (mc := 1) (ms := 6400) hk hL (by decide) (by decide)) (fun r_2 wr_2 H locs er_2 hP hD hS => ?_)
  obtain ⟨fr_2, hM⟩ := er_2
  have hP := vp_perm List.perm_append_comm hP
  have hD := vd_perm List.perm_append_comm hD
  have hJ := hn
  refine lv_pop hx hb dL_law_566 rfl ?_
  refine lv_goto (tgt := 1334) hx hb dL_law_567 (by decide) ?_
  refine W.widen (k := 52 + 15 * (k + 1)) (n := 98998 + 13306 * (k + 1)) (by omega) (by omega) ?_
  exact kk M2 s1 s2n s3 s4 s5 s6n z7 mn wr_1 wr_2 H locs hC hM hJ hP hD hS

set_option maxHeartbeats 4000000 in
set_option maxRecDepth 100000 in
/-- keep -/
theorem lc_14 {p : Program} {e : Env} {s : State} {m : MethodId} {below : List Frame} {meth : Method} {c : Code} {l : Launch} {b0 L : Nat} {xs : Nat → Int32} (C0 : lw_At p s m meth c b0 L xs) (hL : L ≤ 3072) {k : Nat} (hk : 6 * k + 6 ≤ L) {D : va_G} {q : Nat → ClassId} (hQ : kn D q s) (hV : sv q (fun x : Nat => s.heap.size ≤ x) s s.heap) {a b : Nat} {N : Int} {s1 : Tp} {s2 s3 : Bd} {s4 : Mo} {s5 : Pg} {s6 : Pa} {z7 : Nat → Option Bd} {md : Md} {wC wM : va_W} (hC : c_W q a s1 s2 s3 s4 s5 s6 z7 wC) (hM : m_W q b md wM) (hJ : JJ N s1 s2 s3 s4 s5 s6 z7 md) {H : Heap} {locs : List Loc} {ls : Array Slot} (hP : va_P D vwCl (wC ++ wM) H) (hD : va_D (fun x : Nat => s.heap.size ≤ x) (wC ++ wM)) (hS : va_S (fun x : Nat => s.heap.size ≤ x) s.heap H locs) (hl : lv_has ls 4 [(3, .int (nI (6 * k))), (2, .ref b), (1, .ref a), (0, .ref b0)]) (kk : ∀ (N2 : Int) (t1 : Tp) (t2 t3 : Bd) (t4 : Mo) (t5 : Pg) (t6 : Pa) (t7 : Nat → Option Bd) (m2 : Md) (wC2 wM2 : va_W) (H : Heap) (locs : List Loc), c_W q a t1 t2 t3 t4 t5 t6 t7 wC2 → m_W q b m2 wM2 → JJ N2 t1 t2 t3 t4 t5 t6 t7 m2 → va_P D vwCl (wC2 ++ wM2) H → va_D (fun x : Nat => s.heap.size ≤ x) (wC2 ++ wM2) → va_S (fun x : Nat => s.heap.size ≤ x) s.heap H locs → W p l e room_1 s m #[Value.ref b0] below meth c H locs (52 + 15 * (k + 1)) (98998 + 13306 * (k + 1)) (lw_Z below #[Value.ref b0] s) (F0 m 1334 ls [])) : W p l e room_1 s m #[Value.ref b0] below meth c H locs (52 + 15 * k) (98998 + 13306 * k) (lw_Z below #[Value.ref b0] s) (F0 m 570 ls []) := by
  obtain ⟨hx, hb, hr, hml, hown, hts, hX, hbl, hlocks, hgv⟩ := id C0
  have ht : ∀ w ∈ w_all, w.before #[Value.ref b0] s = true := fun w h => hts w (w_tbl h)
  have hA : ∀ x : Nat, s.heap.size ≤ x → (fun x : Nat => s.heap.size ≤ x) x := fun _ h => h
  have hbA : ¬ (fun x : Nat => s.heap.size ≤ x) b0 := Nat.not_le.mpr hbl
  have hown : s.vm.findClass RL = some m.cls := hown
  refine lv_aload_n hx hb dL_law_570 rfl (lv_at hl 2 rfl) ?_
  refine lv_aload_n hx hb dL_law_571 rfl (lv_at hl 3 rfl) ?_
  refine lv_iload_n hx hb dL_law_572 rfl (lv_at hl 0 rfl) ?_
  refine lv_iconst (v := 1) hx hb dL_law_573 (by decide) ?_
  refine lv_iadd hx hb dL_law_574 ?_
  refine ab_i (v := nI (6 * k + 1)) (nI_plus (6 * k) 1) ?_
  refine va_sld hx hb hX hbl hbA hS (lp_in hk hL (by decide)) dL_law_575 ?_
  obtain ⟨r6, r7, M2, z7n, mn, hu, hv, hn⟩ := pl_keep (l := l) (D := D) (x1 := (xs (Int32.toNatClampNeg (nI (6 * k + 1))))) hC hM hJ
  refine un_goi (w := wC) (wo := wM) (rest := []) hu (List.Perm.refl _) hx hb hml hown ht wd_X6_keep mw_877 hQ hV hS hA hP hD rfl rfl hl.1 rfl (Nat.le_of_ble_eq_true rfl) dL_law_576 ⟨Nat.le_of_ble_eq_true rfl, Nat.le_of_ble_eq_true rfl, rfl, rfl⟩ (lp_rm (mc := 14) (ms := 6906) hk hL (by decide) (by decide)) (fun r_1 wr_1 H locs er_1 hP hD hS => ?_)
  obtain ⟨fr_1, hC⟩ := er_1
  refine lv_pop hx hb dL_law_579 rfl ?_
  refine lv_aload_n hx hb dL_law_580 rfl (lv_at hl 1 rfl) ?_
  refine lv_aload_n hx hb dL_law_581 rfl (lv_at hl 3 rfl) ?_
  refine lv_iload_n hx hb dL_law_582 rfl (lv_at hl 0 rfl) ?_
  refine lv_iconst (v := 1) hx hb dL_law_583 (by decide) ?_
  refine lv_iadd hx hb dL_law_584 ?_
  refine ab_i (v := nI (6 * k + 1)) (nI_plus (6 * k) 1) ?_
  refine va_sld hx hb hX hbl hbA hS (lp_in hk hL (by decide)) dL_law_585 ?_
  refine un_goi (w := wM) (wo := wr_1) (rest := []) hv List.perm_append_comm hx hb hml hown ht wd_X7_keep mw_1381 hQ hV hS hA hP hD rfl rfl hl.1 rfl (Nat.le_of_ble_eq_true rfl) dL_law_586 ⟨Nat.le_of_ble_eq_true rfl, Nat.le_of_ble_eq_true rfl, rfl, rfl⟩ (lp_rm (mc := 14) (ms := 6906) hk hL (by decide) (by decide)) (fun r_2 wr_2 H locs er_2 hP hD hS => ?_)
  obtain ⟨fr_2, hM⟩ := er_2
  have hP := vp_perm List.perm_append_comm hP
  have hD := vd_perm List.perm_append_comm hD
  have hJ := hn
  refine lv_pop hx hb dL_law_589 rfl ?_
  refine lv_goto (tgt := 1334) hx hb dL_law_590 (by decide) ?_
  refine W.widen (k := 52 + 15 * (k + 1)) (n := 98998 + 13306 * (k + 1)) (by omega) (by omega) ?_
  exact kk M2 s1 s2 s3 s4 s5 s6 z7n mn wr_1 wr_2 H locs hC hM hJ hP hD hS

set_option maxHeartbeats 4000000 in
set_option maxRecDepth 100000 in
/-- back -/
theorem lc_15 {p : Program} {e : Env} {s : State} {m : MethodId} {below : List Frame} {meth : Method} {c : Code} {l : Launch} {b0 L : Nat} {xs : Nat → Int32} (C0 : lw_At p s m meth c b0 L xs) (hL : L ≤ 3072) {k : Nat} (hk : 6 * k + 6 ≤ L) {D : va_G} {q : Nat → ClassId} (hQ : kn D q s) (hV : sv q (fun x : Nat => s.heap.size ≤ x) s s.heap) {a b : Nat} {N : Int} {s1 : Tp} {s2 s3 : Bd} {s4 : Mo} {s5 : Pg} {s6 : Pa} {z7 : Nat → Option Bd} {md : Md} {wC wM : va_W} (hC : c_W q a s1 s2 s3 s4 s5 s6 z7 wC) (hM : m_W q b md wM) (hJ : JJ N s1 s2 s3 s4 s5 s6 z7 md) {H : Heap} {locs : List Loc} {ls : Array Slot} (hP : va_P D vwCl (wC ++ wM) H) (hD : va_D (fun x : Nat => s.heap.size ≤ x) (wC ++ wM)) (hS : va_S (fun x : Nat => s.heap.size ≤ x) s.heap H locs) (hl : lv_has ls 4 [(3, .int (nI (6 * k))), (2, .ref b), (1, .ref a), (0, .ref b0)]) (kk : ∀ (N2 : Int) (t1 : Tp) (t2 t3 : Bd) (t4 : Mo) (t5 : Pg) (t6 : Pa) (t7 : Nat → Option Bd) (m2 : Md) (wC2 wM2 : va_W) (H : Heap) (locs : List Loc), c_W q a t1 t2 t3 t4 t5 t6 t7 wC2 → m_W q b m2 wM2 → JJ N2 t1 t2 t3 t4 t5 t6 t7 m2 → va_P D vwCl (wC2 ++ wM2) H → va_D (fun x : Nat => s.heap.size ≤ x) (wC2 ++ wM2) → va_S (fun x : Nat => s.heap.size ≤ x) s.heap H locs → W p l e room_1 s m #[Value.ref b0] below meth c H locs (52 + 15 * (k + 1)) (98998 + 13306 * (k + 1)) (lw_Z below #[Value.ref b0] s) (F0 m 1334 ls [])) : W p l e room_1 s m #[Value.ref b0] below meth c H locs (52 + 15 * k) (98998 + 13306 * k) (lw_Z below #[Value.ref b0] s) (F0 m 593 ls []) := by
  obtain ⟨hx, hb, hr, hml, hown, hts, hX, hbl, hlocks, hgv⟩ := id C0
  have ht : ∀ w ∈ w_all, w.before #[Value.ref b0] s = true := fun w h => hts w (w_tbl h)
  have hA : ∀ x : Nat, s.heap.size ≤ x → (fun x : Nat => s.heap.size ≤ x) x := fun _ h => h
  have hbA : ¬ (fun x : Nat => s.heap.size ≤ x) b0 := Nat.not_le.mpr hbl
  have hown : s.vm.findClass RL = some m.cls := hown
  refine lv_aload_n hx hb dL_law_593 rfl (lv_at hl 2 rfl) ?_
  refine lv_aload_n hx hb dL_law_594 rfl (lv_at hl 3 rfl) ?_
  refine lv_iload_n hx hb dL_law_595 rfl (lv_at hl 0 rfl) ?_
  refine lv_iconst (v := 1) hx hb dL_law_596 (by decide) ?_
  refine lv_iadd hx hb dL_law_597 ?_
  refine ab_i (v := nI (6 * k + 1)) (nI_plus (6 * k) 1) ?_
  refine va_sld hx hb hX hbl hbA hS (lp_in hk hL (by decide)) dL_law_598 ?_
  obtain ⟨r6, r7, M2, s2n, s6n, z7n, mn, hu, hv, hn⟩ := pl_back (l := l) (D := D) (x1 := (xs (Int32.toNatClampNeg (nI (6 * k + 1))))) hC hM hJ
  refine un_goi (w := wC) (wo := wM) (rest := []) hu (List.Perm.refl _) hx hb hml hown ht wd_X6_back mw_886 hQ hV hS hA hP hD rfl rfl hl.1 rfl (Nat.le_of_ble_eq_true rfl) dL_law_599 ⟨Nat.le_of_ble_eq_true rfl, Nat.le_of_ble_eq_true rfl, rfl, rfl⟩ (lp_rm (mc := 1) (ms := 6400) hk hL (by decide) (by decide)) (fun r_1 wr_1 H locs er_1 hP hD hS => ?_)
  obtain ⟨fr_1, hC⟩ := er_1
  refine lv_pop hx hb dL_law_602 rfl ?_
  refine lv_aload_n hx hb dL_law_603 rfl (lv_at hl 1 rfl) ?_
  refine lv_aload_n hx hb dL_law_604 rfl (lv_at hl 3 rfl) ?_
  refine lv_iload_n hx hb dL_law_605 rfl (lv_at hl 0 rfl) ?_
  refine lv_iconst (v := 1) hx hb dL_law_606 (by decide) ?_
  refine lv_iadd hx hb dL_law_607 ?_
  refine ab_i (v := nI (6 * k + 1)) (nI_plus (6 * k) 1) ?_
  refine va_sld hx hb hX hbl hbA hS (lp_in hk hL (by decide)) dL_law_608 ?_
  refine un_goi (w := wM) (wo := wr_1) (rest := []) hv List.perm_append_comm hx hb hml hown ht wd_X7_back mw_1385 hQ hV hS hA hP hD rfl rfl hl.1 rfl (Nat.le_of_ble_eq_true rfl) dL_law_609 ⟨Nat.le_of_ble_eq_true rfl, Nat.le_of_ble_eq_true rfl, rfl, rfl⟩ (lp_rm (mc := 1) (ms := 6400) hk hL (by decide) (by decide)) (fun r_2 wr_2 H locs er_2 hP hD hS => ?_)
  obtain ⟨fr_2, hM⟩ := er_2
  have hP := vp_perm List.perm_append_comm hP
  have hD := vd_perm List.perm_append_comm hD
  have hJ := hn.2
  refine lv_pop hx hb dL_law_612 rfl ?_
  refine lv_goto (tgt := 1334) hx hb dL_law_613 (by decide) ?_
  refine W.widen (k := 52 + 15 * (k + 1)) (n := 98998 + 13306 * (k + 1)) (by omega) (by omega) ?_
  exact kk M2 s1 s2n s3 s4 s5 s6n z7n mn wr_1 wr_2 H locs hC hM hJ hP hD hS

set_option maxHeartbeats 4000000 in
set_option maxRecDepth 100000 in
/-- cell -/
theorem lc_16 {p : Program} {e : Env} {s : State} {m : MethodId} {below : List Frame} {meth : Method} {c : Code} {l : Launch} {b0 L : Nat} {xs : Nat → Int32} (C0 : lw_At p s m meth c b0 L xs) (hL : L ≤ 3072) {k : Nat} (hk : 6 * k + 6 ≤ L) {D : va_G} {q : Nat → ClassId} (hQ : kn D q s) (hV : sv q (fun x : Nat => s.heap.size ≤ x) s s.heap) {a b : Nat} {N : Int} {s1 : Tp} {s2 s3 : Bd} {s4 : Mo} {s5 : Pg} {s6 : Pa} {z7 : Nat → Option Bd} {md : Md} {wC wM : va_W} (hC : c_W q a s1 s2 s3 s4 s5 s6 z7 wC) (hM : m_W q b md wM) (hJ : JJ N s1 s2 s3 s4 s5 s6 z7 md) {H : Heap} {locs : List Loc} {ls : Array Slot} (hP : va_P D vwCl (wC ++ wM) H) (hD : va_D (fun x : Nat => s.heap.size ≤ x) (wC ++ wM)) (hS : va_S (fun x : Nat => s.heap.size ≤ x) s.heap H locs) (hl : lv_has ls 4 [(3, .int (nI (6 * k))), (2, .ref b), (1, .ref a), (0, .ref b0)]) (kk : ∀ (N2 : Int) (t1 : Tp) (t2 t3 : Bd) (t4 : Mo) (t5 : Pg) (t6 : Pa) (t7 : Nat → Option Bd) (m2 : Md) (wC2 wM2 : va_W) (H : Heap) (locs : List Loc), c_W q a t1 t2 t3 t4 t5 t6 t7 wC2 → m_W q b m2 wM2 → JJ N2 t1 t2 t3 t4 t5 t6 t7 m2 → va_P D vwCl (wC2 ++ wM2) H → va_D (fun x : Nat => s.heap.size ≤ x) (wC2 ++ wM2) → va_S (fun x : Nat => s.heap.size ≤ x) s.heap H locs → W p l e room_1 s m #[Value.ref b0] below meth c H locs (52 + 15 * (k + 1)) (98998 + 13306 * (k + 1)) (lw_Z below #[Value.ref b0] s) (F0 m 1334 ls [])) : W p l e room_1 s m #[Value.ref b0] below meth c H locs (52 + 15 * k) (98998 + 13306 * k) (lw_Z below #[Value.ref b0] s) (F0 m 616 ls []) := by
  obtain ⟨hx, hb, hr, hml, hown, hts, hX, hbl, hlocks, hgv⟩ := id C0
  have ht : ∀ w ∈ w_all, w.before #[Value.ref b0] s = true := fun w h => hts w (w_tbl h)
  have hA : ∀ x : Nat, s.heap.size ≤ x → (fun x : Nat => s.heap.size ≤ x) x := fun _ h => h
  have hbA : ¬ (fun x : Nat => s.heap.size ≤ x) b0 := Nat.not_le.mpr hbl
  have hown : s.vm.findClass RL = some m.cls := hown
  refine lv_aload_n hx hb dL_law_616 rfl (lv_at hl 2 rfl) ?_
  refine lv_aload_n hx hb dL_law_617 rfl (lv_at hl 3 rfl) ?_
  refine lv_iload_n hx hb dL_law_618 rfl (lv_at hl 0 rfl) ?_
  refine lv_iconst (v := 1) hx hb dL_law_619 (by decide) ?_
  refine lv_iadd hx hb dL_law_620 ?_
  refine ab_i (v := nI (6 * k + 1)) (nI_plus (6 * k) 1) ?_
  refine va_sld hx hb hX hbl hbA hS (lp_in hk hL (by decide)) dL_law_621 ?_
  refine lv_aload_n hx hb dL_law_622 rfl (lv_at hl 3 rfl) ?_
  refine lv_iload_n hx hb dL_law_623 rfl (lv_at hl 0 rfl) ?_
  refine lv_iconst (v := 2) hx hb dL_law_624 (by decide) ?_
  refine lv_iadd hx hb dL_law_625 ?_
  refine ab_i (v := nI (6 * k + 2)) (nI_plus (6 * k) 2) ?_
  refine va_sld hx hb hX hbl hbA hS (lp_in hk hL (by decide)) dL_law_626 ?_
  obtain ⟨r6, r7, M2, mn, hu, hv, hn⟩ := pl_cell (l := l) (D := D) (x1 := (xs (Int32.toNatClampNeg (nI (6 * k + 1))))) (x2 := (xs (Int32.toNatClampNeg (nI (6 * k + 2))))) hC hM hJ
  refine un_gori (w := wC) (wo := wM) (rest := []) hu (List.Perm.refl _) hx hb hml hown ht wd_X6_cell mw_890 hQ hV hS hP rfl rfl hl.1 rfl (Nat.le_of_ble_eq_true rfl) dL_law_627 ⟨Nat.le_of_ble_eq_true rfl, Nat.le_of_ble_eq_true rfl, rfl, rfl⟩ (lp_rm (mc := 0) (ms := 0) hk hL (by decide) (by decide)) (fun r_1 er_1 => ?_)
  refine lv_pop hx hb dL_law_630 rfl ?_
  refine lv_aload_n hx hb dL_law_631 rfl (lv_at hl 1 rfl) ?_
  refine lv_aload_n hx hb dL_law_632 rfl (lv_at hl 3 rfl) ?_
  refine lv_iload_n hx hb dL_law_633 rfl (lv_at hl 0 rfl) ?_
  refine lv_iconst (v := 1) hx hb dL_law_634 (by decide) ?_
  refine lv_iadd hx hb dL_law_635 ?_
  refine ab_i (v := nI (6 * k + 1)) (nI_plus (6 * k) 1) ?_
  refine va_sld hx hb hX hbl hbA hS (lp_in hk hL (by decide)) dL_law_636 ?_
  refine lv_aload_n hx hb dL_law_637 rfl (lv_at hl 3 rfl) ?_
  refine lv_iload_n hx hb dL_law_638 rfl (lv_at hl 0 rfl) ?_
  refine lv_iconst (v := 2) hx hb dL_law_639 (by decide) ?_
  refine lv_iadd hx hb dL_law_640 ?_
  refine ab_i (v := nI (6 * k + 2)) (nI_plus (6 * k) 2) ?_
  refine va_sld hx hb hX hbl hbA hS (lp_in hk hL (by decide)) dL_law_641 ?_
  refine un_gori (w := wM) (wo := wC) (rest := []) hv List.perm_append_comm hx hb hml hown ht wd_X7_cell mw_1389 hQ hV hS hP rfl rfl hl.1 rfl (Nat.le_of_ble_eq_true rfl) dL_law_642 ⟨Nat.le_of_ble_eq_true rfl, Nat.le_of_ble_eq_true rfl, rfl, rfl⟩ (lp_rm (mc := 0) (ms := 0) hk hL (by decide) (by decide)) (fun r_2 er_2 => ?_)
  have hM : m_W q b mn wM := by rw [hn.1]; exact hM
  have hJ := hn.2
  refine lv_pop hx hb dL_law_645 rfl ?_
  refine lv_goto (tgt := 1334) hx hb dL_law_646 (by decide) ?_
  refine W.widen (k := 52 + 15 * (k + 1)) (n := 98998 + 13306 * (k + 1)) (by omega) (by omega) ?_
  exact kk M2 s1 s2 s3 s4 s5 s6 z7 mn wC wM H locs hC hM hJ hP hD hS

set_option maxHeartbeats 4000000 in
set_option maxRecDepth 100000 in
/-- worn -/
theorem lc_17 {p : Program} {e : Env} {s : State} {m : MethodId} {below : List Frame} {meth : Method} {c : Code} {l : Launch} {b0 L : Nat} {xs : Nat → Int32} (C0 : lw_At p s m meth c b0 L xs) (hL : L ≤ 3072) {k : Nat} (hk : 6 * k + 6 ≤ L) {D : va_G} {q : Nat → ClassId} (hQ : kn D q s) (hV : sv q (fun x : Nat => s.heap.size ≤ x) s s.heap) {a b : Nat} {N : Int} {s1 : Tp} {s2 s3 : Bd} {s4 : Mo} {s5 : Pg} {s6 : Pa} {z7 : Nat → Option Bd} {md : Md} {wC wM : va_W} (hC : c_W q a s1 s2 s3 s4 s5 s6 z7 wC) (hM : m_W q b md wM) (hJ : JJ N s1 s2 s3 s4 s5 s6 z7 md) {H : Heap} {locs : List Loc} {ls : Array Slot} (hP : va_P D vwCl (wC ++ wM) H) (hD : va_D (fun x : Nat => s.heap.size ≤ x) (wC ++ wM)) (hS : va_S (fun x : Nat => s.heap.size ≤ x) s.heap H locs) (hl : lv_has ls 4 [(3, .int (nI (6 * k))), (2, .ref b), (1, .ref a), (0, .ref b0)]) (kk : ∀ (N2 : Int) (t1 : Tp) (t2 t3 : Bd) (t4 : Mo) (t5 : Pg) (t6 : Pa) (t7 : Nat → Option Bd) (m2 : Md) (wC2 wM2 : va_W) (H : Heap) (locs : List Loc), c_W q a t1 t2 t3 t4 t5 t6 t7 wC2 → m_W q b m2 wM2 → JJ N2 t1 t2 t3 t4 t5 t6 t7 m2 → va_P D vwCl (wC2 ++ wM2) H → va_D (fun x : Nat => s.heap.size ≤ x) (wC2 ++ wM2) → va_S (fun x : Nat => s.heap.size ≤ x) s.heap H locs → W p l e room_1 s m #[Value.ref b0] below meth c H locs (52 + 15 * (k + 1)) (98998 + 13306 * (k + 1)) (lw_Z below #[Value.ref b0] s) (F0 m 1334 ls [])) : W p l e room_1 s m #[Value.ref b0] below meth c H locs (52 + 15 * k) (98998 + 13306 * k) (lw_Z below #[Value.ref b0] s) (F0 m 649 ls []) := by
  obtain ⟨hx, hb, hr, hml, hown, hts, hX, hbl, hlocks, hgv⟩ := id C0
  have ht : ∀ w ∈ w_all, w.before #[Value.ref b0] s = true := fun w h => hts w (w_tbl h)
  have hA : ∀ x : Nat, s.heap.size ≤ x → (fun x : Nat => s.heap.size ≤ x) x := fun _ h => h
  have hbA : ¬ (fun x : Nat => s.heap.size ≤ x) b0 := Nat.not_le.mpr hbl
  have hown : s.vm.findClass RL = some m.cls := hown
  refine lv_aload_n hx hb dL_law_649 rfl (lv_at hl 2 rfl) ?_
  refine lv_aload_n hx hb dL_law_650 rfl (lv_at hl 3 rfl) ?_
  refine lv_iload_n hx hb dL_law_651 rfl (lv_at hl 0 rfl) ?_
  refine lv_iconst (v := 1) hx hb dL_law_652 (by decide) ?_
  refine lv_iadd hx hb dL_law_653 ?_
  refine ab_i (v := nI (6 * k + 1)) (nI_plus (6 * k) 1) ?_
  refine va_sld hx hb hX hbl hbA hS (lp_in hk hL (by decide)) dL_law_654 ?_
  obtain ⟨r6, r7, M2, mn, hu, hv, hn⟩ := pl_worn (l := l) (D := D) (x1 := (xs (Int32.toNatClampNeg (nI (6 * k + 1))))) hC hM hJ
  refine un_gorl (w := wC) (wo := wM) (rest := []) hu (List.Perm.refl _) hx hb hml hown ht wd_X6_worn mw_895 hQ hV hS hP rfl rfl hl.1 rfl (Nat.le_of_ble_eq_true rfl) dL_law_655 ⟨Nat.le_of_ble_eq_true rfl, Nat.le_of_ble_eq_true rfl, rfl, rfl⟩ (lp_rm (mc := 0) (ms := 0) hk hL (by decide) (by decide)) (fun r_1 er_1 => ?_)
  refine lv_pop2_2 hx hb dL_law_658 rfl ?_
  refine lv_aload_n hx hb dL_law_659 rfl (lv_at hl 1 rfl) ?_
  refine lv_aload_n hx hb dL_law_660 rfl (lv_at hl 3 rfl) ?_
  refine lv_iload_n hx hb dL_law_661 rfl (lv_at hl 0 rfl) ?_
  refine lv_iconst (v := 1) hx hb dL_law_662 (by decide) ?_
  refine lv_iadd hx hb dL_law_663 ?_
  refine ab_i (v := nI (6 * k + 1)) (nI_plus (6 * k) 1) ?_
  refine va_sld hx hb hX hbl hbA hS (lp_in hk hL (by decide)) dL_law_664 ?_
  refine un_gorl (w := wM) (wo := wC) (rest := []) hv List.perm_append_comm hx hb hml hown ht wd_X7_worn mw_1393 hQ hV hS hP rfl rfl hl.1 rfl (Nat.le_of_ble_eq_true rfl) dL_law_665 ⟨Nat.le_of_ble_eq_true rfl, Nat.le_of_ble_eq_true rfl, rfl, rfl⟩ (lp_rm (mc := 0) (ms := 0) hk hL (by decide) (by decide)) (fun r_2 er_2 => ?_)
  have hM : m_W q b mn wM := by rw [hn.1]; exact hM
  have hJ := hn.2
  refine lv_pop2_2 hx hb dL_law_668 rfl ?_
  refine lv_goto (tgt := 1334) hx hb dL_law_669 (by decide) ?_
  refine W.widen (k := 52 + 15 * (k + 1)) (n := 98998 + 13306 * (k + 1)) (by omega) (by omega) ?_
  exact kk M2 s1 s2 s3 s4 s5 s6 z7 mn wC wM H locs hC hM hJ hP hD hS

set_option maxHeartbeats 4000000 in
set_option maxRecDepth 100000 in
/-- drum -/
theorem lc_18 {p : Program} {e : Env} {s : State} {m : MethodId} {below : List Frame} {meth : Method} {c : Code} {l : Launch} {b0 L : Nat} {xs : Nat → Int32} (C0 : lw_At p s m meth c b0 L xs) (hL : L ≤ 3072) {k : Nat} (hk : 6 * k + 6 ≤ L) {D : va_G} {q : Nat → ClassId} (hQ : kn D q s) (hV : sv q (fun x : Nat => s.heap.size ≤ x) s s.heap) {a b : Nat} {N : Int} {s1 : Tp} {s2 s3 : Bd} {s4 : Mo} {s5 : Pg} {s6 : Pa} {z7 : Nat → Option Bd} {md : Md} {wC wM : va_W} (hC : c_W q a s1 s2 s3 s4 s5 s6 z7 wC) (hM : m_W q b md wM) (hJ : JJ N s1 s2 s3 s4 s5 s6 z7 md) {H : Heap} {locs : List Loc} {ls : Array Slot} (hP : va_P D vwCl (wC ++ wM) H) (hD : va_D (fun x : Nat => s.heap.size ≤ x) (wC ++ wM)) (hS : va_S (fun x : Nat => s.heap.size ≤ x) s.heap H locs) (hl : lv_has ls 4 [(3, .int (nI (6 * k))), (2, .ref b), (1, .ref a), (0, .ref b0)]) (kk : ∀ (N2 : Int) (t1 : Tp) (t2 t3 : Bd) (t4 : Mo) (t5 : Pg) (t6 : Pa) (t7 : Nat → Option Bd) (m2 : Md) (wC2 wM2 : va_W) (H : Heap) (locs : List Loc), c_W q a t1 t2 t3 t4 t5 t6 t7 wC2 → m_W q b m2 wM2 → JJ N2 t1 t2 t3 t4 t5 t6 t7 m2 → va_P D vwCl (wC2 ++ wM2) H → va_D (fun x : Nat => s.heap.size ≤ x) (wC2 ++ wM2) → va_S (fun x : Nat => s.heap.size ≤ x) s.heap H locs → W p l e room_1 s m #[Value.ref b0] below meth c H locs (52 + 15 * (k + 1)) (98998 + 13306 * (k + 1)) (lw_Z below #[Value.ref b0] s) (F0 m 1334 ls [])) : W p l e room_1 s m #[Value.ref b0] below meth c H locs (52 + 15 * k) (98998 + 13306 * k) (lw_Z below #[Value.ref b0] s) (F0 m 672 ls []) := by
  obtain ⟨hx, hb, hr, hml, hown, hts, hX, hbl, hlocks, hgv⟩ := id C0
  have ht : ∀ w ∈ w_all, w.before #[Value.ref b0] s = true := fun w h => hts w (w_tbl h)
  have hA : ∀ x : Nat, s.heap.size ≤ x → (fun x : Nat => s.heap.size ≤ x) x := fun _ h => h
  have hbA : ¬ (fun x : Nat => s.heap.size ≤ x) b0 := Nat.not_le.mpr hbl
  have hown : s.vm.findClass RL = some m.cls := hown
  refine lv_aload_n hx hb dL_law_672 rfl (lv_at hl 2 rfl) ?_
  refine lv_aload_n hx hb dL_law_673 rfl (lv_at hl 3 rfl) ?_
  refine lv_iload_n hx hb dL_law_674 rfl (lv_at hl 0 rfl) ?_
  refine lv_iconst (v := 1) hx hb dL_law_675 (by decide) ?_
  refine lv_iadd hx hb dL_law_676 ?_
  refine ab_i (v := nI (6 * k + 1)) (nI_plus (6 * k) 1) ?_
  refine va_sld hx hb hX hbl hbA hS (lp_in hk hL (by decide)) dL_law_677 ?_
  refine lv_aload_n hx hb dL_law_678 rfl (lv_at hl 3 rfl) ?_
  refine lv_iload_n hx hb dL_law_679 rfl (lv_at hl 0 rfl) ?_
  refine lv_iconst (v := 2) hx hb dL_law_680 (by decide) ?_
  refine lv_iadd hx hb dL_law_681 ?_
  refine ab_i (v := nI (6 * k + 2)) (nI_plus (6 * k) 2) ?_
  refine va_sld hx hb hX hbl hbA hS (lp_in hk hL (by decide)) dL_law_682 ?_
  obtain ⟨r6, r7, M2, mn, hu, hv, hn⟩ := pl_drum (l := l) (D := D) (x1 := (xs (Int32.toNatClampNeg (nI (6 * k + 1))))) (x2 := (xs (Int32.toNatClampNeg (nI (6 * k + 2))))) hC hM hJ
  refine un_gori (w := wC) (wo := wM) (rest := []) hu (List.Perm.refl _) hx hb hml hown ht wd_X6_drum mw_900 hQ hV hS hP rfl rfl hl.1 rfl (Nat.le_of_ble_eq_true rfl) dL_law_683 ⟨Nat.le_of_ble_eq_true rfl, Nat.le_of_ble_eq_true rfl, rfl, rfl⟩ (lp_rm (mc := 0) (ms := 0) hk hL (by decide) (by decide)) (fun r_1 er_1 => ?_)
  refine lv_pop hx hb dL_law_686 rfl ?_
  refine lv_aload_n hx hb dL_law_687 rfl (lv_at hl 1 rfl) ?_
  refine lv_aload_n hx hb dL_law_688 rfl (lv_at hl 3 rfl) ?_
  refine lv_iload_n hx hb dL_law_689 rfl (lv_at hl 0 rfl) ?_
  refine lv_iconst (v := 1) hx hb dL_law_690 (by decide) ?_
  refine lv_iadd hx hb dL_law_691 ?_
  refine ab_i (v := nI (6 * k + 1)) (nI_plus (6 * k) 1) ?_
  refine va_sld hx hb hX hbl hbA hS (lp_in hk hL (by decide)) dL_law_692 ?_
  refine lv_aload_n hx hb dL_law_693 rfl (lv_at hl 3 rfl) ?_
  refine lv_iload_n hx hb dL_law_694 rfl (lv_at hl 0 rfl) ?_
  refine lv_iconst (v := 2) hx hb dL_law_695 (by decide) ?_
  refine lv_iadd hx hb dL_law_696 ?_
  refine ab_i (v := nI (6 * k + 2)) (nI_plus (6 * k) 2) ?_
  refine va_sld hx hb hX hbl hbA hS (lp_in hk hL (by decide)) dL_law_697 ?_
  refine un_gori (w := wM) (wo := wC) (rest := []) hv List.perm_append_comm hx hb hml hown ht wd_X7_drum mw_1397 hQ hV hS hP rfl rfl hl.1 rfl (Nat.le_of_ble_eq_true rfl) dL_law_698 ⟨Nat.le_of_ble_eq_true rfl, Nat.le_of_ble_eq_true rfl, rfl, rfl⟩ (lp_rm (mc := 0) (ms := 0) hk hL (by decide) (by decide)) (fun r_2 er_2 => ?_)
  have hM : m_W q b mn wM := by rw [hn.1]; exact hM
  have hJ := hn.2
  refine lv_pop hx hb dL_law_701 rfl ?_
  refine lv_goto (tgt := 1334) hx hb dL_law_702 (by decide) ?_
  refine W.widen (k := 52 + 15 * (k + 1)) (n := 98998 + 13306 * (k + 1)) (by omega) (by omega) ?_
  exact kk M2 s1 s2 s3 s4 s5 s6 z7 mn wC wM H locs hC hM hJ hP hD hS

set_option maxHeartbeats 4000000 in
set_option maxRecDepth 100000 in
/-- sign -/
theorem lc_19 {p : Program} {e : Env} {s : State} {m : MethodId} {below : List Frame} {meth : Method} {c : Code} {l : Launch} {b0 L : Nat} {xs : Nat → Int32} (C0 : lw_At p s m meth c b0 L xs) (hL : L ≤ 3072) {k : Nat} (hk : 6 * k + 6 ≤ L) {D : va_G} {q : Nat → ClassId} (hQ : kn D q s) (hV : sv q (fun x : Nat => s.heap.size ≤ x) s s.heap) {a b : Nat} {N : Int} {s1 : Tp} {s2 s3 : Bd} {s4 : Mo} {s5 : Pg} {s6 : Pa} {z7 : Nat → Option Bd} {md : Md} {wC wM : va_W} (hC : c_W q a s1 s2 s3 s4 s5 s6 z7 wC) (hM : m_W q b md wM) (hJ : JJ N s1 s2 s3 s4 s5 s6 z7 md) {H : Heap} {locs : List Loc} {ls : Array Slot} (hP : va_P D vwCl (wC ++ wM) H) (hD : va_D (fun x : Nat => s.heap.size ≤ x) (wC ++ wM)) (hS : va_S (fun x : Nat => s.heap.size ≤ x) s.heap H locs) (hl : lv_has ls 4 [(3, .int (nI (6 * k))), (2, .ref b), (1, .ref a), (0, .ref b0)]) (kk : ∀ (N2 : Int) (t1 : Tp) (t2 t3 : Bd) (t4 : Mo) (t5 : Pg) (t6 : Pa) (t7 : Nat → Option Bd) (m2 : Md) (wC2 wM2 : va_W) (H : Heap) (locs : List Loc), c_W q a t1 t2 t3 t4 t5 t6 t7 wC2 → m_W q b m2 wM2 → JJ N2 t1 t2 t3 t4 t5 t6 t7 m2 → va_P D vwCl (wC2 ++ wM2) H → va_D (fun x : Nat => s.heap.size ≤ x) (wC2 ++ wM2) → va_S (fun x : Nat => s.heap.size ≤ x) s.heap H locs → W p l e room_1 s m #[Value.ref b0] below meth c H locs (52 + 15 * (k + 1)) (98998 + 13306 * (k + 1)) (lw_Z below #[Value.ref b0] s) (F0 m 1334 ls [])) : W p l e room_1 s m #[Value.ref b0] below meth c H locs (52 + 15 * k) (98998 + 13306 * k) (lw_Z below #[Value.ref b0] s) (F0 m 705 ls []) := by
  obtain ⟨hx, hb, hr, hml, hown, hts, hX, hbl, hlocks, hgv⟩ := id C0
  have ht : ∀ w ∈ w_all, w.before #[Value.ref b0] s = true := fun w h => hts w (w_tbl h)
  have hA : ∀ x : Nat, s.heap.size ≤ x → (fun x : Nat => s.heap.size ≤ x) x := fun _ h => h
  have hbA : ¬ (fun x : Nat => s.heap.size ≤ x) b0 := Nat.not_le.mpr hbl
  have hown : s.vm.findClass RL = some m.cls := hown
  refine lv_aload_n hx hb dL_law_705 rfl (lv_at hl 2 rfl) ?_
  refine lv_aload_n hx hb dL_law_706 rfl (lv_at hl 3 rfl) ?_
  refine lv_iload_n hx hb dL_law_707 rfl (lv_at hl 0 rfl) ?_
  refine lv_iconst (v := 1) hx hb dL_law_708 (by decide) ?_
  refine lv_iadd hx hb dL_law_709 ?_
  refine ab_i (v := nI (6 * k + 1)) (nI_plus (6 * k) 1) ?_
  refine va_sld hx hb hX hbl hbA hS (lp_in hk hL (by decide)) dL_law_710 ?_
  refine lv_aload_n hx hb dL_law_711 rfl (lv_at hl 3 rfl) ?_
  refine lv_iload_n hx hb dL_law_712 rfl (lv_at hl 0 rfl) ?_
  refine lv_iconst (v := 2) hx hb dL_law_713 (by decide) ?_
  refine lv_iadd hx hb dL_law_714 ?_
  refine ab_i (v := nI (6 * k + 2)) (nI_plus (6 * k) 2) ?_
  refine va_sld hx hb hX hbl hbA hS (lp_in hk hL (by decide)) dL_law_715 ?_
  obtain ⟨r6, r7, M2, mn, hu, hv, hn⟩ := pl_sign (l := l) (D := D) (x1 := (xs (Int32.toNatClampNeg (nI (6 * k + 1))))) (x2 := (xs (Int32.toNatClampNeg (nI (6 * k + 2))))) hC hM hJ
  refine un_gori (w := wC) (wo := wM) (rest := []) hu (List.Perm.refl _) hx hb hml hown ht wd_X6_sign mw_930 hQ hV hS hP rfl rfl hl.1 rfl (Nat.le_of_ble_eq_true rfl) dL_law_716 ⟨Nat.le_of_ble_eq_true rfl, Nat.le_of_ble_eq_true rfl, rfl, rfl⟩ (lp_rm (mc := 0) (ms := 0) hk hL (by decide) (by decide)) (fun r_1 er_1 => ?_)
  refine lv_pop hx hb dL_law_719 rfl ?_
  refine lv_aload_n hx hb dL_law_720 rfl (lv_at hl 1 rfl) ?_
  refine lv_aload_n hx hb dL_law_721 rfl (lv_at hl 3 rfl) ?_
  refine lv_iload_n hx hb dL_law_722 rfl (lv_at hl 0 rfl) ?_
  refine lv_iconst (v := 1) hx hb dL_law_723 (by decide) ?_
  refine lv_iadd hx hb dL_law_724 ?_
  refine ab_i (v := nI (6 * k + 1)) (nI_plus (6 * k) 1) ?_
  refine va_sld hx hb hX hbl hbA hS (lp_in hk hL (by decide)) dL_law_725 ?_
  refine lv_aload_n hx hb dL_law_726 rfl (lv_at hl 3 rfl) ?_
  refine lv_iload_n hx hb dL_law_727 rfl (lv_at hl 0 rfl) ?_
  refine lv_iconst (v := 2) hx hb dL_law_728 (by decide) ?_
  refine lv_iadd hx hb dL_law_729 ?_
  refine ab_i (v := nI (6 * k + 2)) (nI_plus (6 * k) 2) ?_
  refine va_sld hx hb hX hbl hbA hS (lp_in hk hL (by decide)) dL_law_730 ?_
  refine un_gori (w := wM) (wo := wC) (rest := []) hv List.perm_append_comm hx hb hml hown ht wd_X7_sign mw_1413 hQ hV hS hP rfl rfl hl.1 rfl (Nat.le_of_ble_eq_true rfl) dL_law_731 ⟨Nat.le_of_ble_eq_true rfl, Nat.le_of_ble_eq_true rfl, rfl, rfl⟩ (lp_rm (mc := 0) (ms := 0) hk hL (by decide) (by decide)) (fun r_2 er_2 => ?_)
  have hM : m_W q b mn wM := by rw [hn.1]; exact hM
  have hJ := hn.2
  refine lv_pop hx hb dL_law_734 rfl ?_
  refine lv_goto (tgt := 1334) hx hb dL_law_735 (by decide) ?_
  refine W.widen (k := 52 + 15 * (k + 1)) (n := 98998 + 13306 * (k + 1)) (by omega) (by omega) ?_
  exact kk M2 s1 s2 s3 s4 s5 s6 z7 mn wC wM H locs hC hM hJ hP hD hS

set_option maxHeartbeats 4000000 in
set_option maxRecDepth 100000 in
/-- at -/
theorem lc_20 {p : Program} {e : Env} {s : State} {m : MethodId} {below : List Frame} {meth : Method} {c : Code} {l : Launch} {b0 L : Nat} {xs : Nat → Int32} (C0 : lw_At p s m meth c b0 L xs) (hL : L ≤ 3072) {k : Nat} (hk : 6 * k + 6 ≤ L) {D : va_G} {q : Nat → ClassId} (hQ : kn D q s) (hV : sv q (fun x : Nat => s.heap.size ≤ x) s s.heap) {a b : Nat} {N : Int} {s1 : Tp} {s2 s3 : Bd} {s4 : Mo} {s5 : Pg} {s6 : Pa} {z7 : Nat → Option Bd} {md : Md} {wC wM : va_W} (hC : c_W q a s1 s2 s3 s4 s5 s6 z7 wC) (hM : m_W q b md wM) (hJ : JJ N s1 s2 s3 s4 s5 s6 z7 md) {H : Heap} {locs : List Loc} {ls : Array Slot} (hP : va_P D vwCl (wC ++ wM) H) (hD : va_D (fun x : Nat => s.heap.size ≤ x) (wC ++ wM)) (hS : va_S (fun x : Nat => s.heap.size ≤ x) s.heap H locs) (hl : lv_has ls 4 [(3, .int (nI (6 * k))), (2, .ref b), (1, .ref a), (0, .ref b0)]) (kk : ∀ (N2 : Int) (t1 : Tp) (t2 t3 : Bd) (t4 : Mo) (t5 : Pg) (t6 : Pa) (t7 : Nat → Option Bd) (m2 : Md) (wC2 wM2 : va_W) (H : Heap) (locs : List Loc), c_W q a t1 t2 t3 t4 t5 t6 t7 wC2 → m_W q b m2 wM2 → JJ N2 t1 t2 t3 t4 t5 t6 t7 m2 → va_P D vwCl (wC2 ++ wM2) H → va_D (fun x : Nat => s.heap.size ≤ x) (wC2 ++ wM2) → va_S (fun x : Nat => s.heap.size ≤ x) s.heap H locs → W p l e room_1 s m #[Value.ref b0] below meth c H locs (52 + 15 * (k + 1)) (98998 + 13306 * (k + 1)) (lw_Z below #[Value.ref b0] s) (F0 m 1334 ls [])) : W p l e room_1 s m #[Value.ref b0] below meth c H locs (52 + 15 * k) (98998 + 13306 * k) (lw_Z below #[Value.ref b0] s) (F0 m 738 ls []) := by
  obtain ⟨hx, hb, hr, hml, hown, hts, hX, hbl, hlocks, hgv⟩ := id C0
  have ht : ∀ w ∈ w_all, w.before #[Value.ref b0] s = true := fun w h => hts w (w_tbl h)
  have hA : ∀ x : Nat, s.heap.size ≤ x → (fun x : Nat => s.heap.size ≤ x) x := fun _ h => h
  have hbA : ¬ (fun x : Nat => s.heap.size ≤ x) b0 := Nat.not_le.mpr hbl
  have hown : s.vm.findClass RL = some m.cls := hown
  refine lv_aload_n hx hb dL_law_738 rfl (lv_at hl 2 rfl) ?_
  refine lv_aload_n hx hb dL_law_739 rfl (lv_at hl 3 rfl) ?_
  refine lv_iload_n hx hb dL_law_740 rfl (lv_at hl 0 rfl) ?_
  refine lv_iconst (v := 1) hx hb dL_law_741 (by decide) ?_
  refine lv_iadd hx hb dL_law_742 ?_
  refine ab_i (v := nI (6 * k + 1)) (nI_plus (6 * k) 1) ?_
  refine va_sld hx hb hX hbl hbA hS (lp_in hk hL (by decide)) dL_law_743 ?_
  refine lv_aload_n hx hb dL_law_744 rfl (lv_at hl 3 rfl) ?_
  refine lv_iload_n hx hb dL_law_745 rfl (lv_at hl 0 rfl) ?_
  refine lv_iconst (v := 2) hx hb dL_law_746 (by decide) ?_
  refine lv_iadd hx hb dL_law_747 ?_
  refine ab_i (v := nI (6 * k + 2)) (nI_plus (6 * k) 2) ?_
  refine va_sld hx hb hX hbl hbA hS (lp_in hk hL (by decide)) dL_law_748 ?_
  refine lv_aload_n hx hb dL_law_749 rfl (lv_at hl 3 rfl) ?_
  refine lv_iload_n hx hb dL_law_750 rfl (lv_at hl 0 rfl) ?_
  refine lv_iconst (v := 3) hx hb dL_law_751 (by decide) ?_
  refine lv_iadd hx hb dL_law_752 ?_
  refine ab_i (v := nI (6 * k + 3)) (nI_plus (6 * k) 3) ?_
  refine va_sld hx hb hX hbl hbA hS (lp_in hk hL (by decide)) dL_law_753 ?_
  obtain ⟨r6, r7, M2, mn, hu, hv, hn⟩ := pl_at (l := l) (D := D) (x1 := (xs (Int32.toNatClampNeg (nI (6 * k + 1))))) (x2 := (xs (Int32.toNatClampNeg (nI (6 * k + 2))))) (x3 := (xs (Int32.toNatClampNeg (nI (6 * k + 3))))) hC hM hJ
  refine un_gori (w := wC) (wo := wM) (rest := []) hu (List.Perm.refl _) hx hb hml hown ht wd_X6_at mw_935 hQ hV hS hP rfl rfl hl.1 rfl (Nat.le_of_ble_eq_true rfl) dL_law_754 ⟨Nat.le_of_ble_eq_true rfl, Nat.le_of_ble_eq_true rfl, rfl, rfl⟩ (lp_rm (mc := 0) (ms := 0) hk hL (by decide) (by decide)) (fun r_1 er_1 => ?_)
  refine lv_pop hx hb dL_law_757 rfl ?_
  refine lv_aload_n hx hb dL_law_758 rfl (lv_at hl 1 rfl) ?_
  refine lv_aload_n hx hb dL_law_759 rfl (lv_at hl 3 rfl) ?_
  refine lv_iload_n hx hb dL_law_760 rfl (lv_at hl 0 rfl) ?_
  refine lv_iconst (v := 1) hx hb dL_law_761 (by decide) ?_
  refine lv_iadd hx hb dL_law_762 ?_
  refine ab_i (v := nI (6 * k + 1)) (nI_plus (6 * k) 1) ?_
  refine va_sld hx hb hX hbl hbA hS (lp_in hk hL (by decide)) dL_law_763 ?_
  refine lv_aload_n hx hb dL_law_764 rfl (lv_at hl 3 rfl) ?_
  refine lv_iload_n hx hb dL_law_765 rfl (lv_at hl 0 rfl) ?_
  refine lv_iconst (v := 2) hx hb dL_law_766 (by decide) ?_
  refine lv_iadd hx hb dL_law_767 ?_
  refine ab_i (v := nI (6 * k + 2)) (nI_plus (6 * k) 2) ?_
  refine va_sld hx hb hX hbl hbA hS (lp_in hk hL (by decide)) dL_law_768 ?_
  refine lv_aload_n hx hb dL_law_769 rfl (lv_at hl 3 rfl) ?_
  refine lv_iload_n hx hb dL_law_770 rfl (lv_at hl 0 rfl) ?_
  refine lv_iconst (v := 3) hx hb dL_law_771 (by decide) ?_
  refine lv_iadd hx hb dL_law_772 ?_
  refine ab_i (v := nI (6 * k + 3)) (nI_plus (6 * k) 3) ?_
  refine va_sld hx hb hX hbl hbA hS (lp_in hk hL (by decide)) dL_law_773 ?_
  refine un_gori (w := wM) (wo := wC) (rest := []) hv List.perm_append_comm hx hb hml hown ht wd_X7_at mw_1417 hQ hV hS hP rfl rfl hl.1 rfl (Nat.le_of_ble_eq_true rfl) dL_law_774 ⟨Nat.le_of_ble_eq_true rfl, Nat.le_of_ble_eq_true rfl, rfl, rfl⟩ (lp_rm (mc := 0) (ms := 0) hk hL (by decide) (by decide)) (fun r_2 er_2 => ?_)
  have hM : m_W q b mn wM := by rw [hn.1]; exact hM
  have hJ := hn.2
  refine lv_pop hx hb dL_law_777 rfl ?_
  refine lv_goto (tgt := 1334) hx hb dL_law_778 (by decide) ?_
  refine W.widen (k := 52 + 15 * (k + 1)) (n := 98998 + 13306 * (k + 1)) (by omega) (by omega) ?_
  exact kk M2 s1 s2 s3 s4 s5 s6 z7 mn wC wM H locs hC hM hJ hP hD hS

set_option maxHeartbeats 4000000 in
set_option maxRecDepth 100000 in
/-- which -/
theorem lc_21 {p : Program} {e : Env} {s : State} {m : MethodId} {below : List Frame} {meth : Method} {c : Code} {l : Launch} {b0 L : Nat} {xs : Nat → Int32} (C0 : lw_At p s m meth c b0 L xs) (hL : L ≤ 3072) {k : Nat} (hk : 6 * k + 6 ≤ L) {D : va_G} {q : Nat → ClassId} (hQ : kn D q s) (hV : sv q (fun x : Nat => s.heap.size ≤ x) s s.heap) {a b : Nat} {N : Int} {s1 : Tp} {s2 s3 : Bd} {s4 : Mo} {s5 : Pg} {s6 : Pa} {z7 : Nat → Option Bd} {md : Md} {wC wM : va_W} (hC : c_W q a s1 s2 s3 s4 s5 s6 z7 wC) (hM : m_W q b md wM) (hJ : JJ N s1 s2 s3 s4 s5 s6 z7 md) {H : Heap} {locs : List Loc} {ls : Array Slot} (hP : va_P D vwCl (wC ++ wM) H) (hD : va_D (fun x : Nat => s.heap.size ≤ x) (wC ++ wM)) (hS : va_S (fun x : Nat => s.heap.size ≤ x) s.heap H locs) (hl : lv_has ls 4 [(3, .int (nI (6 * k))), (2, .ref b), (1, .ref a), (0, .ref b0)]) (kk : ∀ (N2 : Int) (t1 : Tp) (t2 t3 : Bd) (t4 : Mo) (t5 : Pg) (t6 : Pa) (t7 : Nat → Option Bd) (m2 : Md) (wC2 wM2 : va_W) (H : Heap) (locs : List Loc), c_W q a t1 t2 t3 t4 t5 t6 t7 wC2 → m_W q b m2 wM2 → JJ N2 t1 t2 t3 t4 t5 t6 t7 m2 → va_P D vwCl (wC2 ++ wM2) H → va_D (fun x : Nat => s.heap.size ≤ x) (wC2 ++ wM2) → va_S (fun x : Nat => s.heap.size ≤ x) s.heap H locs → W p l e room_1 s m #[Value.ref b0] below meth c H locs (52 + 15 * (k + 1)) (98998 + 13306 * (k + 1)) (lw_Z below #[Value.ref b0] s) (F0 m 1334 ls [])) : W p l e room_1 s m #[Value.ref b0] below meth c H locs (52 + 15 * k) (98998 + 13306 * k) (lw_Z below #[Value.ref b0] s) (F0 m 781 ls []) := by
  obtain ⟨hx, hb, hr, hml, hown, hts, hX, hbl, hlocks, hgv⟩ := id C0
  have ht : ∀ w ∈ w_all, w.before #[Value.ref b0] s = true := fun w h => hts w (w_tbl h)
  have hA : ∀ x : Nat, s.heap.size ≤ x → (fun x : Nat => s.heap.size ≤ x) x := fun _ h => h
  have hbA : ¬ (fun x : Nat => s.heap.size ≤ x) b0 := Nat.not_le.mpr hbl
  have hown : s.vm.findClass RL = some m.cls := hown
  refine lv_aload_n hx hb dL_law_781 rfl (lv_at hl 2 rfl) ?_
  refine lv_aload_n hx hb dL_law_782 rfl (lv_at hl 3 rfl) ?_
  refine lv_iload_n hx hb dL_law_783 rfl (lv_at hl 0 rfl) ?_
  refine lv_iconst (v := 1) hx hb dL_law_784 (by decide) ?_
  refine lv_iadd hx hb dL_law_785 ?_
  refine ab_i (v := nI (6 * k + 1)) (nI_plus (6 * k) 1) ?_
  refine va_sld hx hb hX hbl hbA hS (lp_in hk hL (by decide)) dL_law_786 ?_
  obtain ⟨r6, r7, M2, s4n, mn, hu, hv, hn⟩ := pl_which (l := l) (D := D) (x1 := (xs (Int32.toNatClampNeg (nI (6 * k + 1))))) hC hM hJ
  refine un_gol (w := wC) (wo := wM) (rest := []) hu (List.Perm.refl _) hx hb hml hown ht wd_X6_which mw_940 hQ hV hS hA hP hD rfl rfl hl.1 rfl (Nat.le_of_ble_eq_true rfl) dL_law_787 ⟨Nat.le_of_ble_eq_true rfl, Nat.le_of_ble_eq_true rfl, rfl, rfl⟩ (lp_rm (mc := 0) (ms := 0) hk hL (by decide) (by decide)) (fun r_1 wr_1 H locs er_1 hP hD hS => ?_)
  obtain ⟨fr_1, hC⟩ := er_1
  refine lv_pop2_2 hx hb dL_law_790 rfl ?_
  refine lv_aload_n hx hb dL_law_791 rfl (lv_at hl 1 rfl) ?_
  refine lv_aload_n hx hb dL_law_792 rfl (lv_at hl 3 rfl) ?_
  refine lv_iload_n hx hb dL_law_793 rfl (lv_at hl 0 rfl) ?_
  refine lv_iconst (v := 1) hx hb dL_law_794 (by decide) ?_
  refine lv_iadd hx hb dL_law_795 ?_
  refine ab_i (v := nI (6 * k + 1)) (nI_plus (6 * k) 1) ?_
  refine va_sld hx hb hX hbl hbA hS (lp_in hk hL (by decide)) dL_law_796 ?_
  refine un_gol (w := wM) (wo := wr_1) (rest := []) hv List.perm_append_comm hx hb hml hown ht wd_X7_which mw_1426 hQ hV hS hA hP hD rfl rfl hl.1 rfl (Nat.le_of_ble_eq_true rfl) dL_law_797 ⟨Nat.le_of_ble_eq_true rfl, Nat.le_of_ble_eq_true rfl, rfl, rfl⟩ (lp_rm (mc := 0) (ms := 0) hk hL (by decide) (by decide)) (fun r_2 wr_2 H locs er_2 hP hD hS => ?_)
  obtain ⟨fr_2, hM⟩ := er_2
  have hP := vp_perm List.perm_append_comm hP
  have hD := vd_perm List.perm_append_comm hD
  have hJ := hn
  refine lv_pop2_2 hx hb dL_law_800 rfl ?_
  refine lv_goto (tgt := 1334) hx hb dL_law_801 (by decide) ?_
  refine W.widen (k := 52 + 15 * (k + 1)) (n := 98998 + 13306 * (k + 1)) (by omega) (by omega) ?_
  exact kk M2 s1 s2 s3 s4n s5 s6 z7 mn wr_1 wr_2 H locs hC hM hJ hP hD hS

set_option maxHeartbeats 4000000 in
set_option maxRecDepth 100000 in
/-- left -/
theorem lc_22 {p : Program} {e : Env} {s : State} {m : MethodId} {below : List Frame} {meth : Method} {c : Code} {l : Launch} {b0 L : Nat} {xs : Nat → Int32} (C0 : lw_At p s m meth c b0 L xs) (hL : L ≤ 3072) {k : Nat} (hk : 6 * k + 6 ≤ L) {D : va_G} {q : Nat → ClassId} (hQ : kn D q s) (hV : sv q (fun x : Nat => s.heap.size ≤ x) s s.heap) {a b : Nat} {N : Int} {s1 : Tp} {s2 s3 : Bd} {s4 : Mo} {s5 : Pg} {s6 : Pa} {z7 : Nat → Option Bd} {md : Md} {wC wM : va_W} (hC : c_W q a s1 s2 s3 s4 s5 s6 z7 wC) (hM : m_W q b md wM) (hJ : JJ N s1 s2 s3 s4 s5 s6 z7 md) {H : Heap} {locs : List Loc} {ls : Array Slot} (hP : va_P D vwCl (wC ++ wM) H) (hD : va_D (fun x : Nat => s.heap.size ≤ x) (wC ++ wM)) (hS : va_S (fun x : Nat => s.heap.size ≤ x) s.heap H locs) (hl : lv_has ls 4 [(3, .int (nI (6 * k))), (2, .ref b), (1, .ref a), (0, .ref b0)]) (kk : ∀ (N2 : Int) (t1 : Tp) (t2 t3 : Bd) (t4 : Mo) (t5 : Pg) (t6 : Pa) (t7 : Nat → Option Bd) (m2 : Md) (wC2 wM2 : va_W) (H : Heap) (locs : List Loc), c_W q a t1 t2 t3 t4 t5 t6 t7 wC2 → m_W q b m2 wM2 → JJ N2 t1 t2 t3 t4 t5 t6 t7 m2 → va_P D vwCl (wC2 ++ wM2) H → va_D (fun x : Nat => s.heap.size ≤ x) (wC2 ++ wM2) → va_S (fun x : Nat => s.heap.size ≤ x) s.heap H locs → W p l e room_1 s m #[Value.ref b0] below meth c H locs (52 + 15 * (k + 1)) (98998 + 13306 * (k + 1)) (lw_Z below #[Value.ref b0] s) (F0 m 1334 ls [])) : W p l e room_1 s m #[Value.ref b0] below meth c H locs (52 + 15 * k) (98998 + 13306 * k) (lw_Z below #[Value.ref b0] s) (F0 m 804 ls []) := by
  obtain ⟨hx, hb, hr, hml, hown, hts, hX, hbl, hlocks, hgv⟩ := id C0
  have ht : ∀ w ∈ w_all, w.before #[Value.ref b0] s = true := fun w h => hts w (w_tbl h)
  have hA : ∀ x : Nat, s.heap.size ≤ x → (fun x : Nat => s.heap.size ≤ x) x := fun _ h => h
  have hbA : ¬ (fun x : Nat => s.heap.size ≤ x) b0 := Nat.not_le.mpr hbl
  have hown : s.vm.findClass RL = some m.cls := hown
  refine lv_aload_n hx hb dL_law_804 rfl (lv_at hl 2 rfl) ?_
  refine lv_aload_n hx hb dL_law_805 rfl (lv_at hl 3 rfl) ?_
  refine lv_iload_n hx hb dL_law_806 rfl (lv_at hl 0 rfl) ?_
  refine lv_iconst (v := 1) hx hb dL_law_807 (by decide) ?_
  refine lv_iadd hx hb dL_law_808 ?_
  refine ab_i (v := nI (6 * k + 1)) (nI_plus (6 * k) 1) ?_
  refine va_sld hx hb hX hbl hbA hS (lp_in hk hL (by decide)) dL_law_809 ?_
  obtain ⟨r6, r7, M2, mn, hu, hv, hn⟩ := pl_left (l := l) (D := D) (x1 := (xs (Int32.toNatClampNeg (nI (6 * k + 1))))) hC hM hJ
  refine un_gori (w := wC) (wo := wM) (rest := []) hu (List.Perm.refl _) hx hb hml hown ht wd_X6_left mw_957 hQ hV hS hP rfl rfl hl.1 rfl (Nat.le_of_ble_eq_true rfl) dL_law_810 ⟨Nat.le_of_ble_eq_true rfl, Nat.le_of_ble_eq_true rfl, rfl, rfl⟩ (lp_rm (mc := 0) (ms := 0) hk hL (by decide) (by decide)) (fun r_1 er_1 => ?_)
  refine lv_pop hx hb dL_law_813 rfl ?_
  refine lv_aload_n hx hb dL_law_814 rfl (lv_at hl 1 rfl) ?_
  refine lv_aload_n hx hb dL_law_815 rfl (lv_at hl 3 rfl) ?_
  refine lv_iload_n hx hb dL_law_816 rfl (lv_at hl 0 rfl) ?_
  refine lv_iconst (v := 1) hx hb dL_law_817 (by decide) ?_
  refine lv_iadd hx hb dL_law_818 ?_
  refine ab_i (v := nI (6 * k + 1)) (nI_plus (6 * k) 1) ?_
  refine va_sld hx hb hX hbl hbA hS (lp_in hk hL (by decide)) dL_law_819 ?_
  refine un_gori (w := wM) (wo := wC) (rest := []) hv List.perm_append_comm hx hb hml hown ht wd_X7_left mw_1439 hQ hV hS hP rfl rfl hl.1 rfl (Nat.le_of_ble_eq_true rfl) dL_law_820 ⟨Nat.le_of_ble_eq_true rfl, Nat.le_of_ble_eq_true rfl, rfl, rfl⟩ (lp_rm (mc := 0) (ms := 0) hk hL (by decide) (by decide)) (fun r_2 er_2 => ?_)
  have hM : m_W q b mn wM := by rw [hn.1]; exact hM
  have hJ := hn.2
  refine lv_pop hx hb dL_law_823 rfl ?_
  refine lv_goto (tgt := 1334) hx hb dL_law_824 (by decide) ?_
  refine W.widen (k := 52 + 15 * (k + 1)) (n := 98998 + 13306 * (k + 1)) (by omega) (by omega) ?_
  exact kk M2 s1 s2 s3 s4 s5 s6 z7 mn wC wM H locs hC hM hJ hP hD hS

set_option maxHeartbeats 4000000 in
set_option maxRecDepth 100000 in
/-- when -/
theorem lc_23 {p : Program} {e : Env} {s : State} {m : MethodId} {below : List Frame} {meth : Method} {c : Code} {l : Launch} {b0 L : Nat} {xs : Nat → Int32} (C0 : lw_At p s m meth c b0 L xs) (hL : L ≤ 3072) {k : Nat} (hk : 6 * k + 6 ≤ L) {D : va_G} {q : Nat → ClassId} (hQ : kn D q s) (hV : sv q (fun x : Nat => s.heap.size ≤ x) s s.heap) {a b : Nat} {N : Int} {s1 : Tp} {s2 s3 : Bd} {s4 : Mo} {s5 : Pg} {s6 : Pa} {z7 : Nat → Option Bd} {md : Md} {wC wM : va_W} (hC : c_W q a s1 s2 s3 s4 s5 s6 z7 wC) (hM : m_W q b md wM) (hJ : JJ N s1 s2 s3 s4 s5 s6 z7 md) {H : Heap} {locs : List Loc} {ls : Array Slot} (hP : va_P D vwCl (wC ++ wM) H) (hD : va_D (fun x : Nat => s.heap.size ≤ x) (wC ++ wM)) (hS : va_S (fun x : Nat => s.heap.size ≤ x) s.heap H locs) (hl : lv_has ls 4 [(3, .int (nI (6 * k))), (2, .ref b), (1, .ref a), (0, .ref b0)]) (kk : ∀ (N2 : Int) (t1 : Tp) (t2 t3 : Bd) (t4 : Mo) (t5 : Pg) (t6 : Pa) (t7 : Nat → Option Bd) (m2 : Md) (wC2 wM2 : va_W) (H : Heap) (locs : List Loc), c_W q a t1 t2 t3 t4 t5 t6 t7 wC2 → m_W q b m2 wM2 → JJ N2 t1 t2 t3 t4 t5 t6 t7 m2 → va_P D vwCl (wC2 ++ wM2) H → va_D (fun x : Nat => s.heap.size ≤ x) (wC2 ++ wM2) → va_S (fun x : Nat => s.heap.size ≤ x) s.heap H locs → W p l e room_1 s m #[Value.ref b0] below meth c H locs (52 + 15 * (k + 1)) (98998 + 13306 * (k + 1)) (lw_Z below #[Value.ref b0] s) (F0 m 1334 ls [])) : W p l e room_1 s m #[Value.ref b0] below meth c H locs (52 + 15 * k) (98998 + 13306 * k) (lw_Z below #[Value.ref b0] s) (F0 m 827 ls []) := by
  obtain ⟨hx, hb, hr, hml, hown, hts, hX, hbl, hlocks, hgv⟩ := id C0
  have ht : ∀ w ∈ w_all, w.before #[Value.ref b0] s = true := fun w h => hts w (w_tbl h)
  have hA : ∀ x : Nat, s.heap.size ≤ x → (fun x : Nat => s.heap.size ≤ x) x := fun _ h => h
  have hbA : ¬ (fun x : Nat => s.heap.size ≤ x) b0 := Nat.not_le.mpr hbl
  have hown : s.vm.findClass RL = some m.cls := hown
  refine lv_aload_n hx hb dL_law_827 rfl (lv_at hl 2 rfl) ?_
  refine lv_aload_n hx hb dL_law_828 rfl (lv_at hl 3 rfl) ?_
  refine lv_iload_n hx hb dL_law_829 rfl (lv_at hl 0 rfl) ?_
  refine lv_iconst (v := 1) hx hb dL_law_830 (by decide) ?_
  refine lv_iadd hx hb dL_law_831 ?_
  refine ab_i (v := nI (6 * k + 1)) (nI_plus (6 * k) 1) ?_
  refine va_sld hx hb hX hbl hbA hS (lp_in hk hL (by decide)) dL_law_832 ?_
  obtain ⟨r6, r7, M2, s3n, s4n, mn, hu, hv, hn⟩ := pl_when (l := l) (D := D) (x1 := (xs (Int32.toNatClampNeg (nI (6 * k + 1))))) hC hM hJ
  refine un_goi (w := wC) (wo := wM) (rest := []) hu (List.Perm.refl _) hx hb hml hown ht wd_X6_when mw_976 hQ hV hS hA hP hD rfl rfl hl.1 rfl (Nat.le_of_ble_eq_true rfl) dL_law_833 ⟨Nat.le_of_ble_eq_true rfl, Nat.le_of_ble_eq_true rfl, rfl, rfl⟩ (lp_rm (mc := 0) (ms := 0) hk hL (by decide) (by decide)) (fun r_1 wr_1 H locs er_1 hP hD hS => ?_)
  obtain ⟨fr_1, hC⟩ := er_1
  refine lv_pop hx hb dL_law_836 rfl ?_
  refine lv_aload_n hx hb dL_law_837 rfl (lv_at hl 1 rfl) ?_
  refine lv_aload_n hx hb dL_law_838 rfl (lv_at hl 3 rfl) ?_
  refine lv_iload_n hx hb dL_law_839 rfl (lv_at hl 0 rfl) ?_
  refine lv_iconst (v := 1) hx hb dL_law_840 (by decide) ?_
  refine lv_iadd hx hb dL_law_841 ?_
  refine ab_i (v := nI (6 * k + 1)) (nI_plus (6 * k) 1) ?_
  refine va_sld hx hb hX hbl hbA hS (lp_in hk hL (by decide)) dL_law_842 ?_
  refine un_goi (w := wM) (wo := wr_1) (rest := []) hv List.perm_append_comm hx hb hml hown ht wd_X7_when mw_1444 hQ hV hS hA hP hD rfl rfl hl.1 rfl (Nat.le_of_ble_eq_true rfl) dL_law_843 ⟨Nat.le_of_ble_eq_true rfl, Nat.le_of_ble_eq_true rfl, rfl, rfl⟩ (lp_rm (mc := 0) (ms := 0) hk hL (by decide) (by decide)) (fun r_2 wr_2 H locs er_2 hP hD hS => ?_)
  obtain ⟨fr_2, hM⟩ := er_2
  have hP := vp_perm List.perm_append_comm hP
  have hD := vd_perm List.perm_append_comm hD
  have hJ := hn
  refine lv_pop hx hb dL_law_846 rfl ?_
  refine lv_goto (tgt := 1334) hx hb dL_law_847 (by decide) ?_
  refine W.widen (k := 52 + 15 * (k + 1)) (n := 98998 + 13306 * (k + 1)) (by omega) (by omega) ?_
  exact kk M2 s1 s2 s3n s4n s5 s6 z7 mn wr_1 wr_2 H locs hC hM hJ hP hD hS

set_option maxHeartbeats 4000000 in
set_option maxRecDepth 100000 in
/-- loudest -/
theorem lc_24 {p : Program} {e : Env} {s : State} {m : MethodId} {below : List Frame} {meth : Method} {c : Code} {l : Launch} {b0 L : Nat} {xs : Nat → Int32} (C0 : lw_At p s m meth c b0 L xs) (hL : L ≤ 3072) {k : Nat} (hk : 6 * k + 6 ≤ L) {D : va_G} {q : Nat → ClassId} (hQ : kn D q s) (hV : sv q (fun x : Nat => s.heap.size ≤ x) s s.heap) {a b : Nat} {N : Int} {s1 : Tp} {s2 s3 : Bd} {s4 : Mo} {s5 : Pg} {s6 : Pa} {z7 : Nat → Option Bd} {md : Md} {wC wM : va_W} (hC : c_W q a s1 s2 s3 s4 s5 s6 z7 wC) (hM : m_W q b md wM) (hJ : JJ N s1 s2 s3 s4 s5 s6 z7 md) {H : Heap} {locs : List Loc} {ls : Array Slot} (hP : va_P D vwCl (wC ++ wM) H) (hD : va_D (fun x : Nat => s.heap.size ≤ x) (wC ++ wM)) (hS : va_S (fun x : Nat => s.heap.size ≤ x) s.heap H locs) (hl : lv_has ls 4 [(3, .int (nI (6 * k))), (2, .ref b), (1, .ref a), (0, .ref b0)]) (kk : ∀ (N2 : Int) (t1 : Tp) (t2 t3 : Bd) (t4 : Mo) (t5 : Pg) (t6 : Pa) (t7 : Nat → Option Bd) (m2 : Md) (wC2 wM2 : va_W) (H : Heap) (locs : List Loc), c_W q a t1 t2 t3 t4 t5 t6 t7 wC2 → m_W q b m2 wM2 → JJ N2 t1 t2 t3 t4 t5 t6 t7 m2 → va_P D vwCl (wC2 ++ wM2) H → va_D (fun x : Nat => s.heap.size ≤ x) (wC2 ++ wM2) → va_S (fun x : Nat => s.heap.size ≤ x) s.heap H locs → W p l e room_1 s m #[Value.ref b0] below meth c H locs (52 + 15 * (k + 1)) (98998 + 13306 * (k + 1)) (lw_Z below #[Value.ref b0] s) (F0 m 1334 ls [])) : W p l e room_1 s m #[Value.ref b0] below meth c H locs (52 + 15 * k) (98998 + 13306 * k) (lw_Z below #[Value.ref b0] s) (F0 m 850 ls []) := by
  obtain ⟨hx, hb, hr, hml, hown, hts, hX, hbl, hlocks, hgv⟩ := id C0
  have ht : ∀ w ∈ w_all, w.before #[Value.ref b0] s = true := fun w h => hts w (w_tbl h)
  have hA : ∀ x : Nat, s.heap.size ≤ x → (fun x : Nat => s.heap.size ≤ x) x := fun _ h => h
  have hbA : ¬ (fun x : Nat => s.heap.size ≤ x) b0 := Nat.not_le.mpr hbl
  have hown : s.vm.findClass RL = some m.cls := hown
  refine lv_aload_n hx hb dL_law_850 rfl (lv_at hl 2 rfl) ?_
  refine lv_aload_n hx hb dL_law_851 rfl (lv_at hl 3 rfl) ?_
  refine lv_iload_n hx hb dL_law_852 rfl (lv_at hl 0 rfl) ?_
  refine lv_iconst (v := 1) hx hb dL_law_853 (by decide) ?_
  refine lv_iadd hx hb dL_law_854 ?_
  refine ab_i (v := nI (6 * k + 1)) (nI_plus (6 * k) 1) ?_
  refine va_sld hx hb hX hbl hbA hS (lp_in hk hL (by decide)) dL_law_855 ?_
  obtain ⟨r6, r7, M2, s3n, s4n, mn, hu, hv, hn⟩ := pl_loudest (l := l) (D := D) (x1 := (xs (Int32.toNatClampNeg (nI (6 * k + 1))))) hC hM hJ
  refine un_goi (w := wC) (wo := wM) (rest := []) hu (List.Perm.refl _) hx hb hml hown ht wd_X6_loudest mw_989 hQ hV hS hA hP hD rfl rfl hl.1 rfl (Nat.le_of_ble_eq_true rfl) dL_law_856 ⟨Nat.le_of_ble_eq_true rfl, Nat.le_of_ble_eq_true rfl, rfl, rfl⟩ (lp_rm (mc := 0) (ms := 0) hk hL (by decide) (by decide)) (fun r_1 wr_1 H locs er_1 hP hD hS => ?_)
  obtain ⟨fr_1, hC⟩ := er_1
  refine lv_pop hx hb dL_law_859 rfl ?_
  refine lv_aload_n hx hb dL_law_860 rfl (lv_at hl 1 rfl) ?_
  refine lv_aload_n hx hb dL_law_861 rfl (lv_at hl 3 rfl) ?_
  refine lv_iload_n hx hb dL_law_862 rfl (lv_at hl 0 rfl) ?_
  refine lv_iconst (v := 1) hx hb dL_law_863 (by decide) ?_
  refine lv_iadd hx hb dL_law_864 ?_
  refine ab_i (v := nI (6 * k + 1)) (nI_plus (6 * k) 1) ?_
  refine va_sld hx hb hX hbl hbA hS (lp_in hk hL (by decide)) dL_law_865 ?_
  refine un_goi (w := wM) (wo := wr_1) (rest := []) hv List.perm_append_comm hx hb hml hown ht wd_X7_loudest mw_1696 hQ hV hS hA hP hD rfl rfl hl.1 rfl (Nat.le_of_ble_eq_true rfl) dL_law_866 ⟨Nat.le_of_ble_eq_true rfl, Nat.le_of_ble_eq_true rfl, rfl, rfl⟩ (lp_rm (mc := 0) (ms := 0) hk hL (by decide) (by decide)) (fun r_2 wr_2 H locs er_2 hP hD hS => ?_)
  obtain ⟨fr_2, hM⟩ := er_2
  have hP := vp_perm List.perm_append_comm hP
  have hD := vd_perm List.perm_append_comm hD
  have hJ := hn
  refine lv_pop hx hb dL_law_869 rfl ?_
  refine lv_goto (tgt := 1334) hx hb dL_law_870 (by decide) ?_
  refine W.widen (k := 52 + 15 * (k + 1)) (n := 98998 + 13306 * (k + 1)) (by omega) (by omega) ?_
  exact kk M2 s1 s2 s3n s4n s5 s6 z7 mn wr_1 wr_2 H locs hC hM hJ hP hD hS

set_option maxHeartbeats 4000000 in
set_option maxRecDepth 100000 in
/-- total -/
theorem lc_25 {p : Program} {e : Env} {s : State} {m : MethodId} {below : List Frame} {meth : Method} {c : Code} {l : Launch} {b0 L : Nat} {xs : Nat → Int32} (C0 : lw_At p s m meth c b0 L xs) (hL : L ≤ 3072) {k : Nat} (hk : 6 * k + 6 ≤ L) {D : va_G} {q : Nat → ClassId} (hQ : kn D q s) (hV : sv q (fun x : Nat => s.heap.size ≤ x) s s.heap) {a b : Nat} {N : Int} {s1 : Tp} {s2 s3 : Bd} {s4 : Mo} {s5 : Pg} {s6 : Pa} {z7 : Nat → Option Bd} {md : Md} {wC wM : va_W} (hC : c_W q a s1 s2 s3 s4 s5 s6 z7 wC) (hM : m_W q b md wM) (hJ : JJ N s1 s2 s3 s4 s5 s6 z7 md) {H : Heap} {locs : List Loc} {ls : Array Slot} (hP : va_P D vwCl (wC ++ wM) H) (hD : va_D (fun x : Nat => s.heap.size ≤ x) (wC ++ wM)) (hS : va_S (fun x : Nat => s.heap.size ≤ x) s.heap H locs) (hl : lv_has ls 4 [(3, .int (nI (6 * k))), (2, .ref b), (1, .ref a), (0, .ref b0)]) (kk : ∀ (N2 : Int) (t1 : Tp) (t2 t3 : Bd) (t4 : Mo) (t5 : Pg) (t6 : Pa) (t7 : Nat → Option Bd) (m2 : Md) (wC2 wM2 : va_W) (H : Heap) (locs : List Loc), c_W q a t1 t2 t3 t4 t5 t6 t7 wC2 → m_W q b m2 wM2 → JJ N2 t1 t2 t3 t4 t5 t6 t7 m2 → va_P D vwCl (wC2 ++ wM2) H → va_D (fun x : Nat => s.heap.size ≤ x) (wC2 ++ wM2) → va_S (fun x : Nat => s.heap.size ≤ x) s.heap H locs → W p l e room_1 s m #[Value.ref b0] below meth c H locs (52 + 15 * (k + 1)) (98998 + 13306 * (k + 1)) (lw_Z below #[Value.ref b0] s) (F0 m 1334 ls [])) : W p l e room_1 s m #[Value.ref b0] below meth c H locs (52 + 15 * k) (98998 + 13306 * k) (lw_Z below #[Value.ref b0] s) (F0 m 873 ls []) := by
  obtain ⟨hx, hb, hr, hml, hown, hts, hX, hbl, hlocks, hgv⟩ := id C0
  have ht : ∀ w ∈ w_all, w.before #[Value.ref b0] s = true := fun w h => hts w (w_tbl h)
  have hA : ∀ x : Nat, s.heap.size ≤ x → (fun x : Nat => s.heap.size ≤ x) x := fun _ h => h
  have hbA : ¬ (fun x : Nat => s.heap.size ≤ x) b0 := Nat.not_le.mpr hbl
  have hown : s.vm.findClass RL = some m.cls := hown
  refine lv_aload_n hx hb dL_law_873 rfl (lv_at hl 2 rfl) ?_
  refine lv_aload_n hx hb dL_law_874 rfl (lv_at hl 3 rfl) ?_
  refine lv_iload_n hx hb dL_law_875 rfl (lv_at hl 0 rfl) ?_
  refine lv_iconst (v := 1) hx hb dL_law_876 (by decide) ?_
  refine lv_iadd hx hb dL_law_877 ?_
  refine ab_i (v := nI (6 * k + 1)) (nI_plus (6 * k) 1) ?_
  refine va_sld hx hb hX hbl hbA hS (lp_in hk hL (by decide)) dL_law_878 ?_
  obtain ⟨r6, r7, M2, mn, hu, hv, hn⟩ := pl_total (l := l) (D := D) (x1 := (xs (Int32.toNatClampNeg (nI (6 * k + 1))))) hC hM hJ
  refine un_gori (w := wC) (wo := wM) (rest := []) hu (List.Perm.refl _) hx hb hml hown ht wd_X6_total mw_993 hQ hV hS hP rfl rfl hl.1 rfl (Nat.le_of_ble_eq_true rfl) dL_law_879 ⟨Nat.le_of_ble_eq_true rfl, Nat.le_of_ble_eq_true rfl, rfl, rfl⟩ (lp_rm (mc := 0) (ms := 0) hk hL (by decide) (by decide)) (fun r_1 er_1 => ?_)
  refine lv_pop hx hb dL_law_882 rfl ?_
  refine lv_aload_n hx hb dL_law_883 rfl (lv_at hl 1 rfl) ?_
  refine lv_aload_n hx hb dL_law_884 rfl (lv_at hl 3 rfl) ?_
  refine lv_iload_n hx hb dL_law_885 rfl (lv_at hl 0 rfl) ?_
  refine lv_iconst (v := 1) hx hb dL_law_886 (by decide) ?_
  refine lv_iadd hx hb dL_law_887 ?_
  refine ab_i (v := nI (6 * k + 1)) (nI_plus (6 * k) 1) ?_
  refine va_sld hx hb hX hbl hbA hS (lp_in hk hL (by decide)) dL_law_888 ?_
  refine un_gori (w := wM) (wo := wC) (rest := []) hv List.perm_append_comm hx hb hml hown ht wd_X7_total mw_1461 hQ hV hS hP rfl rfl hl.1 rfl (Nat.le_of_ble_eq_true rfl) dL_law_889 ⟨Nat.le_of_ble_eq_true rfl, Nat.le_of_ble_eq_true rfl, rfl, rfl⟩ (lp_rm (mc := 0) (ms := 0) hk hL (by decide) (by decide)) (fun r_2 er_2 => ?_)
  have hM : m_W q b mn wM := by rw [hn.1]; exact hM
  have hJ := hn.2
  refine lv_pop hx hb dL_law_892 rfl ?_
  refine lv_goto (tgt := 1334) hx hb dL_law_893 (by decide) ?_
  refine W.widen (k := 52 + 15 * (k + 1)) (n := 98998 + 13306 * (k + 1)) (by omega) (by omega) ?_
  exact kk M2 s1 s2 s3 s4 s5 s6 z7 mn wC wM H locs hC hM hJ hP hD hS

set_option maxHeartbeats 4000000 in
set_option maxRecDepth 100000 in
/-- cost -/
theorem lc_26 {p : Program} {e : Env} {s : State} {m : MethodId} {below : List Frame} {meth : Method} {c : Code} {l : Launch} {b0 L : Nat} {xs : Nat → Int32} (C0 : lw_At p s m meth c b0 L xs) (hL : L ≤ 3072) {k : Nat} (hk : 6 * k + 6 ≤ L) {D : va_G} {q : Nat → ClassId} (hQ : kn D q s) (hV : sv q (fun x : Nat => s.heap.size ≤ x) s s.heap) {a b : Nat} {N : Int} {s1 : Tp} {s2 s3 : Bd} {s4 : Mo} {s5 : Pg} {s6 : Pa} {z7 : Nat → Option Bd} {md : Md} {wC wM : va_W} (hC : c_W q a s1 s2 s3 s4 s5 s6 z7 wC) (hM : m_W q b md wM) (hJ : JJ N s1 s2 s3 s4 s5 s6 z7 md) {H : Heap} {locs : List Loc} {ls : Array Slot} (hP : va_P D vwCl (wC ++ wM) H) (hD : va_D (fun x : Nat => s.heap.size ≤ x) (wC ++ wM)) (hS : va_S (fun x : Nat => s.heap.size ≤ x) s.heap H locs) (hl : lv_has ls 4 [(3, .int (nI (6 * k))), (2, .ref b), (1, .ref a), (0, .ref b0)]) (kk : ∀ (N2 : Int) (t1 : Tp) (t2 t3 : Bd) (t4 : Mo) (t5 : Pg) (t6 : Pa) (t7 : Nat → Option Bd) (m2 : Md) (wC2 wM2 : va_W) (H : Heap) (locs : List Loc), c_W q a t1 t2 t3 t4 t5 t6 t7 wC2 → m_W q b m2 wM2 → JJ N2 t1 t2 t3 t4 t5 t6 t7 m2 → va_P D vwCl (wC2 ++ wM2) H → va_D (fun x : Nat => s.heap.size ≤ x) (wC2 ++ wM2) → va_S (fun x : Nat => s.heap.size ≤ x) s.heap H locs → W p l e room_1 s m #[Value.ref b0] below meth c H locs (52 + 15 * (k + 1)) (98998 + 13306 * (k + 1)) (lw_Z below #[Value.ref b0] s) (F0 m 1334 ls [])) : W p l e room_1 s m #[Value.ref b0] below meth c H locs (52 + 15 * k) (98998 + 13306 * k) (lw_Z below #[Value.ref b0] s) (F0 m 896 ls []) := by
  obtain ⟨hx, hb, hr, hml, hown, hts, hX, hbl, hlocks, hgv⟩ := id C0
  have ht : ∀ w ∈ w_all, w.before #[Value.ref b0] s = true := fun w h => hts w (w_tbl h)
  have hA : ∀ x : Nat, s.heap.size ≤ x → (fun x : Nat => s.heap.size ≤ x) x := fun _ h => h
  have hbA : ¬ (fun x : Nat => s.heap.size ≤ x) b0 := Nat.not_le.mpr hbl
  have hown : s.vm.findClass RL = some m.cls := hown
  refine lv_aload_n hx hb dL_law_896 rfl (lv_at hl 2 rfl) ?_
  refine lv_aload_n hx hb dL_law_897 rfl (lv_at hl 3 rfl) ?_
  refine lv_iload_n hx hb dL_law_898 rfl (lv_at hl 0 rfl) ?_
  refine lv_iconst (v := 1) hx hb dL_law_899 (by decide) ?_
  refine lv_iadd hx hb dL_law_900 ?_
  refine ab_i (v := nI (6 * k + 1)) (nI_plus (6 * k) 1) ?_
  refine va_sld hx hb hX hbl hbA hS (lp_in hk hL (by decide)) dL_law_901 ?_
  obtain ⟨r6, r7, M2, mn, hu, hv, hn⟩ := pl_cost (l := l) (D := D) (x1 := (xs (Int32.toNatClampNeg (nI (6 * k + 1))))) hC hM hJ
  refine un_gori (w := wC) (wo := wM) (rest := []) hu (List.Perm.refl _) hx hb hml hown ht wd_X6_cost mw_1005 hQ hV hS hP rfl rfl hl.1 rfl (Nat.le_of_ble_eq_true rfl) dL_law_902 ⟨Nat.le_of_ble_eq_true rfl, Nat.le_of_ble_eq_true rfl, rfl, rfl⟩ (lp_rm (mc := 0) (ms := 0) hk hL (by decide) (by decide)) (fun r_1 er_1 => ?_)
  refine lv_pop hx hb dL_law_905 rfl ?_
  refine lv_aload_n hx hb dL_law_906 rfl (lv_at hl 1 rfl) ?_
  refine lv_aload_n hx hb dL_law_907 rfl (lv_at hl 3 rfl) ?_
  refine lv_iload_n hx hb dL_law_908 rfl (lv_at hl 0 rfl) ?_
  refine lv_iconst (v := 1) hx hb dL_law_909 (by decide) ?_
  refine lv_iadd hx hb dL_law_910 ?_
  refine ab_i (v := nI (6 * k + 1)) (nI_plus (6 * k) 1) ?_
  refine va_sld hx hb hX hbl hbA hS (lp_in hk hL (by decide)) dL_law_911 ?_
  refine un_goi (w := wM) (wo := wC) (rest := []) hv List.perm_append_comm hx hb hml hown ht wd_X7_cost mw_1487 hQ hV hS hA hP hD rfl rfl hl.1 rfl (Nat.le_of_ble_eq_true rfl) dL_law_912 ⟨Nat.le_of_ble_eq_true rfl, Nat.le_of_ble_eq_true rfl, rfl, rfl⟩ (lp_rm (mc := 0) (ms := 0) hk hL (by decide) (by decide)) (fun r_2 wr_2 H locs er_2 hP hD hS => ?_)
  obtain ⟨fr_2, hM⟩ := er_2
  have hP := vp_perm List.perm_append_comm hP
  have hD := vd_perm List.perm_append_comm hD
  have hJ := hn
  refine lv_pop hx hb dL_law_915 rfl ?_
  refine lv_goto (tgt := 1334) hx hb dL_law_916 (by decide) ?_
  refine W.widen (k := 52 + 15 * (k + 1)) (n := 98998 + 13306 * (k + 1)) (by omega) (by omega) ?_
  exact kk M2 s1 s2 s3 s4 s5 s6 z7 mn wC wr_2 H locs hC hM hJ hP hD hS

set_option maxHeartbeats 4000000 in
set_option maxRecDepth 100000 in
/-- best -/
theorem lc_27 {p : Program} {e : Env} {s : State} {m : MethodId} {below : List Frame} {meth : Method} {c : Code} {l : Launch} {b0 L : Nat} {xs : Nat → Int32} (C0 : lw_At p s m meth c b0 L xs) (hL : L ≤ 3072) {k : Nat} (hk : 6 * k + 6 ≤ L) {D : va_G} {q : Nat → ClassId} (hQ : kn D q s) (hV : sv q (fun x : Nat => s.heap.size ≤ x) s s.heap) {a b : Nat} {N : Int} {s1 : Tp} {s2 s3 : Bd} {s4 : Mo} {s5 : Pg} {s6 : Pa} {z7 : Nat → Option Bd} {md : Md} {wC wM : va_W} (hC : c_W q a s1 s2 s3 s4 s5 s6 z7 wC) (hM : m_W q b md wM) (hJ : JJ N s1 s2 s3 s4 s5 s6 z7 md) {H : Heap} {locs : List Loc} {ls : Array Slot} (hP : va_P D vwCl (wC ++ wM) H) (hD : va_D (fun x : Nat => s.heap.size ≤ x) (wC ++ wM)) (hS : va_S (fun x : Nat => s.heap.size ≤ x) s.heap H locs) (hl : lv_has ls 4 [(3, .int (nI (6 * k))), (2, .ref b), (1, .ref a), (0, .ref b0)]) (kk : ∀ (N2 : Int) (t1 : Tp) (t2 t3 : Bd) (t4 : Mo) (t5 : Pg) (t6 : Pa) (t7 : Nat → Option Bd) (m2 : Md) (wC2 wM2 : va_W) (H : Heap) (locs : List Loc), c_W q a t1 t2 t3 t4 t5 t6 t7 wC2 → m_W q b m2 wM2 → JJ N2 t1 t2 t3 t4 t5 t6 t7 m2 → va_P D vwCl (wC2 ++ wM2) H → va_D (fun x : Nat => s.heap.size ≤ x) (wC2 ++ wM2) → va_S (fun x : Nat => s.heap.size ≤ x) s.heap H locs → W p l e room_1 s m #[Value.ref b0] below meth c H locs (52 + 15 * (k + 1)) (98998 + 13306 * (k + 1)) (lw_Z below #[Value.ref b0] s) (F0 m 1334 ls [])) : W p l e room_1 s m #[Value.ref b0] below meth c H locs (52 + 15 * k) (98998 + 13306 * k) (lw_Z below #[Value.ref b0] s) (F0 m 919 ls []) := by
  obtain ⟨hx, hb, hr, hml, hown, hts, hX, hbl, hlocks, hgv⟩ := id C0
  have ht : ∀ w ∈ w_all, w.before #[Value.ref b0] s = true := fun w h => hts w (w_tbl h)
  have hA : ∀ x : Nat, s.heap.size ≤ x → (fun x : Nat => s.heap.size ≤ x) x := fun _ h => h
  have hbA : ¬ (fun x : Nat => s.heap.size ≤ x) b0 := Nat.not_le.mpr hbl
  have hown : s.vm.findClass RL = some m.cls := hown
  refine lv_aload_n hx hb dL_law_919 rfl (lv_at hl 2 rfl) ?_
  refine lv_aload_n hx hb dL_law_920 rfl (lv_at hl 3 rfl) ?_
  refine lv_iload_n hx hb dL_law_921 rfl (lv_at hl 0 rfl) ?_
  refine lv_iconst (v := 1) hx hb dL_law_922 (by decide) ?_
  refine lv_iadd hx hb dL_law_923 ?_
  refine ab_i (v := nI (6 * k + 1)) (nI_plus (6 * k) 1) ?_
  refine va_sld hx hb hX hbl hbA hS (lp_in hk hL (by decide)) dL_law_924 ?_
  refine lv_aload_n hx hb dL_law_925 rfl (lv_at hl 3 rfl) ?_
  refine lv_iload_n hx hb dL_law_926 rfl (lv_at hl 0 rfl) ?_
  refine lv_iconst (v := 2) hx hb dL_law_927 (by decide) ?_
  refine lv_iadd hx hb dL_law_928 ?_
  refine ab_i (v := nI (6 * k + 2)) (nI_plus (6 * k) 2) ?_
  refine va_sld hx hb hX hbl hbA hS (lp_in hk hL (by decide)) dL_law_929 ?_
  obtain ⟨r6, r7, M2, mn, hu, hv, hn⟩ := pl_best (l := l) (D := D) (x1 := (xs (Int32.toNatClampNeg (nI (6 * k + 1))))) (x2 := (xs (Int32.toNatClampNeg (nI (6 * k + 2))))) hC hM hJ
  refine un_gori (w := wC) (wo := wM) (rest := []) hu (List.Perm.refl _) hx hb hml hown ht wd_X6_best mw_1020 hQ hV hS hP rfl rfl hl.1 rfl (Nat.le_of_ble_eq_true rfl) dL_law_930 ⟨Nat.le_of_ble_eq_true rfl, Nat.le_of_ble_eq_true rfl, rfl, rfl⟩ (lp_rm (mc := 0) (ms := 0) hk hL (by decide) (by decide)) (fun r_1 er_1 => ?_)
  refine lv_pop hx hb dL_law_933 rfl ?_
  refine lv_aload_n hx hb dL_law_934 rfl (lv_at hl 1 rfl) ?_
  refine lv_aload_n hx hb dL_law_935 rfl (lv_at hl 3 rfl) ?_
  refine lv_iload_n hx hb dL_law_936 rfl (lv_at hl 0 rfl) ?_
  refine lv_iconst (v := 1) hx hb dL_law_937 (by decide) ?_
  refine lv_iadd hx hb dL_law_938 ?_
  refine ab_i (v := nI (6 * k + 1)) (nI_plus (6 * k) 1) ?_
  refine va_sld hx hb hX hbl hbA hS (lp_in hk hL (by decide)) dL_law_939 ?_
  refine lv_aload_n hx hb dL_law_940 rfl (lv_at hl 3 rfl) ?_
  refine lv_iload_n hx hb dL_law_941 rfl (lv_at hl 0 rfl) ?_
  refine lv_iconst (v := 2) hx hb dL_law_942 (by decide) ?_
  refine lv_iadd hx hb dL_law_943 ?_
  refine ab_i (v := nI (6 * k + 2)) (nI_plus (6 * k) 2) ?_
  refine va_sld hx hb hX hbl hbA hS (lp_in hk hL (by decide)) dL_law_944 ?_
  refine un_goi (w := wM) (wo := wC) (rest := []) hv List.perm_append_comm hx hb hml hown ht wd_X7_best mw_1495 hQ hV hS hA hP hD rfl rfl hl.1 rfl (Nat.le_of_ble_eq_true rfl) dL_law_945 ⟨Nat.le_of_ble_eq_true rfl, Nat.le_of_ble_eq_true rfl, rfl, rfl⟩ (lp_rm (mc := 0) (ms := 0) hk hL (by decide) (by decide)) (fun r_2 wr_2 H locs er_2 hP hD hS => ?_)
  obtain ⟨fr_2, hM⟩ := er_2
  have hP := vp_perm List.perm_append_comm hP
  have hD := vd_perm List.perm_append_comm hD
  have hJ := hn
  refine lv_pop hx hb dL_law_948 rfl ?_
  refine lv_goto (tgt := 1334) hx hb dL_law_949 (by decide) ?_
  refine W.widen (k := 52 + 15 * (k + 1)) (n := 98998 + 13306 * (k + 1)) (by omega) (by omega) ?_
  exact kk M2 s1 s2 s3 s4 s5 s6 z7 mn wC wr_2 H locs hC hM hJ hP hD hS

set_option maxHeartbeats 4000000 in
set_option maxRecDepth 100000 in
/-- place -/
theorem lc_28 {p : Program} {e : Env} {s : State} {m : MethodId} {below : List Frame} {meth : Method} {c : Code} {l : Launch} {b0 L : Nat} {xs : Nat → Int32} (C0 : lw_At p s m meth c b0 L xs) (hL : L ≤ 3072) {k : Nat} (hk : 6 * k + 6 ≤ L) {D : va_G} {q : Nat → ClassId} (hQ : kn D q s) (hV : sv q (fun x : Nat => s.heap.size ≤ x) s s.heap) {a b : Nat} {N : Int} {s1 : Tp} {s2 s3 : Bd} {s4 : Mo} {s5 : Pg} {s6 : Pa} {z7 : Nat → Option Bd} {md : Md} {wC wM : va_W} (hC : c_W q a s1 s2 s3 s4 s5 s6 z7 wC) (hM : m_W q b md wM) (hJ : JJ N s1 s2 s3 s4 s5 s6 z7 md) {H : Heap} {locs : List Loc} {ls : Array Slot} (hP : va_P D vwCl (wC ++ wM) H) (hD : va_D (fun x : Nat => s.heap.size ≤ x) (wC ++ wM)) (hS : va_S (fun x : Nat => s.heap.size ≤ x) s.heap H locs) (hl : lv_has ls 4 [(3, .int (nI (6 * k))), (2, .ref b), (1, .ref a), (0, .ref b0)]) (kk : ∀ (N2 : Int) (t1 : Tp) (t2 t3 : Bd) (t4 : Mo) (t5 : Pg) (t6 : Pa) (t7 : Nat → Option Bd) (m2 : Md) (wC2 wM2 : va_W) (H : Heap) (locs : List Loc), c_W q a t1 t2 t3 t4 t5 t6 t7 wC2 → m_W q b m2 wM2 → JJ N2 t1 t2 t3 t4 t5 t6 t7 m2 → va_P D vwCl (wC2 ++ wM2) H → va_D (fun x : Nat => s.heap.size ≤ x) (wC2 ++ wM2) → va_S (fun x : Nat => s.heap.size ≤ x) s.heap H locs → W p l e room_1 s m #[Value.ref b0] below meth c H locs (52 + 15 * (k + 1)) (98998 + 13306 * (k + 1)) (lw_Z below #[Value.ref b0] s) (F0 m 1334 ls [])) : W p l e room_1 s m #[Value.ref b0] below meth c H locs (52 + 15 * k) (98998 + 13306 * k) (lw_Z below #[Value.ref b0] s) (F0 m 952 ls []) := by
  obtain ⟨hx, hb, hr, hml, hown, hts, hX, hbl, hlocks, hgv⟩ := id C0
  have ht : ∀ w ∈ w_all, w.before #[Value.ref b0] s = true := fun w h => hts w (w_tbl h)
  have hA : ∀ x : Nat, s.heap.size ≤ x → (fun x : Nat => s.heap.size ≤ x) x := fun _ h => h
  have hbA : ¬ (fun x : Nat => s.heap.size ≤ x) b0 := Nat.not_le.mpr hbl
  have hown : s.vm.findClass RL = some m.cls := hown
  refine lv_aload_n hx hb dL_law_952 rfl (lv_at hl 2 rfl) ?_
  refine lv_aload_n hx hb dL_law_953 rfl (lv_at hl 3 rfl) ?_
  refine lv_iload_n hx hb dL_law_954 rfl (lv_at hl 0 rfl) ?_
  refine lv_iconst (v := 1) hx hb dL_law_955 (by decide) ?_
  refine lv_iadd hx hb dL_law_956 ?_
  refine ab_i (v := nI (6 * k + 1)) (nI_plus (6 * k) 1) ?_
  refine va_sld hx hb hX hbl hbA hS (lp_in hk hL (by decide)) dL_law_957 ?_
  refine lv_aload_n hx hb dL_law_958 rfl (lv_at hl 3 rfl) ?_
  refine lv_iload_n hx hb dL_law_959 rfl (lv_at hl 0 rfl) ?_
  refine lv_iconst (v := 2) hx hb dL_law_960 (by decide) ?_
  refine lv_iadd hx hb dL_law_961 ?_
  refine ab_i (v := nI (6 * k + 2)) (nI_plus (6 * k) 2) ?_
  refine va_sld hx hb hX hbl hbA hS (lp_in hk hL (by decide)) dL_law_962 ?_
  obtain ⟨r6, r7, M2, mn, hu, hv, hn⟩ := pl_place (l := l) (D := D) (x1 := (xs (Int32.toNatClampNeg (nI (6 * k + 1))))) (x2 := (xs (Int32.toNatClampNeg (nI (6 * k + 2))))) hC hM hJ
  refine un_gori (w := wC) (wo := wM) (rest := []) hu (List.Perm.refl _) hx hb hml hown ht wd_X6_place mw_1028 hQ hV hS hP rfl rfl hl.1 rfl (Nat.le_of_ble_eq_true rfl) dL_law_963 ⟨Nat.le_of_ble_eq_true rfl, Nat.le_of_ble_eq_true rfl, rfl, rfl⟩ (lp_rm (mc := 0) (ms := 0) hk hL (by decide) (by decide)) (fun r_1 er_1 => ?_)
  refine lv_pop hx hb dL_law_966 rfl ?_
  refine lv_aload_n hx hb dL_law_967 rfl (lv_at hl 1 rfl) ?_
  refine lv_aload_n hx hb dL_law_968 rfl (lv_at hl 3 rfl) ?_
  refine lv_iload_n hx hb dL_law_969 rfl (lv_at hl 0 rfl) ?_
  refine lv_iconst (v := 1) hx hb dL_law_970 (by decide) ?_
  refine lv_iadd hx hb dL_law_971 ?_
  refine ab_i (v := nI (6 * k + 1)) (nI_plus (6 * k) 1) ?_
  refine va_sld hx hb hX hbl hbA hS (lp_in hk hL (by decide)) dL_law_972 ?_
  refine lv_aload_n hx hb dL_law_973 rfl (lv_at hl 3 rfl) ?_
  refine lv_iload_n hx hb dL_law_974 rfl (lv_at hl 0 rfl) ?_
  refine lv_iconst (v := 2) hx hb dL_law_975 (by decide) ?_
  refine lv_iadd hx hb dL_law_976 ?_
  refine ab_i (v := nI (6 * k + 2)) (nI_plus (6 * k) 2) ?_
  refine va_sld hx hb hX hbl hbA hS (lp_in hk hL (by decide)) dL_law_977 ?_
  refine un_goi (w := wM) (wo := wC) (rest := []) hv List.perm_append_comm hx hb hml hown ht wd_X7_place mw_1503 hQ hV hS hA hP hD rfl rfl hl.1 rfl (Nat.le_of_ble_eq_true rfl) dL_law_978 ⟨Nat.le_of_ble_eq_true rfl, Nat.le_of_ble_eq_true rfl, rfl, rfl⟩ (lp_rm (mc := 0) (ms := 0) hk hL (by decide) (by decide)) (fun r_2 wr_2 H locs er_2 hP hD hS => ?_)
  obtain ⟨fr_2, hM⟩ := er_2
  have hP := vp_perm List.perm_append_comm hP
  have hD := vd_perm List.perm_append_comm hD
  have hJ := hn
  refine lv_pop hx hb dL_law_981 rfl ?_
  refine lv_goto (tgt := 1334) hx hb dL_law_982 (by decide) ?_
  refine W.widen (k := 52 + 15 * (k + 1)) (n := 98998 + 13306 * (k + 1)) (by omega) (by omega) ?_
  exact kk M2 s1 s2 s3 s4 s5 s6 z7 mn wC wr_2 H locs hC hM hJ hP hD hS

set_option maxHeartbeats 4000000 in
set_option maxRecDepth 100000 in
/-- log -/
theorem lc_29 {p : Program} {e : Env} {s : State} {m : MethodId} {below : List Frame} {meth : Method} {c : Code} {l : Launch} {b0 L : Nat} {xs : Nat → Int32} (C0 : lw_At p s m meth c b0 L xs) (hL : L ≤ 3072) {k : Nat} (hk : 6 * k + 6 ≤ L) {D : va_G} {q : Nat → ClassId} (hQ : kn D q s) (hV : sv q (fun x : Nat => s.heap.size ≤ x) s s.heap) {a b : Nat} {N : Int} {s1 : Tp} {s2 s3 : Bd} {s4 : Mo} {s5 : Pg} {s6 : Pa} {z7 : Nat → Option Bd} {md : Md} {wC wM : va_W} (hC : c_W q a s1 s2 s3 s4 s5 s6 z7 wC) (hM : m_W q b md wM) (hJ : JJ N s1 s2 s3 s4 s5 s6 z7 md) {H : Heap} {locs : List Loc} {ls : Array Slot} (hP : va_P D vwCl (wC ++ wM) H) (hD : va_D (fun x : Nat => s.heap.size ≤ x) (wC ++ wM)) (hS : va_S (fun x : Nat => s.heap.size ≤ x) s.heap H locs) (hl : lv_has ls 4 [(3, .int (nI (6 * k))), (2, .ref b), (1, .ref a), (0, .ref b0)]) (kk : ∀ (N2 : Int) (t1 : Tp) (t2 t3 : Bd) (t4 : Mo) (t5 : Pg) (t6 : Pa) (t7 : Nat → Option Bd) (m2 : Md) (wC2 wM2 : va_W) (H : Heap) (locs : List Loc), c_W q a t1 t2 t3 t4 t5 t6 t7 wC2 → m_W q b m2 wM2 → JJ N2 t1 t2 t3 t4 t5 t6 t7 m2 → va_P D vwCl (wC2 ++ wM2) H → va_D (fun x : Nat => s.heap.size ≤ x) (wC2 ++ wM2) → va_S (fun x : Nat => s.heap.size ≤ x) s.heap H locs → W p l e room_1 s m #[Value.ref b0] below meth c H locs (52 + 15 * (k + 1)) (98998 + 13306 * (k + 1)) (lw_Z below #[Value.ref b0] s) (F0 m 1334 ls [])) : W p l e room_1 s m #[Value.ref b0] below meth c H locs (52 + 15 * k) (98998 + 13306 * k) (lw_Z below #[Value.ref b0] s) (F0 m 985 ls []) := by
  obtain ⟨hx, hb, hr, hml, hown, hts, hX, hbl, hlocks, hgv⟩ := id C0
  have ht : ∀ w ∈ w_all, w.before #[Value.ref b0] s = true := fun w h => hts w (w_tbl h)
  have hA : ∀ x : Nat, s.heap.size ≤ x → (fun x : Nat => s.heap.size ≤ x) x := fun _ h => h
  have hbA : ¬ (fun x : Nat => s.heap.size ≤ x) b0 := Nat.not_le.mpr hbl
  have hown : s.vm.findClass RL = some m.cls := hown
  refine lv_aload_n hx hb dL_law_985 rfl (lv_at hl 2 rfl) ?_
  refine lv_aload_n hx hb dL_law_986 rfl (lv_at hl 3 rfl) ?_
  refine lv_iload_n hx hb dL_law_987 rfl (lv_at hl 0 rfl) ?_
  refine lv_iconst (v := 1) hx hb dL_law_988 (by decide) ?_
  refine lv_iadd hx hb dL_law_989 ?_
  refine ab_i (v := nI (6 * k + 1)) (nI_plus (6 * k) 1) ?_
  refine va_sld hx hb hX hbl hbA hS (lp_in hk hL (by decide)) dL_law_990 ?_
  refine lv_aload_n hx hb dL_law_991 rfl (lv_at hl 3 rfl) ?_
  refine lv_iload_n hx hb dL_law_992 rfl (lv_at hl 0 rfl) ?_
  refine lv_iconst (v := 2) hx hb dL_law_993 (by decide) ?_
  refine lv_iadd hx hb dL_law_994 ?_
  refine ab_i (v := nI (6 * k + 2)) (nI_plus (6 * k) 2) ?_
  refine va_sld hx hb hX hbl hbA hS (lp_in hk hL (by decide)) dL_law_995 ?_
  obtain ⟨r6, r7, M2, mn, hu, hv, hn⟩ := pl_log (l := l) (D := D) (x1 := (xs (Int32.toNatClampNeg (nI (6 * k + 1))))) (x2 := (xs (Int32.toNatClampNeg (nI (6 * k + 2))))) hC hM hJ
  refine un_gori (w := wC) (wo := wM) (rest := []) hu (List.Perm.refl _) hx hb hml hown ht wd_X6_log mw_1032 hQ hV hS hP rfl rfl hl.1 rfl (Nat.le_of_ble_eq_true rfl) dL_law_996 ⟨Nat.le_of_ble_eq_true rfl, Nat.le_of_ble_eq_true rfl, rfl, rfl⟩ (lp_rm (mc := 0) (ms := 0) hk hL (by decide) (by decide)) (fun r_1 er_1 => ?_)
  refine lv_pop hx hb dL_law_999 rfl ?_
  refine lv_aload_n hx hb dL_law_1000 rfl (lv_at hl 1 rfl) ?_
  refine lv_aload_n hx hb dL_law_1001 rfl (lv_at hl 3 rfl) ?_
  refine lv_iload_n hx hb dL_law_1002 rfl (lv_at hl 0 rfl) ?_
  refine lv_iconst (v := 1) hx hb dL_law_1003 (by decide) ?_
  refine lv_iadd hx hb dL_law_1004 ?_
  refine ab_i (v := nI (6 * k + 1)) (nI_plus (6 * k) 1) ?_
  refine va_sld hx hb hX hbl hbA hS (lp_in hk hL (by decide)) dL_law_1005 ?_
  refine lv_aload_n hx hb dL_law_1006 rfl (lv_at hl 3 rfl) ?_
  refine lv_iload_n hx hb dL_law_1007 rfl (lv_at hl 0 rfl) ?_
  refine lv_iconst (v := 2) hx hb dL_law_1008 (by decide) ?_
  refine lv_iadd hx hb dL_law_1009 ?_
  refine ab_i (v := nI (6 * k + 2)) (nI_plus (6 * k) 2) ?_
  refine va_sld hx hb hX hbl hbA hS (lp_in hk hL (by decide)) dL_law_1010 ?_
  refine un_gori (w := wM) (wo := wC) (rest := []) hv List.perm_append_comm hx hb hml hown ht wd_X7_log mw_1507 hQ hV hS hP rfl rfl hl.1 rfl (Nat.le_of_ble_eq_true rfl) dL_law_1011 ⟨Nat.le_of_ble_eq_true rfl, Nat.le_of_ble_eq_true rfl, rfl, rfl⟩ (lp_rm (mc := 0) (ms := 0) hk hL (by decide) (by decide)) (fun r_2 er_2 => ?_)
  have hM : m_W q b mn wM := by rw [hn.1]; exact hM
  have hJ := hn.2
  refine lv_pop hx hb dL_law_1014 rfl ?_
  refine lv_goto (tgt := 1334) hx hb dL_law_1015 (by decide) ?_
  refine W.widen (k := 52 + 15 * (k + 1)) (n := 98998 + 13306 * (k + 1)) (by omega) (by omega) ?_
  exact kk M2 s1 s2 s3 s4 s5 s6 z7 mn wC wM H locs hC hM hJ hP hD hS

set_option maxHeartbeats 4000000 in
set_option maxRecDepth 100000 in
/-- often -/
theorem lc_30 {p : Program} {e : Env} {s : State} {m : MethodId} {below : List Frame} {meth : Method} {c : Code} {l : Launch} {b0 L : Nat} {xs : Nat → Int32} (C0 : lw_At p s m meth c b0 L xs) (hL : L ≤ 3072) {k : Nat} (hk : 6 * k + 6 ≤ L) {D : va_G} {q : Nat → ClassId} (hQ : kn D q s) (hV : sv q (fun x : Nat => s.heap.size ≤ x) s s.heap) {a b : Nat} {N : Int} {s1 : Tp} {s2 s3 : Bd} {s4 : Mo} {s5 : Pg} {s6 : Pa} {z7 : Nat → Option Bd} {md : Md} {wC wM : va_W} (hC : c_W q a s1 s2 s3 s4 s5 s6 z7 wC) (hM : m_W q b md wM) (hJ : JJ N s1 s2 s3 s4 s5 s6 z7 md) {H : Heap} {locs : List Loc} {ls : Array Slot} (hP : va_P D vwCl (wC ++ wM) H) (hD : va_D (fun x : Nat => s.heap.size ≤ x) (wC ++ wM)) (hS : va_S (fun x : Nat => s.heap.size ≤ x) s.heap H locs) (hl : lv_has ls 4 [(3, .int (nI (6 * k))), (2, .ref b), (1, .ref a), (0, .ref b0)]) (kk : ∀ (N2 : Int) (t1 : Tp) (t2 t3 : Bd) (t4 : Mo) (t5 : Pg) (t6 : Pa) (t7 : Nat → Option Bd) (m2 : Md) (wC2 wM2 : va_W) (H : Heap) (locs : List Loc), c_W q a t1 t2 t3 t4 t5 t6 t7 wC2 → m_W q b m2 wM2 → JJ N2 t1 t2 t3 t4 t5 t6 t7 m2 → va_P D vwCl (wC2 ++ wM2) H → va_D (fun x : Nat => s.heap.size ≤ x) (wC2 ++ wM2) → va_S (fun x : Nat => s.heap.size ≤ x) s.heap H locs → W p l e room_1 s m #[Value.ref b0] below meth c H locs (52 + 15 * (k + 1)) (98998 + 13306 * (k + 1)) (lw_Z below #[Value.ref b0] s) (F0 m 1334 ls [])) : W p l e room_1 s m #[Value.ref b0] below meth c H locs (52 + 15 * k) (98998 + 13306 * k) (lw_Z below #[Value.ref b0] s) (F0 m 1018 ls []) := by
  obtain ⟨hx, hb, hr, hml, hown, hts, hX, hbl, hlocks, hgv⟩ := id C0
  have ht : ∀ w ∈ w_all, w.before #[Value.ref b0] s = true := fun w h => hts w (w_tbl h)
  have hA : ∀ x : Nat, s.heap.size ≤ x → (fun x : Nat => s.heap.size ≤ x) x := fun _ h => h
  have hbA : ¬ (fun x : Nat => s.heap.size ≤ x) b0 := Nat.not_le.mpr hbl
  have hown : s.vm.findClass RL = some m.cls := hown
  refine lv_aload_n hx hb dL_law_1018 rfl (lv_at hl 2 rfl) ?_
  refine lv_aload_n hx hb dL_law_1019 rfl (lv_at hl 3 rfl) ?_
  refine lv_iload_n hx hb dL_law_1020 rfl (lv_at hl 0 rfl) ?_
  refine lv_iconst (v := 1) hx hb dL_law_1021 (by decide) ?_
  refine lv_iadd hx hb dL_law_1022 ?_
  refine ab_i (v := nI (6 * k + 1)) (nI_plus (6 * k) 1) ?_
  refine va_sld hx hb hX hbl hbA hS (lp_in hk hL (by decide)) dL_law_1023 ?_
  refine lv_aload_n hx hb dL_law_1024 rfl (lv_at hl 3 rfl) ?_
  refine lv_iload_n hx hb dL_law_1025 rfl (lv_at hl 0 rfl) ?_
  refine lv_iconst (v := 2) hx hb dL_law_1026 (by decide) ?_
  refine lv_iadd hx hb dL_law_1027 ?_
  refine ab_i (v := nI (6 * k + 2)) (nI_plus (6 * k) 2) ?_
  refine va_sld hx hb hX hbl hbA hS (lp_in hk hL (by decide)) dL_law_1028 ?_
  refine lv_aload_n hx hb dL_law_1029 rfl (lv_at hl 3 rfl) ?_
  refine lv_iload_n hx hb dL_law_1030 rfl (lv_at hl 0 rfl) ?_
  refine lv_iconst (v := 3) hx hb dL_law_1031 (by decide) ?_
  refine lv_iadd hx hb dL_law_1032 ?_
  refine ab_i (v := nI (6 * k + 3)) (nI_plus (6 * k) 3) ?_
  refine va_sld hx hb hX hbl hbA hS (lp_in hk hL (by decide)) dL_law_1033 ?_
  refine lv_if_eq (tgt := 1041) hx hb dL_law_1034 (by decide) (fun c_1 => ?_) (fun c_1 => ?_)
  · refine lv_iconst (v := 0) hx hb dL_law_1041 (by decide) ?_
    obtain ⟨r6, r7, M2, mn, hu, hv, hn⟩ := pl_often (l := l) (D := D) (x1 := (xs (Int32.toNatClampNeg (nI (6 * k + 1))))) (x2 := (xs (Int32.toNatClampNeg (nI (6 * k + 2))))) (x3 := 0) hC hM hJ
    refine un_gori (w := wC) (wo := wM) (rest := []) hu (List.Perm.refl _) hx hb hml hown ht wd_X6_often mw_1056 hQ hV hS hP rfl rfl hl.1 rfl (Nat.le_of_ble_eq_true rfl) dL_law_1042 ⟨Nat.le_of_ble_eq_true rfl, Nat.le_of_ble_eq_true rfl, rfl, rfl⟩ (lp_rm (mc := 0) (ms := 0) hk hL (by decide) (by decide)) (fun r_2 er_2 => ?_)
    refine lv_pop hx hb dL_law_1045 rfl ?_
    refine lv_aload_n hx hb dL_law_1046 rfl (lv_at hl 1 rfl) ?_
    refine lv_aload_n hx hb dL_law_1047 rfl (lv_at hl 3 rfl) ?_
    refine lv_iload_n hx hb dL_law_1048 rfl (lv_at hl 0 rfl) ?_
    refine lv_iconst (v := 1) hx hb dL_law_1049 (by decide) ?_
    refine lv_iadd hx hb dL_law_1050 ?_
    refine ab_i (v := nI (6 * k + 1)) (nI_plus (6 * k) 1) ?_
    refine va_sld hx hb hX hbl hbA hS (lp_in hk hL (by decide)) dL_law_1051 ?_
    refine lv_aload_n hx hb dL_law_1052 rfl (lv_at hl 3 rfl) ?_
    refine lv_iload_n hx hb dL_law_1053 rfl (lv_at hl 0 rfl) ?_
    refine lv_iconst (v := 2) hx hb dL_law_1054 (by decide) ?_
    refine lv_iadd hx hb dL_law_1055 ?_
    refine ab_i (v := nI (6 * k + 2)) (nI_plus (6 * k) 2) ?_
    refine va_sld hx hb hX hbl hbA hS (lp_in hk hL (by decide)) dL_law_1056 ?_
    refine lv_aload_n hx hb dL_law_1057 rfl (lv_at hl 3 rfl) ?_
    refine lv_iload_n hx hb dL_law_1058 rfl (lv_at hl 0 rfl) ?_
    refine lv_iconst (v := 3) hx hb dL_law_1059 (by decide) ?_
    refine lv_iadd hx hb dL_law_1060 ?_
    refine ab_i (v := nI (6 * k + 3)) (nI_plus (6 * k) 3) ?_
    refine va_sld hx hb hX hbl hbA hS (lp_in hk hL (by decide)) dL_law_1061 ?_
    refine lv_if_eq (tgt := 1069) hx hb dL_law_1062 (by decide) (fun _ => ?_) (fun c9 => absurd c_1 c9)
    refine lv_iconst (v := 0) hx hb dL_law_1069 (by decide) ?_
    refine un_gori (w := wM) (wo := wC) (rest := []) hv List.perm_append_comm hx hb hml hown ht wd_X7_often mw_1526 hQ hV hS hP rfl rfl hl.1 rfl (Nat.le_of_ble_eq_true rfl) dL_law_1070 ⟨Nat.le_of_ble_eq_true rfl, Nat.le_of_ble_eq_true rfl, rfl, rfl⟩ (lp_rm (mc := 0) (ms := 0) hk hL (by decide) (by decide)) (fun r_3 er_3 => ?_)
    have hM : m_W q b mn wM := by rw [hn.1]; exact hM
    have hJ := hn.2
    refine lv_pop hx hb dL_law_1073 rfl ?_
    refine lv_goto (tgt := 1334) hx hb dL_law_1074 (by decide) ?_
    refine W.widen (k := 52 + 15 * (k + 1)) (n := 98998 + 13306 * (k + 1)) (by omega) (by omega) ?_
    exact kk M2 s1 s2 s3 s4 s5 s6 z7 mn wC wM H locs hC hM hJ hP hD hS
  · refine lv_iconst (v := 1) hx hb dL_law_1037 (by decide) ?_
    refine lv_goto (tgt := 1042) hx hb dL_law_1038 (by decide) ?_
    obtain ⟨r6, r7, M2, mn, hu, hv, hn⟩ := pl_often (l := l) (D := D) (x1 := (xs (Int32.toNatClampNeg (nI (6 * k + 1))))) (x2 := (xs (Int32.toNatClampNeg (nI (6 * k + 2))))) (x3 := 1) hC hM hJ
    refine un_gori (w := wC) (wo := wM) (rest := []) hu (List.Perm.refl _) hx hb hml hown ht wd_X6_often mw_1056 hQ hV hS hP rfl rfl hl.1 rfl (Nat.le_of_ble_eq_true rfl) dL_law_1042 ⟨Nat.le_of_ble_eq_true rfl, Nat.le_of_ble_eq_true rfl, rfl, rfl⟩ (lp_rm (mc := 0) (ms := 0) hk hL (by decide) (by decide)) (fun r_4 er_4 => ?_)
    refine lv_pop hx hb dL_law_1045 rfl ?_
    refine lv_aload_n hx hb dL_law_1046 rfl (lv_at hl 1 rfl) ?_
    refine lv_aload_n hx hb dL_law_1047 rfl (lv_at hl 3 rfl) ?_
    refine lv_iload_n hx hb dL_law_1048 rfl (lv_at hl 0 rfl) ?_
    refine lv_iconst (v := 1) hx hb dL_law_1049 (by decide) ?_
    refine lv_iadd hx hb dL_law_1050 ?_
    refine ab_i (v := nI (6 * k + 1)) (nI_plus (6 * k) 1) ?_
    refine va_sld hx hb hX hbl hbA hS (lp_in hk hL (by decide)) dL_law_1051 ?_
    refine lv_aload_n hx hb dL_law_1052 rfl (lv_at hl 3 rfl) ?_
    refine lv_iload_n hx hb dL_law_1053 rfl (lv_at hl 0 rfl) ?_
    refine lv_iconst (v := 2) hx hb dL_law_1054 (by decide) ?_
    refine lv_iadd hx hb dL_law_1055 ?_
    refine ab_i (v := nI (6 * k + 2)) (nI_plus (6 * k) 2) ?_
    refine va_sld hx hb hX hbl hbA hS (lp_in hk hL (by decide)) dL_law_1056 ?_
    refine lv_aload_n hx hb dL_law_1057 rfl (lv_at hl 3 rfl) ?_
    refine lv_iload_n hx hb dL_law_1058 rfl (lv_at hl 0 rfl) ?_
    refine lv_iconst (v := 3) hx hb dL_law_1059 (by decide) ?_
    refine lv_iadd hx hb dL_law_1060 ?_
    refine ab_i (v := nI (6 * k + 3)) (nI_plus (6 * k) 3) ?_
    refine va_sld hx hb hX hbl hbA hS (lp_in hk hL (by decide)) dL_law_1061 ?_
    refine lv_if_eq (tgt := 1069) hx hb dL_law_1062 (by decide) (fun c9 => absurd c9 c_1) (fun _ => ?_)
    refine lv_iconst (v := 1) hx hb dL_law_1065 (by decide) ?_
    refine lv_goto (tgt := 1070) hx hb dL_law_1066 (by decide) ?_
    refine un_gori (w := wM) (wo := wC) (rest := []) hv List.perm_append_comm hx hb hml hown ht wd_X7_often mw_1526 hQ hV hS hP rfl rfl hl.1 rfl (Nat.le_of_ble_eq_true rfl) dL_law_1070 ⟨Nat.le_of_ble_eq_true rfl, Nat.le_of_ble_eq_true rfl, rfl, rfl⟩ (lp_rm (mc := 0) (ms := 0) hk hL (by decide) (by decide)) (fun r_5 er_5 => ?_)
    have hM : m_W q b mn wM := by rw [hn.1]; exact hM
    have hJ := hn.2
    refine lv_pop hx hb dL_law_1073 rfl ?_
    refine lv_goto (tgt := 1334) hx hb dL_law_1074 (by decide) ?_
    refine W.widen (k := 52 + 15 * (k + 1)) (n := 98998 + 13306 * (k + 1)) (by omega) (by omega) ?_
    exact kk M2 s1 s2 s3 s4 s5 s6 z7 mn wC wM H locs hC hM hJ hP hD hS

set_option maxHeartbeats 4000000 in
set_option maxRecDepth 100000 in
/-- usual -/
theorem lc_31 {p : Program} {e : Env} {s : State} {m : MethodId} {below : List Frame} {meth : Method} {c : Code} {l : Launch} {b0 L : Nat} {xs : Nat → Int32} (C0 : lw_At p s m meth c b0 L xs) (hL : L ≤ 3072) {k : Nat} (hk : 6 * k + 6 ≤ L) {D : va_G} {q : Nat → ClassId} (hQ : kn D q s) (hV : sv q (fun x : Nat => s.heap.size ≤ x) s s.heap) {a b : Nat} {N : Int} {s1 : Tp} {s2 s3 : Bd} {s4 : Mo} {s5 : Pg} {s6 : Pa} {z7 : Nat → Option Bd} {md : Md} {wC wM : va_W} (hC : c_W q a s1 s2 s3 s4 s5 s6 z7 wC) (hM : m_W q b md wM) (hJ : JJ N s1 s2 s3 s4 s5 s6 z7 md) {H : Heap} {locs : List Loc} {ls : Array Slot} (hP : va_P D vwCl (wC ++ wM) H) (hD : va_D (fun x : Nat => s.heap.size ≤ x) (wC ++ wM)) (hS : va_S (fun x : Nat => s.heap.size ≤ x) s.heap H locs) (hl : lv_has ls 4 [(3, .int (nI (6 * k))), (2, .ref b), (1, .ref a), (0, .ref b0)]) (kk : ∀ (N2 : Int) (t1 : Tp) (t2 t3 : Bd) (t4 : Mo) (t5 : Pg) (t6 : Pa) (t7 : Nat → Option Bd) (m2 : Md) (wC2 wM2 : va_W) (H : Heap) (locs : List Loc), c_W q a t1 t2 t3 t4 t5 t6 t7 wC2 → m_W q b m2 wM2 → JJ N2 t1 t2 t3 t4 t5 t6 t7 m2 → va_P D vwCl (wC2 ++ wM2) H → va_D (fun x : Nat => s.heap.size ≤ x) (wC2 ++ wM2) → va_S (fun x : Nat => s.heap.size ≤ x) s.heap H locs → W p l e room_1 s m #[Value.ref b0] below meth c H locs (52 + 15 * (k + 1)) (98998 + 13306 * (k + 1)) (lw_Z below #[Value.ref b0] s) (F0 m 1334 ls [])) : W p l e room_1 s m #[Value.ref b0] below meth c H locs (52 + 15 * k) (98998 + 13306 * k) (lw_Z below #[Value.ref b0] s) (F0 m 1077 ls []) := by
  obtain ⟨hx, hb, hr, hml, hown, hts, hX, hbl, hlocks, hgv⟩ := id C0
  have ht : ∀ w ∈ w_all, w.before #[Value.ref b0] s = true := fun w h => hts w (w_tbl h)
  have hA : ∀ x : Nat, s.heap.size ≤ x → (fun x : Nat => s.heap.size ≤ x) x := fun _ h => h
  have hbA : ¬ (fun x : Nat => s.heap.size ≤ x) b0 := Nat.not_le.mpr hbl
  have hown : s.vm.findClass RL = some m.cls := hown
  refine lv_aload_n hx hb dL_law_1077 rfl (lv_at hl 2 rfl) ?_
  refine lv_aload_n hx hb dL_law_1078 rfl (lv_at hl 3 rfl) ?_
  refine lv_iload_n hx hb dL_law_1079 rfl (lv_at hl 0 rfl) ?_
  refine lv_iconst (v := 1) hx hb dL_law_1080 (by decide) ?_
  refine lv_iadd hx hb dL_law_1081 ?_
  refine ab_i (v := nI (6 * k + 1)) (nI_plus (6 * k) 1) ?_
  refine va_sld hx hb hX hbl hbA hS (lp_in hk hL (by decide)) dL_law_1082 ?_
  refine lv_aload_n hx hb dL_law_1083 rfl (lv_at hl 3 rfl) ?_
  refine lv_iload_n hx hb dL_law_1084 rfl (lv_at hl 0 rfl) ?_
  refine lv_iconst (v := 2) hx hb dL_law_1085 (by decide) ?_
  refine lv_iadd hx hb dL_law_1086 ?_
  refine ab_i (v := nI (6 * k + 2)) (nI_plus (6 * k) 2) ?_
  refine va_sld hx hb hX hbl hbA hS (lp_in hk hL (by decide)) dL_law_1087 ?_
  obtain ⟨r6, r7, M2, mn, hu, hv, hn⟩ := pl_usual (l := l) (D := D) (x1 := (xs (Int32.toNatClampNeg (nI (6 * k + 1))))) (x2 := (xs (Int32.toNatClampNeg (nI (6 * k + 2))))) hC hM hJ
  refine un_gori (w := wC) (wo := wM) (rest := []) hu (List.Perm.refl _) hx hb hml hown ht wd_X6_usual mw_1061 hQ hV hS hP rfl rfl hl.1 rfl (Nat.le_of_ble_eq_true rfl) dL_law_1088 ⟨Nat.le_of_ble_eq_true rfl, Nat.le_of_ble_eq_true rfl, rfl, rfl⟩ (lp_rm (mc := 0) (ms := 0) hk hL (by decide) (by decide)) (fun r_1 er_1 => ?_)
  refine lv_pop hx hb dL_law_1091 rfl ?_
  refine lv_aload_n hx hb dL_law_1092 rfl (lv_at hl 1 rfl) ?_
  refine lv_aload_n hx hb dL_law_1093 rfl (lv_at hl 3 rfl) ?_
  refine lv_iload_n hx hb dL_law_1094 rfl (lv_at hl 0 rfl) ?_
  refine lv_iconst (v := 1) hx hb dL_law_1095 (by decide) ?_
  refine lv_iadd hx hb dL_law_1096 ?_
  refine ab_i (v := nI (6 * k + 1)) (nI_plus (6 * k) 1) ?_
  refine va_sld hx hb hX hbl hbA hS (lp_in hk hL (by decide)) dL_law_1097 ?_
  refine lv_aload_n hx hb dL_law_1098 rfl (lv_at hl 3 rfl) ?_
  refine lv_iload_n hx hb dL_law_1099 rfl (lv_at hl 0 rfl) ?_
  refine lv_iconst (v := 2) hx hb dL_law_1100 (by decide) ?_
  refine lv_iadd hx hb dL_law_1101 ?_
  refine ab_i (v := nI (6 * k + 2)) (nI_plus (6 * k) 2) ?_
  refine va_sld hx hb hX hbl hbA hS (lp_in hk hL (by decide)) dL_law_1102 ?_
  refine un_gori (w := wM) (wo := wC) (rest := []) hv List.perm_append_comm hx hb hml hown ht wd_X7_usual mw_1700 hQ hV hS hP rfl rfl hl.1 rfl (Nat.le_of_ble_eq_true rfl) dL_law_1103 ⟨Nat.le_of_ble_eq_true rfl, Nat.le_of_ble_eq_true rfl, rfl, rfl⟩ (lp_rm (mc := 0) (ms := 0) hk hL (by decide) (by decide)) (fun r_2 er_2 => ?_)
  have hM : m_W q b mn wM := by rw [hn.1]; exact hM
  have hJ := hn.2
  refine lv_pop hx hb dL_law_1106 rfl ?_
  refine lv_goto (tgt := 1334) hx hb dL_law_1107 (by decide) ?_
  refine W.widen (k := 52 + 15 * (k + 1)) (n := 98998 + 13306 * (k + 1)) (by omega) (by omega) ?_
  exact kk M2 s1 s2 s3 s4 s5 s6 z7 mn wC wM H locs hC hM hJ hP hD hS

set_option maxHeartbeats 4000000 in
set_option maxRecDepth 100000 in
/-- better -/
theorem lc_32 {p : Program} {e : Env} {s : State} {m : MethodId} {below : List Frame} {meth : Method} {c : Code} {l : Launch} {b0 L : Nat} {xs : Nat → Int32} (C0 : lw_At p s m meth c b0 L xs) (hL : L ≤ 3072) {k : Nat} (hk : 6 * k + 6 ≤ L) {D : va_G} {q : Nat → ClassId} (hQ : kn D q s) (hV : sv q (fun x : Nat => s.heap.size ≤ x) s s.heap) {a b : Nat} {N : Int} {s1 : Tp} {s2 s3 : Bd} {s4 : Mo} {s5 : Pg} {s6 : Pa} {z7 : Nat → Option Bd} {md : Md} {wC wM : va_W} (hC : c_W q a s1 s2 s3 s4 s5 s6 z7 wC) (hM : m_W q b md wM) (hJ : JJ N s1 s2 s3 s4 s5 s6 z7 md) {H : Heap} {locs : List Loc} {ls : Array Slot} (hP : va_P D vwCl (wC ++ wM) H) (hD : va_D (fun x : Nat => s.heap.size ≤ x) (wC ++ wM)) (hS : va_S (fun x : Nat => s.heap.size ≤ x) s.heap H locs) (hl : lv_has ls 4 [(3, .int (nI (6 * k))), (2, .ref b), (1, .ref a), (0, .ref b0)]) (kk : ∀ (N2 : Int) (t1 : Tp) (t2 t3 : Bd) (t4 : Mo) (t5 : Pg) (t6 : Pa) (t7 : Nat → Option Bd) (m2 : Md) (wC2 wM2 : va_W) (H : Heap) (locs : List Loc), c_W q a t1 t2 t3 t4 t5 t6 t7 wC2 → m_W q b m2 wM2 → JJ N2 t1 t2 t3 t4 t5 t6 t7 m2 → va_P D vwCl (wC2 ++ wM2) H → va_D (fun x : Nat => s.heap.size ≤ x) (wC2 ++ wM2) → va_S (fun x : Nat => s.heap.size ≤ x) s.heap H locs → W p l e room_1 s m #[Value.ref b0] below meth c H locs (52 + 15 * (k + 1)) (98998 + 13306 * (k + 1)) (lw_Z below #[Value.ref b0] s) (F0 m 1334 ls [])) : W p l e room_1 s m #[Value.ref b0] below meth c H locs (52 + 15 * k) (98998 + 13306 * k) (lw_Z below #[Value.ref b0] s) (F0 m 1110 ls []) := by
  obtain ⟨hx, hb, hr, hml, hown, hts, hX, hbl, hlocks, hgv⟩ := id C0
  have ht : ∀ w ∈ w_all, w.before #[Value.ref b0] s = true := fun w h => hts w (w_tbl h)
  have hA : ∀ x : Nat, s.heap.size ≤ x → (fun x : Nat => s.heap.size ≤ x) x := fun _ h => h
  have hbA : ¬ (fun x : Nat => s.heap.size ≤ x) b0 := Nat.not_le.mpr hbl
  have hown : s.vm.findClass RL = some m.cls := hown
  refine lv_aload_n hx hb dL_law_1110 rfl (lv_at hl 2 rfl) ?_
  refine lv_aload_n hx hb dL_law_1111 rfl (lv_at hl 3 rfl) ?_
  refine lv_iload_n hx hb dL_law_1112 rfl (lv_at hl 0 rfl) ?_
  refine lv_iconst (v := 1) hx hb dL_law_1113 (by decide) ?_
  refine lv_iadd hx hb dL_law_1114 ?_
  refine ab_i (v := nI (6 * k + 1)) (nI_plus (6 * k) 1) ?_
  refine va_sld hx hb hX hbl hbA hS (lp_in hk hL (by decide)) dL_law_1115 ?_
  refine lv_aload_n hx hb dL_law_1116 rfl (lv_at hl 3 rfl) ?_
  refine lv_iload_n hx hb dL_law_1117 rfl (lv_at hl 0 rfl) ?_
  refine lv_iconst (v := 2) hx hb dL_law_1118 (by decide) ?_
  refine lv_iadd hx hb dL_law_1119 ?_
  refine ab_i (v := nI (6 * k + 2)) (nI_plus (6 * k) 2) ?_
  refine va_sld hx hb hX hbl hbA hS (lp_in hk hL (by decide)) dL_law_1120 ?_
  obtain ⟨r6, r7, M2, mn, hu, hv, hn⟩ := pl_better (l := l) (D := D) (x1 := (xs (Int32.toNatClampNeg (nI (6 * k + 1))))) (x2 := (xs (Int32.toNatClampNeg (nI (6 * k + 2))))) hC hM hJ
  refine un_gori (w := wC) (wo := wM) (rest := []) hu (List.Perm.refl _) hx hb hml hown ht wd_X6_better mw_1065 hQ hV hS hP rfl rfl hl.1 rfl (Nat.le_of_ble_eq_true rfl) dL_law_1121 ⟨Nat.le_of_ble_eq_true rfl, Nat.le_of_ble_eq_true rfl, rfl, rfl⟩ (lp_rm (mc := 0) (ms := 0) hk hL (by decide) (by decide)) (fun r_1 er_1 => ?_)
  refine lv_pop hx hb dL_law_1124 rfl ?_
  refine lv_aload_n hx hb dL_law_1125 rfl (lv_at hl 1 rfl) ?_
  refine lv_aload_n hx hb dL_law_1126 rfl (lv_at hl 3 rfl) ?_
  refine lv_iload_n hx hb dL_law_1127 rfl (lv_at hl 0 rfl) ?_
  refine lv_iconst (v := 1) hx hb dL_law_1128 (by decide) ?_
  refine lv_iadd hx hb dL_law_1129 ?_
  refine ab_i (v := nI (6 * k + 1)) (nI_plus (6 * k) 1) ?_
  refine va_sld hx hb hX hbl hbA hS (lp_in hk hL (by decide)) dL_law_1130 ?_
  refine lv_aload_n hx hb dL_law_1131 rfl (lv_at hl 3 rfl) ?_
  refine lv_iload_n hx hb dL_law_1132 rfl (lv_at hl 0 rfl) ?_
  refine lv_iconst (v := 2) hx hb dL_law_1133 (by decide) ?_
  refine lv_iadd hx hb dL_law_1134 ?_
  refine ab_i (v := nI (6 * k + 2)) (nI_plus (6 * k) 2) ?_
  refine va_sld hx hb hX hbl hbA hS (lp_in hk hL (by decide)) dL_law_1135 ?_
  refine un_gori (w := wM) (wo := wC) (rest := []) hv List.perm_append_comm hx hb hml hown ht wd_X7_better mw_1530 hQ hV hS hP rfl rfl hl.1 rfl (Nat.le_of_ble_eq_true rfl) dL_law_1136 ⟨Nat.le_of_ble_eq_true rfl, Nat.le_of_ble_eq_true rfl, rfl, rfl⟩ (lp_rm (mc := 0) (ms := 0) hk hL (by decide) (by decide)) (fun r_2 er_2 => ?_)
  have hM : m_W q b mn wM := by rw [hn.1]; exact hM
  have hJ := hn.2
  refine lv_pop hx hb dL_law_1139 rfl ?_
  refine lv_goto (tgt := 1334) hx hb dL_law_1140 (by decide) ?_
  refine W.widen (k := 52 + 15 * (k + 1)) (n := 98998 + 13306 * (k + 1)) (by omega) (by omega) ?_
  exact kk M2 s1 s2 s3 s4 s5 s6 z7 mn wC wM H locs hC hM hJ hP hD hS

set_option maxHeartbeats 4000000 in
set_option maxRecDepth 100000 in
/-- farthest -/
theorem lc_33 {p : Program} {e : Env} {s : State} {m : MethodId} {below : List Frame} {meth : Method} {c : Code} {l : Launch} {b0 L : Nat} {xs : Nat → Int32} (C0 : lw_At p s m meth c b0 L xs) (hL : L ≤ 3072) {k : Nat} (hk : 6 * k + 6 ≤ L) {D : va_G} {q : Nat → ClassId} (hQ : kn D q s) (hV : sv q (fun x : Nat => s.heap.size ≤ x) s s.heap) {a b : Nat} {N : Int} {s1 : Tp} {s2 s3 : Bd} {s4 : Mo} {s5 : Pg} {s6 : Pa} {z7 : Nat → Option Bd} {md : Md} {wC wM : va_W} (hC : c_W q a s1 s2 s3 s4 s5 s6 z7 wC) (hM : m_W q b md wM) (hJ : JJ N s1 s2 s3 s4 s5 s6 z7 md) {H : Heap} {locs : List Loc} {ls : Array Slot} (hP : va_P D vwCl (wC ++ wM) H) (hD : va_D (fun x : Nat => s.heap.size ≤ x) (wC ++ wM)) (hS : va_S (fun x : Nat => s.heap.size ≤ x) s.heap H locs) (hl : lv_has ls 4 [(3, .int (nI (6 * k))), (2, .ref b), (1, .ref a), (0, .ref b0)]) (kk : ∀ (N2 : Int) (t1 : Tp) (t2 t3 : Bd) (t4 : Mo) (t5 : Pg) (t6 : Pa) (t7 : Nat → Option Bd) (m2 : Md) (wC2 wM2 : va_W) (H : Heap) (locs : List Loc), c_W q a t1 t2 t3 t4 t5 t6 t7 wC2 → m_W q b m2 wM2 → JJ N2 t1 t2 t3 t4 t5 t6 t7 m2 → va_P D vwCl (wC2 ++ wM2) H → va_D (fun x : Nat => s.heap.size ≤ x) (wC2 ++ wM2) → va_S (fun x : Nat => s.heap.size ≤ x) s.heap H locs → W p l e room_1 s m #[Value.ref b0] below meth c H locs (52 + 15 * (k + 1)) (98998 + 13306 * (k + 1)) (lw_Z below #[Value.ref b0] s) (F0 m 1334 ls [])) : W p l e room_1 s m #[Value.ref b0] below meth c H locs (52 + 15 * k) (98998 + 13306 * k) (lw_Z below #[Value.ref b0] s) (F0 m 1143 ls []) := by
  obtain ⟨hx, hb, hr, hml, hown, hts, hX, hbl, hlocks, hgv⟩ := id C0
  have ht : ∀ w ∈ w_all, w.before #[Value.ref b0] s = true := fun w h => hts w (w_tbl h)
  have hA : ∀ x : Nat, s.heap.size ≤ x → (fun x : Nat => s.heap.size ≤ x) x := fun _ h => h
  have hbA : ¬ (fun x : Nat => s.heap.size ≤ x) b0 := Nat.not_le.mpr hbl
  have hown : s.vm.findClass RL = some m.cls := hown
  refine lv_aload_n hx hb dL_law_1143 rfl (lv_at hl 2 rfl) ?_
  refine lv_aload_n hx hb dL_law_1144 rfl (lv_at hl 3 rfl) ?_
  refine lv_iload_n hx hb dL_law_1145 rfl (lv_at hl 0 rfl) ?_
  refine lv_iconst (v := 1) hx hb dL_law_1146 (by decide) ?_
  refine lv_iadd hx hb dL_law_1147 ?_
  refine ab_i (v := nI (6 * k + 1)) (nI_plus (6 * k) 1) ?_
  refine va_sld hx hb hX hbl hbA hS (lp_in hk hL (by decide)) dL_law_1148 ?_
  refine lv_aload_n hx hb dL_law_1149 rfl (lv_at hl 3 rfl) ?_
  refine lv_iload_n hx hb dL_law_1150 rfl (lv_at hl 0 rfl) ?_
  refine lv_iconst (v := 2) hx hb dL_law_1151 (by decide) ?_
  refine lv_iadd hx hb dL_law_1152 ?_
  refine ab_i (v := nI (6 * k + 2)) (nI_plus (6 * k) 2) ?_
  refine va_sld hx hb hX hbl hbA hS (lp_in hk hL (by decide)) dL_law_1153 ?_
  obtain ⟨r6, r7, M2, mn, hu, hv, hn⟩ := pl_farthest (l := l) (D := D) (x1 := (xs (Int32.toNatClampNeg (nI (6 * k + 1))))) (x2 := (xs (Int32.toNatClampNeg (nI (6 * k + 2))))) hC hM hJ
  refine un_gori (w := wC) (wo := wM) (rest := []) hu (List.Perm.refl _) hx hb hml hown ht wd_X6_farthest mw_1073 hQ hV hS hP rfl rfl hl.1 rfl (Nat.le_of_ble_eq_true rfl) dL_law_1154 ⟨Nat.le_of_ble_eq_true rfl, Nat.le_of_ble_eq_true rfl, rfl, rfl⟩ (lp_rm (mc := 0) (ms := 0) hk hL (by decide) (by decide)) (fun r_1 er_1 => ?_)
  refine lv_pop hx hb dL_law_1157 rfl ?_
  refine lv_aload_n hx hb dL_law_1158 rfl (lv_at hl 1 rfl) ?_
  refine lv_aload_n hx hb dL_law_1159 rfl (lv_at hl 3 rfl) ?_
  refine lv_iload_n hx hb dL_law_1160 rfl (lv_at hl 0 rfl) ?_
  refine lv_iconst (v := 1) hx hb dL_law_1161 (by decide) ?_
  refine lv_iadd hx hb dL_law_1162 ?_
  refine ab_i (v := nI (6 * k + 1)) (nI_plus (6 * k) 1) ?_
  refine va_sld hx hb hX hbl hbA hS (lp_in hk hL (by decide)) dL_law_1163 ?_
  refine lv_aload_n hx hb dL_law_1164 rfl (lv_at hl 3 rfl) ?_
  refine lv_iload_n hx hb dL_law_1165 rfl (lv_at hl 0 rfl) ?_
  refine lv_iconst (v := 2) hx hb dL_law_1166 (by decide) ?_
  refine lv_iadd hx hb dL_law_1167 ?_
  refine ab_i (v := nI (6 * k + 2)) (nI_plus (6 * k) 2) ?_
  refine va_sld hx hb hX hbl hbA hS (lp_in hk hL (by decide)) dL_law_1168 ?_
  refine un_gori (w := wM) (wo := wC) (rest := []) hv List.perm_append_comm hx hb hml hown ht wd_X7_farthest mw_1534 hQ hV hS hP rfl rfl hl.1 rfl (Nat.le_of_ble_eq_true rfl) dL_law_1169 ⟨Nat.le_of_ble_eq_true rfl, Nat.le_of_ble_eq_true rfl, rfl, rfl⟩ (lp_rm (mc := 0) (ms := 0) hk hL (by decide) (by decide)) (fun r_2 er_2 => ?_)
  have hM : m_W q b mn wM := by rw [hn.1]; exact hM
  have hJ := hn.2
  refine lv_pop hx hb dL_law_1172 rfl ?_
  refine lv_goto (tgt := 1334) hx hb dL_law_1173 (by decide) ?_
  refine W.widen (k := 52 + 15 * (k + 1)) (n := 98998 + 13306 * (k + 1)) (by omega) (by omega) ?_
  exact kk M2 s1 s2 s3 s4 s5 s6 z7 mn wC wM H locs hC hM hJ hP hD hS

set_option maxHeartbeats 4000000 in
set_option maxRecDepth 100000 in
/-- lacks -/
theorem lc_34 {p : Program} {e : Env} {s : State} {m : MethodId} {below : List Frame} {meth : Method} {c : Code} {l : Launch} {b0 L : Nat} {xs : Nat → Int32} (C0 : lw_At p s m meth c b0 L xs) (hL : L ≤ 3072) {k : Nat} (hk : 6 * k + 6 ≤ L) {D : va_G} {q : Nat → ClassId} (hQ : kn D q s) (hV : sv q (fun x : Nat => s.heap.size ≤ x) s s.heap) {a b : Nat} {N : Int} {s1 : Tp} {s2 s3 : Bd} {s4 : Mo} {s5 : Pg} {s6 : Pa} {z7 : Nat → Option Bd} {md : Md} {wC wM : va_W} (hC : c_W q a s1 s2 s3 s4 s5 s6 z7 wC) (hM : m_W q b md wM) (hJ : JJ N s1 s2 s3 s4 s5 s6 z7 md) {H : Heap} {locs : List Loc} {ls : Array Slot} (hP : va_P D vwCl (wC ++ wM) H) (hD : va_D (fun x : Nat => s.heap.size ≤ x) (wC ++ wM)) (hS : va_S (fun x : Nat => s.heap.size ≤ x) s.heap H locs) (hl : lv_has ls 4 [(3, .int (nI (6 * k))), (2, .ref b), (1, .ref a), (0, .ref b0)]) (kk : ∀ (N2 : Int) (t1 : Tp) (t2 t3 : Bd) (t4 : Mo) (t5 : Pg) (t6 : Pa) (t7 : Nat → Option Bd) (m2 : Md) (wC2 wM2 : va_W) (H : Heap) (locs : List Loc), c_W q a t1 t2 t3 t4 t5 t6 t7 wC2 → m_W q b m2 wM2 → JJ N2 t1 t2 t3 t4 t5 t6 t7 m2 → va_P D vwCl (wC2 ++ wM2) H → va_D (fun x : Nat => s.heap.size ≤ x) (wC2 ++ wM2) → va_S (fun x : Nat => s.heap.size ≤ x) s.heap H locs → W p l e room_1 s m #[Value.ref b0] below meth c H locs (52 + 15 * (k + 1)) (98998 + 13306 * (k + 1)) (lw_Z below #[Value.ref b0] s) (F0 m 1334 ls [])) : W p l e room_1 s m #[Value.ref b0] below meth c H locs (52 + 15 * k) (98998 + 13306 * k) (lw_Z below #[Value.ref b0] s) (F0 m 1176 ls []) := by
  obtain ⟨hx, hb, hr, hml, hown, hts, hX, hbl, hlocks, hgv⟩ := id C0
  have ht : ∀ w ∈ w_all, w.before #[Value.ref b0] s = true := fun w h => hts w (w_tbl h)
  have hA : ∀ x : Nat, s.heap.size ≤ x → (fun x : Nat => s.heap.size ≤ x) x := fun _ h => h
  have hbA : ¬ (fun x : Nat => s.heap.size ≤ x) b0 := Nat.not_le.mpr hbl
  have hown : s.vm.findClass RL = some m.cls := hown
  refine lv_aload_n hx hb dL_law_1176 rfl (lv_at hl 2 rfl) ?_
  refine lv_aload_n hx hb dL_law_1177 rfl (lv_at hl 3 rfl) ?_
  refine lv_iload_n hx hb dL_law_1178 rfl (lv_at hl 0 rfl) ?_
  refine lv_iconst (v := 1) hx hb dL_law_1179 (by decide) ?_
  refine lv_iadd hx hb dL_law_1180 ?_
  refine ab_i (v := nI (6 * k + 1)) (nI_plus (6 * k) 1) ?_
  refine va_sld hx hb hX hbl hbA hS (lp_in hk hL (by decide)) dL_law_1181 ?_
  refine lv_aload_n hx hb dL_law_1182 rfl (lv_at hl 3 rfl) ?_
  refine lv_iload_n hx hb dL_law_1183 rfl (lv_at hl 0 rfl) ?_
  refine lv_iconst (v := 2) hx hb dL_law_1184 (by decide) ?_
  refine lv_iadd hx hb dL_law_1185 ?_
  refine ab_i (v := nI (6 * k + 2)) (nI_plus (6 * k) 2) ?_
  refine va_sld hx hb hX hbl hbA hS (lp_in hk hL (by decide)) dL_law_1186 ?_
  obtain ⟨r6, r7, M2, mn, hu, hv, hn⟩ := pl_lacks (l := l) (D := D) (x1 := (xs (Int32.toNatClampNeg (nI (6 * k + 1))))) (x2 := (xs (Int32.toNatClampNeg (nI (6 * k + 2))))) hC hM hJ
  refine un_gori (w := wC) (wo := wM) (rest := []) hu (List.Perm.refl _) hx hb hml hown ht wd_X6_lacks mw_1080 hQ hV hS hP rfl rfl hl.1 rfl (Nat.le_of_ble_eq_true rfl) dL_law_1187 ⟨Nat.le_of_ble_eq_true rfl, Nat.le_of_ble_eq_true rfl, rfl, rfl⟩ (lp_rm (mc := 0) (ms := 0) hk hL (by decide) (by decide)) (fun r_1 er_1 => ?_)
  refine lv_aload_n hx hb dL_law_1190 rfl (lv_at hl 1 rfl) ?_
  refine lv_aload_n hx hb dL_law_1191 rfl (lv_at hl 3 rfl) ?_
  refine lv_iload_n hx hb dL_law_1192 rfl (lv_at hl 0 rfl) ?_
  refine lv_iconst (v := 1) hx hb dL_law_1193 (by decide) ?_
  refine lv_iadd hx hb dL_law_1194 ?_
  refine ab_i (v := nI (6 * k + 1)) (nI_plus (6 * k) 1) ?_
  refine va_sld hx hb hX hbl hbA hS (lp_in hk hL (by decide)) dL_law_1195 ?_
  refine lv_aload_n hx hb dL_law_1196 rfl (lv_at hl 3 rfl) ?_
  refine lv_iload_n hx hb dL_law_1197 rfl (lv_at hl 0 rfl) ?_
  refine lv_iconst (v := 2) hx hb dL_law_1198 (by decide) ?_
  refine lv_iadd hx hb dL_law_1199 ?_
  refine ab_i (v := nI (6 * k + 2)) (nI_plus (6 * k) 2) ?_
  refine va_sld hx hb hX hbl hbA hS (lp_in hk hL (by decide)) dL_law_1200 ?_
  refine un_gori (w := wM) (wo := wC) (rest := [.int r_1]) hv List.perm_append_comm hx hb hml hown ht wd_X7_lacks mw_1538 hQ hV hS hP rfl rfl hl.1 rfl (Nat.le_of_ble_eq_true rfl) dL_law_1201 ⟨Nat.le_of_ble_eq_true rfl, Nat.le_of_ble_eq_true rfl, rfl, rfl⟩ (lp_rm (mc := 0) (ms := 0) hk hL (by decide) (by decide)) (fun r_2 er_2 => ?_)
  have hM : m_W q b mn wM := by rw [hn.1]; exact hM
  have hJ := hn.2.1
  have er := hn.2.2
  refine lv_icmp_eq (tgt := 1334) hx hb dL_law_1204 (by decide) (fun _ => ?_) (fun c9 => absurd (er_1.trans (er.trans er_2.symm)) c9)
  refine W.widen (k := 52 + 15 * (k + 1)) (n := 98998 + 13306 * (k + 1)) (by omega) (by omega) ?_
  exact kk M2 s1 s2 s3 s4 s5 s6 z7 mn wC wM H locs hC hM hJ hP hD hS

set_option maxHeartbeats 4000000 in
set_option maxRecDepth 100000 in
/-- rests -/
theorem lc_35 {p : Program} {e : Env} {s : State} {m : MethodId} {below : List Frame} {meth : Method} {c : Code} {l : Launch} {b0 L : Nat} {xs : Nat → Int32} (C0 : lw_At p s m meth c b0 L xs) (hL : L ≤ 3072) {k : Nat} (hk : 6 * k + 6 ≤ L) {D : va_G} {q : Nat → ClassId} (hQ : kn D q s) (hV : sv q (fun x : Nat => s.heap.size ≤ x) s s.heap) {a b : Nat} {N : Int} {s1 : Tp} {s2 s3 : Bd} {s4 : Mo} {s5 : Pg} {s6 : Pa} {z7 : Nat → Option Bd} {md : Md} {wC wM : va_W} (hC : c_W q a s1 s2 s3 s4 s5 s6 z7 wC) (hM : m_W q b md wM) (hJ : JJ N s1 s2 s3 s4 s5 s6 z7 md) {H : Heap} {locs : List Loc} {ls : Array Slot} (hP : va_P D vwCl (wC ++ wM) H) (hD : va_D (fun x : Nat => s.heap.size ≤ x) (wC ++ wM)) (hS : va_S (fun x : Nat => s.heap.size ≤ x) s.heap H locs) (hl : lv_has ls 4 [(3, .int (nI (6 * k))), (2, .ref b), (1, .ref a), (0, .ref b0)]) (kk : ∀ (N2 : Int) (t1 : Tp) (t2 t3 : Bd) (t4 : Mo) (t5 : Pg) (t6 : Pa) (t7 : Nat → Option Bd) (m2 : Md) (wC2 wM2 : va_W) (H : Heap) (locs : List Loc), c_W q a t1 t2 t3 t4 t5 t6 t7 wC2 → m_W q b m2 wM2 → JJ N2 t1 t2 t3 t4 t5 t6 t7 m2 → va_P D vwCl (wC2 ++ wM2) H → va_D (fun x : Nat => s.heap.size ≤ x) (wC2 ++ wM2) → va_S (fun x : Nat => s.heap.size ≤ x) s.heap H locs → W p l e room_1 s m #[Value.ref b0] below meth c H locs (52 + 15 * (k + 1)) (98998 + 13306 * (k + 1)) (lw_Z below #[Value.ref b0] s) (F0 m 1334 ls [])) : W p l e room_1 s m #[Value.ref b0] below meth c H locs (52 + 15 * k) (98998 + 13306 * k) (lw_Z below #[Value.ref b0] s) (F0 m 1209 ls []) := by
  obtain ⟨hx, hb, hr, hml, hown, hts, hX, hbl, hlocks, hgv⟩ := id C0
  have ht : ∀ w ∈ w_all, w.before #[Value.ref b0] s = true := fun w h => hts w (w_tbl h)
  have hA : ∀ x : Nat, s.heap.size ≤ x → (fun x : Nat => s.heap.size ≤ x) x := fun _ h => h
  have hbA : ¬ (fun x : Nat => s.heap.size ≤ x) b0 := Nat.not_le.mpr hbl
  have hown : s.vm.findClass RL = some m.cls := hown
  refine lv_aload_n hx hb dL_law_1209 rfl (lv_at hl 2 rfl) ?_
  refine lv_aload_n hx hb dL_law_1210 rfl (lv_at hl 3 rfl) ?_
  refine lv_iload_n hx hb dL_law_1211 rfl (lv_at hl 0 rfl) ?_
  refine lv_iconst (v := 1) hx hb dL_law_1212 (by decide) ?_
  refine lv_iadd hx hb dL_law_1213 ?_
  refine ab_i (v := nI (6 * k + 1)) (nI_plus (6 * k) 1) ?_
  refine va_sld hx hb hX hbl hbA hS (lp_in hk hL (by decide)) dL_law_1214 ?_
  obtain ⟨r6, r7, M2, s3n, s4n, mn, hu, hv, hn⟩ := pl_rests (l := l) (D := D) (x1 := (xs (Int32.toNatClampNeg (nI (6 * k + 1))))) hC hM hJ
  refine un_goi (w := wC) (wo := wM) (rest := []) hu (List.Perm.refl _) hx hb hml hown ht wd_X6_rests mw_1001 hQ hV hS hA hP hD rfl rfl hl.1 rfl (Nat.le_of_ble_eq_true rfl) dL_law_1215 ⟨Nat.le_of_ble_eq_true rfl, Nat.le_of_ble_eq_true rfl, rfl, rfl⟩ (lp_rm (mc := 0) (ms := 0) hk hL (by decide) (by decide)) (fun r_1 wr_1 H locs er_1 hP hD hS => ?_)
  obtain ⟨fr_1, hC⟩ := er_1
  refine lv_pop hx hb dL_law_1218 rfl ?_
  refine lv_aload_n hx hb dL_law_1219 rfl (lv_at hl 1 rfl) ?_
  refine lv_aload_n hx hb dL_law_1220 rfl (lv_at hl 3 rfl) ?_
  refine lv_iload_n hx hb dL_law_1221 rfl (lv_at hl 0 rfl) ?_
  refine lv_iconst (v := 1) hx hb dL_law_1222 (by decide) ?_
  refine lv_iadd hx hb dL_law_1223 ?_
  refine ab_i (v := nI (6 * k + 1)) (nI_plus (6 * k) 1) ?_
  refine va_sld hx hb hX hbl hbA hS (lp_in hk hL (by decide)) dL_law_1224 ?_
  refine un_goi (w := wM) (wo := wr_1) (rest := []) hv List.perm_append_comm hx hb hml hown ht wd_X7_rests mw_1465 hQ hV hS hA hP hD rfl rfl hl.1 rfl (Nat.le_of_ble_eq_true rfl) dL_law_1225 ⟨Nat.le_of_ble_eq_true rfl, Nat.le_of_ble_eq_true rfl, rfl, rfl⟩ (lp_rm (mc := 0) (ms := 0) hk hL (by decide) (by decide)) (fun r_2 wr_2 H locs er_2 hP hD hS => ?_)
  obtain ⟨fr_2, hM⟩ := er_2
  have hP := vp_perm List.perm_append_comm hP
  have hD := vd_perm List.perm_append_comm hD
  have hJ := hn
  refine lv_pop hx hb dL_law_1228 rfl ?_
  refine lv_goto (tgt := 1334) hx hb dL_law_1229 (by decide) ?_
  refine W.widen (k := 52 + 15 * (k + 1)) (n := 98998 + 13306 * (k + 1)) (by omega) (by omega) ?_
  exact kk M2 s1 s2 s3n s4n s5 s6 z7 mn wr_1 wr_2 H locs hC hM hJ hP hD hS

set_option maxHeartbeats 4000000 in
set_option maxRecDepth 100000 in
/-- unlike -/
theorem lc_36 {p : Program} {e : Env} {s : State} {m : MethodId} {below : List Frame} {meth : Method} {c : Code} {l : Launch} {b0 L : Nat} {xs : Nat → Int32} (C0 : lw_At p s m meth c b0 L xs) (hL : L ≤ 3072) {k : Nat} (hk : 6 * k + 6 ≤ L) {D : va_G} {q : Nat → ClassId} (hQ : kn D q s) (hV : sv q (fun x : Nat => s.heap.size ≤ x) s s.heap) {a b : Nat} {N : Int} {s1 : Tp} {s2 s3 : Bd} {s4 : Mo} {s5 : Pg} {s6 : Pa} {z7 : Nat → Option Bd} {md : Md} {wC wM : va_W} (hC : c_W q a s1 s2 s3 s4 s5 s6 z7 wC) (hM : m_W q b md wM) (hJ : JJ N s1 s2 s3 s4 s5 s6 z7 md) {H : Heap} {locs : List Loc} {ls : Array Slot} (hP : va_P D vwCl (wC ++ wM) H) (hD : va_D (fun x : Nat => s.heap.size ≤ x) (wC ++ wM)) (hS : va_S (fun x : Nat => s.heap.size ≤ x) s.heap H locs) (hl : lv_has ls 4 [(3, .int (nI (6 * k))), (2, .ref b), (1, .ref a), (0, .ref b0)]) (kk : ∀ (N2 : Int) (t1 : Tp) (t2 t3 : Bd) (t4 : Mo) (t5 : Pg) (t6 : Pa) (t7 : Nat → Option Bd) (m2 : Md) (wC2 wM2 : va_W) (H : Heap) (locs : List Loc), c_W q a t1 t2 t3 t4 t5 t6 t7 wC2 → m_W q b m2 wM2 → JJ N2 t1 t2 t3 t4 t5 t6 t7 m2 → va_P D vwCl (wC2 ++ wM2) H → va_D (fun x : Nat => s.heap.size ≤ x) (wC2 ++ wM2) → va_S (fun x : Nat => s.heap.size ≤ x) s.heap H locs → W p l e room_1 s m #[Value.ref b0] below meth c H locs (52 + 15 * (k + 1)) (98998 + 13306 * (k + 1)) (lw_Z below #[Value.ref b0] s) (F0 m 1334 ls [])) : W p l e room_1 s m #[Value.ref b0] below meth c H locs (52 + 15 * k) (98998 + 13306 * k) (lw_Z below #[Value.ref b0] s) (F0 m 1232 ls []) := by
  obtain ⟨hx, hb, hr, hml, hown, hts, hX, hbl, hlocks, hgv⟩ := id C0
  have ht : ∀ w ∈ w_all, w.before #[Value.ref b0] s = true := fun w h => hts w (w_tbl h)
  have hA : ∀ x : Nat, s.heap.size ≤ x → (fun x : Nat => s.heap.size ≤ x) x := fun _ h => h
  have hbA : ¬ (fun x : Nat => s.heap.size ≤ x) b0 := Nat.not_le.mpr hbl
  have hown : s.vm.findClass RL = some m.cls := hown
  refine lv_aload_n hx hb dL_law_1232 rfl (lv_at hl 2 rfl) ?_
  refine lv_aload_n hx hb dL_law_1233 rfl (lv_at hl 3 rfl) ?_
  refine lv_iload_n hx hb dL_law_1234 rfl (lv_at hl 0 rfl) ?_
  refine lv_iconst (v := 1) hx hb dL_law_1235 (by decide) ?_
  refine lv_iadd hx hb dL_law_1236 ?_
  refine ab_i (v := nI (6 * k + 1)) (nI_plus (6 * k) 1) ?_
  refine va_sld hx hb hX hbl hbA hS (lp_in hk hL (by decide)) dL_law_1237 ?_
  refine lv_aload_n hx hb dL_law_1238 rfl (lv_at hl 3 rfl) ?_
  refine lv_iload_n hx hb dL_law_1239 rfl (lv_at hl 0 rfl) ?_
  refine lv_iconst (v := 2) hx hb dL_law_1240 (by decide) ?_
  refine lv_iadd hx hb dL_law_1241 ?_
  refine ab_i (v := nI (6 * k + 2)) (nI_plus (6 * k) 2) ?_
  refine va_sld hx hb hX hbl hbA hS (lp_in hk hL (by decide)) dL_law_1242 ?_
  obtain ⟨r6, r7, M2, mn, hu, hv, hn⟩ := pl_unlike (l := l) (D := D) (x1 := (xs (Int32.toNatClampNeg (nI (6 * k + 1))))) (x2 := (xs (Int32.toNatClampNeg (nI (6 * k + 2))))) hC hM hJ
  refine un_gori (w := wC) (wo := wM) (rest := []) hu (List.Perm.refl _) hx hb hml hown ht wd_X6_unlike mw_1100 hQ hV hS hP rfl rfl hl.1 rfl (Nat.le_of_ble_eq_true rfl) dL_law_1243 ⟨Nat.le_of_ble_eq_true rfl, Nat.le_of_ble_eq_true rfl, rfl, rfl⟩ (lp_rm (mc := 0) (ms := 0) hk hL (by decide) (by decide)) (fun r_1 er_1 => ?_)
  refine lv_pop hx hb dL_law_1246 rfl ?_
  refine lv_aload_n hx hb dL_law_1247 rfl (lv_at hl 1 rfl) ?_
  refine lv_aload_n hx hb dL_law_1248 rfl (lv_at hl 3 rfl) ?_
  refine lv_iload_n hx hb dL_law_1249 rfl (lv_at hl 0 rfl) ?_
  refine lv_iconst (v := 1) hx hb dL_law_1250 (by decide) ?_
  refine lv_iadd hx hb dL_law_1251 ?_
  refine ab_i (v := nI (6 * k + 1)) (nI_plus (6 * k) 1) ?_
  refine va_sld hx hb hX hbl hbA hS (lp_in hk hL (by decide)) dL_law_1252 ?_
  refine lv_aload_n hx hb dL_law_1253 rfl (lv_at hl 3 rfl) ?_
  refine lv_iload_n hx hb dL_law_1254 rfl (lv_at hl 0 rfl) ?_
  refine lv_iconst (v := 2) hx hb dL_law_1255 (by decide) ?_
  refine lv_iadd hx hb dL_law_1256 ?_
  refine ab_i (v := nI (6 * k + 2)) (nI_plus (6 * k) 2) ?_
  refine va_sld hx hb hX hbl hbA hS (lp_in hk hL (by decide)) dL_law_1257 ?_
  refine un_gori (w := wM) (wo := wC) (rest := []) hv List.perm_append_comm hx hb hml hown ht wd_X7_unlike mw_1469 hQ hV hS hP rfl rfl hl.1 rfl (Nat.le_of_ble_eq_true rfl) dL_law_1258 ⟨Nat.le_of_ble_eq_true rfl, Nat.le_of_ble_eq_true rfl, rfl, rfl⟩ (lp_rm (mc := 0) (ms := 0) hk hL (by decide) (by decide)) (fun r_2 er_2 => ?_)
  have hM : m_W q b mn wM := by rw [hn.1]; exact hM
  have hJ := hn.2
  refine lv_pop hx hb dL_law_1261 rfl ?_
  refine lv_goto (tgt := 1334) hx hb dL_law_1262 (by decide) ?_
  refine W.widen (k := 52 + 15 * (k + 1)) (n := 98998 + 13306 * (k + 1)) (by omega) (by omega) ?_
  exact kk M2 s1 s2 s3 s4 s5 s6 z7 mn wC wM H locs hC hM hJ hP hD hS

set_option maxHeartbeats 4000000 in
set_option maxRecDepth 100000 in
/-- letter -/
theorem lc_37 {p : Program} {e : Env} {s : State} {m : MethodId} {below : List Frame} {meth : Method} {c : Code} {l : Launch} {b0 L : Nat} {xs : Nat → Int32} (C0 : lw_At p s m meth c b0 L xs) (hL : L ≤ 3072) {k : Nat} (hk : 6 * k + 6 ≤ L) {D : va_G} {q : Nat → ClassId} (hQ : kn D q s) (hV : sv q (fun x : Nat => s.heap.size ≤ x) s s.heap) {a b : Nat} {N : Int} {s1 : Tp} {s2 s3 : Bd} {s4 : Mo} {s5 : Pg} {s6 : Pa} {z7 : Nat → Option Bd} {md : Md} {wC wM : va_W} (hC : c_W q a s1 s2 s3 s4 s5 s6 z7 wC) (hM : m_W q b md wM) (hJ : JJ N s1 s2 s3 s4 s5 s6 z7 md) {H : Heap} {locs : List Loc} {ls : Array Slot} (hP : va_P D vwCl (wC ++ wM) H) (hD : va_D (fun x : Nat => s.heap.size ≤ x) (wC ++ wM)) (hS : va_S (fun x : Nat => s.heap.size ≤ x) s.heap H locs) (hl : lv_has ls 4 [(3, .int (nI (6 * k))), (2, .ref b), (1, .ref a), (0, .ref b0)]) (kk : ∀ (N2 : Int) (t1 : Tp) (t2 t3 : Bd) (t4 : Mo) (t5 : Pg) (t6 : Pa) (t7 : Nat → Option Bd) (m2 : Md) (wC2 wM2 : va_W) (H : Heap) (locs : List Loc), c_W q a t1 t2 t3 t4 t5 t6 t7 wC2 → m_W q b m2 wM2 → JJ N2 t1 t2 t3 t4 t5 t6 t7 m2 → va_P D vwCl (wC2 ++ wM2) H → va_D (fun x : Nat => s.heap.size ≤ x) (wC2 ++ wM2) → va_S (fun x : Nat => s.heap.size ≤ x) s.heap H locs → W p l e room_1 s m #[Value.ref b0] below meth c H locs (52 + 15 * (k + 1)) (98998 + 13306 * (k + 1)) (lw_Z below #[Value.ref b0] s) (F0 m 1334 ls [])) : W p l e room_1 s m #[Value.ref b0] below meth c H locs (52 + 15 * k) (98998 + 13306 * k) (lw_Z below #[Value.ref b0] s) (F0 m 1265 ls []) := by
  obtain ⟨hx, hb, hr, hml, hown, hts, hX, hbl, hlocks, hgv⟩ := id C0
  have ht : ∀ w ∈ w_all, w.before #[Value.ref b0] s = true := fun w h => hts w (w_tbl h)
  have hA : ∀ x : Nat, s.heap.size ≤ x → (fun x : Nat => s.heap.size ≤ x) x := fun _ h => h
  have hbA : ¬ (fun x : Nat => s.heap.size ≤ x) b0 := Nat.not_le.mpr hbl
  have hown : s.vm.findClass RL = some m.cls := hown
  refine lv_aload_n hx hb dL_law_1265 rfl (lv_at hl 2 rfl) ?_
  refine lv_aload_n hx hb dL_law_1266 rfl (lv_at hl 3 rfl) ?_
  refine lv_iload_n hx hb dL_law_1267 rfl (lv_at hl 0 rfl) ?_
  refine lv_iconst (v := 1) hx hb dL_law_1268 (by decide) ?_
  refine lv_iadd hx hb dL_law_1269 ?_
  refine ab_i (v := nI (6 * k + 1)) (nI_plus (6 * k) 1) ?_
  refine va_sld hx hb hX hbl hbA hS (lp_in hk hL (by decide)) dL_law_1270 ?_
  refine lv_aload_n hx hb dL_law_1271 rfl (lv_at hl 3 rfl) ?_
  refine lv_iload_n hx hb dL_law_1272 rfl (lv_at hl 0 rfl) ?_
  refine lv_iconst (v := 2) hx hb dL_law_1273 (by decide) ?_
  refine lv_iadd hx hb dL_law_1274 ?_
  refine ab_i (v := nI (6 * k + 2)) (nI_plus (6 * k) 2) ?_
  refine va_sld hx hb hX hbl hbA hS (lp_in hk hL (by decide)) dL_law_1275 ?_
  obtain ⟨r6, r7, M2, mn, hu, hv, hn⟩ := pl_letter (l := l) (D := D) (x1 := (xs (Int32.toNatClampNeg (nI (6 * k + 1))))) (x2 := (xs (Int32.toNatClampNeg (nI (6 * k + 2))))) hC hM hJ
  refine un_gori (w := wC) (wo := wM) (rest := []) hu (List.Perm.refl _) hx hb hml hown ht wd_X6_letter mw_1105 hQ hV hS hP rfl rfl hl.1 rfl (Nat.le_of_ble_eq_true rfl) dL_law_1276 ⟨Nat.le_of_ble_eq_true rfl, Nat.le_of_ble_eq_true rfl, rfl, rfl⟩ (lp_rm (mc := 0) (ms := 0) hk hL (by decide) (by decide)) (fun r_1 er_1 => ?_)
  refine lv_pop hx hb dL_law_1279 rfl ?_
  refine lv_aload_n hx hb dL_law_1280 rfl (lv_at hl 1 rfl) ?_
  refine lv_aload_n hx hb dL_law_1281 rfl (lv_at hl 3 rfl) ?_
  refine lv_iload_n hx hb dL_law_1282 rfl (lv_at hl 0 rfl) ?_
  refine lv_iconst (v := 1) hx hb dL_law_1283 (by decide) ?_
  refine lv_iadd hx hb dL_law_1284 ?_
  refine ab_i (v := nI (6 * k + 1)) (nI_plus (6 * k) 1) ?_
  refine va_sld hx hb hX hbl hbA hS (lp_in hk hL (by decide)) dL_law_1285 ?_
  refine lv_aload_n hx hb dL_law_1286 rfl (lv_at hl 3 rfl) ?_
  refine lv_iload_n hx hb dL_law_1287 rfl (lv_at hl 0 rfl) ?_
  refine lv_iconst (v := 2) hx hb dL_law_1288 (by decide) ?_
  refine lv_iadd hx hb dL_law_1289 ?_
  refine ab_i (v := nI (6 * k + 2)) (nI_plus (6 * k) 2) ?_
  refine va_sld hx hb hX hbl hbA hS (lp_in hk hL (by decide)) dL_law_1290 ?_
  refine un_gori (w := wM) (wo := wC) (rest := []) hv List.perm_append_comm hx hb hml hown ht wd_X7_letter mw_1479 hQ hV hS hP rfl rfl hl.1 rfl (Nat.le_of_ble_eq_true rfl) dL_law_1291 ⟨Nat.le_of_ble_eq_true rfl, Nat.le_of_ble_eq_true rfl, rfl, rfl⟩ (lp_rm (mc := 0) (ms := 0) hk hL (by decide) (by decide)) (fun r_2 er_2 => ?_)
  have hM : m_W q b mn wM := by rw [hn.1]; exact hM
  have hJ := hn.2
  refine lv_pop hx hb dL_law_1294 rfl ?_
  refine lv_goto (tgt := 1334) hx hb dL_law_1295 (by decide) ?_
  refine W.widen (k := 52 + 15 * (k + 1)) (n := 98998 + 13306 * (k + 1)) (by omega) (by omega) ?_
  exact kk M2 s1 s2 s3 s4 s5 s6 z7 mn wC wM H locs hC hM hJ hP hD hS

set_option maxHeartbeats 4000000 in
set_option maxRecDepth 100000 in
/-- digest -/
theorem lc_38 {p : Program} {e : Env} {s : State} {m : MethodId} {below : List Frame} {meth : Method} {c : Code} {l : Launch} {b0 L : Nat} {xs : Nat → Int32} (C0 : lw_At p s m meth c b0 L xs) (hL : L ≤ 3072) {k : Nat} (hk : 6 * k + 6 ≤ L) {D : va_G} {q : Nat → ClassId} (hQ : kn D q s) (hV : sv q (fun x : Nat => s.heap.size ≤ x) s s.heap) {a b : Nat} {N : Int} {s1 : Tp} {s2 s3 : Bd} {s4 : Mo} {s5 : Pg} {s6 : Pa} {z7 : Nat → Option Bd} {md : Md} {wC wM : va_W} (hC : c_W q a s1 s2 s3 s4 s5 s6 z7 wC) (hM : m_W q b md wM) (hJ : JJ N s1 s2 s3 s4 s5 s6 z7 md) {H : Heap} {locs : List Loc} {ls : Array Slot} (hP : va_P D vwCl (wC ++ wM) H) (hD : va_D (fun x : Nat => s.heap.size ≤ x) (wC ++ wM)) (hS : va_S (fun x : Nat => s.heap.size ≤ x) s.heap H locs) (hl : lv_has ls 4 [(3, .int (nI (6 * k))), (2, .ref b), (1, .ref a), (0, .ref b0)]) (kk : ∀ (N2 : Int) (t1 : Tp) (t2 t3 : Bd) (t4 : Mo) (t5 : Pg) (t6 : Pa) (t7 : Nat → Option Bd) (m2 : Md) (wC2 wM2 : va_W) (H : Heap) (locs : List Loc), c_W q a t1 t2 t3 t4 t5 t6 t7 wC2 → m_W q b m2 wM2 → JJ N2 t1 t2 t3 t4 t5 t6 t7 m2 → va_P D vwCl (wC2 ++ wM2) H → va_D (fun x : Nat => s.heap.size ≤ x) (wC2 ++ wM2) → va_S (fun x : Nat => s.heap.size ≤ x) s.heap H locs → W p l e room_1 s m #[Value.ref b0] below meth c H locs (52 + 15 * (k + 1)) (98998 + 13306 * (k + 1)) (lw_Z below #[Value.ref b0] s) (F0 m 1334 ls [])) : W p l e room_1 s m #[Value.ref b0] below meth c H locs (52 + 15 * k) (98998 + 13306 * k) (lw_Z below #[Value.ref b0] s) (F0 m 1298 ls []) := by
  obtain ⟨hx, hb, hr, hml, hown, hts, hX, hbl, hlocks, hgv⟩ := id C0
  have ht : ∀ w ∈ w_all, w.before #[Value.ref b0] s = true := fun w h => hts w (w_tbl h)
  have hA : ∀ x : Nat, s.heap.size ≤ x → (fun x : Nat => s.heap.size ≤ x) x := fun _ h => h
  have hbA : ¬ (fun x : Nat => s.heap.size ≤ x) b0 := Nat.not_le.mpr hbl
  have hown : s.vm.findClass RL = some m.cls := hown
  refine lv_aload_n hx hb dL_law_1298 rfl (lv_at hl 2 rfl) ?_
  obtain ⟨r6, r7, M2, mn, hu, hv, hn⟩ := pl_digest (l := l) (D := D)  hC hM hJ
  refine un_gorl (w := wC) (wo := wM) (rest := []) hu (List.Perm.refl _) hx hb hml hown ht wd_X6_digest mw_1109 hQ hV hS hP rfl rfl hl.1 rfl (Nat.le_of_ble_eq_true rfl) dL_law_1299 ⟨Nat.le_of_ble_eq_true rfl, Nat.le_of_ble_eq_true rfl, rfl, rfl⟩ (lp_rm (mc := 0) (ms := 0) hk hL (by decide) (by decide)) (fun r_1 er_1 => ?_)
  refine lv_pop2_2 hx hb dL_law_1302 rfl ?_
  refine lv_aload_n hx hb dL_law_1303 rfl (lv_at hl 1 rfl) ?_
  refine un_gorl (w := wM) (wo := wC) (rest := []) hv List.perm_append_comm hx hb hml hown ht wd_X7_digest mw_1473 hQ hV hS hP rfl rfl hl.1 rfl (Nat.le_of_ble_eq_true rfl) dL_law_1304 ⟨Nat.le_of_ble_eq_true rfl, Nat.le_of_ble_eq_true rfl, rfl, rfl⟩ (lp_rm (mc := 0) (ms := 0) hk hL (by decide) (by decide)) (fun r_2 er_2 => ?_)
  have hM : m_W q b mn wM := by rw [hn.1]; exact hM
  have hJ := hn.2
  refine lv_pop2_2 hx hb dL_law_1307 rfl ?_
  refine lv_goto (tgt := 1334) hx hb dL_law_1308 (by decide) ?_
  refine W.widen (k := 52 + 15 * (k + 1)) (n := 98998 + 13306 * (k + 1)) (by omega) (by omega) ?_
  exact kk M2 s1 s2 s3 s4 s5 s6 z7 mn wC wM H locs hC hM hJ hP hD hS

set_option maxHeartbeats 4000000 in
set_option maxRecDepth 100000 in
/-- count -/
theorem lc_39 {p : Program} {e : Env} {s : State} {m : MethodId} {below : List Frame} {meth : Method} {c : Code} {l : Launch} {b0 L : Nat} {xs : Nat → Int32} (C0 : lw_At p s m meth c b0 L xs) (hL : L ≤ 3072) {k : Nat} (hk : 6 * k + 6 ≤ L) {D : va_G} {q : Nat → ClassId} (hQ : kn D q s) (hV : sv q (fun x : Nat => s.heap.size ≤ x) s s.heap) {a b : Nat} {N : Int} {s1 : Tp} {s2 s3 : Bd} {s4 : Mo} {s5 : Pg} {s6 : Pa} {z7 : Nat → Option Bd} {md : Md} {wC wM : va_W} (hC : c_W q a s1 s2 s3 s4 s5 s6 z7 wC) (hM : m_W q b md wM) (hJ : JJ N s1 s2 s3 s4 s5 s6 z7 md) {H : Heap} {locs : List Loc} {ls : Array Slot} (hP : va_P D vwCl (wC ++ wM) H) (hD : va_D (fun x : Nat => s.heap.size ≤ x) (wC ++ wM)) (hS : va_S (fun x : Nat => s.heap.size ≤ x) s.heap H locs) (hl : lv_has ls 4 [(3, .int (nI (6 * k))), (2, .ref b), (1, .ref a), (0, .ref b0)]) (kk : ∀ (N2 : Int) (t1 : Tp) (t2 t3 : Bd) (t4 : Mo) (t5 : Pg) (t6 : Pa) (t7 : Nat → Option Bd) (m2 : Md) (wC2 wM2 : va_W) (H : Heap) (locs : List Loc), c_W q a t1 t2 t3 t4 t5 t6 t7 wC2 → m_W q b m2 wM2 → JJ N2 t1 t2 t3 t4 t5 t6 t7 m2 → va_P D vwCl (wC2 ++ wM2) H → va_D (fun x : Nat => s.heap.size ≤ x) (wC2 ++ wM2) → va_S (fun x : Nat => s.heap.size ≤ x) s.heap H locs → W p l e room_1 s m #[Value.ref b0] below meth c H locs (52 + 15 * (k + 1)) (98998 + 13306 * (k + 1)) (lw_Z below #[Value.ref b0] s) (F0 m 1334 ls [])) : W p l e room_1 s m #[Value.ref b0] below meth c H locs (52 + 15 * k) (98998 + 13306 * k) (lw_Z below #[Value.ref b0] s) (F0 m 1311 ls []) := by
  obtain ⟨hx, hb, hr, hml, hown, hts, hX, hbl, hlocks, hgv⟩ := id C0
  have ht : ∀ w ∈ w_all, w.before #[Value.ref b0] s = true := fun w h => hts w (w_tbl h)
  have hA : ∀ x : Nat, s.heap.size ≤ x → (fun x : Nat => s.heap.size ≤ x) x := fun _ h => h
  have hbA : ¬ (fun x : Nat => s.heap.size ≤ x) b0 := Nat.not_le.mpr hbl
  have hown : s.vm.findClass RL = some m.cls := hown
  refine lv_aload_n hx hb dL_law_1311 rfl (lv_at hl 2 rfl) ?_
  refine lv_aload_n hx hb dL_law_1312 rfl (lv_at hl 3 rfl) ?_
  refine lv_iload_n hx hb dL_law_1313 rfl (lv_at hl 0 rfl) ?_
  refine lv_iconst (v := 1) hx hb dL_law_1314 (by decide) ?_
  refine lv_iadd hx hb dL_law_1315 ?_
  refine ab_i (v := nI (6 * k + 1)) (nI_plus (6 * k) 1) ?_
  refine va_sld hx hb hX hbl hbA hS (lp_in hk hL (by decide)) dL_law_1316 ?_
  obtain ⟨r6, r7, M2, s4n, s6n, mn, hu, hv, hn⟩ := pl_count (l := l) (D := D) (x1 := (xs (Int32.toNatClampNeg (nI (6 * k + 1))))) hC hM hJ
  refine un_goi (w := wC) (wo := wM) (rest := []) hu (List.Perm.refl _) hx hb hml hown ht wd_X6_count mw_1115 hQ hV hS hA hP hD rfl rfl hl.1 rfl (Nat.le_of_ble_eq_true rfl) dL_law_1317 ⟨Nat.le_of_ble_eq_true rfl, Nat.le_of_ble_eq_true rfl, rfl, rfl⟩ (lp_rm (mc := 0) (ms := 0) hk hL (by decide) (by decide)) (fun r_1 wr_1 H locs er_1 hP hD hS => ?_)
  obtain ⟨fr_1, hC⟩ := er_1
  refine lv_pop hx hb dL_law_1320 rfl ?_
  refine lv_aload_n hx hb dL_law_1321 rfl (lv_at hl 1 rfl) ?_
  refine lv_aload_n hx hb dL_law_1322 rfl (lv_at hl 3 rfl) ?_
  refine lv_iload_n hx hb dL_law_1323 rfl (lv_at hl 0 rfl) ?_
  refine lv_iconst (v := 1) hx hb dL_law_1324 (by decide) ?_
  refine lv_iadd hx hb dL_law_1325 ?_
  refine ab_i (v := nI (6 * k + 1)) (nI_plus (6 * k) 1) ?_
  refine va_sld hx hb hX hbl hbA hS (lp_in hk hL (by decide)) dL_law_1326 ?_
  refine un_goi (w := wM) (wo := wr_1) (rest := []) hv List.perm_append_comm hx hb hml hown ht wd_X7_count mw_1483 hQ hV hS hA hP hD rfl rfl hl.1 rfl (Nat.le_of_ble_eq_true rfl) dL_law_1327 ⟨Nat.le_of_ble_eq_true rfl, Nat.le_of_ble_eq_true rfl, rfl, rfl⟩ (lp_rm (mc := 0) (ms := 0) hk hL (by decide) (by decide)) (fun r_2 wr_2 H locs er_2 hP hD hS => ?_)
  obtain ⟨fr_2, hM⟩ := er_2
  have hP := vp_perm List.perm_append_comm hP
  have hD := vd_perm List.perm_append_comm hD
  have hJ := hn.2
  refine lv_pop hx hb dL_law_1330 rfl ?_
  refine lv_goto (tgt := 1334) hx hb dL_law_1331 (by decide) ?_
  refine W.widen (k := 52 + 15 * (k + 1)) (n := 98998 + 13306 * (k + 1)) (by omega) (by omega) ?_
  exact kk M2 s1 s2 s3 s4n s5 s6n z7 mn wr_1 wr_2 H locs hC hM hJ hP hD hS

set_option maxHeartbeats 4000000 in
set_option maxRecDepth 100000 in
theorem lp_step {p : Program} {e : Env} {s : State} {m : MethodId} {below : List Frame} {meth : Method} {c : Code} {l : Launch} {b0 L : Nat} {xs : Nat → Int32} (C0 : lw_At p s m meth c b0 L xs) (hL : L ≤ 3072) {k : Nat} (hk : 6 * k + 6 ≤ L) {D : va_G} {q : Nat → ClassId} (hQ : kn D q s) (hV : sv q (fun x : Nat => s.heap.size ≤ x) s s.heap) {a b : Nat} {N : Int} {s1 : Tp} {s2 s3 : Bd} {s4 : Mo} {s5 : Pg} {s6 : Pa} {z7 : Nat → Option Bd} {md : Md} {wC wM : va_W} (hC : c_W q a s1 s2 s3 s4 s5 s6 z7 wC) (hM : m_W q b md wM) (hJ : JJ N s1 s2 s3 s4 s5 s6 z7 md) {H : Heap} {locs : List Loc} {ls : Array Slot} (hP : va_P D vwCl (wC ++ wM) H) (hD : va_D (fun x : Nat => s.heap.size ≤ x) (wC ++ wM)) (hS : va_S (fun x : Nat => s.heap.size ≤ x) s.heap H locs) (hl : lv_has ls 4 [(3, .int (nI (6 * k))), (2, .ref b), (1, .ref a), (0, .ref b0)]) (kk : ∀ (N2 : Int) (t1 : Tp) (t2 t3 : Bd) (t4 : Mo) (t5 : Pg) (t6 : Pa) (t7 : Nat → Option Bd) (m2 : Md) (wC2 wM2 : va_W) (H : Heap) (locs : List Loc), c_W q a t1 t2 t3 t4 t5 t6 t7 wC2 → m_W q b m2 wM2 → JJ N2 t1 t2 t3 t4 t5 t6 t7 m2 → va_P D vwCl (wC2 ++ wM2) H → va_D (fun x : Nat => s.heap.size ≤ x) (wC2 ++ wM2) → va_S (fun x : Nat => s.heap.size ≤ x) s.heap H locs → W p l e room_1 s m #[Value.ref b0] below meth c H locs (52 + 15 * (k + 1)) (98998 + 13306 * (k + 1)) (lw_Z below #[Value.ref b0] s) (F0 m 1334 ls [])) : W p l e room_1 s m #[Value.ref b0] below meth c H locs (52 + 15 * k) (98998 + 13306 * k) (lw_Z below #[Value.ref b0] s) (F0 m 18 ls []) := by
  obtain ⟨hx, hb, hr, hml, hown, hts, hX, hbl, hlocks, hgv⟩ := id C0
  have ht : ∀ w ∈ w_all, w.before #[Value.ref b0] s = true := fun w h => hts w (w_tbl h)
  have hA : ∀ x : Nat, s.heap.size ≤ x → (fun x : Nat => s.heap.size ≤ x) x := fun _ h => h
  have hbA : ¬ (fun x : Nat => s.heap.size ≤ x) b0 := Nat.not_le.mpr hbl
  have hown : s.vm.findClass RL = some m.cls := hown
  refine lv_iload_n hx hb dL_law_18 rfl (lv_at hl 0 rfl) ?_
  refine lv_aload_n hx hb dL_law_19 rfl (lv_at hl 3 rfl) ?_
  refine va_slen hx hb hX hbl hbA hS dL_law_20 ?_
  refine lv_bipush (v := 6) hx hb dL_law_21 (by decide) ?_
  refine lv_isub hx hb dL_law_23 ?_
  refine lv_icmp_gt (tgt := 1340) hx hb dL_law_24 (by decide) (fun c9 => absurd c9 (lp_on hk hL)) (fun _ => ?_)
  refine lv_aload_n hx hb dL_law_27 rfl (lv_at hl 3 rfl) ?_
  refine lv_iload_n hx hb dL_law_28 rfl (lv_at hl 0 rfl) ?_
  refine va_sld hx hb hX hbl hbA hS (lp_in (c := 0) hk hL (by decide)) dL_law_29 ?_
  refine lv_bipush (v := 63) hx hb dL_law_30 (by decide) ?_
  refine lv_iand hx hb dL_law_32 ?_
  refine lv_topi (fun w ew => ?_)
  by_cases k_0 : w = 0
  · refine lv_tableIn (tgt := 208) hx hb dL_law_33 (by rw [k_0]; decide) (by rw [k_0]; decide) (by rw [k_0]; rfl) (by decide) ?_
    exact lc_0 C0 hL hk hQ hV hC hM hJ hP hD hS hl kk
  by_cases k_1 : w = 1
  · refine lv_tableIn (tgt := 271) hx hb dL_law_33 (by rw [k_1]; decide) (by rw [k_1]; decide) (by rw [k_1]; rfl) (by decide) ?_
    exact lc_1 C0 hL hk hQ hV hC hM hJ hP hD hS hl kk
  by_cases k_2 : w = 2
  · refine lv_tableIn (tgt := 294) hx hb dL_law_33 (by rw [k_2]; decide) (by rw [k_2]; decide) (by rw [k_2]; rfl) (by decide) ?_
    exact lc_2 C0 hL hk hQ hV hC hM hJ hP hD hS hl kk
  by_cases k_3 : w = 3
  · refine lv_tableIn (tgt := 307) hx hb dL_law_33 (by rw [k_3]; decide) (by rw [k_3]; decide) (by rw [k_3]; rfl) (by decide) ?_
    exact lc_3 C0 hL hk hQ hV hC hM hJ hP hD hS hl kk
  by_cases k_4 : w = 4
  · refine lv_tableIn (tgt := 330) hx hb dL_law_33 (by rw [k_4]; decide) (by rw [k_4]; decide) (by rw [k_4]; rfl) (by decide) ?_
    exact lc_4 C0 hL hk hQ hV hC hM hJ hP hD hS hl kk
  by_cases k_5 : w = 5
  · refine lv_tableIn (tgt := 343) hx hb dL_law_33 (by rw [k_5]; decide) (by rw [k_5]; decide) (by rw [k_5]; rfl) (by decide) ?_
    exact lc_5 C0 hL hk hQ hV hC hM hJ hP hD hS hl kk
  by_cases k_6 : w = 6
  · refine lv_tableIn (tgt := 366) hx hb dL_law_33 (by rw [k_6]; decide) (by rw [k_6]; decide) (by rw [k_6]; rfl) (by decide) ?_
    exact lc_6 C0 hL hk hQ hV hC hM hJ hP hD hS hl kk
  by_cases k_7 : w = 7
  · refine lv_tableIn (tgt := 379) hx hb dL_law_33 (by rw [k_7]; decide) (by rw [k_7]; decide) (by rw [k_7]; rfl) (by decide) ?_
    exact lc_7 C0 hL hk hQ hV hC hM hJ hP hD hS hl kk
  by_cases k_8 : w = 8
  · refine lv_tableIn (tgt := 412) hx hb dL_law_33 (by rw [k_8]; decide) (by rw [k_8]; decide) (by rw [k_8]; rfl) (by decide) ?_
    exact lc_8 C0 hL hk hQ hV hC hM hJ hP hD hS hl kk
  by_cases k_9 : w = 9
  · refine lv_tableIn (tgt := 445) hx hb dL_law_33 (by rw [k_9]; decide) (by rw [k_9]; decide) (by rw [k_9]; rfl) (by decide) ?_
    exact lc_9 C0 hL hk hQ hV hC hM hJ hP hD hS hl kk
  by_cases k_10 : w = 10
  · refine lv_tableIn (tgt := 478) hx hb dL_law_33 (by rw [k_10]; decide) (by rw [k_10]; decide) (by rw [k_10]; rfl) (by decide) ?_
    exact lc_10 C0 hL hk hQ hV hC hM hJ hP hD hS hl kk
  by_cases k_11 : w = 11
  · refine lv_tableIn (tgt := 501) hx hb dL_law_33 (by rw [k_11]; decide) (by rw [k_11]; decide) (by rw [k_11]; rfl) (by decide) ?_
    exact lc_11 C0 hL hk hQ hV hC hM hJ hP hD hS hl kk
  by_cases k_12 : w = 12
  · refine lv_tableIn (tgt := 544) hx hb dL_law_33 (by rw [k_12]; decide) (by rw [k_12]; decide) (by rw [k_12]; rfl) (by decide) ?_
    exact lc_12 C0 hL hk hQ hV hC hM hJ hP hD hS hl kk
  by_cases k_13 : w = 13
  · refine lv_tableIn (tgt := 557) hx hb dL_law_33 (by rw [k_13]; decide) (by rw [k_13]; decide) (by rw [k_13]; rfl) (by decide) ?_
    exact lc_13 C0 hL hk hQ hV hC hM hJ hP hD hS hl kk
  by_cases k_14 : w = 14
  · refine lv_tableIn (tgt := 570) hx hb dL_law_33 (by rw [k_14]; decide) (by rw [k_14]; decide) (by rw [k_14]; rfl) (by decide) ?_
    exact lc_14 C0 hL hk hQ hV hC hM hJ hP hD hS hl kk
  by_cases k_15 : w = 15
  · refine lv_tableIn (tgt := 593) hx hb dL_law_33 (by rw [k_15]; decide) (by rw [k_15]; decide) (by rw [k_15]; rfl) (by decide) ?_
    exact lc_15 C0 hL hk hQ hV hC hM hJ hP hD hS hl kk
  by_cases k_16 : w = 16
  · refine lv_tableIn (tgt := 616) hx hb dL_law_33 (by rw [k_16]; decide) (by rw [k_16]; decide) (by rw [k_16]; rfl) (by decide) ?_
    exact lc_16 C0 hL hk hQ hV hC hM hJ hP hD hS hl kk
  by_cases k_17 : w = 17
  · refine lv_tableIn (tgt := 649) hx hb dL_law_33 (by rw [k_17]; decide) (by rw [k_17]; decide) (by rw [k_17]; rfl) (by decide) ?_
    exact lc_17 C0 hL hk hQ hV hC hM hJ hP hD hS hl kk
  by_cases k_18 : w = 18
  · refine lv_tableIn (tgt := 672) hx hb dL_law_33 (by rw [k_18]; decide) (by rw [k_18]; decide) (by rw [k_18]; rfl) (by decide) ?_
    exact lc_18 C0 hL hk hQ hV hC hM hJ hP hD hS hl kk
  by_cases k_19 : w = 19
  · refine lv_tableIn (tgt := 705) hx hb dL_law_33 (by rw [k_19]; decide) (by rw [k_19]; decide) (by rw [k_19]; rfl) (by decide) ?_
    exact lc_19 C0 hL hk hQ hV hC hM hJ hP hD hS hl kk
  by_cases k_20 : w = 20
  · refine lv_tableIn (tgt := 738) hx hb dL_law_33 (by rw [k_20]; decide) (by rw [k_20]; decide) (by rw [k_20]; rfl) (by decide) ?_
    exact lc_20 C0 hL hk hQ hV hC hM hJ hP hD hS hl kk
  by_cases k_21 : w = 21
  · refine lv_tableIn (tgt := 781) hx hb dL_law_33 (by rw [k_21]; decide) (by rw [k_21]; decide) (by rw [k_21]; rfl) (by decide) ?_
    exact lc_21 C0 hL hk hQ hV hC hM hJ hP hD hS hl kk
  by_cases k_22 : w = 22
  · refine lv_tableIn (tgt := 804) hx hb dL_law_33 (by rw [k_22]; decide) (by rw [k_22]; decide) (by rw [k_22]; rfl) (by decide) ?_
    exact lc_22 C0 hL hk hQ hV hC hM hJ hP hD hS hl kk
  by_cases k_23 : w = 23
  · refine lv_tableIn (tgt := 827) hx hb dL_law_33 (by rw [k_23]; decide) (by rw [k_23]; decide) (by rw [k_23]; rfl) (by decide) ?_
    exact lc_23 C0 hL hk hQ hV hC hM hJ hP hD hS hl kk
  by_cases k_24 : w = 24
  · refine lv_tableIn (tgt := 850) hx hb dL_law_33 (by rw [k_24]; decide) (by rw [k_24]; decide) (by rw [k_24]; rfl) (by decide) ?_
    exact lc_24 C0 hL hk hQ hV hC hM hJ hP hD hS hl kk
  by_cases k_25 : w = 25
  · refine lv_tableIn (tgt := 873) hx hb dL_law_33 (by rw [k_25]; decide) (by rw [k_25]; decide) (by rw [k_25]; rfl) (by decide) ?_
    exact lc_25 C0 hL hk hQ hV hC hM hJ hP hD hS hl kk
  by_cases k_26 : w = 26
  · refine lv_tableIn (tgt := 896) hx hb dL_law_33 (by rw [k_26]; decide) (by rw [k_26]; decide) (by rw [k_26]; rfl) (by decide) ?_
    exact lc_26 C0 hL hk hQ hV hC hM hJ hP hD hS hl kk
  by_cases k_27 : w = 27
  · refine lv_tableIn (tgt := 919) hx hb dL_law_33 (by rw [k_27]; decide) (by rw [k_27]; decide) (by rw [k_27]; rfl) (by decide) ?_
    exact lc_27 C0 hL hk hQ hV hC hM hJ hP hD hS hl kk
  by_cases k_28 : w = 28
  · refine lv_tableIn (tgt := 952) hx hb dL_law_33 (by rw [k_28]; decide) (by rw [k_28]; decide) (by rw [k_28]; rfl) (by decide) ?_
    exact lc_28 C0 hL hk hQ hV hC hM hJ hP hD hS hl kk
  by_cases k_29 : w = 29
  · refine lv_tableIn (tgt := 985) hx hb dL_law_33 (by rw [k_29]; decide) (by rw [k_29]; decide) (by rw [k_29]; rfl) (by decide) ?_
    exact lc_29 C0 hL hk hQ hV hC hM hJ hP hD hS hl kk
  by_cases k_30 : w = 30
  · refine lv_tableIn (tgt := 1018) hx hb dL_law_33 (by rw [k_30]; decide) (by rw [k_30]; decide) (by rw [k_30]; rfl) (by decide) ?_
    exact lc_30 C0 hL hk hQ hV hC hM hJ hP hD hS hl kk
  by_cases k_31 : w = 31
  · refine lv_tableIn (tgt := 1077) hx hb dL_law_33 (by rw [k_31]; decide) (by rw [k_31]; decide) (by rw [k_31]; rfl) (by decide) ?_
    exact lc_31 C0 hL hk hQ hV hC hM hJ hP hD hS hl kk
  by_cases k_32 : w = 32
  · refine lv_tableIn (tgt := 1110) hx hb dL_law_33 (by rw [k_32]; decide) (by rw [k_32]; decide) (by rw [k_32]; rfl) (by decide) ?_
    exact lc_32 C0 hL hk hQ hV hC hM hJ hP hD hS hl kk
  by_cases k_33 : w = 33
  · refine lv_tableIn (tgt := 1143) hx hb dL_law_33 (by rw [k_33]; decide) (by rw [k_33]; decide) (by rw [k_33]; rfl) (by decide) ?_
    exact lc_33 C0 hL hk hQ hV hC hM hJ hP hD hS hl kk
  by_cases k_34 : w = 34
  · refine lv_tableIn (tgt := 1176) hx hb dL_law_33 (by rw [k_34]; decide) (by rw [k_34]; decide) (by rw [k_34]; rfl) (by decide) ?_
    exact lc_34 C0 hL hk hQ hV hC hM hJ hP hD hS hl kk
  by_cases k_35 : w = 35
  · refine lv_tableIn (tgt := 1209) hx hb dL_law_33 (by rw [k_35]; decide) (by rw [k_35]; decide) (by rw [k_35]; rfl) (by decide) ?_
    exact lc_35 C0 hL hk hQ hV hC hM hJ hP hD hS hl kk
  by_cases k_36 : w = 36
  · refine lv_tableIn (tgt := 1232) hx hb dL_law_33 (by rw [k_36]; decide) (by rw [k_36]; decide) (by rw [k_36]; rfl) (by decide) ?_
    exact lc_36 C0 hL hk hQ hV hC hM hJ hP hD hS hl kk
  by_cases k_37 : w = 37
  · refine lv_tableIn (tgt := 1265) hx hb dL_law_33 (by rw [k_37]; decide) (by rw [k_37]; decide) (by rw [k_37]; rfl) (by decide) ?_
    exact lc_37 C0 hL hk hQ hV hC hM hJ hP hD hS hl kk
  by_cases k_38 : w = 38
  · refine lv_tableIn (tgt := 1298) hx hb dL_law_33 (by rw [k_38]; decide) (by rw [k_38]; decide) (by rw [k_38]; rfl) (by decide) ?_
    exact lc_38 C0 hL hk hQ hV hC hM hJ hP hD hS hl kk
  by_cases k_39 : w = 39
  · refine lv_tableIn (tgt := 1311) hx hb dL_law_33 (by rw [k_39]; decide) (by rw [k_39]; decide) (by rw [k_39]; rfl) (by decide) ?_
    exact lc_39 C0 hL hk hQ hV hC hM hJ hP hD hS hl kk
  refine lv_tableOut (tgt := 1334) hx hb dL_law_33 (by have g0 := k_0; have g1 := k_1; have g2 := k_2; have g3 := k_3; have g4 := k_4; have g5 := k_5; have g6 := k_6; have g7 := k_7; have g8 := k_8; have g9 := k_9; have g10 := k_10; have g11 := k_11; have g12 := k_12; have g13 := k_13; have g14 := k_14; have g15 := k_15; have g16 := k_16; have g17 := k_17; have g18 := k_18; have g19 := k_19; have g20 := k_20; have g21 := k_21; have g22 := k_22; have g23 := k_23; have g24 := k_24; have g25 := k_25; have g26 := k_26; have g27 := k_27; have g28 := k_28; have g29 := k_29; have g30 := k_30; have g31 := k_31; have g32 := k_32; have g33 := k_33; have g34 := k_34; have g35 := k_35; have g36 := k_36; have g37 := k_37; have g38 := k_38; have g39 := k_39; (try simp only [lg_cmp_ge, lg_cmp_le, lg_cmp_gt, lg_cmp_lt, lg_cmp_eq] at g0 g1 g2 g3 g4 g5 g6 g7 g8 g9 g10 g11 g12 g13 g14 g15 g16 g17 g18 g19 g20 g21 g22 g23 g24 g25 g26 g27 g28 g29 g30 g31 g32 g33 g34 g35 g36 g37 g38 g39); (try simp only [Int32.lt_iff_toInt_lt, Int32.le_iff_toInt_le, ← Int32.toInt_inj, Int32.reduceToInt, Int64.lt_iff_toInt_lt, Int64.le_iff_toInt_le, ← Int64.toInt_inj, Int64.reduceToInt, Int32.toInt_toInt64] at g0 g1 g2 g3 g4 g5 g6 g7 g8 g9 g10 g11 g12 g13 g14 g15 g16 g17 g18 g19 g20 g21 g22 g23 g24 g25 g26 g27 g28 g29 g30 g31 g32 g33 g34 g35 g36 g37 g38 g39); omega) (by decide) ?_
  refine W.widen (k := 52 + 15 * (k + 1)) (n := 98998 + 13306 * (k + 1)) (by omega) (by omega) ?_
  exact kk N s1 s2 s3 s4 s5 s6 z7 md wC wM H locs hC hM hJ hP hD hS

set_option maxHeartbeats 4000000 in
set_option maxRecDepth 100000 in
theorem lp_go {p : Program} {e : Env} {s : State} {m : MethodId} {below : List Frame} {meth : Method} {c : Code} {l : Launch} {b0 L : Nat} {xs : Nat → Int32} (C0 : lw_At p s m meth c b0 L xs) (hL : L ≤ 3072) {D : va_G} {q : Nat → ClassId} (hQ : kn D q s) (hV : sv q (fun x : Nat => s.heap.size ≤ x) s s.heap) {a b : Nat} : ∀ (n k : Nat), n + k = 513 → ∀ (N : Int) (s1 : Tp) (s2 s3 : Bd) (s4 : Mo) (s5 : Pg) (s6 : Pa) (z7 : Nat → Option Bd) (md : Md) (wC wM : va_W) (H : Heap) (locs : List Loc) (ls : Array Slot), c_W q a s1 s2 s3 s4 s5 s6 z7 wC → m_W q b md wM → JJ N s1 s2 s3 s4 s5 s6 z7 md → va_P D vwCl (wC ++ wM) H → va_D (fun x : Nat => s.heap.size ≤ x) (wC ++ wM) → va_S (fun x : Nat => s.heap.size ≤ x) s.heap H locs → lv_has ls 4 [(3, .int (nI (6 * k))), (2, .ref b), (1, .ref a), (0, .ref b0)] → W p l e room_1 s m #[Value.ref b0] below meth c H locs (52 + 15 * k) (98998 + 13306 * k) (lw_Z below #[Value.ref b0] s) (F0 m 18 ls []) := by
  obtain ⟨hx, hb, hr, hml, hown, hts, hX, hbl, hlocks, hgv⟩ := id C0
  have ht : ∀ w ∈ w_all, w.before #[Value.ref b0] s = true := fun w h => hts w (w_tbl h)
  have hA : ∀ x : Nat, s.heap.size ≤ x → (fun x : Nat => s.heap.size ≤ x) x := fun _ h => h
  have hbA : ¬ (fun x : Nat => s.heap.size ≤ x) b0 := Nat.not_le.mpr hbl
  have hown : s.vm.findClass RL = some m.cls := hown
  intro n
  induction n with
  | zero =>
    intro k hn N s1 s2 s3 s4 s5 s6 z7 md wC wM H locs ls hC hM hJ hP hD hS hl
    exact lp_out C0 hL (by omega) (by omega) hS hl
  | succ n ih =>
    intro k hn N s1 s2 s3 s4 s5 s6 z7 md wC wM H locs ls hC hM hJ hP hD hS hl
    by_cases hk : 6 * k + 6 ≤ L
    · refine lp_step C0 hL hk hQ hV hC hM hJ hP hD hS hl (fun N2 t1 t2 t3 t4 t5 t6 t7 m2 wC2 wM2 H locs hC hM hJ hP hD hS => ?_)
      refine lv_iinc (v := nI (6 * (k + 1))) (lv' := [(3, .int (nI (6 * (k + 1)))), (2, .ref b), (1, .ref a), (0, .ref b0)]) hx hb dL_law_1334 hl (k := 0) rfl (nI_plus (6 * k) 6) (by decide) rfl (fun ls hl => ?_)
      refine lv_goto (tgt := 18) hx hb dL_law_1337 (by decide) ?_
      exact ih (k + 1) (by omega) N2 t1 t2 t3 t4 t5 t6 t7 m2 wC2 wM2 H locs ls hC hM hJ hP hD hS hl
    · exact lp_out C0 hL hk (by omega) hS hl
