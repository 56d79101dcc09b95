theorem dL_isSo_801 : decode cL_isSo 801 = .ok (.iaload, 1) := by decide +kernel
theorem dL_isSo_802 : decode cL_isSo 802 = .ok (.if_icmp .ne 133, 3) := by decide +kernel
theorem dL_isSo_805 : decode cL_isSo 805 = .ok (.aload_n 0, 1) := by decide +kernel
theorem dL_isSo_806 : decode cL_isSo 806 = .ok (.iconst 5, 1) := by decide +kernel
theorem dL_isSo_807 : decode cL_isSo 807 = .ok (.invokevirtual 108, 3) := by decide +kernel
theorem dL_isSo_810 : decode cL_isSo 810 = .ok (.aload_n 1, 1) := by decide +kernel
theorem dL_isSo_811 : decode cL_isSo 811 = .ok (.iconst 4, 1) := by decide +kernel
theorem dL_isSo_812 : decode cL_isSo 812 = .ok (.iaload, 1) := by decide +kernel
theorem dL_isSo_813 : decode cL_isSo 813 = .ok (.if_icmp .ne 122, 3) := by decide +kernel
theorem dL_isSo_816 : decode cL_isSo 816 = .ok (.aload_n 0, 1) := by decide +kernel
theorem dL_isSo_817 : decode cL_isSo 817 = .ok (.bipush 6, 2) := by decide +kernel
theorem dL_isSo_819 : decode cL_isSo 819 = .ok (.invokevirtual 108, 3) := by decide +kernel
theorem dL_isSo_822 : decode cL_isSo 822 = .ok (.aload_n 1, 1) := by decide +kernel
theorem dL_isSo_823 : decode cL_isSo 823 = .ok (.iconst 5, 1) := by decide +kernel
theorem dL_isSo_824 : decode cL_isSo 824 = .ok (.iaload, 1) := by decide +kernel
theorem dL_isSo_825 : decode cL_isSo 825 = .ok (.ifCond .ge 7, 3) := by decide +kernel
theorem dL_isSo_828 : decode cL_isSo 828 = .ok (.iconst 0, 1) := by decide +kernel
theorem dL_isSo_829 : decode cL_isSo 829 = .ok (.goto 4, 3) := by decide +kernel
theorem dL_isSo_832 : decode cL_isSo 832 = .ok (.iconst 1, 1) := by decide +kernel
theorem dL_isSo_833 : decode cL_isSo 833 = .ok (.if_icmp .ne 102, 3) := by decide +kernel
theorem dL_isSo_836 : decode cL_isSo 836 = .ok (.aload_n 0, 1) := by decide +kernel
theorem dL_isSo_837 : decode cL_isSo 837 = .ok (.bipush 7, 2) := by decide +kernel
theorem dL_isSo_839 : decode cL_isSo 839 = .ok (.invokevirtual 108, 3) := by decide +kernel
theorem dL_isSo_842 : decode cL_isSo 842 = .ok (.aload_n 1, 1) := by decide +kernel
theorem dL_isSo_843 : decode cL_isSo 843 = .ok (.bipush 6, 2) := by decide +kernel
theorem dL_isSo_845 : decode cL_isSo 845 = .ok (.iaload, 1) := by decide +kernel
theorem dL_isSo_846 : decode cL_isSo 846 = .ok (.if_icmp .ne 89, 3) := by decide +kernel
theorem dL_isSo_849 : decode cL_isSo 849 = .ok (.aload_n 0, 1) := by decide +kernel
theorem dL_isSo_850 : decode cL_isSo 850 = .ok (.bipush 8, 2) := by decide +kernel
theorem dL_isSo_852 : decode cL_isSo 852 = .ok (.invokevirtual 108, 3) := by decide +kernel
theorem dL_isSo_855 : decode cL_isSo 855 = .ok (.aload_n 1, 1) := by decide +kernel
theorem dL_isSo_856 : decode cL_isSo 856 = .ok (.bipush 7, 2) := by decide +kernel
theorem dL_isSo_858 : decode cL_isSo 858 = .ok (.iaload, 1) := by decide +kernel
theorem dL_isSo_859 : decode cL_isSo 859 = .ok (.if_icmp .ne 76, 3) := by decide +kernel
theorem dL_isSo_862 : decode cL_isSo 862 = .ok (.aload_n 0, 1) := by decide +kernel
theorem dL_isSo_863 : decode cL_isSo 863 = .ok (.bipush 9, 2) := by decide +kernel
theorem dL_isSo_865 : decode cL_isSo 865 = .ok (.invokevirtual 108, 3) := by decide +kernel
theorem dL_isSo_868 : decode cL_isSo 868 = .ok (.iload 6, 2) := by decide +kernel
theorem dL_isSo_870 : decode cL_isSo 870 = .ok (.if_icmp .ne 65, 3) := by decide +kernel
theorem dL_isSo_873 : decode cL_isSo 873 = .ok (.aload_n 0, 1) := by decide +kernel
theorem dL_isSo_874 : decode cL_isSo 874 = .ok (.bipush 11, 2) := by decide +kernel
theorem dL_isSo_876 : decode cL_isSo 876 = .ok (.invokevirtual 108, 3) := by decide +kernel
theorem dL_isSo_879 : decode cL_isSo 879 = .ok (.ifCond .ne 56, 3) := by decide +kernel
theorem dL_isSo_882 : decode cL_isSo 882 = .ok (.aload_n 0, 1) := by decide +kernel
theorem dL_isSo_883 : decode cL_isSo 883 = .ok (.aload_n 1, 1) := by decide +kernel
theorem dL_isSo_884 : decode cL_isSo 884 = .ok (.iconst 0, 1) := by decide +kernel
theorem dL_isSo_885 : decode cL_isSo 885 = .ok (.iaload, 1) := by decide +kernel
theorem dL_isSo_886 : decode cL_isSo 886 = .ok (.iconst 0, 1) := by decide +kernel
theorem dL_isSo_887 : decode cL_isSo 887 = .ok (.invokevirtual 95, 3) := by decide +kernel
theorem dL_isSo_890 : decode cL_isSo 890 = .ok (.iconst (-1), 1) := by decide +kernel
theorem dL_isSo_891 : decode cL_isSo 891 = .ok (.if_icmp .ne 44, 3) := by decide +kernel
theorem dL_isSo_894 : decode cL_isSo 894 = .ok (.aload_n 0, 1) := by decide +kernel
theorem dL_isSo_895 : decode cL_isSo 895 = .ok (.aload_n 1, 1) := by decide +kernel
theorem dL_isSo_896 : decode cL_isSo 896 = .ok (.iconst 3, 1) := by decide +kernel
theorem dL_isSo_897 : decode cL_isSo 897 = .ok (.iaload, 1) := by decide +kernel
theorem dL_isSo_898 : decode cL_isSo 898 = .ok (.iconst 0, 1) := by decide +kernel
theorem dL_isSo_899 : decode cL_isSo 899 = .ok (.invokevirtual 98, 3) := by decide +kernel
theorem dL_isSo_902 : decode cL_isSo 902 = .ok (.iconst (-1), 1) := by decide +kernel
theorem dL_isSo_903 : decode cL_isSo 903 = .ok (.if_icmp .ne 32, 3) := by decide +kernel
theorem dL_isSo_906 : decode cL_isSo 906 = .ok (.aload_n 0, 1) := by decide +kernel
theorem dL_isSo_907 : decode cL_isSo 907 = .ok (.aload_n 1, 1) := by decide +kernel
theorem dL_isSo_908 : decode cL_isSo 908 = .ok (.bipush 7, 2) := by decide +kernel
theorem dL_isSo_910 : decode cL_isSo 910 = .ok (.iaload, 1) := by decide +kernel
theorem dL_isSo_911 : decode cL_isSo 911 = .ok (.iconst 0, 1) := by decide +kernel
theorem dL_isSo_912 : decode cL_isSo 912 = .ok (.invokevirtual 92, 3) := by decide +kernel
theorem dL_isSo_915 : decode cL_isSo 915 = .ok (.iconst (-1), 1) := by decide +kernel
theorem dL_isSo_916 : decode cL_isSo 916 = .ok (.if_icmp .ne 19, 3) := by decide +kernel
theorem dL_isSo_919 : decode cL_isSo 919 = .ok (.aload_n 0, 1) := by decide +kernel
theorem dL_isSo_920 : decode cL_isSo 920 = .ok (.iconst 0, 1) := by decide +kernel
theorem dL_isSo_921 : decode cL_isSo 921 = .ok (.aload_n 1, 1) := by decide +kernel
theorem dL_isSo_922 : decode cL_isSo 922 = .ok (.iconst 1, 1) := by decide +kernel
theorem dL_isSo_923 : decode cL_isSo 923 = .ok (.iaload, 1) := by decide +kernel
theorem dL_isSo_924 : decode cL_isSo 924 = .ok (.invokevirtual 105, 3) := by decide +kernel
theorem dL_isSo_927 : decode cL_isSo 927 = .ok (.iconst (-1), 1) := by decide +kernel
theorem dL_isSo_928 : decode cL_isSo 928 = .ok (.if_icmp .ne 7, 3) := by decide +kernel
theorem dL_isSo_931 : decode cL_isSo 931 = .ok (.iconst 1, 1) := by decide +kernel
theorem dL_isSo_932 : decode cL_isSo 932 = .ok (.goto 4, 3) := by decide +kernel
theorem dL_isSo_935 : decode cL_isSo 935 = .ok (.iconst 0, 1) := by decide +kernel
theorem dL_isSo_936 : decode cL_isSo 936 = .ok (.ireturn, 1) := by decide +kernel
