theorem dL_law_833 : decode bL_law 833 = .ok (.iload 4, 2) := by decide +kernel
theorem dL_law_835 : decode bL_law 835 = .ok (.iconst 2, 1) := by decide +kernel
theorem dL_law_836 : decode bL_law 836 = .ok (.iadd, 1) := by decide +kernel
theorem dL_law_837 : decode bL_law 837 = .ok (.iaload, 1) := by decide +kernel
theorem dL_law_838 : decode bL_law 838 = .ok (.aload_n 3, 1) := by decide +kernel
theorem dL_law_839 : decode bL_law 839 = .ok (.invokestatic 116, 3) := by decide +kernel
theorem dL_law_842 : decode bL_law 842 = .ok (.istore 5, 2) := by decide +kernel
theorem dL_law_844 : decode bL_law 844 = .ok (.aload_n 2, 1) := by decide +kernel
theorem dL_law_845 : decode bL_law 845 = .ok (.aload_n 0, 1) := by decide +kernel
theorem dL_law_846 : decode bL_law 846 = .ok (.iload 4, 2) := by decide +kernel
theorem dL_law_848 : decode bL_law 848 = .ok (.iconst 1, 1) := by decide +kernel
theorem dL_law_849 : decode bL_law 849 = .ok (.iadd, 1) := by decide +kernel
theorem dL_law_850 : decode bL_law 850 = .ok (.iaload, 1) := by decide +kernel
theorem dL_law_851 : decode bL_law 851 = .ok (.aload_n 0, 1) := by decide +kernel
theorem dL_law_852 : decode bL_law 852 = .ok (.iload 4, 2) := by decide +kernel
theorem dL_law_854 : decode bL_law 854 = .ok (.iconst 2, 1) := by decide +kernel
theorem dL_law_855 : decode bL_law 855 = .ok (.iadd, 1) := by decide +kernel
theorem dL_law_856 : decode bL_law 856 = .ok (.iaload, 1) := by decide +kernel
theorem dL_law_857 : decode bL_law 857 = .ok (.invokevirtual 118, 3) := by decide +kernel
theorem dL_law_860 : decode bL_law 860 = .ok (.istore 6, 2) := by decide +kernel
theorem dL_law_862 : decode bL_law 862 = .ok (.aload_n 2, 1) := by decide +kernel
theorem dL_law_863 : decode bL_law 863 = .ok (.invokevirtual 84, 3) := by decide +kernel
theorem dL_law_866 : decode bL_law 866 = .ok (.iload 5, 2) := by decide +kernel
theorem dL_law_868 : decode bL_law 868 = .ok (.if_icmp .eq 5, 3) := by decide +kernel
theorem dL_law_873 : decode bL_law 873 = .ok (.iload 5, 2) := by decide +kernel
theorem dL_law_875 : decode bL_law 875 = .ok (.ifCond .ne 15, 3) := by decide +kernel
theorem dL_law_890 : decode bL_law 890 = .ok (.goto 375, 3) := by decide +kernel
theorem dL_law_893 : decode bL_law 893 = .ok (.aload_n 1, 1) := by decide +kernel
theorem dL_law_894 : decode bL_law 894 = .ok (.aload_n 0, 1) := by decide +kernel
theorem dL_law_895 : decode bL_law 895 = .ok (.iload 4, 2) := by decide +kernel
theorem dL_law_897 : decode bL_law 897 = .ok (.iconst 1, 1) := by decide +kernel
theorem dL_law_898 : decode bL_law 898 = .ok (.iadd, 1) := by decide +kernel
theorem dL_law_899 : decode bL_law 899 = .ok (.iaload, 1) := by decide +kernel
theorem dL_law_900 : decode bL_law 900 = .ok (.aload_n 0, 1) := by decide +kernel
theorem dL_law_901 : decode bL_law 901 = .ok (.iload 4, 2) := by decide +kernel
theorem dL_law_903 : decode bL_law 903 = .ok (.iconst 2, 1) := by decide +kernel
theorem dL_law_904 : decode bL_law 904 = .ok (.iadd, 1) := by decide +kernel
theorem dL_law_905 : decode bL_law 905 = .ok (.iaload, 1) := by decide +kernel
theorem dL_law_906 : decode bL_law 906 = .ok (.aload_n 0, 1) := by decide +kernel
theorem dL_law_907 : decode bL_law 907 = .ok (.iload 4, 2) := by decide +kernel
theorem dL_law_909 : decode bL_law 909 = .ok (.iconst 3, 1) := by decide +kernel
theorem dL_law_910 : decode bL_law 910 = .ok (.iadd, 1) := by decide +kernel
theorem dL_law_911 : decode bL_law 911 = .ok (.iaload, 1) := by decide +kernel
theorem dL_law_912 : decode bL_law 912 = .ok (.aload_n 3, 1) := by decide +kernel
theorem dL_law_913 : decode bL_law 913 = .ok (.invokestatic 119, 3) := by decide +kernel
theorem dL_law_916 : decode bL_law 916 = .ok (.istore 5, 2) := by decide +kernel
theorem dL_law_918 : decode bL_law 918 = .ok (.aload_n 2, 1) := by decide +kernel
theorem dL_law_919 : decode bL_law 919 = .ok (.aload_n 0, 1) := by decide +kernel
theorem dL_law_920 : decode bL_law 920 = .ok (.iload 4, 2) := by decide +kernel
theorem dL_law_922 : decode bL_law 922 = .ok (.iconst 1, 1) := by decide +kernel
theorem dL_law_923 : decode bL_law 923 = .ok (.iadd, 1) := by decide +kernel
theorem dL_law_924 : decode bL_law 924 = .ok (.iaload, 1) := by decide +kernel
theorem dL_law_925 : decode bL_law 925 = .ok (.aload_n 0, 1) := by decide +kernel
theorem dL_law_926 : decode bL_law 926 = .ok (.iload 4, 2) := by decide +kernel
theorem dL_law_928 : decode bL_law 928 = .ok (.iconst 2, 1) := by decide +kernel
theorem dL_law_929 : decode bL_law 929 = .ok (.iadd, 1) := by decide +kernel
theorem dL_law_930 : decode bL_law 930 = .ok (.iaload, 1) := by decide +kernel
theorem dL_law_931 : decode bL_law 931 = .ok (.aload_n 0, 1) := by decide +kernel
theorem dL_law_932 : decode bL_law 932 = .ok (.iload 4, 2) := by decide +kernel
theorem dL_law_934 : decode bL_law 934 = .ok (.iconst 3, 1) := by decide +kernel
theorem dL_law_935 : decode bL_law 935 = .ok (.iadd, 1) := by decide +kernel
theorem dL_law_936 : decode bL_law 936 = .ok (.iaload, 1) := by decide +kernel
theorem dL_law_937 : decode bL_law 937 = .ok (.invokevirtual 121, 3) := by decide +kernel
theorem dL_law_940 : decode bL_law 940 = .ok (.istore 6, 2) := by decide +kernel
theorem dL_law_942 : decode bL_law 942 = .ok (.aload_n 2, 1) := by decide +kernel
theorem dL_law_943 : decode bL_law 943 = .ok (.invokevirtual 84, 3) := by decide +kernel
theorem dL_law_946 : decode bL_law 946 = .ok (.iload 5, 2) := by decide +kernel
theorem dL_law_948 : decode bL_law 948 = .ok (.if_icmp .eq 5, 3) := by decide +kernel
theorem dL_law_953 : decode bL_law 953 = .ok (.iload 5, 2) := by decide +kernel
theorem dL_law_955 : decode bL_law 955 = .ok (.ifCond .ne 15, 3) := by decide +kernel
theorem dL_law_970 : decode bL_law 970 = .ok (.goto 295, 3) := by decide +kernel
theorem dL_law_973 : decode bL_law 973 = .ok (.aload_n 1, 1) := by decide +kernel
theorem dL_law_974 : decode bL_law 974 = .ok (.aload_n 0, 1) := by decide +kernel
theorem dL_law_975 : decode bL_law 975 = .ok (.iload 4, 2) := by decide +kernel
theorem dL_law_977 : decode bL_law 977 = .ok (.iconst 1, 1) := by decide +kernel
theorem dL_law_978 : decode bL_law 978 = .ok (.iadd, 1) := by decide +kernel
theorem dL_law_979 : decode bL_law 979 = .ok (.iaload, 1) := by decide +kernel
theorem dL_law_980 : decode bL_law 980 = .ok (.aload_n 0, 1) := by decide +kernel
theorem dL_law_981 : decode bL_law 981 = .ok (.iload 4, 2) := by decide +kernel
theorem dL_law_983 : decode bL_law 983 = .ok (.iconst 2, 1) := by decide +kernel
theorem dL_law_984 : decode bL_law 984 = .ok (.iadd, 1) := by decide +kernel
theorem dL_law_985 : decode bL_law 985 = .ok (.iaload, 1) := by decide +kernel
theorem dL_law_986 : decode bL_law 986 = .ok (.aload_n 3, 1) := by decide +kernel
theorem dL_law_987 : decode bL_law 987 = .ok (.invokestatic 122, 3) := by decide +kernel
theorem dL_law_990 : decode bL_law 990 = .ok (.istore 5, 2) := by decide +kernel
theorem dL_law_992 : decode bL_law 992 = .ok (.aload_n 2, 1) := by decide +kernel
theorem dL_law_993 : decode bL_law 993 = .ok (.aload_n 0, 1) := by decide +kernel
theorem dL_law_994 : decode bL_law 994 = .ok (.iload 4, 2) := by decide +kernel
theorem dL_law_996 : decode bL_law 996 = .ok (.iconst 1, 1) := by decide +kernel
theorem dL_law_997 : decode bL_law 997 = .ok (.iadd, 1) := by decide +kernel
theorem dL_law_998 : decode bL_law 998 = .ok (.iaload, 1) := by decide +kernel
theorem dL_law_999 : decode bL_law 999 = .ok (.aload_n 0, 1) := by decide +kernel
theorem dL_law_1000 : decode bL_law 1000 = .ok (.iload 4, 2) := by decide +kernel
theorem dL_law_1002 : decode bL_law 1002 = .ok (.iconst 2, 1) := by decide +kernel
theorem dL_law_1003 : decode bL_law 1003 = .ok (.iadd, 1) := by decide +kernel
theorem dL_law_1004 : decode bL_law 1004 = .ok (.iaload, 1) := by decide +kernel
theorem dL_law_1005 : decode bL_law 1005 = .ok (.invokevirtual 124, 3) := by decide +kernel
theorem dL_law_1008 : decode bL_law 1008 = .ok (.istore 6, 2) := by decide +kernel
theorem dL_law_1010 : decode bL_law 1010 = .ok (.aload_n 2, 1) := by decide +kernel
theorem dL_law_1011 : decode bL_law 1011 = .ok (.invokevirtual 84, 3) := by decide +kernel
theorem dL_law_1014 : decode bL_law 1014 = .ok (.iload 5, 2) := by decide +kernel
theorem dL_law_1016 : decode bL_law 1016 = .ok (.if_icmp .eq 5, 3) := by decide +kernel
theorem dL_law_1021 : decode bL_law 1021 = .ok (.iload 5, 2) := by decide +kernel
theorem dL_law_1023 : decode bL_law 1023 = .ok (.ifCond .ne 22, 3) := by decide +kernel
theorem dL_law_1045 : decode bL_law 1045 = .ok (.goto 220, 3) := by decide +kernel
theorem dL_law_1048 : decode bL_law 1048 = .ok (.aload_n 1, 1) := by decide +kernel
theorem dL_law_1049 : decode bL_law 1049 = .ok (.aload_n 0, 1) := by decide +kernel
theorem dL_law_1050 : decode bL_law 1050 = .ok (.iload 4, 2) := by decide +kernel
theorem dL_law_1052 : decode bL_law 1052 = .ok (.iconst 1, 1) := by decide +kernel
theorem dL_law_1053 : decode bL_law 1053 = .ok (.iadd, 1) := by decide +kernel
theorem dL_law_1054 : decode bL_law 1054 = .ok (.iaload, 1) := by decide +kernel
theorem dL_law_1055 : decode bL_law 1055 = .ok (.aload_n 3, 1) := by decide +kernel
theorem dL_law_1056 : decode bL_law 1056 = .ok (.invokestatic 125, 3) := by decide +kernel
theorem dL_law_1059 : decode bL_law 1059 = .ok (.istore 5, 2) := by decide +kernel
theorem dL_law_1061 : decode bL_law 1061 = .ok (.aload_n 2, 1) := by decide +kernel
theorem dL_law_1062 : decode bL_law 1062 = .ok (.aload_n 0, 1) := by decide +kernel
theorem dL_law_1063 : decode bL_law 1063 = .ok (.iload 4, 2) := by decide +kernel
theorem dL_law_1065 : decode bL_law 1065 = .ok (.iconst 1, 1) := by decide +kernel
theorem dL_law_1066 : decode bL_law 1066 = .ok (.iadd, 1) := by decide +kernel
theorem dL_law_1067 : decode bL_law 1067 = .ok (.iaload, 1) := by decide +kernel
