theorem dL_corner_849 : decode cL_corner 849 = .ok (.aload_n 0, 1) := by decide +kernel
theorem dL_corner_850 : decode cL_corner 850 = .ok (.iconst 0, 1) := by decide +kernel
theorem dL_corner_851 : decode cL_corner 851 = .ok (.iconst 3, 1) := by decide +kernel
theorem dL_corner_852 : decode cL_corner 852 = .ok (.invokevirtual 24, 3) := by decide +kernel
theorem dL_corner_855 : decode cL_corner 855 = .ok (.bipush 8, 2) := by decide +kernel
theorem dL_corner_857 : decode cL_corner 857 = .ok (.if_icmp .ne 162, 3) := by decide +kernel
theorem dL_corner_860 : decode cL_corner 860 = .ok (.aload_n 0, 1) := by decide +kernel
theorem dL_corner_861 : decode cL_corner 861 = .ok (.iconst 1, 1) := by decide +kernel
theorem dL_corner_862 : decode cL_corner 862 = .ok (.invokevirtual 11, 3) := by decide +kernel
theorem dL_corner_865 : decode cL_corner 865 = .ok (.bipush 7, 2) := by decide +kernel
theorem dL_corner_867 : decode cL_corner 867 = .ok (.if_icmp .ne 152, 3) := by decide +kernel
theorem dL_corner_870 : decode cL_corner 870 = .ok (.aload_n 0, 1) := by decide +kernel
theorem dL_corner_871 : decode cL_corner 871 = .ok (.iconst 5, 1) := by decide +kernel
theorem dL_corner_872 : decode cL_corner 872 = .ok (.iconst 5, 1) := by decide +kernel
theorem dL_corner_873 : decode cL_corner 873 = .ok (.invokevirtual 21, 3) := by decide +kernel
theorem dL_corner_876 : decode cL_corner 876 = .ok (.iconst 2, 1) := by decide +kernel
theorem dL_corner_877 : decode cL_corner 877 = .ok (.if_icmp .ne 142, 3) := by decide +kernel
theorem dL_corner_880 : decode cL_corner 880 = .ok (.aload_n 0, 1) := by decide +kernel
theorem dL_corner_881 : decode cL_corner 881 = .ok (.iconst 5, 1) := by decide +kernel
theorem dL_corner_882 : decode cL_corner 882 = .ok (.bipush 6, 2) := by decide +kernel
theorem dL_corner_884 : decode cL_corner 884 = .ok (.invokevirtual 21, 3) := by decide +kernel
theorem dL_corner_887 : decode cL_corner 887 = .ok (.iconst 1, 1) := by decide +kernel
theorem dL_corner_888 : decode cL_corner 888 = .ok (.if_icmp .ne 131, 3) := by decide +kernel
theorem dL_corner_891 : decode cL_corner 891 = .ok (.aload_n 0, 1) := by decide +kernel
theorem dL_corner_892 : decode cL_corner 892 = .ok (.iconst 5, 1) := by decide +kernel
theorem dL_corner_893 : decode cL_corner 893 = .ok (.bipush 7, 2) := by decide +kernel
theorem dL_corner_895 : decode cL_corner 895 = .ok (.invokevirtual 21, 3) := by decide +kernel
theorem dL_corner_898 : decode cL_corner 898 = .ok (.iconst 4, 1) := by decide +kernel
theorem dL_corner_899 : decode cL_corner 899 = .ok (.if_icmp .ne 120, 3) := by decide +kernel
theorem dL_corner_902 : decode cL_corner 902 = .ok (.aload_n 0, 1) := by decide +kernel
theorem dL_corner_903 : decode cL_corner 903 = .ok (.bipush 20, 2) := by decide +kernel
theorem dL_corner_905 : decode cL_corner 905 = .ok (.iconst 5, 1) := by decide +kernel
theorem dL_corner_906 : decode cL_corner 906 = .ok (.invokevirtual 21, 3) := by decide +kernel
theorem dL_corner_909 : decode cL_corner 909 = .ok (.iconst 1, 1) := by decide +kernel
theorem dL_corner_910 : decode cL_corner 910 = .ok (.if_icmp .ne 109, 3) := by decide +kernel
theorem dL_corner_913 : decode cL_corner 913 = .ok (.aload_n 0, 1) := by decide +kernel
theorem dL_corner_914 : decode cL_corner 914 = .ok (.bipush 20, 2) := by decide +kernel
theorem dL_corner_916 : decode cL_corner 916 = .ok (.invokevirtual 56, 3) := by decide +kernel
theorem dL_corner_919 : decode cL_corner 919 = .ok (.iconst 3, 1) := by decide +kernel
theorem dL_corner_920 : decode cL_corner 920 = .ok (.if_icmp .ne 99, 3) := by decide +kernel
theorem dL_corner_923 : decode cL_corner 923 = .ok (.aload_n 0, 1) := by decide +kernel
theorem dL_corner_924 : decode cL_corner 924 = .ok (.iconst 4, 1) := by decide +kernel
theorem dL_corner_925 : decode cL_corner 925 = .ok (.invokevirtual 56, 3) := by decide +kernel
theorem dL_corner_928 : decode cL_corner 928 = .ok (.iconst 3, 1) := by decide +kernel
theorem dL_corner_929 : decode cL_corner 929 = .ok (.if_icmp .ne 90, 3) := by decide +kernel
theorem dL_corner_932 : decode cL_corner 932 = .ok (.aload_n 0, 1) := by decide +kernel
theorem dL_corner_933 : decode cL_corner 933 = .ok (.iconst 5, 1) := by decide +kernel
theorem dL_corner_934 : decode cL_corner 934 = .ok (.iconst 0, 1) := by decide +kernel
theorem dL_corner_935 : decode cL_corner 935 = .ok (.invokevirtual 39, 3) := by decide +kernel
theorem dL_corner_938 : decode cL_corner 938 = .ok (.iconst 4, 1) := by decide +kernel
theorem dL_corner_939 : decode cL_corner 939 = .ok (.if_icmp .ne 80, 3) := by decide +kernel
theorem dL_corner_942 : decode cL_corner 942 = .ok (.aload_n 0, 1) := by decide +kernel
theorem dL_corner_943 : decode cL_corner 943 = .ok (.iconst 5, 1) := by decide +kernel
theorem dL_corner_944 : decode cL_corner 944 = .ok (.iconst 0, 1) := by decide +kernel
theorem dL_corner_945 : decode cL_corner 945 = .ok (.invokevirtual 39, 3) := by decide +kernel
theorem dL_corner_948 : decode cL_corner 948 = .ok (.bipush (-5), 2) := by decide +kernel
theorem dL_corner_950 : decode cL_corner 950 = .ok (.if_icmp .ne 69, 3) := by decide +kernel
theorem dL_corner_953 : decode cL_corner 953 = .ok (.aload_n 0, 1) := by decide +kernel
theorem dL_corner_954 : decode cL_corner 954 = .ok (.iconst 3, 1) := by decide +kernel
theorem dL_corner_955 : decode cL_corner 955 = .ok (.invokevirtual 32, 3) := by decide +kernel
theorem dL_corner_958 : decode cL_corner 958 = .ok (.iconst 1, 1) := by decide +kernel
theorem dL_corner_959 : decode cL_corner 959 = .ok (.if_icmp .ne 60, 3) := by decide +kernel
theorem dL_corner_962 : decode cL_corner 962 = .ok (.aload_n 0, 1) := by decide +kernel
theorem dL_corner_963 : decode cL_corner 963 = .ok (.iconst 2, 1) := by decide +kernel
theorem dL_corner_964 : decode cL_corner 964 = .ok (.iconst 0, 1) := by decide +kernel
theorem dL_corner_965 : decode cL_corner 965 = .ok (.iconst 0, 1) := by decide +kernel
theorem dL_corner_966 : decode cL_corner 966 = .ok (.invokevirtual 35, 3) := by decide +kernel
theorem dL_corner_969 : decode cL_corner 969 = .ok (.bipush (-5), 2) := by decide +kernel
theorem dL_corner_971 : decode cL_corner 971 = .ok (.if_icmp .ne 48, 3) := by decide +kernel
theorem dL_corner_974 : decode cL_corner 974 = .ok (.aload_n 0, 1) := by decide +kernel
theorem dL_corner_975 : decode cL_corner 975 = .ok (.iconst 2, 1) := by decide +kernel
theorem dL_corner_976 : decode cL_corner 976 = .ok (.bipush 63, 2) := by decide +kernel
theorem dL_corner_978 : decode cL_corner 978 = .ok (.bipush 63, 2) := by decide +kernel
theorem dL_corner_980 : decode cL_corner 980 = .ok (.invokevirtual 35, 3) := by decide +kernel
theorem dL_corner_983 : decode cL_corner 983 = .ok (.iconst 1, 1) := by decide +kernel
theorem dL_corner_984 : decode cL_corner 984 = .ok (.if_icmp .ne 35, 3) := by decide +kernel
theorem dL_corner_987 : decode cL_corner 987 = .ok (.aload_n 0, 1) := by decide +kernel
theorem dL_corner_988 : decode cL_corner 988 = .ok (.iconst 2, 1) := by decide +kernel
theorem dL_corner_989 : decode cL_corner 989 = .ok (.iconst 5, 1) := by decide +kernel
theorem dL_corner_990 : decode cL_corner 990 = .ok (.iconst 5, 1) := by decide +kernel
theorem dL_corner_991 : decode cL_corner 991 = .ok (.invokevirtual 35, 3) := by decide +kernel
theorem dL_corner_994 : decode cL_corner 994 = .ok (.iconst 1, 1) := by decide +kernel
theorem dL_corner_995 : decode cL_corner 995 = .ok (.if_icmp .ne 24, 3) := by decide +kernel
theorem dL_corner_998 : decode cL_corner 998 = .ok (.aload_n 0, 1) := by decide +kernel
theorem dL_corner_999 : decode cL_corner 999 = .ok (.iconst 2, 1) := by decide +kernel
theorem dL_corner_1000 : decode cL_corner 1000 = .ok (.iconst 0, 1) := by decide +kernel
theorem dL_corner_1001 : decode cL_corner 1001 = .ok (.invokevirtual 17, 3) := by decide +kernel
theorem dL_corner_1004 : decode cL_corner 1004 = .ok (.iconst 5, 1) := by decide +kernel
theorem dL_corner_1005 : decode cL_corner 1005 = .ok (.if_icmp .ne 14, 3) := by decide +kernel
theorem dL_corner_1008 : decode cL_corner 1008 = .ok (.aload_n 0, 1) := by decide +kernel
theorem dL_corner_1009 : decode cL_corner 1009 = .ok (.bipush 10, 2) := by decide +kernel
theorem dL_corner_1011 : decode cL_corner 1011 = .ok (.invokevirtual 11, 3) := by decide +kernel
theorem dL_corner_1014 : decode cL_corner 1014 = .ok (.bipush 6, 2) := by decide +kernel
theorem dL_corner_1016 : decode cL_corner 1016 = .ok (.if_icmp .eq 5, 3) := by decide +kernel
theorem dL_corner_1019 : decode cL_corner 1019 = .ok (.iconst 0, 1) := by decide +kernel
theorem dL_corner_1020 : decode cL_corner 1020 = .ok (.ireturn, 1) := by decide +kernel
theorem dL_corner_1021 : decode cL_corner 1021 = .ok (.aload_n 0, 1) := by decide +kernel
theorem dL_corner_1022 : decode cL_corner 1022 = .ok (.invokevirtual 97, 3) := by decide +kernel
theorem dL_corner_1025 : decode cL_corner 1025 = .ok (.iconst 5, 1) := by decide +kernel
theorem dL_corner_1026 : decode cL_corner 1026 = .ok (.if_icmp .ne 108, 3) := by decide +kernel
theorem dL_corner_1029 : decode cL_corner 1029 = .ok (.aload_n 0, 1) := by decide +kernel
theorem dL_corner_1030 : decode cL_corner 1030 = .ok (.iconst 2, 1) := by decide +kernel
theorem dL_corner_1031 : decode cL_corner 1031 = .ok (.iconst 0, 1) := by decide +kernel
theorem dL_corner_1032 : decode cL_corner 1032 = .ok (.invokevirtual 17, 3) := by decide +kernel
theorem dL_corner_1035 : decode cL_corner 1035 = .ok (.bipush 63, 2) := by decide +kernel
theorem dL_corner_1037 : decode cL_corner 1037 = .ok (.if_icmp .ne 97, 3) := by decide +kernel
theorem dL_corner_1040 : decode cL_corner 1040 = .ok (.aload_n 0, 1) := by decide +kernel
theorem dL_corner_1041 : decode cL_corner 1041 = .ok (.invokevirtual 97, 3) := by decide +kernel
theorem dL_corner_1044 : decode cL_corner 1044 = .ok (.iconst 4, 1) := by decide +kernel
theorem dL_corner_1045 : decode cL_corner 1045 = .ok (.if_icmp .ne 89, 3) := by decide +kernel
