/-! the law: decoded -/
theorem d_Lw_law_901 : decode code 901 = .ok (.iconst 0, 1) := by decide +kernel
theorem d_Lw_law_902 : decode code 902 = .ok (.ireturn, 1) := by decide +kernel
theorem d_Lw_law_903 : decode code 903 = .ok (.aload_n 1, 1) := by decide +kernel
theorem d_Lw_law_904 : decode code 904 = .ok (.aload_n 0, 1) := by decide +kernel
theorem d_Lw_law_905 : decode code 905 = .ok (.iload_n 3, 1) := by decide +kernel
theorem d_Lw_law_906 : decode code 906 = .ok (.iconst 1, 1) := by decide +kernel
theorem d_Lw_law_907 : decode code 907 = .ok (.iadd, 1) := by decide +kernel
theorem d_Lw_law_908 : decode code 908 = .ok (.iaload, 1) := by decide +kernel
theorem d_Lw_law_909 : decode code 909 = .ok (.aload_n 0, 1) := by decide +kernel
theorem d_Lw_law_910 : decode code 910 = .ok (.iload_n 3, 1) := by decide +kernel
theorem d_Lw_law_911 : decode code 911 = .ok (.iconst 2, 1) := by decide +kernel
theorem d_Lw_law_912 : decode code 912 = .ok (.iadd, 1) := by decide +kernel
theorem d_Lw_law_913 : decode code 913 = .ok (.iaload, 1) := by decide +kernel
theorem d_Lw_law_914 : decode code 914 = .ok (.invokevirtual 93, 3) := by decide +kernel
theorem d_Lw_law_917 : decode code 917 = .ok (.aload_n 2, 1) := by decide +kernel
theorem d_Lw_law_918 : decode code 918 = .ok (.aload_n 0, 1) := by decide +kernel
theorem d_Lw_law_919 : decode code 919 = .ok (.iload_n 3, 1) := by decide +kernel
theorem d_Lw_law_920 : decode code 920 = .ok (.iconst 1, 1) := by decide +kernel
theorem d_Lw_law_921 : decode code 921 = .ok (.iadd, 1) := by decide +kernel
theorem d_Lw_law_922 : decode code 922 = .ok (.iaload, 1) := by decide +kernel
theorem d_Lw_law_923 : decode code 923 = .ok (.aload_n 0, 1) := by decide +kernel
theorem d_Lw_law_924 : decode code 924 = .ok (.iload_n 3, 1) := by decide +kernel
theorem d_Lw_law_925 : decode code 925 = .ok (.iconst 2, 1) := by decide +kernel
theorem d_Lw_law_926 : decode code 926 = .ok (.iadd, 1) := by decide +kernel
theorem d_Lw_law_927 : decode code 927 = .ok (.iaload, 1) := by decide +kernel
theorem d_Lw_law_928 : decode code 928 = .ok (.invokevirtual 96, 3) := by decide +kernel
theorem d_Lw_law_931 : decode code 931 = .ok (.if_icmp .eq 236, 3) := by decide +kernel
theorem d_Lw_law_934 : decode code 934 = .ok (.iconst 0, 1) := by decide +kernel
theorem d_Lw_law_935 : decode code 935 = .ok (.ireturn, 1) := by decide +kernel
theorem d_Lw_law_936 : decode code 936 = .ok (.aload_n 1, 1) := by decide +kernel
theorem d_Lw_law_937 : decode code 937 = .ok (.aload_n 0, 1) := by decide +kernel
theorem d_Lw_law_938 : decode code 938 = .ok (.iload_n 3, 1) := by decide +kernel
theorem d_Lw_law_939 : decode code 939 = .ok (.iconst 1, 1) := by decide +kernel
theorem d_Lw_law_940 : decode code 940 = .ok (.iadd, 1) := by decide +kernel
theorem d_Lw_law_941 : decode code 941 = .ok (.iaload, 1) := by decide +kernel
theorem d_Lw_law_942 : decode code 942 = .ok (.aload_n 0, 1) := by decide +kernel
theorem d_Lw_law_943 : decode code 943 = .ok (.iload_n 3, 1) := by decide +kernel
theorem d_Lw_law_944 : decode code 944 = .ok (.iconst 2, 1) := by decide +kernel
theorem d_Lw_law_945 : decode code 945 = .ok (.iadd, 1) := by decide +kernel
theorem d_Lw_law_946 : decode code 946 = .ok (.iaload, 1) := by decide +kernel
theorem d_Lw_law_947 : decode code 947 = .ok (.aload_n 0, 1) := by decide +kernel
theorem d_Lw_law_948 : decode code 948 = .ok (.iload_n 3, 1) := by decide +kernel
theorem d_Lw_law_949 : decode code 949 = .ok (.iconst 3, 1) := by decide +kernel
theorem d_Lw_law_950 : decode code 950 = .ok (.iadd, 1) := by decide +kernel
theorem d_Lw_law_951 : decode code 951 = .ok (.iaload, 1) := by decide +kernel
theorem d_Lw_law_952 : decode code 952 = .ok (.invokevirtual 97, 3) := by decide +kernel
theorem d_Lw_law_955 : decode code 955 = .ok (.aload_n 2, 1) := by decide +kernel
theorem d_Lw_law_956 : decode code 956 = .ok (.aload_n 0, 1) := by decide +kernel
theorem d_Lw_law_957 : decode code 957 = .ok (.iload_n 3, 1) := by decide +kernel
theorem d_Lw_law_958 : decode code 958 = .ok (.iconst 1, 1) := by decide +kernel
theorem d_Lw_law_959 : decode code 959 = .ok (.iadd, 1) := by decide +kernel
theorem d_Lw_law_960 : decode code 960 = .ok (.iaload, 1) := by decide +kernel
theorem d_Lw_law_961 : decode code 961 = .ok (.aload_n 0, 1) := by decide +kernel
theorem d_Lw_law_962 : decode code 962 = .ok (.iload_n 3, 1) := by decide +kernel
theorem d_Lw_law_963 : decode code 963 = .ok (.iconst 2, 1) := by decide +kernel
theorem d_Lw_law_964 : decode code 964 = .ok (.iadd, 1) := by decide +kernel
theorem d_Lw_law_965 : decode code 965 = .ok (.iaload, 1) := by decide +kernel
theorem d_Lw_law_966 : decode code 966 = .ok (.aload_n 0, 1) := by decide +kernel
theorem d_Lw_law_967 : decode code 967 = .ok (.iload_n 3, 1) := by decide +kernel
theorem d_Lw_law_968 : decode code 968 = .ok (.iconst 3, 1) := by decide +kernel
theorem d_Lw_law_969 : decode code 969 = .ok (.iadd, 1) := by decide +kernel
theorem d_Lw_law_970 : decode code 970 = .ok (.iaload, 1) := by decide +kernel
theorem d_Lw_law_971 : decode code 971 = .ok (.invokevirtual 100, 3) := by decide +kernel
theorem d_Lw_law_974 : decode code 974 = .ok (.if_icmp .eq 193, 3) := by decide +kernel
theorem d_Lw_law_977 : decode code 977 = .ok (.iconst 0, 1) := by decide +kernel
theorem d_Lw_law_978 : decode code 978 = .ok (.ireturn, 1) := by decide +kernel
theorem d_Lw_law_979 : decode code 979 = .ok (.aload_n 1, 1) := by decide +kernel
theorem d_Lw_law_980 : decode code 980 = .ok (.aload_n 0, 1) := by decide +kernel
theorem d_Lw_law_981 : decode code 981 = .ok (.iload_n 3, 1) := by decide +kernel
theorem d_Lw_law_982 : decode code 982 = .ok (.iconst 1, 1) := by decide +kernel
theorem d_Lw_law_983 : decode code 983 = .ok (.iadd, 1) := by decide +kernel
theorem d_Lw_law_984 : decode code 984 = .ok (.iaload, 1) := by decide +kernel
theorem d_Lw_law_985 : decode code 985 = .ok (.aload_n 0, 1) := by decide +kernel
theorem d_Lw_law_986 : decode code 986 = .ok (.iload_n 3, 1) := by decide +kernel
theorem d_Lw_law_987 : decode code 987 = .ok (.iconst 2, 1) := by decide +kernel
theorem d_Lw_law_988 : decode code 988 = .ok (.iadd, 1) := by decide +kernel
theorem d_Lw_law_989 : decode code 989 = .ok (.iaload, 1) := by decide +kernel
theorem d_Lw_law_990 : decode code 990 = .ok (.aload_n 0, 1) := by decide +kernel
theorem d_Lw_law_991 : decode code 991 = .ok (.iload_n 3, 1) := by decide +kernel
theorem d_Lw_law_992 : decode code 992 = .ok (.iconst 3, 1) := by decide +kernel
theorem d_Lw_law_993 : decode code 993 = .ok (.iadd, 1) := by decide +kernel
theorem d_Lw_law_994 : decode code 994 = .ok (.iaload, 1) := by decide +kernel
theorem d_Lw_law_995 : decode code 995 = .ok (.aload_n 0, 1) := by decide +kernel
theorem d_Lw_law_996 : decode code 996 = .ok (.iload_n 3, 1) := by decide +kernel
theorem d_Lw_law_997 : decode code 997 = .ok (.iconst 4, 1) := by decide +kernel
theorem d_Lw_law_998 : decode code 998 = .ok (.iadd, 1) := by decide +kernel
theorem d_Lw_law_999 : decode code 999 = .ok (.iaload, 1) := by decide +kernel
theorem d_Lw_law_1000 : decode code 1000 = .ok (.aload_n 0, 1) := by decide +kernel
theorem d_Lw_law_1001 : decode code 1001 = .ok (.iload_n 3, 1) := by decide +kernel
theorem d_Lw_law_1002 : decode code 1002 = .ok (.iconst 5, 1) := by decide +kernel
theorem d_Lw_law_1003 : decode code 1003 = .ok (.iadd, 1) := by decide +kernel
theorem d_Lw_law_1004 : decode code 1004 = .ok (.iaload, 1) := by decide +kernel
theorem d_Lw_law_1005 : decode code 1005 = .ok (.invokevirtual 101, 3) := by decide +kernel
theorem d_Lw_law_1008 : decode code 1008 = .ok (.aload_n 2, 1) := by decide +kernel
theorem d_Lw_law_1009 : decode code 1009 = .ok (.aload_n 0, 1) := by decide +kernel
theorem d_Lw_law_1010 : decode code 1010 = .ok (.iload_n 3, 1) := by decide +kernel
theorem d_Lw_law_1011 : decode code 1011 = .ok (.iconst 1, 1) := by decide +kernel
theorem d_Lw_law_1012 : decode code 1012 = .ok (.iadd, 1) := by decide +kernel
theorem d_Lw_law_1013 : decode code 1013 = .ok (.iaload, 1) := by decide +kernel
theorem d_Lw_law_1014 : decode code 1014 = .ok (.aload_n 0, 1) := by decide +kernel
theorem d_Lw_law_1015 : decode code 1015 = .ok (.iload_n 3, 1) := by decide +kernel
theorem d_Lw_law_1016 : decode code 1016 = .ok (.iconst 2, 1) := by decide +kernel
theorem d_Lw_law_1017 : decode code 1017 = .ok (.iadd, 1) := by decide +kernel
theorem d_Lw_law_1018 : decode code 1018 = .ok (.iaload, 1) := by decide +kernel
theorem d_Lw_law_1019 : decode code 1019 = .ok (.aload_n 0, 1) := by decide +kernel
theorem d_Lw_law_1020 : decode code 1020 = .ok (.iload_n 3, 1) := by decide +kernel
theorem d_Lw_law_1021 : decode code 1021 = .ok (.iconst 3, 1) := by decide +kernel
theorem d_Lw_law_1022 : decode code 1022 = .ok (.iadd, 1) := by decide +kernel
theorem d_Lw_law_1023 : decode code 1023 = .ok (.iaload, 1) := by decide +kernel
theorem d_Lw_law_1024 : decode code 1024 = .ok (.aload_n 0, 1) := by decide +kernel
theorem d_Lw_law_1025 : decode code 1025 = .ok (.iload_n 3, 1) := by decide +kernel
theorem d_Lw_law_1026 : decode code 1026 = .ok (.iconst 4, 1) := by decide +kernel
theorem d_Lw_law_1027 : decode code 1027 = .ok (.iadd, 1) := by decide +kernel
theorem d_Lw_law_1028 : decode code 1028 = .ok (.iaload, 1) := by decide +kernel
theorem d_Lw_law_1029 : decode code 1029 = .ok (.aload_n 0, 1) := by decide +kernel
theorem d_Lw_law_1030 : decode code 1030 = .ok (.iload_n 3, 1) := by decide +kernel
theorem d_Lw_law_1031 : decode code 1031 = .ok (.iconst 5, 1) := by decide +kernel
theorem d_Lw_law_1032 : decode code 1032 = .ok (.iadd, 1) := by decide +kernel
theorem d_Lw_law_1033 : decode code 1033 = .ok (.iaload, 1) := by decide +kernel
theorem d_Lw_law_1034 : decode code 1034 = .ok (.invokevirtual 105, 3) := by decide +kernel
theorem d_Lw_law_1037 : decode code 1037 = .ok (.if_icmp .eq 130, 3) := by decide +kernel
theorem d_Lw_law_1040 : decode code 1040 = .ok (.iconst 0, 1) := by decide +kernel
theorem d_Lw_law_1041 : decode code 1041 = .ok (.ireturn, 1) := by decide +kernel
theorem d_Lw_law_1042 : decode code 1042 = .ok (.aload_n 1, 1) := by decide +kernel
theorem d_Lw_law_1043 : decode code 1043 = .ok (.aload_n 0, 1) := by decide +kernel
theorem d_Lw_law_1044 : decode code 1044 = .ok (.iload_n 3, 1) := by decide +kernel
theorem d_Lw_law_1045 : decode code 1045 = .ok (.iconst 1, 1) := by decide +kernel
theorem d_Lw_law_1046 : decode code 1046 = .ok (.iadd, 1) := by decide +kernel
theorem d_Lw_law_1047 : decode code 1047 = .ok (.iaload, 1) := by decide +kernel
theorem d_Lw_law_1048 : decode code 1048 = .ok (.invokevirtual 106, 3) := by decide +kernel

