theorem dX6_init_872 : decode cX6_init 872 = .ok (.bipush 64, 2) := by decide +kernel
theorem dX6_init_874 : decode cX6_init 874 = .ok (.bipush 109, 2) := by decide +kernel
theorem dX6_init_876 : decode cX6_init 876 = .ok (.iastore, 1) := by decide +kernel
theorem dX6_init_877 : decode cX6_init 877 = .ok (.dup, 1) := by decide +kernel
theorem dX6_init_878 : decode cX6_init 878 = .ok (.bipush 65, 2) := by decide +kernel
theorem dX6_init_880 : decode cX6_init 880 = .ok (.bipush 111, 2) := by decide +kernel
theorem dX6_init_882 : decode cX6_init 882 = .ok (.iastore, 1) := by decide +kernel
theorem dX6_init_883 : decode cX6_init 883 = .ok (.dup, 1) := by decide +kernel
theorem dX6_init_884 : decode cX6_init 884 = .ok (.bipush 66, 2) := by decide +kernel
theorem dX6_init_886 : decode cX6_init 886 = .ok (.bipush 114, 2) := by decide +kernel
theorem dX6_init_888 : decode cX6_init 888 = .ok (.iastore, 1) := by decide +kernel
theorem dX6_init_889 : decode cX6_init 889 = .ok (.dup, 1) := by decide +kernel
theorem dX6_init_890 : decode cX6_init 890 = .ok (.bipush 67, 2) := by decide +kernel
theorem dX6_init_892 : decode cX6_init 892 = .ok (.bipush 101, 2) := by decide +kernel
theorem dX6_init_894 : decode cX6_init 894 = .ok (.iastore, 1) := by decide +kernel
theorem dX6_init_895 : decode cX6_init 895 = .ok (.dup, 1) := by decide +kernel
theorem dX6_init_896 : decode cX6_init 896 = .ok (.bipush 68, 2) := by decide +kernel
theorem dX6_init_898 : decode cX6_init 898 = .ok (.bipush 32, 2) := by decide +kernel
theorem dX6_init_900 : decode cX6_init 900 = .ok (.iastore, 1) := by decide +kernel
theorem dX6_init_901 : decode cX6_init 901 = .ok (.dup, 1) := by decide +kernel
theorem dX6_init_902 : decode cX6_init 902 = .ok (.bipush 69, 2) := by decide +kernel
theorem dX6_init_904 : decode cX6_init 904 = .ok (.bipush 32, 2) := by decide +kernel
theorem dX6_init_906 : decode cX6_init 906 = .ok (.iastore, 1) := by decide +kernel
theorem dX6_init_907 : decode cX6_init 907 = .ok (.dup, 1) := by decide +kernel
theorem dX6_init_908 : decode cX6_init 908 = .ok (.bipush 70, 2) := by decide +kernel
theorem dX6_init_910 : decode cX6_init 910 = .ok (.bipush 32, 2) := by decide +kernel
theorem dX6_init_912 : decode cX6_init 912 = .ok (.iastore, 1) := by decide +kernel
theorem dX6_init_913 : decode cX6_init 913 = .ok (.dup, 1) := by decide +kernel
theorem dX6_init_914 : decode cX6_init 914 = .ok (.bipush 71, 2) := by decide +kernel
theorem dX6_init_916 : decode cX6_init 916 = .ok (.bipush 32, 2) := by decide +kernel
theorem dX6_init_918 : decode cX6_init 918 = .ok (.iastore, 1) := by decide +kernel
theorem dX6_init_919 : decode cX6_init 919 = .ok (.dup, 1) := by decide +kernel
theorem dX6_init_920 : decode cX6_init 920 = .ok (.bipush 72, 2) := by decide +kernel
theorem dX6_init_922 : decode cX6_init 922 = .ok (.bipush 111, 2) := by decide +kernel
theorem dX6_init_924 : decode cX6_init 924 = .ok (.iastore, 1) := by decide +kernel
theorem dX6_init_925 : decode cX6_init 925 = .ok (.dup, 1) := by decide +kernel
theorem dX6_init_926 : decode cX6_init 926 = .ok (.bipush 73, 2) := by decide +kernel
theorem dX6_init_928 : decode cX6_init 928 = .ok (.bipush 114, 2) := by decide +kernel
theorem dX6_init_930 : decode cX6_init 930 = .ok (.iastore, 1) := by decide +kernel
theorem dX6_init_931 : decode cX6_init 931 = .ok (.dup, 1) := by decide +kernel
theorem dX6_init_932 : decode cX6_init 932 = .ok (.bipush 74, 2) := by decide +kernel
theorem dX6_init_934 : decode cX6_init 934 = .ok (.bipush 32, 2) := by decide +kernel
theorem dX6_init_936 : decode cX6_init 936 = .ok (.iastore, 1) := by decide +kernel
theorem dX6_init_937 : decode cX6_init 937 = .ok (.dup, 1) := by decide +kernel
theorem dX6_init_938 : decode cX6_init 938 = .ok (.bipush 75, 2) := by decide +kernel
theorem dX6_init_940 : decode cX6_init 940 = .ok (.bipush 32, 2) := by decide +kernel
theorem dX6_init_942 : decode cX6_init 942 = .ok (.iastore, 1) := by decide +kernel
theorem dX6_init_943 : decode cX6_init 943 = .ok (.dup, 1) := by decide +kernel
theorem dX6_init_944 : decode cX6_init 944 = .ok (.bipush 76, 2) := by decide +kernel
theorem dX6_init_946 : decode cX6_init 946 = .ok (.bipush 32, 2) := by decide +kernel
theorem dX6_init_948 : decode cX6_init 948 = .ok (.iastore, 1) := by decide +kernel
theorem dX6_init_949 : decode cX6_init 949 = .ok (.dup, 1) := by decide +kernel
theorem dX6_init_950 : decode cX6_init 950 = .ok (.bipush 77, 2) := by decide +kernel
theorem dX6_init_952 : decode cX6_init 952 = .ok (.bipush 32, 2) := by decide +kernel
theorem dX6_init_954 : decode cX6_init 954 = .ok (.iastore, 1) := by decide +kernel
theorem dX6_init_955 : decode cX6_init 955 = .ok (.dup, 1) := by decide +kernel
theorem dX6_init_956 : decode cX6_init 956 = .ok (.bipush 78, 2) := by decide +kernel
theorem dX6_init_958 : decode cX6_init 958 = .ok (.bipush 32, 2) := by decide +kernel
theorem dX6_init_960 : decode cX6_init 960 = .ok (.iastore, 1) := by decide +kernel
theorem dX6_init_961 : decode cX6_init 961 = .ok (.dup, 1) := by decide +kernel
theorem dX6_init_962 : decode cX6_init 962 = .ok (.bipush 79, 2) := by decide +kernel
theorem dX6_init_964 : decode cX6_init 964 = .ok (.bipush 32, 2) := by decide +kernel
theorem dX6_init_966 : decode cX6_init 966 = .ok (.iastore, 1) := by decide +kernel
theorem dX6_init_967 : decode cX6_init 967 = .ok (.dup, 1) := by decide +kernel
theorem dX6_init_968 : decode cX6_init 968 = .ok (.bipush 80, 2) := by decide +kernel
theorem dX6_init_970 : decode cX6_init 970 = .ok (.bipush 97, 2) := by decide +kernel
theorem dX6_init_972 : decode cX6_init 972 = .ok (.iastore, 1) := by decide +kernel
theorem dX6_init_973 : decode cX6_init 973 = .ok (.dup, 1) := by decide +kernel
theorem dX6_init_974 : decode cX6_init 974 = .ok (.bipush 81, 2) := by decide +kernel
theorem dX6_init_976 : decode cX6_init 976 = .ok (.bipush 110, 2) := by decide +kernel
theorem dX6_init_978 : decode cX6_init 978 = .ok (.iastore, 1) := by decide +kernel
theorem dX6_init_979 : decode cX6_init 979 = .ok (.dup, 1) := by decide +kernel
theorem dX6_init_980 : decode cX6_init 980 = .ok (.bipush 82, 2) := by decide +kernel
theorem dX6_init_982 : decode cX6_init 982 = .ok (.bipush 100, 2) := by decide +kernel
theorem dX6_init_984 : decode cX6_init 984 = .ok (.iastore, 1) := by decide +kernel
theorem dX6_init_985 : decode cX6_init 985 = .ok (.dup, 1) := by decide +kernel
theorem dX6_init_986 : decode cX6_init 986 = .ok (.bipush 83, 2) := by decide +kernel
theorem dX6_init_988 : decode cX6_init 988 = .ok (.bipush 32, 2) := by decide +kernel
theorem dX6_init_990 : decode cX6_init 990 = .ok (.iastore, 1) := by decide +kernel
theorem dX6_init_991 : decode cX6_init 991 = .ok (.dup, 1) := by decide +kernel
theorem dX6_init_992 : decode cX6_init 992 = .ok (.bipush 84, 2) := by decide +kernel
theorem dX6_init_994 : decode cX6_init 994 = .ok (.bipush 32, 2) := by decide +kernel
theorem dX6_init_996 : decode cX6_init 996 = .ok (.iastore, 1) := by decide +kernel
theorem dX6_init_997 : decode cX6_init 997 = .ok (.dup, 1) := by decide +kernel
theorem dX6_init_998 : decode cX6_init 998 = .ok (.bipush 85, 2) := by decide +kernel
theorem dX6_init_1000 : decode cX6_init 1000 = .ok (.bipush 32, 2) := by decide +kernel
theorem dX6_init_1002 : decode cX6_init 1002 = .ok (.iastore, 1) := by decide +kernel
theorem dX6_init_1003 : decode cX6_init 1003 = .ok (.dup, 1) := by decide +kernel
theorem dX6_init_1004 : decode cX6_init 1004 = .ok (.bipush 86, 2) := by decide +kernel
theorem dX6_init_1006 : decode cX6_init 1006 = .ok (.bipush 32, 2) := by decide +kernel
theorem dX6_init_1008 : decode cX6_init 1008 = .ok (.iastore, 1) := by decide +kernel
theorem dX6_init_1009 : decode cX6_init 1009 = .ok (.dup, 1) := by decide +kernel
theorem dX6_init_1010 : decode cX6_init 1010 = .ok (.bipush 87, 2) := by decide +kernel
theorem dX6_init_1012 : decode cX6_init 1012 = .ok (.bipush 32, 2) := by decide +kernel
theorem dX6_init_1014 : decode cX6_init 1014 = .ok (.iastore, 1) := by decide +kernel
theorem dX6_init_1015 : decode cX6_init 1015 = .ok (.dup, 1) := by decide +kernel
theorem dX6_init_1016 : decode cX6_init 1016 = .ok (.bipush 88, 2) := by decide +kernel
theorem dX6_init_1018 : decode cX6_init 1018 = .ok (.bipush 110, 2) := by decide +kernel
theorem dX6_init_1020 : decode cX6_init 1020 = .ok (.iastore, 1) := by decide +kernel
theorem dX6_init_1021 : decode cX6_init 1021 = .ok (.dup, 1) := by decide +kernel
theorem dX6_init_1022 : decode cX6_init 1022 = .ok (.bipush 89, 2) := by decide +kernel
theorem dX6_init_1024 : decode cX6_init 1024 = .ok (.bipush 111, 2) := by decide +kernel
theorem dX6_init_1026 : decode cX6_init 1026 = .ok (.iastore, 1) := by decide +kernel
theorem dX6_init_1027 : decode cX6_init 1027 = .ok (.dup, 1) := by decide +kernel
theorem dX6_init_1028 : decode cX6_init 1028 = .ok (.bipush 90, 2) := by decide +kernel
theorem dX6_init_1030 : decode cX6_init 1030 = .ok (.bipush 116, 2) := by decide +kernel
theorem dX6_init_1032 : decode cX6_init 1032 = .ok (.iastore, 1) := by decide +kernel
theorem dX6_init_1033 : decode cX6_init 1033 = .ok (.dup, 1) := by decide +kernel
theorem dX6_init_1034 : decode cX6_init 1034 = .ok (.bipush 91, 2) := by decide +kernel
theorem dX6_init_1036 : decode cX6_init 1036 = .ok (.bipush 32, 2) := by decide +kernel
theorem dX6_init_1038 : decode cX6_init 1038 = .ok (.iastore, 1) := by decide +kernel
theorem dX6_init_1039 : decode cX6_init 1039 = .ok (.dup, 1) := by decide +kernel
theorem dX6_init_1040 : decode cX6_init 1040 = .ok (.bipush 92, 2) := by decide +kernel
theorem dX6_init_1042 : decode cX6_init 1042 = .ok (.bipush 32, 2) := by decide +kernel
theorem dX6_init_1044 : decode cX6_init 1044 = .ok (.iastore, 1) := by decide +kernel
theorem dX6_init_1045 : decode cX6_init 1045 = .ok (.dup, 1) := by decide +kernel
theorem dX6_init_1046 : decode cX6_init 1046 = .ok (.bipush 93, 2) := by decide +kernel
theorem dX6_init_1048 : decode cX6_init 1048 = .ok (.bipush 32, 2) := by decide +kernel
theorem dX6_init_1050 : decode cX6_init 1050 = .ok (.iastore, 1) := by decide +kernel
theorem dX6_init_1051 : decode cX6_init 1051 = .ok (.dup, 1) := by decide +kernel
theorem dX6_init_1052 : decode cX6_init 1052 = .ok (.bipush 94, 2) := by decide +kernel
theorem dX6_init_1054 : decode cX6_init 1054 = .ok (.bipush 32, 2) := by decide +kernel
theorem dX6_init_1056 : decode cX6_init 1056 = .ok (.iastore, 1) := by decide +kernel
theorem dX6_init_1057 : decode cX6_init 1057 = .ok (.dup, 1) := by decide +kernel
theorem dX6_init_1058 : decode cX6_init 1058 = .ok (.bipush 95, 2) := by decide +kernel
theorem dX6_init_1060 : decode cX6_init 1060 = .ok (.bipush 32, 2) := by decide +kernel
theorem dX6_init_1062 : decode cX6_init 1062 = .ok (.iastore, 1) := by decide +kernel
theorem dX6_init_1063 : decode cX6_init 1063 = .ok (.putfield 55, 3) := by decide +kernel
theorem dX6_init_1066 : decode cX6_init 1066 = .ok (.aload_n 0, 1) := by decide +kernel
theorem dX6_init_1067 : decode cX6_init 1067 = .ok (.sipush 200, 3) := by decide +kernel
theorem dX6_init_1070 : decode cX6_init 1070 = .ok (.newarray .int, 2) := by decide +kernel
theorem dX6_init_1072 : decode cX6_init 1072 = .ok (.putfield 58, 3) := by decide +kernel
theorem dX6_init_1075 : decode cX6_init 1075 = .ok (.aload_n 0, 1) := by decide +kernel
theorem dX6_init_1076 : decode cX6_init 1076 = .ok (.sipush 200, 3) := by decide +kernel
theorem dX6_init_1079 : decode cX6_init 1079 = .ok (.newarray .int, 2) := by decide +kernel
theorem dX6_init_1081 : decode cX6_init 1081 = .ok (.putfield 61, 3) := by decide +kernel
theorem dX6_init_1084 : decode cX6_init 1084 = .ok (.aload_n 0, 1) := by decide +kernel
theorem dX6_init_1085 : decode cX6_init 1085 = .ok (.bipush 6, 2) := by decide +kernel
theorem dX6_init_1087 : decode cX6_init 1087 = .ok (.newarray .int, 2) := by decide +kernel
theorem dX6_init_1089 : decode cX6_init 1089 = .ok (.putfield 64, 3) := by decide +kernel
theorem dX6_init_1092 : decode cX6_init 1092 = .ok (.aload_n 0, 1) := by decide +kernel
theorem dX6_init_1093 : decode cX6_init 1093 = .ok (.bipush 44, 2) := by decide +kernel
theorem dX6_init_1095 : decode cX6_init 1095 = .ok (.newarray .int, 2) := by decide +kernel
theorem dX6_init_1097 : decode cX6_init 1097 = .ok (.putfield 67, 3) := by decide +kernel
theorem dX6_init_1100 : decode cX6_init 1100 = .ok (.iconst 0, 1) := by decide +kernel
theorem dX6_init_1101 : decode cX6_init 1101 = .ok (.istore_n 1, 1) := by decide +kernel
theorem dX6_init_1102 : decode cX6_init 1102 = .ok (.iload_n 1, 1) := by decide +kernel
theorem dX6_init_1103 : decode cX6_init 1103 = .ok (.bipush 35, 2) := by decide +kernel
theorem dX6_init_1105 : decode cX6_init 1105 = .ok (.if_icmp .ge 21, 3) := by decide +kernel
theorem dX6_init_1108 : decode cX6_init 1108 = .ok (.aload_n 0, 1) := by decide +kernel
theorem dX6_init_1109 : decode cX6_init 1109 = .ok (.getfield 28, 3) := by decide +kernel
theorem dX6_init_1112 : decode cX6_init 1112 = .ok (.iload_n 1, 1) := by decide +kernel
theorem dX6_init_1113 : decode cX6_init 1113 = .ok (.aload_n 0, 1) := by decide +kernel
theorem dX6_init_1114 : decode cX6_init 1114 = .ok (.getfield 52, 3) := by decide +kernel
theorem dX6_init_1117 : decode cX6_init 1117 = .ok (.iload_n 1, 1) := by decide +kernel
theorem dX6_init_1118 : decode cX6_init 1118 = .ok (.iaload, 1) := by decide +kernel
theorem dX6_init_1119 : decode cX6_init 1119 = .ok (.iastore, 1) := by decide +kernel
theorem dX6_init_1120 : decode cX6_init 1120 = .ok (.iinc 1 1, 3) := by decide +kernel
theorem dX6_init_1123 : decode cX6_init 1123 = .ok (.goto (-21), 3) := by decide +kernel
theorem dX6_init_1126 : decode cX6_init 1126 = .ok (.aload_n 0, 1) := by decide +kernel
theorem dX6_init_1127 : decode cX6_init 1127 = .ok (.bipush 35, 2) := by decide +kernel
theorem dX6_init_1129 : decode cX6_init 1129 = .ok (.putfield 70, 3) := by decide +kernel
theorem dX6_init_1132 : decode cX6_init 1132 = .ok (.aload_n 0, 1) := by decide +kernel
theorem dX6_init_1133 : decode cX6_init 1133 = .ok (.invokevirtual 74, 3) := by decide +kernel
theorem dX6_init_1136 : decode cX6_init 1136 = .ok (.pop, 1) := by decide +kernel
theorem dX6_init_1137 : decode cX6_init 1137 = .ok (.return_, 1) := by decide +kernel
