/-! The law: decode rows. Written by wip/whole/law.py. -/
theorem d_law_927 : decode code 927 = .ok (.aload_n 0, 1) := by decide +kernel
theorem d_law_928 : decode code 928 = .ok (.iload 4, 2) := by decide +kernel
theorem d_law_930 : decode code 930 = .ok (.iconst 1, 1) := by decide +kernel
theorem d_law_931 : decode code 931 = .ok (.iadd, 1) := by decide +kernel
theorem d_law_932 : decode code 932 = .ok (.iaload, 1) := by decide +kernel
theorem d_law_933 : decode code 933 = .ok (.aload_n 0, 1) := by decide +kernel
theorem d_law_934 : decode code 934 = .ok (.iload 4, 2) := by decide +kernel
theorem d_law_936 : decode code 936 = .ok (.iconst 2, 1) := by decide +kernel
theorem d_law_937 : decode code 937 = .ok (.iadd, 1) := by decide +kernel
theorem d_law_938 : decode code 938 = .ok (.iaload, 1) := by decide +kernel
theorem d_law_939 : decode code 939 = .ok (.invokevirtual 110, 3) := by decide +kernel
theorem d_law_942 : decode code 942 = .ok (.if_icmp .eq 228, 3) := by decide +kernel
theorem d_law_945 : decode code 945 = .ok (.iconst 0, 1) := by decide +kernel
theorem d_law_946 : decode code 946 = .ok (.ireturn, 1) := by decide +kernel
theorem d_law_947 : decode code 947 = .ok (.aload_n 1, 1) := by decide +kernel
theorem d_law_948 : decode code 948 = .ok (.aload_n 0, 1) := by decide +kernel
theorem d_law_949 : decode code 949 = .ok (.iload 4, 2) := by decide +kernel
theorem d_law_951 : decode code 951 = .ok (.iconst 1, 1) := by decide +kernel
theorem d_law_952 : decode code 952 = .ok (.iadd, 1) := by decide +kernel
theorem d_law_953 : decode code 953 = .ok (.iaload, 1) := by decide +kernel
theorem d_law_954 : decode code 954 = .ok (.aload_n 0, 1) := by decide +kernel
theorem d_law_955 : decode code 955 = .ok (.iload 4, 2) := by decide +kernel
theorem d_law_957 : decode code 957 = .ok (.iconst 2, 1) := by decide +kernel
theorem d_law_958 : decode code 958 = .ok (.iadd, 1) := by decide +kernel
theorem d_law_959 : decode code 959 = .ok (.iaload, 1) := by decide +kernel
theorem d_law_960 : decode code 960 = .ok (.invokevirtual 111, 3) := by decide +kernel
theorem d_law_963 : decode code 963 = .ok (.aload_n 2, 1) := by decide +kernel
theorem d_law_964 : decode code 964 = .ok (.aload_n 0, 1) := by decide +kernel
theorem d_law_965 : decode code 965 = .ok (.iload 4, 2) := by decide +kernel
theorem d_law_967 : decode code 967 = .ok (.iconst 1, 1) := by decide +kernel
theorem d_law_968 : decode code 968 = .ok (.iadd, 1) := by decide +kernel
theorem d_law_969 : decode code 969 = .ok (.iaload, 1) := by decide +kernel
theorem d_law_970 : decode code 970 = .ok (.aload_n 0, 1) := by decide +kernel
theorem d_law_971 : decode code 971 = .ok (.iload 4, 2) := by decide +kernel
theorem d_law_973 : decode code 973 = .ok (.iconst 2, 1) := by decide +kernel
theorem d_law_974 : decode code 974 = .ok (.iadd, 1) := by decide +kernel
theorem d_law_975 : decode code 975 = .ok (.iaload, 1) := by decide +kernel
theorem d_law_976 : decode code 976 = .ok (.invokevirtual 114, 3) := by decide +kernel
theorem d_law_979 : decode code 979 = .ok (.if_icmp .eq 191, 3) := by decide +kernel
theorem d_law_982 : decode code 982 = .ok (.iconst 0, 1) := by decide +kernel
theorem d_law_983 : decode code 983 = .ok (.ireturn, 1) := by decide +kernel
theorem d_law_984 : decode code 984 = .ok (.aload_n 1, 1) := by decide +kernel
theorem d_law_985 : decode code 985 = .ok (.aload_n 0, 1) := by decide +kernel
theorem d_law_986 : decode code 986 = .ok (.iload 4, 2) := by decide +kernel
theorem d_law_988 : decode code 988 = .ok (.iconst 1, 1) := by decide +kernel
theorem d_law_989 : decode code 989 = .ok (.iadd, 1) := by decide +kernel
theorem d_law_990 : decode code 990 = .ok (.iaload, 1) := by decide +kernel
theorem d_law_991 : decode code 991 = .ok (.aload_n 0, 1) := by decide +kernel
theorem d_law_992 : decode code 992 = .ok (.iload 4, 2) := by decide +kernel
theorem d_law_994 : decode code 994 = .ok (.iconst 2, 1) := by decide +kernel
theorem d_law_995 : decode code 995 = .ok (.iadd, 1) := by decide +kernel
theorem d_law_996 : decode code 996 = .ok (.iaload, 1) := by decide +kernel
theorem d_law_997 : decode code 997 = .ok (.aload_n 0, 1) := by decide +kernel
theorem d_law_998 : decode code 998 = .ok (.iload 4, 2) := by decide +kernel
theorem d_law_1000 : decode code 1000 = .ok (.iconst 3, 1) := by decide +kernel
theorem d_law_1001 : decode code 1001 = .ok (.iadd, 1) := by decide +kernel
theorem d_law_1002 : decode code 1002 = .ok (.iaload, 1) := by decide +kernel
theorem d_law_1003 : decode code 1003 = .ok (.invokevirtual 115, 3) := by decide +kernel
theorem d_law_1006 : decode code 1006 = .ok (.aload_n 2, 1) := by decide +kernel
theorem d_law_1007 : decode code 1007 = .ok (.aload_n 0, 1) := by decide +kernel
theorem d_law_1008 : decode code 1008 = .ok (.iload 4, 2) := by decide +kernel
theorem d_law_1010 : decode code 1010 = .ok (.iconst 1, 1) := by decide +kernel
theorem d_law_1011 : decode code 1011 = .ok (.iadd, 1) := by decide +kernel
theorem d_law_1012 : decode code 1012 = .ok (.iaload, 1) := by decide +kernel
theorem d_law_1013 : decode code 1013 = .ok (.aload_n 0, 1) := by decide +kernel
theorem d_law_1014 : decode code 1014 = .ok (.iload 4, 2) := by decide +kernel
theorem d_law_1016 : decode code 1016 = .ok (.iconst 2, 1) := by decide +kernel
theorem d_law_1017 : decode code 1017 = .ok (.iadd, 1) := by decide +kernel
theorem d_law_1018 : decode code 1018 = .ok (.iaload, 1) := by decide +kernel
theorem d_law_1019 : decode code 1019 = .ok (.aload_n 0, 1) := by decide +kernel
theorem d_law_1020 : decode code 1020 = .ok (.iload 4, 2) := by decide +kernel
theorem d_law_1022 : decode code 1022 = .ok (.iconst 3, 1) := by decide +kernel
theorem d_law_1023 : decode code 1023 = .ok (.iadd, 1) := by decide +kernel
theorem d_law_1024 : decode code 1024 = .ok (.iaload, 1) := by decide +kernel
theorem d_law_1025 : decode code 1025 = .ok (.invokevirtual 119, 3) := by decide +kernel
theorem d_law_1028 : decode code 1028 = .ok (.if_icmp .eq 142, 3) := by decide +kernel
theorem d_law_1031 : decode code 1031 = .ok (.iconst 0, 1) := by decide +kernel
theorem d_law_1032 : decode code 1032 = .ok (.ireturn, 1) := by decide +kernel
theorem d_law_1033 : decode code 1033 = .ok (.aload_n 1, 1) := by decide +kernel
theorem d_law_1034 : decode code 1034 = .ok (.aload_n 0, 1) := by decide +kernel
theorem d_law_1035 : decode code 1035 = .ok (.iload 4, 2) := by decide +kernel
theorem d_law_1037 : decode code 1037 = .ok (.iconst 1, 1) := by decide +kernel
theorem d_law_1038 : decode code 1038 = .ok (.iadd, 1) := by decide +kernel
theorem d_law_1039 : decode code 1039 = .ok (.iaload, 1) := by decide +kernel
theorem d_law_1040 : decode code 1040 = .ok (.aload_n 0, 1) := by decide +kernel
theorem d_law_1041 : decode code 1041 = .ok (.iload 4, 2) := by decide +kernel
theorem d_law_1043 : decode code 1043 = .ok (.iconst 2, 1) := by decide +kernel
theorem d_law_1044 : decode code 1044 = .ok (.iadd, 1) := by decide +kernel
theorem d_law_1045 : decode code 1045 = .ok (.iaload, 1) := by decide +kernel
theorem d_law_1046 : decode code 1046 = .ok (.invokevirtual 120, 3) := by decide +kernel
theorem d_law_1049 : decode code 1049 = .ok (.aload_n 2, 1) := by decide +kernel
theorem d_law_1050 : decode code 1050 = .ok (.aload_n 0, 1) := by decide +kernel
theorem d_law_1051 : decode code 1051 = .ok (.iload 4, 2) := by decide +kernel
theorem d_law_1053 : decode code 1053 = .ok (.iconst 1, 1) := by decide +kernel
theorem d_law_1054 : decode code 1054 = .ok (.iadd, 1) := by decide +kernel
theorem d_law_1055 : decode code 1055 = .ok (.iaload, 1) := by decide +kernel
theorem d_law_1056 : decode code 1056 = .ok (.aload_n 0, 1) := by decide +kernel
theorem d_law_1057 : decode code 1057 = .ok (.iload 4, 2) := by decide +kernel
theorem d_law_1059 : decode code 1059 = .ok (.iconst 2, 1) := by decide +kernel
theorem d_law_1060 : decode code 1060 = .ok (.iadd, 1) := by decide +kernel
theorem d_law_1061 : decode code 1061 = .ok (.iaload, 1) := by decide +kernel
theorem d_law_1062 : decode code 1062 = .ok (.invokevirtual 123, 3) := by decide +kernel
theorem d_law_1065 : decode code 1065 = .ok (.if_icmp .eq 105, 3) := by decide +kernel
theorem d_law_1068 : decode code 1068 = .ok (.iconst 0, 1) := by decide +kernel
theorem d_law_1069 : decode code 1069 = .ok (.ireturn, 1) := by decide +kernel
theorem d_law_1070 : decode code 1070 = .ok (.aload_n 1, 1) := by decide +kernel
theorem d_law_1071 : decode code 1071 = .ok (.aload_n 0, 1) := by decide +kernel
theorem d_law_1072 : decode code 1072 = .ok (.iload 4, 2) := by decide +kernel
theorem d_law_1074 : decode code 1074 = .ok (.iconst 1, 1) := by decide +kernel
theorem d_law_1075 : decode code 1075 = .ok (.iadd, 1) := by decide +kernel
theorem d_law_1076 : decode code 1076 = .ok (.iaload, 1) := by decide +kernel
theorem d_law_1077 : decode code 1077 = .ok (.aload_n 0, 1) := by decide +kernel
theorem d_law_1078 : decode code 1078 = .ok (.iload 4, 2) := by decide +kernel
theorem d_law_1080 : decode code 1080 = .ok (.iconst 2, 1) := by decide +kernel
theorem d_law_1081 : decode code 1081 = .ok (.iadd, 1) := by decide +kernel
theorem d_law_1082 : decode code 1082 = .ok (.iaload, 1) := by decide +kernel
theorem d_law_1083 : decode code 1083 = .ok (.aload_n 0, 1) := by decide +kernel
theorem d_law_1084 : decode code 1084 = .ok (.iload 4, 2) := by decide +kernel
theorem d_law_1086 : decode code 1086 = .ok (.iconst 3, 1) := by decide +kernel
theorem d_law_1087 : decode code 1087 = .ok (.iadd, 1) := by decide +kernel
theorem d_law_1088 : decode code 1088 = .ok (.iaload, 1) := by decide +kernel
theorem d_law_1089 : decode code 1089 = .ok (.invokevirtual 124, 3) := by decide +kernel
theorem d_law_1092 : decode code 1092 = .ok (.aload_n 2, 1) := by decide +kernel
theorem d_law_1093 : decode code 1093 = .ok (.aload_n 0, 1) := by decide +kernel
theorem d_law_1094 : decode code 1094 = .ok (.iload 4, 2) := by decide +kernel
theorem d_law_1096 : decode code 1096 = .ok (.iconst 1, 1) := by decide +kernel
theorem d_law_1097 : decode code 1097 = .ok (.iadd, 1) := by decide +kernel
theorem d_law_1098 : decode code 1098 = .ok (.iaload, 1) := by decide +kernel
theorem d_law_1099 : decode code 1099 = .ok (.aload_n 0, 1) := by decide +kernel
theorem d_law_1100 : decode code 1100 = .ok (.iload 4, 2) := by decide +kernel
theorem d_law_1102 : decode code 1102 = .ok (.iconst 2, 1) := by decide +kernel
theorem d_law_1103 : decode code 1103 = .ok (.iadd, 1) := by decide +kernel
theorem d_law_1104 : decode code 1104 = .ok (.iaload, 1) := by decide +kernel
theorem d_law_1105 : decode code 1105 = .ok (.aload_n 0, 1) := by decide +kernel
theorem d_law_1106 : decode code 1106 = .ok (.iload 4, 2) := by decide +kernel
theorem d_law_1108 : decode code 1108 = .ok (.iconst 3, 1) := by decide +kernel
theorem d_law_1109 : decode code 1109 = .ok (.iadd, 1) := by decide +kernel
theorem d_law_1110 : decode code 1110 = .ok (.iaload, 1) := by decide +kernel
theorem d_law_1111 : decode code 1111 = .ok (.invokevirtual 127, 3) := by decide +kernel
theorem d_law_1114 : decode code 1114 = .ok (.if_icmp .eq 56, 3) := by decide +kernel
theorem d_law_1117 : decode code 1117 = .ok (.iconst 0, 1) := by decide +kernel
theorem d_law_1118 : decode code 1118 = .ok (.ireturn, 1) := by decide +kernel
theorem d_law_1119 : decode code 1119 = .ok (.aload_n 1, 1) := by decide +kernel
theorem d_law_1120 : decode code 1120 = .ok (.aload_n 0, 1) := by decide +kernel
theorem d_law_1121 : decode code 1121 = .ok (.iload 4, 2) := by decide +kernel
theorem d_law_1123 : decode code 1123 = .ok (.iconst 1, 1) := by decide +kernel
theorem d_law_1124 : decode code 1124 = .ok (.iadd, 1) := by decide +kernel
theorem d_law_1125 : decode code 1125 = .ok (.iaload, 1) := by decide +kernel
theorem d_law_1126 : decode code 1126 = .ok (.invokevirtual 128, 3) := by decide +kernel
theorem d_law_1129 : decode code 1129 = .ok (.aload_n 2, 1) := by decide +kernel
theorem d_law_1130 : decode code 1130 = .ok (.aload_n 0, 1) := by decide +kernel
theorem d_law_1131 : decode code 1131 = .ok (.iload 4, 2) := by decide +kernel
theorem d_law_1133 : decode code 1133 = .ok (.iconst 1, 1) := by decide +kernel
theorem d_law_1134 : decode code 1134 = .ok (.iadd, 1) := by decide +kernel
theorem d_law_1135 : decode code 1135 = .ok (.iaload, 1) := by decide +kernel
theorem d_law_1136 : decode code 1136 = .ok (.invokevirtual 132, 3) := by decide +kernel
theorem d_law_1139 : decode code 1139 = .ok (.lcmp, 1) := by decide +kernel
theorem d_law_1140 : decode code 1140 = .ok (.ifCond .eq 30, 3) := by decide +kernel
theorem d_law_1143 : decode code 1143 = .ok (.iconst 0, 1) := by decide +kernel
theorem d_law_1144 : decode code 1144 = .ok (.ireturn, 1) := by decide +kernel
theorem d_law_1145 : decode code 1145 = .ok (.aload_n 1, 1) := by decide +kernel
theorem d_law_1146 : decode code 1146 = .ok (.aload_n 0, 1) := by decide +kernel
theorem d_law_1147 : decode code 1147 = .ok (.iload 4, 2) := by decide +kernel
theorem d_law_1149 : decode code 1149 = .ok (.iconst 1, 1) := by decide +kernel
theorem d_law_1150 : decode code 1150 = .ok (.iadd, 1) := by decide +kernel
theorem d_law_1151 : decode code 1151 = .ok (.iaload, 1) := by decide +kernel
theorem d_law_1152 : decode code 1152 = .ok (.invokevirtual 133, 3) := by decide +kernel
theorem d_law_1155 : decode code 1155 = .ok (.aload_n 2, 1) := by decide +kernel
theorem d_law_1156 : decode code 1156 = .ok (.aload_n 0, 1) := by decide +kernel
theorem d_law_1157 : decode code 1157 = .ok (.iload 4, 2) := by decide +kernel
theorem d_law_1159 : decode code 1159 = .ok (.iconst 1, 1) := by decide +kernel
theorem d_law_1160 : decode code 1160 = .ok (.iadd, 1) := by decide +kernel
theorem d_law_1161 : decode code 1161 = .ok (.iaload, 1) := by decide +kernel
theorem d_law_1162 : decode code 1162 = .ok (.invokevirtual 136, 3) := by decide +kernel
theorem d_law_1165 : decode code 1165 = .ok (.if_icmp .eq 5, 3) := by decide +kernel
theorem d_law_1168 : decode code 1168 = .ok (.iconst 0, 1) := by decide +kernel
theorem d_law_1169 : decode code 1169 = .ok (.ireturn, 1) := by decide +kernel
theorem d_law_1170 : decode code 1170 = .ok (.iinc 4 5, 3) := by decide +kernel
theorem d_law_1173 : decode code 1173 = .ok (.goto (-1140), 3) := by decide +kernel
theorem d_law_1176 : decode code 1176 = .ok (.iconst 1, 1) := by decide +kernel
theorem d_law_1177 : decode code 1177 = .ok (.ireturn, 1) := by decide +kernel
