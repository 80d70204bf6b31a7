theorem de_La_960 : decode code 960 = .ok (.iadd, 1) := by decide +kernel
theorem de_La_961 : decode code 961 = .ok (.iaload, 1) := by decide +kernel
theorem de_La_962 : decode code 962 = .ok (.aload_n 0, 1) := by decide +kernel
theorem de_La_963 : decode code 963 = .ok (.iload_n 3, 1) := by decide +kernel
theorem de_La_964 : decode code 964 = .ok (.iconst 4, 1) := by decide +kernel
theorem de_La_965 : decode code 965 = .ok (.iadd, 1) := by decide +kernel
theorem de_La_966 : decode code 966 = .ok (.iaload, 1) := by decide +kernel
theorem de_La_967 : decode code 967 = .ok (.ifCond .eq 7, 3) := by decide +kernel
theorem de_La_970 : decode code 970 = .ok (.iconst 1, 1) := by decide +kernel
theorem de_La_971 : decode code 971 = .ok (.goto 4, 3) := by decide +kernel
theorem de_La_974 : decode code 974 = .ok (.iconst 0, 1) := by decide +kernel
theorem de_La_975 : decode code 975 = .ok (.invokevirtual 122, 3) := by decide +kernel
theorem de_La_978 : decode code 978 = .ok (.if_icmp .eq 206, 3) := by decide +kernel
theorem de_La_983 : decode code 983 = .ok (.aload_n 1, 1) := by decide +kernel
theorem de_La_984 : decode code 984 = .ok (.aload_n 0, 1) := by decide +kernel
theorem de_La_985 : decode code 985 = .ok (.iload_n 3, 1) := by decide +kernel
theorem de_La_986 : decode code 986 = .ok (.iconst 1, 1) := by decide +kernel
theorem de_La_987 : decode code 987 = .ok (.iadd, 1) := by decide +kernel
theorem de_La_988 : decode code 988 = .ok (.iaload, 1) := by decide +kernel
theorem de_La_989 : decode code 989 = .ok (.invokevirtual 123, 3) := by decide +kernel
theorem de_La_992 : decode code 992 = .ok (.aload_n 2, 1) := by decide +kernel
theorem de_La_993 : decode code 993 = .ok (.aload_n 0, 1) := by decide +kernel
theorem de_La_994 : decode code 994 = .ok (.iload_n 3, 1) := by decide +kernel
theorem de_La_995 : decode code 995 = .ok (.iconst 1, 1) := by decide +kernel
theorem de_La_996 : decode code 996 = .ok (.iadd, 1) := by decide +kernel
theorem de_La_997 : decode code 997 = .ok (.iaload, 1) := by decide +kernel
theorem de_La_998 : decode code 998 = .ok (.invokevirtual 126, 3) := by decide +kernel
theorem de_La_1001 : decode code 1001 = .ok (.if_icmp .eq 183, 3) := by decide +kernel
theorem de_La_1006 : decode code 1006 = .ok (.aload_n 1, 1) := by decide +kernel
theorem de_La_1007 : decode code 1007 = .ok (.aload_n 0, 1) := by decide +kernel
theorem de_La_1008 : decode code 1008 = .ok (.iload_n 3, 1) := by decide +kernel
theorem de_La_1009 : decode code 1009 = .ok (.iconst 1, 1) := by decide +kernel
theorem de_La_1010 : decode code 1010 = .ok (.iadd, 1) := by decide +kernel
theorem de_La_1011 : decode code 1011 = .ok (.iaload, 1) := by decide +kernel
theorem de_La_1012 : decode code 1012 = .ok (.aload_n 0, 1) := by decide +kernel
theorem de_La_1013 : decode code 1013 = .ok (.iload_n 3, 1) := by decide +kernel
theorem de_La_1014 : decode code 1014 = .ok (.iconst 2, 1) := by decide +kernel
theorem de_La_1015 : decode code 1015 = .ok (.iadd, 1) := by decide +kernel
theorem de_La_1016 : decode code 1016 = .ok (.iaload, 1) := by decide +kernel
theorem de_La_1017 : decode code 1017 = .ok (.invokevirtual 127, 3) := by decide +kernel
theorem de_La_1020 : decode code 1020 = .ok (.aload_n 2, 1) := by decide +kernel
theorem de_La_1021 : decode code 1021 = .ok (.aload_n 0, 1) := by decide +kernel
theorem de_La_1022 : decode code 1022 = .ok (.iload_n 3, 1) := by decide +kernel
theorem de_La_1023 : decode code 1023 = .ok (.iconst 1, 1) := by decide +kernel
theorem de_La_1024 : decode code 1024 = .ok (.iadd, 1) := by decide +kernel
theorem de_La_1025 : decode code 1025 = .ok (.iaload, 1) := by decide +kernel
theorem de_La_1026 : decode code 1026 = .ok (.aload_n 0, 1) := by decide +kernel
theorem de_La_1027 : decode code 1027 = .ok (.iload_n 3, 1) := by decide +kernel
theorem de_La_1028 : decode code 1028 = .ok (.iconst 2, 1) := by decide +kernel
theorem de_La_1029 : decode code 1029 = .ok (.iadd, 1) := by decide +kernel
theorem de_La_1030 : decode code 1030 = .ok (.iaload, 1) := by decide +kernel
theorem de_La_1031 : decode code 1031 = .ok (.invokevirtual 130, 3) := by decide +kernel
theorem de_La_1034 : decode code 1034 = .ok (.if_icmp .eq 150, 3) := by decide +kernel
theorem de_La_1039 : decode code 1039 = .ok (.aload_n 1, 1) := by decide +kernel
theorem de_La_1040 : decode code 1040 = .ok (.aload_n 0, 1) := by decide +kernel
theorem de_La_1041 : decode code 1041 = .ok (.iload_n 3, 1) := by decide +kernel
theorem de_La_1042 : decode code 1042 = .ok (.iconst 1, 1) := by decide +kernel
theorem de_La_1043 : decode code 1043 = .ok (.iadd, 1) := by decide +kernel
theorem de_La_1044 : decode code 1044 = .ok (.iaload, 1) := by decide +kernel
theorem de_La_1045 : decode code 1045 = .ok (.invokevirtual 131, 3) := by decide +kernel
theorem de_La_1048 : decode code 1048 = .ok (.aload_n 2, 1) := by decide +kernel
theorem de_La_1049 : decode code 1049 = .ok (.aload_n 0, 1) := by decide +kernel
theorem de_La_1050 : decode code 1050 = .ok (.iload_n 3, 1) := by decide +kernel
theorem de_La_1051 : decode code 1051 = .ok (.iconst 1, 1) := by decide +kernel
theorem de_La_1052 : decode code 1052 = .ok (.iadd, 1) := by decide +kernel
theorem de_La_1053 : decode code 1053 = .ok (.iaload, 1) := by decide +kernel
theorem de_La_1054 : decode code 1054 = .ok (.invokevirtual 134, 3) := by decide +kernel
theorem de_La_1057 : decode code 1057 = .ok (.if_icmp .eq 127, 3) := by decide +kernel
theorem de_La_1062 : decode code 1062 = .ok (.aload_n 1, 1) := by decide +kernel
theorem de_La_1063 : decode code 1063 = .ok (.aload_n 0, 1) := by decide +kernel
theorem de_La_1064 : decode code 1064 = .ok (.iload_n 3, 1) := by decide +kernel
theorem de_La_1065 : decode code 1065 = .ok (.iconst 1, 1) := by decide +kernel
theorem de_La_1066 : decode code 1066 = .ok (.iadd, 1) := by decide +kernel
theorem de_La_1067 : decode code 1067 = .ok (.iaload, 1) := by decide +kernel
theorem de_La_1068 : decode code 1068 = .ok (.aload_n 0, 1) := by decide +kernel
theorem de_La_1069 : decode code 1069 = .ok (.iload_n 3, 1) := by decide +kernel
theorem de_La_1070 : decode code 1070 = .ok (.iconst 2, 1) := by decide +kernel
theorem de_La_1071 : decode code 1071 = .ok (.iadd, 1) := by decide +kernel
theorem de_La_1072 : decode code 1072 = .ok (.iaload, 1) := by decide +kernel
theorem de_La_1073 : decode code 1073 = .ok (.aload_n 0, 1) := by decide +kernel
theorem de_La_1074 : decode code 1074 = .ok (.iload_n 3, 1) := by decide +kernel
theorem de_La_1075 : decode code 1075 = .ok (.iconst 3, 1) := by decide +kernel
theorem de_La_1076 : decode code 1076 = .ok (.iadd, 1) := by decide +kernel
theorem de_La_1077 : decode code 1077 = .ok (.iaload, 1) := by decide +kernel
theorem de_La_1078 : decode code 1078 = .ok (.aload_n 0, 1) := by decide +kernel
theorem de_La_1079 : decode code 1079 = .ok (.iload_n 3, 1) := by decide +kernel
theorem de_La_1080 : decode code 1080 = .ok (.iconst 4, 1) := by decide +kernel
theorem de_La_1081 : decode code 1081 = .ok (.iadd, 1) := by decide +kernel
theorem de_La_1082 : decode code 1082 = .ok (.iaload, 1) := by decide +kernel
theorem de_La_1083 : decode code 1083 = .ok (.invokevirtual 135, 3) := by decide +kernel
theorem de_La_1086 : decode code 1086 = .ok (.aload_n 2, 1) := by decide +kernel
theorem de_La_1087 : decode code 1087 = .ok (.aload_n 0, 1) := by decide +kernel
theorem de_La_1088 : decode code 1088 = .ok (.iload_n 3, 1) := by decide +kernel
theorem de_La_1089 : decode code 1089 = .ok (.iconst 1, 1) := by decide +kernel
theorem de_La_1090 : decode code 1090 = .ok (.iadd, 1) := by decide +kernel
theorem de_La_1091 : decode code 1091 = .ok (.iaload, 1) := by decide +kernel
theorem de_La_1092 : decode code 1092 = .ok (.aload_n 0, 1) := by decide +kernel
theorem de_La_1093 : decode code 1093 = .ok (.iload_n 3, 1) := by decide +kernel
theorem de_La_1094 : decode code 1094 = .ok (.iconst 2, 1) := by decide +kernel
theorem de_La_1095 : decode code 1095 = .ok (.iadd, 1) := by decide +kernel
theorem de_La_1096 : decode code 1096 = .ok (.iaload, 1) := by decide +kernel
theorem de_La_1097 : decode code 1097 = .ok (.aload_n 0, 1) := by decide +kernel
theorem de_La_1098 : decode code 1098 = .ok (.iload_n 3, 1) := by decide +kernel
theorem de_La_1099 : decode code 1099 = .ok (.iconst 3, 1) := by decide +kernel
theorem de_La_1100 : decode code 1100 = .ok (.iadd, 1) := by decide +kernel
theorem de_La_1101 : decode code 1101 = .ok (.iaload, 1) := by decide +kernel
theorem de_La_1102 : decode code 1102 = .ok (.aload_n 0, 1) := by decide +kernel
theorem de_La_1103 : decode code 1103 = .ok (.iload_n 3, 1) := by decide +kernel
theorem de_La_1104 : decode code 1104 = .ok (.iconst 4, 1) := by decide +kernel
theorem de_La_1105 : decode code 1105 = .ok (.iadd, 1) := by decide +kernel
theorem de_La_1106 : decode code 1106 = .ok (.iaload, 1) := by decide +kernel
theorem de_La_1107 : decode code 1107 = .ok (.invokevirtual 138, 3) := by decide +kernel
theorem de_La_1110 : decode code 1110 = .ok (.if_icmp .eq 74, 3) := by decide +kernel
theorem de_La_1115 : decode code 1115 = .ok (.aload_n 1, 1) := by decide +kernel
theorem de_La_1116 : decode code 1116 = .ok (.aload_n 0, 1) := by decide +kernel
theorem de_La_1117 : decode code 1117 = .ok (.iload_n 3, 1) := by decide +kernel
theorem de_La_1118 : decode code 1118 = .ok (.iconst 1, 1) := by decide +kernel
theorem de_La_1119 : decode code 1119 = .ok (.iadd, 1) := by decide +kernel
theorem de_La_1120 : decode code 1120 = .ok (.iaload, 1) := by decide +kernel
theorem de_La_1121 : decode code 1121 = .ok (.invokevirtual 139, 3) := by decide +kernel
theorem de_La_1124 : decode code 1124 = .ok (.aload_n 2, 1) := by decide +kernel
theorem de_La_1125 : decode code 1125 = .ok (.aload_n 0, 1) := by decide +kernel
theorem de_La_1126 : decode code 1126 = .ok (.iload_n 3, 1) := by decide +kernel
theorem de_La_1127 : decode code 1127 = .ok (.iconst 1, 1) := by decide +kernel
theorem de_La_1128 : decode code 1128 = .ok (.iadd, 1) := by decide +kernel
theorem de_La_1129 : decode code 1129 = .ok (.iaload, 1) := by decide +kernel
theorem de_La_1130 : decode code 1130 = .ok (.invokevirtual 142, 3) := by decide +kernel
theorem de_La_1133 : decode code 1133 = .ok (.if_icmp .eq 51, 3) := by decide +kernel
theorem de_La_1138 : decode code 1138 = .ok (.aload_n 1, 1) := by decide +kernel
theorem de_La_1139 : decode code 1139 = .ok (.aload_n 0, 1) := by decide +kernel
theorem de_La_1140 : decode code 1140 = .ok (.iload_n 3, 1) := by decide +kernel
theorem de_La_1141 : decode code 1141 = .ok (.iconst 1, 1) := by decide +kernel
theorem de_La_1142 : decode code 1142 = .ok (.iadd, 1) := by decide +kernel
theorem de_La_1143 : decode code 1143 = .ok (.iaload, 1) := by decide +kernel
theorem de_La_1144 : decode code 1144 = .ok (.invokevirtual 143, 3) := by decide +kernel
theorem de_La_1147 : decode code 1147 = .ok (.aload_n 2, 1) := by decide +kernel
theorem de_La_1148 : decode code 1148 = .ok (.aload_n 0, 1) := by decide +kernel
theorem de_La_1149 : decode code 1149 = .ok (.iload_n 3, 1) := by decide +kernel
theorem de_La_1150 : decode code 1150 = .ok (.iconst 1, 1) := by decide +kernel
theorem de_La_1151 : decode code 1151 = .ok (.iadd, 1) := by decide +kernel
theorem de_La_1152 : decode code 1152 = .ok (.iaload, 1) := by decide +kernel
theorem de_La_1153 : decode code 1153 = .ok (.invokevirtual 146, 3) := by decide +kernel
theorem de_La_1156 : decode code 1156 = .ok (.if_icmp .eq 28, 3) := by decide +kernel
theorem de_La_1161 : decode code 1161 = .ok (.aload_n 1, 1) := by decide +kernel
theorem de_La_1162 : decode code 1162 = .ok (.aload_n 0, 1) := by decide +kernel
theorem de_La_1163 : decode code 1163 = .ok (.iload_n 3, 1) := by decide +kernel
theorem de_La_1164 : decode code 1164 = .ok (.iconst 1, 1) := by decide +kernel
theorem de_La_1165 : decode code 1165 = .ok (.iadd, 1) := by decide +kernel
theorem de_La_1166 : decode code 1166 = .ok (.iaload, 1) := by decide +kernel
theorem de_La_1167 : decode code 1167 = .ok (.invokevirtual 147, 3) := by decide +kernel
theorem de_La_1170 : decode code 1170 = .ok (.aload_n 2, 1) := by decide +kernel
theorem de_La_1171 : decode code 1171 = .ok (.aload_n 0, 1) := by decide +kernel
theorem de_La_1172 : decode code 1172 = .ok (.iload_n 3, 1) := by decide +kernel
theorem de_La_1173 : decode code 1173 = .ok (.iconst 1, 1) := by decide +kernel
theorem de_La_1174 : decode code 1174 = .ok (.iadd, 1) := by decide +kernel
theorem de_La_1175 : decode code 1175 = .ok (.iaload, 1) := by decide +kernel
theorem de_La_1176 : decode code 1176 = .ok (.invokevirtual 150, 3) := by decide +kernel
theorem de_La_1179 : decode code 1179 = .ok (.if_icmp .eq 5, 3) := by decide +kernel
theorem de_La_1184 : decode code 1184 = .ok (.iinc 3 6, 3) := by decide +kernel
theorem de_La_1187 : decode code 1187 = .ok (.goto (-1169), 3) := by decide +kernel
theorem de_La_1190 : decode code 1190 = .ok (.iconst 1, 1) := by decide +kernel
theorem de_La_1191 : decode code 1191 = .ok (.ireturn, 1) := by decide +kernel
