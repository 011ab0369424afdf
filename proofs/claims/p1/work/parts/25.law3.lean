theorem dL_law_960 : decode cL_law 960 = .ok (.aload_n 1, 1) := by decide +kernel
theorem dL_law_961 : decode cL_law 961 = .ok (.aload_n 0, 1) := by decide +kernel
theorem dL_law_962 : decode cL_law 962 = .ok (.iload_n 3, 1) := by decide +kernel
theorem dL_law_963 : decode cL_law 963 = .ok (.iconst 1, 1) := by decide +kernel
theorem dL_law_964 : decode cL_law 964 = .ok (.iadd, 1) := by decide +kernel
theorem dL_law_965 : decode cL_law 965 = .ok (.iaload, 1) := by decide +kernel
theorem dL_law_966 : decode cL_law 966 = .ok (.aload_n 0, 1) := by decide +kernel
theorem dL_law_967 : decode cL_law 967 = .ok (.iload_n 3, 1) := by decide +kernel
theorem dL_law_968 : decode cL_law 968 = .ok (.iconst 2, 1) := by decide +kernel
theorem dL_law_969 : decode cL_law 969 = .ok (.iadd, 1) := by decide +kernel
theorem dL_law_970 : decode cL_law 970 = .ok (.iaload, 1) := by decide +kernel
theorem dL_law_971 : decode cL_law 971 = .ok (.aload_n 0, 1) := by decide +kernel
theorem dL_law_972 : decode cL_law 972 = .ok (.iload_n 3, 1) := by decide +kernel
theorem dL_law_973 : decode cL_law 973 = .ok (.iconst 3, 1) := by decide +kernel
theorem dL_law_974 : decode cL_law 974 = .ok (.iadd, 1) := by decide +kernel
theorem dL_law_975 : decode cL_law 975 = .ok (.iaload, 1) := by decide +kernel
theorem dL_law_976 : decode cL_law 976 = .ok (.invokevirtual 106, 3) := by decide +kernel
theorem dL_law_979 : decode cL_law 979 = .ok (.aload_n 2, 1) := by decide +kernel
theorem dL_law_980 : decode cL_law 980 = .ok (.aload_n 0, 1) := by decide +kernel
theorem dL_law_981 : decode cL_law 981 = .ok (.iload_n 3, 1) := by decide +kernel
theorem dL_law_982 : decode cL_law 982 = .ok (.iconst 1, 1) := by decide +kernel
theorem dL_law_983 : decode cL_law 983 = .ok (.iadd, 1) := by decide +kernel
theorem dL_law_984 : decode cL_law 984 = .ok (.iaload, 1) := by decide +kernel
theorem dL_law_985 : decode cL_law 985 = .ok (.aload_n 0, 1) := by decide +kernel
theorem dL_law_986 : decode cL_law 986 = .ok (.iload_n 3, 1) := by decide +kernel
theorem dL_law_987 : decode cL_law 987 = .ok (.iconst 2, 1) := by decide +kernel
theorem dL_law_988 : decode cL_law 988 = .ok (.iadd, 1) := by decide +kernel
theorem dL_law_989 : decode cL_law 989 = .ok (.iaload, 1) := by decide +kernel
theorem dL_law_990 : decode cL_law 990 = .ok (.aload_n 0, 1) := by decide +kernel
theorem dL_law_991 : decode cL_law 991 = .ok (.iload_n 3, 1) := by decide +kernel
theorem dL_law_992 : decode cL_law 992 = .ok (.iconst 3, 1) := by decide +kernel
theorem dL_law_993 : decode cL_law 993 = .ok (.iadd, 1) := by decide +kernel
theorem dL_law_994 : decode cL_law 994 = .ok (.iaload, 1) := by decide +kernel
theorem dL_law_995 : decode cL_law 995 = .ok (.invokevirtual 110, 3) := by decide +kernel
theorem dL_law_998 : decode cL_law 998 = .ok (.lcmp, 1) := by decide +kernel
theorem dL_law_999 : decode cL_law 999 = .ok (.ifCond .eq 951, 3) := by decide +kernel
theorem dL_law_1004 : decode cL_law 1004 = .ok (.aload_n 1, 1) := by decide +kernel
theorem dL_law_1005 : decode cL_law 1005 = .ok (.aload_n 0, 1) := by decide +kernel
theorem dL_law_1006 : decode cL_law 1006 = .ok (.iload_n 3, 1) := by decide +kernel
theorem dL_law_1007 : decode cL_law 1007 = .ok (.iconst 1, 1) := by decide +kernel
theorem dL_law_1008 : decode cL_law 1008 = .ok (.iadd, 1) := by decide +kernel
theorem dL_law_1009 : decode cL_law 1009 = .ok (.iaload, 1) := by decide +kernel
theorem dL_law_1010 : decode cL_law 1010 = .ok (.aload_n 0, 1) := by decide +kernel
theorem dL_law_1011 : decode cL_law 1011 = .ok (.iload_n 3, 1) := by decide +kernel
theorem dL_law_1012 : decode cL_law 1012 = .ok (.iconst 2, 1) := by decide +kernel
theorem dL_law_1013 : decode cL_law 1013 = .ok (.iadd, 1) := by decide +kernel
theorem dL_law_1014 : decode cL_law 1014 = .ok (.iaload, 1) := by decide +kernel
theorem dL_law_1015 : decode cL_law 1015 = .ok (.invokevirtual 111, 3) := by decide +kernel
theorem dL_law_1018 : decode cL_law 1018 = .ok (.aload_n 2, 1) := by decide +kernel
theorem dL_law_1019 : decode cL_law 1019 = .ok (.aload_n 0, 1) := by decide +kernel
theorem dL_law_1020 : decode cL_law 1020 = .ok (.iload_n 3, 1) := by decide +kernel
theorem dL_law_1021 : decode cL_law 1021 = .ok (.iconst 1, 1) := by decide +kernel
theorem dL_law_1022 : decode cL_law 1022 = .ok (.iadd, 1) := by decide +kernel
theorem dL_law_1023 : decode cL_law 1023 = .ok (.iaload, 1) := by decide +kernel
theorem dL_law_1024 : decode cL_law 1024 = .ok (.aload_n 0, 1) := by decide +kernel
theorem dL_law_1025 : decode cL_law 1025 = .ok (.iload_n 3, 1) := by decide +kernel
theorem dL_law_1026 : decode cL_law 1026 = .ok (.iconst 2, 1) := by decide +kernel
theorem dL_law_1027 : decode cL_law 1027 = .ok (.iadd, 1) := by decide +kernel
theorem dL_law_1028 : decode cL_law 1028 = .ok (.iaload, 1) := by decide +kernel
theorem dL_law_1029 : decode cL_law 1029 = .ok (.invokevirtual 114, 3) := by decide +kernel
theorem dL_law_1032 : decode cL_law 1032 = .ok (.if_icmp .eq 918, 3) := by decide +kernel
theorem dL_law_1037 : decode cL_law 1037 = .ok (.aload_n 1, 1) := by decide +kernel
theorem dL_law_1038 : decode cL_law 1038 = .ok (.aload_n 0, 1) := by decide +kernel
theorem dL_law_1039 : decode cL_law 1039 = .ok (.iload_n 3, 1) := by decide +kernel
theorem dL_law_1040 : decode cL_law 1040 = .ok (.iconst 1, 1) := by decide +kernel
theorem dL_law_1041 : decode cL_law 1041 = .ok (.iadd, 1) := by decide +kernel
theorem dL_law_1042 : decode cL_law 1042 = .ok (.iaload, 1) := by decide +kernel
theorem dL_law_1043 : decode cL_law 1043 = .ok (.aload_n 0, 1) := by decide +kernel
theorem dL_law_1044 : decode cL_law 1044 = .ok (.iload_n 3, 1) := by decide +kernel
theorem dL_law_1045 : decode cL_law 1045 = .ok (.iconst 2, 1) := by decide +kernel
theorem dL_law_1046 : decode cL_law 1046 = .ok (.iadd, 1) := by decide +kernel
theorem dL_law_1047 : decode cL_law 1047 = .ok (.iaload, 1) := by decide +kernel
theorem dL_law_1048 : decode cL_law 1048 = .ok (.invokevirtual 115, 3) := by decide +kernel
theorem dL_law_1051 : decode cL_law 1051 = .ok (.aload_n 2, 1) := by decide +kernel
theorem dL_law_1052 : decode cL_law 1052 = .ok (.aload_n 0, 1) := by decide +kernel
theorem dL_law_1053 : decode cL_law 1053 = .ok (.iload_n 3, 1) := by decide +kernel
theorem dL_law_1054 : decode cL_law 1054 = .ok (.iconst 1, 1) := by decide +kernel
theorem dL_law_1055 : decode cL_law 1055 = .ok (.iadd, 1) := by decide +kernel
theorem dL_law_1056 : decode cL_law 1056 = .ok (.iaload, 1) := by decide +kernel
theorem dL_law_1057 : decode cL_law 1057 = .ok (.aload_n 0, 1) := by decide +kernel
theorem dL_law_1058 : decode cL_law 1058 = .ok (.iload_n 3, 1) := by decide +kernel
theorem dL_law_1059 : decode cL_law 1059 = .ok (.iconst 2, 1) := by decide +kernel
theorem dL_law_1060 : decode cL_law 1060 = .ok (.iadd, 1) := by decide +kernel
theorem dL_law_1061 : decode cL_law 1061 = .ok (.iaload, 1) := by decide +kernel
theorem dL_law_1062 : decode cL_law 1062 = .ok (.invokevirtual 118, 3) := by decide +kernel
theorem dL_law_1065 : decode cL_law 1065 = .ok (.if_icmp .eq 885, 3) := by decide +kernel
theorem dL_law_1070 : decode cL_law 1070 = .ok (.aload_n 1, 1) := by decide +kernel
theorem dL_law_1071 : decode cL_law 1071 = .ok (.aload_n 0, 1) := by decide +kernel
theorem dL_law_1072 : decode cL_law 1072 = .ok (.iload_n 3, 1) := by decide +kernel
theorem dL_law_1073 : decode cL_law 1073 = .ok (.iconst 1, 1) := by decide +kernel
theorem dL_law_1074 : decode cL_law 1074 = .ok (.iadd, 1) := by decide +kernel
theorem dL_law_1075 : decode cL_law 1075 = .ok (.iaload, 1) := by decide +kernel
theorem dL_law_1076 : decode cL_law 1076 = .ok (.aload_n 0, 1) := by decide +kernel
theorem dL_law_1077 : decode cL_law 1077 = .ok (.iload_n 3, 1) := by decide +kernel
theorem dL_law_1078 : decode cL_law 1078 = .ok (.iconst 2, 1) := by decide +kernel
theorem dL_law_1079 : decode cL_law 1079 = .ok (.iadd, 1) := by decide +kernel
theorem dL_law_1080 : decode cL_law 1080 = .ok (.iaload, 1) := by decide +kernel
theorem dL_law_1081 : decode cL_law 1081 = .ok (.aload_n 0, 1) := by decide +kernel
theorem dL_law_1082 : decode cL_law 1082 = .ok (.iload_n 3, 1) := by decide +kernel
theorem dL_law_1083 : decode cL_law 1083 = .ok (.iconst 3, 1) := by decide +kernel
theorem dL_law_1084 : decode cL_law 1084 = .ok (.iadd, 1) := by decide +kernel
theorem dL_law_1085 : decode cL_law 1085 = .ok (.iaload, 1) := by decide +kernel
theorem dL_law_1086 : decode cL_law 1086 = .ok (.invokevirtual 119, 3) := by decide +kernel
theorem dL_law_1089 : decode cL_law 1089 = .ok (.aload_n 2, 1) := by decide +kernel
theorem dL_law_1090 : decode cL_law 1090 = .ok (.aload_n 0, 1) := by decide +kernel
theorem dL_law_1091 : decode cL_law 1091 = .ok (.iload_n 3, 1) := by decide +kernel
theorem dL_law_1092 : decode cL_law 1092 = .ok (.iconst 1, 1) := by decide +kernel
theorem dL_law_1093 : decode cL_law 1093 = .ok (.iadd, 1) := by decide +kernel
theorem dL_law_1094 : decode cL_law 1094 = .ok (.iaload, 1) := by decide +kernel
theorem dL_law_1095 : decode cL_law 1095 = .ok (.aload_n 0, 1) := by decide +kernel
theorem dL_law_1096 : decode cL_law 1096 = .ok (.iload_n 3, 1) := by decide +kernel
theorem dL_law_1097 : decode cL_law 1097 = .ok (.iconst 2, 1) := by decide +kernel
theorem dL_law_1098 : decode cL_law 1098 = .ok (.iadd, 1) := by decide +kernel
theorem dL_law_1099 : decode cL_law 1099 = .ok (.iaload, 1) := by decide +kernel
theorem dL_law_1100 : decode cL_law 1100 = .ok (.aload_n 0, 1) := by decide +kernel
theorem dL_law_1101 : decode cL_law 1101 = .ok (.iload_n 3, 1) := by decide +kernel
theorem dL_law_1102 : decode cL_law 1102 = .ok (.iconst 3, 1) := by decide +kernel
theorem dL_law_1103 : decode cL_law 1103 = .ok (.iadd, 1) := by decide +kernel
theorem dL_law_1104 : decode cL_law 1104 = .ok (.iaload, 1) := by decide +kernel
theorem dL_law_1105 : decode cL_law 1105 = .ok (.invokevirtual 122, 3) := by decide +kernel
theorem dL_law_1108 : decode cL_law 1108 = .ok (.if_icmp .eq 842, 3) := by decide +kernel
theorem dL_law_1113 : decode cL_law 1113 = .ok (.aload_n 1, 1) := by decide +kernel
theorem dL_law_1114 : decode cL_law 1114 = .ok (.aload_n 0, 1) := by decide +kernel
theorem dL_law_1115 : decode cL_law 1115 = .ok (.iload_n 3, 1) := by decide +kernel
theorem dL_law_1116 : decode cL_law 1116 = .ok (.iconst 1, 1) := by decide +kernel
theorem dL_law_1117 : decode cL_law 1117 = .ok (.iadd, 1) := by decide +kernel
theorem dL_law_1118 : decode cL_law 1118 = .ok (.iaload, 1) := by decide +kernel
theorem dL_law_1119 : decode cL_law 1119 = .ok (.invokevirtual 123, 3) := by decide +kernel
theorem dL_law_1122 : decode cL_law 1122 = .ok (.aload_n 2, 1) := by decide +kernel
theorem dL_law_1123 : decode cL_law 1123 = .ok (.aload_n 0, 1) := by decide +kernel
theorem dL_law_1124 : decode cL_law 1124 = .ok (.iload_n 3, 1) := by decide +kernel
theorem dL_law_1125 : decode cL_law 1125 = .ok (.iconst 1, 1) := by decide +kernel
theorem dL_law_1126 : decode cL_law 1126 = .ok (.iadd, 1) := by decide +kernel
theorem dL_law_1127 : decode cL_law 1127 = .ok (.iaload, 1) := by decide +kernel
theorem dL_law_1128 : decode cL_law 1128 = .ok (.invokevirtual 126, 3) := by decide +kernel
theorem dL_law_1131 : decode cL_law 1131 = .ok (.if_icmp .eq 819, 3) := by decide +kernel
theorem dL_law_1136 : decode cL_law 1136 = .ok (.aload_n 1, 1) := by decide +kernel
theorem dL_law_1137 : decode cL_law 1137 = .ok (.aload_n 0, 1) := by decide +kernel
theorem dL_law_1138 : decode cL_law 1138 = .ok (.iload_n 3, 1) := by decide +kernel
theorem dL_law_1139 : decode cL_law 1139 = .ok (.iconst 1, 1) := by decide +kernel
theorem dL_law_1140 : decode cL_law 1140 = .ok (.iadd, 1) := by decide +kernel
theorem dL_law_1141 : decode cL_law 1141 = .ok (.iaload, 1) := by decide +kernel
theorem dL_law_1142 : decode cL_law 1142 = .ok (.invokevirtual 127, 3) := by decide +kernel
theorem dL_law_1145 : decode cL_law 1145 = .ok (.aload_n 2, 1) := by decide +kernel
theorem dL_law_1146 : decode cL_law 1146 = .ok (.aload_n 0, 1) := by decide +kernel
theorem dL_law_1147 : decode cL_law 1147 = .ok (.iload_n 3, 1) := by decide +kernel
theorem dL_law_1148 : decode cL_law 1148 = .ok (.iconst 1, 1) := by decide +kernel
theorem dL_law_1149 : decode cL_law 1149 = .ok (.iadd, 1) := by decide +kernel
theorem dL_law_1150 : decode cL_law 1150 = .ok (.iaload, 1) := by decide +kernel
theorem dL_law_1151 : decode cL_law 1151 = .ok (.invokevirtual 130, 3) := by decide +kernel
theorem dL_law_1154 : decode cL_law 1154 = .ok (.if_icmp .eq 796, 3) := by decide +kernel
theorem dL_law_1159 : decode cL_law 1159 = .ok (.aload_n 1, 1) := by decide +kernel
theorem dL_law_1160 : decode cL_law 1160 = .ok (.aload_n 0, 1) := by decide +kernel
theorem dL_law_1161 : decode cL_law 1161 = .ok (.iload_n 3, 1) := by decide +kernel
theorem dL_law_1162 : decode cL_law 1162 = .ok (.iconst 1, 1) := by decide +kernel
theorem dL_law_1163 : decode cL_law 1163 = .ok (.iadd, 1) := by decide +kernel
theorem dL_law_1164 : decode cL_law 1164 = .ok (.iaload, 1) := by decide +kernel
theorem dL_law_1165 : decode cL_law 1165 = .ok (.invokevirtual 131, 3) := by decide +kernel
theorem dL_law_1168 : decode cL_law 1168 = .ok (.aload_n 2, 1) := by decide +kernel
theorem dL_law_1169 : decode cL_law 1169 = .ok (.aload_n 0, 1) := by decide +kernel
theorem dL_law_1170 : decode cL_law 1170 = .ok (.iload_n 3, 1) := by decide +kernel
theorem dL_law_1171 : decode cL_law 1171 = .ok (.iconst 1, 1) := by decide +kernel
theorem dL_law_1172 : decode cL_law 1172 = .ok (.iadd, 1) := by decide +kernel
theorem dL_law_1173 : decode cL_law 1173 = .ok (.iaload, 1) := by decide +kernel
theorem dL_law_1174 : decode cL_law 1174 = .ok (.invokevirtual 134, 3) := by decide +kernel
theorem dL_law_1177 : decode cL_law 1177 = .ok (.if_icmp .eq 773, 3) := by decide +kernel
theorem dL_law_1182 : decode cL_law 1182 = .ok (.aload_n 1, 1) := by decide +kernel
theorem dL_law_1183 : decode cL_law 1183 = .ok (.aload_n 0, 1) := by decide +kernel
theorem dL_law_1184 : decode cL_law 1184 = .ok (.iload_n 3, 1) := by decide +kernel
theorem dL_law_1185 : decode cL_law 1185 = .ok (.iconst 1, 1) := by decide +kernel
theorem dL_law_1186 : decode cL_law 1186 = .ok (.iadd, 1) := by decide +kernel
theorem dL_law_1187 : decode cL_law 1187 = .ok (.iaload, 1) := by decide +kernel
theorem dL_law_1188 : decode cL_law 1188 = .ok (.aload_n 0, 1) := by decide +kernel
theorem dL_law_1189 : decode cL_law 1189 = .ok (.iload_n 3, 1) := by decide +kernel
theorem dL_law_1190 : decode cL_law 1190 = .ok (.iconst 2, 1) := by decide +kernel
theorem dL_law_1191 : decode cL_law 1191 = .ok (.iadd, 1) := by decide +kernel
theorem dL_law_1192 : decode cL_law 1192 = .ok (.iaload, 1) := by decide +kernel
theorem dL_law_1193 : decode cL_law 1193 = .ok (.invokevirtual 135, 3) := by decide +kernel
theorem dL_law_1196 : decode cL_law 1196 = .ok (.aload_n 2, 1) := by decide +kernel
theorem dL_law_1197 : decode cL_law 1197 = .ok (.aload_n 0, 1) := by decide +kernel
theorem dL_law_1198 : decode cL_law 1198 = .ok (.iload_n 3, 1) := by decide +kernel
theorem dL_law_1199 : decode cL_law 1199 = .ok (.iconst 1, 1) := by decide +kernel
theorem dL_law_1200 : decode cL_law 1200 = .ok (.iadd, 1) := by decide +kernel
theorem dL_law_1201 : decode cL_law 1201 = .ok (.iaload, 1) := by decide +kernel
theorem dL_law_1202 : decode cL_law 1202 = .ok (.aload_n 0, 1) := by decide +kernel
theorem dL_law_1203 : decode cL_law 1203 = .ok (.iload_n 3, 1) := by decide +kernel
theorem dL_law_1204 : decode cL_law 1204 = .ok (.iconst 2, 1) := by decide +kernel
theorem dL_law_1205 : decode cL_law 1205 = .ok (.iadd, 1) := by decide +kernel
theorem dL_law_1206 : decode cL_law 1206 = .ok (.iaload, 1) := by decide +kernel
theorem dL_law_1207 : decode cL_law 1207 = .ok (.invokevirtual 138, 3) := by decide +kernel
theorem dL_law_1210 : decode cL_law 1210 = .ok (.if_icmp .eq 740, 3) := by decide +kernel
theorem dL_law_1215 : decode cL_law 1215 = .ok (.aload_n 1, 1) := by decide +kernel
theorem dL_law_1216 : decode cL_law 1216 = .ok (.aload_n 0, 1) := by decide +kernel
theorem dL_law_1217 : decode cL_law 1217 = .ok (.iload_n 3, 1) := by decide +kernel
theorem dL_law_1218 : decode cL_law 1218 = .ok (.iconst 1, 1) := by decide +kernel
theorem dL_law_1219 : decode cL_law 1219 = .ok (.iadd, 1) := by decide +kernel
theorem dL_law_1220 : decode cL_law 1220 = .ok (.iaload, 1) := by decide +kernel
theorem dL_law_1221 : decode cL_law 1221 = .ok (.aload_n 0, 1) := by decide +kernel
theorem dL_law_1222 : decode cL_law 1222 = .ok (.iload_n 3, 1) := by decide +kernel
theorem dL_law_1223 : decode cL_law 1223 = .ok (.iconst 2, 1) := by decide +kernel
theorem dL_law_1224 : decode cL_law 1224 = .ok (.iadd, 1) := by decide +kernel
theorem dL_law_1225 : decode cL_law 1225 = .ok (.iaload, 1) := by decide +kernel
theorem dL_law_1226 : decode cL_law 1226 = .ok (.aload_n 0, 1) := by decide +kernel
theorem dL_law_1227 : decode cL_law 1227 = .ok (.iload_n 3, 1) := by decide +kernel
theorem dL_law_1228 : decode cL_law 1228 = .ok (.iconst 3, 1) := by decide +kernel
theorem dL_law_1229 : decode cL_law 1229 = .ok (.iadd, 1) := by decide +kernel
theorem dL_law_1230 : decode cL_law 1230 = .ok (.iaload, 1) := by decide +kernel
theorem dL_law_1231 : decode cL_law 1231 = .ok (.invokevirtual 139, 3) := by decide +kernel
theorem dL_law_1234 : decode cL_law 1234 = .ok (.aload_n 2, 1) := by decide +kernel
theorem dL_law_1235 : decode cL_law 1235 = .ok (.aload_n 0, 1) := by decide +kernel
theorem dL_law_1236 : decode cL_law 1236 = .ok (.iload_n 3, 1) := by decide +kernel
theorem dL_law_1237 : decode cL_law 1237 = .ok (.iconst 1, 1) := by decide +kernel
theorem dL_law_1238 : decode cL_law 1238 = .ok (.iadd, 1) := by decide +kernel
theorem dL_law_1239 : decode cL_law 1239 = .ok (.iaload, 1) := by decide +kernel
theorem dL_law_1240 : decode cL_law 1240 = .ok (.aload_n 0, 1) := by decide +kernel
theorem dL_law_1241 : decode cL_law 1241 = .ok (.iload_n 3, 1) := by decide +kernel
theorem dL_law_1242 : decode cL_law 1242 = .ok (.iconst 2, 1) := by decide +kernel
theorem dL_law_1243 : decode cL_law 1243 = .ok (.iadd, 1) := by decide +kernel
theorem dL_law_1244 : decode cL_law 1244 = .ok (.iaload, 1) := by decide +kernel
theorem dL_law_1245 : decode cL_law 1245 = .ok (.aload_n 0, 1) := by decide +kernel
theorem dL_law_1246 : decode cL_law 1246 = .ok (.iload_n 3, 1) := by decide +kernel
theorem dL_law_1247 : decode cL_law 1247 = .ok (.iconst 3, 1) := by decide +kernel
theorem dL_law_1248 : decode cL_law 1248 = .ok (.iadd, 1) := by decide +kernel
theorem dL_law_1249 : decode cL_law 1249 = .ok (.iaload, 1) := by decide +kernel
theorem dL_law_1250 : decode cL_law 1250 = .ok (.invokevirtual 142, 3) := by decide +kernel
theorem dL_law_1253 : decode cL_law 1253 = .ok (.if_icmp .eq 697, 3) := by decide +kernel
theorem dL_law_1258 : decode cL_law 1258 = .ok (.aload_n 1, 1) := by decide +kernel
theorem dL_law_1259 : decode cL_law 1259 = .ok (.aload_n 0, 1) := by decide +kernel
theorem dL_law_1260 : decode cL_law 1260 = .ok (.iload_n 3, 1) := by decide +kernel
theorem dL_law_1261 : decode cL_law 1261 = .ok (.iconst 1, 1) := by decide +kernel
theorem dL_law_1262 : decode cL_law 1262 = .ok (.iadd, 1) := by decide +kernel
theorem dL_law_1263 : decode cL_law 1263 = .ok (.iaload, 1) := by decide +kernel
theorem dL_law_1264 : decode cL_law 1264 = .ok (.aload_n 0, 1) := by decide +kernel
theorem dL_law_1265 : decode cL_law 1265 = .ok (.iload_n 3, 1) := by decide +kernel
theorem dL_law_1266 : decode cL_law 1266 = .ok (.iconst 2, 1) := by decide +kernel
theorem dL_law_1267 : decode cL_law 1267 = .ok (.iadd, 1) := by decide +kernel
theorem dL_law_1268 : decode cL_law 1268 = .ok (.iaload, 1) := by decide +kernel
theorem dL_law_1269 : decode cL_law 1269 = .ok (.aload_n 0, 1) := by decide +kernel
theorem dL_law_1270 : decode cL_law 1270 = .ok (.iload_n 3, 1) := by decide +kernel
theorem dL_law_1271 : decode cL_law 1271 = .ok (.iconst 3, 1) := by decide +kernel
theorem dL_law_1272 : decode cL_law 1272 = .ok (.iadd, 1) := by decide +kernel
theorem dL_law_1273 : decode cL_law 1273 = .ok (.iaload, 1) := by decide +kernel
theorem dL_law_1274 : decode cL_law 1274 = .ok (.aload_n 0, 1) := by decide +kernel
theorem dL_law_1275 : decode cL_law 1275 = .ok (.iload_n 3, 1) := by decide +kernel
theorem dL_law_1276 : decode cL_law 1276 = .ok (.iconst 4, 1) := by decide +kernel
theorem dL_law_1277 : decode cL_law 1277 = .ok (.iadd, 1) := by decide +kernel
theorem dL_law_1278 : decode cL_law 1278 = .ok (.iaload, 1) := by decide +kernel
theorem dL_law_1279 : decode cL_law 1279 = .ok (.invokevirtual 143, 3) := by decide +kernel
theorem dL_law_1282 : decode cL_law 1282 = .ok (.aload_n 2, 1) := by decide +kernel
theorem dL_law_1283 : decode cL_law 1283 = .ok (.aload_n 0, 1) := by decide +kernel
theorem dL_law_1284 : decode cL_law 1284 = .ok (.iload_n 3, 1) := by decide +kernel
theorem dL_law_1285 : decode cL_law 1285 = .ok (.iconst 1, 1) := by decide +kernel
theorem dL_law_1286 : decode cL_law 1286 = .ok (.iadd, 1) := by decide +kernel
theorem dL_law_1287 : decode cL_law 1287 = .ok (.iaload, 1) := by decide +kernel
theorem dL_law_1288 : decode cL_law 1288 = .ok (.aload_n 0, 1) := by decide +kernel
theorem dL_law_1289 : decode cL_law 1289 = .ok (.iload_n 3, 1) := by decide +kernel
theorem dL_law_1290 : decode cL_law 1290 = .ok (.iconst 2, 1) := by decide +kernel
theorem dL_law_1291 : decode cL_law 1291 = .ok (.iadd, 1) := by decide +kernel
theorem dL_law_1292 : decode cL_law 1292 = .ok (.iaload, 1) := by decide +kernel
theorem dL_law_1293 : decode cL_law 1293 = .ok (.aload_n 0, 1) := by decide +kernel
theorem dL_law_1294 : decode cL_law 1294 = .ok (.iload_n 3, 1) := by decide +kernel
theorem dL_law_1295 : decode cL_law 1295 = .ok (.iconst 3, 1) := by decide +kernel
theorem dL_law_1296 : decode cL_law 1296 = .ok (.iadd, 1) := by decide +kernel
theorem dL_law_1297 : decode cL_law 1297 = .ok (.iaload, 1) := by decide +kernel
theorem dL_law_1298 : decode cL_law 1298 = .ok (.aload_n 0, 1) := by decide +kernel
theorem dL_law_1299 : decode cL_law 1299 = .ok (.iload_n 3, 1) := by decide +kernel
theorem dL_law_1300 : decode cL_law 1300 = .ok (.iconst 4, 1) := by decide +kernel
theorem dL_law_1301 : decode cL_law 1301 = .ok (.iadd, 1) := by decide +kernel
theorem dL_law_1302 : decode cL_law 1302 = .ok (.iaload, 1) := by decide +kernel
theorem dL_law_1303 : decode cL_law 1303 = .ok (.invokevirtual 147, 3) := by decide +kernel
theorem dL_law_1306 : decode cL_law 1306 = .ok (.if_icmp .eq 644, 3) := by decide +kernel
theorem dL_law_1311 : decode cL_law 1311 = .ok (.aload_n 1, 1) := by decide +kernel
theorem dL_law_1312 : decode cL_law 1312 = .ok (.aload_n 0, 1) := by decide +kernel
theorem dL_law_1313 : decode cL_law 1313 = .ok (.iload_n 3, 1) := by decide +kernel
theorem dL_law_1314 : decode cL_law 1314 = .ok (.iconst 1, 1) := by decide +kernel
theorem dL_law_1315 : decode cL_law 1315 = .ok (.iadd, 1) := by decide +kernel
theorem dL_law_1316 : decode cL_law 1316 = .ok (.iaload, 1) := by decide +kernel
theorem dL_law_1317 : decode cL_law 1317 = .ok (.aload_n 0, 1) := by decide +kernel
theorem dL_law_1318 : decode cL_law 1318 = .ok (.iload_n 3, 1) := by decide +kernel
theorem dL_law_1319 : decode cL_law 1319 = .ok (.iconst 2, 1) := by decide +kernel
theorem dL_law_1320 : decode cL_law 1320 = .ok (.iadd, 1) := by decide +kernel
theorem dL_law_1321 : decode cL_law 1321 = .ok (.iaload, 1) := by decide +kernel
theorem dL_law_1322 : decode cL_law 1322 = .ok (.aload_n 0, 1) := by decide +kernel
theorem dL_law_1323 : decode cL_law 1323 = .ok (.iload_n 3, 1) := by decide +kernel
theorem dL_law_1324 : decode cL_law 1324 = .ok (.iconst 3, 1) := by decide +kernel
theorem dL_law_1325 : decode cL_law 1325 = .ok (.iadd, 1) := by decide +kernel
theorem dL_law_1326 : decode cL_law 1326 = .ok (.iaload, 1) := by decide +kernel
theorem dL_law_1327 : decode cL_law 1327 = .ok (.invokevirtual 148, 3) := by decide +kernel
theorem dL_law_1330 : decode cL_law 1330 = .ok (.aload_n 2, 1) := by decide +kernel
theorem dL_law_1331 : decode cL_law 1331 = .ok (.aload_n 0, 1) := by decide +kernel
theorem dL_law_1332 : decode cL_law 1332 = .ok (.iload_n 3, 1) := by decide +kernel
theorem dL_law_1333 : decode cL_law 1333 = .ok (.iconst 1, 1) := by decide +kernel
theorem dL_law_1334 : decode cL_law 1334 = .ok (.iadd, 1) := by decide +kernel
theorem dL_law_1335 : decode cL_law 1335 = .ok (.iaload, 1) := by decide +kernel
theorem dL_law_1336 : decode cL_law 1336 = .ok (.aload_n 0, 1) := by decide +kernel
theorem dL_law_1337 : decode cL_law 1337 = .ok (.iload_n 3, 1) := by decide +kernel
theorem dL_law_1338 : decode cL_law 1338 = .ok (.iconst 2, 1) := by decide +kernel
theorem dL_law_1339 : decode cL_law 1339 = .ok (.iadd, 1) := by decide +kernel
theorem dL_law_1340 : decode cL_law 1340 = .ok (.iaload, 1) := by decide +kernel
theorem dL_law_1341 : decode cL_law 1341 = .ok (.aload_n 0, 1) := by decide +kernel
theorem dL_law_1342 : decode cL_law 1342 = .ok (.iload_n 3, 1) := by decide +kernel
theorem dL_law_1343 : decode cL_law 1343 = .ok (.iconst 3, 1) := by decide +kernel
theorem dL_law_1344 : decode cL_law 1344 = .ok (.iadd, 1) := by decide +kernel
theorem dL_law_1345 : decode cL_law 1345 = .ok (.iaload, 1) := by decide +kernel
theorem dL_law_1346 : decode cL_law 1346 = .ok (.invokevirtual 151, 3) := by decide +kernel
theorem dL_law_1349 : decode cL_law 1349 = .ok (.if_icmp .eq 601, 3) := by decide +kernel
set_option maxRecDepth 100000 in
theorem pq882 : Cond.methodLink RL 106 yX6_row ∈ pw := pw_mem (i := 882) (by decide +kernel) rfl
set_option maxRecDepth 100000 in
theorem pq883 : Cond.instanceMethod yX6_row ∈ pw := pw_mem (i := 883) (by decide +kernel) rfl
set_option maxRecDepth 100000 in
theorem pq884 : Cond.selects RX6 yX6_row yX6_row ∈ pw := pw_mem (i := 884) (by decide +kernel) rfl
set_option maxRecDepth 100000 in
theorem pq885 : Cond.code yX6_row cX6_row 4 (some .long) ∈ pw := pw_mem (i := 885) (by rfl) rfl
set_option maxRecDepth 100000 in
theorem pq958 : Cond.methodLink RL 111 yX6_body ∈ pw := pw_mem (i := 958) (by decide +kernel) rfl
set_option maxRecDepth 100000 in
theorem pq959 : Cond.instanceMethod yX6_body ∈ pw := pw_mem (i := 959) (by decide +kernel) rfl
set_option maxRecDepth 100000 in
theorem pq960 : Cond.selects RX6 yX6_body yX6_body ∈ pw := pw_mem (i := 960) (by decide +kernel) rfl
set_option maxRecDepth 100000 in
theorem pq961 : Cond.code yX6_body cX6_body 3 (some .int) ∈ pw := pw_mem (i := 961) (by rfl) rfl
set_option maxRecDepth 100000 in
theorem pq966 : Cond.methodLink RL 115 yX6_common ∈ pw := pw_mem (i := 966) (by decide +kernel) rfl
set_option maxRecDepth 100000 in
theorem pq967 : Cond.instanceMethod yX6_common ∈ pw := pw_mem (i := 967) (by decide +kernel) rfl
set_option maxRecDepth 100000 in
theorem pq968 : Cond.selects RX6 yX6_common yX6_common ∈ pw := pw_mem (i := 968) (by decide +kernel) rfl
set_option maxRecDepth 100000 in
theorem pq969 : Cond.code yX6_common cX6_common 3 (some .int) ∈ pw := pw_mem (i := 969) (by rfl) rfl
set_option maxRecDepth 100000 in
theorem pq981 : Cond.methodLink RL 119 yX6_meet ∈ pw := pw_mem (i := 981) (by decide +kernel) rfl
set_option maxRecDepth 100000 in
theorem pq982 : Cond.instanceMethod yX6_meet ∈ pw := pw_mem (i := 982) (by decide +kernel) rfl
set_option maxRecDepth 100000 in
theorem pq983 : Cond.selects RX6 yX6_meet yX6_meet ∈ pw := pw_mem (i := 983) (by decide +kernel) rfl
set_option maxRecDepth 100000 in
theorem pq984 : Cond.code yX6_meet cX6_meet 4 (some .int) ∈ pw := pw_mem (i := 984) (by rfl) rfl
set_option maxRecDepth 100000 in
theorem pq993 : Cond.methodLink RL 123 yX6_contact ∈ pw := pw_mem (i := 993) (by decide +kernel) rfl
set_option maxRecDepth 100000 in
theorem pq994 : Cond.instanceMethod yX6_contact ∈ pw := pw_mem (i := 994) (by decide +kernel) rfl
set_option maxRecDepth 100000 in
theorem pq995 : Cond.selects RX6 yX6_contact yX6_contact ∈ pw := pw_mem (i := 995) (by decide +kernel) rfl
set_option maxRecDepth 100000 in
theorem pq996 : Cond.code yX6_contact cX6_contact 5 (some .int) ∈ pw := pw_mem (i := 996) (by rfl) rfl
set_option maxRecDepth 100000 in
theorem pq998 : Cond.methodLink RL 127 yX6_sieve ∈ pw := pw_mem (i := 998) (by decide +kernel) rfl
set_option maxRecDepth 100000 in
theorem pq999 : Cond.instanceMethod yX6_sieve ∈ pw := pw_mem (i := 999) (by decide +kernel) rfl
set_option maxRecDepth 100000 in
theorem pq1000 : Cond.selects RX6 yX6_sieve yX6_sieve ∈ pw := pw_mem (i := 1000) (by decide +kernel) rfl
set_option maxRecDepth 100000 in
theorem pq1001 : Cond.code yX6_sieve cX6_sieve 5 (some .int) ∈ pw := pw_mem (i := 1001) (by rfl) rfl
set_option maxRecDepth 100000 in
theorem pq1011 : Cond.methodLink RL 131 yX6_touching ∈ pw := pw_mem (i := 1011) (by decide +kernel) rfl
set_option maxRecDepth 100000 in
theorem pq1012 : Cond.instanceMethod yX6_touching ∈ pw := pw_mem (i := 1012) (by decide +kernel) rfl
set_option maxRecDepth 100000 in
theorem pq1013 : Cond.selects RX6 yX6_touching yX6_touching ∈ pw := pw_mem (i := 1013) (by decide +kernel) rfl
set_option maxRecDepth 100000 in
theorem pq1014 : Cond.code yX6_touching cX6_touching 4 (some .int) ∈ pw := pw_mem (i := 1014) (by rfl) rfl
set_option maxRecDepth 100000 in
theorem pq1015 : Cond.methodLink RL 135 yX6_at ∈ pw := pw_mem (i := 1015) (by decide +kernel) rfl
set_option maxRecDepth 100000 in
theorem pq1016 : Cond.instanceMethod yX6_at ∈ pw := pw_mem (i := 1016) (by decide +kernel) rfl
set_option maxRecDepth 100000 in
theorem pq1017 : Cond.selects RX6 yX6_at yX6_at ∈ pw := pw_mem (i := 1017) (by decide +kernel) rfl
set_option maxRecDepth 100000 in
theorem pq1018 : Cond.code yX6_at cX6_at 5 (some .int) ∈ pw := pw_mem (i := 1018) (by rfl) rfl
set_option maxRecDepth 100000 in
theorem pq1024 : Cond.methodLink RL 139 yX6_first ∈ pw := pw_mem (i := 1024) (by decide +kernel) rfl
set_option maxRecDepth 100000 in
theorem pq1025 : Cond.instanceMethod yX6_first ∈ pw := pw_mem (i := 1025) (by decide +kernel) rfl
set_option maxRecDepth 100000 in
theorem pq1026 : Cond.selects RX6 yX6_first yX6_first ∈ pw := pw_mem (i := 1026) (by decide +kernel) rfl
set_option maxRecDepth 100000 in
theorem pq1027 : Cond.code yX6_first cX6_first 6 (some .int) ∈ pw := pw_mem (i := 1027) (by rfl) rfl
set_option maxRecDepth 100000 in
theorem pq1032 : Cond.methodLink RL 143 yX6_reach ∈ pw := pw_mem (i := 1032) (by decide +kernel) rfl
set_option maxRecDepth 100000 in
theorem pq1033 : Cond.instanceMethod yX6_reach ∈ pw := pw_mem (i := 1033) (by decide +kernel) rfl
set_option maxRecDepth 100000 in
theorem pq1034 : Cond.selects RX6 yX6_reach yX6_reach ∈ pw := pw_mem (i := 1034) (by decide +kernel) rfl
set_option maxRecDepth 100000 in
theorem pq1035 : Cond.code yX6_reach cX6_reach 5 (some .int) ∈ pw := pw_mem (i := 1035) (by rfl) rfl
set_option maxRecDepth 100000 in
theorem pq1036 : Cond.methodLink RL 148 yX6_gap ∈ pw := pw_mem (i := 1036) (by decide +kernel) rfl
set_option maxRecDepth 100000 in
theorem pq1037 : Cond.instanceMethod yX6_gap ∈ pw := pw_mem (i := 1037) (by decide +kernel) rfl
set_option maxRecDepth 100000 in
theorem pq1038 : Cond.selects RX6 yX6_gap yX6_gap ∈ pw := pw_mem (i := 1038) (by decide +kernel) rfl
set_option maxRecDepth 100000 in
theorem pq1039 : Cond.code yX6_gap cX6_gap 4 (some .int) ∈ pw := pw_mem (i := 1039) (by rfl) rfl
set_option maxRecDepth 100000 in
theorem pq1558 : Cond.methodLink RL 110 yX7_row ∈ pw := pw_mem (i := 1558) (by decide +kernel) rfl
set_option maxRecDepth 100000 in
theorem pq1559 : Cond.instanceMethod yX7_row ∈ pw := pw_mem (i := 1559) (by decide +kernel) rfl
set_option maxRecDepth 100000 in
theorem pq1560 : Cond.selects RX7 yX7_row yX7_row ∈ pw := pw_mem (i := 1560) (by decide +kernel) rfl
set_option maxRecDepth 100000 in
theorem pq1561 : Cond.code yX7_row cX7_row 4 (some .long) ∈ pw := pw_mem (i := 1561) (by rfl) rfl
set_option maxRecDepth 100000 in
theorem pq1562 : Cond.methodLink RL 114 yX7_body ∈ pw := pw_mem (i := 1562) (by decide +kernel) rfl
set_option maxRecDepth 100000 in
theorem pq1563 : Cond.instanceMethod yX7_body ∈ pw := pw_mem (i := 1563) (by decide +kernel) rfl
set_option maxRecDepth 100000 in
theorem pq1564 : Cond.selects RX7 yX7_body yX7_body ∈ pw := pw_mem (i := 1564) (by decide +kernel) rfl
set_option maxRecDepth 100000 in
theorem pq1565 : Cond.code yX7_body cX7_body 3 (some .int) ∈ pw := pw_mem (i := 1565) (by rfl) rfl
set_option maxRecDepth 100000 in
theorem pq1567 : Cond.methodLink RL 118 yX7_common ∈ pw := pw_mem (i := 1567) (by decide +kernel) rfl
set_option maxRecDepth 100000 in
theorem pq1568 : Cond.instanceMethod yX7_common ∈ pw := pw_mem (i := 1568) (by decide +kernel) rfl
set_option maxRecDepth 100000 in
theorem pq1569 : Cond.selects RX7 yX7_common yX7_common ∈ pw := pw_mem (i := 1569) (by decide +kernel) rfl
set_option maxRecDepth 100000 in
theorem pq1570 : Cond.code yX7_common cX7_common 3 (some .int) ∈ pw := pw_mem (i := 1570) (by rfl) rfl
set_option maxRecDepth 100000 in
theorem pq1579 : Cond.methodLink RL 122 yX7_meet ∈ pw := pw_mem (i := 1579) (by decide +kernel) rfl
set_option maxRecDepth 100000 in
theorem pq1580 : Cond.instanceMethod yX7_meet ∈ pw := pw_mem (i := 1580) (by decide +kernel) rfl
set_option maxRecDepth 100000 in
theorem pq1581 : Cond.selects RX7 yX7_meet yX7_meet ∈ pw := pw_mem (i := 1581) (by decide +kernel) rfl
set_option maxRecDepth 100000 in
theorem pq1582 : Cond.code yX7_meet cX7_meet 6 (some .int) ∈ pw := pw_mem (i := 1582) (by rfl) rfl
set_option maxRecDepth 100000 in
theorem pq1587 : Cond.methodLink RL 126 yX7_contact ∈ pw := pw_mem (i := 1587) (by decide +kernel) rfl
set_option maxRecDepth 100000 in
theorem pq1588 : Cond.instanceMethod yX7_contact ∈ pw := pw_mem (i := 1588) (by decide +kernel) rfl
set_option maxRecDepth 100000 in
theorem pq1589 : Cond.selects RX7 yX7_contact yX7_contact ∈ pw := pw_mem (i := 1589) (by decide +kernel) rfl
set_option maxRecDepth 100000 in
theorem pq1590 : Cond.code yX7_contact cX7_contact 5 (some .int) ∈ pw := pw_mem (i := 1590) (by rfl) rfl
set_option maxRecDepth 100000 in
theorem pq1591 : Cond.methodLink RL 130 yX7_sieve ∈ pw := pw_mem (i := 1591) (by decide +kernel) rfl
set_option maxRecDepth 100000 in
theorem pq1592 : Cond.instanceMethod yX7_sieve ∈ pw := pw_mem (i := 1592) (by decide +kernel) rfl
set_option maxRecDepth 100000 in
theorem pq1593 : Cond.selects RX7 yX7_sieve yX7_sieve ∈ pw := pw_mem (i := 1593) (by decide +kernel) rfl
set_option maxRecDepth 100000 in
theorem pq1594 : Cond.code yX7_sieve cX7_sieve 5 (some .int) ∈ pw := pw_mem (i := 1594) (by rfl) rfl
set_option maxRecDepth 100000 in
theorem pq1604 : Cond.methodLink RL 134 yX7_touching ∈ pw := pw_mem (i := 1604) (by decide +kernel) rfl
set_option maxRecDepth 100000 in
theorem pq1605 : Cond.instanceMethod yX7_touching ∈ pw := pw_mem (i := 1605) (by decide +kernel) rfl
set_option maxRecDepth 100000 in
theorem pq1606 : Cond.selects RX7 yX7_touching yX7_touching ∈ pw := pw_mem (i := 1606) (by decide +kernel) rfl
set_option maxRecDepth 100000 in
theorem pq1607 : Cond.code yX7_touching cX7_touching 2 (some .int) ∈ pw := pw_mem (i := 1607) (by rfl) rfl
set_option maxRecDepth 100000 in
theorem pq1608 : Cond.methodLink RL 138 yX7_at ∈ pw := pw_mem (i := 1608) (by decide +kernel) rfl
set_option maxRecDepth 100000 in
theorem pq1609 : Cond.instanceMethod yX7_at ∈ pw := pw_mem (i := 1609) (by decide +kernel) rfl
set_option maxRecDepth 100000 in
theorem pq1610 : Cond.selects RX7 yX7_at yX7_at ∈ pw := pw_mem (i := 1610) (by decide +kernel) rfl
set_option maxRecDepth 100000 in
theorem pq1611 : Cond.code yX7_at cX7_at 3 (some .int) ∈ pw := pw_mem (i := 1611) (by rfl) rfl
set_option maxRecDepth 100000 in
theorem pq1616 : Cond.methodLink RL 142 yX7_first ∈ pw := pw_mem (i := 1616) (by decide +kernel) rfl
set_option maxRecDepth 100000 in
theorem pq1617 : Cond.instanceMethod yX7_first ∈ pw := pw_mem (i := 1617) (by decide +kernel) rfl
set_option maxRecDepth 100000 in
theorem pq1618 : Cond.selects RX7 yX7_first yX7_first ∈ pw := pw_mem (i := 1618) (by decide +kernel) rfl
set_option maxRecDepth 100000 in
theorem pq1619 : Cond.code yX7_first cX7_first 7 (some .int) ∈ pw := pw_mem (i := 1619) (by rfl) rfl
set_option maxRecDepth 100000 in
theorem pq1621 : Cond.methodLink RL 147 yX7_reach ∈ pw := pw_mem (i := 1621) (by decide +kernel) rfl
set_option maxRecDepth 100000 in
theorem pq1622 : Cond.instanceMethod yX7_reach ∈ pw := pw_mem (i := 1622) (by decide +kernel) rfl
set_option maxRecDepth 100000 in
theorem pq1623 : Cond.selects RX7 yX7_reach yX7_reach ∈ pw := pw_mem (i := 1623) (by decide +kernel) rfl
set_option maxRecDepth 100000 in
theorem pq1624 : Cond.code yX7_reach cX7_reach 6 (some .int) ∈ pw := pw_mem (i := 1624) (by rfl) rfl
set_option maxRecDepth 100000 in
theorem pq1625 : Cond.methodLink RL 151 yX7_gap ∈ pw := pw_mem (i := 1625) (by decide +kernel) rfl
set_option maxRecDepth 100000 in
theorem pq1626 : Cond.instanceMethod yX7_gap ∈ pw := pw_mem (i := 1626) (by decide +kernel) rfl
set_option maxRecDepth 100000 in
theorem pq1627 : Cond.selects RX7 yX7_gap yX7_gap ∈ pw := pw_mem (i := 1627) (by decide +kernel) rfl
set_option maxRecDepth 100000 in
theorem pq1628 : Cond.code yX7_gap cX7_gap 5 (some .int) ∈ pw := pw_mem (i := 1628) (by rfl) rfl
set_option maxHeartbeats 4000000 in
set_option maxRecDepth 100000 in
theorem lw_case22 {p : Program} {e : Env} {s : State} {m : MethodId} {below : List Frame} {meth : Method} {c : Code} (l : Launch) {b : Nat} {xs : Nat → Int32} {dC : Nat → ClassId} {dI : Nat → Nat → Nat} (C0 : lw_At p s m meth c b 6 xs) {x0 tp nw dr rd sc sk fl ps sh nm nb dm db ss m0 mnw mhd mas mps msf mdt mhdd masd mpsd msfd mkp mtp mld mmd men mil mqu mbx : Nat} {kB kF kG kI kI2 kI3 kI4 kI5 kJ kJ2 kJ3 kJ4 kJ5 kZ kY : ClassId} {H : Heap} {locs : List Loc} {ls : Array Slot} (hK : va_K (dC, dI) vwCl [(kB, .byte), (kF, .object RX1), (kG, .object RX1), (kI, .int), (kI2, .int), (kI3, .int), (kI4, .int), (kI5, .int), (kJ, .long), (kJ2, .long), (kJ3, .long), (kJ4, .long), (kJ5, .long), (kZ, .boolean), (kY, .byte)] s) (hP : va_P (dC, dI) vwCl [(x0, .inr (6, [.ref tp, .int 0, .ref nw, .ref dr, .ref rd, .ref sc, .ref sk, .ref fl, .ref ps, .int 0, .int 0, .ref sh])), (tp, .inl (kB, 400, .inl (fun _ => 0))), (nw, .inr (1, [.ref nm, .ref nb, .int 0, .int 0, .int 0])), (dr, .inr (1, [.ref dm, .ref db, .int 0, .int 0, .int 0])), (rd, .inr (4, [.ref tp, .int 0, .int 0, .int 0, .int 0, .int 0])), (sc, .inr (5, [.ref nw, .ref ss, .int 0, .int (-1), .int 0, .int 0, .int 0, .int 0, .int 0])), (ps, .inl (kF, 10, .inr (.inr (.inr (.inr (fun _ => none)))))), (sh, .inl (kG, 2, .inr (.inr (.inr (.inr (fun _ => none)))))), (m0, .inr (7, [.ref mnw, .ref mhd, .ref mas, .ref mps, .ref msf, .ref mdt, .ref mhdd, .ref masd, .ref mpsd, .ref msfd, .ref mkp, .int 0, .ref mtp, .int 0, .int 0, .int 0, .int 0, .ref mld, .int 0, .ref mmd, .ref men, .ref mil, .ref mqu, .int 0, .int 0, .ref mbx])), (mnw, .inl (kI, 99, .inl (fun _ => 0))), (mhd, .inl (kI2, 99, .inl (fun _ => 0))), (mas, .inl (kI3, 99, .inl (fun _ => 0))), (mps, .inl (kI4, 990, .inl (fun _ => 0))), (msf, .inl (kI5, 198, .inl (fun _ => 0))), (mdt, .inl (kJ, 640, .inr (.inl (fun _ => 0)))), (mhdd, .inl (kJ2, 640, .inr (.inl (fun _ => 0)))), (masd, .inl (kJ3, 640, .inr (.inl (fun _ => 0)))), (mpsd, .inl (kJ4, 6400, .inr (.inl (fun _ => 0)))), (msfd, .inl (kJ5, 1280, .inr (.inl (fun _ => 0)))), (mkp, .inl (kZ, 2, .inl (fun _ => 0))), (mtp, .inl (kY, 400, .inl (fun _ => 0)))] H) (hD : va_D (fun q : Nat => s.heap.size ≤ q) [(x0, .inr (6, [.ref tp, .int 0, .ref nw, .ref dr, .ref rd, .ref sc, .ref sk, .ref fl, .ref ps, .int 0, .int 0, .ref sh])), (tp, .inl (kB, 400, .inl (fun _ => 0))), (nw, .inr (1, [.ref nm, .ref nb, .int 0, .int 0, .int 0])), (dr, .inr (1, [.ref dm, .ref db, .int 0, .int 0, .int 0])), (rd, .inr (4, [.ref tp, .int 0, .int 0, .int 0, .int 0, .int 0])), (sc, .inr (5, [.ref nw, .ref ss, .int 0, .int (-1), .int 0, .int 0, .int 0, .int 0, .int 0])), (ps, .inl (kF, 10, .inr (.inr (.inr (.inr (fun _ => none)))))), (sh, .inl (kG, 2, .inr (.inr (.inr (.inr (fun _ => none)))))), (m0, .inr (7, [.ref mnw, .ref mhd, .ref mas, .ref mps, .ref msf, .ref mdt, .ref mhdd, .ref masd, .ref mpsd, .ref msfd, .ref mkp, .int 0, .ref mtp, .int 0, .int 0, .int 0, .int 0, .ref mld, .int 0, .ref mmd, .ref men, .ref mil, .ref mqu, .int 0, .int 0, .ref mbx])), (mnw, .inl (kI, 99, .inl (fun _ => 0))), (mhd, .inl (kI2, 99, .inl (fun _ => 0))), (mas, .inl (kI3, 99, .inl (fun _ => 0))), (mps, .inl (kI4, 990, .inl (fun _ => 0))), (msf, .inl (kI5, 198, .inl (fun _ => 0))), (mdt, .inl (kJ, 640, .inr (.inl (fun _ => 0)))), (mhdd, .inl (kJ2, 640, .inr (.inl (fun _ => 0)))), (masd, .inl (kJ3, 640, .inr (.inl (fun _ => 0)))), (mpsd, .inl (kJ4, 6400, .inr (.inl (fun _ => 0)))), (msfd, .inl (kJ5, 1280, .inr (.inl (fun _ => 0)))), (mkp, .inl (kZ, 2, .inl (fun _ => 0))), (mtp, .inl (kY, 400, .inl (fun _ => 0)))]) (hS : va_S (fun q : Nat => s.heap.size ≤ q) s.heap H locs) (hl : lv_has ls 4 [(3, .int 0), (2, .ref m0), (1, .ref x0), (0, .ref b)]) : W p l e room_1 s m #[Value.ref b] below meth c H locs 110 27528 (lw_Z below #[Value.ref b] s) (F0 m 960 ls []) := by
  obtain ⟨hx, hb, hr, hml, hown, htl, hX, hbl, hlocks, hgv⟩ := id C0
  have hb : c.code = cL_law := hb
  have hown : s.vm.findClass RL = some m.cls := hown
  have hts : ∀ w ∈ pw, w.before #[Value.ref b] s = true := fun w h => htl w (pw_tbl h)
  have hN : xN s := xN_of htl
  have hA : ∀ q : Nat, s.heap.size ≤ q → (fun q : Nat => s.heap.size ≤ q) q := fun _ h => h
  have hbA : ¬ (fun q : Nat => s.heap.size ≤ q) b := Nat.not_le.mpr hbl
  refine lv_aload_n hx hb dL_law_960 rfl (lv_at hl 2 rfl) ?_
  refine lv_aload_n hx hb dL_law_961 rfl (lv_at hl 3 rfl) ?_
  refine lv_iload_n hx hb dL_law_962 rfl (lv_at hl 0 rfl) ?_
  refine lv_iconst (v := 1) hx hb dL_law_963 (by decide +kernel) ?_
  refine lv_iadd hx hb dL_law_964 ?_
  refine lv_topi (fun z1 ez1 => ?_)
  obtain rfl : z1 = 1 := ez1.trans (by decide +kernel)
  refine va_sld hx hb hX hbl hbA hS (in_d (by decide +kernel)) dL_law_965 ?_
  refine lv_aload_n hx hb dL_law_966 rfl (lv_at hl 3 rfl) ?_
  refine lv_iload_n hx hb dL_law_967 rfl (lv_at hl 0 rfl) ?_
  refine lv_iconst (v := 2) hx hb dL_law_968 (by decide +kernel) ?_
  refine lv_iadd hx hb dL_law_969 ?_
  refine lv_topi (fun z2 ez2 => ?_)
  obtain rfl : z2 = 2 := ez2.trans (by decide +kernel)
  refine va_sld hx hb hX hbl hbA hS (in_d (by decide +kernel)) dL_law_970 ?_
  refine lv_aload_n hx hb dL_law_971 rfl (lv_at hl 3 rfl) ?_
  refine lv_iload_n hx hb dL_law_972 rfl (lv_at hl 0 rfl) ?_
  refine lv_iconst (v := 3) hx hb dL_law_973 (by decide +kernel) ?_
  refine lv_iadd hx hb dL_law_974 ?_
  refine lv_topi (fun z3 ez3 => ?_)
  obtain rfl : z3 = 3 := ez3.trans (by decide +kernel)
  refine va_sld hx hb hX hbl hbA hS (in_d (by decide +kernel)) dL_law_975 ?_
  have hPc := hP.sub (ws' := [(x0, .inr (6, [.ref tp, .int 0, .ref nw, .ref dr, .ref rd, .ref sc, .ref sk, .ref fl, .ref ps, .int 0, .int 0, .ref sh])), (nw, .inr (1, [.ref nm, .ref nb, .int 0, .int 0, .int 0]))]) [0, 2] rfl
  have hDc := hD.sub (ws' := [(x0, .inr (6, [.ref tp, .int 0, .ref nw, .ref dr, .ref rd, .ref sc, .ref sk, .ref fl, .ref ps, .int 0, .int 0, .ref sh])), (nw, .inr (1, [.ref nm, .ref nb, .int 0, .int 0, .int 0]))]) [0, 2] (by decide) rfl
  have hKc := hK.sub (tys' := []) [] rfl
  refine ro_l (va_runV (As := [.int (xs (1 : Int32).toNatClampNeg), .int (xs (2 : Int32).toNatClampNeg), .int (xs (3 : Int32).toNatClampNeg)]) (rest := []) ⟨hx, hb, hml, hown, hts⟩ (c_X6_row l dC dI x0 tp nw dr rd sc sk fl ps sh nm nb H.size (xs (1 : Int32).toNatClampNeg) (xs (2 : Int32).toNatClampNeg) (xs (3 : Int32).toNatClampNeg) ) (cwV 3 hts (gV pq882 pq883 pq884 pq74 pq885) rfl rfl rfl (by decide +kernel) ⟨(Nat.le_of_ble_eq_true rfl), (Nat.le_of_ble_eq_true rfl)⟩) (pc_V hPc hDc hKc hN (va_recv hK hP (ci := 6) (q0 := 0) rfl rfl)) rfl rfl hl.1 rfl (lv_room (Nat.le_of_ble_eq_true rfl)) dL_law_976 ⟨(Nat.le_of_ble_eq_true rfl), (Nat.le_of_ble_eq_true rfl)⟩) hS hP (fun r4 H locs hr4 hP hS => ?_)
  subst hr4
  refine lv_aload_n hx hb dL_law_979 rfl (lv_at hl 1 rfl) ?_
  refine lv_aload_n hx hb dL_law_980 rfl (lv_at hl 3 rfl) ?_
  refine lv_iload_n hx hb dL_law_981 rfl (lv_at hl 0 rfl) ?_
  refine lv_iconst (v := 1) hx hb dL_law_982 (by decide +kernel) ?_
  refine lv_iadd hx hb dL_law_983 ?_
  refine lv_topi (fun z5 ez5 => ?_)
  obtain rfl : z5 = 1 := ez5.trans (by decide +kernel)
  refine va_sld hx hb hX hbl hbA hS (in_d (by decide +kernel)) dL_law_984 ?_
  refine lv_aload_n hx hb dL_law_985 rfl (lv_at hl 3 rfl) ?_
  refine lv_iload_n hx hb dL_law_986 rfl (lv_at hl 0 rfl) ?_
  refine lv_iconst (v := 2) hx hb dL_law_987 (by decide +kernel) ?_
  refine lv_iadd hx hb dL_law_988 ?_
  refine lv_topi (fun z6 ez6 => ?_)
  obtain rfl : z6 = 2 := ez6.trans (by decide +kernel)
  refine va_sld hx hb hX hbl hbA hS (in_d (by decide +kernel)) dL_law_989 ?_
  refine lv_aload_n hx hb dL_law_990 rfl (lv_at hl 3 rfl) ?_
  refine lv_iload_n hx hb dL_law_991 rfl (lv_at hl 0 rfl) ?_
  refine lv_iconst (v := 3) hx hb dL_law_992 (by decide +kernel) ?_
  refine lv_iadd hx hb dL_law_993 ?_
  refine lv_topi (fun z7 ez7 => ?_)
  obtain rfl : z7 = 3 := ez7.trans (by decide +kernel)
  refine va_sld hx hb hX hbl hbA hS (in_d (by decide +kernel)) dL_law_994 ?_
  have hPc := hP.sub (ws' := [(m0, .inr (7, [.ref mnw, .ref mhd, .ref mas, .ref mps, .ref msf, .ref mdt, .ref mhdd, .ref masd, .ref mpsd, .ref msfd, .ref mkp, .int 0, .ref mtp, .int 0, .int 0, .int 0, .int 0, .ref mld, .int 0, .ref mmd, .ref men, .ref mil, .ref mqu, .int 0, .int 0, .ref mbx])), (mnw, .inl (kI, 99, .inl (fun _ => 0)))]) [8, 9] rfl
  have hDc := hD.sub (ws' := [(m0, .inr (7, [.ref mnw, .ref mhd, .ref mas, .ref mps, .ref msf, .ref mdt, .ref mhdd, .ref masd, .ref mpsd, .ref msfd, .ref mkp, .int 0, .ref mtp, .int 0, .int 0, .int 0, .int 0, .ref mld, .int 0, .ref mmd, .ref men, .ref mil, .ref mqu, .int 0, .int 0, .ref mbx])), (mnw, .inl (kI, 99, .inl (fun _ => 0)))]) [8, 9] (by decide) rfl
  have hKc := hK.sub (tys' := [(kI, .int)]) [3] rfl
  refine ro_l (va_runV (As := [.int (xs (1 : Int32).toNatClampNeg), .int (xs (2 : Int32).toNatClampNeg), .int (xs (3 : Int32).toNatClampNeg)]) (rest := [.long 0]) ⟨hx, hb, hml, hown, hts⟩ (c_X7_row l dC dI m0 mnw mhd mas mps msf mdt mhdd masd mpsd msfd mkp mtp mld mmd men mil mqu mbx kI H.size (xs (1 : Int32).toNatClampNeg) (xs (2 : Int32).toNatClampNeg) (xs (3 : Int32).toNatClampNeg) ) (cwV 3 hts (gV pq1558 pq1559 pq1560 pq81 pq1561) rfl rfl rfl (by decide +kernel) ⟨(Nat.le_of_ble_eq_true rfl), (Nat.le_of_ble_eq_true rfl)⟩) (pc_V hPc hDc hKc hN (va_recv hK hP (ci := 7) (q0 := 8) rfl rfl)) rfl rfl hl.1 rfl (lv_room (Nat.le_of_ble_eq_true rfl)) dL_law_995 ⟨(Nat.le_of_ble_eq_true rfl), (Nat.le_of_ble_eq_true rfl)⟩) hS hP (fun r8 H locs hr8 hP hS => ?_)
  subst hr8
  refine W.lcmp hx hb dL_law_998 ?_
  refine lv_topi (fun z9 ez9 => ?_)
  obtain rfl : z9 = 0 := ez9.trans (by decide +kernel)
  refine lv_if_eq (tgt := 1950) hx hb dL_law_999 (by decide) (fun c10 => ?_) (fun c10 => absurd (by decide +kernel) c10)
  refine lv_iinc (v := 6) (lv' := [(3, .int 6), (2, .ref m0), (1, .ref x0), (0, .ref b)]) hx hb dL_law_1950 hl (k := 0) rfl (by decide +kernel) (by decide) rfl (fun ls hl => ?_)
  refine lv_goto (tgt := 18) hx hb dL_law_1953 (by decide) ?_
  refine lv_iload_n hx hb dL_law_18 rfl (lv_at hl 0 rfl) ?_
  refine lv_aload_n hx hb dL_law_19 rfl (lv_at hl 3 rfl) ?_
  refine va_slen hx hb hX hbl hbA hS dL_law_20 ?_
  refine lv_bipush (v := 6) hx hb dL_law_21 (by decide +kernel) ?_
  refine lv_isub hx hb dL_law_23 ?_
  refine lv_topi (fun z11 ez11 => ?_)
  obtain rfl : z11 = 0 := ez11.trans (by decide +kernel)
  refine lv_icmp_gt (tgt := 1956) hx hb dL_law_24 (by decide) (fun c12 => ?_) (fun c12 => absurd (by decide +kernel) c12)
  refine lv_iconst (v := 1) hx hb dL_law_1956 (by decide +kernel) ?_
  refine va_forget (fun q hq => hS.2.2 q hq) ?_
  refine W.widen (k := 600000) (n := 7302249) (Nat.le_of_ble_eq_true rfl) (Nat.le_of_ble_eq_true rfl) ?_
  refine W.base ?_
  exact lw_ret (Drawn.sameBut.refl s.drawn lw_cs) hx hb hr hlocks dL_law_1957

set_option maxHeartbeats 4000000 in
set_option maxRecDepth 100000 in
theorem lw_case23 {p : Program} {e : Env} {s : State} {m : MethodId} {below : List Frame} {meth : Method} {c : Code} (l : Launch) {b : Nat} {xs : Nat → Int32} {dC : Nat → ClassId} {dI : Nat → Nat → Nat} (C0 : lw_At p s m meth c b 6 xs) {x0 tp nw dr rd sc sk fl ps sh nm nb dm db ss m0 mnw mhd mas mps msf mdt mhdd masd mpsd msfd mkp mtp mld mmd men mil mqu mbx : Nat} {kB kF kG kI kI2 kI3 kI4 kI5 kJ kJ2 kJ3 kJ4 kJ5 kZ kY : ClassId} {H : Heap} {locs : List Loc} {ls : Array Slot} (hK : va_K (dC, dI) vwCl [(kB, .byte), (kF, .object RX1), (kG, .object RX1), (kI, .int), (kI2, .int), (kI3, .int), (kI4, .int), (kI5, .int), (kJ, .long), (kJ2, .long), (kJ3, .long), (kJ4, .long), (kJ5, .long), (kZ, .boolean), (kY, .byte)] s) (hP : va_P (dC, dI) vwCl [(x0, .inr (6, [.ref tp, .int 0, .ref nw, .ref dr, .ref rd, .ref sc, .ref sk, .ref fl, .ref ps, .int 0, .int 0, .ref sh])), (tp, .inl (kB, 400, .inl (fun _ => 0))), (nw, .inr (1, [.ref nm, .ref nb, .int 0, .int 0, .int 0])), (dr, .inr (1, [.ref dm, .ref db, .int 0, .int 0, .int 0])), (rd, .inr (4, [.ref tp, .int 0, .int 0, .int 0, .int 0, .int 0])), (sc, .inr (5, [.ref nw, .ref ss, .int 0, .int (-1), .int 0, .int 0, .int 0, .int 0, .int 0])), (ps, .inl (kF, 10, .inr (.inr (.inr (.inr (fun _ => none)))))), (sh, .inl (kG, 2, .inr (.inr (.inr (.inr (fun _ => none)))))), (m0, .inr (7, [.ref mnw, .ref mhd, .ref mas, .ref mps, .ref msf, .ref mdt, .ref mhdd, .ref masd, .ref mpsd, .ref msfd, .ref mkp, .int 0, .ref mtp, .int 0, .int 0, .int 0, .int 0, .ref mld, .int 0, .ref mmd, .ref men, .ref mil, .ref mqu, .int 0, .int 0, .ref mbx])), (mnw, .inl (kI, 99, .inl (fun _ => 0))), (mhd, .inl (kI2, 99, .inl (fun _ => 0))), (mas, .inl (kI3, 99, .inl (fun _ => 0))), (mps, .inl (kI4, 990, .inl (fun _ => 0))), (msf, .inl (kI5, 198, .inl (fun _ => 0))), (mdt, .inl (kJ, 640, .inr (.inl (fun _ => 0)))), (mhdd, .inl (kJ2, 640, .inr (.inl (fun _ => 0)))), (masd, .inl (kJ3, 640, .inr (.inl (fun _ => 0)))), (mpsd, .inl (kJ4, 6400, .inr (.inl (fun _ => 0)))), (msfd, .inl (kJ5, 1280, .inr (.inl (fun _ => 0)))), (mkp, .inl (kZ, 2, .inl (fun _ => 0))), (mtp, .inl (kY, 400, .inl (fun _ => 0)))] H) (hD : va_D (fun q : Nat => s.heap.size ≤ q) [(x0, .inr (6, [.ref tp, .int 0, .ref nw, .ref dr, .ref rd, .ref sc, .ref sk, .ref fl, .ref ps, .int 0, .int 0, .ref sh])), (tp, .inl (kB, 400, .inl (fun _ => 0))), (nw, .inr (1, [.ref nm, .ref nb, .int 0, .int 0, .int 0])), (dr, .inr (1, [.ref dm, .ref db, .int 0, .int 0, .int 0])), (rd, .inr (4, [.ref tp, .int 0, .int 0, .int 0, .int 0, .int 0])), (sc, .inr (5, [.ref nw, .ref ss, .int 0, .int (-1), .int 0, .int 0, .int 0, .int 0, .int 0])), (ps, .inl (kF, 10, .inr (.inr (.inr (.inr (fun _ => none)))))), (sh, .inl (kG, 2, .inr (.inr (.inr (.inr (fun _ => none)))))), (m0, .inr (7, [.ref mnw, .ref mhd, .ref mas, .ref mps, .ref msf, .ref mdt, .ref mhdd, .ref masd, .ref mpsd, .ref msfd, .ref mkp, .int 0, .ref mtp, .int 0, .int 0, .int 0, .int 0, .ref mld, .int 0, .ref mmd, .ref men, .ref mil, .ref mqu, .int 0, .int 0, .ref mbx])), (mnw, .inl (kI, 99, .inl (fun _ => 0))), (mhd, .inl (kI2, 99, .inl (fun _ => 0))), (mas, .inl (kI3, 99, .inl (fun _ => 0))), (mps, .inl (kI4, 990, .inl (fun _ => 0))), (msf, .inl (kI5, 198, .inl (fun _ => 0))), (mdt, .inl (kJ, 640, .inr (.inl (fun _ => 0)))), (mhdd, .inl (kJ2, 640, .inr (.inl (fun _ => 0)))), (masd, .inl (kJ3, 640, .inr (.inl (fun _ => 0)))), (mpsd, .inl (kJ4, 6400, .inr (.inl (fun _ => 0)))), (msfd, .inl (kJ5, 1280, .inr (.inl (fun _ => 0)))), (mkp, .inl (kZ, 2, .inl (fun _ => 0))), (mtp, .inl (kY, 400, .inl (fun _ => 0)))]) (hS : va_S (fun q : Nat => s.heap.size ≤ q) s.heap H locs) (hl : lv_has ls 4 [(3, .int 0), (2, .ref m0), (1, .ref x0), (0, .ref b)]) : W p l e room_1 s m #[Value.ref b] below meth c H locs 110 27528 (lw_Z below #[Value.ref b] s) (F0 m 1004 ls []) := by
  obtain ⟨hx, hb, hr, hml, hown, htl, hX, hbl, hlocks, hgv⟩ := id C0
  have hb : c.code = cL_law := hb
  have hown : s.vm.findClass RL = some m.cls := hown
  have hts : ∀ w ∈ pw, w.before #[Value.ref b] s = true := fun w h => htl w (pw_tbl h)
  have hN : xN s := xN_of htl
  have hA : ∀ q : Nat, s.heap.size ≤ q → (fun q : Nat => s.heap.size ≤ q) q := fun _ h => h
  have hbA : ¬ (fun q : Nat => s.heap.size ≤ q) b := Nat.not_le.mpr hbl
  refine lv_aload_n hx hb dL_law_1004 rfl (lv_at hl 2 rfl) ?_
  refine lv_aload_n hx hb dL_law_1005 rfl (lv_at hl 3 rfl) ?_
  refine lv_iload_n hx hb dL_law_1006 rfl (lv_at hl 0 rfl) ?_
  refine lv_iconst (v := 1) hx hb dL_law_1007 (by decide +kernel) ?_
  refine lv_iadd hx hb dL_law_1008 ?_
  refine lv_topi (fun z1 ez1 => ?_)
  obtain rfl : z1 = 1 := ez1.trans (by decide +kernel)
  refine va_sld hx hb hX hbl hbA hS (in_d (by decide +kernel)) dL_law_1009 ?_
  refine lv_aload_n hx hb dL_law_1010 rfl (lv_at hl 3 rfl) ?_
  refine lv_iload_n hx hb dL_law_1011 rfl (lv_at hl 0 rfl) ?_
  refine lv_iconst (v := 2) hx hb dL_law_1012 (by decide +kernel) ?_
  refine lv_iadd hx hb dL_law_1013 ?_
  refine lv_topi (fun z2 ez2 => ?_)
  obtain rfl : z2 = 2 := ez2.trans (by decide +kernel)
  refine va_sld hx hb hX hbl hbA hS (in_d (by decide +kernel)) dL_law_1014 ?_
  have hPc := hP.sub (ws' := [(x0, .inr (6, [.ref tp, .int 0, .ref nw, .ref dr, .ref rd, .ref sc, .ref sk, .ref fl, .ref ps, .int 0, .int 0, .ref sh])), (nw, .inr (1, [.ref nm, .ref nb, .int 0, .int 0, .int 0]))]) [0, 2] rfl
  have hDc := hD.sub (ws' := [(x0, .inr (6, [.ref tp, .int 0, .ref nw, .ref dr, .ref rd, .ref sc, .ref sk, .ref fl, .ref ps, .int 0, .int 0, .ref sh])), (nw, .inr (1, [.ref nm, .ref nb, .int 0, .int 0, .int 0]))]) [0, 2] (by decide) rfl
  have hKc := hK.sub (tys' := []) [] rfl
  refine ro_i (va_runV (As := [.int (xs (1 : Int32).toNatClampNeg), .int (xs (2 : Int32).toNatClampNeg)]) (rest := []) ⟨hx, hb, hml, hown, hts⟩ (c_X6_body l dC dI x0 tp nw dr rd sc sk fl ps sh nm nb H.size (xs (1 : Int32).toNatClampNeg) (xs (2 : Int32).toNatClampNeg) ) (cwV 2 hts (gV pq958 pq959 pq960 pq74 pq961) rfl rfl rfl (by decide +kernel) ⟨(Nat.le_of_ble_eq_true rfl), (Nat.le_of_ble_eq_true rfl)⟩) (pc_V hPc hDc hKc hN (va_recv hK hP (ci := 6) (q0 := 0) rfl rfl)) rfl rfl hl.1 rfl (lv_room (Nat.le_of_ble_eq_true rfl)) dL_law_1015 ⟨(Nat.le_of_ble_eq_true rfl), (Nat.le_of_ble_eq_true rfl)⟩) hS hP (fun r3 H locs hr3 hP hS => ?_)
  subst hr3
  refine lv_aload_n hx hb dL_law_1018 rfl (lv_at hl 1 rfl) ?_
  refine lv_aload_n hx hb dL_law_1019 rfl (lv_at hl 3 rfl) ?_
  refine lv_iload_n hx hb dL_law_1020 rfl (lv_at hl 0 rfl) ?_
  refine lv_iconst (v := 1) hx hb dL_law_1021 (by decide +kernel) ?_
  refine lv_iadd hx hb dL_law_1022 ?_
  refine lv_topi (fun z4 ez4 => ?_)
  obtain rfl : z4 = 1 := ez4.trans (by decide +kernel)
  refine va_sld hx hb hX hbl hbA hS (in_d (by decide +kernel)) dL_law_1023 ?_
  refine lv_aload_n hx hb dL_law_1024 rfl (lv_at hl 3 rfl) ?_
  refine lv_iload_n hx hb dL_law_1025 rfl (lv_at hl 0 rfl) ?_
  refine lv_iconst (v := 2) hx hb dL_law_1026 (by decide +kernel) ?_
  refine lv_iadd hx hb dL_law_1027 ?_
  refine lv_topi (fun z5 ez5 => ?_)
  obtain rfl : z5 = 2 := ez5.trans (by decide +kernel)
  refine va_sld hx hb hX hbl hbA hS (in_d (by decide +kernel)) dL_law_1028 ?_
  have hPc := hP.sub (ws' := [(m0, .inr (7, [.ref mnw, .ref mhd, .ref mas, .ref mps, .ref msf, .ref mdt, .ref mhdd, .ref masd, .ref mpsd, .ref msfd, .ref mkp, .int 0, .ref mtp, .int 0, .int 0, .int 0, .int 0, .ref mld, .int 0, .ref mmd, .ref men, .ref mil, .ref mqu, .int 0, .int 0, .ref mbx])), (mnw, .inl (kI, 99, .inl (fun _ => 0)))]) [8, 9] rfl
  have hDc := hD.sub (ws' := [(m0, .inr (7, [.ref mnw, .ref mhd, .ref mas, .ref mps, .ref msf, .ref mdt, .ref mhdd, .ref masd, .ref mpsd, .ref msfd, .ref mkp, .int 0, .ref mtp, .int 0, .int 0, .int 0, .int 0, .ref mld, .int 0, .ref mmd, .ref men, .ref mil, .ref mqu, .int 0, .int 0, .ref mbx])), (mnw, .inl (kI, 99, .inl (fun _ => 0)))]) [8, 9] (by decide) rfl
  have hKc := hK.sub (tys' := [(kI, .int)]) [3] rfl
  refine ro_i (va_runV (As := [.int (xs (1 : Int32).toNatClampNeg), .int (xs (2 : Int32).toNatClampNeg)]) (rest := [.int (-2000)]) ⟨hx, hb, hml, hown, hts⟩ (c_X7_body l dC dI m0 mnw mhd mas mps msf mdt mhdd masd mpsd msfd mkp mtp mld mmd men mil mqu mbx kI H.size (xs (1 : Int32).toNatClampNeg) (xs (2 : Int32).toNatClampNeg) ) (cwV 2 hts (gV pq1562 pq1563 pq1564 pq81 pq1565) rfl rfl rfl (by decide +kernel) ⟨(Nat.le_of_ble_eq_true rfl), (Nat.le_of_ble_eq_true rfl)⟩) (pc_V hPc hDc hKc hN (va_recv hK hP (ci := 7) (q0 := 8) rfl rfl)) rfl rfl hl.1 rfl (lv_room (Nat.le_of_ble_eq_true rfl)) dL_law_1029 ⟨(Nat.le_of_ble_eq_true rfl), (Nat.le_of_ble_eq_true rfl)⟩) hS hP (fun r6 H locs hr6 hP hS => ?_)
  subst hr6
  refine lv_icmp_eq (tgt := 1950) hx hb dL_law_1032 (by decide) (fun c7 => ?_) (fun c7 => absurd (by decide +kernel) c7)
  refine lv_iinc (v := 6) (lv' := [(3, .int 6), (2, .ref m0), (1, .ref x0), (0, .ref b)]) hx hb dL_law_1950 hl (k := 0) rfl (by decide +kernel) (by decide) rfl (fun ls hl => ?_)
  refine lv_goto (tgt := 18) hx hb dL_law_1953 (by decide) ?_
  refine lv_iload_n hx hb dL_law_18 rfl (lv_at hl 0 rfl) ?_
  refine lv_aload_n hx hb dL_law_19 rfl (lv_at hl 3 rfl) ?_
  refine va_slen hx hb hX hbl hbA hS dL_law_20 ?_
  refine lv_bipush (v := 6) hx hb dL_law_21 (by decide +kernel) ?_
  refine lv_isub hx hb dL_law_23 ?_
  refine lv_topi (fun z8 ez8 => ?_)
  obtain rfl : z8 = 0 := ez8.trans (by decide +kernel)
  refine lv_icmp_gt (tgt := 1956) hx hb dL_law_24 (by decide) (fun c9 => ?_) (fun c9 => absurd (by decide +kernel) c9)
  refine lv_iconst (v := 1) hx hb dL_law_1956 (by decide +kernel) ?_
  refine va_forget (fun q hq => hS.2.2 q hq) ?_
  refine W.widen (k := 600000) (n := 7302249) (Nat.le_of_ble_eq_true rfl) (Nat.le_of_ble_eq_true rfl) ?_
  refine W.base ?_
  exact lw_ret (Drawn.sameBut.refl s.drawn lw_cs) hx hb hr hlocks dL_law_1957

set_option maxHeartbeats 4000000 in
set_option maxRecDepth 100000 in
theorem lw_case24 {p : Program} {e : Env} {s : State} {m : MethodId} {below : List Frame} {meth : Method} {c : Code} (l : Launch) {b : Nat} {xs : Nat → Int32} {dC : Nat → ClassId} {dI : Nat → Nat → Nat} (C0 : lw_At p s m meth c b 6 xs) {x0 tp nw dr rd sc sk fl ps sh nm nb dm db ss m0 mnw mhd mas mps msf mdt mhdd masd mpsd msfd mkp mtp mld mmd men mil mqu mbx : Nat} {kB kF kG kI kI2 kI3 kI4 kI5 kJ kJ2 kJ3 kJ4 kJ5 kZ kY : ClassId} {H : Heap} {locs : List Loc} {ls : Array Slot} (hK : va_K (dC, dI) vwCl [(kB, .byte), (kF, .object RX1), (kG, .object RX1), (kI, .int), (kI2, .int), (kI3, .int), (kI4, .int), (kI5, .int), (kJ, .long), (kJ2, .long), (kJ3, .long), (kJ4, .long), (kJ5, .long), (kZ, .boolean), (kY, .byte)] s) (hP : va_P (dC, dI) vwCl [(x0, .inr (6, [.ref tp, .int 0, .ref nw, .ref dr, .ref rd, .ref sc, .ref sk, .ref fl, .ref ps, .int 0, .int 0, .ref sh])), (tp, .inl (kB, 400, .inl (fun _ => 0))), (nw, .inr (1, [.ref nm, .ref nb, .int 0, .int 0, .int 0])), (dr, .inr (1, [.ref dm, .ref db, .int 0, .int 0, .int 0])), (rd, .inr (4, [.ref tp, .int 0, .int 0, .int 0, .int 0, .int 0])), (sc, .inr (5, [.ref nw, .ref ss, .int 0, .int (-1), .int 0, .int 0, .int 0, .int 0, .int 0])), (ps, .inl (kF, 10, .inr (.inr (.inr (.inr (fun _ => none)))))), (sh, .inl (kG, 2, .inr (.inr (.inr (.inr (fun _ => none)))))), (m0, .inr (7, [.ref mnw, .ref mhd, .ref mas, .ref mps, .ref msf, .ref mdt, .ref mhdd, .ref masd, .ref mpsd, .ref msfd, .ref mkp, .int 0, .ref mtp, .int 0, .int 0, .int 0, .int 0, .ref mld, .int 0, .ref mmd, .ref men, .ref mil, .ref mqu, .int 0, .int 0, .ref mbx])), (mnw, .inl (kI, 99, .inl (fun _ => 0))), (mhd, .inl (kI2, 99, .inl (fun _ => 0))), (mas, .inl (kI3, 99, .inl (fun _ => 0))), (mps, .inl (kI4, 990, .inl (fun _ => 0))), (msf, .inl (kI5, 198, .inl (fun _ => 0))), (mdt, .inl (kJ, 640, .inr (.inl (fun _ => 0)))), (mhdd, .inl (kJ2, 640, .inr (.inl (fun _ => 0)))), (masd, .inl (kJ3, 640, .inr (.inl (fun _ => 0)))), (mpsd, .inl (kJ4, 6400, .inr (.inl (fun _ => 0)))), (msfd, .inl (kJ5, 1280, .inr (.inl (fun _ => 0)))), (mkp, .inl (kZ, 2, .inl (fun _ => 0))), (mtp, .inl (kY, 400, .inl (fun _ => 0)))] H) (hD : va_D (fun q : Nat => s.heap.size ≤ q) [(x0, .inr (6, [.ref tp, .int 0, .ref nw, .ref dr, .ref rd, .ref sc, .ref sk, .ref fl, .ref ps, .int 0, .int 0, .ref sh])), (tp, .inl (kB, 400, .inl (fun _ => 0))), (nw, .inr (1, [.ref nm, .ref nb, .int 0, .int 0, .int 0])), (dr, .inr (1, [.ref dm, .ref db, .int 0, .int 0, .int 0])), (rd, .inr (4, [.ref tp, .int 0, .int 0, .int 0, .int 0, .int 0])), (sc, .inr (5, [.ref nw, .ref ss, .int 0, .int (-1), .int 0, .int 0, .int 0, .int 0, .int 0])), (ps, .inl (kF, 10, .inr (.inr (.inr (.inr (fun _ => none)))))), (sh, .inl (kG, 2, .inr (.inr (.inr (.inr (fun _ => none)))))), (m0, .inr (7, [.ref mnw, .ref mhd, .ref mas, .ref mps, .ref msf, .ref mdt, .ref mhdd, .ref masd, .ref mpsd, .ref msfd, .ref mkp, .int 0, .ref mtp, .int 0, .int 0, .int 0, .int 0, .ref mld, .int 0, .ref mmd, .ref men, .ref mil, .ref mqu, .int 0, .int 0, .ref mbx])), (mnw, .inl (kI, 99, .inl (fun _ => 0))), (mhd, .inl (kI2, 99, .inl (fun _ => 0))), (mas, .inl (kI3, 99, .inl (fun _ => 0))), (mps, .inl (kI4, 990, .inl (fun _ => 0))), (msf, .inl (kI5, 198, .inl (fun _ => 0))), (mdt, .inl (kJ, 640, .inr (.inl (fun _ => 0)))), (mhdd, .inl (kJ2, 640, .inr (.inl (fun _ => 0)))), (masd, .inl (kJ3, 640, .inr (.inl (fun _ => 0)))), (mpsd, .inl (kJ4, 6400, .inr (.inl (fun _ => 0)))), (msfd, .inl (kJ5, 1280, .inr (.inl (fun _ => 0)))), (mkp, .inl (kZ, 2, .inl (fun _ => 0))), (mtp, .inl (kY, 400, .inl (fun _ => 0)))]) (hS : va_S (fun q : Nat => s.heap.size ≤ q) s.heap H locs) (hl : lv_has ls 4 [(3, .int 0), (2, .ref m0), (1, .ref x0), (0, .ref b)]) : W p l e room_1 s m #[Value.ref b] below meth c H locs 110 27528 (lw_Z below #[Value.ref b] s) (F0 m 1037 ls []) := by
  obtain ⟨hx, hb, hr, hml, hown, htl, hX, hbl, hlocks, hgv⟩ := id C0
  have hb : c.code = cL_law := hb
  have hown : s.vm.findClass RL = some m.cls := hown
  have hts : ∀ w ∈ pw, w.before #[Value.ref b] s = true := fun w h => htl w (pw_tbl h)
  have hN : xN s := xN_of htl
  have hA : ∀ q : Nat, s.heap.size ≤ q → (fun q : Nat => s.heap.size ≤ q) q := fun _ h => h
  have hbA : ¬ (fun q : Nat => s.heap.size ≤ q) b := Nat.not_le.mpr hbl
  refine lv_aload_n hx hb dL_law_1037 rfl (lv_at hl 2 rfl) ?_
  refine lv_aload_n hx hb dL_law_1038 rfl (lv_at hl 3 rfl) ?_
  refine lv_iload_n hx hb dL_law_1039 rfl (lv_at hl 0 rfl) ?_
  refine lv_iconst (v := 1) hx hb dL_law_1040 (by decide +kernel) ?_
  refine lv_iadd hx hb dL_law_1041 ?_
  refine lv_topi (fun z1 ez1 => ?_)
  obtain rfl : z1 = 1 := ez1.trans (by decide +kernel)
  refine va_sld hx hb hX hbl hbA hS (in_d (by decide +kernel)) dL_law_1042 ?_
  refine lv_aload_n hx hb dL_law_1043 rfl (lv_at hl 3 rfl) ?_
  refine lv_iload_n hx hb dL_law_1044 rfl (lv_at hl 0 rfl) ?_
  refine lv_iconst (v := 2) hx hb dL_law_1045 (by decide +kernel) ?_
  refine lv_iadd hx hb dL_law_1046 ?_
  refine lv_topi (fun z2 ez2 => ?_)
  obtain rfl : z2 = 2 := ez2.trans (by decide +kernel)
  refine va_sld hx hb hX hbl hbA hS (in_d (by decide +kernel)) dL_law_1047 ?_
  have hPc := hP.sub (ws' := [(x0, .inr (6, [.ref tp, .int 0, .ref nw, .ref dr, .ref rd, .ref sc, .ref sk, .ref fl, .ref ps, .int 0, .int 0, .ref sh])), (nw, .inr (1, [.ref nm, .ref nb, .int 0, .int 0, .int 0]))]) [0, 2] rfl
  have hDc := hD.sub (ws' := [(x0, .inr (6, [.ref tp, .int 0, .ref nw, .ref dr, .ref rd, .ref sc, .ref sk, .ref fl, .ref ps, .int 0, .int 0, .ref sh])), (nw, .inr (1, [.ref nm, .ref nb, .int 0, .int 0, .int 0]))]) [0, 2] (by decide) rfl
  have hKc := hK.sub (tys' := []) [] rfl
  refine ro_i (va_runV (As := [.int (xs (1 : Int32).toNatClampNeg), .int (xs (2 : Int32).toNatClampNeg)]) (rest := []) ⟨hx, hb, hml, hown, hts⟩ (c_X6_common l dC dI x0 tp nw dr rd sc sk fl ps sh nm nb H.size (xs (1 : Int32).toNatClampNeg) (xs (2 : Int32).toNatClampNeg) ) (cwV 2 hts (gV pq966 pq967 pq968 pq74 pq969) rfl rfl rfl (by decide +kernel) ⟨(Nat.le_of_ble_eq_true rfl), (Nat.le_of_ble_eq_true rfl)⟩) (pc_V hPc hDc hKc hN (va_recv hK hP (ci := 6) (q0 := 0) rfl rfl)) rfl rfl hl.1 rfl (lv_room (Nat.le_of_ble_eq_true rfl)) dL_law_1048 ⟨(Nat.le_of_ble_eq_true rfl), (Nat.le_of_ble_eq_true rfl)⟩) hS hP (fun r3 H locs hr3 hP hS => ?_)
  subst hr3
  refine lv_aload_n hx hb dL_law_1051 rfl (lv_at hl 1 rfl) ?_
  refine lv_aload_n hx hb dL_law_1052 rfl (lv_at hl 3 rfl) ?_
  refine lv_iload_n hx hb dL_law_1053 rfl (lv_at hl 0 rfl) ?_
  refine lv_iconst (v := 1) hx hb dL_law_1054 (by decide +kernel) ?_
  refine lv_iadd hx hb dL_law_1055 ?_
  refine lv_topi (fun z4 ez4 => ?_)
  obtain rfl : z4 = 1 := ez4.trans (by decide +kernel)
  refine va_sld hx hb hX hbl hbA hS (in_d (by decide +kernel)) dL_law_1056 ?_
  refine lv_aload_n hx hb dL_law_1057 rfl (lv_at hl 3 rfl) ?_
  refine lv_iload_n hx hb dL_law_1058 rfl (lv_at hl 0 rfl) ?_
  refine lv_iconst (v := 2) hx hb dL_law_1059 (by decide +kernel) ?_
  refine lv_iadd hx hb dL_law_1060 ?_
  refine lv_topi (fun z5 ez5 => ?_)
  obtain rfl : z5 = 2 := ez5.trans (by decide +kernel)
  refine va_sld hx hb hX hbl hbA hS (in_d (by decide +kernel)) dL_law_1061 ?_
  have hPc := hP.sub (ws' := [(m0, .inr (7, [.ref mnw, .ref mhd, .ref mas, .ref mps, .ref msf, .ref mdt, .ref mhdd, .ref masd, .ref mpsd, .ref msfd, .ref mkp, .int 0, .ref mtp, .int 0, .int 0, .int 0, .int 0, .ref mld, .int 0, .ref mmd, .ref men, .ref mil, .ref mqu, .int 0, .int 0, .ref mbx])), (mnw, .inl (kI, 99, .inl (fun _ => 0)))]) [8, 9] rfl
  have hDc := hD.sub (ws' := [(m0, .inr (7, [.ref mnw, .ref mhd, .ref mas, .ref mps, .ref msf, .ref mdt, .ref mhdd, .ref masd, .ref mpsd, .ref msfd, .ref mkp, .int 0, .ref mtp, .int 0, .int 0, .int 0, .int 0, .ref mld, .int 0, .ref mmd, .ref men, .ref mil, .ref mqu, .int 0, .int 0, .ref mbx])), (mnw, .inl (kI, 99, .inl (fun _ => 0)))]) [8, 9] (by decide) rfl
  have hKc := hK.sub (tys' := [(kI, .int)]) [3] rfl
  refine ro_i (va_runV (As := [.int (xs (1 : Int32).toNatClampNeg), .int (xs (2 : Int32).toNatClampNeg)]) (rest := [.int (-1)]) ⟨hx, hb, hml, hown, hts⟩ (c_X7_common l dC dI m0 mnw mhd mas mps msf mdt mhdd masd mpsd msfd mkp mtp mld mmd men mil mqu mbx kI H.size (xs (1 : Int32).toNatClampNeg) (xs (2 : Int32).toNatClampNeg) ) (cwV 2 hts (gV pq1567 pq1568 pq1569 pq81 pq1570) rfl rfl rfl (by decide +kernel) ⟨(Nat.le_of_ble_eq_true rfl), (Nat.le_of_ble_eq_true rfl)⟩) (pc_V hPc hDc hKc hN (va_recv hK hP (ci := 7) (q0 := 8) rfl rfl)) rfl rfl hl.1 rfl (lv_room (Nat.le_of_ble_eq_true rfl)) dL_law_1062 ⟨(Nat.le_of_ble_eq_true rfl), (Nat.le_of_ble_eq_true rfl)⟩) hS hP (fun r6 H locs hr6 hP hS => ?_)
  subst hr6
  refine lv_icmp_eq (tgt := 1950) hx hb dL_law_1065 (by decide) (fun c7 => ?_) (fun c7 => absurd (by decide +kernel) c7)
  refine lv_iinc (v := 6) (lv' := [(3, .int 6), (2, .ref m0), (1, .ref x0), (0, .ref b)]) hx hb dL_law_1950 hl (k := 0) rfl (by decide +kernel) (by decide) rfl (fun ls hl => ?_)
  refine lv_goto (tgt := 18) hx hb dL_law_1953 (by decide) ?_
  refine lv_iload_n hx hb dL_law_18 rfl (lv_at hl 0 rfl) ?_
  refine lv_aload_n hx hb dL_law_19 rfl (lv_at hl 3 rfl) ?_
  refine va_slen hx hb hX hbl hbA hS dL_law_20 ?_
  refine lv_bipush (v := 6) hx hb dL_law_21 (by decide +kernel) ?_
  refine lv_isub hx hb dL_law_23 ?_
  refine lv_topi (fun z8 ez8 => ?_)
  obtain rfl : z8 = 0 := ez8.trans (by decide +kernel)
  refine lv_icmp_gt (tgt := 1956) hx hb dL_law_24 (by decide) (fun c9 => ?_) (fun c9 => absurd (by decide +kernel) c9)
  refine lv_iconst (v := 1) hx hb dL_law_1956 (by decide +kernel) ?_
  refine va_forget (fun q hq => hS.2.2 q hq) ?_
  refine W.widen (k := 600000) (n := 7302249) (Nat.le_of_ble_eq_true rfl) (Nat.le_of_ble_eq_true rfl) ?_
  refine W.base ?_
  exact lw_ret (Drawn.sameBut.refl s.drawn lw_cs) hx hb hr hlocks dL_law_1957

set_option maxHeartbeats 4000000 in
set_option maxRecDepth 100000 in
theorem lw_case25 {p : Program} {e : Env} {s : State} {m : MethodId} {below : List Frame} {meth : Method} {c : Code} (l : Launch) {b : Nat} {xs : Nat → Int32} {dC : Nat → ClassId} {dI : Nat → Nat → Nat} (C0 : lw_At p s m meth c b 6 xs) {x0 tp nw dr rd sc sk fl ps sh nm nb dm db ss m0 mnw mhd mas mps msf mdt mhdd masd mpsd msfd mkp mtp mld mmd men mil mqu mbx : Nat} {kB kF kG kI kI2 kI3 kI4 kI5 kJ kJ2 kJ3 kJ4 kJ5 kZ kY : ClassId} {H : Heap} {locs : List Loc} {ls : Array Slot} (hK : va_K (dC, dI) vwCl [(kB, .byte), (kF, .object RX1), (kG, .object RX1), (kI, .int), (kI2, .int), (kI3, .int), (kI4, .int), (kI5, .int), (kJ, .long), (kJ2, .long), (kJ3, .long), (kJ4, .long), (kJ5, .long), (kZ, .boolean), (kY, .byte)] s) (hP : va_P (dC, dI) vwCl [(x0, .inr (6, [.ref tp, .int 0, .ref nw, .ref dr, .ref rd, .ref sc, .ref sk, .ref fl, .ref ps, .int 0, .int 0, .ref sh])), (tp, .inl (kB, 400, .inl (fun _ => 0))), (nw, .inr (1, [.ref nm, .ref nb, .int 0, .int 0, .int 0])), (dr, .inr (1, [.ref dm, .ref db, .int 0, .int 0, .int 0])), (rd, .inr (4, [.ref tp, .int 0, .int 0, .int 0, .int 0, .int 0])), (sc, .inr (5, [.ref nw, .ref ss, .int 0, .int (-1), .int 0, .int 0, .int 0, .int 0, .int 0])), (ps, .inl (kF, 10, .inr (.inr (.inr (.inr (fun _ => none)))))), (sh, .inl (kG, 2, .inr (.inr (.inr (.inr (fun _ => none)))))), (m0, .inr (7, [.ref mnw, .ref mhd, .ref mas, .ref mps, .ref msf, .ref mdt, .ref mhdd, .ref masd, .ref mpsd, .ref msfd, .ref mkp, .int 0, .ref mtp, .int 0, .int 0, .int 0, .int 0, .ref mld, .int 0, .ref mmd, .ref men, .ref mil, .ref mqu, .int 0, .int 0, .ref mbx])), (mnw, .inl (kI, 99, .inl (fun _ => 0))), (mhd, .inl (kI2, 99, .inl (fun _ => 0))), (mas, .inl (kI3, 99, .inl (fun _ => 0))), (mps, .inl (kI4, 990, .inl (fun _ => 0))), (msf, .inl (kI5, 198, .inl (fun _ => 0))), (mdt, .inl (kJ, 640, .inr (.inl (fun _ => 0)))), (mhdd, .inl (kJ2, 640, .inr (.inl (fun _ => 0)))), (masd, .inl (kJ3, 640, .inr (.inl (fun _ => 0)))), (mpsd, .inl (kJ4, 6400, .inr (.inl (fun _ => 0)))), (msfd, .inl (kJ5, 1280, .inr (.inl (fun _ => 0)))), (mkp, .inl (kZ, 2, .inl (fun _ => 0))), (mtp, .inl (kY, 400, .inl (fun _ => 0)))] H) (hD : va_D (fun q : Nat => s.heap.size ≤ q) [(x0, .inr (6, [.ref tp, .int 0, .ref nw, .ref dr, .ref rd, .ref sc, .ref sk, .ref fl, .ref ps, .int 0, .int 0, .ref sh])), (tp, .inl (kB, 400, .inl (fun _ => 0))), (nw, .inr (1, [.ref nm, .ref nb, .int 0, .int 0, .int 0])), (dr, .inr (1, [.ref dm, .ref db, .int 0, .int 0, .int 0])), (rd, .inr (4, [.ref tp, .int 0, .int 0, .int 0, .int 0, .int 0])), (sc, .inr (5, [.ref nw, .ref ss, .int 0, .int (-1), .int 0, .int 0, .int 0, .int 0, .int 0])), (ps, .inl (kF, 10, .inr (.inr (.inr (.inr (fun _ => none)))))), (sh, .inl (kG, 2, .inr (.inr (.inr (.inr (fun _ => none)))))), (m0, .inr (7, [.ref mnw, .ref mhd, .ref mas, .ref mps, .ref msf, .ref mdt, .ref mhdd, .ref masd, .ref mpsd, .ref msfd, .ref mkp, .int 0, .ref mtp, .int 0, .int 0, .int 0, .int 0, .ref mld, .int 0, .ref mmd, .ref men, .ref mil, .ref mqu, .int 0, .int 0, .ref mbx])), (mnw, .inl (kI, 99, .inl (fun _ => 0))), (mhd, .inl (kI2, 99, .inl (fun _ => 0))), (mas, .inl (kI3, 99, .inl (fun _ => 0))), (mps, .inl (kI4, 990, .inl (fun _ => 0))), (msf, .inl (kI5, 198, .inl (fun _ => 0))), (mdt, .inl (kJ, 640, .inr (.inl (fun _ => 0)))), (mhdd, .inl (kJ2, 640, .inr (.inl (fun _ => 0)))), (masd, .inl (kJ3, 640, .inr (.inl (fun _ => 0)))), (mpsd, .inl (kJ4, 6400, .inr (.inl (fun _ => 0)))), (msfd, .inl (kJ5, 1280, .inr (.inl (fun _ => 0)))), (mkp, .inl (kZ, 2, .inl (fun _ => 0))), (mtp, .inl (kY, 400, .inl (fun _ => 0)))]) (hS : va_S (fun q : Nat => s.heap.size ≤ q) s.heap H locs) (hl : lv_has ls 4 [(3, .int 0), (2, .ref m0), (1, .ref x0), (0, .ref b)]) : W p l e room_1 s m #[Value.ref b] below meth c H locs 110 27528 (lw_Z below #[Value.ref b] s) (F0 m 1070 ls []) := by
  obtain ⟨hx, hb, hr, hml, hown, htl, hX, hbl, hlocks, hgv⟩ := id C0
  have hb : c.code = cL_law := hb
  have hown : s.vm.findClass RL = some m.cls := hown
  have hts : ∀ w ∈ pw, w.before #[Value.ref b] s = true := fun w h => htl w (pw_tbl h)
  have hN : xN s := xN_of htl
  have hA : ∀ q : Nat, s.heap.size ≤ q → (fun q : Nat => s.heap.size ≤ q) q := fun _ h => h
  have hbA : ¬ (fun q : Nat => s.heap.size ≤ q) b := Nat.not_le.mpr hbl
  refine lv_aload_n hx hb dL_law_1070 rfl (lv_at hl 2 rfl) ?_
  refine lv_aload_n hx hb dL_law_1071 rfl (lv_at hl 3 rfl) ?_
  refine lv_iload_n hx hb dL_law_1072 rfl (lv_at hl 0 rfl) ?_
  refine lv_iconst (v := 1) hx hb dL_law_1073 (by decide +kernel) ?_
  refine lv_iadd hx hb dL_law_1074 ?_
  refine lv_topi (fun z1 ez1 => ?_)
  obtain rfl : z1 = 1 := ez1.trans (by decide +kernel)
  refine va_sld hx hb hX hbl hbA hS (in_d (by decide +kernel)) dL_law_1075 ?_
  refine lv_aload_n hx hb dL_law_1076 rfl (lv_at hl 3 rfl) ?_
  refine lv_iload_n hx hb dL_law_1077 rfl (lv_at hl 0 rfl) ?_
  refine lv_iconst (v := 2) hx hb dL_law_1078 (by decide +kernel) ?_
  refine lv_iadd hx hb dL_law_1079 ?_
  refine lv_topi (fun z2 ez2 => ?_)
  obtain rfl : z2 = 2 := ez2.trans (by decide +kernel)
  refine va_sld hx hb hX hbl hbA hS (in_d (by decide +kernel)) dL_law_1080 ?_
  refine lv_aload_n hx hb dL_law_1081 rfl (lv_at hl 3 rfl) ?_
  refine lv_iload_n hx hb dL_law_1082 rfl (lv_at hl 0 rfl) ?_
  refine lv_iconst (v := 3) hx hb dL_law_1083 (by decide +kernel) ?_
  refine lv_iadd hx hb dL_law_1084 ?_
  refine lv_topi (fun z3 ez3 => ?_)
  obtain rfl : z3 = 3 := ez3.trans (by decide +kernel)
  refine va_sld hx hb hX hbl hbA hS (in_d (by decide +kernel)) dL_law_1085 ?_
  have hPc := hP.sub (ws' := [(x0, .inr (6, [.ref tp, .int 0, .ref nw, .ref dr, .ref rd, .ref sc, .ref sk, .ref fl, .ref ps, .int 0, .int 0, .ref sh])), (nw, .inr (1, [.ref nm, .ref nb, .int 0, .int 0, .int 0]))]) [0, 2] rfl
  have hDc := hD.sub (ws' := [(x0, .inr (6, [.ref tp, .int 0, .ref nw, .ref dr, .ref rd, .ref sc, .ref sk, .ref fl, .ref ps, .int 0, .int 0, .ref sh])), (nw, .inr (1, [.ref nm, .ref nb, .int 0, .int 0, .int 0]))]) [0, 2] (by decide) rfl
  have hKc := hK.sub (tys' := []) [] rfl
  refine ro_i (va_runV (As := [.int (xs (1 : Int32).toNatClampNeg), .int (xs (2 : Int32).toNatClampNeg), .int (xs (3 : Int32).toNatClampNeg)]) (rest := []) ⟨hx, hb, hml, hown, hts⟩ (c_X6_meet l dC dI x0 tp nw dr rd sc sk fl ps sh nm nb H.size (xs (1 : Int32).toNatClampNeg) (xs (2 : Int32).toNatClampNeg) (xs (3 : Int32).toNatClampNeg) ) (cwV 3 hts (gV pq981 pq982 pq983 pq74 pq984) rfl rfl rfl (by decide +kernel) ⟨(Nat.le_of_ble_eq_true rfl), (Nat.le_of_ble_eq_true rfl)⟩) (pc_V hPc hDc hKc hN (va_recv hK hP (ci := 6) (q0 := 0) rfl rfl)) rfl rfl hl.1 rfl (lv_room (Nat.le_of_ble_eq_true rfl)) dL_law_1086 ⟨(Nat.le_of_ble_eq_true rfl), (Nat.le_of_ble_eq_true rfl)⟩) hS hP (fun r4 H locs hr4 hP hS => ?_)
  subst hr4
  refine lv_aload_n hx hb dL_law_1089 rfl (lv_at hl 1 rfl) ?_
  refine lv_aload_n hx hb dL_law_1090 rfl (lv_at hl 3 rfl) ?_
  refine lv_iload_n hx hb dL_law_1091 rfl (lv_at hl 0 rfl) ?_
  refine lv_iconst (v := 1) hx hb dL_law_1092 (by decide +kernel) ?_
  refine lv_iadd hx hb dL_law_1093 ?_
  refine lv_topi (fun z5 ez5 => ?_)
  obtain rfl : z5 = 1 := ez5.trans (by decide +kernel)
  refine va_sld hx hb hX hbl hbA hS (in_d (by decide +kernel)) dL_law_1094 ?_
  refine lv_aload_n hx hb dL_law_1095 rfl (lv_at hl 3 rfl) ?_
  refine lv_iload_n hx hb dL_law_1096 rfl (lv_at hl 0 rfl) ?_
  refine lv_iconst (v := 2) hx hb dL_law_1097 (by decide +kernel) ?_
  refine lv_iadd hx hb dL_law_1098 ?_
  refine lv_topi (fun z6 ez6 => ?_)
  obtain rfl : z6 = 2 := ez6.trans (by decide +kernel)
  refine va_sld hx hb hX hbl hbA hS (in_d (by decide +kernel)) dL_law_1099 ?_
  refine lv_aload_n hx hb dL_law_1100 rfl (lv_at hl 3 rfl) ?_
  refine lv_iload_n hx hb dL_law_1101 rfl (lv_at hl 0 rfl) ?_
  refine lv_iconst (v := 3) hx hb dL_law_1102 (by decide +kernel) ?_
  refine lv_iadd hx hb dL_law_1103 ?_
  refine lv_topi (fun z7 ez7 => ?_)
  obtain rfl : z7 = 3 := ez7.trans (by decide +kernel)
  refine va_sld hx hb hX hbl hbA hS (in_d (by decide +kernel)) dL_law_1104 ?_
  have hPc := hP.sub (ws' := [(m0, .inr (7, [.ref mnw, .ref mhd, .ref mas, .ref mps, .ref msf, .ref mdt, .ref mhdd, .ref masd, .ref mpsd, .ref msfd, .ref mkp, .int 0, .ref mtp, .int 0, .int 0, .int 0, .int 0, .ref mld, .int 0, .ref mmd, .ref men, .ref mil, .ref mqu, .int 0, .int 0, .ref mbx])), (mnw, .inl (kI, 99, .inl (fun _ => 0)))]) [8, 9] rfl
  have hDc := hD.sub (ws' := [(m0, .inr (7, [.ref mnw, .ref mhd, .ref mas, .ref mps, .ref msf, .ref mdt, .ref mhdd, .ref masd, .ref mpsd, .ref msfd, .ref mkp, .int 0, .ref mtp, .int 0, .int 0, .int 0, .int 0, .ref mld, .int 0, .ref mmd, .ref men, .ref mil, .ref mqu, .int 0, .int 0, .ref mbx])), (mnw, .inl (kI, 99, .inl (fun _ => 0)))]) [8, 9] (by decide) rfl
  have hKc := hK.sub (tys' := [(kI, .int)]) [3] rfl
  refine ro_i (va_runV (As := [.int (xs (1 : Int32).toNatClampNeg), .int (xs (2 : Int32).toNatClampNeg), .int (xs (3 : Int32).toNatClampNeg)]) (rest := [.int (-2000)]) ⟨hx, hb, hml, hown, hts⟩ (c_X7_meet l dC dI m0 mnw mhd mas mps msf mdt mhdd masd mpsd msfd mkp mtp mld mmd men mil mqu mbx kI H.size (xs (1 : Int32).toNatClampNeg) (xs (2 : Int32).toNatClampNeg) (xs (3 : Int32).toNatClampNeg) ) (cwV 3 hts (gV pq1579 pq1580 pq1581 pq81 pq1582) rfl rfl rfl (by decide +kernel) ⟨(Nat.le_of_ble_eq_true rfl), (Nat.le_of_ble_eq_true rfl)⟩) (pc_V hPc hDc hKc hN (va_recv hK hP (ci := 7) (q0 := 8) rfl rfl)) rfl rfl hl.1 rfl (lv_room (Nat.le_of_ble_eq_true rfl)) dL_law_1105 ⟨(Nat.le_of_ble_eq_true rfl), (Nat.le_of_ble_eq_true rfl)⟩) hS hP (fun r8 H locs hr8 hP hS => ?_)
  subst hr8
  refine lv_icmp_eq (tgt := 1950) hx hb dL_law_1108 (by decide) (fun c9 => ?_) (fun c9 => absurd (by decide +kernel) c9)
  refine lv_iinc (v := 6) (lv' := [(3, .int 6), (2, .ref m0), (1, .ref x0), (0, .ref b)]) hx hb dL_law_1950 hl (k := 0) rfl (by decide +kernel) (by decide) rfl (fun ls hl => ?_)
  refine lv_goto (tgt := 18) hx hb dL_law_1953 (by decide) ?_
  refine lv_iload_n hx hb dL_law_18 rfl (lv_at hl 0 rfl) ?_
  refine lv_aload_n hx hb dL_law_19 rfl (lv_at hl 3 rfl) ?_
  refine va_slen hx hb hX hbl hbA hS dL_law_20 ?_
  refine lv_bipush (v := 6) hx hb dL_law_21 (by decide +kernel) ?_
  refine lv_isub hx hb dL_law_23 ?_
  refine lv_topi (fun z10 ez10 => ?_)
  obtain rfl : z10 = 0 := ez10.trans (by decide +kernel)
  refine lv_icmp_gt (tgt := 1956) hx hb dL_law_24 (by decide) (fun c11 => ?_) (fun c11 => absurd (by decide +kernel) c11)
  refine lv_iconst (v := 1) hx hb dL_law_1956 (by decide +kernel) ?_
  refine va_forget (fun q hq => hS.2.2 q hq) ?_
  refine W.widen (k := 600000) (n := 7302249) (Nat.le_of_ble_eq_true rfl) (Nat.le_of_ble_eq_true rfl) ?_
  refine W.base ?_
  exact lw_ret (Drawn.sameBut.refl s.drawn lw_cs) hx hb hr hlocks dL_law_1957

set_option maxHeartbeats 4000000 in
set_option maxRecDepth 100000 in
theorem lw_case26 {p : Program} {e : Env} {s : State} {m : MethodId} {below : List Frame} {meth : Method} {c : Code} (l : Launch) {b : Nat} {xs : Nat → Int32} {dC : Nat → ClassId} {dI : Nat → Nat → Nat} (C0 : lw_At p s m meth c b 6 xs) {x0 tp nw dr rd sc sk fl ps sh nm nb dm db ss m0 mnw mhd mas mps msf mdt mhdd masd mpsd msfd mkp mtp mld mmd men mil mqu mbx : Nat} {kB kF kG kI kI2 kI3 kI4 kI5 kJ kJ2 kJ3 kJ4 kJ5 kZ kY : ClassId} {H : Heap} {locs : List Loc} {ls : Array Slot} (hK : va_K (dC, dI) vwCl [(kB, .byte), (kF, .object RX1), (kG, .object RX1), (kI, .int), (kI2, .int), (kI3, .int), (kI4, .int), (kI5, .int), (kJ, .long), (kJ2, .long), (kJ3, .long), (kJ4, .long), (kJ5, .long), (kZ, .boolean), (kY, .byte)] s) (hP : va_P (dC, dI) vwCl [(x0, .inr (6, [.ref tp, .int 0, .ref nw, .ref dr, .ref rd, .ref sc, .ref sk, .ref fl, .ref ps, .int 0, .int 0, .ref sh])), (tp, .inl (kB, 400, .inl (fun _ => 0))), (nw, .inr (1, [.ref nm, .ref nb, .int 0, .int 0, .int 0])), (dr, .inr (1, [.ref dm, .ref db, .int 0, .int 0, .int 0])), (rd, .inr (4, [.ref tp, .int 0, .int 0, .int 0, .int 0, .int 0])), (sc, .inr (5, [.ref nw, .ref ss, .int 0, .int (-1), .int 0, .int 0, .int 0, .int 0, .int 0])), (ps, .inl (kF, 10, .inr (.inr (.inr (.inr (fun _ => none)))))), (sh, .inl (kG, 2, .inr (.inr (.inr (.inr (fun _ => none)))))), (m0, .inr (7, [.ref mnw, .ref mhd, .ref mas, .ref mps, .ref msf, .ref mdt, .ref mhdd, .ref masd, .ref mpsd, .ref msfd, .ref mkp, .int 0, .ref mtp, .int 0, .int 0, .int 0, .int 0, .ref mld, .int 0, .ref mmd, .ref men, .ref mil, .ref mqu, .int 0, .int 0, .ref mbx])), (mnw, .inl (kI, 99, .inl (fun _ => 0))), (mhd, .inl (kI2, 99, .inl (fun _ => 0))), (mas, .inl (kI3, 99, .inl (fun _ => 0))), (mps, .inl (kI4, 990, .inl (fun _ => 0))), (msf, .inl (kI5, 198, .inl (fun _ => 0))), (mdt, .inl (kJ, 640, .inr (.inl (fun _ => 0)))), (mhdd, .inl (kJ2, 640, .inr (.inl (fun _ => 0)))), (masd, .inl (kJ3, 640, .inr (.inl (fun _ => 0)))), (mpsd, .inl (kJ4, 6400, .inr (.inl (fun _ => 0)))), (msfd, .inl (kJ5, 1280, .inr (.inl (fun _ => 0)))), (mkp, .inl (kZ, 2, .inl (fun _ => 0))), (mtp, .inl (kY, 400, .inl (fun _ => 0)))] H) (hD : va_D (fun q : Nat => s.heap.size ≤ q) [(x0, .inr (6, [.ref tp, .int 0, .ref nw, .ref dr, .ref rd, .ref sc, .ref sk, .ref fl, .ref ps, .int 0, .int 0, .ref sh])), (tp, .inl (kB, 400, .inl (fun _ => 0))), (nw, .inr (1, [.ref nm, .ref nb, .int 0, .int 0, .int 0])), (dr, .inr (1, [.ref dm, .ref db, .int 0, .int 0, .int 0])), (rd, .inr (4, [.ref tp, .int 0, .int 0, .int 0, .int 0, .int 0])), (sc, .inr (5, [.ref nw, .ref ss, .int 0, .int (-1), .int 0, .int 0, .int 0, .int 0, .int 0])), (ps, .inl (kF, 10, .inr (.inr (.inr (.inr (fun _ => none)))))), (sh, .inl (kG, 2, .inr (.inr (.inr (.inr (fun _ => none)))))), (m0, .inr (7, [.ref mnw, .ref mhd, .ref mas, .ref mps, .ref msf, .ref mdt, .ref mhdd, .ref masd, .ref mpsd, .ref msfd, .ref mkp, .int 0, .ref mtp, .int 0, .int 0, .int 0, .int 0, .ref mld, .int 0, .ref mmd, .ref men, .ref mil, .ref mqu, .int 0, .int 0, .ref mbx])), (mnw, .inl (kI, 99, .inl (fun _ => 0))), (mhd, .inl (kI2, 99, .inl (fun _ => 0))), (mas, .inl (kI3, 99, .inl (fun _ => 0))), (mps, .inl (kI4, 990, .inl (fun _ => 0))), (msf, .inl (kI5, 198, .inl (fun _ => 0))), (mdt, .inl (kJ, 640, .inr (.inl (fun _ => 0)))), (mhdd, .inl (kJ2, 640, .inr (.inl (fun _ => 0)))), (masd, .inl (kJ3, 640, .inr (.inl (fun _ => 0)))), (mpsd, .inl (kJ4, 6400, .inr (.inl (fun _ => 0)))), (msfd, .inl (kJ5, 1280, .inr (.inl (fun _ => 0)))), (mkp, .inl (kZ, 2, .inl (fun _ => 0))), (mtp, .inl (kY, 400, .inl (fun _ => 0)))]) (hS : va_S (fun q : Nat => s.heap.size ≤ q) s.heap H locs) (hl : lv_has ls 4 [(3, .int 0), (2, .ref m0), (1, .ref x0), (0, .ref b)]) : W p l e room_1 s m #[Value.ref b] below meth c H locs 110 27528 (lw_Z below #[Value.ref b] s) (F0 m 1113 ls []) := by
  obtain ⟨hx, hb, hr, hml, hown, htl, hX, hbl, hlocks, hgv⟩ := id C0
  have hb : c.code = cL_law := hb
  have hown : s.vm.findClass RL = some m.cls := hown
  have hts : ∀ w ∈ pw, w.before #[Value.ref b] s = true := fun w h => htl w (pw_tbl h)
  have hN : xN s := xN_of htl
  have hA : ∀ q : Nat, s.heap.size ≤ q → (fun q : Nat => s.heap.size ≤ q) q := fun _ h => h
  have hbA : ¬ (fun q : Nat => s.heap.size ≤ q) b := Nat.not_le.mpr hbl
  refine lv_aload_n hx hb dL_law_1113 rfl (lv_at hl 2 rfl) ?_
  refine lv_aload_n hx hb dL_law_1114 rfl (lv_at hl 3 rfl) ?_
  refine lv_iload_n hx hb dL_law_1115 rfl (lv_at hl 0 rfl) ?_
  refine lv_iconst (v := 1) hx hb dL_law_1116 (by decide +kernel) ?_
  refine lv_iadd hx hb dL_law_1117 ?_
  refine lv_topi (fun z1 ez1 => ?_)
  obtain rfl : z1 = 1 := ez1.trans (by decide +kernel)
  refine va_sld hx hb hX hbl hbA hS (in_d (by decide +kernel)) dL_law_1118 ?_
  have hPc := hP.sub (ws' := [(x0, .inr (6, [.ref tp, .int 0, .ref nw, .ref dr, .ref rd, .ref sc, .ref sk, .ref fl, .ref ps, .int 0, .int 0, .ref sh])), (nw, .inr (1, [.ref nm, .ref nb, .int 0, .int 0, .int 0]))]) [0, 2] rfl
  have hDc := hD.sub (ws' := [(x0, .inr (6, [.ref tp, .int 0, .ref nw, .ref dr, .ref rd, .ref sc, .ref sk, .ref fl, .ref ps, .int 0, .int 0, .ref sh])), (nw, .inr (1, [.ref nm, .ref nb, .int 0, .int 0, .int 0]))]) [0, 2] (by decide) rfl
  have hKc := hK.sub (tys' := []) [] rfl
  refine ro_i (va_runV (As := [.int (xs (1 : Int32).toNatClampNeg)]) (rest := []) ⟨hx, hb, hml, hown, hts⟩ (c_X6_contact l dC dI x0 tp nw dr rd sc sk fl ps sh nm nb H.size (xs (1 : Int32).toNatClampNeg) ) (cwV 1 hts (gV pq993 pq994 pq995 pq74 pq996) rfl rfl rfl (by decide +kernel) ⟨(Nat.le_of_ble_eq_true rfl), (Nat.le_of_ble_eq_true rfl)⟩) (pc_V hPc hDc hKc hN (va_recv hK hP (ci := 6) (q0 := 0) rfl rfl)) rfl rfl hl.1 rfl (lv_room (Nat.le_of_ble_eq_true rfl)) dL_law_1119 ⟨(Nat.le_of_ble_eq_true rfl), (Nat.le_of_ble_eq_true rfl)⟩) hS hP (fun r2 H locs hr2 hP hS => ?_)
  refine lv_aload_n hx hb dL_law_1122 rfl (lv_at hl 1 rfl) ?_
  refine lv_aload_n hx hb dL_law_1123 rfl (lv_at hl 3 rfl) ?_
  refine lv_iload_n hx hb dL_law_1124 rfl (lv_at hl 0 rfl) ?_
  refine lv_iconst (v := 1) hx hb dL_law_1125 (by decide +kernel) ?_
  refine lv_iadd hx hb dL_law_1126 ?_
  refine lv_topi (fun z3 ez3 => ?_)
  obtain rfl : z3 = 1 := ez3.trans (by decide +kernel)
  refine va_sld hx hb hX hbl hbA hS (in_d (by decide +kernel)) dL_law_1127 ?_
  have hPc := hP.sub (ws' := [(m0, .inr (7, [.ref mnw, .ref mhd, .ref mas, .ref mps, .ref msf, .ref mdt, .ref mhdd, .ref masd, .ref mpsd, .ref msfd, .ref mkp, .int 0, .ref mtp, .int 0, .int 0, .int 0, .int 0, .ref mld, .int 0, .ref mmd, .ref men, .ref mil, .ref mqu, .int 0, .int 0, .ref mbx])), (mnw, .inl (kI, 99, .inl (fun _ => 0)))]) [8, 9] rfl
  have hDc := hD.sub (ws' := [(m0, .inr (7, [.ref mnw, .ref mhd, .ref mas, .ref mps, .ref msf, .ref mdt, .ref mhdd, .ref masd, .ref mpsd, .ref msfd, .ref mkp, .int 0, .ref mtp, .int 0, .int 0, .int 0, .int 0, .ref mld, .int 0, .ref mmd, .ref men, .ref mil, .ref mqu, .int 0, .int 0, .ref mbx])), (mnw, .inl (kI, 99, .inl (fun _ => 0)))]) [8, 9] (by decide) rfl
  have hKc := hK.sub (tys' := [(kI, .int)]) [3] rfl
  refine ro_i (va_runV (As := [.int (xs (1 : Int32).toNatClampNeg)]) (rest := [.int r2]) ⟨hx, hb, hml, hown, hts⟩ (c_X7_contact l dC dI m0 mnw mhd mas mps msf mdt mhdd masd mpsd msfd mkp mtp mld mmd men mil mqu mbx kI H.size (xs (1 : Int32).toNatClampNeg) ) (cwV 1 hts (gV pq1587 pq1588 pq1589 pq81 pq1590) rfl rfl rfl (by decide +kernel) ⟨(Nat.le_of_ble_eq_true rfl), (Nat.le_of_ble_eq_true rfl)⟩) (pc_V hPc hDc hKc hN (va_recv hK hP (ci := 7) (q0 := 8) rfl rfl)) rfl rfl hl.1 rfl (lv_room (Nat.le_of_ble_eq_true rfl)) dL_law_1128 ⟨(Nat.le_of_ble_eq_true rfl), (Nat.le_of_ble_eq_true rfl)⟩) hS hP (fun r4 H locs hr4 hP hS => ?_)
  refine lv_icmp_eq (tgt := 1950) hx hb dL_law_1131 (by decide) (fun c5 => ?_) (fun c5 => absurd (hr2.trans hr4.symm) c5)
  refine lv_iinc (v := 6) (lv' := [(3, .int 6), (2, .ref m0), (1, .ref x0), (0, .ref b)]) hx hb dL_law_1950 hl (k := 0) rfl (by decide +kernel) (by decide) rfl (fun ls hl => ?_)
  refine lv_goto (tgt := 18) hx hb dL_law_1953 (by decide) ?_
  refine lv_iload_n hx hb dL_law_18 rfl (lv_at hl 0 rfl) ?_
  refine lv_aload_n hx hb dL_law_19 rfl (lv_at hl 3 rfl) ?_
  refine va_slen hx hb hX hbl hbA hS dL_law_20 ?_
  refine lv_bipush (v := 6) hx hb dL_law_21 (by decide +kernel) ?_
  refine lv_isub hx hb dL_law_23 ?_
  refine lv_topi (fun z6 ez6 => ?_)
  obtain rfl : z6 = 0 := ez6.trans (by decide +kernel)
  refine lv_icmp_gt (tgt := 1956) hx hb dL_law_24 (by decide) (fun c7 => ?_) (fun c7 => absurd (by decide +kernel) c7)
  refine lv_iconst (v := 1) hx hb dL_law_1956 (by decide +kernel) ?_
  refine va_forget (fun q hq => hS.2.2 q hq) ?_
  refine W.widen (k := 600000) (n := 7302249) (Nat.le_of_ble_eq_true rfl) (Nat.le_of_ble_eq_true rfl) ?_
  refine W.base ?_
  exact lw_ret (Drawn.sameBut.refl s.drawn lw_cs) hx hb hr hlocks dL_law_1957

set_option maxHeartbeats 4000000 in
set_option maxRecDepth 100000 in
theorem lw_case27 {p : Program} {e : Env} {s : State} {m : MethodId} {below : List Frame} {meth : Method} {c : Code} (l : Launch) {b : Nat} {xs : Nat → Int32} {dC : Nat → ClassId} {dI : Nat → Nat → Nat} (C0 : lw_At p s m meth c b 6 xs) {x0 tp nw dr rd sc sk fl ps sh nm nb dm db ss m0 mnw mhd mas mps msf mdt mhdd masd mpsd msfd mkp mtp mld mmd men mil mqu mbx : Nat} {kB kF kG kI kI2 kI3 kI4 kI5 kJ kJ2 kJ3 kJ4 kJ5 kZ kY : ClassId} {H : Heap} {locs : List Loc} {ls : Array Slot} (hK : va_K (dC, dI) vwCl [(kB, .byte), (kF, .object RX1), (kG, .object RX1), (kI, .int), (kI2, .int), (kI3, .int), (kI4, .int), (kI5, .int), (kJ, .long), (kJ2, .long), (kJ3, .long), (kJ4, .long), (kJ5, .long), (kZ, .boolean), (kY, .byte)] s) (hP : va_P (dC, dI) vwCl [(x0, .inr (6, [.ref tp, .int 0, .ref nw, .ref dr, .ref rd, .ref sc, .ref sk, .ref fl, .ref ps, .int 0, .int 0, .ref sh])), (tp, .inl (kB, 400, .inl (fun _ => 0))), (nw, .inr (1, [.ref nm, .ref nb, .int 0, .int 0, .int 0])), (dr, .inr (1, [.ref dm, .ref db, .int 0, .int 0, .int 0])), (rd, .inr (4, [.ref tp, .int 0, .int 0, .int 0, .int 0, .int 0])), (sc, .inr (5, [.ref nw, .ref ss, .int 0, .int (-1), .int 0, .int 0, .int 0, .int 0, .int 0])), (ps, .inl (kF, 10, .inr (.inr (.inr (.inr (fun _ => none)))))), (sh, .inl (kG, 2, .inr (.inr (.inr (.inr (fun _ => none)))))), (m0, .inr (7, [.ref mnw, .ref mhd, .ref mas, .ref mps, .ref msf, .ref mdt, .ref mhdd, .ref masd, .ref mpsd, .ref msfd, .ref mkp, .int 0, .ref mtp, .int 0, .int 0, .int 0, .int 0, .ref mld, .int 0, .ref mmd, .ref men, .ref mil, .ref mqu, .int 0, .int 0, .ref mbx])), (mnw, .inl (kI, 99, .inl (fun _ => 0))), (mhd, .inl (kI2, 99, .inl (fun _ => 0))), (mas, .inl (kI3, 99, .inl (fun _ => 0))), (mps, .inl (kI4, 990, .inl (fun _ => 0))), (msf, .inl (kI5, 198, .inl (fun _ => 0))), (mdt, .inl (kJ, 640, .inr (.inl (fun _ => 0)))), (mhdd, .inl (kJ2, 640, .inr (.inl (fun _ => 0)))), (masd, .inl (kJ3, 640, .inr (.inl (fun _ => 0)))), (mpsd, .inl (kJ4, 6400, .inr (.inl (fun _ => 0)))), (msfd, .inl (kJ5, 1280, .inr (.inl (fun _ => 0)))), (mkp, .inl (kZ, 2, .inl (fun _ => 0))), (mtp, .inl (kY, 400, .inl (fun _ => 0)))] H) (hD : va_D (fun q : Nat => s.heap.size ≤ q) [(x0, .inr (6, [.ref tp, .int 0, .ref nw, .ref dr, .ref rd, .ref sc, .ref sk, .ref fl, .ref ps, .int 0, .int 0, .ref sh])), (tp, .inl (kB, 400, .inl (fun _ => 0))), (nw, .inr (1, [.ref nm, .ref nb, .int 0, .int 0, .int 0])), (dr, .inr (1, [.ref dm, .ref db, .int 0, .int 0, .int 0])), (rd, .inr (4, [.ref tp, .int 0, .int 0, .int 0, .int 0, .int 0])), (sc, .inr (5, [.ref nw, .ref ss, .int 0, .int (-1), .int 0, .int 0, .int 0, .int 0, .int 0])), (ps, .inl (kF, 10, .inr (.inr (.inr (.inr (fun _ => none)))))), (sh, .inl (kG, 2, .inr (.inr (.inr (.inr (fun _ => none)))))), (m0, .inr (7, [.ref mnw, .ref mhd, .ref mas, .ref mps, .ref msf, .ref mdt, .ref mhdd, .ref masd, .ref mpsd, .ref msfd, .ref mkp, .int 0, .ref mtp, .int 0, .int 0, .int 0, .int 0, .ref mld, .int 0, .ref mmd, .ref men, .ref mil, .ref mqu, .int 0, .int 0, .ref mbx])), (mnw, .inl (kI, 99, .inl (fun _ => 0))), (mhd, .inl (kI2, 99, .inl (fun _ => 0))), (mas, .inl (kI3, 99, .inl (fun _ => 0))), (mps, .inl (kI4, 990, .inl (fun _ => 0))), (msf, .inl (kI5, 198, .inl (fun _ => 0))), (mdt, .inl (kJ, 640, .inr (.inl (fun _ => 0)))), (mhdd, .inl (kJ2, 640, .inr (.inl (fun _ => 0)))), (masd, .inl (kJ3, 640, .inr (.inl (fun _ => 0)))), (mpsd, .inl (kJ4, 6400, .inr (.inl (fun _ => 0)))), (msfd, .inl (kJ5, 1280, .inr (.inl (fun _ => 0)))), (mkp, .inl (kZ, 2, .inl (fun _ => 0))), (mtp, .inl (kY, 400, .inl (fun _ => 0)))]) (hS : va_S (fun q : Nat => s.heap.size ≤ q) s.heap H locs) (hl : lv_has ls 4 [(3, .int 0), (2, .ref m0), (1, .ref x0), (0, .ref b)]) : W p l e room_1 s m #[Value.ref b] below meth c H locs 110 27528 (lw_Z below #[Value.ref b] s) (F0 m 1136 ls []) := by
  obtain ⟨hx, hb, hr, hml, hown, htl, hX, hbl, hlocks, hgv⟩ := id C0
  have hb : c.code = cL_law := hb
  have hown : s.vm.findClass RL = some m.cls := hown
  have hts : ∀ w ∈ pw, w.before #[Value.ref b] s = true := fun w h => htl w (pw_tbl h)
  have hN : xN s := xN_of htl
  have hA : ∀ q : Nat, s.heap.size ≤ q → (fun q : Nat => s.heap.size ≤ q) q := fun _ h => h
  have hbA : ¬ (fun q : Nat => s.heap.size ≤ q) b := Nat.not_le.mpr hbl
  refine lv_aload_n hx hb dL_law_1136 rfl (lv_at hl 2 rfl) ?_
  refine lv_aload_n hx hb dL_law_1137 rfl (lv_at hl 3 rfl) ?_
  refine lv_iload_n hx hb dL_law_1138 rfl (lv_at hl 0 rfl) ?_
  refine lv_iconst (v := 1) hx hb dL_law_1139 (by decide +kernel) ?_
  refine lv_iadd hx hb dL_law_1140 ?_
  refine lv_topi (fun z1 ez1 => ?_)
  obtain rfl : z1 = 1 := ez1.trans (by decide +kernel)
  refine va_sld hx hb hX hbl hbA hS (in_d (by decide +kernel)) dL_law_1141 ?_
  have hPc := hP.sub (ws' := [(x0, .inr (6, [.ref tp, .int 0, .ref nw, .ref dr, .ref rd, .ref sc, .ref sk, .ref fl, .ref ps, .int 0, .int 0, .ref sh])), (nw, .inr (1, [.ref nm, .ref nb, .int 0, .int 0, .int 0]))]) [0, 2] rfl
  have hDc := hD.sub (ws' := [(x0, .inr (6, [.ref tp, .int 0, .ref nw, .ref dr, .ref rd, .ref sc, .ref sk, .ref fl, .ref ps, .int 0, .int 0, .ref sh])), (nw, .inr (1, [.ref nm, .ref nb, .int 0, .int 0, .int 0]))]) [0, 2] (by decide) rfl
  have hKc := hK.sub (tys' := []) [] rfl
  refine ro_i (va_runV (As := [.int (xs (1 : Int32).toNatClampNeg)]) (rest := []) ⟨hx, hb, hml, hown, hts⟩ (c_X6_sieve l dC dI x0 tp nw dr rd sc sk fl ps sh nm nb H.size (xs (1 : Int32).toNatClampNeg) ) (cwV 1 hts (gV pq998 pq999 pq1000 pq74 pq1001) rfl rfl rfl (by decide +kernel) ⟨(Nat.le_of_ble_eq_true rfl), (Nat.le_of_ble_eq_true rfl)⟩) (pc_V hPc hDc hKc hN (va_recv hK hP (ci := 6) (q0 := 0) rfl rfl)) rfl rfl hl.1 rfl (lv_room (Nat.le_of_ble_eq_true rfl)) dL_law_1142 ⟨(Nat.le_of_ble_eq_true rfl), (Nat.le_of_ble_eq_true rfl)⟩) hS hP (fun r2 H locs hr2 hP hS => ?_)
  refine lv_aload_n hx hb dL_law_1145 rfl (lv_at hl 1 rfl) ?_
  refine lv_aload_n hx hb dL_law_1146 rfl (lv_at hl 3 rfl) ?_
  refine lv_iload_n hx hb dL_law_1147 rfl (lv_at hl 0 rfl) ?_
  refine lv_iconst (v := 1) hx hb dL_law_1148 (by decide +kernel) ?_
  refine lv_iadd hx hb dL_law_1149 ?_
  refine lv_topi (fun z3 ez3 => ?_)
  obtain rfl : z3 = 1 := ez3.trans (by decide +kernel)
  refine va_sld hx hb hX hbl hbA hS (in_d (by decide +kernel)) dL_law_1150 ?_
  have hPc := hP.sub (ws' := [(m0, .inr (7, [.ref mnw, .ref mhd, .ref mas, .ref mps, .ref msf, .ref mdt, .ref mhdd, .ref masd, .ref mpsd, .ref msfd, .ref mkp, .int 0, .ref mtp, .int 0, .int 0, .int 0, .int 0, .ref mld, .int 0, .ref mmd, .ref men, .ref mil, .ref mqu, .int 0, .int 0, .ref mbx])), (mnw, .inl (kI, 99, .inl (fun _ => 0)))]) [8, 9] rfl
  have hDc := hD.sub (ws' := [(m0, .inr (7, [.ref mnw, .ref mhd, .ref mas, .ref mps, .ref msf, .ref mdt, .ref mhdd, .ref masd, .ref mpsd, .ref msfd, .ref mkp, .int 0, .ref mtp, .int 0, .int 0, .int 0, .int 0, .ref mld, .int 0, .ref mmd, .ref men, .ref mil, .ref mqu, .int 0, .int 0, .ref mbx])), (mnw, .inl (kI, 99, .inl (fun _ => 0)))]) [8, 9] (by decide) rfl
  have hKc := hK.sub (tys' := [(kI, .int)]) [3] rfl
  refine ro_i (va_runV (As := [.int (xs (1 : Int32).toNatClampNeg)]) (rest := [.int r2]) ⟨hx, hb, hml, hown, hts⟩ (c_X7_sieve l dC dI m0 mnw mhd mas mps msf mdt mhdd masd mpsd msfd mkp mtp mld mmd men mil mqu mbx kI H.size (xs (1 : Int32).toNatClampNeg) ) (cwV 1 hts (gV pq1591 pq1592 pq1593 pq81 pq1594) rfl rfl rfl (by decide +kernel) ⟨(Nat.le_of_ble_eq_true rfl), (Nat.le_of_ble_eq_true rfl)⟩) (pc_V hPc hDc hKc hN (va_recv hK hP (ci := 7) (q0 := 8) rfl rfl)) rfl rfl hl.1 rfl (lv_room (Nat.le_of_ble_eq_true rfl)) dL_law_1151 ⟨(Nat.le_of_ble_eq_true rfl), (Nat.le_of_ble_eq_true rfl)⟩) hS hP (fun r4 H locs hr4 hP hS => ?_)
  refine lv_icmp_eq (tgt := 1950) hx hb dL_law_1154 (by decide) (fun c5 => ?_) (fun c5 => absurd (hr2.trans hr4.symm) c5)
  refine lv_iinc (v := 6) (lv' := [(3, .int 6), (2, .ref m0), (1, .ref x0), (0, .ref b)]) hx hb dL_law_1950 hl (k := 0) rfl (by decide +kernel) (by decide) rfl (fun ls hl => ?_)
  refine lv_goto (tgt := 18) hx hb dL_law_1953 (by decide) ?_
  refine lv_iload_n hx hb dL_law_18 rfl (lv_at hl 0 rfl) ?_
  refine lv_aload_n hx hb dL_law_19 rfl (lv_at hl 3 rfl) ?_
  refine va_slen hx hb hX hbl hbA hS dL_law_20 ?_
  refine lv_bipush (v := 6) hx hb dL_law_21 (by decide +kernel) ?_
  refine lv_isub hx hb dL_law_23 ?_
  refine lv_topi (fun z6 ez6 => ?_)
  obtain rfl : z6 = 0 := ez6.trans (by decide +kernel)
  refine lv_icmp_gt (tgt := 1956) hx hb dL_law_24 (by decide) (fun c7 => ?_) (fun c7 => absurd (by decide +kernel) c7)
  refine lv_iconst (v := 1) hx hb dL_law_1956 (by decide +kernel) ?_
  refine va_forget (fun q hq => hS.2.2 q hq) ?_
  refine W.widen (k := 600000) (n := 7302249) (Nat.le_of_ble_eq_true rfl) (Nat.le_of_ble_eq_true rfl) ?_
  refine W.base ?_
  exact lw_ret (Drawn.sameBut.refl s.drawn lw_cs) hx hb hr hlocks dL_law_1957

set_option maxHeartbeats 4000000 in
set_option maxRecDepth 100000 in
theorem lw_case28 {p : Program} {e : Env} {s : State} {m : MethodId} {below : List Frame} {meth : Method} {c : Code} (l : Launch) {b : Nat} {xs : Nat → Int32} {dC : Nat → ClassId} {dI : Nat → Nat → Nat} (C0 : lw_At p s m meth c b 6 xs) {x0 tp nw dr rd sc sk fl ps sh nm nb dm db ss m0 mnw mhd mas mps msf mdt mhdd masd mpsd msfd mkp mtp mld mmd men mil mqu mbx : Nat} {kB kF kG kI kI2 kI3 kI4 kI5 kJ kJ2 kJ3 kJ4 kJ5 kZ kY : ClassId} {H : Heap} {locs : List Loc} {ls : Array Slot} (hK : va_K (dC, dI) vwCl [(kB, .byte), (kF, .object RX1), (kG, .object RX1), (kI, .int), (kI2, .int), (kI3, .int), (kI4, .int), (kI5, .int), (kJ, .long), (kJ2, .long), (kJ3, .long), (kJ4, .long), (kJ5, .long), (kZ, .boolean), (kY, .byte)] s) (hP : va_P (dC, dI) vwCl [(x0, .inr (6, [.ref tp, .int 0, .ref nw, .ref dr, .ref rd, .ref sc, .ref sk, .ref fl, .ref ps, .int 0, .int 0, .ref sh])), (tp, .inl (kB, 400, .inl (fun _ => 0))), (nw, .inr (1, [.ref nm, .ref nb, .int 0, .int 0, .int 0])), (dr, .inr (1, [.ref dm, .ref db, .int 0, .int 0, .int 0])), (rd, .inr (4, [.ref tp, .int 0, .int 0, .int 0, .int 0, .int 0])), (sc, .inr (5, [.ref nw, .ref ss, .int 0, .int (-1), .int 0, .int 0, .int 0, .int 0, .int 0])), (ps, .inl (kF, 10, .inr (.inr (.inr (.inr (fun _ => none)))))), (sh, .inl (kG, 2, .inr (.inr (.inr (.inr (fun _ => none)))))), (m0, .inr (7, [.ref mnw, .ref mhd, .ref mas, .ref mps, .ref msf, .ref mdt, .ref mhdd, .ref masd, .ref mpsd, .ref msfd, .ref mkp, .int 0, .ref mtp, .int 0, .int 0, .int 0, .int 0, .ref mld, .int 0, .ref mmd, .ref men, .ref mil, .ref mqu, .int 0, .int 0, .ref mbx])), (mnw, .inl (kI, 99, .inl (fun _ => 0))), (mhd, .inl (kI2, 99, .inl (fun _ => 0))), (mas, .inl (kI3, 99, .inl (fun _ => 0))), (mps, .inl (kI4, 990, .inl (fun _ => 0))), (msf, .inl (kI5, 198, .inl (fun _ => 0))), (mdt, .inl (kJ, 640, .inr (.inl (fun _ => 0)))), (mhdd, .inl (kJ2, 640, .inr (.inl (fun _ => 0)))), (masd, .inl (kJ3, 640, .inr (.inl (fun _ => 0)))), (mpsd, .inl (kJ4, 6400, .inr (.inl (fun _ => 0)))), (msfd, .inl (kJ5, 1280, .inr (.inl (fun _ => 0)))), (mkp, .inl (kZ, 2, .inl (fun _ => 0))), (mtp, .inl (kY, 400, .inl (fun _ => 0)))] H) (hD : va_D (fun q : Nat => s.heap.size ≤ q) [(x0, .inr (6, [.ref tp, .int 0, .ref nw, .ref dr, .ref rd, .ref sc, .ref sk, .ref fl, .ref ps, .int 0, .int 0, .ref sh])), (tp, .inl (kB, 400, .inl (fun _ => 0))), (nw, .inr (1, [.ref nm, .ref nb, .int 0, .int 0, .int 0])), (dr, .inr (1, [.ref dm, .ref db, .int 0, .int 0, .int 0])), (rd, .inr (4, [.ref tp, .int 0, .int 0, .int 0, .int 0, .int 0])), (sc, .inr (5, [.ref nw, .ref ss, .int 0, .int (-1), .int 0, .int 0, .int 0, .int 0, .int 0])), (ps, .inl (kF, 10, .inr (.inr (.inr (.inr (fun _ => none)))))), (sh, .inl (kG, 2, .inr (.inr (.inr (.inr (fun _ => none)))))), (m0, .inr (7, [.ref mnw, .ref mhd, .ref mas, .ref mps, .ref msf, .ref mdt, .ref mhdd, .ref masd, .ref mpsd, .ref msfd, .ref mkp, .int 0, .ref mtp, .int 0, .int 0, .int 0, .int 0, .ref mld, .int 0, .ref mmd, .ref men, .ref mil, .ref mqu, .int 0, .int 0, .ref mbx])), (mnw, .inl (kI, 99, .inl (fun _ => 0))), (mhd, .inl (kI2, 99, .inl (fun _ => 0))), (mas, .inl (kI3, 99, .inl (fun _ => 0))), (mps, .inl (kI4, 990, .inl (fun _ => 0))), (msf, .inl (kI5, 198, .inl (fun _ => 0))), (mdt, .inl (kJ, 640, .inr (.inl (fun _ => 0)))), (mhdd, .inl (kJ2, 640, .inr (.inl (fun _ => 0)))), (masd, .inl (kJ3, 640, .inr (.inl (fun _ => 0)))), (mpsd, .inl (kJ4, 6400, .inr (.inl (fun _ => 0)))), (msfd, .inl (kJ5, 1280, .inr (.inl (fun _ => 0)))), (mkp, .inl (kZ, 2, .inl (fun _ => 0))), (mtp, .inl (kY, 400, .inl (fun _ => 0)))]) (hS : va_S (fun q : Nat => s.heap.size ≤ q) s.heap H locs) (hl : lv_has ls 4 [(3, .int 0), (2, .ref m0), (1, .ref x0), (0, .ref b)]) : W p l e room_1 s m #[Value.ref b] below meth c H locs 110 27528 (lw_Z below #[Value.ref b] s) (F0 m 1159 ls []) := by
  obtain ⟨hx, hb, hr, hml, hown, htl, hX, hbl, hlocks, hgv⟩ := id C0
  have hb : c.code = cL_law := hb
  have hown : s.vm.findClass RL = some m.cls := hown
  have hts : ∀ w ∈ pw, w.before #[Value.ref b] s = true := fun w h => htl w (pw_tbl h)
  have hN : xN s := xN_of htl
  have hA : ∀ q : Nat, s.heap.size ≤ q → (fun q : Nat => s.heap.size ≤ q) q := fun _ h => h
  have hbA : ¬ (fun q : Nat => s.heap.size ≤ q) b := Nat.not_le.mpr hbl
  refine lv_aload_n hx hb dL_law_1159 rfl (lv_at hl 2 rfl) ?_
  refine lv_aload_n hx hb dL_law_1160 rfl (lv_at hl 3 rfl) ?_
  refine lv_iload_n hx hb dL_law_1161 rfl (lv_at hl 0 rfl) ?_
  refine lv_iconst (v := 1) hx hb dL_law_1162 (by decide +kernel) ?_
  refine lv_iadd hx hb dL_law_1163 ?_
  refine lv_topi (fun z1 ez1 => ?_)
  obtain rfl : z1 = 1 := ez1.trans (by decide +kernel)
  refine va_sld hx hb hX hbl hbA hS (in_d (by decide +kernel)) dL_law_1164 ?_
  have hPc := hP.sub (ws' := [(x0, .inr (6, [.ref tp, .int 0, .ref nw, .ref dr, .ref rd, .ref sc, .ref sk, .ref fl, .ref ps, .int 0, .int 0, .ref sh])), (nw, .inr (1, [.ref nm, .ref nb, .int 0, .int 0, .int 0]))]) [0, 2] rfl
  have hDc := hD.sub (ws' := [(x0, .inr (6, [.ref tp, .int 0, .ref nw, .ref dr, .ref rd, .ref sc, .ref sk, .ref fl, .ref ps, .int 0, .int 0, .ref sh])), (nw, .inr (1, [.ref nm, .ref nb, .int 0, .int 0, .int 0]))]) [0, 2] (by decide) rfl
  have hKc := hK.sub (tys' := []) [] rfl
  refine ro_i (va_runV (As := [.int (xs (1 : Int32).toNatClampNeg)]) (rest := []) ⟨hx, hb, hml, hown, hts⟩ (c_X6_touching l dC dI x0 tp nw dr rd sc sk fl ps sh nm nb H.size (xs (1 : Int32).toNatClampNeg) ) (cwV 1 hts (gV pq1011 pq1012 pq1013 pq74 pq1014) rfl rfl rfl (by decide +kernel) ⟨(Nat.le_of_ble_eq_true rfl), (Nat.le_of_ble_eq_true rfl)⟩) (pc_V hPc hDc hKc hN (va_recv hK hP (ci := 6) (q0 := 0) rfl rfl)) rfl rfl hl.1 rfl (lv_room (Nat.le_of_ble_eq_true rfl)) dL_law_1165 ⟨(Nat.le_of_ble_eq_true rfl), (Nat.le_of_ble_eq_true rfl)⟩) hS hP (fun r2 H locs hr2 hP hS => ?_)
  subst hr2
  refine lv_aload_n hx hb dL_law_1168 rfl (lv_at hl 1 rfl) ?_
  refine lv_aload_n hx hb dL_law_1169 rfl (lv_at hl 3 rfl) ?_
  refine lv_iload_n hx hb dL_law_1170 rfl (lv_at hl 0 rfl) ?_
  refine lv_iconst (v := 1) hx hb dL_law_1171 (by decide +kernel) ?_
  refine lv_iadd hx hb dL_law_1172 ?_
  refine lv_topi (fun z3 ez3 => ?_)
  obtain rfl : z3 = 1 := ez3.trans (by decide +kernel)
  refine va_sld hx hb hX hbl hbA hS (in_d (by decide +kernel)) dL_law_1173 ?_
  have hPc := hP.sub (ws' := [(m0, .inr (7, [.ref mnw, .ref mhd, .ref mas, .ref mps, .ref msf, .ref mdt, .ref mhdd, .ref masd, .ref mpsd, .ref msfd, .ref mkp, .int 0, .ref mtp, .int 0, .int 0, .int 0, .int 0, .ref mld, .int 0, .ref mmd, .ref men, .ref mil, .ref mqu, .int 0, .int 0, .ref mbx])), (mnw, .inl (kI, 99, .inl (fun _ => 0)))]) [8, 9] rfl
  have hDc := hD.sub (ws' := [(m0, .inr (7, [.ref mnw, .ref mhd, .ref mas, .ref mps, .ref msf, .ref mdt, .ref mhdd, .ref masd, .ref mpsd, .ref msfd, .ref mkp, .int 0, .ref mtp, .int 0, .int 0, .int 0, .int 0, .ref mld, .int 0, .ref mmd, .ref men, .ref mil, .ref mqu, .int 0, .int 0, .ref mbx])), (mnw, .inl (kI, 99, .inl (fun _ => 0)))]) [8, 9] (by decide) rfl
  have hKc := hK.sub (tys' := [(kI, .int)]) [3] rfl
  refine ro_i (va_runV (As := [.int (xs (1 : Int32).toNatClampNeg)]) (rest := [.int (-1)]) ⟨hx, hb, hml, hown, hts⟩ (c_X7_touching l dC dI m0 mnw mhd mas mps msf mdt mhdd masd mpsd msfd mkp mtp mld mmd men mil mqu mbx kI H.size (xs (1 : Int32).toNatClampNeg) ) (cwV 1 hts (gV pq1604 pq1605 pq1606 pq81 pq1607) rfl rfl rfl (by decide +kernel) ⟨(Nat.le_of_ble_eq_true rfl), (Nat.le_of_ble_eq_true rfl)⟩) (pc_V hPc hDc hKc hN (va_recv hK hP (ci := 7) (q0 := 8) rfl rfl)) rfl rfl hl.1 rfl (lv_room (Nat.le_of_ble_eq_true rfl)) dL_law_1174 ⟨(Nat.le_of_ble_eq_true rfl), (Nat.le_of_ble_eq_true rfl)⟩) hS hP (fun r4 H locs hr4 hP hS => ?_)
  subst hr4
  refine lv_icmp_eq (tgt := 1950) hx hb dL_law_1177 (by decide) (fun c5 => ?_) (fun c5 => absurd (by decide +kernel) c5)
  refine lv_iinc (v := 6) (lv' := [(3, .int 6), (2, .ref m0), (1, .ref x0), (0, .ref b)]) hx hb dL_law_1950 hl (k := 0) rfl (by decide +kernel) (by decide) rfl (fun ls hl => ?_)
  refine lv_goto (tgt := 18) hx hb dL_law_1953 (by decide) ?_
  refine lv_iload_n hx hb dL_law_18 rfl (lv_at hl 0 rfl) ?_
  refine lv_aload_n hx hb dL_law_19 rfl (lv_at hl 3 rfl) ?_
  refine va_slen hx hb hX hbl hbA hS dL_law_20 ?_
  refine lv_bipush (v := 6) hx hb dL_law_21 (by decide +kernel) ?_
  refine lv_isub hx hb dL_law_23 ?_
  refine lv_topi (fun z6 ez6 => ?_)
  obtain rfl : z6 = 0 := ez6.trans (by decide +kernel)
  refine lv_icmp_gt (tgt := 1956) hx hb dL_law_24 (by decide) (fun c7 => ?_) (fun c7 => absurd (by decide +kernel) c7)
  refine lv_iconst (v := 1) hx hb dL_law_1956 (by decide +kernel) ?_
  refine va_forget (fun q hq => hS.2.2 q hq) ?_
  refine W.widen (k := 600000) (n := 7302249) (Nat.le_of_ble_eq_true rfl) (Nat.le_of_ble_eq_true rfl) ?_
  refine W.base ?_
  exact lw_ret (Drawn.sameBut.refl s.drawn lw_cs) hx hb hr hlocks dL_law_1957

set_option maxHeartbeats 4000000 in
set_option maxRecDepth 100000 in
theorem lw_case29 {p : Program} {e : Env} {s : State} {m : MethodId} {below : List Frame} {meth : Method} {c : Code} (l : Launch) {b : Nat} {xs : Nat → Int32} {dC : Nat → ClassId} {dI : Nat → Nat → Nat} (C0 : lw_At p s m meth c b 6 xs) {x0 tp nw dr rd sc sk fl ps sh nm nb dm db ss m0 mnw mhd mas mps msf mdt mhdd masd mpsd msfd mkp mtp mld mmd men mil mqu mbx : Nat} {kB kF kG kI kI2 kI3 kI4 kI5 kJ kJ2 kJ3 kJ4 kJ5 kZ kY : ClassId} {H : Heap} {locs : List Loc} {ls : Array Slot} (hK : va_K (dC, dI) vwCl [(kB, .byte), (kF, .object RX1), (kG, .object RX1), (kI, .int), (kI2, .int), (kI3, .int), (kI4, .int), (kI5, .int), (kJ, .long), (kJ2, .long), (kJ3, .long), (kJ4, .long), (kJ5, .long), (kZ, .boolean), (kY, .byte)] s) (hP : va_P (dC, dI) vwCl [(x0, .inr (6, [.ref tp, .int 0, .ref nw, .ref dr, .ref rd, .ref sc, .ref sk, .ref fl, .ref ps, .int 0, .int 0, .ref sh])), (tp, .inl (kB, 400, .inl (fun _ => 0))), (nw, .inr (1, [.ref nm, .ref nb, .int 0, .int 0, .int 0])), (dr, .inr (1, [.ref dm, .ref db, .int 0, .int 0, .int 0])), (rd, .inr (4, [.ref tp, .int 0, .int 0, .int 0, .int 0, .int 0])), (sc, .inr (5, [.ref nw, .ref ss, .int 0, .int (-1), .int 0, .int 0, .int 0, .int 0, .int 0])), (ps, .inl (kF, 10, .inr (.inr (.inr (.inr (fun _ => none)))))), (sh, .inl (kG, 2, .inr (.inr (.inr (.inr (fun _ => none)))))), (m0, .inr (7, [.ref mnw, .ref mhd, .ref mas, .ref mps, .ref msf, .ref mdt, .ref mhdd, .ref masd, .ref mpsd, .ref msfd, .ref mkp, .int 0, .ref mtp, .int 0, .int 0, .int 0, .int 0, .ref mld, .int 0, .ref mmd, .ref men, .ref mil, .ref mqu, .int 0, .int 0, .ref mbx])), (mnw, .inl (kI, 99, .inl (fun _ => 0))), (mhd, .inl (kI2, 99, .inl (fun _ => 0))), (mas, .inl (kI3, 99, .inl (fun _ => 0))), (mps, .inl (kI4, 990, .inl (fun _ => 0))), (msf, .inl (kI5, 198, .inl (fun _ => 0))), (mdt, .inl (kJ, 640, .inr (.inl (fun _ => 0)))), (mhdd, .inl (kJ2, 640, .inr (.inl (fun _ => 0)))), (masd, .inl (kJ3, 640, .inr (.inl (fun _ => 0)))), (mpsd, .inl (kJ4, 6400, .inr (.inl (fun _ => 0)))), (msfd, .inl (kJ5, 1280, .inr (.inl (fun _ => 0)))), (mkp, .inl (kZ, 2, .inl (fun _ => 0))), (mtp, .inl (kY, 400, .inl (fun _ => 0)))] H) (hD : va_D (fun q : Nat => s.heap.size ≤ q) [(x0, .inr (6, [.ref tp, .int 0, .ref nw, .ref dr, .ref rd, .ref sc, .ref sk, .ref fl, .ref ps, .int 0, .int 0, .ref sh])), (tp, .inl (kB, 400, .inl (fun _ => 0))), (nw, .inr (1, [.ref nm, .ref nb, .int 0, .int 0, .int 0])), (dr, .inr (1, [.ref dm, .ref db, .int 0, .int 0, .int 0])), (rd, .inr (4, [.ref tp, .int 0, .int 0, .int 0, .int 0, .int 0])), (sc, .inr (5, [.ref nw, .ref ss, .int 0, .int (-1), .int 0, .int 0, .int 0, .int 0, .int 0])), (ps, .inl (kF, 10, .inr (.inr (.inr (.inr (fun _ => none)))))), (sh, .inl (kG, 2, .inr (.inr (.inr (.inr (fun _ => none)))))), (m0, .inr (7, [.ref mnw, .ref mhd, .ref mas, .ref mps, .ref msf, .ref mdt, .ref mhdd, .ref masd, .ref mpsd, .ref msfd, .ref mkp, .int 0, .ref mtp, .int 0, .int 0, .int 0, .int 0, .ref mld, .int 0, .ref mmd, .ref men, .ref mil, .ref mqu, .int 0, .int 0, .ref mbx])), (mnw, .inl (kI, 99, .inl (fun _ => 0))), (mhd, .inl (kI2, 99, .inl (fun _ => 0))), (mas, .inl (kI3, 99, .inl (fun _ => 0))), (mps, .inl (kI4, 990, .inl (fun _ => 0))), (msf, .inl (kI5, 198, .inl (fun _ => 0))), (mdt, .inl (kJ, 640, .inr (.inl (fun _ => 0)))), (mhdd, .inl (kJ2, 640, .inr (.inl (fun _ => 0)))), (masd, .inl (kJ3, 640, .inr (.inl (fun _ => 0)))), (mpsd, .inl (kJ4, 6400, .inr (.inl (fun _ => 0)))), (msfd, .inl (kJ5, 1280, .inr (.inl (fun _ => 0)))), (mkp, .inl (kZ, 2, .inl (fun _ => 0))), (mtp, .inl (kY, 400, .inl (fun _ => 0)))]) (hS : va_S (fun q : Nat => s.heap.size ≤ q) s.heap H locs) (hl : lv_has ls 4 [(3, .int 0), (2, .ref m0), (1, .ref x0), (0, .ref b)]) : W p l e room_1 s m #[Value.ref b] below meth c H locs 110 27528 (lw_Z below #[Value.ref b] s) (F0 m 1182 ls []) := by
  obtain ⟨hx, hb, hr, hml, hown, htl, hX, hbl, hlocks, hgv⟩ := id C0
  have hb : c.code = cL_law := hb
  have hown : s.vm.findClass RL = some m.cls := hown
  have hts : ∀ w ∈ pw, w.before #[Value.ref b] s = true := fun w h => htl w (pw_tbl h)
  have hN : xN s := xN_of htl
  have hA : ∀ q : Nat, s.heap.size ≤ q → (fun q : Nat => s.heap.size ≤ q) q := fun _ h => h
  have hbA : ¬ (fun q : Nat => s.heap.size ≤ q) b := Nat.not_le.mpr hbl
  refine lv_aload_n hx hb dL_law_1182 rfl (lv_at hl 2 rfl) ?_
  refine lv_aload_n hx hb dL_law_1183 rfl (lv_at hl 3 rfl) ?_
  refine lv_iload_n hx hb dL_law_1184 rfl (lv_at hl 0 rfl) ?_
  refine lv_iconst (v := 1) hx hb dL_law_1185 (by decide +kernel) ?_
  refine lv_iadd hx hb dL_law_1186 ?_
  refine lv_topi (fun z1 ez1 => ?_)
  obtain rfl : z1 = 1 := ez1.trans (by decide +kernel)
  refine va_sld hx hb hX hbl hbA hS (in_d (by decide +kernel)) dL_law_1187 ?_
  refine lv_aload_n hx hb dL_law_1188 rfl (lv_at hl 3 rfl) ?_
  refine lv_iload_n hx hb dL_law_1189 rfl (lv_at hl 0 rfl) ?_
  refine lv_iconst (v := 2) hx hb dL_law_1190 (by decide +kernel) ?_
  refine lv_iadd hx hb dL_law_1191 ?_
  refine lv_topi (fun z2 ez2 => ?_)
  obtain rfl : z2 = 2 := ez2.trans (by decide +kernel)
  refine va_sld hx hb hX hbl hbA hS (in_d (by decide +kernel)) dL_law_1192 ?_
  have hPc := hP.sub (ws' := [(x0, .inr (6, [.ref tp, .int 0, .ref nw, .ref dr, .ref rd, .ref sc, .ref sk, .ref fl, .ref ps, .int 0, .int 0, .ref sh])), (nw, .inr (1, [.ref nm, .ref nb, .int 0, .int 0, .int 0]))]) [0, 2] rfl
  have hDc := hD.sub (ws' := [(x0, .inr (6, [.ref tp, .int 0, .ref nw, .ref dr, .ref rd, .ref sc, .ref sk, .ref fl, .ref ps, .int 0, .int 0, .ref sh])), (nw, .inr (1, [.ref nm, .ref nb, .int 0, .int 0, .int 0]))]) [0, 2] (by decide) rfl
  have hKc := hK.sub (tys' := []) [] rfl
  refine ro_i (va_runV (As := [.int (xs (1 : Int32).toNatClampNeg), .int (xs (2 : Int32).toNatClampNeg)]) (rest := []) ⟨hx, hb, hml, hown, hts⟩ (c_X6_at l dC dI x0 tp nw dr rd sc sk fl ps sh nm nb H.size (xs (1 : Int32).toNatClampNeg) (xs (2 : Int32).toNatClampNeg) ) (cwV 2 hts (gV pq1015 pq1016 pq1017 pq74 pq1018) rfl rfl rfl (by decide +kernel) ⟨(Nat.le_of_ble_eq_true rfl), (Nat.le_of_ble_eq_true rfl)⟩) (pc_V hPc hDc hKc hN (va_recv hK hP (ci := 6) (q0 := 0) rfl rfl)) rfl rfl hl.1 rfl (lv_room (Nat.le_of_ble_eq_true rfl)) dL_law_1193 ⟨(Nat.le_of_ble_eq_true rfl), (Nat.le_of_ble_eq_true rfl)⟩) hS hP (fun r3 H locs hr3 hP hS => ?_)
  subst hr3
  refine lv_aload_n hx hb dL_law_1196 rfl (lv_at hl 1 rfl) ?_
  refine lv_aload_n hx hb dL_law_1197 rfl (lv_at hl 3 rfl) ?_
  refine lv_iload_n hx hb dL_law_1198 rfl (lv_at hl 0 rfl) ?_
  refine lv_iconst (v := 1) hx hb dL_law_1199 (by decide +kernel) ?_
  refine lv_iadd hx hb dL_law_1200 ?_
  refine lv_topi (fun z4 ez4 => ?_)
  obtain rfl : z4 = 1 := ez4.trans (by decide +kernel)
  refine va_sld hx hb hX hbl hbA hS (in_d (by decide +kernel)) dL_law_1201 ?_
  refine lv_aload_n hx hb dL_law_1202 rfl (lv_at hl 3 rfl) ?_
  refine lv_iload_n hx hb dL_law_1203 rfl (lv_at hl 0 rfl) ?_
  refine lv_iconst (v := 2) hx hb dL_law_1204 (by decide +kernel) ?_
  refine lv_iadd hx hb dL_law_1205 ?_
  refine lv_topi (fun z5 ez5 => ?_)
  obtain rfl : z5 = 2 := ez5.trans (by decide +kernel)
  refine va_sld hx hb hX hbl hbA hS (in_d (by decide +kernel)) dL_law_1206 ?_
  have hPc := hP.sub (ws' := [(m0, .inr (7, [.ref mnw, .ref mhd, .ref mas, .ref mps, .ref msf, .ref mdt, .ref mhdd, .ref masd, .ref mpsd, .ref msfd, .ref mkp, .int 0, .ref mtp, .int 0, .int 0, .int 0, .int 0, .ref mld, .int 0, .ref mmd, .ref men, .ref mil, .ref mqu, .int 0, .int 0, .ref mbx])), (mnw, .inl (kI, 99, .inl (fun _ => 0)))]) [8, 9] rfl
  have hDc := hD.sub (ws' := [(m0, .inr (7, [.ref mnw, .ref mhd, .ref mas, .ref mps, .ref msf, .ref mdt, .ref mhdd, .ref masd, .ref mpsd, .ref msfd, .ref mkp, .int 0, .ref mtp, .int 0, .int 0, .int 0, .int 0, .ref mld, .int 0, .ref mmd, .ref men, .ref mil, .ref mqu, .int 0, .int 0, .ref mbx])), (mnw, .inl (kI, 99, .inl (fun _ => 0)))]) [8, 9] (by decide) rfl
  have hKc := hK.sub (tys' := [(kI, .int)]) [3] rfl
  refine ro_i (va_runV (As := [.int (xs (1 : Int32).toNatClampNeg), .int (xs (2 : Int32).toNatClampNeg)]) (rest := [.int 0]) ⟨hx, hb, hml, hown, hts⟩ (c_X7_at l dC dI m0 mnw mhd mas mps msf mdt mhdd masd mpsd msfd mkp mtp mld mmd men mil mqu mbx kI H.size (xs (1 : Int32).toNatClampNeg) (xs (2 : Int32).toNatClampNeg) ) (cwV 2 hts (gV pq1608 pq1609 pq1610 pq81 pq1611) rfl rfl rfl (by decide +kernel) ⟨(Nat.le_of_ble_eq_true rfl), (Nat.le_of_ble_eq_true rfl)⟩) (pc_V hPc hDc hKc hN (va_recv hK hP (ci := 7) (q0 := 8) rfl rfl)) rfl rfl hl.1 rfl (lv_room (Nat.le_of_ble_eq_true rfl)) dL_law_1207 ⟨(Nat.le_of_ble_eq_true rfl), (Nat.le_of_ble_eq_true rfl)⟩) hS hP (fun r6 H locs hr6 hP hS => ?_)
  subst hr6
  refine lv_icmp_eq (tgt := 1950) hx hb dL_law_1210 (by decide) (fun c7 => ?_) (fun c7 => absurd (by decide +kernel) c7)
  refine lv_iinc (v := 6) (lv' := [(3, .int 6), (2, .ref m0), (1, .ref x0), (0, .ref b)]) hx hb dL_law_1950 hl (k := 0) rfl (by decide +kernel) (by decide) rfl (fun ls hl => ?_)
  refine lv_goto (tgt := 18) hx hb dL_law_1953 (by decide) ?_
  refine lv_iload_n hx hb dL_law_18 rfl (lv_at hl 0 rfl) ?_
  refine lv_aload_n hx hb dL_law_19 rfl (lv_at hl 3 rfl) ?_
  refine va_slen hx hb hX hbl hbA hS dL_law_20 ?_
  refine lv_bipush (v := 6) hx hb dL_law_21 (by decide +kernel) ?_
  refine lv_isub hx hb dL_law_23 ?_
  refine lv_topi (fun z8 ez8 => ?_)
  obtain rfl : z8 = 0 := ez8.trans (by decide +kernel)
  refine lv_icmp_gt (tgt := 1956) hx hb dL_law_24 (by decide) (fun c9 => ?_) (fun c9 => absurd (by decide +kernel) c9)
  refine lv_iconst (v := 1) hx hb dL_law_1956 (by decide +kernel) ?_
  refine va_forget (fun q hq => hS.2.2 q hq) ?_
  refine W.widen (k := 600000) (n := 7302249) (Nat.le_of_ble_eq_true rfl) (Nat.le_of_ble_eq_true rfl) ?_
  refine W.base ?_
  exact lw_ret (Drawn.sameBut.refl s.drawn lw_cs) hx hb hr hlocks dL_law_1957

set_option maxHeartbeats 4000000 in
set_option maxRecDepth 100000 in
theorem lw_case30 {p : Program} {e : Env} {s : State} {m : MethodId} {below : List Frame} {meth : Method} {c : Code} (l : Launch) {b : Nat} {xs : Nat → Int32} {dC : Nat → ClassId} {dI : Nat → Nat → Nat} (C0 : lw_At p s m meth c b 6 xs) {x0 tp nw dr rd sc sk fl ps sh nm nb dm db ss m0 mnw mhd mas mps msf mdt mhdd masd mpsd msfd mkp mtp mld mmd men mil mqu mbx : Nat} {kB kF kG kI kI2 kI3 kI4 kI5 kJ kJ2 kJ3 kJ4 kJ5 kZ kY : ClassId} {H : Heap} {locs : List Loc} {ls : Array Slot} (hK : va_K (dC, dI) vwCl [(kB, .byte), (kF, .object RX1), (kG, .object RX1), (kI, .int), (kI2, .int), (kI3, .int), (kI4, .int), (kI5, .int), (kJ, .long), (kJ2, .long), (kJ3, .long), (kJ4, .long), (kJ5, .long), (kZ, .boolean), (kY, .byte)] s) (hP : va_P (dC, dI) vwCl [(x0, .inr (6, [.ref tp, .int 0, .ref nw, .ref dr, .ref rd, .ref sc, .ref sk, .ref fl, .ref ps, .int 0, .int 0, .ref sh])), (tp, .inl (kB, 400, .inl (fun _ => 0))), (nw, .inr (1, [.ref nm, .ref nb, .int 0, .int 0, .int 0])), (dr, .inr (1, [.ref dm, .ref db, .int 0, .int 0, .int 0])), (rd, .inr (4, [.ref tp, .int 0, .int 0, .int 0, .int 0, .int 0])), (sc, .inr (5, [.ref nw, .ref ss, .int 0, .int (-1), .int 0, .int 0, .int 0, .int 0, .int 0])), (ps, .inl (kF, 10, .inr (.inr (.inr (.inr (fun _ => none)))))), (sh, .inl (kG, 2, .inr (.inr (.inr (.inr (fun _ => none)))))), (m0, .inr (7, [.ref mnw, .ref mhd, .ref mas, .ref mps, .ref msf, .ref mdt, .ref mhdd, .ref masd, .ref mpsd, .ref msfd, .ref mkp, .int 0, .ref mtp, .int 0, .int 0, .int 0, .int 0, .ref mld, .int 0, .ref mmd, .ref men, .ref mil, .ref mqu, .int 0, .int 0, .ref mbx])), (mnw, .inl (kI, 99, .inl (fun _ => 0))), (mhd, .inl (kI2, 99, .inl (fun _ => 0))), (mas, .inl (kI3, 99, .inl (fun _ => 0))), (mps, .inl (kI4, 990, .inl (fun _ => 0))), (msf, .inl (kI5, 198, .inl (fun _ => 0))), (mdt, .inl (kJ, 640, .inr (.inl (fun _ => 0)))), (mhdd, .inl (kJ2, 640, .inr (.inl (fun _ => 0)))), (masd, .inl (kJ3, 640, .inr (.inl (fun _ => 0)))), (mpsd, .inl (kJ4, 6400, .inr (.inl (fun _ => 0)))), (msfd, .inl (kJ5, 1280, .inr (.inl (fun _ => 0)))), (mkp, .inl (kZ, 2, .inl (fun _ => 0))), (mtp, .inl (kY, 400, .inl (fun _ => 0)))] H) (hD : va_D (fun q : Nat => s.heap.size ≤ q) [(x0, .inr (6, [.ref tp, .int 0, .ref nw, .ref dr, .ref rd, .ref sc, .ref sk, .ref fl, .ref ps, .int 0, .int 0, .ref sh])), (tp, .inl (kB, 400, .inl (fun _ => 0))), (nw, .inr (1, [.ref nm, .ref nb, .int 0, .int 0, .int 0])), (dr, .inr (1, [.ref dm, .ref db, .int 0, .int 0, .int 0])), (rd, .inr (4, [.ref tp, .int 0, .int 0, .int 0, .int 0, .int 0])), (sc, .inr (5, [.ref nw, .ref ss, .int 0, .int (-1), .int 0, .int 0, .int 0, .int 0, .int 0])), (ps, .inl (kF, 10, .inr (.inr (.inr (.inr (fun _ => none)))))), (sh, .inl (kG, 2, .inr (.inr (.inr (.inr (fun _ => none)))))), (m0, .inr (7, [.ref mnw, .ref mhd, .ref mas, .ref mps, .ref msf, .ref mdt, .ref mhdd, .ref masd, .ref mpsd, .ref msfd, .ref mkp, .int 0, .ref mtp, .int 0, .int 0, .int 0, .int 0, .ref mld, .int 0, .ref mmd, .ref men, .ref mil, .ref mqu, .int 0, .int 0, .ref mbx])), (mnw, .inl (kI, 99, .inl (fun _ => 0))), (mhd, .inl (kI2, 99, .inl (fun _ => 0))), (mas, .inl (kI3, 99, .inl (fun _ => 0))), (mps, .inl (kI4, 990, .inl (fun _ => 0))), (msf, .inl (kI5, 198, .inl (fun _ => 0))), (mdt, .inl (kJ, 640, .inr (.inl (fun _ => 0)))), (mhdd, .inl (kJ2, 640, .inr (.inl (fun _ => 0)))), (masd, .inl (kJ3, 640, .inr (.inl (fun _ => 0)))), (mpsd, .inl (kJ4, 6400, .inr (.inl (fun _ => 0)))), (msfd, .inl (kJ5, 1280, .inr (.inl (fun _ => 0)))), (mkp, .inl (kZ, 2, .inl (fun _ => 0))), (mtp, .inl (kY, 400, .inl (fun _ => 0)))]) (hS : va_S (fun q : Nat => s.heap.size ≤ q) s.heap H locs) (hl : lv_has ls 4 [(3, .int 0), (2, .ref m0), (1, .ref x0), (0, .ref b)]) : W p l e room_1 s m #[Value.ref b] below meth c H locs 110 27528 (lw_Z below #[Value.ref b] s) (F0 m 1215 ls []) := by
  obtain ⟨hx, hb, hr, hml, hown, htl, hX, hbl, hlocks, hgv⟩ := id C0
  have hb : c.code = cL_law := hb
  have hown : s.vm.findClass RL = some m.cls := hown
  have hts : ∀ w ∈ pw, w.before #[Value.ref b] s = true := fun w h => htl w (pw_tbl h)
  have hN : xN s := xN_of htl
  have hA : ∀ q : Nat, s.heap.size ≤ q → (fun q : Nat => s.heap.size ≤ q) q := fun _ h => h
  have hbA : ¬ (fun q : Nat => s.heap.size ≤ q) b := Nat.not_le.mpr hbl
  refine lv_aload_n hx hb dL_law_1215 rfl (lv_at hl 2 rfl) ?_
  refine lv_aload_n hx hb dL_law_1216 rfl (lv_at hl 3 rfl) ?_
  refine lv_iload_n hx hb dL_law_1217 rfl (lv_at hl 0 rfl) ?_
  refine lv_iconst (v := 1) hx hb dL_law_1218 (by decide +kernel) ?_
  refine lv_iadd hx hb dL_law_1219 ?_
  refine lv_topi (fun z1 ez1 => ?_)
  obtain rfl : z1 = 1 := ez1.trans (by decide +kernel)
  refine va_sld hx hb hX hbl hbA hS (in_d (by decide +kernel)) dL_law_1220 ?_
  refine lv_aload_n hx hb dL_law_1221 rfl (lv_at hl 3 rfl) ?_
  refine lv_iload_n hx hb dL_law_1222 rfl (lv_at hl 0 rfl) ?_
  refine lv_iconst (v := 2) hx hb dL_law_1223 (by decide +kernel) ?_
  refine lv_iadd hx hb dL_law_1224 ?_
  refine lv_topi (fun z2 ez2 => ?_)
  obtain rfl : z2 = 2 := ez2.trans (by decide +kernel)
  refine va_sld hx hb hX hbl hbA hS (in_d (by decide +kernel)) dL_law_1225 ?_
  refine lv_aload_n hx hb dL_law_1226 rfl (lv_at hl 3 rfl) ?_
  refine lv_iload_n hx hb dL_law_1227 rfl (lv_at hl 0 rfl) ?_
  refine lv_iconst (v := 3) hx hb dL_law_1228 (by decide +kernel) ?_
  refine lv_iadd hx hb dL_law_1229 ?_
  refine lv_topi (fun z3 ez3 => ?_)
  obtain rfl : z3 = 3 := ez3.trans (by decide +kernel)
  refine va_sld hx hb hX hbl hbA hS (in_d (by decide +kernel)) dL_law_1230 ?_
  have hPc := hP.sub (ws' := [(x0, .inr (6, [.ref tp, .int 0, .ref nw, .ref dr, .ref rd, .ref sc, .ref sk, .ref fl, .ref ps, .int 0, .int 0, .ref sh])), (nw, .inr (1, [.ref nm, .ref nb, .int 0, .int 0, .int 0]))]) [0, 2] rfl
  have hDc := hD.sub (ws' := [(x0, .inr (6, [.ref tp, .int 0, .ref nw, .ref dr, .ref rd, .ref sc, .ref sk, .ref fl, .ref ps, .int 0, .int 0, .ref sh])), (nw, .inr (1, [.ref nm, .ref nb, .int 0, .int 0, .int 0]))]) [0, 2] (by decide) rfl
  have hKc := hK.sub (tys' := []) [] rfl
  refine ro_i (va_runV (As := [.int (xs (1 : Int32).toNatClampNeg), .int (xs (2 : Int32).toNatClampNeg), .int (xs (3 : Int32).toNatClampNeg)]) (rest := []) ⟨hx, hb, hml, hown, hts⟩ (c_X6_first l dC dI x0 tp nw dr rd sc sk fl ps sh nm nb H.size (xs (1 : Int32).toNatClampNeg) (xs (2 : Int32).toNatClampNeg) (xs (3 : Int32).toNatClampNeg) ) (cwV 3 hts (gV pq1024 pq1025 pq1026 pq74 pq1027) rfl rfl rfl (by decide +kernel) ⟨(Nat.le_of_ble_eq_true rfl), (Nat.le_of_ble_eq_true rfl)⟩) (pc_V hPc hDc hKc hN (va_recv hK hP (ci := 6) (q0 := 0) rfl rfl)) rfl rfl hl.1 rfl (lv_room (Nat.le_of_ble_eq_true rfl)) dL_law_1231 ⟨(Nat.le_of_ble_eq_true rfl), (Nat.le_of_ble_eq_true rfl)⟩) hS hP (fun r4 H locs hr4 hP hS => ?_)
  subst hr4
  refine lv_aload_n hx hb dL_law_1234 rfl (lv_at hl 1 rfl) ?_
  refine lv_aload_n hx hb dL_law_1235 rfl (lv_at hl 3 rfl) ?_
  refine lv_iload_n hx hb dL_law_1236 rfl (lv_at hl 0 rfl) ?_
  refine lv_iconst (v := 1) hx hb dL_law_1237 (by decide +kernel) ?_
  refine lv_iadd hx hb dL_law_1238 ?_
  refine lv_topi (fun z5 ez5 => ?_)
  obtain rfl : z5 = 1 := ez5.trans (by decide +kernel)
  refine va_sld hx hb hX hbl hbA hS (in_d (by decide +kernel)) dL_law_1239 ?_
  refine lv_aload_n hx hb dL_law_1240 rfl (lv_at hl 3 rfl) ?_
  refine lv_iload_n hx hb dL_law_1241 rfl (lv_at hl 0 rfl) ?_
  refine lv_iconst (v := 2) hx hb dL_law_1242 (by decide +kernel) ?_
  refine lv_iadd hx hb dL_law_1243 ?_
  refine lv_topi (fun z6 ez6 => ?_)
  obtain rfl : z6 = 2 := ez6.trans (by decide +kernel)
  refine va_sld hx hb hX hbl hbA hS (in_d (by decide +kernel)) dL_law_1244 ?_
  refine lv_aload_n hx hb dL_law_1245 rfl (lv_at hl 3 rfl) ?_
  refine lv_iload_n hx hb dL_law_1246 rfl (lv_at hl 0 rfl) ?_
  refine lv_iconst (v := 3) hx hb dL_law_1247 (by decide +kernel) ?_
  refine lv_iadd hx hb dL_law_1248 ?_
  refine lv_topi (fun z7 ez7 => ?_)
  obtain rfl : z7 = 3 := ez7.trans (by decide +kernel)
  refine va_sld hx hb hX hbl hbA hS (in_d (by decide +kernel)) dL_law_1249 ?_
  have hPc := hP.sub (ws' := [(m0, .inr (7, [.ref mnw, .ref mhd, .ref mas, .ref mps, .ref msf, .ref mdt, .ref mhdd, .ref masd, .ref mpsd, .ref msfd, .ref mkp, .int 0, .ref mtp, .int 0, .int 0, .int 0, .int 0, .ref mld, .int 0, .ref mmd, .ref men, .ref mil, .ref mqu, .int 0, .int 0, .ref mbx])), (mnw, .inl (kI, 99, .inl (fun _ => 0)))]) [8, 9] rfl
  have hDc := hD.sub (ws' := [(m0, .inr (7, [.ref mnw, .ref mhd, .ref mas, .ref mps, .ref msf, .ref mdt, .ref mhdd, .ref masd, .ref mpsd, .ref msfd, .ref mkp, .int 0, .ref mtp, .int 0, .int 0, .int 0, .int 0, .ref mld, .int 0, .ref mmd, .ref men, .ref mil, .ref mqu, .int 0, .int 0, .ref mbx])), (mnw, .inl (kI, 99, .inl (fun _ => 0)))]) [8, 9] (by decide) rfl
  have hKc := hK.sub (tys' := [(kI, .int)]) [3] rfl
  refine ro_i (va_runV (As := [.int (xs (1 : Int32).toNatClampNeg), .int (xs (2 : Int32).toNatClampNeg), .int (xs (3 : Int32).toNatClampNeg)]) (rest := [.int (-1)]) ⟨hx, hb, hml, hown, hts⟩ (c_X7_first l dC dI m0 mnw mhd mas mps msf mdt mhdd masd mpsd msfd mkp mtp mld mmd men mil mqu mbx kI H.size (xs (1 : Int32).toNatClampNeg) (xs (2 : Int32).toNatClampNeg) (xs (3 : Int32).toNatClampNeg) ) (cwV 3 hts (gV pq1616 pq1617 pq1618 pq81 pq1619) rfl rfl rfl (by decide +kernel) ⟨(Nat.le_of_ble_eq_true rfl), (Nat.le_of_ble_eq_true rfl)⟩) (pc_V hPc hDc hKc hN (va_recv hK hP (ci := 7) (q0 := 8) rfl rfl)) rfl rfl hl.1 rfl (lv_room (Nat.le_of_ble_eq_true rfl)) dL_law_1250 ⟨(Nat.le_of_ble_eq_true rfl), (Nat.le_of_ble_eq_true rfl)⟩) hS hP (fun r8 H locs hr8 hP hS => ?_)
  subst hr8
  refine lv_icmp_eq (tgt := 1950) hx hb dL_law_1253 (by decide) (fun c9 => ?_) (fun c9 => absurd (by decide +kernel) c9)
  refine lv_iinc (v := 6) (lv' := [(3, .int 6), (2, .ref m0), (1, .ref x0), (0, .ref b)]) hx hb dL_law_1950 hl (k := 0) rfl (by decide +kernel) (by decide) rfl (fun ls hl => ?_)
  refine lv_goto (tgt := 18) hx hb dL_law_1953 (by decide) ?_
  refine lv_iload_n hx hb dL_law_18 rfl (lv_at hl 0 rfl) ?_
  refine lv_aload_n hx hb dL_law_19 rfl (lv_at hl 3 rfl) ?_
  refine va_slen hx hb hX hbl hbA hS dL_law_20 ?_
  refine lv_bipush (v := 6) hx hb dL_law_21 (by decide +kernel) ?_
  refine lv_isub hx hb dL_law_23 ?_
  refine lv_topi (fun z10 ez10 => ?_)
  obtain rfl : z10 = 0 := ez10.trans (by decide +kernel)
  refine lv_icmp_gt (tgt := 1956) hx hb dL_law_24 (by decide) (fun c11 => ?_) (fun c11 => absurd (by decide +kernel) c11)
  refine lv_iconst (v := 1) hx hb dL_law_1956 (by decide +kernel) ?_
  refine va_forget (fun q hq => hS.2.2 q hq) ?_
  refine W.widen (k := 600000) (n := 7302249) (Nat.le_of_ble_eq_true rfl) (Nat.le_of_ble_eq_true rfl) ?_
  refine W.base ?_
  exact lw_ret (Drawn.sameBut.refl s.drawn lw_cs) hx hb hr hlocks dL_law_1957

set_option maxHeartbeats 4000000 in
set_option maxRecDepth 100000 in
theorem lw_case31 {p : Program} {e : Env} {s : State} {m : MethodId} {below : List Frame} {meth : Method} {c : Code} (l : Launch) {b : Nat} {xs : Nat → Int32} {dC : Nat → ClassId} {dI : Nat → Nat → Nat} (C0 : lw_At p s m meth c b 6 xs) {x0 tp nw dr rd sc sk fl ps sh nm nb dm db ss m0 mnw mhd mas mps msf mdt mhdd masd mpsd msfd mkp mtp mld mmd men mil mqu mbx : Nat} {kB kF kG kI kI2 kI3 kI4 kI5 kJ kJ2 kJ3 kJ4 kJ5 kZ kY : ClassId} {H : Heap} {locs : List Loc} {ls : Array Slot} (hK : va_K (dC, dI) vwCl [(kB, .byte), (kF, .object RX1), (kG, .object RX1), (kI, .int), (kI2, .int), (kI3, .int), (kI4, .int), (kI5, .int), (kJ, .long), (kJ2, .long), (kJ3, .long), (kJ4, .long), (kJ5, .long), (kZ, .boolean), (kY, .byte)] s) (hP : va_P (dC, dI) vwCl [(x0, .inr (6, [.ref tp, .int 0, .ref nw, .ref dr, .ref rd, .ref sc, .ref sk, .ref fl, .ref ps, .int 0, .int 0, .ref sh])), (tp, .inl (kB, 400, .inl (fun _ => 0))), (nw, .inr (1, [.ref nm, .ref nb, .int 0, .int 0, .int 0])), (dr, .inr (1, [.ref dm, .ref db, .int 0, .int 0, .int 0])), (rd, .inr (4, [.ref tp, .int 0, .int 0, .int 0, .int 0, .int 0])), (sc, .inr (5, [.ref nw, .ref ss, .int 0, .int (-1), .int 0, .int 0, .int 0, .int 0, .int 0])), (ps, .inl (kF, 10, .inr (.inr (.inr (.inr (fun _ => none)))))), (sh, .inl (kG, 2, .inr (.inr (.inr (.inr (fun _ => none)))))), (m0, .inr (7, [.ref mnw, .ref mhd, .ref mas, .ref mps, .ref msf, .ref mdt, .ref mhdd, .ref masd, .ref mpsd, .ref msfd, .ref mkp, .int 0, .ref mtp, .int 0, .int 0, .int 0, .int 0, .ref mld, .int 0, .ref mmd, .ref men, .ref mil, .ref mqu, .int 0, .int 0, .ref mbx])), (mnw, .inl (kI, 99, .inl (fun _ => 0))), (mhd, .inl (kI2, 99, .inl (fun _ => 0))), (mas, .inl (kI3, 99, .inl (fun _ => 0))), (mps, .inl (kI4, 990, .inl (fun _ => 0))), (msf, .inl (kI5, 198, .inl (fun _ => 0))), (mdt, .inl (kJ, 640, .inr (.inl (fun _ => 0)))), (mhdd, .inl (kJ2, 640, .inr (.inl (fun _ => 0)))), (masd, .inl (kJ3, 640, .inr (.inl (fun _ => 0)))), (mpsd, .inl (kJ4, 6400, .inr (.inl (fun _ => 0)))), (msfd, .inl (kJ5, 1280, .inr (.inl (fun _ => 0)))), (mkp, .inl (kZ, 2, .inl (fun _ => 0))), (mtp, .inl (kY, 400, .inl (fun _ => 0)))] H) (hD : va_D (fun q : Nat => s.heap.size ≤ q) [(x0, .inr (6, [.ref tp, .int 0, .ref nw, .ref dr, .ref rd, .ref sc, .ref sk, .ref fl, .ref ps, .int 0, .int 0, .ref sh])), (tp, .inl (kB, 400, .inl (fun _ => 0))), (nw, .inr (1, [.ref nm, .ref nb, .int 0, .int 0, .int 0])), (dr, .inr (1, [.ref dm, .ref db, .int 0, .int 0, .int 0])), (rd, .inr (4, [.ref tp, .int 0, .int 0, .int 0, .int 0, .int 0])), (sc, .inr (5, [.ref nw, .ref ss, .int 0, .int (-1), .int 0, .int 0, .int 0, .int 0, .int 0])), (ps, .inl (kF, 10, .inr (.inr (.inr (.inr (fun _ => none)))))), (sh, .inl (kG, 2, .inr (.inr (.inr (.inr (fun _ => none)))))), (m0, .inr (7, [.ref mnw, .ref mhd, .ref mas, .ref mps, .ref msf, .ref mdt, .ref mhdd, .ref masd, .ref mpsd, .ref msfd, .ref mkp, .int 0, .ref mtp, .int 0, .int 0, .int 0, .int 0, .ref mld, .int 0, .ref mmd, .ref men, .ref mil, .ref mqu, .int 0, .int 0, .ref mbx])), (mnw, .inl (kI, 99, .inl (fun _ => 0))), (mhd, .inl (kI2, 99, .inl (fun _ => 0))), (mas, .inl (kI3, 99, .inl (fun _ => 0))), (mps, .inl (kI4, 990, .inl (fun _ => 0))), (msf, .inl (kI5, 198, .inl (fun _ => 0))), (mdt, .inl (kJ, 640, .inr (.inl (fun _ => 0)))), (mhdd, .inl (kJ2, 640, .inr (.inl (fun _ => 0)))), (masd, .inl (kJ3, 640, .inr (.inl (fun _ => 0)))), (mpsd, .inl (kJ4, 6400, .inr (.inl (fun _ => 0)))), (msfd, .inl (kJ5, 1280, .inr (.inl (fun _ => 0)))), (mkp, .inl (kZ, 2, .inl (fun _ => 0))), (mtp, .inl (kY, 400, .inl (fun _ => 0)))]) (hS : va_S (fun q : Nat => s.heap.size ≤ q) s.heap H locs) (hl : lv_has ls 4 [(3, .int 0), (2, .ref m0), (1, .ref x0), (0, .ref b)]) : W p l e room_1 s m #[Value.ref b] below meth c H locs 110 27528 (lw_Z below #[Value.ref b] s) (F0 m 1258 ls []) := by
  obtain ⟨hx, hb, hr, hml, hown, htl, hX, hbl, hlocks, hgv⟩ := id C0
  have hb : c.code = cL_law := hb
  have hown : s.vm.findClass RL = some m.cls := hown
  have hts : ∀ w ∈ pw, w.before #[Value.ref b] s = true := fun w h => htl w (pw_tbl h)
  have hN : xN s := xN_of htl
  have hA : ∀ q : Nat, s.heap.size ≤ q → (fun q : Nat => s.heap.size ≤ q) q := fun _ h => h
  have hbA : ¬ (fun q : Nat => s.heap.size ≤ q) b := Nat.not_le.mpr hbl
  refine lv_aload_n hx hb dL_law_1258 rfl (lv_at hl 2 rfl) ?_
  refine lv_aload_n hx hb dL_law_1259 rfl (lv_at hl 3 rfl) ?_
  refine lv_iload_n hx hb dL_law_1260 rfl (lv_at hl 0 rfl) ?_
  refine lv_iconst (v := 1) hx hb dL_law_1261 (by decide +kernel) ?_
  refine lv_iadd hx hb dL_law_1262 ?_
  refine lv_topi (fun z1 ez1 => ?_)
  obtain rfl : z1 = 1 := ez1.trans (by decide +kernel)
  refine va_sld hx hb hX hbl hbA hS (in_d (by decide +kernel)) dL_law_1263 ?_
  refine lv_aload_n hx hb dL_law_1264 rfl (lv_at hl 3 rfl) ?_
  refine lv_iload_n hx hb dL_law_1265 rfl (lv_at hl 0 rfl) ?_
  refine lv_iconst (v := 2) hx hb dL_law_1266 (by decide +kernel) ?_
  refine lv_iadd hx hb dL_law_1267 ?_
  refine lv_topi (fun z2 ez2 => ?_)
  obtain rfl : z2 = 2 := ez2.trans (by decide +kernel)
  refine va_sld hx hb hX hbl hbA hS (in_d (by decide +kernel)) dL_law_1268 ?_
  refine lv_aload_n hx hb dL_law_1269 rfl (lv_at hl 3 rfl) ?_
  refine lv_iload_n hx hb dL_law_1270 rfl (lv_at hl 0 rfl) ?_
  refine lv_iconst (v := 3) hx hb dL_law_1271 (by decide +kernel) ?_
  refine lv_iadd hx hb dL_law_1272 ?_
  refine lv_topi (fun z3 ez3 => ?_)
  obtain rfl : z3 = 3 := ez3.trans (by decide +kernel)
  refine va_sld hx hb hX hbl hbA hS (in_d (by decide +kernel)) dL_law_1273 ?_
  refine lv_aload_n hx hb dL_law_1274 rfl (lv_at hl 3 rfl) ?_
  refine lv_iload_n hx hb dL_law_1275 rfl (lv_at hl 0 rfl) ?_
  refine lv_iconst (v := 4) hx hb dL_law_1276 (by decide +kernel) ?_
  refine lv_iadd hx hb dL_law_1277 ?_
  refine lv_topi (fun z4 ez4 => ?_)
  obtain rfl : z4 = 4 := ez4.trans (by decide +kernel)
  refine va_sld hx hb hX hbl hbA hS (in_d (by decide +kernel)) dL_law_1278 ?_
  have hPc := hP.sub (ws' := [(x0, .inr (6, [.ref tp, .int 0, .ref nw, .ref dr, .ref rd, .ref sc, .ref sk, .ref fl, .ref ps, .int 0, .int 0, .ref sh])), (nw, .inr (1, [.ref nm, .ref nb, .int 0, .int 0, .int 0]))]) [0, 2] rfl
  have hDc := hD.sub (ws' := [(x0, .inr (6, [.ref tp, .int 0, .ref nw, .ref dr, .ref rd, .ref sc, .ref sk, .ref fl, .ref ps, .int 0, .int 0, .ref sh])), (nw, .inr (1, [.ref nm, .ref nb, .int 0, .int 0, .int 0]))]) [0, 2] (by decide) rfl
  have hKc := hK.sub (tys' := []) [] rfl
  refine ro_i (va_runV (As := [.int (xs (1 : Int32).toNatClampNeg), .int (xs (2 : Int32).toNatClampNeg), .int (xs (3 : Int32).toNatClampNeg), .int (xs (4 : Int32).toNatClampNeg)]) (rest := []) ⟨hx, hb, hml, hown, hts⟩ (c_X6_reach l dC dI x0 tp nw dr rd sc sk fl ps sh nm nb H.size (xs (1 : Int32).toNatClampNeg) (xs (2 : Int32).toNatClampNeg) (xs (3 : Int32).toNatClampNeg) (xs (4 : Int32).toNatClampNeg) ) (cwV 4 hts (gV pq1032 pq1033 pq1034 pq74 pq1035) rfl rfl rfl (by decide +kernel) ⟨(Nat.le_of_ble_eq_true rfl), (Nat.le_of_ble_eq_true rfl)⟩) (pc_V hPc hDc hKc hN (va_recv hK hP (ci := 6) (q0 := 0) rfl rfl)) rfl rfl hl.1 rfl (lv_room (Nat.le_of_ble_eq_true rfl)) dL_law_1279 ⟨(Nat.le_of_ble_eq_true rfl), (Nat.le_of_ble_eq_true rfl)⟩) hS hP (fun r5 H locs hr5 hP hS => ?_)
  subst hr5
  refine lv_aload_n hx hb dL_law_1282 rfl (lv_at hl 1 rfl) ?_
  refine lv_aload_n hx hb dL_law_1283 rfl (lv_at hl 3 rfl) ?_
  refine lv_iload_n hx hb dL_law_1284 rfl (lv_at hl 0 rfl) ?_
  refine lv_iconst (v := 1) hx hb dL_law_1285 (by decide +kernel) ?_
  refine lv_iadd hx hb dL_law_1286 ?_
  refine lv_topi (fun z6 ez6 => ?_)
  obtain rfl : z6 = 1 := ez6.trans (by decide +kernel)
  refine va_sld hx hb hX hbl hbA hS (in_d (by decide +kernel)) dL_law_1287 ?_
  refine lv_aload_n hx hb dL_law_1288 rfl (lv_at hl 3 rfl) ?_
  refine lv_iload_n hx hb dL_law_1289 rfl (lv_at hl 0 rfl) ?_
  refine lv_iconst (v := 2) hx hb dL_law_1290 (by decide +kernel) ?_
  refine lv_iadd hx hb dL_law_1291 ?_
  refine lv_topi (fun z7 ez7 => ?_)
  obtain rfl : z7 = 2 := ez7.trans (by decide +kernel)
  refine va_sld hx hb hX hbl hbA hS (in_d (by decide +kernel)) dL_law_1292 ?_
  refine lv_aload_n hx hb dL_law_1293 rfl (lv_at hl 3 rfl) ?_
  refine lv_iload_n hx hb dL_law_1294 rfl (lv_at hl 0 rfl) ?_
  refine lv_iconst (v := 3) hx hb dL_law_1295 (by decide +kernel) ?_
  refine lv_iadd hx hb dL_law_1296 ?_
  refine lv_topi (fun z8 ez8 => ?_)
  obtain rfl : z8 = 3 := ez8.trans (by decide +kernel)
  refine va_sld hx hb hX hbl hbA hS (in_d (by decide +kernel)) dL_law_1297 ?_
  refine lv_aload_n hx hb dL_law_1298 rfl (lv_at hl 3 rfl) ?_
  refine lv_iload_n hx hb dL_law_1299 rfl (lv_at hl 0 rfl) ?_
  refine lv_iconst (v := 4) hx hb dL_law_1300 (by decide +kernel) ?_
  refine lv_iadd hx hb dL_law_1301 ?_
  refine lv_topi (fun z9 ez9 => ?_)
  obtain rfl : z9 = 4 := ez9.trans (by decide +kernel)
  refine va_sld hx hb hX hbl hbA hS (in_d (by decide +kernel)) dL_law_1302 ?_
  have hPc := hP.sub (ws' := [(m0, .inr (7, [.ref mnw, .ref mhd, .ref mas, .ref mps, .ref msf, .ref mdt, .ref mhdd, .ref masd, .ref mpsd, .ref msfd, .ref mkp, .int 0, .ref mtp, .int 0, .int 0, .int 0, .int 0, .ref mld, .int 0, .ref mmd, .ref men, .ref mil, .ref mqu, .int 0, .int 0, .ref mbx])), (mnw, .inl (kI, 99, .inl (fun _ => 0)))]) [8, 9] rfl
  have hDc := hD.sub (ws' := [(m0, .inr (7, [.ref mnw, .ref mhd, .ref mas, .ref mps, .ref msf, .ref mdt, .ref mhdd, .ref masd, .ref mpsd, .ref msfd, .ref mkp, .int 0, .ref mtp, .int 0, .int 0, .int 0, .int 0, .ref mld, .int 0, .ref mmd, .ref men, .ref mil, .ref mqu, .int 0, .int 0, .ref mbx])), (mnw, .inl (kI, 99, .inl (fun _ => 0)))]) [8, 9] (by decide) rfl
  have hKc := hK.sub (tys' := [(kI, .int)]) [3] rfl
  refine ro_i (va_runV (As := [.int (xs (1 : Int32).toNatClampNeg), .int (xs (2 : Int32).toNatClampNeg), .int (xs (3 : Int32).toNatClampNeg), .int (xs (4 : Int32).toNatClampNeg)]) (rest := [.int (-1)]) ⟨hx, hb, hml, hown, hts⟩ (c_X7_reach l dC dI m0 mnw mhd mas mps msf mdt mhdd masd mpsd msfd mkp mtp mld mmd men mil mqu mbx kI H.size (xs (1 : Int32).toNatClampNeg) (xs (2 : Int32).toNatClampNeg) (xs (3 : Int32).toNatClampNeg) (xs (4 : Int32).toNatClampNeg) ) (cwV 4 hts (gV pq1621 pq1622 pq1623 pq81 pq1624) rfl rfl rfl (by decide +kernel) ⟨(Nat.le_of_ble_eq_true rfl), (Nat.le_of_ble_eq_true rfl)⟩) (pc_V hPc hDc hKc hN (va_recv hK hP (ci := 7) (q0 := 8) rfl rfl)) rfl rfl hl.1 rfl (lv_room (Nat.le_of_ble_eq_true rfl)) dL_law_1303 ⟨(Nat.le_of_ble_eq_true rfl), (Nat.le_of_ble_eq_true rfl)⟩) hS hP (fun r10 H locs hr10 hP hS => ?_)
  subst hr10
  refine lv_icmp_eq (tgt := 1950) hx hb dL_law_1306 (by decide) (fun c11 => ?_) (fun c11 => absurd (by decide +kernel) c11)
  refine lv_iinc (v := 6) (lv' := [(3, .int 6), (2, .ref m0), (1, .ref x0), (0, .ref b)]) hx hb dL_law_1950 hl (k := 0) rfl (by decide +kernel) (by decide) rfl (fun ls hl => ?_)
  refine lv_goto (tgt := 18) hx hb dL_law_1953 (by decide) ?_
  refine lv_iload_n hx hb dL_law_18 rfl (lv_at hl 0 rfl) ?_
  refine lv_aload_n hx hb dL_law_19 rfl (lv_at hl 3 rfl) ?_
  refine va_slen hx hb hX hbl hbA hS dL_law_20 ?_
  refine lv_bipush (v := 6) hx hb dL_law_21 (by decide +kernel) ?_
  refine lv_isub hx hb dL_law_23 ?_
  refine lv_topi (fun z12 ez12 => ?_)
  obtain rfl : z12 = 0 := ez12.trans (by decide +kernel)
  refine lv_icmp_gt (tgt := 1956) hx hb dL_law_24 (by decide) (fun c13 => ?_) (fun c13 => absurd (by decide +kernel) c13)
  refine lv_iconst (v := 1) hx hb dL_law_1956 (by decide +kernel) ?_
  refine va_forget (fun q hq => hS.2.2 q hq) ?_
  refine W.widen (k := 600000) (n := 7302249) (Nat.le_of_ble_eq_true rfl) (Nat.le_of_ble_eq_true rfl) ?_
  refine W.base ?_
  exact lw_ret (Drawn.sameBut.refl s.drawn lw_cs) hx hb hr hlocks dL_law_1957

set_option maxHeartbeats 4000000 in
set_option maxRecDepth 100000 in
theorem lw_case32 {p : Program} {e : Env} {s : State} {m : MethodId} {below : List Frame} {meth : Method} {c : Code} (l : Launch) {b : Nat} {xs : Nat → Int32} {dC : Nat → ClassId} {dI : Nat → Nat → Nat} (C0 : lw_At p s m meth c b 6 xs) {x0 tp nw dr rd sc sk fl ps sh nm nb dm db ss m0 mnw mhd mas mps msf mdt mhdd masd mpsd msfd mkp mtp mld mmd men mil mqu mbx : Nat} {kB kF kG kI kI2 kI3 kI4 kI5 kJ kJ2 kJ3 kJ4 kJ5 kZ kY : ClassId} {H : Heap} {locs : List Loc} {ls : Array Slot} (hK : va_K (dC, dI) vwCl [(kB, .byte), (kF, .object RX1), (kG, .object RX1), (kI, .int), (kI2, .int), (kI3, .int), (kI4, .int), (kI5, .int), (kJ, .long), (kJ2, .long), (kJ3, .long), (kJ4, .long), (kJ5, .long), (kZ, .boolean), (kY, .byte)] s) (hP : va_P (dC, dI) vwCl [(x0, .inr (6, [.ref tp, .int 0, .ref nw, .ref dr, .ref rd, .ref sc, .ref sk, .ref fl, .ref ps, .int 0, .int 0, .ref sh])), (tp, .inl (kB, 400, .inl (fun _ => 0))), (nw, .inr (1, [.ref nm, .ref nb, .int 0, .int 0, .int 0])), (dr, .inr (1, [.ref dm, .ref db, .int 0, .int 0, .int 0])), (rd, .inr (4, [.ref tp, .int 0, .int 0, .int 0, .int 0, .int 0])), (sc, .inr (5, [.ref nw, .ref ss, .int 0, .int (-1), .int 0, .int 0, .int 0, .int 0, .int 0])), (ps, .inl (kF, 10, .inr (.inr (.inr (.inr (fun _ => none)))))), (sh, .inl (kG, 2, .inr (.inr (.inr (.inr (fun _ => none)))))), (m0, .inr (7, [.ref mnw, .ref mhd, .ref mas, .ref mps, .ref msf, .ref mdt, .ref mhdd, .ref masd, .ref mpsd, .ref msfd, .ref mkp, .int 0, .ref mtp, .int 0, .int 0, .int 0, .int 0, .ref mld, .int 0, .ref mmd, .ref men, .ref mil, .ref mqu, .int 0, .int 0, .ref mbx])), (mnw, .inl (kI, 99, .inl (fun _ => 0))), (mhd, .inl (kI2, 99, .inl (fun _ => 0))), (mas, .inl (kI3, 99, .inl (fun _ => 0))), (mps, .inl (kI4, 990, .inl (fun _ => 0))), (msf, .inl (kI5, 198, .inl (fun _ => 0))), (mdt, .inl (kJ, 640, .inr (.inl (fun _ => 0)))), (mhdd, .inl (kJ2, 640, .inr (.inl (fun _ => 0)))), (masd, .inl (kJ3, 640, .inr (.inl (fun _ => 0)))), (mpsd, .inl (kJ4, 6400, .inr (.inl (fun _ => 0)))), (msfd, .inl (kJ5, 1280, .inr (.inl (fun _ => 0)))), (mkp, .inl (kZ, 2, .inl (fun _ => 0))), (mtp, .inl (kY, 400, .inl (fun _ => 0)))] H) (hD : va_D (fun q : Nat => s.heap.size ≤ q) [(x0, .inr (6, [.ref tp, .int 0, .ref nw, .ref dr, .ref rd, .ref sc, .ref sk, .ref fl, .ref ps, .int 0, .int 0, .ref sh])), (tp, .inl (kB, 400, .inl (fun _ => 0))), (nw, .inr (1, [.ref nm, .ref nb, .int 0, .int 0, .int 0])), (dr, .inr (1, [.ref dm, .ref db, .int 0, .int 0, .int 0])), (rd, .inr (4, [.ref tp, .int 0, .int 0, .int 0, .int 0, .int 0])), (sc, .inr (5, [.ref nw, .ref ss, .int 0, .int (-1), .int 0, .int 0, .int 0, .int 0, .int 0])), (ps, .inl (kF, 10, .inr (.inr (.inr (.inr (fun _ => none)))))), (sh, .inl (kG, 2, .inr (.inr (.inr (.inr (fun _ => none)))))), (m0, .inr (7, [.ref mnw, .ref mhd, .ref mas, .ref mps, .ref msf, .ref mdt, .ref mhdd, .ref masd, .ref mpsd, .ref msfd, .ref mkp, .int 0, .ref mtp, .int 0, .int 0, .int 0, .int 0, .ref mld, .int 0, .ref mmd, .ref men, .ref mil, .ref mqu, .int 0, .int 0, .ref mbx])), (mnw, .inl (kI, 99, .inl (fun _ => 0))), (mhd, .inl (kI2, 99, .inl (fun _ => 0))), (mas, .inl (kI3, 99, .inl (fun _ => 0))), (mps, .inl (kI4, 990, .inl (fun _ => 0))), (msf, .inl (kI5, 198, .inl (fun _ => 0))), (mdt, .inl (kJ, 640, .inr (.inl (fun _ => 0)))), (mhdd, .inl (kJ2, 640, .inr (.inl (fun _ => 0)))), (masd, .inl (kJ3, 640, .inr (.inl (fun _ => 0)))), (mpsd, .inl (kJ4, 6400, .inr (.inl (fun _ => 0)))), (msfd, .inl (kJ5, 1280, .inr (.inl (fun _ => 0)))), (mkp, .inl (kZ, 2, .inl (fun _ => 0))), (mtp, .inl (kY, 400, .inl (fun _ => 0)))]) (hS : va_S (fun q : Nat => s.heap.size ≤ q) s.heap H locs) (hl : lv_has ls 4 [(3, .int 0), (2, .ref m0), (1, .ref x0), (0, .ref b)]) : W p l e room_1 s m #[Value.ref b] below meth c H locs 110 27528 (lw_Z below #[Value.ref b] s) (F0 m 1311 ls []) := by
  obtain ⟨hx, hb, hr, hml, hown, htl, hX, hbl, hlocks, hgv⟩ := id C0
  have hb : c.code = cL_law := hb
  have hown : s.vm.findClass RL = some m.cls := hown
  have hts : ∀ w ∈ pw, w.before #[Value.ref b] s = true := fun w h => htl w (pw_tbl h)
  have hN : xN s := xN_of htl
  have hA : ∀ q : Nat, s.heap.size ≤ q → (fun q : Nat => s.heap.size ≤ q) q := fun _ h => h
  have hbA : ¬ (fun q : Nat => s.heap.size ≤ q) b := Nat.not_le.mpr hbl
  refine lv_aload_n hx hb dL_law_1311 rfl (lv_at hl 2 rfl) ?_
  refine lv_aload_n hx hb dL_law_1312 rfl (lv_at hl 3 rfl) ?_
  refine lv_iload_n hx hb dL_law_1313 rfl (lv_at hl 0 rfl) ?_
  refine lv_iconst (v := 1) hx hb dL_law_1314 (by decide +kernel) ?_
  refine lv_iadd hx hb dL_law_1315 ?_
  refine lv_topi (fun z1 ez1 => ?_)
  obtain rfl : z1 = 1 := ez1.trans (by decide +kernel)
  refine va_sld hx hb hX hbl hbA hS (in_d (by decide +kernel)) dL_law_1316 ?_
  refine lv_aload_n hx hb dL_law_1317 rfl (lv_at hl 3 rfl) ?_
  refine lv_iload_n hx hb dL_law_1318 rfl (lv_at hl 0 rfl) ?_
  refine lv_iconst (v := 2) hx hb dL_law_1319 (by decide +kernel) ?_
  refine lv_iadd hx hb dL_law_1320 ?_
  refine lv_topi (fun z2 ez2 => ?_)
  obtain rfl : z2 = 2 := ez2.trans (by decide +kernel)
  refine va_sld hx hb hX hbl hbA hS (in_d (by decide +kernel)) dL_law_1321 ?_
  refine lv_aload_n hx hb dL_law_1322 rfl (lv_at hl 3 rfl) ?_
  refine lv_iload_n hx hb dL_law_1323 rfl (lv_at hl 0 rfl) ?_
  refine lv_iconst (v := 3) hx hb dL_law_1324 (by decide +kernel) ?_
  refine lv_iadd hx hb dL_law_1325 ?_
  refine lv_topi (fun z3 ez3 => ?_)
  obtain rfl : z3 = 3 := ez3.trans (by decide +kernel)
  refine va_sld hx hb hX hbl hbA hS (in_d (by decide +kernel)) dL_law_1326 ?_
  have hPc := hP.sub (ws' := [(x0, .inr (6, [.ref tp, .int 0, .ref nw, .ref dr, .ref rd, .ref sc, .ref sk, .ref fl, .ref ps, .int 0, .int 0, .ref sh])), (nw, .inr (1, [.ref nm, .ref nb, .int 0, .int 0, .int 0]))]) [0, 2] rfl
  have hDc := hD.sub (ws' := [(x0, .inr (6, [.ref tp, .int 0, .ref nw, .ref dr, .ref rd, .ref sc, .ref sk, .ref fl, .ref ps, .int 0, .int 0, .ref sh])), (nw, .inr (1, [.ref nm, .ref nb, .int 0, .int 0, .int 0]))]) [0, 2] (by decide) rfl
  have hKc := hK.sub (tys' := []) [] rfl
  refine ro_i (va_runV (As := [.int (xs (1 : Int32).toNatClampNeg), .int (xs (2 : Int32).toNatClampNeg), .int (xs (3 : Int32).toNatClampNeg)]) (rest := []) ⟨hx, hb, hml, hown, hts⟩ (c_X6_gap l dC dI x0 tp nw dr rd sc sk fl ps sh nm nb H.size (xs (1 : Int32).toNatClampNeg) (xs (2 : Int32).toNatClampNeg) (xs (3 : Int32).toNatClampNeg) ) (cwV 3 hts (gV pq1036 pq1037 pq1038 pq74 pq1039) rfl rfl rfl (by decide +kernel) ⟨(Nat.le_of_ble_eq_true rfl), (Nat.le_of_ble_eq_true rfl)⟩) (pc_V hPc hDc hKc hN (va_recv hK hP (ci := 6) (q0 := 0) rfl rfl)) rfl rfl hl.1 rfl (lv_room (Nat.le_of_ble_eq_true rfl)) dL_law_1327 ⟨(Nat.le_of_ble_eq_true rfl), (Nat.le_of_ble_eq_true rfl)⟩) hS hP (fun r4 H locs hr4 hP hS => ?_)
  subst hr4
  refine lv_aload_n hx hb dL_law_1330 rfl (lv_at hl 1 rfl) ?_
  refine lv_aload_n hx hb dL_law_1331 rfl (lv_at hl 3 rfl) ?_
  refine lv_iload_n hx hb dL_law_1332 rfl (lv_at hl 0 rfl) ?_
  refine lv_iconst (v := 1) hx hb dL_law_1333 (by decide +kernel) ?_
  refine lv_iadd hx hb dL_law_1334 ?_
  refine lv_topi (fun z5 ez5 => ?_)
  obtain rfl : z5 = 1 := ez5.trans (by decide +kernel)
  refine va_sld hx hb hX hbl hbA hS (in_d (by decide +kernel)) dL_law_1335 ?_
  refine lv_aload_n hx hb dL_law_1336 rfl (lv_at hl 3 rfl) ?_
  refine lv_iload_n hx hb dL_law_1337 rfl (lv_at hl 0 rfl) ?_
  refine lv_iconst (v := 2) hx hb dL_law_1338 (by decide +kernel) ?_
  refine lv_iadd hx hb dL_law_1339 ?_
  refine lv_topi (fun z6 ez6 => ?_)
  obtain rfl : z6 = 2 := ez6.trans (by decide +kernel)
  refine va_sld hx hb hX hbl hbA hS (in_d (by decide +kernel)) dL_law_1340 ?_
  refine lv_aload_n hx hb dL_law_1341 rfl (lv_at hl 3 rfl) ?_
  refine lv_iload_n hx hb dL_law_1342 rfl (lv_at hl 0 rfl) ?_
  refine lv_iconst (v := 3) hx hb dL_law_1343 (by decide +kernel) ?_
  refine lv_iadd hx hb dL_law_1344 ?_
  refine lv_topi (fun z7 ez7 => ?_)
  obtain rfl : z7 = 3 := ez7.trans (by decide +kernel)
  refine va_sld hx hb hX hbl hbA hS (in_d (by decide +kernel)) dL_law_1345 ?_
  have hPc := hP.sub (ws' := [(m0, .inr (7, [.ref mnw, .ref mhd, .ref mas, .ref mps, .ref msf, .ref mdt, .ref mhdd, .ref masd, .ref mpsd, .ref msfd, .ref mkp, .int 0, .ref mtp, .int 0, .int 0, .int 0, .int 0, .ref mld, .int 0, .ref mmd, .ref men, .ref mil, .ref mqu, .int 0, .int 0, .ref mbx])), (mnw, .inl (kI, 99, .inl (fun _ => 0)))]) [8, 9] rfl
  have hDc := hD.sub (ws' := [(m0, .inr (7, [.ref mnw, .ref mhd, .ref mas, .ref mps, .ref msf, .ref mdt, .ref mhdd, .ref masd, .ref mpsd, .ref msfd, .ref mkp, .int 0, .ref mtp, .int 0, .int 0, .int 0, .int 0, .ref mld, .int 0, .ref mmd, .ref men, .ref mil, .ref mqu, .int 0, .int 0, .ref mbx])), (mnw, .inl (kI, 99, .inl (fun _ => 0)))]) [8, 9] (by decide) rfl
  have hKc := hK.sub (tys' := [(kI, .int)]) [3] rfl
  refine ro_i (va_runV (As := [.int (xs (1 : Int32).toNatClampNeg), .int (xs (2 : Int32).toNatClampNeg), .int (xs (3 : Int32).toNatClampNeg)]) (rest := [.int (-1)]) ⟨hx, hb, hml, hown, hts⟩ (c_X7_gap l dC dI m0 mnw mhd mas mps msf mdt mhdd masd mpsd msfd mkp mtp mld mmd men mil mqu mbx kI H.size (xs (1 : Int32).toNatClampNeg) (xs (2 : Int32).toNatClampNeg) (xs (3 : Int32).toNatClampNeg) ) (cwV 3 hts (gV pq1625 pq1626 pq1627 pq81 pq1628) rfl rfl rfl (by decide +kernel) ⟨(Nat.le_of_ble_eq_true rfl), (Nat.le_of_ble_eq_true rfl)⟩) (pc_V hPc hDc hKc hN (va_recv hK hP (ci := 7) (q0 := 8) rfl rfl)) rfl rfl hl.1 rfl (lv_room (Nat.le_of_ble_eq_true rfl)) dL_law_1346 ⟨(Nat.le_of_ble_eq_true rfl), (Nat.le_of_ble_eq_true rfl)⟩) hS hP (fun r8 H locs hr8 hP hS => ?_)
  subst hr8
  refine lv_icmp_eq (tgt := 1950) hx hb dL_law_1349 (by decide) (fun c9 => ?_) (fun c9 => absurd (by decide +kernel) c9)
  refine lv_iinc (v := 6) (lv' := [(3, .int 6), (2, .ref m0), (1, .ref x0), (0, .ref b)]) hx hb dL_law_1950 hl (k := 0) rfl (by decide +kernel) (by decide) rfl (fun ls hl => ?_)
  refine lv_goto (tgt := 18) hx hb dL_law_1953 (by decide) ?_
  refine lv_iload_n hx hb dL_law_18 rfl (lv_at hl 0 rfl) ?_
  refine lv_aload_n hx hb dL_law_19 rfl (lv_at hl 3 rfl) ?_
  refine va_slen hx hb hX hbl hbA hS dL_law_20 ?_
  refine lv_bipush (v := 6) hx hb dL_law_21 (by decide +kernel) ?_
  refine lv_isub hx hb dL_law_23 ?_
  refine lv_topi (fun z10 ez10 => ?_)
  obtain rfl : z10 = 0 := ez10.trans (by decide +kernel)
  refine lv_icmp_gt (tgt := 1956) hx hb dL_law_24 (by decide) (fun c11 => ?_) (fun c11 => absurd (by decide +kernel) c11)
  refine lv_iconst (v := 1) hx hb dL_law_1956 (by decide +kernel) ?_
  refine va_forget (fun q hq => hS.2.2 q hq) ?_
  refine W.widen (k := 600000) (n := 7302249) (Nat.le_of_ble_eq_true rfl) (Nat.le_of_ble_eq_true rfl) ?_
  refine W.base ?_
  exact lw_ret (Drawn.sameBut.refl s.drawn lw_cs) hx hb hr hlocks dL_law_1957
