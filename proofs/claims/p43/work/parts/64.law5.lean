/-! the law's instructions -/
theorem dL_law_932 : decode cL_law 932 = .ok (.bipush 11, 2) := by decide +kernel
theorem dL_law_934 : decode cL_law 934 = .ok (.ishr, 1) := by decide +kernel
theorem dL_law_935 : decode cL_law 935 = .ok (.aload_n 2, 1) := by decide +kernel
theorem dL_law_936 : decode cL_law 936 = .ok (.iload 11, 2) := by decide +kernel
theorem dL_law_938 : decode cL_law 938 = .ok (.laload, 1) := by decide +kernel
theorem dL_law_939 : decode cL_law 939 = .ok (.invokestatic 12, 3) := by decide +kernel
theorem dL_law_942 : decode cL_law 942 = .ok (.invokestatic 74, 3) := by decide +kernel
theorem dL_law_945 : decode cL_law 945 = .ok (.istore 16, 2) := by decide +kernel
theorem dL_law_947 : decode cL_law 947 = .ok (.aload_n 2, 1) := by decide +kernel
theorem dL_law_948 : decode cL_law 948 = .ok (.iload 11, 2) := by decide +kernel
theorem dL_law_950 : decode cL_law 950 = .ok (.laload, 1) := by decide +kernel
theorem dL_law_951 : decode cL_law 951 = .ok (.iload 16, 2) := by decide +kernel
theorem dL_law_953 : decode cL_law 953 = .ok (.invokestatic 24, 3) := by decide +kernel
theorem dL_law_956 : decode cL_law 956 = .ok (.ifCond .ne 16, 3) := by decide +kernel
theorem dL_law_959 : decode cL_law 959 = .ok (.aload_n 3, 1) := by decide +kernel
theorem dL_law_960 : decode cL_law 960 = .ok (.iload 12, 2) := by decide +kernel
theorem dL_law_962 : decode cL_law 962 = .ok (.iconst 1, 1) := by decide +kernel
theorem dL_law_963 : decode cL_law 963 = .ok (.isub, 1) := by decide +kernel
theorem dL_law_964 : decode cL_law 964 = .ok (.iaload, 1) := by decide +kernel
theorem dL_law_965 : decode cL_law 965 = .ok (.ifCond .le 7, 3) := by decide +kernel
theorem dL_law_968 : decode cL_law 968 = .ok (.iconst 1, 1) := by decide +kernel
theorem dL_law_969 : decode cL_law 969 = .ok (.goto 4, 3) := by decide +kernel
theorem dL_law_972 : decode cL_law 972 = .ok (.iconst 0, 1) := by decide +kernel
theorem dL_law_973 : decode cL_law 973 = .ok (.istore 17, 2) := by decide +kernel
theorem dL_law_975 : decode cL_law 975 = .ok (.aload_n 1, 1) := by decide +kernel
theorem dL_law_976 : decode cL_law 976 = .ok (.iload 11, 2) := by decide +kernel
theorem dL_law_978 : decode cL_law 978 = .ok (.iload 16, 2) := by decide +kernel
theorem dL_law_980 : decode cL_law 980 = .ok (.iload 12, 2) := by decide +kernel
theorem dL_law_982 : decode cL_law 982 = .ok (.invokevirtual 162, 3) := by decide +kernel
theorem dL_law_985 : decode cL_law 985 = .ok (.iload 17, 2) := by decide +kernel
theorem dL_law_987 : decode cL_law 987 = .ok (.ifCond .eq 14, 3) := by decide +kernel
theorem dL_law_990 : decode cL_law 990 = .ok (.aload_n 3, 1) := by decide +kernel
theorem dL_law_991 : decode cL_law 991 = .ok (.iload 12, 2) := by decide +kernel
theorem dL_law_993 : decode cL_law 993 = .ok (.iconst 1, 1) := by decide +kernel
theorem dL_law_994 : decode cL_law 994 = .ok (.isub, 1) := by decide +kernel
theorem dL_law_995 : decode cL_law 995 = .ok (.iaload, 1) := by decide +kernel
theorem dL_law_996 : decode cL_law 996 = .ok (.iconst 1, 1) := by decide +kernel
theorem dL_law_997 : decode cL_law 997 = .ok (.isub, 1) := by decide +kernel
theorem dL_law_998 : decode cL_law 998 = .ok (.goto 5, 3) := by decide +kernel
theorem dL_law_1001 : decode cL_law 1001 = .ok (.bipush (-3), 2) := by decide +kernel
theorem dL_law_1003 : decode cL_law 1003 = .ok (.if_icmp .ne 7, 3) := by decide +kernel
theorem dL_law_1006 : decode cL_law 1006 = .ok (.iconst 1, 1) := by decide +kernel
theorem dL_law_1007 : decode cL_law 1007 = .ok (.goto 4, 3) := by decide +kernel
theorem dL_law_1010 : decode cL_law 1010 = .ok (.iconst 0, 1) := by decide +kernel
theorem dL_law_1011 : decode cL_law 1011 = .ok (.istore 14, 2) := by decide +kernel
theorem dL_law_1013 : decode cL_law 1013 = .ok (.aload_n 3, 1) := by decide +kernel
theorem dL_law_1014 : decode cL_law 1014 = .ok (.iload 12, 2) := by decide +kernel
theorem dL_law_1016 : decode cL_law 1016 = .ok (.iconst 1, 1) := by decide +kernel
theorem dL_law_1017 : decode cL_law 1017 = .ok (.isub, 1) := by decide +kernel
theorem dL_law_1018 : decode cL_law 1018 = .ok (.dup2, 1) := by decide +kernel
theorem dL_law_1019 : decode cL_law 1019 = .ok (.iaload, 1) := by decide +kernel
theorem dL_law_1020 : decode cL_law 1020 = .ok (.iload 17, 2) := by decide +kernel
theorem dL_law_1022 : decode cL_law 1022 = .ok (.ifCond .eq 7, 3) := by decide +kernel
theorem dL_law_1025 : decode cL_law 1025 = .ok (.iconst 1, 1) := by decide +kernel
theorem dL_law_1026 : decode cL_law 1026 = .ok (.goto 4, 3) := by decide +kernel
theorem dL_law_1029 : decode cL_law 1029 = .ok (.iconst 0, 1) := by decide +kernel
theorem dL_law_1030 : decode cL_law 1030 = .ok (.isub, 1) := by decide +kernel
theorem dL_law_1031 : decode cL_law 1031 = .ok (.iastore, 1) := by decide +kernel
theorem dL_law_1032 : decode cL_law 1032 = .ok (.aload_n 2, 1) := by decide +kernel
theorem dL_law_1033 : decode cL_law 1033 = .ok (.iload 11, 2) := by decide +kernel
theorem dL_law_1035 : decode cL_law 1035 = .ok (.iload 17, 2) := by decide +kernel
theorem dL_law_1037 : decode cL_law 1037 = .ok (.ifCond .eq 17, 3) := by decide +kernel
theorem dL_law_1040 : decode cL_law 1040 = .ok (.aload_n 2, 1) := by decide +kernel
theorem dL_law_1041 : decode cL_law 1041 = .ok (.iload 11, 2) := by decide +kernel
theorem dL_law_1043 : decode cL_law 1043 = .ok (.laload, 1) := by decide +kernel
theorem dL_law_1044 : decode cL_law 1044 = .ok (.iload 16, 2) := by decide +kernel
theorem dL_law_1046 : decode cL_law 1046 = .ok (.iload 12, 2) := by decide +kernel
theorem dL_law_1048 : decode cL_law 1048 = .ok (.invokestatic 28, 3) := by decide +kernel
theorem dL_law_1051 : decode cL_law 1051 = .ok (.goto 7, 3) := by decide +kernel
theorem dL_law_1054 : decode cL_law 1054 = .ok (.aload_n 2, 1) := by decide +kernel
theorem dL_law_1055 : decode cL_law 1055 = .ok (.iload 11, 2) := by decide +kernel
theorem dL_law_1057 : decode cL_law 1057 = .ok (.laload, 1) := by decide +kernel
theorem dL_law_1058 : decode cL_law 1058 = .ok (.lastore, 1) := by decide +kernel
theorem dL_law_1059 : decode cL_law 1059 = .ok (.goto 675, 3) := by decide +kernel
theorem dL_law_1062 : decode cL_law 1062 = .ok (.iload 10, 2) := by decide +kernel
theorem dL_law_1064 : decode cL_law 1064 = .ok (.bipush 14, 2) := by decide +kernel
theorem dL_law_1066 : decode cL_law 1066 = .ok (.if_icmp .ne 116, 3) := by decide +kernel
theorem dL_law_1069 : decode cL_law 1069 = .ok (.iload 9, 2) := by decide +kernel
theorem dL_law_1071 : decode cL_law 1071 = .ok (.bipush 11, 2) := by decide +kernel
theorem dL_law_1073 : decode cL_law 1073 = .ok (.ishr, 1) := by decide +kernel
theorem dL_law_1074 : decode cL_law 1074 = .ok (.aload_n 2, 1) := by decide +kernel
theorem dL_law_1075 : decode cL_law 1075 = .ok (.iload 11, 2) := by decide +kernel
theorem dL_law_1077 : decode cL_law 1077 = .ok (.laload, 1) := by decide +kernel
theorem dL_law_1078 : decode cL_law 1078 = .ok (.invokestatic 12, 3) := by decide +kernel
theorem dL_law_1081 : decode cL_law 1081 = .ok (.invokestatic 74, 3) := by decide +kernel
theorem dL_law_1084 : decode cL_law 1084 = .ok (.istore 16, 2) := by decide +kernel
theorem dL_law_1086 : decode cL_law 1086 = .ok (.aload_n 2, 1) := by decide +kernel
theorem dL_law_1087 : decode cL_law 1087 = .ok (.iload 11, 2) := by decide +kernel
theorem dL_law_1089 : decode cL_law 1089 = .ok (.laload, 1) := by decide +kernel
theorem dL_law_1090 : decode cL_law 1090 = .ok (.iload 16, 2) := by decide +kernel
theorem dL_law_1092 : decode cL_law 1092 = .ok (.invokestatic 24, 3) := by decide +kernel
theorem dL_law_1095 : decode cL_law 1095 = .ok (.istore 17, 2) := by decide +kernel
theorem dL_law_1097 : decode cL_law 1097 = .ok (.iload 17, 2) := by decide +kernel
theorem dL_law_1099 : decode cL_law 1099 = .ok (.ifCond .le 18, 3) := by decide +kernel
theorem dL_law_1102 : decode cL_law 1102 = .ok (.aload_n 3, 1) := by decide +kernel
theorem dL_law_1103 : decode cL_law 1103 = .ok (.iload 17, 2) := by decide +kernel
theorem dL_law_1105 : decode cL_law 1105 = .ok (.iconst 1, 1) := by decide +kernel
theorem dL_law_1106 : decode cL_law 1106 = .ok (.isub, 1) := by decide +kernel
theorem dL_law_1107 : decode cL_law 1107 = .ok (.iaload, 1) := by decide +kernel
theorem dL_law_1108 : decode cL_law 1108 = .ok (.bipush 99, 2) := by decide +kernel
theorem dL_law_1110 : decode cL_law 1110 = .ok (.if_icmp .ge 7, 3) := by decide +kernel
theorem dL_law_1113 : decode cL_law 1113 = .ok (.iconst 1, 1) := by decide +kernel
theorem dL_law_1114 : decode cL_law 1114 = .ok (.goto 4, 3) := by decide +kernel
theorem dL_law_1117 : decode cL_law 1117 = .ok (.iconst 0, 1) := by decide +kernel
theorem dL_law_1118 : decode cL_law 1118 = .ok (.istore 18, 2) := by decide +kernel
theorem dL_law_1120 : decode cL_law 1120 = .ok (.aload_n 1, 1) := by decide +kernel
theorem dL_law_1121 : decode cL_law 1121 = .ok (.iload 11, 2) := by decide +kernel
theorem dL_law_1123 : decode cL_law 1123 = .ok (.iload 16, 2) := by decide +kernel
theorem dL_law_1125 : decode cL_law 1125 = .ok (.invokevirtual 172, 3) := by decide +kernel
theorem dL_law_1128 : decode cL_law 1128 = .ok (.iload 18, 2) := by decide +kernel
theorem dL_law_1130 : decode cL_law 1130 = .ok (.ifCond .eq 8, 3) := by decide +kernel
theorem dL_law_1133 : decode cL_law 1133 = .ok (.iload 17, 2) := by decide +kernel
theorem dL_law_1135 : decode cL_law 1135 = .ok (.goto 5, 3) := by decide +kernel
theorem dL_law_1138 : decode cL_law 1138 = .ok (.bipush (-3), 2) := by decide +kernel
theorem dL_law_1140 : decode cL_law 1140 = .ok (.if_icmp .ne 7, 3) := by decide +kernel
theorem dL_law_1143 : decode cL_law 1143 = .ok (.iconst 1, 1) := by decide +kernel
theorem dL_law_1144 : decode cL_law 1144 = .ok (.goto 4, 3) := by decide +kernel
theorem dL_law_1147 : decode cL_law 1147 = .ok (.iconst 0, 1) := by decide +kernel
theorem dL_law_1148 : decode cL_law 1148 = .ok (.istore 14, 2) := by decide +kernel
theorem dL_law_1150 : decode cL_law 1150 = .ok (.iload 18, 2) := by decide +kernel
theorem dL_law_1152 : decode cL_law 1152 = .ok (.ifCond .eq 27, 3) := by decide +kernel
theorem dL_law_1155 : decode cL_law 1155 = .ok (.aload_n 3, 1) := by decide +kernel
theorem dL_law_1156 : decode cL_law 1156 = .ok (.iload 17, 2) := by decide +kernel
theorem dL_law_1158 : decode cL_law 1158 = .ok (.iconst 1, 1) := by decide +kernel
theorem dL_law_1159 : decode cL_law 1159 = .ok (.isub, 1) := by decide +kernel
theorem dL_law_1160 : decode cL_law 1160 = .ok (.dup2, 1) := by decide +kernel
theorem dL_law_1161 : decode cL_law 1161 = .ok (.iaload, 1) := by decide +kernel
theorem dL_law_1162 : decode cL_law 1162 = .ok (.iconst 1, 1) := by decide +kernel
theorem dL_law_1163 : decode cL_law 1163 = .ok (.iadd, 1) := by decide +kernel
theorem dL_law_1164 : decode cL_law 1164 = .ok (.iastore, 1) := by decide +kernel
theorem dL_law_1165 : decode cL_law 1165 = .ok (.aload_n 2, 1) := by decide +kernel
theorem dL_law_1166 : decode cL_law 1166 = .ok (.iload 11, 2) := by decide +kernel
theorem dL_law_1168 : decode cL_law 1168 = .ok (.aload_n 2, 1) := by decide +kernel
theorem dL_law_1169 : decode cL_law 1169 = .ok (.iload 11, 2) := by decide +kernel
theorem dL_law_1171 : decode cL_law 1171 = .ok (.laload, 1) := by decide +kernel
theorem dL_law_1172 : decode cL_law 1172 = .ok (.iload 16, 2) := by decide +kernel
theorem dL_law_1174 : decode cL_law 1174 = .ok (.iconst 0, 1) := by decide +kernel
theorem dL_law_1175 : decode cL_law 1175 = .ok (.invokestatic 28, 3) := by decide +kernel
theorem dL_law_1178 : decode cL_law 1178 = .ok (.lastore, 1) := by decide +kernel
theorem dL_law_1179 : decode cL_law 1179 = .ok (.goto 555, 3) := by decide +kernel
theorem dL_law_1182 : decode cL_law 1182 = .ok (.iload 10, 2) := by decide +kernel
theorem dL_law_1184 : decode cL_law 1184 = .ok (.bipush 15, 2) := by decide +kernel
theorem dL_law_1186 : decode cL_law 1186 = .ok (.if_icmp .ne 104, 3) := by decide +kernel
theorem dL_law_1189 : decode cL_law 1189 = .ok (.iload 9, 2) := by decide +kernel
theorem dL_law_1191 : decode cL_law 1191 = .ok (.bipush 11, 2) := by decide +kernel
theorem dL_law_1193 : decode cL_law 1193 = .ok (.ishr, 1) := by decide +kernel
theorem dL_law_1194 : decode cL_law 1194 = .ok (.aload_n 2, 1) := by decide +kernel
theorem dL_law_1195 : decode cL_law 1195 = .ok (.iload 11, 2) := by decide +kernel
theorem dL_law_1197 : decode cL_law 1197 = .ok (.laload, 1) := by decide +kernel
theorem dL_law_1198 : decode cL_law 1198 = .ok (.invokestatic 12, 3) := by decide +kernel
theorem dL_law_1201 : decode cL_law 1201 = .ok (.invokestatic 74, 3) := by decide +kernel
theorem dL_law_1204 : decode cL_law 1204 = .ok (.istore 16, 2) := by decide +kernel
theorem dL_law_1206 : decode cL_law 1206 = .ok (.iload 9, 2) := by decide +kernel
theorem dL_law_1208 : decode cL_law 1208 = .ok (.bipush 15, 2) := by decide +kernel
theorem dL_law_1210 : decode cL_law 1210 = .ok (.ishr, 1) := by decide +kernel
theorem dL_law_1211 : decode cL_law 1211 = .ok (.aload_n 2, 1) := by decide +kernel
theorem dL_law_1212 : decode cL_law 1212 = .ok (.iload 11, 2) := by decide +kernel
theorem dL_law_1214 : decode cL_law 1214 = .ok (.laload, 1) := by decide +kernel
theorem dL_law_1215 : decode cL_law 1215 = .ok (.invokestatic 12, 3) := by decide +kernel
theorem dL_law_1218 : decode cL_law 1218 = .ok (.invokestatic 74, 3) := by decide +kernel
theorem dL_law_1221 : decode cL_law 1221 = .ok (.istore 17, 2) := by decide +kernel
theorem dL_law_1223 : decode cL_law 1223 = .ok (.aload_n 2, 1) := by decide +kernel
theorem dL_law_1224 : decode cL_law 1224 = .ok (.iload 11, 2) := by decide +kernel
theorem dL_law_1226 : decode cL_law 1226 = .ok (.aload_n 2, 1) := by decide +kernel
theorem dL_law_1227 : decode cL_law 1227 = .ok (.iload 11, 2) := by decide +kernel
theorem dL_law_1229 : decode cL_law 1229 = .ok (.laload, 1) := by decide +kernel
theorem dL_law_1230 : decode cL_law 1230 = .ok (.iload 16, 2) := by decide +kernel
theorem dL_law_1232 : decode cL_law 1232 = .ok (.aload_n 2, 1) := by decide +kernel
theorem dL_law_1233 : decode cL_law 1233 = .ok (.iload 11, 2) := by decide +kernel
theorem dL_law_1235 : decode cL_law 1235 = .ok (.laload, 1) := by decide +kernel
theorem dL_law_1236 : decode cL_law 1236 = .ok (.iload 17, 2) := by decide +kernel
theorem dL_law_1238 : decode cL_law 1238 = .ok (.invokestatic 24, 3) := by decide +kernel
theorem dL_law_1241 : decode cL_law 1241 = .ok (.invokestatic 28, 3) := by decide +kernel
theorem dL_law_1244 : decode cL_law 1244 = .ok (.iload 17, 2) := by decide +kernel
theorem dL_law_1246 : decode cL_law 1246 = .ok (.aload_n 2, 1) := by decide +kernel
theorem dL_law_1247 : decode cL_law 1247 = .ok (.iload 11, 2) := by decide +kernel
theorem dL_law_1249 : decode cL_law 1249 = .ok (.laload, 1) := by decide +kernel
theorem dL_law_1250 : decode cL_law 1250 = .ok (.iload 16, 2) := by decide +kernel
theorem dL_law_1252 : decode cL_law 1252 = .ok (.invokestatic 24, 3) := by decide +kernel
theorem dL_law_1255 : decode cL_law 1255 = .ok (.invokestatic 28, 3) := by decide +kernel
theorem dL_law_1258 : decode cL_law 1258 = .ok (.lastore, 1) := by decide +kernel
theorem dL_law_1259 : decode cL_law 1259 = .ok (.aload_n 1, 1) := by decide +kernel
theorem dL_law_1260 : decode cL_law 1260 = .ok (.iload 11, 2) := by decide +kernel
theorem dL_law_1262 : decode cL_law 1262 = .ok (.iload 16, 2) := by decide +kernel
theorem dL_law_1264 : decode cL_law 1264 = .ok (.iload 17, 2) := by decide +kernel
theorem dL_law_1266 : decode cL_law 1266 = .ok (.invokevirtual 175, 3) := by decide +kernel
theorem dL_law_1269 : decode cL_law 1269 = .ok (.aload_n 3, 1) := by decide +kernel
theorem dL_law_1270 : decode cL_law 1270 = .ok (.aload_n 2, 1) := by decide +kernel
theorem dL_law_1271 : decode cL_law 1271 = .ok (.iload 11, 2) := by decide +kernel
theorem dL_law_1273 : decode cL_law 1273 = .ok (.laload, 1) := by decide +kernel
theorem dL_law_1274 : decode cL_law 1274 = .ok (.invokestatic 93, 3) := by decide +kernel
theorem dL_law_1277 : decode cL_law 1277 = .ok (.if_icmp .ne 7, 3) := by decide +kernel
theorem dL_law_1280 : decode cL_law 1280 = .ok (.iconst 1, 1) := by decide +kernel
theorem dL_law_1281 : decode cL_law 1281 = .ok (.goto 4, 3) := by decide +kernel
theorem dL_law_1284 : decode cL_law 1284 = .ok (.iconst 0, 1) := by decide +kernel
theorem dL_law_1285 : decode cL_law 1285 = .ok (.istore 14, 2) := by decide +kernel
theorem dL_law_1287 : decode cL_law 1287 = .ok (.goto 447, 3) := by decide +kernel
theorem dL_law_1290 : decode cL_law 1290 = .ok (.iload 10, 2) := by decide +kernel
theorem dL_law_1292 : decode cL_law 1292 = .ok (.bipush 19, 2) := by decide +kernel
theorem dL_law_1294 : decode cL_law 1294 = .ok (.if_icmp .ge 162, 3) := by decide +kernel
theorem dL_law_1297 : decode cL_law 1297 = .ok (.iload 9, 2) := by decide +kernel
theorem dL_law_1299 : decode cL_law 1299 = .ok (.bipush 11, 2) := by decide +kernel
theorem dL_law_1301 : decode cL_law 1301 = .ok (.ishr, 1) := by decide +kernel
theorem dL_law_1302 : decode cL_law 1302 = .ok (.aload_n 2, 1) := by decide +kernel
theorem dL_law_1303 : decode cL_law 1303 = .ok (.iload 11, 2) := by decide +kernel
theorem dL_law_1305 : decode cL_law 1305 = .ok (.laload, 1) := by decide +kernel
theorem dL_law_1306 : decode cL_law 1306 = .ok (.invokestatic 12, 3) := by decide +kernel
theorem dL_law_1309 : decode cL_law 1309 = .ok (.invokestatic 74, 3) := by decide +kernel
theorem dL_law_1312 : decode cL_law 1312 = .ok (.istore 16, 2) := by decide +kernel
theorem dL_law_1314 : decode cL_law 1314 = .ok (.iload 9, 2) := by decide +kernel
theorem dL_law_1316 : decode cL_law 1316 = .ok (.bipush 11, 2) := by decide +kernel
theorem dL_law_1318 : decode cL_law 1318 = .ok (.ishr, 1) := by decide +kernel
theorem dL_law_1319 : decode cL_law 1319 = .ok (.iconst 4, 1) := by decide +kernel
theorem dL_law_1320 : decode cL_law 1320 = .ok (.invokestatic 74, 3) := by decide +kernel
theorem dL_law_1323 : decode cL_law 1323 = .ok (.istore 17, 2) := by decide +kernel
theorem dL_law_1325 : decode cL_law 1325 = .ok (.iload 10, 2) := by decide +kernel
theorem dL_law_1327 : decode cL_law 1327 = .ok (.bipush 16, 2) := by decide +kernel
theorem dL_law_1329 : decode cL_law 1329 = .ok (.if_icmp .ne 15, 3) := by decide +kernel
theorem dL_law_1332 : decode cL_law 1332 = .ok (.aload_n 2, 1) := by decide +kernel
theorem dL_law_1333 : decode cL_law 1333 = .ok (.iload 11, 2) := by decide +kernel
theorem dL_law_1335 : decode cL_law 1335 = .ok (.laload, 1) := by decide +kernel
theorem dL_law_1336 : decode cL_law 1336 = .ok (.iload 16, 2) := by decide +kernel
theorem dL_law_1338 : decode cL_law 1338 = .ok (.invokestatic 35, 3) := by decide +kernel
theorem dL_law_1341 : decode cL_law 1341 = .ok (.goto 39, 3) := by decide +kernel
theorem dL_law_1344 : decode cL_law 1344 = .ok (.iload 10, 2) := by decide +kernel
theorem dL_law_1346 : decode cL_law 1346 = .ok (.bipush 17, 2) := by decide +kernel
theorem dL_law_1348 : decode cL_law 1348 = .ok (.if_icmp .ne 25, 3) := by decide +kernel
theorem dL_law_1351 : decode cL_law 1351 = .ok (.aload_n 2, 1) := by decide +kernel
theorem dL_law_1352 : decode cL_law 1352 = .ok (.iload 11, 2) := by decide +kernel
theorem dL_law_1354 : decode cL_law 1354 = .ok (.laload, 1) := by decide +kernel
theorem dL_law_1355 : decode cL_law 1355 = .ok (.iload 17, 2) := by decide +kernel
theorem dL_law_1357 : decode cL_law 1357 = .ok (.aload_n 2, 1) := by decide +kernel
theorem dL_law_1358 : decode cL_law 1358 = .ok (.iload 11, 2) := by decide +kernel
theorem dL_law_1360 : decode cL_law 1360 = .ok (.laload, 1) := by decide +kernel
theorem dL_law_1361 : decode cL_law 1361 = .ok (.invokestatic 12, 3) := by decide +kernel
theorem dL_law_1364 : decode cL_law 1364 = .ok (.imul, 1) := by decide +kernel
theorem dL_law_1365 : decode cL_law 1365 = .ok (.iconst 4, 1) := by decide +kernel
theorem dL_law_1366 : decode cL_law 1366 = .ok (.idiv, 1) := by decide +kernel
theorem dL_law_1367 : decode cL_law 1367 = .ok (.invokestatic 35, 3) := by decide +kernel
theorem dL_law_1370 : decode cL_law 1370 = .ok (.goto 10, 3) := by decide +kernel
theorem dL_law_1373 : decode cL_law 1373 = .ok (.aload_n 2, 1) := by decide +kernel
theorem dL_law_1374 : decode cL_law 1374 = .ok (.iload 11, 2) := by decide +kernel
theorem dL_law_1376 : decode cL_law 1376 = .ok (.laload, 1) := by decide +kernel
theorem dL_law_1377 : decode cL_law 1377 = .ok (.invokestatic 32, 3) := by decide +kernel
theorem dL_law_1380 : decode cL_law 1380 = .ok (.lstore 18, 2) := by decide +kernel
theorem dL_law_1382 : decode cL_law 1382 = .ok (.lload 18, 2) := by decide +kernel
theorem dL_law_1384 : decode cL_law 1384 = .ok (.aload_n 2, 1) := by decide +kernel
theorem dL_law_1385 : decode cL_law 1385 = .ok (.iload 11, 2) := by decide +kernel
